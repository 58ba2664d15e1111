section
set_option maxRecDepth 20000 in
set_option maxHeartbeats 1000000 in
theorem kf_X11_isSeen_0 {Q : Int32 → HS → Prop} {v0 : Nat} {v1 : Int32} {S0 S : HS} (h : P_X11_isSeen_0 Q v0 v1 S) (K : K2 S0 S) : P_X11_isSeen_0 (fun r T => Q r T ∧ K2 S0 T) v0 v1 S := by
  delta P_X11_isSeen_0 at h ⊢
  obtain ⟨c1, h⟩ := h
  refine ⟨c1, ?_⟩
  have n2 := k2_ne K c1 (by decide)
  refine ⟨?_, ?_⟩
  · intro c3
    have h := h.1 c3
    exact ⟨h, K⟩
  · intro x4 c5
    have h := h.2 x4 c5
    refine ⟨?_, ?_⟩
    · intro c6
      have h := h.1 c6
      exact ⟨h, K⟩
    · intro c7
      have h := h.2 c7
      obtain ⟨b8, e9, h⟩ := h
      refine ⟨b8, e9, ?_⟩
      obtain ⟨c10, h⟩ := h
      refine ⟨c10, ?_⟩
      have n11 := k2_ne K c10 (by decide)
      intro x13 e12
      have h := h x13 e12
      refine ⟨?_, ?_⟩
      · intro c14
        have h := h.1 c14
        exact ⟨h, K⟩
      · intro c15
        have h := h.2 c15
        exact ⟨h, K⟩
theorem kf_X11_isSeen {Q : Int32 → HS → Prop} {v0 : Nat} {v1 : Int32} {S : HS} (h : P_X11_isSeen v0 v1 Q S) : P_X11_isSeen v0 v1 (fun r T => Q r T ∧ K2 S T) S := kf_X11_isSeen_0 h (k2_rf S)
set_option maxRecDepth 20000 in
set_option maxHeartbeats 1000000 in
theorem kf_X11_fit_27 {Q : Int32 → HS → Prop} {v0 : Nat} {s0 : Int32} {S0 S : HS} (h : P_X11_fit_27 Q v0 s0 S) (K : K2 S0 S) : P_X11_fit_27 (fun r T => Q r T ∧ K2 S0 T) v0 s0 S := by
  delta P_X11_fit_27 at h ⊢
  refine ⟨?_, ?_⟩
  · intro c1
    have h := h.1 c1
    obtain ⟨c2, h⟩ := h
    refine ⟨c2, ?_⟩
    have n3 := k2_ne K c2 (by decide)
    refine cm_X11_good (kf_X11_good h) h (fun x4 x5 hp h g6 => ?_)
    have h := h g6
    have K := k2_tr K hp.2
    exact ⟨h, K⟩
  · intro c7
    have h := h.2 c7
    obtain ⟨c8, h⟩ := h
    refine ⟨c8, ?_⟩
    have n9 := k2_ne K c8 (by decide)
    refine cm_X11_refused (kf_X11_refused h) h (fun x10 x11 hp h g12 => ?_)
    have h := h g12
    have K := k2_tr K hp.2
    exact ⟨h, K⟩
set_option maxRecDepth 20000 in
set_option maxHeartbeats 1000000 in
theorem kf_X11_fit_26 {Q : Int32 → HS → Prop} {v0 : Nat} {S0 S : HS} (h : P_X11_fit_26 Q v0 S) (K : K2 S0 S) : P_X11_fit_26 (fun r T => Q r T ∧ K2 S0 T) v0 S := by
  delta P_X11_fit_26 at h ⊢
  exact kf_X11_fit_27 h K
set_option maxRecDepth 20000 in
set_option maxHeartbeats 1000000 in
theorem kf_X11_fit_0 {Q : Int32 → HS → Prop} {v0 : Nat} {v1 : Int32} {v2 : Int32} {S0 S : HS} (h : P_X11_fit_0 Q v0 v1 v2 S) (K : K2 S0 S) : P_X11_fit_0 (fun r T => Q r T ∧ K2 S0 T) v0 v1 v2 S := by
  delta P_X11_fit_0 at h ⊢
  obtain ⟨c1, h⟩ := h
  refine ⟨c1, ?_⟩
  have n2 := k2_ne K c1 (by decide)
  intro x4 e3
  have h := h x4 e3
  have K := k2_I K e3 n2
  refine cm_X11_isSeen (kf_X11_isSeen h) h (fun x5 x6 hp h g7 g8 => ?_)
  have h := h g7 g8
  have K := k2_tr K hp.2
  refine ⟨?_, ?_⟩
  · intro c9
    have h := h.1 c9
    exact kf_X11_fit_26 h K
  · intro c10
    have h := h.2 c10
    refine ⟨?_, ?_⟩
    · intro c11
      have h := h.1 c11
      exact kf_X11_fit_26 h K
    · intro c12
      have h := h.2 c12
      refine cm_X11_fitOf (kf_X11_fitOf h) h (fun x13 x14 hp h g15 => ?_)
      have h := h g15
      have K := k2_tr K hp.2
      exact kf_X11_fit_27 h K
theorem kf_X11_fit {Q : Int32 → HS → Prop} {v0 : Nat} {v1 : Int32} {v2 : Int32} {S : HS} (h : P_X11_fit v0 v1 v2 Q S) : P_X11_fit v0 v1 v2 (fun r T => Q r T ∧ K2 S T) S := kf_X11_fit_0 h (k2_rf S)
set_option maxRecDepth 20000 in
set_option maxHeartbeats 1000000 in
theorem kf_X11_fits_0 {Q : Int32 → HS → Prop} {v0 : Nat} {v1 : Int32} {S0 S : HS} (h : P_X11_fits_0 Q v0 v1 S) (K : K2 S0 S) : P_X11_fits_0 (fun r T => Q r T ∧ K2 S0 T) v0 v1 S := by
  delta P_X11_fits_0 at h ⊢
  obtain ⟨c1, h⟩ := h
  refine ⟨c1, ?_⟩
  have n2 := k2_ne K c1 (by decide)
  intro x4 e3
  have h := h x4 e3
  have K := k2_I K e3 n2
  refine cm_X11_isSeen (kf_X11_isSeen h) h (fun x5 x6 hp h g7 g8 => ?_)
  have h := h g7 g8
  have K := k2_tr K hp.2
  refine ⟨?_, ?_⟩
  · intro c9
    have h := h.1 c9
    refine cm_X11_refused (kf_X11_refused h) h (fun x10 x11 hp h g12 => ?_)
    have h := h g12
    have K := k2_tr K hp.2
    exact ⟨h, K⟩
  · intro c13
    have h := h.2 c13
    refine cm_X11_fitOf (kf_X11_fitOf h) h (fun x14 x15 hp h g16 => ?_)
    have h := h g16
    have K := k2_tr K hp.2
    refine cm_X11_good (kf_X11_good h) h (fun x17 x18 hp h g19 => ?_)
    have h := h g19
    have K := k2_tr K hp.2
    exact ⟨h, K⟩
theorem kf_X11_fits {Q : Int32 → HS → Prop} {v0 : Nat} {v1 : Int32} {S : HS} (h : P_X11_fits v0 v1 Q S) : P_X11_fits v0 v1 (fun r T => Q r T ∧ K2 S T) S := kf_X11_fits_0 h (k2_rf S)
set_option maxRecDepth 20000 in
set_option maxHeartbeats 1000000 in
theorem kf_X11_hourOf_0 {Q : Int32 → HS → Prop} {v0 : Nat} {v1 : Int32} {S0 S : HS} (h : P_X11_hourOf_0 Q v0 v1 S) (K : K2 S0 S) : P_X11_hourOf_0 (fun r T => Q r T ∧ K2 S0 T) v0 v1 S := by
  delta P_X11_hourOf_0 at h ⊢
  obtain ⟨c1, h⟩ := h
  refine ⟨c1, ?_⟩
  have n2 := k2_ne K c1 (by decide)
  obtain ⟨b3, e4, h⟩ := h
  refine ⟨b3, e4, ?_⟩
  obtain ⟨c5, h⟩ := h
  refine ⟨c5, ?_⟩
  have n6 := k2_ne K c5 (by decide)
  intro x8 e7
  have h := h x8 e7
  obtain ⟨c9, h⟩ := h
  refine ⟨c9, ?_⟩
  intro x11 e10
  have h := h x11 e10
  exact ⟨h, K⟩
theorem kf_X11_hourOf {Q : Int32 → HS → Prop} {v0 : Nat} {v1 : Int32} {S : HS} (h : P_X11_hourOf v0 v1 Q S) : P_X11_hourOf v0 v1 (fun r T => Q r T ∧ K2 S T) S := kf_X11_hourOf_0 h (k2_rf S)
set_option maxRecDepth 20000 in
set_option maxHeartbeats 1000000 in
theorem kfB_X11_keeps_50 {Q : HS → Prop} {X50 X50_2 : Nat → Int32 → HS → Prop} {v0 : Nat} {v1 : Int32} {S0 S : HS} (h : B_X11_keeps_50 Q X50 v0 v1 S) (K : K2 S0 S) (hX50 : ∀ (u0 : Nat) (u1 : Int32) (u2 : HS), X50 u0 u1 u2 → K2 S0 u2 → X50_2 u0 u1 u2) : B_X11_keeps_50 (fun T => Q T ∧ K2 S0 T) X50_2 v0 v1 S := by
  delta B_X11_keeps_50 at h ⊢
  refine ⟨?_, ?_⟩
  · intro c1
    have h := h.1 c1
    obtain ⟨c2, h⟩ := h
    refine ⟨c2, ?_⟩
    have n3 := k2_ne K c2 (by decide)
    intro x5 e4
    have h := h x5 e4
    intro x7 e6
    have h := h x7 e6
    intro x9 e8
    have h := h x9 e8
    have K := k2_I K e8 n3
    exact ⟨h, K⟩
  · intro c10
    have h := h.2 c10
    obtain ⟨c11, h⟩ := h
    refine ⟨c11, ?_⟩
    have n12 := k2_ne K c11 (by decide)
    obtain ⟨b13, e14, h⟩ := h
    refine ⟨b13, e14, ?_⟩
    intro x16 e15
    have h := h x16 e15
    obtain ⟨b17, e18, h⟩ := h
    refine ⟨b17, e18, ?_⟩
    obtain ⟨c19, h⟩ := h
    refine ⟨c19, ?_⟩
    have n20 := k2_ne K c19 (by decide)
    obtain ⟨c21, h⟩ := h
    refine ⟨c21, ?_⟩
    intro x23 e22
    have h := h x23 e22
    obtain ⟨c24, h⟩ := h
    refine ⟨c24, ?_⟩
    have n25 := k2_ne K c24 (by decide)
    obtain ⟨c26, h⟩ := h
    refine ⟨c26, ?_⟩
    intro x28 e27
    have h := h x28 e27
    have K := k2_J K e27
    intro x30 e29
    have h := h x30 e29
    exact hX50 _ _ _ h K
theorem kf_X11_keeps_50 {Q : HS → Prop} {v0 : Nat} {v1 : Int32} {S0 S : HS} (h : P_X11_keeps_50 Q v0 v1 S) (K : K2 S0 S) : P_X11_keeps_50 (fun T => Q T ∧ K2 S0 T) v0 v1 S := h (fun v0 v1 S => K2 S0 S → P_X11_keeps_50 (fun T => Q T ∧ K2 S0 T) v0 v1 S) (fun v0 v1 S hB K => fd_X11_keeps_50 (kfB_X11_keeps_50 hB K (fun _ _ _ hx K => hx K))) K
set_option maxRecDepth 20000 in
set_option maxHeartbeats 1000000 in
theorem kf_X11_keeps_48 {Q : HS → Prop} {v0 : Nat} {S0 S : HS} (h : P_X11_keeps_48 Q v0 S) (K : K2 S0 S) : P_X11_keeps_48 (fun T => Q T ∧ K2 S0 T) v0 S := by
  delta P_X11_keeps_48 at h ⊢
  exact kf_X11_keeps_50 h K
set_option maxRecDepth 20000 in
set_option maxHeartbeats 1000000 in
theorem kfB_X11_keeps_11 {Q : HS → Prop} {X11 X11_2 : Nat → Int32 → HS → Prop} {v0 : Nat} {v1 : Int32} {S0 S : HS} (h : B_X11_keeps_11 Q X11 v0 v1 S) (K : K2 S0 S) (hX11 : ∀ (u0 : Nat) (u1 : Int32) (u2 : HS), X11 u0 u1 u2 → K2 S0 u2 → X11_2 u0 u1 u2) : B_X11_keeps_11 (fun T => Q T ∧ K2 S0 T) X11_2 v0 v1 S := by
  delta B_X11_keeps_11 at h ⊢
  refine ⟨?_, ?_⟩
  · intro c1
    have h := h.1 c1
    obtain ⟨c2, h⟩ := h
    refine ⟨c2, ?_⟩
    have n3 := k2_ne K c2 (by decide)
    intro x5 e4
    have h := h x5 e4
    intro x7 e6
    have h := h x7 e6
    intro x9 e8
    have h := h x9 e8
    have K := k2_I K e8 n3
    exact kf_X11_keeps_48 h K
  · intro c10
    have h := h.2 c10
    obtain ⟨c11, h⟩ := h
    refine ⟨c11, ?_⟩
    have n12 := k2_ne K c11 (by decide)
    obtain ⟨b13, e14, h⟩ := h
    refine ⟨b13, e14, ?_⟩
    obtain ⟨b15, e16, h⟩ := h
    refine ⟨b15, e16, ?_⟩
    obtain ⟨c17, h⟩ := h
    refine ⟨c17, ?_⟩
    have n18 := k2_ne K c17 (by decide)
    intro x20 e19
    have h := h x20 e19
    obtain ⟨c21, h⟩ := h
    refine ⟨c21, ?_⟩
    intro x23 e22
    have h := h x23 e22
    obtain ⟨c24, h⟩ := h
    refine ⟨c24, ?_⟩
    have n25 := k2_ne K c24 (by decide)
    obtain ⟨c26, h⟩ := h
    refine ⟨c26, ?_⟩
    intro x28 e27
    have h := h x28 e27
    have K := k2_J K e27
    intro x30 e29
    have h := h x30 e29
    exact hX11 _ _ _ h K
theorem kf_X11_keeps_11 {Q : HS → Prop} {v0 : Nat} {v1 : Int32} {S0 S : HS} (h : P_X11_keeps_11 Q v0 v1 S) (K : K2 S0 S) : P_X11_keeps_11 (fun T => Q T ∧ K2 S0 T) v0 v1 S := h (fun v0 v1 S => K2 S0 S → P_X11_keeps_11 (fun T => Q T ∧ K2 S0 T) v0 v1 S) (fun v0 v1 S hB K => fd_X11_keeps_11 (kfB_X11_keeps_11 hB K (fun _ _ _ hx K => hx K))) K
set_option maxRecDepth 20000 in
set_option maxHeartbeats 1000000 in
theorem kf_X11_keeps_0 {Q : HS → Prop} {v0 : Nat} {S0 S : HS} (h : P_X11_keeps_0 Q v0 S) (K : K2 S0 S) : P_X11_keeps_0 (fun T => Q T ∧ K2 S0 T) v0 S := by
  delta P_X11_keeps_0 at h ⊢
  obtain ⟨c1, h⟩ := h
  refine ⟨c1, ?_⟩
  have n2 := k2_ne K c1 (by decide)
  intro x4 e3
  have h := h x4 e3
  refine ⟨?_, ?_⟩
  · intro c5
    have h := h.1 c5
    exact kf_X11_keeps_48 h K
  · intro c6
    have h := h.2 c6
    exact kf_X11_keeps_11 h K
theorem kf_X11_keeps {Q : HS → Prop} {v0 : Nat} {S : HS} (h : P_X11_keeps v0 Q S) : P_X11_keeps v0 (fun T => Q T ∧ K2 S T) S := kf_X11_keeps_0 h (k2_rf S)
set_option maxRecDepth 20000 in
set_option maxHeartbeats 1000000 in
theorem kf_X11_rainsIn_0 {Q : Int32 → HS → Prop} {v0 : Nat} {v1 : Int32} {S0 S : HS} (h : P_X11_rainsIn_0 Q v0 v1 S) (K : K2 S0 S) : P_X11_rainsIn_0 (fun r T => Q r T ∧ K2 S0 T) v0 v1 S := by
  delta P_X11_rainsIn_0 at h ⊢
  obtain ⟨c1, h⟩ := h
  refine ⟨c1, ?_⟩
  have n2 := k2_ne K c1 (by decide)
  refine cm_X11_hourOf (kf_X11_hourOf h) h (fun x3 x4 hp h g5 => ?_)
  have h := h g5
  have K := k2_tr K hp.2
  obtain ⟨b6, e7, h⟩ := h
  refine ⟨b6, e7, ?_⟩
  obtain ⟨c8, h⟩ := h
  refine ⟨c8, ?_⟩
  have n9 := k2_ne K c8 (by decide)
  intro x11 e10
  have h := h x11 e10
  refine ⟨?_, ?_⟩
  · intro c12
    have h := h.1 c12
    exact ⟨h, K⟩
  · intro c13
    have h := h.2 c13
    intro x15 e14
    have h := h x15 e14
    refine ⟨?_, ?_⟩
    · intro c16
      have h := h.1 c16
      exact ⟨h, K⟩
    · intro c17
      have h := h.2 c17
      exact ⟨h, K⟩
theorem kf_X11_rainsIn {Q : Int32 → HS → Prop} {v0 : Nat} {v1 : Int32} {S : HS} (h : P_X11_rainsIn v0 v1 Q S) : P_X11_rainsIn v0 v1 (fun r T => Q r T ∧ K2 S T) S := kf_X11_rainsIn_0 h (k2_rf S)
set_option maxRecDepth 20000 in
set_option maxHeartbeats 1000000 in
theorem kf_X11_go_29 {Q : Int32 → HS → Prop} {v0 : Nat} {S0 S : HS} (h : P_X11_go_29 Q v0 S) (K : K2 S0 S) : P_X11_go_29 (fun r T => Q r T ∧ K2 S0 T) v0 S := by
  delta P_X11_go_29 at h ⊢
  obtain ⟨c1, h⟩ := h
  refine ⟨c1, ?_⟩
  have n2 := k2_ne K c1 (by decide)
  refine cm_X11_refused (kf_X11_refused h) h (fun x3 x4 hp h g5 => ?_)
  have h := h g5
  have K := k2_tr K hp.2
  exact ⟨h, K⟩
set_option maxRecDepth 20000 in
set_option maxHeartbeats 1000000 in
theorem kf_X11_go_171 {Q : Int32 → HS → Prop} {v0 : Nat} {v1 : Int32} {v2 : Int32} {v3 : Int32} {v4 : Int32} {S0 S : HS} (h : P_X11_go_171 Q v0 v1 v2 v3 v4 S) (K : K2 S0 S) : P_X11_go_171 (fun r T => Q r T ∧ K2 S0 T) v0 v1 v2 v3 v4 S := by
  delta P_X11_go_171 at h ⊢
  obtain ⟨c1, h⟩ := h
  refine ⟨c1, ?_⟩
  have n2 := k2_ne K c1 (by decide)
  obtain ⟨b3, e4, h⟩ := h
  refine ⟨b3, e4, ?_⟩
  obtain ⟨b5, e6, h⟩ := h
  refine ⟨b5, e6, ?_⟩
  obtain ⟨c7, h⟩ := h
  refine ⟨c7, ?_⟩
  have n8 := k2_ne K c7 (by decide)
  refine cm_X10_ends (kf_X10_ends h) h (fun x9 x10 hp h g11 => ?_)
  have h := h g11
  have K := k2_tr K hp.2
  obtain ⟨c12, h⟩ := h
  refine ⟨c12, ?_⟩
  have n13 := k2_ne K c12 (by decide)
  intro x15 e14
  have h := h x15 e14
  obtain ⟨c16, h⟩ := h
  refine ⟨c16, ?_⟩
  intro x18 e17
  have h := h x18 e17
  have K := k2_J K e17
  obtain ⟨b19, e20, h⟩ := h
  refine ⟨b19, e20, ?_⟩
  obtain ⟨b21, e22, h⟩ := h
  refine ⟨b21, e22, ?_⟩
  obtain ⟨c23, h⟩ := h
  refine ⟨c23, ?_⟩
  have n24 := k2_ne K c23 (by decide)
  refine cm_X10_minutes (kf_X10_minutes h) h (fun x25 x26 hp h g27 => ?_)
  have h := h g27
  have K := k2_tr K hp.2
  obtain ⟨c28, h⟩ := h
  refine ⟨c28, ?_⟩
  have n29 := k2_ne K c28 (by decide)
  intro x31 e30
  have h := h x31 e30
  obtain ⟨c32, h⟩ := h
  refine ⟨c32, ?_⟩
  intro x34 e33
  have h := h x34 e33
  have K := k2_J K e33
  obtain ⟨b35, e36, h⟩ := h
  refine ⟨b35, e36, ?_⟩
  obtain ⟨c37, h⟩ := h
  refine ⟨c37, ?_⟩
  have n38 := k2_ne K c37 (by decide)
  obtain ⟨c39, h⟩ := h
  refine ⟨c39, ?_⟩
  intro x41 e40
  have h := h x41 e40
  refine cm_X11_good (kf_X11_good h) h (fun x42 x43 hp h g44 => ?_)
  have h := h g44
  have K := k2_tr K hp.2
  exact ⟨h, K⟩
set_option maxRecDepth 20000 in
set_option maxHeartbeats 1000000 in
theorem kfB_X11_go_119 {Q : Int32 → HS → Prop} {X119 X119_2 : Nat → Int32 → Int32 → Int32 → Int32 → Int32 → HS → Prop} {v0 : Nat} {v1 : Int32} {v2 : Int32} {v3 : Int32} {v4 : Int32} {v5 : Int32} {S0 S : HS} (h : B_X11_go_119 Q X119 v0 v1 v2 v3 v4 v5 S) (K : K2 S0 S) (hX119 : ∀ (u0 : Nat) (u1 : Int32) (u2 : Int32) (u3 : Int32) (u4 : Int32) (u5 : Int32) (u6 : HS), X119 u0 u1 u2 u3 u4 u5 u6 → K2 S0 u6 → X119_2 u0 u1 u2 u3 u4 u5 u6) : B_X11_go_119 (fun r T => Q r T ∧ K2 S0 T) X119_2 v0 v1 v2 v3 v4 v5 S := by
  delta B_X11_go_119 at h ⊢
  refine ⟨?_, ?_⟩
  · intro c1
    have h := h.1 c1
    exact kf_X11_go_171 h K
  · intro c2
    have h := h.2 c2
    obtain ⟨c3, h⟩ := h
    refine ⟨c3, ?_⟩
    have n4 := k2_ne K c3 (by decide)
    refine cm_X11_rainsIn (kf_X11_rainsIn h) h (fun x5 x6 hp h g7 g8 => ?_)
    have h := h g7 g8
    have K := k2_tr K hp.2
    refine ⟨?_, ?_⟩
    · intro c9
      have h := h.1 c9
      exact kf_X11_go_171 h K
    · intro c10
      have h := h.2 c10
      obtain ⟨b11, e12, h⟩ := h
      refine ⟨b11, e12, ?_⟩
      obtain ⟨c13, h⟩ := h
      refine ⟨c13, ?_⟩
      have n14 := k2_ne K c13 (by decide)
      intro x16 e15
      have h := h x16 e15
      obtain ⟨c17, h⟩ := h
      refine ⟨c17, ?_⟩
      intro x19 e18
      have h := h x19 e18
      intro x21 e20
      have h := h x21 e20
      refine cm_X11_hourOf (kf_X11_hourOf h) h (fun x22 x23 hp h g24 => ?_)
      have h := h g24
      have K := k2_tr K hp.2
      refine cm_X11_partsOf (kf_X11_partsOf h) h (fun x25 x26 hp h g27 => ?_)
      have h := h g27
      have K := k2_tr K hp.2
      intro x29 e28
      have h := h x29 e28
      obtain ⟨c30, h⟩ := h
      refine ⟨c30, ?_⟩
      intro x32 e31
      have h := h x32 e31
      have K := k2_J K e31
      intro x34 e33
      have h := h x34 e33
      exact hX119 _ _ _ _ _ _ _ h K
theorem kf_X11_go_119 {Q : Int32 → HS → Prop} {v0 : Nat} {v1 : Int32} {v2 : Int32} {v3 : Int32} {v4 : Int32} {v5 : Int32} {S0 S : HS} (h : P_X11_go_119 Q v0 v1 v2 v3 v4 v5 S) (K : K2 S0 S) : P_X11_go_119 (fun r T => Q r T ∧ K2 S0 T) v0 v1 v2 v3 v4 v5 S := h (fun v0 v1 v2 v3 v4 v5 S => K2 S0 S → P_X11_go_119 (fun r T => Q r T ∧ K2 S0 T) v0 v1 v2 v3 v4 v5 S) (fun v0 v1 v2 v3 v4 v5 S hB K => fd_X11_go_119 (kfB_X11_go_119 hB K (fun _ _ _ _ _ _ _ hx K => hx K))) K
set_option maxRecDepth 20000 in
set_option maxHeartbeats 1000000 in
theorem kf_X11_go_0 {Q : Int32 → HS → Prop} {v0 : Nat} {v1 : Int32} {v2 : Int32} {v3 : Int32} {S0 S : HS} (h : P_X11_go_0 Q v0 v1 v2 v3 S) (K : K2 S0 S) : P_X11_go_0 (fun r T => Q r T ∧ K2 S0 T) v0 v1 v2 v3 S := by
  delta P_X11_go_0 at h ⊢
  obtain ⟨c1, h⟩ := h
  refine ⟨c1, ?_⟩
  have n2 := k2_ne K c1 (by decide)
  intro x4 e3
  have h := h x4 e3
  have K := k2_I K e3 n2
  refine cm_X11_isDay (kf_X11_isDay h) h (fun x5 x6 hp h g7 g8 => ?_)
  have h := h g7 g8
  have K := k2_tr K hp.2
  refine ⟨?_, ?_⟩
  · intro c9
    have h := h.1 c9
    exact kf_X11_go_29 h K
  · intro c10
    have h := h.2 c10
    refine cm_X11_isRoad (kf_X11_isRoad h) h (fun x11 x12 hp h g13 g14 => ?_)
    have h := h g13 g14
    have K := k2_tr K hp.2
    refine ⟨?_, ?_⟩
    · intro c15
      have h := h.1 c15
      exact kf_X11_go_29 h K
    · intro c16
      have h := h.2 c16
      refine cm_X11_in (kf_X11_in h) h (fun x17 x18 hp h g19 g20 => ?_)
      have h := h g19 g20
      have K := k2_tr K hp.2
      refine ⟨?_, ?_⟩
      · intro c21
        have h := h.1 c21
        intro x23 e22
        have h := h x23 e22
        refine cm_X11_isSpeed (kf_X11_isSpeed h) h (fun x24 x25 hp h g26 g27 => ?_)
        have h := h g26 g27
        have K := k2_tr K hp.2
        refine ⟨?_, ?_⟩
        · intro c28
          have h := h.1 c28
          obtain ⟨b29, e30, h⟩ := h
          refine ⟨b29, e30, ?_⟩
          obtain ⟨c31, h⟩ := h
          refine ⟨c31, ?_⟩
          have n32 := k2_ne K c31 (by decide)
          refine cm_X10_begins (kf_X10_begins h) h (fun x33 x34 hp h g35 => ?_)
          have h := h g35
          have K := k2_tr K hp.2
          obtain ⟨b36, e37, h⟩ := h
          refine ⟨b36, e37, ?_⟩
          obtain ⟨c38, h⟩ := h
          refine ⟨c38, ?_⟩
          have n39 := k2_ne K c38 (by decide)
          obtain ⟨c40, h⟩ := h
          refine ⟨c40, ?_⟩
          intro x42 e41
          have h := h x42 e41
          refine ⟨?_, ?_⟩
          · intro c43
            have h := h.1 c43
            obtain ⟨b44, e45, h⟩ := h
            refine ⟨b44, e45, ?_⟩
            obtain ⟨c46, h⟩ := h
            refine ⟨c46, ?_⟩
            have n47 := k2_ne K c46 (by decide)
            obtain ⟨c48, h⟩ := h
            refine ⟨c48, ?_⟩
            intro x50 e49
            have h := h x50 e49
            intro x52 e51
            have h := h x52 e51
            obtain ⟨b53, e54, h⟩ := h
            refine ⟨b53, e54, ?_⟩
            obtain ⟨c55, h⟩ := h
            refine ⟨c55, ?_⟩
            have n56 := k2_ne K c55 (by decide)
            refine cm_X10_minutes (kf_X10_minutes h) h (fun x57 x58 hp h g59 => ?_)
            have h := h g59
            have K := k2_tr K hp.2
            refine ⟨?_, ?_⟩
            · intro c60
              have h := h.1 c60
              refine cm_X11_keeps (kf_X11_keeps h) h (fun x61 hp h g62 => ?_)
              have h := h g62
              have K := k2_tr K hp.2
              exact kf_X11_go_119 h K
            · intro c63
              have h := h.2 c63
              refine cm_X11_refused (kf_X11_refused h) h (fun x64 x65 hp h g66 => ?_)
              have h := h g66
              have K := k2_tr K hp.2
              exact ⟨h, K⟩
          · intro c67
            have h := h.2 c67
            refine cm_X11_refused (kf_X11_refused h) h (fun x68 x69 hp h g70 => ?_)
            have h := h g70
            have K := k2_tr K hp.2
            exact ⟨h, K⟩
        · intro c71
          have h := h.2 c71
          refine cm_X11_refused (kf_X11_refused h) h (fun x72 x73 hp h g74 => ?_)
          have h := h g74
          have K := k2_tr K hp.2
          exact ⟨h, K⟩
      · intro c75
        have h := h.2 c75
        exact kf_X11_go_29 h K
theorem kf_X11_go {Q : Int32 → HS → Prop} {v0 : Nat} {v1 : Int32} {v2 : Int32} {v3 : Int32} {S : HS} (h : P_X11_go v0 v1 v2 v3 Q S) : P_X11_go v0 v1 v2 v3 (fun r T => Q r T ∧ K2 S T) S := kf_X11_go_0 h (k2_rf S)
set_option maxRecDepth 20000 in
set_option maxHeartbeats 1000000 in
theorem kf_X11_got_40 {Q : Int64 → HS → Prop} {v0 : Nat} {S0 S : HS} (h : P_X11_got_40 Q v0 S) (K : K2 S0 S) : P_X11_got_40 (fun r T => Q r T ∧ K2 S0 T) v0 S := by
  delta P_X11_got_40 at h ⊢
  obtain ⟨c1, h⟩ := h
  refine ⟨c1, ?_⟩
  have n2 := k2_ne K c1 (by decide)
  refine cm_X11_refused (kf_X11_refused h) h (fun x3 x4 hp h g5 => ?_)
  have h := h g5
  have K := k2_tr K hp.2
  exact ⟨h, K⟩
set_option maxRecDepth 20000 in
set_option maxHeartbeats 1000000 in
theorem kf_X11_got_0 {Q : Int64 → HS → Prop} {v0 : Nat} {v1 : Int32} {v2 : Int32} {S0 S : HS} (h : P_X11_got_0 Q v0 v1 v2 S) (K : K2 S0 S) : P_X11_got_0 (fun r T => Q r T ∧ K2 S0 T) v0 v1 v2 S := by
  delta P_X11_got_0 at h ⊢
  obtain ⟨c1, h⟩ := h
  refine ⟨c1, ?_⟩
  have n2 := k2_ne K c1 (by decide)
  intro x4 e3
  have h := h x4 e3
  have K := k2_I K e3 n2
  refine cm_X11_isDay (kf_X11_isDay h) h (fun x5 x6 hp h g7 g8 => ?_)
  have h := h g7 g8
  have K := k2_tr K hp.2
  refine ⟨?_, ?_⟩
  · intro c9
    have h := h.1 c9
    exact kf_X11_got_40 h K
  · intro c10
    have h := h.2 c10
    refine cm_X11_in (kf_X11_in h) h (fun x11 x12 hp h g13 g14 => ?_)
    have h := h g13 g14
    have K := k2_tr K hp.2
    refine ⟨?_, ?_⟩
    · intro c15
      have h := h.1 c15
      exact kf_X11_got_40 h K
    · intro c16
      have h := h.2 c16
      obtain ⟨b17, e18, h⟩ := h
      refine ⟨b17, e18, ?_⟩
      obtain ⟨c19, h⟩ := h
      refine ⟨c19, ?_⟩
      have n20 := k2_ne K c19 (by decide)
      intro x22 e21
      have h := h x22 e21
      obtain ⟨c23, h⟩ := h
      refine ⟨c23, ?_⟩
      intro x25 e24
      have h := h x25 e24
      refine cm_X11_told (kf_X11_told h) h (fun x26 x27 hp h g28 => ?_)
      have h := h g28
      have K := k2_tr K hp.2
      exact ⟨h, K⟩
theorem kf_X11_got {Q : Int64 → HS → Prop} {v0 : Nat} {v1 : Int32} {v2 : Int32} {S : HS} (h : P_X11_got v0 v1 v2 Q S) : P_X11_got v0 v1 v2 (fun r T => Q r T ∧ K2 S T) S := kf_X11_got_0 h (k2_rf S)
set_option maxRecDepth 20000 in
set_option maxHeartbeats 1000000 in
theorem kfB_X11_gotInAll_4 {Q : Int64 → HS → Prop} {X4 X4_2 : Nat → Int64 → Int32 → HS → Prop} {v0 : Nat} {v1 : Int64} {v3 : Int32} {S0 S : HS} (h : B_X11_gotInAll_4 Q X4 v0 v1 v3 S) (K : K2 S0 S) (hX4 : ∀ (u0 : Nat) (u1 : Int64) (u2 : Int32) (u3 : HS), X4 u0 u1 u2 u3 → K2 S0 u3 → X4_2 u0 u1 u2 u3) : B_X11_gotInAll_4 (fun r T => Q r T ∧ K2 S0 T) X4_2 v0 v1 v3 S := by
  delta B_X11_gotInAll_4 at h ⊢
  refine ⟨?_, ?_⟩
  · intro c1
    have h := h.1 c1
    exact ⟨h, K⟩
  · intro c2
    have h := h.2 c2
    obtain ⟨c3, h⟩ := h
    refine ⟨c3, ?_⟩
    have n4 := k2_ne K c3 (by decide)
    obtain ⟨b5, e6, h⟩ := h
    refine ⟨b5, e6, ?_⟩
    obtain ⟨c7, h⟩ := h
    refine ⟨c7, ?_⟩
    have n8 := k2_ne K c7 (by decide)
    intro x10 e9
    have h := h x10 e9
    obtain ⟨c11, h⟩ := h
    refine ⟨c11, ?_⟩
    intro x13 e12
    have h := h x13 e12
    intro x15 e14
    have h := h x15 e14
    intro x17 e16
    have h := h x17 e16
    exact hX4 _ _ _ _ h K
theorem kf_X11_gotInAll_4 {Q : Int64 → HS → Prop} {v0 : Nat} {v1 : Int64} {v3 : Int32} {S0 S : HS} (h : P_X11_gotInAll_4 Q v0 v1 v3 S) (K : K2 S0 S) : P_X11_gotInAll_4 (fun r T => Q r T ∧ K2 S0 T) v0 v1 v3 S := h (fun v0 v1 v3 S => K2 S0 S → P_X11_gotInAll_4 (fun r T => Q r T ∧ K2 S0 T) v0 v1 v3 S) (fun v0 v1 v3 S hB K => fd_X11_gotInAll_4 (kfB_X11_gotInAll_4 hB K (fun _ _ _ _ hx K => hx K))) K
set_option maxRecDepth 20000 in
set_option maxHeartbeats 1000000 in
theorem kf_X11_gotInAll_0 {Q : Int64 → HS → Prop} {v0 : Nat} {S0 S : HS} (h : P_X11_gotInAll_0 Q v0 S) (K : K2 S0 S) : P_X11_gotInAll_0 (fun r T => Q r T ∧ K2 S0 T) v0 S := by
  delta P_X11_gotInAll_0 at h ⊢
  exact kf_X11_gotInAll_4 h K
theorem kf_X11_gotInAll {Q : Int64 → HS → Prop} {v0 : Nat} {S : HS} (h : P_X11_gotInAll v0 Q S) : P_X11_gotInAll v0 (fun r T => Q r T ∧ K2 S T) S := kf_X11_gotInAll_0 h (k2_rf S)
set_option maxRecDepth 20000 in
set_option maxHeartbeats 1000000 in
theorem kf_X11_held_68 {Q : Int32 → HS → Prop} {s0 : Nat} {s1 : Int32} {S0 S : HS} (h : P_X11_held_68 Q s0 s1 S) (K : K2 S0 S) : P_X11_held_68 (fun r T => Q r T ∧ K2 S0 T) s0 s1 S := by
  delta P_X11_held_68 at h ⊢
  obtain ⟨c1, h⟩ := h
  refine ⟨c1, ?_⟩
  have n2 := k2_ne K c1 (by decide)
  refine cm_X11_good (kf_X11_good h) h (fun x3 x4 hp h g5 => ?_)
  have h := h g5
  have K := k2_tr K hp.2
  exact ⟨h, K⟩
set_option maxRecDepth 20000 in
set_option maxHeartbeats 1000000 in
theorem kf_X11_held_0 {Q : Int32 → HS → Prop} {v0 : Nat} {v1 : Int32} {v2 : Int32} {v3 : Int32} {v4 : Int32} {v5 : Int32} {S0 S : HS} (h : P_X11_held_0 Q v0 v1 v2 v3 v4 v5 S) (K : K2 S0 S) : P_X11_held_0 (fun r T => Q r T ∧ K2 S0 T) v0 v1 v2 v3 v4 v5 S := by
  delta P_X11_held_0 at h ⊢
  obtain ⟨c1, h⟩ := h
  refine ⟨c1, ?_⟩
  have n2 := k2_ne K c1 (by decide)
  intro x4 e3
  have h := h x4 e3
  have K := k2_I K e3 n2
  refine cm_X11_refuses (kf_X11_refuses h) h (fun x5 x6 hp h g7 => ?_)
  have h := h g7
  have K := k2_tr K hp.2
  refine ⟨?_, ?_⟩
  · intro c8
    have h := h.1 c8
    obtain ⟨b9, e10, h⟩ := h
    refine ⟨b9, e10, ?_⟩
    obtain ⟨c11, h⟩ := h
    refine ⟨c11, ?_⟩
    have n12 := k2_ne K c11 (by decide)
    obtain ⟨b13, e14, h⟩ := h
    refine ⟨b13, e14, ?_⟩
    obtain ⟨c15, h⟩ := h
    refine ⟨c15, ?_⟩
    have n16 := k2_ne K c15 (by decide)
    obtain ⟨c17, h⟩ := h
    refine ⟨c17, ?_⟩
    intro x19 e18
    have h := h x19 e18
    refine ⟨?_, ?_⟩
    · intro c20
      have h := h.1 c20
      refine cm_X11_isForward (kf_X11_isForward h) h (fun x21 x22 hp h g23 g24 => ?_)
      have h := h g23 g24
      have K := k2_tr K hp.2
      refine ⟨?_, ?_⟩
      · intro c25
        have h := h.1 c25
        exact kf_X11_held_68 h K
      · intro c26
        have h := h.2 c26
        exact kf_X11_held_68 h K
    · intro c27
      have h := h.2 c27
      exact kf_X11_held_68 h K
  · intro c28
    have h := h.2 c28
    refine cm_X11_refused (kf_X11_refused h) h (fun x29 x30 hp h g31 => ?_)
    have h := h g31
    have K := k2_tr K hp.2
    exact ⟨h, K⟩
theorem kf_X11_held {Q : Int32 → HS → Prop} {v0 : Nat} {v1 : Int32} {v2 : Int32} {v3 : Int32} {v4 : Int32} {v5 : Int32} {S : HS} (h : P_X11_held v0 v1 v2 v3 v4 v5 Q S) : P_X11_held v0 v1 v2 v3 v4 v5 (fun r T => Q r T ∧ K2 S T) S := kf_X11_held_0 h (k2_rf S)
set_option maxRecDepth 20000 in
set_option maxHeartbeats 1000000 in
theorem kf_X11_holds_0 {Q : Int64 → HS → Prop} {v0 : Nat} {S0 S : HS} (h : P_X11_holds_0 Q v0 S) (K : K2 S0 S) : P_X11_holds_0 (fun r T => Q r T ∧ K2 S0 T) v0 S := by
  delta P_X11_holds_0 at h ⊢
  obtain ⟨c1, h⟩ := h
  refine ⟨c1, ?_⟩
  have n2 := k2_ne K c1 (by decide)
  obtain ⟨b3, e4, h⟩ := h
  refine ⟨b3, e4, ?_⟩
  obtain ⟨c5, h⟩ := h
  refine ⟨c5, ?_⟩
  have n6 := k2_ne K c5 (by decide)
  obtain ⟨b7, e8, h⟩ := h
  refine ⟨b7, e8, ?_⟩
  intro x10 e9
  have h := h x10 e9
  obtain ⟨c11, h⟩ := h
  refine ⟨c11, ?_⟩
  have n12 := k2_ne K c11 (by decide)
  obtain ⟨c13, h⟩ := h
  refine ⟨c13, ?_⟩
  intro x15 e14
  have h := h x15 e14
  refine ⟨?_, ?_⟩
  · intro c16
    have h := h.1 c16
    exact ⟨h, K⟩
  · intro c17
    have h := h.2 c17
    obtain ⟨b18, e19, h⟩ := h
    refine ⟨b18, e19, ?_⟩
    obtain ⟨c20, h⟩ := h
    refine ⟨c20, ?_⟩
    have n21 := k2_ne K c20 (by decide)
    obtain ⟨b22, e23, h⟩ := h
    refine ⟨b22, e23, ?_⟩
    intro x25 e24
    have h := h x25 e24
    obtain ⟨c26, h⟩ := h
    refine ⟨c26, ?_⟩
    have n27 := k2_ne K c26 (by decide)
    obtain ⟨c28, h⟩ := h
    refine ⟨c28, ?_⟩
    intro x30 e29
    have h := h x30 e29
    exact ⟨h, K⟩
theorem kf_X11_holds {Q : Int64 → HS → Prop} {v0 : Nat} {S : HS} (h : P_X11_holds v0 Q S) : P_X11_holds v0 (fun r T => Q r T ∧ K2 S T) S := kf_X11_holds_0 h (k2_rf S)
set_option maxRecDepth 20000 in
set_option maxHeartbeats 1000000 in
theorem kf_X11_isName_0 {Q : Int32 → HS → Prop} {v0 : Nat} {S0 S : HS} (h : P_X11_isName_0 Q v0 S) (K : K2 S0 S) : P_X11_isName_0 (fun r T => Q r T ∧ K2 S0 T) v0 S := by
  delta P_X11_isName_0 at h ⊢
  obtain ⟨c1, h⟩ := h
  refine ⟨c1, ?_⟩
  have n2 := k2_ne K c1 (by decide)
  intro x4 e3
  have h := h x4 e3
  refine ⟨?_, ?_⟩
  · intro c5
    have h := h.1 c5
    exact ⟨h, K⟩
  · intro c6
    have h := h.2 c6
    refine cm_X11_isWord (kf_X11_isWord h) h (fun x7 x8 hp h g9 g10 => ?_)
    have h := h g9 g10
    have K := k2_tr K hp.2
    refine ⟨?_, ?_⟩
    · intro c11
      have h := h.1 c11
      exact ⟨h, K⟩
    · intro c12
      have h := h.2 c12
      refine cm_X11_isWord (kf_X11_isWord h) h (fun x13 x14 hp h g15 g16 => ?_)
      have h := h g15 g16
      have K := k2_tr K hp.2
      refine ⟨?_, ?_⟩
      · intro c17
        have h := h.1 c17
        exact ⟨h, K⟩
      · intro c18
        have h := h.2 c18
        refine cm_X11_isWord (kf_X11_isWord h) h (fun x19 x20 hp h g21 g22 => ?_)
        have h := h g21 g22
        have K := k2_tr K hp.2
        refine ⟨?_, ?_⟩
        · intro c23
          have h := h.1 c23
          exact ⟨h, K⟩
        · intro c24
          have h := h.2 c24
          refine cm_X11_isWord (kf_X11_isWord h) h (fun x25 x26 hp h g27 g28 => ?_)
          have h := h g27 g28
          have K := k2_tr K hp.2
          refine ⟨?_, ?_⟩
          · intro c29
            have h := h.1 c29
            refine cm_X11_isWord (kf_X11_isWord h) h (fun x30 x31 hp h g32 g33 => ?_)
            have h := h g32 g33
            have K := k2_tr K hp.2
            refine ⟨?_, ?_⟩
            · intro c34
              have h := h.1 c34
              exact ⟨h, K⟩
            · intro c35
              have h := h.2 c35
              refine cm_X11_isWord (kf_X11_isWord h) h (fun x36 x37 hp h g38 g39 => ?_)
              have h := h g38 g39
              have K := k2_tr K hp.2
              refine ⟨?_, ?_⟩
              · intro c40
                have h := h.1 c40
                exact ⟨h, K⟩
              · intro c41
                have h := h.2 c41
                refine cm_X11_isWord (kf_X11_isWord h) h (fun x42 x43 hp h g44 g45 => ?_)
                have h := h g44 g45
                have K := k2_tr K hp.2
                refine ⟨?_, ?_⟩
                · intro c46
                  have h := h.1 c46
                  exact ⟨h, K⟩
                · intro c47
                  have h := h.2 c47
                  refine cm_X11_isWord (kf_X11_isWord h) h (fun x48 x49 hp h g50 g51 => ?_)
                  have h := h g50 g51
                  have K := k2_tr K hp.2
                  refine ⟨?_, ?_⟩
                  · intro c52
                    have h := h.1 c52
                    exact ⟨h, K⟩
                  · intro c53
                    have h := h.2 c53
                    refine cm_X11_isWord (kf_X11_isWord h) h (fun x54 x55 hp h g56 g57 => ?_)
                    have h := h g56 g57
                    have K := k2_tr K hp.2
                    refine ⟨?_, ?_⟩
                    · intro c58
                      have h := h.1 c58
                      exact ⟨h, K⟩
                    · intro c59
                      have h := h.2 c59
                      exact ⟨h, K⟩
          · intro c60
            have h := h.2 c60
            exact ⟨h, K⟩
theorem kf_X11_isName {Q : Int32 → HS → Prop} {v0 : Nat} {S : HS} (h : P_X11_isName v0 Q S) : P_X11_isName v0 (fun r T => Q r T ∧ K2 S T) S := kf_X11_isName_0 h (k2_rf S)
set_option maxRecDepth 20000 in
set_option maxHeartbeats 1000000 in
theorem kf_X11_known_47 {Q : Int32 → HS → Prop} {v0 : Nat} {v2 : Int32} {S0 S : HS} (h : P_X11_known_47 Q v0 v2 S) (K : K2 S0 S) : P_X11_known_47 (fun r T => Q r T ∧ K2 S0 T) v0 v2 S := by
  delta P_X11_known_47 at h ⊢
  obtain ⟨c1, h⟩ := h
  refine ⟨c1, ?_⟩
  have n2 := k2_ne K c1 (by decide)
  intro x4 e3
  have h := h x4 e3
  refine ⟨?_, ?_⟩
  · intro c5
    have h := h.1 c5
    obtain ⟨b6, e7, h⟩ := h
    refine ⟨b6, e7, ?_⟩
    obtain ⟨c8, h⟩ := h
    refine ⟨c8, ?_⟩
    have n9 := k2_ne K c8 (by decide)
    obtain ⟨b10, e11, h⟩ := h
    refine ⟨b10, e11, ?_⟩
    obtain ⟨c12, h⟩ := h
    refine ⟨c12, ?_⟩
    have n13 := k2_ne K c12 (by decide)
    obtain ⟨c14, h⟩ := h
    refine ⟨c14, ?_⟩
    intro x16 e15
    have h := h x16 e15
    exact ⟨h, K⟩
  · intro c17
    have h := h.2 c17
    exact ⟨h, K⟩
set_option maxRecDepth 20000 in
set_option maxHeartbeats 1000000 in
theorem kf_X11_known_42 {Q : Int32 → HS → Prop} {v0 : Nat} {v2 : Int32} {S0 S : HS} (h : P_X11_known_42 Q v0 v2 S) (K : K2 S0 S) : P_X11_known_42 (fun r T => Q r T ∧ K2 S0 T) v0 v2 S := by
  delta P_X11_known_42 at h ⊢
  obtain ⟨c1, h⟩ := h
  refine ⟨c1, ?_⟩
  have n2 := k2_ne K c1 (by decide)
  refine cm_X11_flaw (kf_X11_flaw h) h (fun x3 hp h g4 => ?_)
  have h := h g4
  have K := k2_tr K hp.2
  exact kf_X11_known_47 h K
set_option maxRecDepth 20000 in
set_option maxHeartbeats 1000000 in
theorem kf_X11_known_12 {Q : Int32 → HS → Prop} {v0 : Nat} {v1 : Int32} {S0 S : HS} (h : P_X11_known_12 Q v0 v1 S) (K : K2 S0 S) : P_X11_known_12 (fun r T => Q r T ∧ K2 S0 T) v0 v1 S := by
  delta P_X11_known_12 at h ⊢
  obtain ⟨c1, h⟩ := h
  refine ⟨c1, ?_⟩
  have n2 := k2_ne K c1 (by decide)
  obtain ⟨b3, e4, h⟩ := h
  refine ⟨b3, e4, ?_⟩
  intro x6 e5
  have h := h x6 e5
  obtain ⟨c7, h⟩ := h
  refine ⟨c7, ?_⟩
  have n8 := k2_ne K c7 (by decide)
  refine cm_X10_find (kf_X10_find h) h (fun x9 x10 hp h g11 => ?_)
  have h := h g11
  have K := k2_tr K hp.2
  refine ⟨?_, ?_⟩
  · intro c12
    have h := h.1 c12
    exact kf_X11_known_42 h K
  · intro c13
    have h := h.2 c13
    obtain ⟨b14, e15, h⟩ := h
    refine ⟨b14, e15, ?_⟩
    obtain ⟨c16, h⟩ := h
    refine ⟨c16, ?_⟩
    have n17 := k2_ne K c16 (by decide)
    obtain ⟨b18, e19, h⟩ := h
    refine ⟨b18, e19, ?_⟩
    obtain ⟨c20, h⟩ := h
    refine ⟨c20, ?_⟩
    have n21 := k2_ne K c20 (by decide)
    obtain ⟨c22, h⟩ := h
    refine ⟨c22, ?_⟩
    intro x24 e23
    have h := h x24 e23
    refine ⟨?_, ?_⟩
    · intro c25
      have h := h.1 c25
      exact kf_X11_known_47 h K
    · intro c26
      have h := h.2 c26
      exact kf_X11_known_42 h K
set_option maxRecDepth 20000 in
set_option maxHeartbeats 1000000 in
theorem kf_X11_known_0 {Q : Int32 → HS → Prop} {v0 : Nat} {v1 : Int32} {S0 S : HS} (h : P_X11_known_0 Q v0 v1 S) (K : K2 S0 S) : P_X11_known_0 (fun r T => Q r T ∧ K2 S0 T) v0 v1 S := by
  delta P_X11_known_0 at h ⊢
  obtain ⟨c1, h⟩ := h
  refine ⟨c1, ?_⟩
  have n2 := k2_ne K c1 (by decide)
  refine cm_X11_isName (kf_X11_isName h) h (fun x3 x4 hp h g5 g6 => ?_)
  have h := h g5 g6
  have K := k2_tr K hp.2
  refine ⟨?_, ?_⟩
  · intro c7
    have h := h.1 c7
    exact kf_X11_known_12 h K
  · intro c8
    have h := h.2 c8
    refine cm_X11_flaw (kf_X11_flaw h) h (fun x9 hp h g10 => ?_)
    have h := h g10
    have K := k2_tr K hp.2
    exact kf_X11_known_12 h K
theorem kf_X11_known {Q : Int32 → HS → Prop} {v0 : Nat} {v1 : Int32} {S : HS} (h : P_X11_known v0 v1 Q S) : P_X11_known v0 v1 (fun r T => Q r T ∧ K2 S T) S := kf_X11_known_0 h (k2_rf S)
set_option maxRecDepth 20000 in
set_option maxHeartbeats 1000000 in
theorem kf_X11_spotOf_0 {Q : Int32 → HS → Prop} {v0 : Int32} {v1 : Int32} {S0 S : HS} (h : P_X11_spotOf_0 Q v0 v1 S) (K : K2 S0 S) : P_X11_spotOf_0 (fun r T => Q r T ∧ K2 S0 T) v0 v1 S := by
  delta P_X11_spotOf_0 at h ⊢
  exact ⟨h, K⟩
theorem kf_X11_spotOf {Q : Int32 → HS → Prop} {v0 : Int32} {v1 : Int32} {S : HS} (h : P_X11_spotOf v0 v1 Q S) : P_X11_spotOf v0 v1 (fun r T => Q r T ∧ K2 S T) S := kf_X11_spotOf_0 h (k2_rf S)
set_option maxRecDepth 20000 in
set_option maxHeartbeats 1000000 in
theorem kf_X11_meanOf_0 {Q : Int64 → HS → Prop} {v0 : Nat} {v1 : Int32} {v2 : Int32} {v3 : Int32} {v4 : Int32} {v5 : Int32} {S0 S : HS} (h : P_X11_meanOf_0 Q v0 v1 v2 v3 v4 v5 S) (K : K2 S0 S) : P_X11_meanOf_0 (fun r T => Q r T ∧ K2 S0 T) v0 v1 v2 v3 v4 v5 S := by
  delta P_X11_meanOf_0 at h ⊢
  obtain ⟨c1, h⟩ := h
  refine ⟨c1, ?_⟩
  have n2 := k2_ne K c1 (by decide)
  refine cm_X11_hourOf (kf_X11_hourOf h) h (fun x3 x4 hp h g5 => ?_)
  have h := h g5
  have K := k2_tr K hp.2
  obtain ⟨b6, e7, h⟩ := h
  refine ⟨b6, e7, ?_⟩
  obtain ⟨c8, h⟩ := h
  refine ⟨c8, ?_⟩
  have n9 := k2_ne K c8 (by decide)
  intro x11 e10
  have h := h x11 e10
  refine ⟨?_, ?_⟩
  · intro c12
    have h := h.1 c12
    exact ⟨h, K⟩
  · intro c13
    have h := h.2 c13
    refine cm_X11_wetOf (kf_X11_wetOf h) h (fun x14 x15 hp h g16 => ?_)
    have h := h g16
    have K := k2_tr K hp.2
    obtain ⟨b17, e18, h⟩ := h
    refine ⟨b17, e18, ?_⟩
    obtain ⟨c19, h⟩ := h
    refine ⟨c19, ?_⟩
    have n20 := k2_ne K c19 (by decide)
    obtain ⟨b21, e22, h⟩ := h
    refine ⟨b21, e22, ?_⟩
    obtain ⟨c23, h⟩ := h
    refine ⟨c23, ?_⟩
    have n24 := k2_ne K c23 (by decide)
    obtain ⟨c25, h⟩ := h
    refine ⟨c25, ?_⟩
    intro x27 e26
    have h := h x27 e26
    exact ⟨h, K⟩
theorem kf_X11_meanOf {Q : Int64 → HS → Prop} {v0 : Nat} {v1 : Int32} {v2 : Int32} {v3 : Int32} {v4 : Int32} {v5 : Int32} {S : HS} (h : P_X11_meanOf v0 v1 v2 v3 v4 v5 Q S) : P_X11_meanOf v0 v1 v2 v3 v4 v5 (fun r T => Q r T ∧ K2 S T) S := kf_X11_meanOf_0 h (k2_rf S)
set_option maxRecDepth 20000 in
set_option maxHeartbeats 1000000 in
theorem kf_X11_takes_77 {Q : HS → Prop} {v0 : Nat} {v1 : Int32} {v2 : Int32} {v5 : Int32} {v6 : Int64} {S0 S : HS} (h : P_X11_takes_77 Q v0 v1 v2 v5 v6 S) (K : K2 S0 S) : P_X11_takes_77 (fun T => Q T ∧ K2 S0 T) v0 v1 v2 v5 v6 S := by
  delta P_X11_takes_77 at h ⊢
  obtain ⟨c1, h⟩ := h
  refine ⟨c1, ?_⟩
  have n2 := k2_ne K c1 (by decide)
  obtain ⟨b3, e4, h⟩ := h
  refine ⟨b3, e4, ?_⟩
  obtain ⟨c5, h⟩ := h
  refine ⟨c5, ?_⟩
  have n6 := k2_ne K c5 (by decide)
  obtain ⟨c7, h⟩ := h
  refine ⟨c7, ?_⟩
  intro x9 e8
  have h := h x9 e8
  have K := k2_J K e8
  obtain ⟨b10, e11, h⟩ := h
  refine ⟨b10, e11, ?_⟩
  obtain ⟨b12, e13, h⟩ := h
  refine ⟨b12, e13, ?_⟩
  obtain ⟨c14, h⟩ := h
  refine ⟨c14, ?_⟩
  have n15 := k2_ne K c14 (by decide)
  obtain ⟨c16, h⟩ := h
  refine ⟨c16, ?_⟩
  intro x18 e17
  have h := h x18 e17
  obtain ⟨c19, h⟩ := h
  refine ⟨c19, ?_⟩
  have n20 := k2_ne K c19 (by decide)
  obtain ⟨c21, h⟩ := h
  refine ⟨c21, ?_⟩
  intro x23 e22
  have h := h x23 e22
  have K := k2_I K e22 n20
  obtain ⟨b24, e25, h⟩ := h
  refine ⟨b24, e25, ?_⟩
  obtain ⟨c26, h⟩ := h
  refine ⟨c26, ?_⟩
  have n27 := k2_ne K c26 (by decide)
  obtain ⟨c28, h⟩ := h
  refine ⟨c28, ?_⟩
  intro x30 e29
  have h := h x30 e29
  have K := k2_I K e29 n27
  exact ⟨h, K⟩
set_option maxRecDepth 20000 in
set_option maxHeartbeats 1000000 in
theorem kf_X11_takes_0 {Q : HS → Prop} {v0 : Nat} {v1 : Int32} {v2 : Int32} {v3 : Int64} {v5 : Int32} {S0 S : HS} (h : P_X11_takes_0 Q v0 v1 v2 v3 v5 S) (K : K2 S0 S) : P_X11_takes_0 (fun T => Q T ∧ K2 S0 T) v0 v1 v2 v3 v5 S := by
  delta P_X11_takes_0 at h ⊢
  obtain ⟨c1, h⟩ := h
  refine ⟨c1, ?_⟩
  have n2 := k2_ne K c1 (by decide)
  obtain ⟨b3, e4, h⟩ := h
  refine ⟨b3, e4, ?_⟩
  obtain ⟨c5, h⟩ := h
  refine ⟨c5, ?_⟩
  have n6 := k2_ne K c5 (by decide)
  obtain ⟨c7, h⟩ := h
  refine ⟨c7, ?_⟩
  intro x9 e8
  have h := h x9 e8
  refine ⟨?_, ?_⟩
  · intro c10
    have h := h.1 c10
    obtain ⟨b11, e12, h⟩ := h
    refine ⟨b11, e12, ?_⟩
    obtain ⟨c13, h⟩ := h
    refine ⟨c13, ?_⟩
    have n14 := k2_ne K c13 (by decide)
    obtain ⟨c15, h⟩ := h
    refine ⟨c15, ?_⟩
    intro x17 e16
    have h := h x17 e16
    intro x19 e18
    have h := h x19 e18
    obtain ⟨b20, e21, h⟩ := h
    refine ⟨b20, e21, ?_⟩
    obtain ⟨c22, h⟩ := h
    refine ⟨c22, ?_⟩
    have n23 := k2_ne K c22 (by decide)
    obtain ⟨c24, h⟩ := h
    refine ⟨c24, ?_⟩
    intro x26 e25
    have h := h x26 e25
    refine ⟨?_, ?_⟩
    · intro c27
      have h := h.1 c27
      exact kf_X11_takes_77 h K
    · intro c28
      have h := h.2 c28
      obtain ⟨b29, e30, h⟩ := h
      refine ⟨b29, e30, ?_⟩
      obtain ⟨c31, h⟩ := h
      refine ⟨c31, ?_⟩
      have n32 := k2_ne K c31 (by decide)
      obtain ⟨c33, h⟩ := h
      refine ⟨c33, ?_⟩
      intro x35 e34
      have h := h x35 e34
      refine ⟨?_, ?_⟩
      · intro c36
        have h := h.1 c36
        exact ⟨h, K⟩
      · intro c37
        have h := h.2 c37
        obtain ⟨b38, e39, h⟩ := h
        refine ⟨b38, e39, ?_⟩
        obtain ⟨c40, h⟩ := h
        refine ⟨c40, ?_⟩
        have n41 := k2_ne K c40 (by decide)
        obtain ⟨c42, h⟩ := h
        refine ⟨c42, ?_⟩
        intro x44 e43
        have h := h x44 e43
        refine ⟨?_, ?_⟩
        · intro c45
          have h := h.1 c45
          exact kf_X11_takes_77 h K
        · intro c46
          have h := h.2 c46
          obtain ⟨b47, e48, h⟩ := h
          refine ⟨b47, e48, ?_⟩
          obtain ⟨c49, h⟩ := h
          refine ⟨c49, ?_⟩
          have n50 := k2_ne K c49 (by decide)
          obtain ⟨c51, h⟩ := h
          refine ⟨c51, ?_⟩
          intro x53 e52
          have h := h x53 e52
          obtain ⟨b54, e55, h⟩ := h
          refine ⟨b54, e55, ?_⟩
          obtain ⟨c56, h⟩ := h
          refine ⟨c56, ?_⟩
          have n57 := k2_ne K c56 (by decide)
          obtain ⟨c58, h⟩ := h
          refine ⟨c58, ?_⟩
          intro x60 e59
          have h := h x60 e59
          refine ⟨?_, ?_⟩
          · intro c61
            have h := h.1 c61
            exact kf_X11_takes_77 h K
          · intro c62
            have h := h.2 c62
            exact ⟨h, K⟩
  · intro c63
    have h := h.2 c63
    exact ⟨h, K⟩
theorem kf_X11_takes {Q : HS → Prop} {v0 : Nat} {v1 : Int32} {v2 : Int32} {v3 : Int64} {v5 : Int32} {S : HS} (h : P_X11_takes v0 v1 v2 v3 v5 Q S) : P_X11_takes v0 v1 v2 v3 v5 (fun T => Q T ∧ K2 S T) S := kf_X11_takes_0 h (k2_rf S)
set_option maxRecDepth 20000 in
set_option maxHeartbeats 1000000 in
theorem kf_X11_waitsOf_0 {Q : Int64 → HS → Prop} {v0 : Nat} {v1 : Int32} {v2 : Int32} {v3 : Int32} {S0 S : HS} (h : P_X11_waitsOf_0 Q v0 v1 v2 v3 S) (K : K2 S0 S) : P_X11_waitsOf_0 (fun r T => Q r T ∧ K2 S0 T) v0 v1 v2 v3 S := by
  delta P_X11_waitsOf_0 at h ⊢
  obtain ⟨c1, h⟩ := h
  refine ⟨c1, ?_⟩
  have n2 := k2_ne K c1 (by decide)
  refine cm_X11_hourOf (kf_X11_hourOf h) h (fun x3 x4 hp h g5 => ?_)
  have h := h g5
  have K := k2_tr K hp.2
  obtain ⟨b6, e7, h⟩ := h
  refine ⟨b6, e7, ?_⟩
  obtain ⟨c8, h⟩ := h
  refine ⟨c8, ?_⟩
  have n9 := k2_ne K c8 (by decide)
  obtain ⟨b10, e11, h⟩ := h
  refine ⟨b10, e11, ?_⟩
  obtain ⟨c12, h⟩ := h
  refine ⟨c12, ?_⟩
  have n13 := k2_ne K c12 (by decide)
  obtain ⟨c14, h⟩ := h
  refine ⟨c14, ?_⟩
  intro x16 e15
  have h := h x16 e15
  refine ⟨?_, ?_⟩
  · intro c17
    have h := h.1 c17
    exact ⟨h, K⟩
  · intro c18
    have h := h.2 c18
    obtain ⟨b19, e20, h⟩ := h
    refine ⟨b19, e20, ?_⟩
    obtain ⟨c21, h⟩ := h
    refine ⟨c21, ?_⟩
    have n22 := k2_ne K c21 (by decide)
    intro x24 e23
    have h := h x24 e23
    refine ⟨?_, ?_⟩
    · intro c25
      have h := h.1 c25
      refine cm_X11_drips (kf_X11_drips h) h (fun x26 x27 hp h g28 => ?_)
      have h := h g28
      have K := k2_tr K hp.2
      obtain ⟨b29, e30, h⟩ := h
      refine ⟨b29, e30, ?_⟩
      obtain ⟨c31, h⟩ := h
      refine ⟨c31, ?_⟩
      have n32 := k2_ne K c31 (by decide)
      obtain ⟨b33, e34, h⟩ := h
      refine ⟨b33, e34, ?_⟩
      obtain ⟨c35, h⟩ := h
      refine ⟨c35, ?_⟩
      have n36 := k2_ne K c35 (by decide)
      obtain ⟨c37, h⟩ := h
      refine ⟨c37, ?_⟩
      intro x39 e38
      have h := h x39 e38
      exact ⟨h, K⟩
    · intro c40
      have h := h.2 c40
      exact ⟨h, K⟩
theorem kf_X11_waitsOf {Q : Int64 → HS → Prop} {v0 : Nat} {v1 : Int32} {v2 : Int32} {v3 : Int32} {S : HS} (h : P_X11_waitsOf v0 v1 v2 v3 Q S) : P_X11_waitsOf v0 v1 v2 v3 (fun r T => Q r T ∧ K2 S T) S := kf_X11_waitsOf_0 h (k2_rf S)
set_option maxRecDepth 20000 in
set_option maxHeartbeats 1000000 in
theorem kf_X11_tries_140 {Q : HS → Prop} {X3 X3_2 : Nat → Int32 → Int32 → Int32 → Int32 → Int32 → HS → Prop} {X18 X18_2 : Nat → Int32 → Int32 → Int32 → Int32 → Int32 → Int32 → HS → Prop} {X53 X53_2 : Nat → Int32 → Int32 → Int32 → Int32 → Int32 → Int32 → Int32 → HS → Prop} {v0 : Nat} {v1 : Int32} {v2 : Int32} {v3 : Int32} {v4 : Int32} {v5 : Int32} {v6 : Int32} {v7 : Int32} {S0 S : HS} (h : P_X11_tries_140 Q X3 X18 X53 v0 v1 v2 v3 v4 v5 v6 v7 S) (K : K2 S0 S) (hX3 : ∀ (u0 : Nat) (u1 : Int32) (u2 : Int32) (u3 : Int32) (u4 : Int32) (u5 : Int32) (u6 : HS), X3 u0 u1 u2 u3 u4 u5 u6 → K2 S0 u6 → X3_2 u0 u1 u2 u3 u4 u5 u6) (hX18 : ∀ (u0 : Nat) (u1 : Int32) (u2 : Int32) (u3 : Int32) (u4 : Int32) (u5 : Int32) (u6 : Int32) (u7 : HS), X18 u0 u1 u2 u3 u4 u5 u6 u7 → K2 S0 u7 → X18_2 u0 u1 u2 u3 u4 u5 u6 u7) (hX53 : ∀ (u0 : Nat) (u1 : Int32) (u2 : Int32) (u3 : Int32) (u4 : Int32) (u5 : Int32) (u6 : Int32) (u7 : Int32) (u8 : HS), X53 u0 u1 u2 u3 u4 u5 u6 u7 u8 → K2 S0 u8 → X53_2 u0 u1 u2 u3 u4 u5 u6 u7 u8) : P_X11_tries_140 (fun T => Q T ∧ K2 S0 T) X3_2 X18_2 X53_2 v0 v1 v2 v3 v4 v5 v6 v7 S := by
  delta P_X11_tries_140 at h ⊢
  intro x2 e1
  have h := h x2 e1
  exact hX53 _ _ _ _ _ _ _ _ _ h K
set_option maxRecDepth 20000 in
set_option maxHeartbeats 1000000 in
theorem kf_X11_tries_146 {Q : HS → Prop} {X3 X3_2 : Nat → Int32 → Int32 → Int32 → Int32 → Int32 → HS → Prop} {X18 X18_2 : Nat → Int32 → Int32 → Int32 → Int32 → Int32 → Int32 → HS → Prop} {v0 : Nat} {v1 : Int32} {v2 : Int32} {v3 : Int32} {v4 : Int32} {v5 : Int32} {v6 : Int32} {S0 S : HS} (h : P_X11_tries_146 Q X3 X18 v0 v1 v2 v3 v4 v5 v6 S) (K : K2 S0 S) (hX3 : ∀ (u0 : Nat) (u1 : Int32) (u2 : Int32) (u3 : Int32) (u4 : Int32) (u5 : Int32) (u6 : HS), X3 u0 u1 u2 u3 u4 u5 u6 → K2 S0 u6 → X3_2 u0 u1 u2 u3 u4 u5 u6) (hX18 : ∀ (u0 : Nat) (u1 : Int32) (u2 : Int32) (u3 : Int32) (u4 : Int32) (u5 : Int32) (u6 : Int32) (u7 : HS), X18 u0 u1 u2 u3 u4 u5 u6 u7 → K2 S0 u7 → X18_2 u0 u1 u2 u3 u4 u5 u6 u7) : P_X11_tries_146 (fun T => Q T ∧ K2 S0 T) X3_2 X18_2 v0 v1 v2 v3 v4 v5 v6 S := by
  delta P_X11_tries_146 at h ⊢
  intro x2 e1
  have h := h x2 e1
  exact hX18 _ _ _ _ _ _ _ _ h K
set_option maxRecDepth 20000 in
set_option maxHeartbeats 1000000 in
theorem kfB_X11_tries_53 {Q : HS → Prop} {X3 X3_2 : Nat → Int32 → Int32 → Int32 → Int32 → Int32 → HS → Prop} {X18 X18_2 : Nat → Int32 → Int32 → Int32 → Int32 → Int32 → Int32 → HS → Prop} {X53 X53_2 : Nat → Int32 → Int32 → Int32 → Int32 → Int32 → Int32 → Int32 → HS → Prop} {v0 : Nat} {v1 : Int32} {v2 : Int32} {v3 : Int32} {v4 : Int32} {v5 : Int32} {v6 : Int32} {v7 : Int32} {S0 S : HS} (h : B_X11_tries_53 Q X3 X18 X53 v0 v1 v2 v3 v4 v5 v6 v7 S) (K : K2 S0 S) (hX3 : ∀ (u0 : Nat) (u1 : Int32) (u2 : Int32) (u3 : Int32) (u4 : Int32) (u5 : Int32) (u6 : HS), X3 u0 u1 u2 u3 u4 u5 u6 → K2 S0 u6 → X3_2 u0 u1 u2 u3 u4 u5 u6) (hX18 : ∀ (u0 : Nat) (u1 : Int32) (u2 : Int32) (u3 : Int32) (u4 : Int32) (u5 : Int32) (u6 : Int32) (u7 : HS), X18 u0 u1 u2 u3 u4 u5 u6 u7 → K2 S0 u7 → X18_2 u0 u1 u2 u3 u4 u5 u6 u7) (hX53 : ∀ (u0 : Nat) (u1 : Int32) (u2 : Int32) (u3 : Int32) (u4 : Int32) (u5 : Int32) (u6 : Int32) (u7 : Int32) (u8 : HS), X53 u0 u1 u2 u3 u4 u5 u6 u7 u8 → K2 S0 u8 → X53_2 u0 u1 u2 u3 u4 u5 u6 u7 u8) : B_X11_tries_53 (fun T => Q T ∧ K2 S0 T) X3_2 X18_2 X53_2 v0 v1 v2 v3 v4 v5 v6 v7 S := by
  delta B_X11_tries_53 at h ⊢
  obtain ⟨c1, h⟩ := h
  refine ⟨c1, ?_⟩
  have n2 := k2_ne K c1 (by decide)
  obtain ⟨b3, e4, h⟩ := h
  refine ⟨b3, e4, ?_⟩
  obtain ⟨c5, h⟩ := h
  refine ⟨c5, ?_⟩
  have n6 := k2_ne K c5 (by decide)
  obtain ⟨b7, e8, h⟩ := h
  refine ⟨b7, e8, ?_⟩
  obtain ⟨c9, h⟩ := h
  refine ⟨c9, ?_⟩
  have n10 := k2_ne K c9 (by decide)
  obtain ⟨c11, h⟩ := h
  refine ⟨c11, ?_⟩
  intro x13 e12
  have h := h x13 e12
  refine ⟨?_, ?_⟩
  · intro c14
    have h := h.1 c14
    exact kf_X11_tries_146 h K hX3 hX18
  · intro c15
    have h := h.2 c15
    obtain ⟨b16, e17, h⟩ := h
    refine ⟨b16, e17, ?_⟩
    obtain ⟨c18, h⟩ := h
    refine ⟨c18, ?_⟩
    have n19 := k2_ne K c18 (by decide)
    refine cm_X10_minutes (kf_X10_minutes h) h (fun x20 x21 hp h g22 => ?_)
    have h := h g22
    have K := k2_tr K hp.2
    intro x24 e23
    have h := h x24 e23
    refine ⟨?_, ?_⟩
    · intro c25
      have h := h.1 c25
      exact kf_X11_tries_140 h K hX3 hX18 hX53
    · intro c26
      have h := h.2 c26
      refine cm_X11_spotOf (kf_X11_spotOf h) h (fun x27 x28 hp h g29 => ?_)
      have h := h g29
      have K := k2_tr K hp.2
      obtain ⟨b30, e31, h⟩ := h
      refine ⟨b30, e31, ?_⟩
      obtain ⟨c32, h⟩ := h
      refine ⟨c32, ?_⟩
      have n33 := k2_ne K c32 (by decide)
      refine cm_X10_ends (kf_X10_ends h) h (fun x34 x35 hp h g36 => ?_)
      have h := h g36
      have K := k2_tr K hp.2
      refine cm_X11_spotOf (kf_X11_spotOf h) h (fun x37 x38 hp h g39 => ?_)
      have h := h g39
      have K := k2_tr K hp.2
      refine cm_X11_meanOf (kf_X11_meanOf h) h (fun x40 x41 hp h g42 => ?_)
      have h := h g42
      have K := k2_tr K hp.2
      refine cm_X11_takes (kf_X11_takes h) h (fun x43 hp h g44 => ?_)
      have h := h g44
      have K := k2_tr K hp.2
      exact kf_X11_tries_140 h K hX3 hX18 hX53
theorem kf_X11_tries_53 {Q : HS → Prop} {X3 X3_2 : Nat → Int32 → Int32 → Int32 → Int32 → Int32 → HS → Prop} {X18 X18_2 : Nat → Int32 → Int32 → Int32 → Int32 → Int32 → Int32 → HS → Prop} {v0 : Nat} {v1 : Int32} {v2 : Int32} {v3 : Int32} {v4 : Int32} {v5 : Int32} {v6 : Int32} {v7 : Int32} {S0 S : HS} (h : P_X11_tries_53 Q X3 X18 v0 v1 v2 v3 v4 v5 v6 v7 S) (K : K2 S0 S) (hX3 : ∀ (u0 : Nat) (u1 : Int32) (u2 : Int32) (u3 : Int32) (u4 : Int32) (u5 : Int32) (u6 : HS), X3 u0 u1 u2 u3 u4 u5 u6 → K2 S0 u6 → X3_2 u0 u1 u2 u3 u4 u5 u6) (hX18 : ∀ (u0 : Nat) (u1 : Int32) (u2 : Int32) (u3 : Int32) (u4 : Int32) (u5 : Int32) (u6 : Int32) (u7 : HS), X18 u0 u1 u2 u3 u4 u5 u6 u7 → K2 S0 u7 → X18_2 u0 u1 u2 u3 u4 u5 u6 u7) : P_X11_tries_53 (fun T => Q T ∧ K2 S0 T) X3_2 X18_2 v0 v1 v2 v3 v4 v5 v6 v7 S := h (fun v0 v1 v2 v3 v4 v5 v6 v7 S => K2 S0 S → P_X11_tries_53 (fun T => Q T ∧ K2 S0 T) X3_2 X18_2 v0 v1 v2 v3 v4 v5 v6 v7 S) (fun v0 v1 v2 v3 v4 v5 v6 v7 S hB K => fd_X11_tries_53 (kfB_X11_tries_53 hB K hX3 hX18 (fun _ _ _ _ _ _ _ _ _ hx K => hx K))) K
set_option maxRecDepth 20000 in
set_option maxHeartbeats 1000000 in
theorem kfB_X11_tries_18 {Q : HS → Prop} {X3 X3_2 : Nat → Int32 → Int32 → Int32 → Int32 → Int32 → HS → Prop} {X18 X18_2 : Nat → Int32 → Int32 → Int32 → Int32 → Int32 → Int32 → HS → Prop} {v0 : Nat} {v1 : Int32} {v2 : Int32} {v3 : Int32} {v4 : Int32} {v5 : Int32} {v6 : Int32} {S0 S : HS} (h : B_X11_tries_18 Q X3 X18 v0 v1 v2 v3 v4 v5 v6 S) (K : K2 S0 S) (hX3 : ∀ (u0 : Nat) (u1 : Int32) (u2 : Int32) (u3 : Int32) (u4 : Int32) (u5 : Int32) (u6 : HS), X3 u0 u1 u2 u3 u4 u5 u6 → K2 S0 u6 → X3_2 u0 u1 u2 u3 u4 u5 u6) (hX18 : ∀ (u0 : Nat) (u1 : Int32) (u2 : Int32) (u3 : Int32) (u4 : Int32) (u5 : Int32) (u6 : Int32) (u7 : HS), X18 u0 u1 u2 u3 u4 u5 u6 u7 → K2 S0 u7 → X18_2 u0 u1 u2 u3 u4 u5 u6 u7) : B_X11_tries_18 (fun T => Q T ∧ K2 S0 T) X3_2 X18_2 v0 v1 v2 v3 v4 v5 v6 S := by
  delta B_X11_tries_18 at h ⊢
  refine ⟨?_, ?_⟩
  · intro c1
    have h := h.1 c1
    intro x3 e2
    have h := h x3 e2
    exact hX3 _ _ _ _ _ _ _ h K
  · intro c4
    have h := h.2 c4
    obtain ⟨c5, h⟩ := h
    refine ⟨c5, ?_⟩
    have n6 := k2_ne K c5 (by decide)
    obtain ⟨b7, e8, h⟩ := h
    refine ⟨b7, e8, ?_⟩
    obtain ⟨c9, h⟩ := h
    refine ⟨c9, ?_⟩
    have n10 := k2_ne K c9 (by decide)
    refine cm_X10_begins (kf_X10_begins h) h (fun x11 x12 hp h g13 => ?_)
    have h := h g13
    have K := k2_tr K hp.2
    refine ⟨?_, ?_⟩
    · intro c14
      have h := h.1 c14
      obtain ⟨b15, e16, h⟩ := h
      refine ⟨b15, e16, ?_⟩
      obtain ⟨c17, h⟩ := h
      refine ⟨c17, ?_⟩
      have n18 := k2_ne K c17 (by decide)
      obtain ⟨b19, e20, h⟩ := h
      refine ⟨b19, e20, ?_⟩
      obtain ⟨c21, h⟩ := h
      refine ⟨c21, ?_⟩
      have n22 := k2_ne K c21 (by decide)
      obtain ⟨c23, h⟩ := h
      refine ⟨c23, ?_⟩
      intro x25 e24
      have h := h x25 e24
      exact kf_X11_tries_53 h K hX3 hX18
    · intro c26
      have h := h.2 c26
      exact kf_X11_tries_146 h K hX3 hX18
theorem kf_X11_tries_18 {Q : HS → Prop} {X3 X3_2 : Nat → Int32 → Int32 → Int32 → Int32 → Int32 → HS → Prop} {v0 : Nat} {v1 : Int32} {v2 : Int32} {v3 : Int32} {v4 : Int32} {v5 : Int32} {v6 : Int32} {S0 S : HS} (h : P_X11_tries_18 Q X3 v0 v1 v2 v3 v4 v5 v6 S) (K : K2 S0 S) (hX3 : ∀ (u0 : Nat) (u1 : Int32) (u2 : Int32) (u3 : Int32) (u4 : Int32) (u5 : Int32) (u6 : HS), X3 u0 u1 u2 u3 u4 u5 u6 → K2 S0 u6 → X3_2 u0 u1 u2 u3 u4 u5 u6) : P_X11_tries_18 (fun T => Q T ∧ K2 S0 T) X3_2 v0 v1 v2 v3 v4 v5 v6 S := h (fun v0 v1 v2 v3 v4 v5 v6 S => K2 S0 S → P_X11_tries_18 (fun T => Q T ∧ K2 S0 T) X3_2 v0 v1 v2 v3 v4 v5 v6 S) (fun v0 v1 v2 v3 v4 v5 v6 S hB K => fd_X11_tries_18 (kfB_X11_tries_18 hB K hX3 (fun _ _ _ _ _ _ _ _ hx K => hx K))) K
set_option maxRecDepth 20000 in
set_option maxHeartbeats 1000000 in
theorem kfB_X11_tries_3 {Q : HS → Prop} {X3 X3_2 : Nat → Int32 → Int32 → Int32 → Int32 → Int32 → HS → Prop} {v0 : Nat} {v1 : Int32} {v2 : Int32} {v3 : Int32} {v4 : Int32} {v5 : Int32} {S0 S : HS} (h : B_X11_tries_3 Q X3 v0 v1 v2 v3 v4 v5 S) (K : K2 S0 S) (hX3 : ∀ (u0 : Nat) (u1 : Int32) (u2 : Int32) (u3 : Int32) (u4 : Int32) (u5 : Int32) (u6 : HS), X3 u0 u1 u2 u3 u4 u5 u6 → K2 S0 u6 → X3_2 u0 u1 u2 u3 u4 u5 u6) : B_X11_tries_3 (fun T => Q T ∧ K2 S0 T) X3_2 v0 v1 v2 v3 v4 v5 S := by
  delta B_X11_tries_3 at h ⊢
  obtain ⟨c1, h⟩ := h
  refine ⟨c1, ?_⟩
  have n2 := k2_ne K c1 (by decide)
  obtain ⟨b3, e4, h⟩ := h
  refine ⟨b3, e4, ?_⟩
  obtain ⟨c5, h⟩ := h
  refine ⟨c5, ?_⟩
  have n6 := k2_ne K c5 (by decide)
  intro x8 e7
  have h := h x8 e7
  refine ⟨?_, ?_⟩
  · intro c9
    have h := h.1 c9
    refine cm_X11_canWait (kf_X11_canWait h) h (fun x10 x11 hp h g12 g13 => ?_)
    have h := h g12 g13
    have K := k2_tr K hp.2
    refine ⟨?_, ?_⟩
    · intro c14
      have h := h.1 c14
      exact ⟨h, K⟩
    · intro c15
      have h := h.2 c15
      refine ⟨?_, ?_⟩
      · intro c16
        have h := h.1 c16
        exact ⟨h, K⟩
      · intro c17
        have h := h.2 c17
        refine cm_X11_spotOf (kf_X11_spotOf h) h (fun x18 x19 hp h g20 => ?_)
        have h := h g20
        have K := k2_tr K hp.2
        refine cm_X11_spotOf (kf_X11_spotOf h) h (fun x21 x22 hp h g23 => ?_)
        have h := h g23
        have K := k2_tr K hp.2
        refine cm_X11_waitsOf (kf_X11_waitsOf h) h (fun x24 x25 hp h g26 => ?_)
        have h := h g26
        have K := k2_tr K hp.2
        refine cm_X11_takes (kf_X11_takes h) h (fun x27 hp h g28 => ?_)
        have h := h g28
        have K := k2_tr K hp.2
        exact ⟨h, K⟩
  · intro c29
    have h := h.2 c29
    exact kf_X11_tries_18 h K hX3
theorem kf_X11_tries_3 {Q : HS → Prop} {v0 : Nat} {v1 : Int32} {v2 : Int32} {v3 : Int32} {v4 : Int32} {v5 : Int32} {S0 S : HS} (h : P_X11_tries_3 Q v0 v1 v2 v3 v4 v5 S) (K : K2 S0 S) : P_X11_tries_3 (fun T => Q T ∧ K2 S0 T) v0 v1 v2 v3 v4 v5 S := h (fun v0 v1 v2 v3 v4 v5 S => K2 S0 S → P_X11_tries_3 (fun T => Q T ∧ K2 S0 T) v0 v1 v2 v3 v4 v5 S) (fun v0 v1 v2 v3 v4 v5 S hB K => fd_X11_tries_3 (kfB_X11_tries_3 hB K (fun _ _ _ _ _ _ _ hx K => hx K))) K
set_option maxRecDepth 20000 in
set_option maxHeartbeats 1000000 in
theorem kf_X11_tries_0 {Q : HS → Prop} {v0 : Nat} {v1 : Int32} {v2 : Int32} {v3 : Int32} {v4 : Int32} {S0 S : HS} (h : P_X11_tries_0 Q v0 v1 v2 v3 v4 S) (K : K2 S0 S) : P_X11_tries_0 (fun T => Q T ∧ K2 S0 T) v0 v1 v2 v3 v4 S := by
  delta P_X11_tries_0 at h ⊢
  exact kf_X11_tries_3 h K
theorem kf_X11_tries {Q : HS → Prop} {v0 : Nat} {v1 : Int32} {v2 : Int32} {v3 : Int32} {v4 : Int32} {S : HS} (h : P_X11_tries v0 v1 v2 v3 v4 Q S) : P_X11_tries v0 v1 v2 v3 v4 (fun T => Q T ∧ K2 S T) S := kf_X11_tries_0 h (k2_rf S)
set_option maxRecDepth 20000 in
set_option maxHeartbeats 1000000 in
theorem kf_X11_laysWays_85 {Q : HS → Prop} {X3 X3_2 : Nat → Int32 → Int32 → Int32 → Int32 → HS → Prop} {X11 X11_2 : Nat → Int32 → Int32 → Int32 → Int32 → Int32 → HS → Prop} {v0 : Nat} {v1 : Int32} {v2 : Int32} {v3 : Int32} {v4 : Int32} {v5 : Int32} {S0 S : HS} (h : P_X11_laysWays_85 Q X3 X11 v0 v1 v2 v3 v4 v5 S) (K : K2 S0 S) (hX3 : ∀ (u0 : Nat) (u1 : Int32) (u2 : Int32) (u3 : Int32) (u4 : Int32) (u5 : HS), X3 u0 u1 u2 u3 u4 u5 → K2 S0 u5 → X3_2 u0 u1 u2 u3 u4 u5) (hX11 : ∀ (u0 : Nat) (u1 : Int32) (u2 : Int32) (u3 : Int32) (u4 : Int32) (u5 : Int32) (u6 : HS), X11 u0 u1 u2 u3 u4 u5 u6 → K2 S0 u6 → X11_2 u0 u1 u2 u3 u4 u5 u6) : P_X11_laysWays_85 (fun T => Q T ∧ K2 S0 T) X3_2 X11_2 v0 v1 v2 v3 v4 v5 S := by
  delta P_X11_laysWays_85 at h ⊢
  intro x2 e1
  have h := h x2 e1
  exact hX11 _ _ _ _ _ _ _ h K
set_option maxRecDepth 20000 in
set_option maxHeartbeats 1000000 in
theorem kf_X11_laysWays_51 {Q : HS → Prop} {X3 X3_2 : Nat → Int32 → Int32 → Int32 → Int32 → HS → Prop} {X11 X11_2 : Nat → Int32 → Int32 → Int32 → Int32 → Int32 → HS → Prop} {v0 : Nat} {v1 : Int32} {v2 : Int32} {v3 : Int32} {v4 : Int32} {v5 : Int32} {v6 : Int32} {s0 : Nat} {s1 : Int32} {s2 : Int64} {S0 S : HS} (h : P_X11_laysWays_51 Q X3 X11 v0 v1 v2 v3 v4 v5 v6 s0 s1 s2 S) (K : K2 S0 S) (hX3 : ∀ (u0 : Nat) (u1 : Int32) (u2 : Int32) (u3 : Int32) (u4 : Int32) (u5 : HS), X3 u0 u1 u2 u3 u4 u5 → K2 S0 u5 → X3_2 u0 u1 u2 u3 u4 u5) (hX11 : ∀ (u0 : Nat) (u1 : Int32) (u2 : Int32) (u3 : Int32) (u4 : Int32) (u5 : Int32) (u6 : HS), X11 u0 u1 u2 u3 u4 u5 u6 → K2 S0 u6 → X11_2 u0 u1 u2 u3 u4 u5 u6) : P_X11_laysWays_51 (fun T => Q T ∧ K2 S0 T) X3_2 X11_2 v0 v1 v2 v3 v4 v5 v6 s0 s1 s2 S := by
  delta P_X11_laysWays_51 at h ⊢
  obtain ⟨c1, h⟩ := h
  refine ⟨c1, ?_⟩
  have n2 := k2_ne K c1 (by decide)
  obtain ⟨c3, h⟩ := h
  refine ⟨c3, ?_⟩
  intro x5 e4
  have h := h x5 e4
  have K := k2_J K e4
  obtain ⟨c6, h⟩ := h
  refine ⟨c6, ?_⟩
  have n7 := k2_ne K c6 (by decide)
  obtain ⟨b8, e9, h⟩ := h
  refine ⟨b8, e9, ?_⟩
  obtain ⟨c10, h⟩ := h
  refine ⟨c10, ?_⟩
  have n11 := k2_ne K c10 (by decide)
  obtain ⟨c12, h⟩ := h
  refine ⟨c12, ?_⟩
  intro x14 e13
  have h := h x14 e13
  have K := k2_I K e13 n11
  obtain ⟨b15, e16, h⟩ := h
  refine ⟨b15, e16, ?_⟩
  obtain ⟨c17, h⟩ := h
  refine ⟨c17, ?_⟩
  have n18 := k2_ne K c17 (by decide)
  obtain ⟨c19, h⟩ := h
  refine ⟨c19, ?_⟩
  intro x21 e20
  have h := h x21 e20
  have K := k2_I K e20 n18
  refine ⟨?_, ?_⟩
  · intro c22
    have h := h.1 c22
    exact kf_X11_laysWays_85 h K hX3 hX11
  · intro c23
    have h := h.2 c23
    refine cm_X11_tries (kf_X11_tries h) h (fun x24 hp h g25 => ?_)
    have h := h g25
    have K := k2_tr K hp.2
    exact kf_X11_laysWays_85 h K hX3 hX11
set_option maxRecDepth 20000 in
set_option maxHeartbeats 1000000 in
theorem kfB_X11_laysWays_11 {Q : HS → Prop} {X3 X3_2 : Nat → Int32 → Int32 → Int32 → Int32 → HS → Prop} {X11 X11_2 : Nat → Int32 → Int32 → Int32 → Int32 → Int32 → HS → Prop} {v0 : Nat} {v1 : Int32} {v2 : Int32} {v3 : Int32} {v4 : Int32} {v5 : Int32} {S0 S : HS} (h : B_X11_laysWays_11 Q X3 X11 v0 v1 v2 v3 v4 v5 S) (K : K2 S0 S) (hX3 : ∀ (u0 : Nat) (u1 : Int32) (u2 : Int32) (u3 : Int32) (u4 : Int32) (u5 : HS), X3 u0 u1 u2 u3 u4 u5 → K2 S0 u5 → X3_2 u0 u1 u2 u3 u4 u5) (hX11 : ∀ (u0 : Nat) (u1 : Int32) (u2 : Int32) (u3 : Int32) (u4 : Int32) (u5 : Int32) (u6 : HS), X11 u0 u1 u2 u3 u4 u5 u6 → K2 S0 u6 → X11_2 u0 u1 u2 u3 u4 u5 u6) : B_X11_laysWays_11 (fun T => Q T ∧ K2 S0 T) X3_2 X11_2 v0 v1 v2 v3 v4 v5 S := by
  delta B_X11_laysWays_11 at h ⊢
  obtain ⟨c1, h⟩ := h
  refine ⟨c1, ?_⟩
  have n2 := k2_ne K c1 (by decide)
  obtain ⟨b3, e4, h⟩ := h
  refine ⟨b3, e4, ?_⟩
  obtain ⟨c5, h⟩ := h
  refine ⟨c5, ?_⟩
  have n6 := k2_ne K c5 (by decide)
  intro x8 e7
  have h := h x8 e7
  refine ⟨?_, ?_⟩
  · intro c9
    have h := h.1 c9
    intro x11 e10
    have h := h x11 e10
    exact hX3 _ _ _ _ _ _ h K
  · intro c12
    have h := h.2 c12
    refine cm_X11_spotOf (kf_X11_spotOf h) h (fun x13 x14 hp h g15 => ?_)
    have h := h g15
    have K := k2_tr K hp.2
    obtain ⟨b16, e17, h⟩ := h
    refine ⟨b16, e17, ?_⟩
    refine ⟨?_, ?_⟩
    · intro c18
      have h := h.1 c18
      exact kf_X11_laysWays_51 h K hX3 hX11
    · intro c19
      have h := h.2 c19
      exact kf_X11_laysWays_51 h K hX3 hX11
theorem kf_X11_laysWays_11 {Q : HS → Prop} {X3 X3_2 : Nat → Int32 → Int32 → Int32 → Int32 → HS → Prop} {v0 : Nat} {v1 : Int32} {v2 : Int32} {v3 : Int32} {v4 : Int32} {v5 : Int32} {S0 S : HS} (h : P_X11_laysWays_11 Q X3 v0 v1 v2 v3 v4 v5 S) (K : K2 S0 S) (hX3 : ∀ (u0 : Nat) (u1 : Int32) (u2 : Int32) (u3 : Int32) (u4 : Int32) (u5 : HS), X3 u0 u1 u2 u3 u4 u5 → K2 S0 u5 → X3_2 u0 u1 u2 u3 u4 u5) : P_X11_laysWays_11 (fun T => Q T ∧ K2 S0 T) X3_2 v0 v1 v2 v3 v4 v5 S := h (fun v0 v1 v2 v3 v4 v5 S => K2 S0 S → P_X11_laysWays_11 (fun T => Q T ∧ K2 S0 T) X3_2 v0 v1 v2 v3 v4 v5 S) (fun v0 v1 v2 v3 v4 v5 S hB K => fd_X11_laysWays_11 (kfB_X11_laysWays_11 hB K hX3 (fun _ _ _ _ _ _ _ hx K => hx K))) K
set_option maxRecDepth 20000 in
set_option maxHeartbeats 1000000 in
theorem kfB_X11_laysWays_3 {Q : HS → Prop} {X3 X3_2 : Nat → Int32 → Int32 → Int32 → Int32 → HS → Prop} {v0 : Nat} {v1 : Int32} {v2 : Int32} {v3 : Int32} {v4 : Int32} {S0 S : HS} (h : B_X11_laysWays_3 Q X3 v0 v1 v2 v3 v4 S) (K : K2 S0 S) (hX3 : ∀ (u0 : Nat) (u1 : Int32) (u2 : Int32) (u3 : Int32) (u4 : Int32) (u5 : HS), X3 u0 u1 u2 u3 u4 u5 → K2 S0 u5 → X3_2 u0 u1 u2 u3 u4 u5) : B_X11_laysWays_3 (fun T => Q T ∧ K2 S0 T) X3_2 v0 v1 v2 v3 v4 S := by
  delta B_X11_laysWays_3 at h ⊢
  refine ⟨?_, ?_⟩
  · intro c1
    have h := h.1 c1
    exact ⟨h, K⟩
  · intro c2
    have h := h.2 c2
    exact kf_X11_laysWays_11 h K hX3
theorem kf_X11_laysWays_3 {Q : HS → Prop} {v0 : Nat} {v1 : Int32} {v2 : Int32} {v3 : Int32} {v4 : Int32} {S0 S : HS} (h : P_X11_laysWays_3 Q v0 v1 v2 v3 v4 S) (K : K2 S0 S) : P_X11_laysWays_3 (fun T => Q T ∧ K2 S0 T) v0 v1 v2 v3 v4 S := h (fun v0 v1 v2 v3 v4 S => K2 S0 S → P_X11_laysWays_3 (fun T => Q T ∧ K2 S0 T) v0 v1 v2 v3 v4 S) (fun v0 v1 v2 v3 v4 S hB K => fd_X11_laysWays_3 (kfB_X11_laysWays_3 hB K (fun _ _ _ _ _ _ hx K => hx K))) K
set_option maxRecDepth 20000 in
set_option maxHeartbeats 1000000 in
theorem kf_X11_laysWays_0 {Q : HS → Prop} {v0 : Nat} {v1 : Int32} {v2 : Int32} {v3 : Int32} {S0 S : HS} (h : P_X11_laysWays_0 Q v0 v1 v2 v3 S) (K : K2 S0 S) : P_X11_laysWays_0 (fun T => Q T ∧ K2 S0 T) v0 v1 v2 v3 S := by
  delta P_X11_laysWays_0 at h ⊢
  exact kf_X11_laysWays_3 h K
theorem kf_X11_laysWays {Q : HS → Prop} {v0 : Nat} {v1 : Int32} {v2 : Int32} {v3 : Int32} {S : HS} (h : P_X11_laysWays v0 v1 v2 v3 Q S) : P_X11_laysWays v0 v1 v2 v3 (fun T => Q T ∧ K2 S T) S := kf_X11_laysWays_0 h (k2_rf S)
set_option maxRecDepth 20000 in
set_option maxHeartbeats 1000000 in
theorem kf_X11_refusesWay_0 {Q : Int32 → HS → Prop} {v0 : Nat} {v1 : Int32} {v2 : Int32} {v3 : Int32} {v4 : Int32} {v5 : Int32} {S0 S : HS} (h : P_X11_refusesWay_0 Q v0 v1 v2 v3 v4 v5 S) (K : K2 S0 S) : P_X11_refusesWay_0 (fun r T => Q r T ∧ K2 S0 T) v0 v1 v2 v3 v4 v5 S := by
  delta P_X11_refusesWay_0 at h ⊢
  obtain ⟨c1, h⟩ := h
  refine ⟨c1, ?_⟩
  have n2 := k2_ne K c1 (by decide)
  refine cm_X11_isWalker (kf_X11_isWalker h) h (fun x3 x4 hp h g5 g6 => ?_)
  have h := h g5 g6
  have K := k2_tr K hp.2
  refine ⟨?_, ?_⟩
  · intro c7
    have h := h.1 c7
    exact ⟨h, K⟩
  · intro c8
    have h := h.2 c8
    refine cm_X11_isPlace (kf_X11_isPlace h) h (fun x9 x10 hp h g11 g12 => ?_)
    have h := h g11 g12
    have K := k2_tr K hp.2
    refine ⟨?_, ?_⟩
    · intro c13
      have h := h.1 c13
      exact ⟨h, K⟩
    · intro c14
      have h := h.2 c14
      refine cm_X11_isPlace (kf_X11_isPlace h) h (fun x15 x16 hp h g17 g18 => ?_)
      have h := h g17 g18
      have K := k2_tr K hp.2
      refine ⟨?_, ?_⟩
      · intro c19
        have h := h.1 c19
        refine cm_X11_in (kf_X11_in h) h (fun x20 x21 hp h g22 g23 => ?_)
        have h := h g22 g23
        have K := k2_tr K hp.2
        refine ⟨?_, ?_⟩
        · intro c24
          have h := h.1 c24
          exact ⟨h, K⟩
        · intro c25
          have h := h.2 c25
          refine cm_X11_in (kf_X11_in h) h (fun x26 x27 hp h g28 g29 => ?_)
          have h := h g28 g29
          have K := k2_tr K hp.2
          refine ⟨?_, ?_⟩
          · intro c30
            have h := h.1 c30
            refine cm_X11_laysWays (kf_X11_laysWays h) h (fun x31 hp h g32 => ?_)
            have h := h g32
            have K := k2_tr K hp.2
            obtain ⟨b33, e34, h⟩ := h
            refine ⟨b33, e34, ?_⟩
            refine cm_X11_spotOf (kf_X11_spotOf h) h (fun x35 x36 hp h g37 => ?_)
            have h := h g37
            have K := k2_tr K hp.2
            obtain ⟨c38, h⟩ := h
            refine ⟨c38, ?_⟩
            have n39 := k2_ne K c38 (by decide)
            obtain ⟨c40, h⟩ := h
            refine ⟨c40, ?_⟩
            intro x42 e41
            have h := h x42 e41
            refine ⟨?_, ?_⟩
            · intro c43
              have h := h.1 c43
              exact ⟨h, K⟩
            · intro c44
              have h := h.2 c44
              exact ⟨h, K⟩
          · intro c45
            have h := h.2 c45
            exact ⟨h, K⟩
      · intro c46
        have h := h.2 c46
        exact ⟨h, K⟩
theorem kf_X11_refusesWay {Q : Int32 → HS → Prop} {v0 : Nat} {v1 : Int32} {v2 : Int32} {v3 : Int32} {v4 : Int32} {v5 : Int32} {S : HS} (h : P_X11_refusesWay v0 v1 v2 v3 v4 v5 Q S) : P_X11_refusesWay v0 v1 v2 v3 v4 v5 (fun r T => Q r T ∧ K2 S T) S := kf_X11_refusesWay_0 h (k2_rf S)
set_option maxRecDepth 20000 in
set_option maxHeartbeats 1000000 in
theorem kf_X11_least_0 {Q : Int64 → HS → Prop} {v0 : Nat} {v1 : Int32} {v2 : Int32} {v3 : Int32} {v4 : Int32} {v5 : Int32} {v6 : Int32} {S0 S : HS} (h : P_X11_least_0 Q v0 v1 v2 v3 v4 v5 v6 S) (K : K2 S0 S) : P_X11_least_0 (fun r T => Q r T ∧ K2 S0 T) v0 v1 v2 v3 v4 v5 v6 S := by
  delta P_X11_least_0 at h ⊢
  obtain ⟨c1, h⟩ := h
  refine ⟨c1, ?_⟩
  have n2 := k2_ne K c1 (by decide)
  intro x4 e3
  have h := h x4 e3
  have K := k2_I K e3 n2
  refine cm_X11_refusesWay (kf_X11_refusesWay h) h (fun x5 x6 hp h g7 => ?_)
  have h := h g7
  have K := k2_tr K hp.2
  refine ⟨?_, ?_⟩
  · intro c8
    have h := h.1 c8
    obtain ⟨b9, e10, h⟩ := h
    refine ⟨b9, e10, ?_⟩
    refine cm_X11_spotOf (kf_X11_spotOf h) h (fun x11 x12 hp h g13 => ?_)
    have h := h g13
    have K := k2_tr K hp.2
    obtain ⟨c14, h⟩ := h
    refine ⟨c14, ?_⟩
    have n15 := k2_ne K c14 (by decide)
    obtain ⟨c16, h⟩ := h
    refine ⟨c16, ?_⟩
    intro x18 e17
    have h := h x18 e17
    refine cm_X11_told (kf_X11_told h) h (fun x19 x20 hp h g21 => ?_)
    have h := h g21
    have K := k2_tr K hp.2
    exact ⟨h, K⟩
  · intro c22
    have h := h.2 c22
    refine cm_X11_refused (kf_X11_refused h) h (fun x23 x24 hp h g25 => ?_)
    have h := h g25
    have K := k2_tr K hp.2
    exact ⟨h, K⟩
theorem kf_X11_least {Q : Int64 → HS → Prop} {v0 : Nat} {v1 : Int32} {v2 : Int32} {v3 : Int32} {v4 : Int32} {v5 : Int32} {v6 : Int32} {S : HS} (h : P_X11_least v0 v1 v2 v3 v4 v5 v6 Q S) : P_X11_least v0 v1 v2 v3 v4 v5 v6 (fun r T => Q r T ∧ K2 S T) S := kf_X11_least_0 h (k2_rf S)
set_option maxRecDepth 20000 in
set_option maxHeartbeats 1000000 in
theorem kf_X11_led_80 {Q : Int32 → HS → Prop} {X9 X9_2 : Nat → Int32 → Int32 → Int32 → HS → Prop} {v0 : Nat} {v1 : Int32} {v2 : Int32} {v3 : Int32} {S0 S : HS} (h : P_X11_led_80 Q X9 v0 v1 v2 v3 S) (K : K2 S0 S) (hX9 : ∀ (u0 : Nat) (u1 : Int32) (u2 : Int32) (u3 : Int32) (u4 : HS), X9 u0 u1 u2 u3 u4 → K2 S0 u4 → X9_2 u0 u1 u2 u3 u4) : P_X11_led_80 (fun r T => Q r T ∧ K2 S0 T) X9_2 v0 v1 v2 v3 S := by
  delta P_X11_led_80 at h ⊢
  intro x2 e1
  have h := h x2 e1
  exact hX9 _ _ _ _ _ h K
set_option maxRecDepth 20000 in
set_option maxHeartbeats 1000000 in
theorem kf_X11_led_70 {Q : Int32 → HS → Prop} {X9 X9_2 : Nat → Int32 → Int32 → Int32 → HS → Prop} {v0 : Nat} {v1 : Int32} {v2 : Int32} {v3 : Int32} {S0 S : HS} (h : P_X11_led_70 Q X9 v0 v1 v2 v3 S) (K : K2 S0 S) (hX9 : ∀ (u0 : Nat) (u1 : Int32) (u2 : Int32) (u3 : Int32) (u4 : HS), X9 u0 u1 u2 u3 u4 → K2 S0 u4 → X9_2 u0 u1 u2 u3 u4) : P_X11_led_70 (fun r T => Q r T ∧ K2 S0 T) X9_2 v0 v1 v2 v3 S := by
  delta P_X11_led_70 at h ⊢
  refine ⟨?_, ?_⟩
  · intro c1
    have h := h.1 c1
    intro x3 e2
    have h := h x3 e2
    exact kf_X11_led_80 h K hX9
  · intro c4
    have h := h.2 c4
    exact ⟨h, K⟩
set_option maxRecDepth 20000 in
set_option maxHeartbeats 1000000 in
theorem kfB_X11_led_9 {Q : Int32 → HS → Prop} {X9 X9_2 : Nat → Int32 → Int32 → Int32 → HS → Prop} {v0 : Nat} {v1 : Int32} {v2 : Int32} {v3 : Int32} {S0 S : HS} (h : B_X11_led_9 Q X9 v0 v1 v2 v3 S) (K : K2 S0 S) (hX9 : ∀ (u0 : Nat) (u1 : Int32) (u2 : Int32) (u3 : Int32) (u4 : HS), X9 u0 u1 u2 u3 u4 → K2 S0 u4 → X9_2 u0 u1 u2 u3 u4) : B_X11_led_9 (fun r T => Q r T ∧ K2 S0 T) X9_2 v0 v1 v2 v3 S := by
  delta B_X11_led_9 at h ⊢
  obtain ⟨c1, h⟩ := h
  refine ⟨c1, ?_⟩
  have n2 := k2_ne K c1 (by decide)
  refine cm_X11_isDay (kf_X11_isDay h) h (fun x3 x4 hp h g5 g6 => ?_)
  have h := h g5 g6
  have K := k2_tr K hp.2
  refine ⟨?_, ?_⟩
  · intro c7
    have h := h.1 c7
    intro x9 e8
    have h := h x9 e8
    have K := k2_I K e8 n2
    exact ⟨h, K⟩
  · intro c10
    have h := h.2 c10
    obtain ⟨b11, e12, h⟩ := h
    refine ⟨b11, e12, ?_⟩
    obtain ⟨c13, h⟩ := h
    refine ⟨c13, ?_⟩
    have n14 := k2_ne K c13 (by decide)
    intro x16 e15
    have h := h x16 e15
    refine ⟨?_, ?_⟩
    · intro c17
      have h := h.1 c17
      intro x19 e18
      have h := h x19 e18
      have K := k2_I K e18 n2
      exact ⟨h, K⟩
    · intro c20
      have h := h.2 c20
      obtain ⟨b21, e22, h⟩ := h
      refine ⟨b21, e22, ?_⟩
      obtain ⟨c23, h⟩ := h
      refine ⟨c23, ?_⟩
      have n24 := k2_ne K c23 (by decide)
      obtain ⟨b25, e26, h⟩ := h
      refine ⟨b25, e26, ?_⟩
      obtain ⟨c27, h⟩ := h
      refine ⟨c27, ?_⟩
      have n28 := k2_ne K c27 (by decide)
      obtain ⟨c29, h⟩ := h
      refine ⟨c29, ?_⟩
      intro x31 e30
      have h := h x31 e30
      obtain ⟨b32, e33, h⟩ := h
      refine ⟨b32, e33, ?_⟩
      obtain ⟨c34, h⟩ := h
      refine ⟨c34, ?_⟩
      have n35 := k2_ne K c34 (by decide)
      obtain ⟨c36, h⟩ := h
      refine ⟨c36, ?_⟩
      intro x38 e37
      have h := h x38 e37
      refine ⟨?_, ?_⟩
      · intro c39
        have h := h.1 c39
        exact kf_X11_led_70 h K hX9
      · intro c40
        have h := h.2 c40
        obtain ⟨b41, e42, h⟩ := h
        refine ⟨b41, e42, ?_⟩
        obtain ⟨c43, h⟩ := h
        refine ⟨c43, ?_⟩
        have n44 := k2_ne K c43 (by decide)
        obtain ⟨b45, e46, h⟩ := h
        refine ⟨b45, e46, ?_⟩
        obtain ⟨c47, h⟩ := h
        refine ⟨c47, ?_⟩
        have n48 := k2_ne K c47 (by decide)
        obtain ⟨c49, h⟩ := h
        refine ⟨c49, ?_⟩
        intro x51 e50
        have h := h x51 e50
        obtain ⟨b52, e53, h⟩ := h
        refine ⟨b52, e53, ?_⟩
        obtain ⟨c54, h⟩ := h
        refine ⟨c54, ?_⟩
        have n55 := k2_ne K c54 (by decide)
        obtain ⟨c56, h⟩ := h
        refine ⟨c56, ?_⟩
        intro x58 e57
        have h := h x58 e57
        refine ⟨?_, ?_⟩
        · intro c59
          have h := h.1 c59
          exact kf_X11_led_70 h K hX9
        · intro c60
          have h := h.2 c60
          exact kf_X11_led_80 h K hX9
theorem kf_X11_led_9 {Q : Int32 → HS → Prop} {v0 : Nat} {v1 : Int32} {v2 : Int32} {v3 : Int32} {S0 S : HS} (h : P_X11_led_9 Q v0 v1 v2 v3 S) (K : K2 S0 S) : P_X11_led_9 (fun r T => Q r T ∧ K2 S0 T) v0 v1 v2 v3 S := h (fun v0 v1 v2 v3 S => K2 S0 S → P_X11_led_9 (fun r T => Q r T ∧ K2 S0 T) v0 v1 v2 v3 S) (fun v0 v1 v2 v3 S hB K => fd_X11_led_9 (kfB_X11_led_9 hB K (fun _ _ _ _ _ hx K => hx K))) K
set_option maxRecDepth 20000 in
set_option maxHeartbeats 1000000 in
theorem kf_X11_led_0 {Q : Int32 → HS → Prop} {v0 : Nat} {v1 : Int32} {S0 S : HS} (h : P_X11_led_0 Q v0 v1 S) (K : K2 S0 S) : P_X11_led_0 (fun r T => Q r T ∧ K2 S0 T) v0 v1 S := by
  delta P_X11_led_0 at h ⊢
  obtain ⟨c1, h⟩ := h
  refine ⟨c1, ?_⟩
  have n2 := k2_ne K c1 (by decide)
  intro x4 e3
  have h := h x4 e3
  have K := k2_I K e3 n2
  exact kf_X11_led_9 h K
theorem kf_X11_led {Q : Int32 → HS → Prop} {v0 : Nat} {v1 : Int32} {S : HS} (h : P_X11_led v0 v1 Q S) : P_X11_led v0 v1 (fun r T => Q r T ∧ K2 S T) S := kf_X11_led_0 h (k2_rf S)
set_option maxRecDepth 20000 in
set_option maxHeartbeats 1000000 in
theorem kf_X11_lee_0 {Q : Int64 → HS → Prop} {v0 : Nat} {v1 : Int32} {v2 : Int32} {v3 : Int32} {v4 : Int32} {v5 : Int32} {v6 : Int32} {v7 : Int32} {S0 S : HS} (h : P_X11_lee_0 Q v0 v1 v2 v3 v4 v5 v6 v7 S) (K : K2 S0 S) : P_X11_lee_0 (fun r T => Q r T ∧ K2 S0 T) v0 v1 v2 v3 v4 v5 v6 v7 S := by
  delta P_X11_lee_0 at h ⊢
  obtain ⟨c1, h⟩ := h
  refine ⟨c1, ?_⟩
  have n2 := k2_ne K c1 (by decide)
  intro x4 e3
  have h := h x4 e3
  have K := k2_I K e3 n2
  refine cm_X11_refusesTwo (kf_X11_refusesTwo h) h (fun x5 x6 hp h g7 => ?_)
  have h := h g7
  have K := k2_tr K hp.2
  refine ⟨?_, ?_⟩
  · intro c8
    have h := h.1 c8
    refine cm_X11_together (kf_X11_together h) h (fun x9 x10 hp h g11 => ?_)
    have h := h g11
    have K := k2_tr K hp.2
    refine cm_X11_told (kf_X11_told h) h (fun x12 x13 hp h g14 => ?_)
    have h := h g14
    have K := k2_tr K hp.2
    exact ⟨h, K⟩
  · intro c15
    have h := h.2 c15
    refine cm_X11_refused (kf_X11_refused h) h (fun x16 x17 hp h g18 => ?_)
    have h := h g18
    have K := k2_tr K hp.2
    exact ⟨h, K⟩
theorem kf_X11_lee {Q : Int64 → HS → Prop} {v0 : Nat} {v1 : Int32} {v2 : Int32} {v3 : Int32} {v4 : Int32} {v5 : Int32} {v6 : Int32} {v7 : Int32} {S : HS} (h : P_X11_lee v0 v1 v2 v3 v4 v5 v6 v7 Q S) : P_X11_lee v0 v1 v2 v3 v4 v5 v6 v7 (fun r T => Q r T ∧ K2 S T) S := kf_X11_lee_0 h (k2_rf S)
set_option maxRecDepth 20000 in
set_option maxHeartbeats 1000000 in
theorem kf_X11_lies_50 {Q : Int32 → HS → Prop} {X22 X22_2 : Nat → Int32 → Int32 → HS → Prop} {v0 : Nat} {v2 : Int32} {s0 : Int32} {s1 : Int32} {S0 S : HS} (h : P_X11_lies_50 Q X22 v0 v2 s0 s1 S) (K : K2 S0 S) (hX22 : ∀ (u0 : Nat) (u1 : Int32) (u2 : Int32) (u3 : HS), X22 u0 u1 u2 u3 → K2 S0 u3 → X22_2 u0 u1 u2 u3) : P_X11_lies_50 (fun r T => Q r T ∧ K2 S0 T) X22_2 v0 v2 s0 s1 S := by
  delta P_X11_lies_50 at h ⊢
  intro x2 e1
  have h := h x2 e1
  intro x4 e3
  have h := h x4 e3
  exact hX22 _ _ _ _ h K
set_option maxRecDepth 20000 in
set_option maxHeartbeats 1000000 in
theorem kfB_X11_lies_22 {Q : Int32 → HS → Prop} {X22 X22_2 : Nat → Int32 → Int32 → HS → Prop} {v0 : Nat} {v1 : Int32} {v2 : Int32} {S0 S : HS} (h : B_X11_lies_22 Q X22 v0 v1 v2 S) (K : K2 S0 S) (hX22 : ∀ (u0 : Nat) (u1 : Int32) (u2 : Int32) (u3 : HS), X22 u0 u1 u2 u3 → K2 S0 u3 → X22_2 u0 u1 u2 u3) : B_X11_lies_22 (fun r T => Q r T ∧ K2 S0 T) X22_2 v0 v1 v2 S := by
  delta B_X11_lies_22 at h ⊢
  obtain ⟨c1, h⟩ := h
  refine ⟨c1, ?_⟩
  have n2 := k2_ne K c1 (by decide)
  obtain ⟨b3, e4, h⟩ := h
  refine ⟨b3, e4, ?_⟩
  obtain ⟨c5, h⟩ := h
  refine ⟨c5, ?_⟩
  have n6 := k2_ne K c5 (by decide)
  intro x8 e7
  have h := h x8 e7
  refine ⟨?_, ?_⟩
  · intro c9
    have h := h.1 c9
    refine cm_X11_good (kf_X11_good h) h (fun x10 x11 hp h g12 => ?_)
    have h := h g12
    have K := k2_tr K hp.2
    exact ⟨h, K⟩
  · intro c13
    have h := h.2 c13
    refine cm_X11_fitOf (kf_X11_fitOf h) h (fun x14 x15 hp h g16 => ?_)
    have h := h g16
    have K := k2_tr K hp.2
    refine ⟨?_, ?_⟩
    · intro c17
      have h := h.1 c17
      exact kf_X11_lies_50 h K hX22
    · intro c18
      have h := h.2 c18
      exact kf_X11_lies_50 h K hX22
theorem kf_X11_lies_22 {Q : Int32 → HS → Prop} {v0 : Nat} {v1 : Int32} {v2 : Int32} {S0 S : HS} (h : P_X11_lies_22 Q v0 v1 v2 S) (K : K2 S0 S) : P_X11_lies_22 (fun r T => Q r T ∧ K2 S0 T) v0 v1 v2 S := h (fun v0 v1 v2 S => K2 S0 S → P_X11_lies_22 (fun r T => Q r T ∧ K2 S0 T) v0 v1 v2 S) (fun v0 v1 v2 S hB K => fd_X11_lies_22 (kfB_X11_lies_22 hB K (fun _ _ _ _ hx K => hx K))) K
set_option maxRecDepth 20000 in
set_option maxHeartbeats 1000000 in
theorem kf_X11_lies_0 {Q : Int32 → HS → Prop} {v0 : Nat} {S0 S : HS} (h : P_X11_lies_0 Q v0 S) (K : K2 S0 S) : P_X11_lies_0 (fun r T => Q r T ∧ K2 S0 T) v0 S := by
  delta P_X11_lies_0 at h ⊢
  obtain ⟨c1, h⟩ := h
  refine ⟨c1, ?_⟩
  have n2 := k2_ne K c1 (by decide)
  intro x4 e3
  have h := h x4 e3
  have K := k2_I K e3 n2
  refine ⟨?_, ?_⟩
  · intro c5
    have h := h.1 c5
    refine cm_X11_refused (kf_X11_refused h) h (fun x6 x7 hp h g8 => ?_)
    have h := h g8
    have K := k2_tr K hp.2
    exact ⟨h, K⟩
  · intro x9 c10
    have h := h.2 x9 c10
    exact kf_X11_lies_22 h K
theorem kf_X11_lies {Q : Int32 → HS → Prop} {v0 : Nat} {S : HS} (h : P_X11_lies v0 Q S) : P_X11_lies v0 (fun r T => Q r T ∧ K2 S T) S := kf_X11_lies_0 h (k2_rf S)
set_option maxRecDepth 20000 in
set_option maxHeartbeats 1000000 in
theorem kfB_X11_mark_34 {Q : Int32 → HS → Prop} {X34 X34_2 : Nat → Int32 → HS → Prop} {v0 : Nat} {v1 : Int32} {S0 S : HS} (h : B_X11_mark_34 Q X34 v0 v1 S) (K : K2 S0 S) (hX34 : ∀ (u0 : Nat) (u1 : Int32) (u2 : HS), X34 u0 u1 u2 → K2 S0 u2 → X34_2 u0 u1 u2) : B_X11_mark_34 (fun r T => Q r T ∧ K2 S0 T) X34_2 v0 v1 S := by
  delta B_X11_mark_34 at h ⊢
  refine ⟨?_, ?_⟩
  · intro c1
    have h := h.1 c1
    obtain ⟨c2, h⟩ := h
    refine ⟨c2, ?_⟩
    have n3 := k2_ne K c2 (by decide)
    intro x5 e4
    have h := h x5 e4
    intro x7 e6
    have h := h x7 e6
    intro x9 e8
    have h := h x9 e8
    have K := k2_I K e8 n3
    intro x11 e10
    have h := h x11 e10
    refine cm_X11_good (kf_X11_good h) h (fun x12 x13 hp h g14 => ?_)
    have h := h g14
    have K := k2_tr K hp.2
    exact ⟨h, K⟩
  · intro c15
    have h := h.2 c15
    obtain ⟨c16, h⟩ := h
    refine ⟨c16, ?_⟩
    have n17 := k2_ne K c16 (by decide)
    obtain ⟨b18, e19, h⟩ := h
    refine ⟨b18, e19, ?_⟩
    intro x21 e20
    have h := h x21 e20
    obtain ⟨b22, e23, h⟩ := h
    refine ⟨b22, e23, ?_⟩
    obtain ⟨c24, h⟩ := h
    refine ⟨c24, ?_⟩
    have n25 := k2_ne K c24 (by decide)
    obtain ⟨c26, h⟩ := h
    refine ⟨c26, ?_⟩
    intro x28 e27
    have h := h x28 e27
    obtain ⟨c29, h⟩ := h
    refine ⟨c29, ?_⟩
    have n30 := k2_ne K c29 (by decide)
    obtain ⟨c31, h⟩ := h
    refine ⟨c31, ?_⟩
    intro x33 e32
    have h := h x33 e32
    have K := k2_J K e32
    intro x35 e34
    have h := h x35 e34
    exact hX34 _ _ _ h K
theorem kf_X11_mark_34 {Q : Int32 → HS → Prop} {v0 : Nat} {v1 : Int32} {S0 S : HS} (h : P_X11_mark_34 Q v0 v1 S) (K : K2 S0 S) : P_X11_mark_34 (fun r T => Q r T ∧ K2 S0 T) v0 v1 S := h (fun v0 v1 S => K2 S0 S → P_X11_mark_34 (fun r T => Q r T ∧ K2 S0 T) v0 v1 S) (fun v0 v1 S hB K => fd_X11_mark_34 (kfB_X11_mark_34 hB K (fun _ _ _ hx K => hx K))) K
set_option maxRecDepth 20000 in
set_option maxHeartbeats 1000000 in
theorem kf_X11_mark_0 {Q : Int32 → HS → Prop} {v0 : Nat} {S0 S : HS} (h : P_X11_mark_0 Q v0 S) (K : K2 S0 S) : P_X11_mark_0 (fun r T => Q r T ∧ K2 S0 T) v0 S := by
  delta P_X11_mark_0 at h ⊢
  obtain ⟨c1, h⟩ := h
  refine ⟨c1, ?_⟩
  have n2 := k2_ne K c1 (by decide)
  intro x4 e3
  have h := h x4 e3
  have K := k2_I K e3 n2
  refine cm_X11_isDay (kf_X11_isDay h) h (fun x5 x6 hp h g7 g8 => ?_)
  have h := h g7 g8
  have K := k2_tr K hp.2
  refine ⟨?_, ?_⟩
  · intro c9
    have h := h.1 c9
    intro x11 e10
    have h := h x11 e10
    refine ⟨?_, ?_⟩
    · intro c12
      have h := h.1 c12
      exact kf_X11_mark_34 h K
    · intro c13
      have h := h.2 c13
      refine cm_X11_refused (kf_X11_refused h) h (fun x14 x15 hp h g16 => ?_)
      have h := h g16
      have K := k2_tr K hp.2
      exact ⟨h, K⟩
  · intro c17
    have h := h.2 c17
    refine cm_X11_refused (kf_X11_refused h) h (fun x18 x19 hp h g20 => ?_)
    have h := h g20
    have K := k2_tr K hp.2
    exact ⟨h, K⟩
theorem kf_X11_mark {Q : Int32 → HS → Prop} {v0 : Nat} {S : HS} (h : P_X11_mark v0 Q S) : P_X11_mark v0 (fun r T => Q r T ∧ K2 S T) S := kf_X11_mark_0 h (k2_rf S)
set_option maxRecDepth 20000 in
set_option maxHeartbeats 1000000 in
theorem kf_X11_mean_0 {Q : Int64 → HS → Prop} {v0 : Nat} {v1 : Int32} {v2 : Int32} {v3 : Int32} {v4 : Int32} {v5 : Int32} {v6 : Int32} {S0 S : HS} (h : P_X11_mean_0 Q v0 v1 v2 v3 v4 v5 v6 S) (K : K2 S0 S) : P_X11_mean_0 (fun r T => Q r T ∧ K2 S0 T) v0 v1 v2 v3 v4 v5 v6 S := by
  delta P_X11_mean_0 at h ⊢
  obtain ⟨c1, h⟩ := h
  refine ⟨c1, ?_⟩
  have n2 := k2_ne K c1 (by decide)
  intro x4 e3
  have h := h x4 e3
  have K := k2_I K e3 n2
  refine cm_X11_refuses (kf_X11_refuses h) h (fun x5 x6 hp h g7 => ?_)
  have h := h g7
  have K := k2_tr K hp.2
  refine ⟨?_, ?_⟩
  · intro c8
    have h := h.1 c8
    refine cm_X11_wetOf (kf_X11_wetOf h) h (fun x9 x10 hp h g11 => ?_)
    have h := h g11
    have K := k2_tr K hp.2
    obtain ⟨b12, e13, h⟩ := h
    refine ⟨b12, e13, ?_⟩
    obtain ⟨c14, h⟩ := h
    refine ⟨c14, ?_⟩
    have n15 := k2_ne K c14 (by decide)
    obtain ⟨b16, e17, h⟩ := h
    refine ⟨b16, e17, ?_⟩
    obtain ⟨c18, h⟩ := h
    refine ⟨c18, ?_⟩
    have n19 := k2_ne K c18 (by decide)
    obtain ⟨c20, h⟩ := h
    refine ⟨c20, ?_⟩
    intro x22 e21
    have h := h x22 e21
    refine cm_X11_told (kf_X11_told h) h (fun x23 x24 hp h g25 => ?_)
    have h := h g25
    have K := k2_tr K hp.2
    exact ⟨h, K⟩
  · intro c26
    have h := h.2 c26
    refine cm_X11_refused (kf_X11_refused h) h (fun x27 x28 hp h g29 => ?_)
    have h := h g29
    have K := k2_tr K hp.2
    exact ⟨h, K⟩
theorem kf_X11_mean {Q : Int64 → HS → Prop} {v0 : Nat} {v1 : Int32} {v2 : Int32} {v3 : Int32} {v4 : Int32} {v5 : Int32} {v6 : Int32} {S : HS} (h : P_X11_mean v0 v1 v2 v3 v4 v5 v6 Q S) : P_X11_mean v0 v1 v2 v3 v4 v5 v6 (fun r T => Q r T ∧ K2 S T) S := kf_X11_mean_0 h (k2_rf S)
set_option maxRecDepth 20000 in
set_option maxHeartbeats 1000000 in
theorem kf_X11_minutes_21 {Q : Int32 → HS → Prop} {v0 : Nat} {S0 S : HS} (h : P_X11_minutes_21 Q v0 S) (K : K2 S0 S) : P_X11_minutes_21 (fun r T => Q r T ∧ K2 S0 T) v0 S := by
  delta P_X11_minutes_21 at h ⊢
  obtain ⟨c1, h⟩ := h
  refine ⟨c1, ?_⟩
  have n2 := k2_ne K c1 (by decide)
  refine cm_X11_refused (kf_X11_refused h) h (fun x3 x4 hp h g5 => ?_)
  have h := h g5
  have K := k2_tr K hp.2
  exact ⟨h, K⟩
set_option maxRecDepth 20000 in
set_option maxHeartbeats 1000000 in
theorem kf_X11_minutes_0 {Q : Int32 → HS → Prop} {v0 : Nat} {v1 : Int32} {v2 : Int32} {v3 : Int32} {S0 S : HS} (h : P_X11_minutes_0 Q v0 v1 v2 v3 S) (K : K2 S0 S) : P_X11_minutes_0 (fun r T => Q r T ∧ K2 S0 T) v0 v1 v2 v3 S := by
  delta P_X11_minutes_0 at h ⊢
  obtain ⟨c1, h⟩ := h
  refine ⟨c1, ?_⟩
  have n2 := k2_ne K c1 (by decide)
  intro x4 e3
  have h := h x4 e3
  have K := k2_I K e3 n2
  refine cm_X11_isWalker (kf_X11_isWalker h) h (fun x5 x6 hp h g7 g8 => ?_)
  have h := h g7 g8
  have K := k2_tr K hp.2
  refine ⟨?_, ?_⟩
  · intro c9
    have h := h.1 c9
    exact kf_X11_minutes_21 h K
  · intro c10
    have h := h.2 c10
    refine cm_X11_isRoad (kf_X11_isRoad h) h (fun x11 x12 hp h g13 g14 => ?_)
    have h := h g13 g14
    have K := k2_tr K hp.2
    refine ⟨?_, ?_⟩
    · intro c15
      have h := h.1 c15
      refine cm_X11_isSpeed (kf_X11_isSpeed h) h (fun x16 x17 hp h g18 g19 => ?_)
      have h := h g18 g19
      have K := k2_tr K hp.2
      refine ⟨?_, ?_⟩
      · intro c20
        have h := h.1 c20
        refine cm_X11_refused (kf_X11_refused h) h (fun x21 x22 hp h g23 => ?_)
        have h := h g23
        have K := k2_tr K hp.2
        exact ⟨h, K⟩
      · intro c24
        have h := h.2 c24
        obtain ⟨b25, e26, h⟩ := h
        refine ⟨b25, e26, ?_⟩
        obtain ⟨c27, h⟩ := h
        refine ⟨c27, ?_⟩
        have n28 := k2_ne K c27 (by decide)
        refine cm_X10_minutes (kf_X10_minutes h) h (fun x29 x30 hp h g31 => ?_)
        have h := h g31
        have K := k2_tr K hp.2
        refine cm_X11_good (kf_X11_good h) h (fun x32 x33 hp h g34 => ?_)
        have h := h g34
        have K := k2_tr K hp.2
        exact ⟨h, K⟩
    · intro c35
      have h := h.2 c35
      exact kf_X11_minutes_21 h K
theorem kf_X11_minutes {Q : Int32 → HS → Prop} {v0 : Nat} {v1 : Int32} {v2 : Int32} {v3 : Int32} {S : HS} (h : P_X11_minutes v0 v1 v2 v3 Q S) : P_X11_minutes v0 v1 v2 v3 (fun r T => Q r T ∧ K2 S T) S := kf_X11_minutes_0 h (k2_rf S)
set_option maxRecDepth 20000 in
set_option maxHeartbeats 1000000 in
theorem kf_X11_names_0 {Q : HS → Prop} {v0 : Nat} {v1 : Int64} {v3 : Int32} {v4 : Int32} {S0 S : HS} (h : P_X11_names_0 Q v0 v1 v3 v4 S) (K : K2 S0 S) : P_X11_names_0 (fun T => Q T ∧ K2 S0 T) v0 v1 v3 v4 S := by
  delta P_X11_names_0 at h ⊢
  obtain ⟨c1, h⟩ := h
  refine ⟨c1, ?_⟩
  have n2 := k2_ne K c1 (by decide)
  obtain ⟨b3, e4, h⟩ := h
  refine ⟨b3, e4, ?_⟩
  obtain ⟨c5, h⟩ := h
  refine ⟨c5, ?_⟩
  have n6 := k2_ne K c5 (by decide)
  obtain ⟨b7, e8, h⟩ := h
  refine ⟨b7, e8, ?_⟩
  obtain ⟨b9, e10, h⟩ := h
  refine ⟨b9, e10, ?_⟩
  obtain ⟨c11, h⟩ := h
  refine ⟨c11, ?_⟩
  have n12 := k2_ne K c11 (by decide)
  intro x14 e13
  have h := h x14 e13
  obtain ⟨c15, h⟩ := h
  refine ⟨c15, ?_⟩
  have n16 := k2_ne K c15 (by decide)
  obtain ⟨c17, h⟩ := h
  refine ⟨c17, ?_⟩
  intro x19 e18
  have h := h x19 e18
  have K := k2_J K e18
  obtain ⟨b20, e21, h⟩ := h
  refine ⟨b20, e21, ?_⟩
  obtain ⟨c22, h⟩ := h
  refine ⟨c22, ?_⟩
  have n23 := k2_ne K c22 (by decide)
  obtain ⟨b24, e25, h⟩ := h
  refine ⟨b24, e25, ?_⟩
  obtain ⟨b26, e27, h⟩ := h
  refine ⟨b26, e27, ?_⟩
  obtain ⟨c28, h⟩ := h
  refine ⟨c28, ?_⟩
  have n29 := k2_ne K c28 (by decide)
  intro x31 e30
  have h := h x31 e30
  obtain ⟨c32, h⟩ := h
  refine ⟨c32, ?_⟩
  have n33 := k2_ne K c32 (by decide)
  obtain ⟨c34, h⟩ := h
  refine ⟨c34, ?_⟩
  intro x36 e35
  have h := h x36 e35
  have K := k2_I K e35 n33
  obtain ⟨b37, e38, h⟩ := h
  refine ⟨b37, e38, ?_⟩
  obtain ⟨c39, h⟩ := h
  refine ⟨c39, ?_⟩
  have n40 := k2_ne K c39 (by decide)
  obtain ⟨b41, e42, h⟩ := h
  refine ⟨b41, e42, ?_⟩
  obtain ⟨b43, e44, h⟩ := h
  refine ⟨b43, e44, ?_⟩
  obtain ⟨c45, h⟩ := h
  refine ⟨c45, ?_⟩
  have n46 := k2_ne K c45 (by decide)
  intro x48 e47
  have h := h x48 e47
  obtain ⟨c49, h⟩ := h
  refine ⟨c49, ?_⟩
  have n50 := k2_ne K c49 (by decide)
  obtain ⟨c51, h⟩ := h
  refine ⟨c51, ?_⟩
  intro x53 e52
  have h := h x53 e52
  have K := k2_I K e52 n50
  obtain ⟨b54, e55, h⟩ := h
  refine ⟨b54, e55, ?_⟩
  obtain ⟨c56, h⟩ := h
  refine ⟨c56, ?_⟩
  have n57 := k2_ne K c56 (by decide)
  intro x59 e58
  have h := h x59 e58
  intro x61 e60
  have h := h x61 e60
  intro x63 e62
  have h := h x63 e62
  have K := k2_I K e62 n57
  exact ⟨h, K⟩
theorem kf_X11_names {Q : HS → Prop} {v0 : Nat} {v1 : Int64} {v3 : Int32} {v4 : Int32} {S : HS} (h : P_X11_names v0 v1 v3 v4 Q S) : P_X11_names v0 v1 v3 v4 (fun T => Q T ∧ K2 S T) S := kf_X11_names_0 h (k2_rf S)
set_option maxRecDepth 20000 in
set_option maxHeartbeats 1000000 in
theorem kf_X11_needs_13 {Q : HS → Prop} {v0 : Nat} {S0 S : HS} (h : P_X11_needs_13 Q v0 S) (K : K2 S0 S) : P_X11_needs_13 (fun T => Q T ∧ K2 S0 T) v0 S := by
  delta P_X11_needs_13 at h ⊢
  obtain ⟨c1, h⟩ := h
  refine ⟨c1, ?_⟩
  have n2 := k2_ne K c1 (by decide)
  refine cm_X11_goesOn (kf_X11_goesOn h) h (fun x3 hp h g4 => ?_)
  have h := h g4
  have K := k2_tr K hp.2
  exact ⟨h, K⟩
set_option maxRecDepth 20000 in
set_option maxHeartbeats 1000000 in
theorem kf_X11_needs_0 {Q : HS → Prop} {v0 : Nat} {v1 : Nat} {S0 S : HS} (h : P_X11_needs_0 Q v0 v1 S) (K : K2 S0 S) : P_X11_needs_0 (fun T => Q T ∧ K2 S0 T) v0 v1 S := by
  delta P_X11_needs_0 at h ⊢
  obtain ⟨c1, h⟩ := h
  refine ⟨c1, ?_⟩
  have n2 := k2_ne K c1 (by decide)
  refine cm_X11_isWord (kf_X11_isWord h) h (fun x3 x4 hp h g5 g6 => ?_)
  have h := h g5 g6
  have K := k2_tr K hp.2
  refine ⟨?_, ?_⟩
  · intro c7
    have h := h.1 c7
    exact kf_X11_needs_13 h K
  · intro c8
    have h := h.2 c8
    refine cm_X11_flaw (kf_X11_flaw h) h (fun x9 hp h g10 => ?_)
    have h := h g10
    have K := k2_tr K hp.2
    exact kf_X11_needs_13 h K
theorem kf_X11_needs {Q : HS → Prop} {v0 : Nat} {v1 : Nat} {S : HS} (h : P_X11_needs v0 v1 Q S) : P_X11_needs v0 v1 (fun T => Q T ∧ K2 S T) S := kf_X11_needs_0 h (k2_rf S)
set_option maxRecDepth 20000 in
set_option maxHeartbeats 1000000 in
theorem kf_X11_off_29 {Q : Int32 → HS → Prop} {v0 : Nat} {S0 S : HS} (h : P_X11_off_29 Q v0 S) (K : K2 S0 S) : P_X11_off_29 (fun r T => Q r T ∧ K2 S0 T) v0 S := by
  delta P_X11_off_29 at h ⊢
  obtain ⟨c1, h⟩ := h
  refine ⟨c1, ?_⟩
  have n2 := k2_ne K c1 (by decide)
  refine cm_X11_refused (kf_X11_refused h) h (fun x3 x4 hp h g5 => ?_)
  have h := h g5
  have K := k2_tr K hp.2
  exact ⟨h, K⟩
set_option maxRecDepth 20000 in
set_option maxHeartbeats 1000000 in
theorem kf_X11_off_128 {Q : Int32 → HS → Prop} {X67 X67_2 : Nat → Int32 → Int32 → Int32 → Int32 → HS → Prop} {v0 : Nat} {v2 : Int32} {v4 : Int32} {v5 : Int32} {v6 : Int32} {S0 S : HS} (h : P_X11_off_128 Q X67 v0 v2 v4 v5 v6 S) (K : K2 S0 S) (hX67 : ∀ (u0 : Nat) (u1 : Int32) (u2 : Int32) (u3 : Int32) (u4 : Int32) (u5 : HS), X67 u0 u1 u2 u3 u4 u5 → K2 S0 u5 → X67_2 u0 u1 u2 u3 u4 u5) : P_X11_off_128 (fun r T => Q r T ∧ K2 S0 T) X67_2 v0 v2 v4 v5 v6 S := by
  delta P_X11_off_128 at h ⊢
  intro x2 e1
  have h := h x2 e1
  exact hX67 _ _ _ _ _ _ h K
set_option maxRecDepth 20000 in
set_option maxHeartbeats 1000000 in
theorem kf_X11_off_124 {Q : Int32 → HS → Prop} {X67 X67_2 : Nat → Int32 → Int32 → Int32 → Int32 → HS → Prop} {v0 : Nat} {v2 : Int32} {v4 : Int32} {v6 : Int32} {S0 S : HS} (h : P_X11_off_124 Q X67 v0 v2 v4 v6 S) (K : K2 S0 S) (hX67 : ∀ (u0 : Nat) (u1 : Int32) (u2 : Int32) (u3 : Int32) (u4 : Int32) (u5 : HS), X67 u0 u1 u2 u3 u4 u5 → K2 S0 u5 → X67_2 u0 u1 u2 u3 u4 u5) : P_X11_off_124 (fun r T => Q r T ∧ K2 S0 T) X67_2 v0 v2 v4 v6 S := by
  delta P_X11_off_124 at h ⊢
  exact kf_X11_off_128 h K hX67
set_option maxRecDepth 20000 in
set_option maxHeartbeats 1000000 in
theorem kfB_X11_off_67 {Q : Int32 → HS → Prop} {X67 X67_2 : Nat → Int32 → Int32 → Int32 → Int32 → HS → Prop} {v0 : Nat} {v2 : Int32} {v4 : Int32} {v5 : Int32} {v6 : Int32} {S0 S : HS} (h : B_X11_off_67 Q X67 v0 v2 v4 v5 v6 S) (K : K2 S0 S) (hX67 : ∀ (u0 : Nat) (u1 : Int32) (u2 : Int32) (u3 : Int32) (u4 : Int32) (u5 : HS), X67 u0 u1 u2 u3 u4 u5 → K2 S0 u5 → X67_2 u0 u1 u2 u3 u4 u5) : B_X11_off_67 (fun r T => Q r T ∧ K2 S0 T) X67_2 v0 v2 v4 v5 v6 S := by
  delta B_X11_off_67 at h ⊢
  refine ⟨?_, ?_⟩
  · intro c1
    have h := h.1 c1
    refine ⟨?_, ?_⟩
    · intro c2
      have h := h.1 c2
      obtain ⟨c3, h⟩ := h
      refine ⟨c3, ?_⟩
      have n4 := k2_ne K c3 (by decide)
      refine cm_X11_good (kf_X11_good h) h (fun x5 x6 hp h g7 => ?_)
      have h := h g7
      have K := k2_tr K hp.2
      exact ⟨h, K⟩
    · intro c8
      have h := h.2 c8
      obtain ⟨c9, h⟩ := h
      refine ⟨c9, ?_⟩
      have n10 := k2_ne K c9 (by decide)
      refine cm_X11_refused (kf_X11_refused h) h (fun x11 x12 hp h g13 => ?_)
      have h := h g13
      have K := k2_tr K hp.2
      exact ⟨h, K⟩
  · intro c14
    have h := h.2 c14
    obtain ⟨c15, h⟩ := h
    refine ⟨c15, ?_⟩
    have n16 := k2_ne K c15 (by decide)
    obtain ⟨b17, e18, h⟩ := h
    refine ⟨b17, e18, ?_⟩
    refine cm_X11_spotOf (kf_X11_spotOf h) h (fun x19 x20 hp h g21 => ?_)
    have h := h g21
    have K := k2_tr K hp.2
    obtain ⟨c22, h⟩ := h
    refine ⟨c22, ?_⟩
    have n23 := k2_ne K c22 (by decide)
    obtain ⟨c24, h⟩ := h
    refine ⟨c24, ?_⟩
    intro x26 e25
    have h := h x26 e25
    refine ⟨?_, ?_⟩
    · intro c27
      have h := h.1 c27
      exact kf_X11_off_128 h K hX67
    · intro c28
      have h := h.2 c28
      refine ⟨?_, ?_⟩
      · intro c29
        have h := h.1 c29
        exact kf_X11_off_124 h K hX67
      · intro c30
        have h := h.2 c30
        obtain ⟨b31, e32, h⟩ := h
        refine ⟨b31, e32, ?_⟩
        refine cm_X11_spotOf (kf_X11_spotOf h) h (fun x33 x34 hp h g35 => ?_)
        have h := h g35
        have K := k2_tr K hp.2
        obtain ⟨c36, h⟩ := h
        refine ⟨c36, ?_⟩
        have n37 := k2_ne K c36 (by decide)
        obtain ⟨c38, h⟩ := h
        refine ⟨c38, ?_⟩
        intro x40 e39
        have h := h x40 e39
        obtain ⟨b41, e42, h⟩ := h
        refine ⟨b41, e42, ?_⟩
        refine cm_X11_spotOf (kf_X11_spotOf h) h (fun x43 x44 hp h g45 => ?_)
        have h := h g45
        have K := k2_tr K hp.2
        obtain ⟨c46, h⟩ := h
        refine ⟨c46, ?_⟩
        have n47 := k2_ne K c46 (by decide)
        obtain ⟨c48, h⟩ := h
        refine ⟨c48, ?_⟩
        intro x50 e49
        have h := h x50 e49
        refine ⟨?_, ?_⟩
        · intro c51
          have h := h.1 c51
          exact kf_X11_off_128 h K hX67
        · intro c52
          have h := h.2 c52
          exact kf_X11_off_124 h K hX67
theorem kf_X11_off_67 {Q : Int32 → HS → Prop} {v0 : Nat} {v2 : Int32} {v4 : Int32} {v5 : Int32} {v6 : Int32} {S0 S : HS} (h : P_X11_off_67 Q v0 v2 v4 v5 v6 S) (K : K2 S0 S) : P_X11_off_67 (fun r T => Q r T ∧ K2 S0 T) v0 v2 v4 v5 v6 S := h (fun v0 v2 v4 v5 v6 S => K2 S0 S → P_X11_off_67 (fun r T => Q r T ∧ K2 S0 T) v0 v2 v4 v5 v6 S) (fun v0 v2 v4 v5 v6 S hB K => fd_X11_off_67 (kfB_X11_off_67 hB K (fun _ _ _ _ _ _ hx K => hx K))) K
set_option maxRecDepth 20000 in
set_option maxHeartbeats 1000000 in
theorem kf_X11_off_0 {Q : Int32 → HS → Prop} {v0 : Nat} {v1 : Int32} {v2 : Int32} {v3 : Int32} {v4 : Int32} {S0 S : HS} (h : P_X11_off_0 Q v0 v1 v2 v3 v4 S) (K : K2 S0 S) : P_X11_off_0 (fun r T => Q r T ∧ K2 S0 T) v0 v1 v2 v3 v4 S := by
  delta P_X11_off_0 at h ⊢
  obtain ⟨c1, h⟩ := h
  refine ⟨c1, ?_⟩
  have n2 := k2_ne K c1 (by decide)
  intro x4 e3
  have h := h x4 e3
  have K := k2_I K e3 n2
  refine cm_X11_isWalker (kf_X11_isWalker h) h (fun x5 x6 hp h g7 g8 => ?_)
  have h := h g7 g8
  have K := k2_tr K hp.2
  refine ⟨?_, ?_⟩
  · intro c9
    have h := h.1 c9
    exact kf_X11_off_29 h K
  · intro c10
    have h := h.2 c10
    refine cm_X11_isPlace (kf_X11_isPlace h) h (fun x11 x12 hp h g13 g14 => ?_)
    have h := h g13 g14
    have K := k2_tr K hp.2
    refine ⟨?_, ?_⟩
    · intro c15
      have h := h.1 c15
      exact kf_X11_off_29 h K
    · intro c16
      have h := h.2 c16
      refine cm_X11_isPlace (kf_X11_isPlace h) h (fun x17 x18 hp h g19 g20 => ?_)
      have h := h g19 g20
      have K := k2_tr K hp.2
      refine ⟨?_, ?_⟩
      · intro c21
        have h := h.1 c21
        refine cm_X11_in (kf_X11_in h) h (fun x22 x23 hp h g24 g25 => ?_)
        have h := h g24 g25
        have K := k2_tr K hp.2
        refine ⟨?_, ?_⟩
        · intro c26
          have h := h.1 c26
          refine cm_X11_laysWays (kf_X11_laysWays h) h (fun x27 hp h g28 => ?_)
          have h := h g28
          have K := k2_tr K hp.2
          exact kf_X11_off_67 h K
        · intro c29
          have h := h.2 c29
          refine cm_X11_refused (kf_X11_refused h) h (fun x30 x31 hp h g32 => ?_)
          have h := h g32
          have K := k2_tr K hp.2
          exact ⟨h, K⟩
      · intro c33
        have h := h.2 c33
        exact kf_X11_off_29 h K
theorem kf_X11_off {Q : Int32 → HS → Prop} {v0 : Nat} {v1 : Int32} {v2 : Int32} {v3 : Int32} {v4 : Int32} {S : HS} (h : P_X11_off v0 v1 v2 v3 v4 Q S) : P_X11_off v0 v1 v2 v3 v4 (fun r T => Q r T ∧ K2 S T) S := kf_X11_off_0 h (k2_rf S)
set_option maxRecDepth 20000 in
set_option maxHeartbeats 1000000 in
theorem kf_X11_readFresh_32 {Q : Int64 → HS → Prop} {v0 : Nat} {S0 S : HS} (h : P_X11_readFresh_32 Q v0 S) (K : K2 S0 S) : P_X11_readFresh_32 (fun r T => Q r T ∧ K2 S0 T) v0 S := by
  delta P_X11_readFresh_32 at h ⊢
  obtain ⟨c1, h⟩ := h
  refine ⟨c1, ?_⟩
  have n2 := k2_ne K c1 (by decide)
  intro x4 e3
  have h := h x4 e3
  refine cm_X11_goesOn (kf_X11_goesOn h) h (fun x5 hp h g6 => ?_)
  have h := h g6
  have K := k2_tr K hp.2
  exact ⟨h, K⟩
set_option maxRecDepth 20000 in
set_option maxHeartbeats 1000000 in
theorem kf_X11_readFresh_12 {Q : Int64 → HS → Prop} {v0 : Nat} {S0 S : HS} (h : P_X11_readFresh_12 Q v0 S) (K : K2 S0 S) : P_X11_readFresh_12 (fun r T => Q r T ∧ K2 S0 T) v0 S := by
  delta P_X11_readFresh_12 at h ⊢
  obtain ⟨c1, h⟩ := h
  refine ⟨c1, ?_⟩
  have n2 := k2_ne K c1 (by decide)
  obtain ⟨b3, e4, h⟩ := h
  refine ⟨b3, e4, ?_⟩
  intro x6 e5
  have h := h x6 e5
  obtain ⟨c7, h⟩ := h
  refine ⟨c7, ?_⟩
  have n8 := k2_ne K c7 (by decide)
  refine cm_X10_find (kf_X10_find h) h (fun x9 x10 hp h g11 => ?_)
  have h := h g11
  have K := k2_tr K hp.2
  refine ⟨?_, ?_⟩
  · intro c12
    have h := h.1 c12
    exact kf_X11_readFresh_32 h K
  · intro c13
    have h := h.2 c13
    refine cm_X11_flaw (kf_X11_flaw h) h (fun x14 hp h g15 => ?_)
    have h := h g15
    have K := k2_tr K hp.2
    exact kf_X11_readFresh_32 h K
set_option maxRecDepth 20000 in
set_option maxHeartbeats 1000000 in
theorem kf_X11_readFresh_0 {Q : Int64 → HS → Prop} {v0 : Nat} {S0 S : HS} (h : P_X11_readFresh_0 Q v0 S) (K : K2 S0 S) : P_X11_readFresh_0 (fun r T => Q r T ∧ K2 S0 T) v0 S := by
  delta P_X11_readFresh_0 at h ⊢
  obtain ⟨c1, h⟩ := h
  refine ⟨c1, ?_⟩
  have n2 := k2_ne K c1 (by decide)
  refine cm_X11_isName (kf_X11_isName h) h (fun x3 x4 hp h g5 g6 => ?_)
  have h := h g5 g6
  have K := k2_tr K hp.2
  refine ⟨?_, ?_⟩
  · intro c7
    have h := h.1 c7
    exact kf_X11_readFresh_12 h K
  · intro c8
    have h := h.2 c8
    refine cm_X11_flaw (kf_X11_flaw h) h (fun x9 hp h g10 => ?_)
    have h := h g10
    have K := k2_tr K hp.2
    exact kf_X11_readFresh_12 h K
theorem kf_X11_readFresh {Q : Int64 → HS → Prop} {v0 : Nat} {S : HS} (h : P_X11_readFresh v0 Q S) : P_X11_readFresh v0 (fun r T => Q r T ∧ K2 S T) S := kf_X11_readFresh_0 h (k2_rf S)
set_option maxRecDepth 20000 in
set_option maxHeartbeats 1000000 in
theorem kf_X11_readWhole_49 {Q : Int32 → HS → Prop} {v0 : Nat} {s0 : Int32} {S0 S : HS} (h : P_X11_readWhole_49 Q v0 s0 S) (K : K2 S0 S) : P_X11_readWhole_49 (fun r T => Q r T ∧ K2 S0 T) v0 s0 S := by
  delta P_X11_readWhole_49 at h ⊢
  obtain ⟨c1, h⟩ := h
  refine ⟨c1, ?_⟩
  have n2 := k2_ne K c1 (by decide)
  refine cm_X11_goesOn (kf_X11_goesOn h) h (fun x3 hp h g4 => ?_)
  have h := h g4
  have K := k2_tr K hp.2
  exact ⟨h, K⟩
set_option maxRecDepth 20000 in
set_option maxHeartbeats 1000000 in
theorem kf_X11_readWhole_33 {Q : Int32 → HS → Prop} {v0 : Nat} {v1 : Int32} {S0 S : HS} (h : P_X11_readWhole_33 Q v0 v1 S) (K : K2 S0 S) : P_X11_readWhole_33 (fun r T => Q r T ∧ K2 S0 T) v0 v1 S := by
  delta P_X11_readWhole_33 at h ⊢
  obtain ⟨c1, h⟩ := h
  refine ⟨c1, ?_⟩
  have n2 := k2_ne K c1 (by decide)
  intro x4 e3
  have h := h x4 e3
  refine ⟨?_, ?_⟩
  · intro c5
    have h := h.1 c5
    intro x7 e6
    have h := h x7 e6
    exact kf_X11_readWhole_49 h K
  · intro c8
    have h := h.2 c8
    exact kf_X11_readWhole_49 h K
set_option maxRecDepth 20000 in
set_option maxHeartbeats 1000000 in
theorem kf_X11_readWhole_0 {Q : Int32 → HS → Prop} {v0 : Nat} {v1 : Int32} {v2 : Int32} {S0 S : HS} (h : P_X11_readWhole_0 Q v0 v1 v2 S) (K : K2 S0 S) : P_X11_readWhole_0 (fun r T => Q r T ∧ K2 S0 T) v0 v1 v2 S := by
  delta P_X11_readWhole_0 at h ⊢
  obtain ⟨c1, h⟩ := h
  refine ⟨c1, ?_⟩
  have n2 := k2_ne K c1 (by decide)
  intro x4 e3
  have h := h x4 e3
  refine ⟨?_, ?_⟩
  · intro c5
    have h := h.1 c5
    intro x7 e6
    have h := h x7 e6
    refine cm_X11_in (kf_X11_in h) h (fun x8 x9 hp h g10 g11 => ?_)
    have h := h g10 g11
    have K := k2_tr K hp.2
    refine ⟨?_, ?_⟩
    · intro c12
      have h := h.1 c12
      exact kf_X11_readWhole_33 h K
    · intro c13
      have h := h.2 c13
      refine cm_X11_flaw (kf_X11_flaw h) h (fun x14 hp h g15 => ?_)
      have h := h g15
      have K := k2_tr K hp.2
      exact kf_X11_readWhole_33 h K
  · intro c16
    have h := h.2 c16
    refine cm_X11_flaw (kf_X11_flaw h) h (fun x17 hp h g18 => ?_)
    have h := h g18
    have K := k2_tr K hp.2
    exact kf_X11_readWhole_33 h K
theorem kf_X11_readWhole {Q : Int32 → HS → Prop} {v0 : Nat} {v1 : Int32} {v2 : Int32} {S : HS} (h : P_X11_readWhole v0 v1 v2 Q S) : P_X11_readWhole v0 v1 v2 (fun r T => Q r T ∧ K2 S T) S := kf_X11_readWhole_0 h (k2_rf S)
set_option maxRecDepth 20000 in
set_option maxHeartbeats 1000000 in
theorem kf_X11_readPlace_50 {Q : HS → Prop} {v0 : Nat} {v1 : Int64} {v3 : Int32} {s0 : Int32} {S0 S : HS} (h : P_X11_readPlace_50 Q v0 v1 v3 s0 S) (K : K2 S0 S) : P_X11_readPlace_50 (fun T => Q T ∧ K2 S0 T) v0 v1 v3 s0 S := by
  delta P_X11_readPlace_50 at h ⊢
  obtain ⟨c1, h⟩ := h
  refine ⟨c1, ?_⟩
  have n2 := k2_ne K c1 (by decide)
  intro x4 e3
  have h := h x4 e3
  refine ⟨?_, ?_⟩
  · intro c5
    have h := h.1 c5
    obtain ⟨b6, e7, h⟩ := h
    refine ⟨b6, e7, ?_⟩
    obtain ⟨c8, h⟩ := h
    refine ⟨c8, ?_⟩
    have n9 := k2_ne K c8 (by decide)
    intro x11 e10
    have h := h x11 e10
    refine cm_X11_names (kf_X11_names h) h (fun x12 hp h g13 => ?_)
    have h := h g13
    have K := k2_tr K hp.2
    obtain ⟨b14, e15, h⟩ := h
    refine ⟨b14, e15, ?_⟩
    obtain ⟨c16, h⟩ := h
    refine ⟨c16, ?_⟩
    have n17 := k2_ne K c16 (by decide)
    obtain ⟨b18, e19, h⟩ := h
    refine ⟨b18, e19, ?_⟩
    obtain ⟨b20, e21, h⟩ := h
    refine ⟨b20, e21, ?_⟩
    obtain ⟨c22, h⟩ := h
    refine ⟨c22, ?_⟩
    have n23 := k2_ne K c22 (by decide)
    intro x25 e24
    have h := h x25 e24
    obtain ⟨c26, h⟩ := h
    refine ⟨c26, ?_⟩
    have n27 := k2_ne K c26 (by decide)
    obtain ⟨c28, h⟩ := h
    refine ⟨c28, ?_⟩
    intro x30 e29
    have h := h x30 e29
    have K := k2_I K e29 n27
    obtain ⟨b31, e32, h⟩ := h
    refine ⟨b31, e32, ?_⟩
    obtain ⟨c33, h⟩ := h
    refine ⟨c33, ?_⟩
    have n34 := k2_ne K c33 (by decide)
    obtain ⟨b35, e36, h⟩ := h
    refine ⟨b35, e36, ?_⟩
    obtain ⟨b37, e38, h⟩ := h
    refine ⟨b37, e38, ?_⟩
    obtain ⟨c39, h⟩ := h
    refine ⟨c39, ?_⟩
    have n40 := k2_ne K c39 (by decide)
    intro x42 e41
    have h := h x42 e41
    obtain ⟨c43, h⟩ := h
    refine ⟨c43, ?_⟩
    have n44 := k2_ne K c43 (by decide)
    obtain ⟨c45, h⟩ := h
    refine ⟨c45, ?_⟩
    intro x47 e46
    have h := h x47 e46
    have K := k2_I K e46 n44
    obtain ⟨b48, e49, h⟩ := h
    refine ⟨b48, e49, ?_⟩
    obtain ⟨c50, h⟩ := h
    refine ⟨c50, ?_⟩
    have n51 := k2_ne K c50 (by decide)
    intro x53 e52
    have h := h x53 e52
    intro x55 e54
    have h := h x55 e54
    intro x57 e56
    have h := h x57 e56
    have K := k2_I K e56 n51
    exact ⟨h, K⟩
  · intro c58
    have h := h.2 c58
    exact ⟨h, K⟩
set_option maxRecDepth 20000 in
set_option maxHeartbeats 1000000 in
theorem kf_X11_readPlace_48 {Q : HS → Prop} {v0 : Nat} {v1 : Int64} {v3 : Int32} {S0 S : HS} (h : P_X11_readPlace_48 Q v0 v1 v3 S) (K : K2 S0 S) : P_X11_readPlace_48 (fun T => Q T ∧ K2 S0 T) v0 v1 v3 S := by
  delta P_X11_readPlace_48 at h ⊢
  exact kf_X11_readPlace_50 h K
set_option maxRecDepth 20000 in
set_option maxHeartbeats 1000000 in
theorem kf_X11_readPlace_0 {Q : HS → Prop} {v0 : Nat} {S0 S : HS} (h : P_X11_readPlace_0 Q v0 S) (K : K2 S0 S) : P_X11_readPlace_0 (fun T => Q T ∧ K2 S0 T) v0 S := by
  delta P_X11_readPlace_0 at h ⊢
  obtain ⟨c1, h⟩ := h
  refine ⟨c1, ?_⟩
  have n2 := k2_ne K c1 (by decide)
  obtain ⟨b3, e4, h⟩ := h
  refine ⟨b3, e4, ?_⟩
  obtain ⟨c5, h⟩ := h
  refine ⟨c5, ?_⟩
  have n6 := k2_ne K c5 (by decide)
  intro x8 e7
  have h := h x8 e7
  refine cm_X11_begins (kf_X11_begins h) h (fun x9 hp h g10 => ?_)
  have h := h g10
  have K := k2_tr K hp.2
  refine cm_X11_readFresh (kf_X11_readFresh h) h (fun x11 x12 hp h g13 => ?_)
  have h := h g13
  have K := k2_tr K hp.2
  refine cm_X11_eatsWord (kf_X11_eatsWord h) h (fun x14 x15 hp h g16 g17 => ?_)
  have h := h g16 g17
  have K := k2_tr K hp.2
  refine ⟨?_, ?_⟩
  · intro c18
    have h := h.1 c18
    exact kf_X11_readPlace_48 h K
  · intro c19
    have h := h.2 c19
    refine cm_X11_eatsWord (kf_X11_eatsWord h) h (fun x20 x21 hp h g22 g23 => ?_)
    have h := h g22 g23
    have K := k2_tr K hp.2
    refine ⟨?_, ?_⟩
    · intro c24
      have h := h.1 c24
      exact kf_X11_readPlace_48 h K
    · intro c25
      have h := h.2 c25
      refine cm_X11_readWhole (kf_X11_readWhole h) h (fun x26 x27 hp h g28 => ?_)
      have h := h g28
      have K := k2_tr K hp.2
      exact kf_X11_readPlace_50 h K
theorem kf_X11_readPlace {Q : HS → Prop} {v0 : Nat} {S : HS} (h : P_X11_readPlace v0 Q S) : P_X11_readPlace v0 (fun T => Q T ∧ K2 S T) S := kf_X11_readPlace_0 h (k2_rf S)
set_option maxRecDepth 20000 in
set_option maxHeartbeats 1000000 in
theorem kf_X11_readPart_0 {Q : Int32 → HS → Prop} {v0 : Nat} {v1 : Nat} {v2 : Int32} {v3 : Int32} {S0 S : HS} (h : P_X11_readPart_0 Q v0 v1 v2 v3 S) (K : K2 S0 S) : P_X11_readPart_0 (fun r T => Q r T ∧ K2 S0 T) v0 v1 v2 v3 S := by
  delta P_X11_readPart_0 at h ⊢
  obtain ⟨c1, h⟩ := h
  refine ⟨c1, ?_⟩
  have n2 := k2_ne K c1 (by decide)
  refine cm_X11_needs (kf_X11_needs h) h (fun x3 hp h g4 => ?_)
  have h := h g4
  have K := k2_tr K hp.2
  refine cm_X11_readWhole (kf_X11_readWhole h) h (fun x5 x6 hp h g7 => ?_)
  have h := h g7
  have K := k2_tr K hp.2
  exact ⟨h, K⟩
theorem kf_X11_readPart {Q : Int32 → HS → Prop} {v0 : Nat} {v1 : Nat} {v2 : Int32} {v3 : Int32} {S : HS} (h : P_X11_readPart v0 v1 v2 v3 Q S) : P_X11_readPart v0 v1 v2 v3 (fun r T => Q r T ∧ K2 S T) S := kf_X11_readPart_0 h (k2_rf S)
set_option maxRecDepth 20000 in
set_option maxHeartbeats 1000000 in
theorem kf_X11_readSide_64 {Q : Int32 → HS → Prop} {v0 : Nat} {v1 : Int32} {S0 S : HS} (h : P_X11_readSide_64 Q v0 v1 S) (K : K2 S0 S) : P_X11_readSide_64 (fun r T => Q r T ∧ K2 S0 T) v0 v1 S := by
  delta P_X11_readSide_64 at h ⊢
  obtain ⟨c1, h⟩ := h
  refine ⟨c1, ?_⟩
  have n2 := k2_ne K c1 (by decide)
  refine cm_X11_goesOn (kf_X11_goesOn h) h (fun x3 hp h g4 => ?_)
  have h := h g4
  have K := k2_tr K hp.2
  exact ⟨h, K⟩
set_option maxRecDepth 20000 in
set_option maxHeartbeats 1000000 in
theorem kf_X11_readSide_53 {Q : Int32 → HS → Prop} {v0 : Nat} {s0 : Int32} {S0 S : HS} (h : P_X11_readSide_53 Q v0 s0 S) (K : K2 S0 S) : P_X11_readSide_53 (fun r T => Q r T ∧ K2 S0 T) v0 s0 S := by
  delta P_X11_readSide_53 at h ⊢
  refine ⟨?_, ?_⟩
  · intro c1
    have h := h.1 c1
    exact kf_X11_readSide_64 h K
  · intro c2
    have h := h.2 c2
    obtain ⟨c3, h⟩ := h
    refine ⟨c3, ?_⟩
    have n4 := k2_ne K c3 (by decide)
    refine cm_X11_flaw (kf_X11_flaw h) h (fun x5 hp h g6 => ?_)
    have h := h g6
    have K := k2_tr K hp.2
    exact kf_X11_readSide_64 h K
set_option maxRecDepth 20000 in
set_option maxHeartbeats 1000000 in
theorem kf_X11_readSide_0 {Q : Int32 → HS → Prop} {v0 : Nat} {S0 S : HS} (h : P_X11_readSide_0 Q v0 S) (K : K2 S0 S) : P_X11_readSide_0 (fun r T => Q r T ∧ K2 S0 T) v0 S := by
  delta P_X11_readSide_0 at h ⊢
  obtain ⟨c1, h⟩ := h
  refine ⟨c1, ?_⟩
  have n2 := k2_ne K c1 (by decide)
  refine cm_X11_isWord (kf_X11_isWord h) h (fun x3 x4 hp h g5 g6 => ?_)
  have h := h g5 g6
  have K := k2_tr K hp.2
  refine ⟨?_, ?_⟩
  · intro c7
    have h := h.1 c7
    refine cm_X11_isWord (kf_X11_isWord h) h (fun x8 x9 hp h g10 g11 => ?_)
    have h := h g10 g11
    have K := k2_tr K hp.2
    refine ⟨?_, ?_⟩
    · intro c12
      have h := h.1 c12
      refine cm_X11_isWord (kf_X11_isWord h) h (fun x13 x14 hp h g15 g16 => ?_)
      have h := h g15 g16
      have K := k2_tr K hp.2
      refine ⟨?_, ?_⟩
      · intro c17
        have h := h.1 c17
        refine cm_X11_isWord (kf_X11_isWord h) h (fun x18 x19 hp h g20 g21 => ?_)
        have h := h g20 g21
        have K := k2_tr K hp.2
        refine ⟨?_, ?_⟩
        · intro c22
          have h := h.1 c22
          exact kf_X11_readSide_53 h K
        · intro c23
          have h := h.2 c23
          exact kf_X11_readSide_53 h K
      · intro c24
        have h := h.2 c24
        exact kf_X11_readSide_53 h K
    · intro c25
      have h := h.2 c25
      exact kf_X11_readSide_53 h K
  · intro c26
    have h := h.2 c26
    exact kf_X11_readSide_53 h K
theorem kf_X11_readSide {Q : Int32 → HS → Prop} {v0 : Nat} {S : HS} (h : P_X11_readSide v0 Q S) : P_X11_readSide v0 (fun r T => Q r T ∧ K2 S T) S := kf_X11_readSide_0 h (k2_rf S)
set_option maxRecDepth 20000 in
set_option maxHeartbeats 1000000 in
theorem kf_X11_readRain_0 {Q : HS → Prop} {v0 : Nat} {S0 S : HS} (h : P_X11_readRain_0 Q v0 S) (K : K2 S0 S) : P_X11_readRain_0 (fun T => Q T ∧ K2 S0 T) v0 S := by
  delta P_X11_readRain_0 at h ⊢
  obtain ⟨c1, h⟩ := h
  refine ⟨c1, ?_⟩
  have n2 := k2_ne K c1 (by decide)
  obtain ⟨b3, e4, h⟩ := h
  refine ⟨b3, e4, ?_⟩
  obtain ⟨c5, h⟩ := h
  refine ⟨c5, ?_⟩
  have n6 := k2_ne K c5 (by decide)
  intro x8 e7
  have h := h x8 e7
  refine cm_X11_begins (kf_X11_begins h) h (fun x9 hp h g10 => ?_)
  have h := h g10
  have K := k2_tr K hp.2
  refine cm_X11_readPart (kf_X11_readPart h) h (fun x11 x12 hp h g13 => ?_)
  have h := h g13
  have K := k2_tr K hp.2
  refine cm_X11_readPart (kf_X11_readPart h) h (fun x14 x15 hp h g16 => ?_)
  have h := h g16
  have K := k2_tr K hp.2
  refine cm_X11_needs (kf_X11_needs h) h (fun x17 hp h g18 => ?_)
  have h := h g18
  have K := k2_tr K hp.2
  refine cm_X11_readSide (kf_X11_readSide h) h (fun x19 x20 hp h g21 => ?_)
  have h := h g21
  have K := k2_tr K hp.2
  refine cm_X11_readWhole (kf_X11_readWhole h) h (fun x22 x23 hp h g24 => ?_)
  have h := h g24
  have K := k2_tr K hp.2
  refine cm_X11_readPart (kf_X11_readPart h) h (fun x25 x26 hp h g27 => ?_)
  have h := h g27
  have K := k2_tr K hp.2
  intro x29 e28
  have h := h x29 e28
  refine ⟨?_, ?_⟩
  · intro c30
    have h := h.1 c30
    obtain ⟨b31, e32, h⟩ := h
    refine ⟨b31, e32, ?_⟩
    obtain ⟨c33, h⟩ := h
    refine ⟨c33, ?_⟩
    have n34 := k2_ne K c33 (by decide)
    obtain ⟨b35, e36, h⟩ := h
    refine ⟨b35, e36, ?_⟩
    obtain ⟨b37, e38, h⟩ := h
    refine ⟨b37, e38, ?_⟩
    obtain ⟨c39, h⟩ := h
    refine ⟨c39, ?_⟩
    have n40 := k2_ne K c39 (by decide)
    intro x42 e41
    have h := h x42 e41
    obtain ⟨c43, h⟩ := h
    refine ⟨c43, ?_⟩
    have n44 := k2_ne K c43 (by decide)
    obtain ⟨c45, h⟩ := h
    refine ⟨c45, ?_⟩
    intro x47 e46
    have h := h x47 e46
    have K := k2_I K e46 n44
    obtain ⟨b48, e49, h⟩ := h
    refine ⟨b48, e49, ?_⟩
    obtain ⟨c50, h⟩ := h
    refine ⟨c50, ?_⟩
    have n51 := k2_ne K c50 (by decide)
    obtain ⟨b52, e53, h⟩ := h
    refine ⟨b52, e53, ?_⟩
    obtain ⟨b54, e55, h⟩ := h
    refine ⟨b54, e55, ?_⟩
    obtain ⟨c56, h⟩ := h
    refine ⟨c56, ?_⟩
    have n57 := k2_ne K c56 (by decide)
    intro x59 e58
    have h := h x59 e58
    obtain ⟨c60, h⟩ := h
    refine ⟨c60, ?_⟩
    have n61 := k2_ne K c60 (by decide)
    obtain ⟨c62, h⟩ := h
    refine ⟨c62, ?_⟩
    intro x64 e63
    have h := h x64 e63
    have K := k2_I K e63 n61
    obtain ⟨b65, e66, h⟩ := h
    refine ⟨b65, e66, ?_⟩
    obtain ⟨c67, h⟩ := h
    refine ⟨c67, ?_⟩
    have n68 := k2_ne K c67 (by decide)
    obtain ⟨b69, e70, h⟩ := h
    refine ⟨b69, e70, ?_⟩
    obtain ⟨b71, e72, h⟩ := h
    refine ⟨b71, e72, ?_⟩
    obtain ⟨c73, h⟩ := h
    refine ⟨c73, ?_⟩
    have n74 := k2_ne K c73 (by decide)
    intro x76 e75
    have h := h x76 e75
    obtain ⟨c77, h⟩ := h
    refine ⟨c77, ?_⟩
    have n78 := k2_ne K c77 (by decide)
    obtain ⟨c79, h⟩ := h
    refine ⟨c79, ?_⟩
    intro x81 e80
    have h := h x81 e80
    have K := k2_I K e80 n78
    obtain ⟨b82, e83, h⟩ := h
    refine ⟨b82, e83, ?_⟩
    obtain ⟨c84, h⟩ := h
    refine ⟨c84, ?_⟩
    have n85 := k2_ne K c84 (by decide)
    obtain ⟨b86, e87, h⟩ := h
    refine ⟨b86, e87, ?_⟩
    obtain ⟨b88, e89, h⟩ := h
    refine ⟨b88, e89, ?_⟩
    obtain ⟨c90, h⟩ := h
    refine ⟨c90, ?_⟩
    have n91 := k2_ne K c90 (by decide)
    intro x93 e92
    have h := h x93 e92
    obtain ⟨c94, h⟩ := h
    refine ⟨c94, ?_⟩
    have n95 := k2_ne K c94 (by decide)
    obtain ⟨c96, h⟩ := h
    refine ⟨c96, ?_⟩
    intro x98 e97
    have h := h x98 e97
    have K := k2_I K e97 n95
    obtain ⟨b99, e100, h⟩ := h
    refine ⟨b99, e100, ?_⟩
    obtain ⟨c101, h⟩ := h
    refine ⟨c101, ?_⟩
    have n102 := k2_ne K c101 (by decide)
    obtain ⟨b103, e104, h⟩ := h
    refine ⟨b103, e104, ?_⟩
    obtain ⟨b105, e106, h⟩ := h
    refine ⟨b105, e106, ?_⟩
    obtain ⟨c107, h⟩ := h
    refine ⟨c107, ?_⟩
    have n108 := k2_ne K c107 (by decide)
    intro x110 e109
    have h := h x110 e109
    obtain ⟨c111, h⟩ := h
    refine ⟨c111, ?_⟩
    have n112 := k2_ne K c111 (by decide)
    obtain ⟨c113, h⟩ := h
    refine ⟨c113, ?_⟩
    intro x115 e114
    have h := h x115 e114
    have K := k2_I K e114 n112
    obtain ⟨b116, e117, h⟩ := h
    refine ⟨b116, e117, ?_⟩
    obtain ⟨c118, h⟩ := h
    refine ⟨c118, ?_⟩
    have n119 := k2_ne K c118 (by decide)
    intro x121 e120
    have h := h x121 e120
    intro x123 e122
    have h := h x123 e122
    intro x125 e124
    have h := h x125 e124
    have K := k2_I K e124 n119
    exact ⟨h, K⟩
  · intro c126
    have h := h.2 c126
    exact ⟨h, K⟩
theorem kf_X11_readRain {Q : HS → Prop} {v0 : Nat} {S : HS} (h : P_X11_readRain v0 Q S) : P_X11_readRain v0 (fun T => Q T ∧ K2 S T) S := kf_X11_readRain_0 h (k2_rf S)
set_option maxRecDepth 20000 in
set_option maxHeartbeats 1000000 in
theorem kf_X11_readRoad_85 {Q : HS → Prop} {v0 : Nat} {v1 : Int32} {v2 : Int32} {v3 : Int32} {v4 : Int32} {s0 : Int32} {S0 S : HS} (h : P_X11_readRoad_85 Q v0 v1 v2 v3 v4 s0 S) (K : K2 S0 S) : P_X11_readRoad_85 (fun T => Q T ∧ K2 S0 T) v0 v1 v2 v3 v4 s0 S := by
  delta P_X11_readRoad_85 at h ⊢
  obtain ⟨c1, h⟩ := h
  refine ⟨c1, ?_⟩
  have n2 := k2_ne K c1 (by decide)
  intro x4 e3
  have h := h x4 e3
  refine ⟨?_, ?_⟩
  · intro c5
    have h := h.1 c5
    obtain ⟨b6, e7, h⟩ := h
    refine ⟨b6, e7, ?_⟩
    obtain ⟨c8, h⟩ := h
    refine ⟨c8, ?_⟩
    have n9 := k2_ne K c8 (by decide)
    intro x11 e10
    have h := h x11 e10
    obtain ⟨b12, e13, h⟩ := h
    refine ⟨b12, e13, ?_⟩
    obtain ⟨c14, h⟩ := h
    refine ⟨c14, ?_⟩
    have n15 := k2_ne K c14 (by decide)
    obtain ⟨b16, e17, h⟩ := h
    refine ⟨b16, e17, ?_⟩
    obtain ⟨c18, h⟩ := h
    refine ⟨c18, ?_⟩
    have n19 := k2_ne K c18 (by decide)
    obtain ⟨c20, h⟩ := h
    refine ⟨c20, ?_⟩
    intro x22 e21
    have h := h x22 e21
    have K := k2_I K e21 n19
    obtain ⟨b23, e24, h⟩ := h
    refine ⟨b23, e24, ?_⟩
    obtain ⟨c25, h⟩ := h
    refine ⟨c25, ?_⟩
    have n26 := k2_ne K c25 (by decide)
    obtain ⟨b27, e28, h⟩ := h
    refine ⟨b27, e28, ?_⟩
    obtain ⟨c29, h⟩ := h
    refine ⟨c29, ?_⟩
    have n30 := k2_ne K c29 (by decide)
    obtain ⟨c31, h⟩ := h
    refine ⟨c31, ?_⟩
    intro x33 e32
    have h := h x33 e32
    have K := k2_I K e32 n30
    obtain ⟨b34, e35, h⟩ := h
    refine ⟨b34, e35, ?_⟩
    obtain ⟨c36, h⟩ := h
    refine ⟨c36, ?_⟩
    have n37 := k2_ne K c36 (by decide)
    obtain ⟨b38, e39, h⟩ := h
    refine ⟨b38, e39, ?_⟩
    obtain ⟨c40, h⟩ := h
    refine ⟨c40, ?_⟩
    have n41 := k2_ne K c40 (by decide)
    obtain ⟨c42, h⟩ := h
    refine ⟨c42, ?_⟩
    intro x44 e43
    have h := h x44 e43
    have K := k2_I K e43 n41
    obtain ⟨b45, e46, h⟩ := h
    refine ⟨b45, e46, ?_⟩
    obtain ⟨c47, h⟩ := h
    refine ⟨c47, ?_⟩
    have n48 := k2_ne K c47 (by decide)
    obtain ⟨b49, e50, h⟩ := h
    refine ⟨b49, e50, ?_⟩
    obtain ⟨c51, h⟩ := h
    refine ⟨c51, ?_⟩
    have n52 := k2_ne K c51 (by decide)
    obtain ⟨c53, h⟩ := h
    refine ⟨c53, ?_⟩
    intro x55 e54
    have h := h x55 e54
    have K := k2_I K e54 n52
    obtain ⟨b56, e57, h⟩ := h
    refine ⟨b56, e57, ?_⟩
    obtain ⟨c58, h⟩ := h
    refine ⟨c58, ?_⟩
    have n59 := k2_ne K c58 (by decide)
    obtain ⟨b60, e61, h⟩ := h
    refine ⟨b60, e61, ?_⟩
    obtain ⟨c62, h⟩ := h
    refine ⟨c62, ?_⟩
    have n63 := k2_ne K c62 (by decide)
    obtain ⟨c64, h⟩ := h
    refine ⟨c64, ?_⟩
    intro x66 e65
    have h := h x66 e65
    have K := k2_I K e65 n63
    obtain ⟨b67, e68, h⟩ := h
    refine ⟨b67, e68, ?_⟩
    obtain ⟨c69, h⟩ := h
    refine ⟨c69, ?_⟩
    have n70 := k2_ne K c69 (by decide)
    intro x72 e71
    have h := h x72 e71
    intro x74 e73
    have h := h x74 e73
    intro x76 e75
    have h := h x76 e75
    have K := k2_I K e75 n70
    exact ⟨h, K⟩
  · intro c77
    have h := h.2 c77
    exact ⟨h, K⟩
set_option maxRecDepth 20000 in
set_option maxHeartbeats 1000000 in
theorem kf_X11_readRoad_62 {Q : HS → Prop} {v0 : Nat} {v1 : Int32} {v2 : Int32} {v3 : Int32} {v4 : Int32} {S0 S : HS} (h : P_X11_readRoad_62 Q v0 v1 v2 v3 v4 S) (K : K2 S0 S) : P_X11_readRoad_62 (fun T => Q T ∧ K2 S0 T) v0 v1 v2 v3 v4 S := by
  delta P_X11_readRoad_62 at h ⊢
  obtain ⟨c1, h⟩ := h
  refine ⟨c1, ?_⟩
  have n2 := k2_ne K c1 (by decide)
  refine cm_X11_goesOn (kf_X11_goesOn h) h (fun x3 hp h g4 => ?_)
  have h := h g4
  have K := k2_tr K hp.2
  refine cm_X11_eatsWord (kf_X11_eatsWord h) h (fun x5 x6 hp h g7 g8 => ?_)
  have h := h g7 g8
  have K := k2_tr K hp.2
  refine ⟨?_, ?_⟩
  · intro c9
    have h := h.1 c9
    exact kf_X11_readRoad_85 h K
  · intro c10
    have h := h.2 c10
    refine cm_X11_readWhole (kf_X11_readWhole h) h (fun x11 x12 hp h g13 => ?_)
    have h := h g13
    have K := k2_tr K hp.2
    exact kf_X11_readRoad_85 h K
set_option maxRecDepth 20000 in
set_option maxHeartbeats 1000000 in
theorem kf_X11_readRoad_0 {Q : HS → Prop} {v0 : Nat} {S0 S : HS} (h : P_X11_readRoad_0 Q v0 S) (K : K2 S0 S) : P_X11_readRoad_0 (fun T => Q T ∧ K2 S0 T) v0 S := by
  delta P_X11_readRoad_0 at h ⊢
  obtain ⟨c1, h⟩ := h
  refine ⟨c1, ?_⟩
  have n2 := k2_ne K c1 (by decide)
  obtain ⟨b3, e4, h⟩ := h
  refine ⟨b3, e4, ?_⟩
  obtain ⟨c5, h⟩ := h
  refine ⟨c5, ?_⟩
  have n6 := k2_ne K c5 (by decide)
  intro x8 e7
  have h := h x8 e7
  refine cm_X11_begins (kf_X11_begins h) h (fun x9 hp h g10 => ?_)
  have h := h g10
  have K := k2_tr K hp.2
  refine cm_X11_known (kf_X11_known h) h (fun x11 x12 hp h g13 => ?_)
  have h := h g13
  have K := k2_tr K hp.2
  refine cm_X11_goesOn (kf_X11_goesOn h) h (fun x14 hp h g15 => ?_)
  have h := h g15
  have K := k2_tr K hp.2
  refine cm_X11_readSide (kf_X11_readSide h) h (fun x16 x17 hp h g18 => ?_)
  have h := h g18
  have K := k2_tr K hp.2
  refine cm_X11_readWhole (kf_X11_readWhole h) h (fun x19 x20 hp h g21 => ?_)
  have h := h g21
  have K := k2_tr K hp.2
  refine cm_X11_known (kf_X11_known h) h (fun x22 x23 hp h g24 => ?_)
  have h := h g24
  have K := k2_tr K hp.2
  intro x26 e25
  have h := h x26 e25
  refine ⟨?_, ?_⟩
  · intro c27
    have h := h.1 c27
    exact kf_X11_readRoad_62 h K
  · intro c28
    have h := h.2 c28
    refine ⟨?_, ?_⟩
    · intro c29
      have h := h.1 c29
      exact kf_X11_readRoad_62 h K
    · intro c30
      have h := h.2 c30
      refine cm_X11_flaw (kf_X11_flaw h) h (fun x31 hp h g32 => ?_)
      have h := h g32
      have K := k2_tr K hp.2
      exact kf_X11_readRoad_62 h K
theorem kf_X11_readRoad {Q : HS → Prop} {v0 : Nat} {S : HS} (h : P_X11_readRoad v0 Q S) : P_X11_readRoad v0 (fun T => Q T ∧ K2 S T) S := kf_X11_readRoad_0 h (k2_rf S)
set_option maxRecDepth 20000 in
set_option maxHeartbeats 1000000 in
theorem kf_X11_readSeen_47 {Q : HS → Prop} {X24 X24_2 : Nat → Int32 → Int32 → HS → Prop} {v0 : Nat} {v1 : Int32} {v2 : Int32} {S0 S : HS} (h : P_X11_readSeen_47 Q X24 v0 v1 v2 S) (K : K2 S0 S) (hX24 : ∀ (u0 : Nat) (u1 : Int32) (u2 : Int32) (u3 : HS), X24 u0 u1 u2 u3 → K2 S0 u3 → X24_2 u0 u1 u2 u3) : P_X11_readSeen_47 (fun T => Q T ∧ K2 S0 T) X24_2 v0 v1 v2 S := by
  delta P_X11_readSeen_47 at h ⊢
  obtain ⟨c1, h⟩ := h
  refine ⟨c1, ?_⟩
  have n2 := k2_ne K c1 (by decide)
  refine cm_X11_readWhole (kf_X11_readWhole h) h (fun x3 x4 hp h g5 => ?_)
  have h := h g5
  have K := k2_tr K hp.2
  intro x7 e6
  have h := h x7 e6
  refine ⟨?_, ?_⟩
  · intro c8
    have h := h.1 c8
    obtain ⟨b9, e10, h⟩ := h
    refine ⟨b9, e10, ?_⟩
    obtain ⟨c11, h⟩ := h
    refine ⟨c11, ?_⟩
    have n12 := k2_ne K c11 (by decide)
    obtain ⟨b13, e14, h⟩ := h
    refine ⟨b13, e14, ?_⟩
    obtain ⟨b15, e16, h⟩ := h
    refine ⟨b15, e16, ?_⟩
    obtain ⟨c17, h⟩ := h
    refine ⟨c17, ?_⟩
    have n18 := k2_ne K c17 (by decide)
    intro x20 e19
    have h := h x20 e19
    obtain ⟨c21, h⟩ := h
    refine ⟨c21, ?_⟩
    have n22 := k2_ne K c21 (by decide)
    obtain ⟨c23, h⟩ := h
    refine ⟨c23, ?_⟩
    intro x25 e24
    have h := h x25 e24
    have K := k2_I K e24 n22
    intro x27 e26
    have h := h x27 e26
    exact hX24 _ _ _ _ h K
  · intro c28
    have h := h.2 c28
    exact ⟨h, K⟩
set_option maxRecDepth 20000 in
set_option maxHeartbeats 1000000 in
theorem kfB_X11_readSeen_24 {Q : HS → Prop} {X24 X24_2 : Nat → Int32 → Int32 → HS → Prop} {v0 : Nat} {v1 : Int32} {v2 : Int32} {S0 S : HS} (h : B_X11_readSeen_24 Q X24 v0 v1 v2 S) (K : K2 S0 S) (hX24 : ∀ (u0 : Nat) (u1 : Int32) (u2 : Int32) (u3 : HS), X24 u0 u1 u2 u3 → K2 S0 u3 → X24_2 u0 u1 u2 u3) : B_X11_readSeen_24 (fun T => Q T ∧ K2 S0 T) X24_2 v0 v1 v2 S := by
  delta B_X11_readSeen_24 at h ⊢
  refine ⟨?_, ?_⟩
  · intro c1
    have h := h.1 c1
    obtain ⟨c2, h⟩ := h
    refine ⟨c2, ?_⟩
    have n3 := k2_ne K c2 (by decide)
    obtain ⟨b4, e5, h⟩ := h
    refine ⟨b4, e5, ?_⟩
    obtain ⟨c6, h⟩ := h
    refine ⟨c6, ?_⟩
    have n7 := k2_ne K c6 (by decide)
    obtain ⟨b8, e9, h⟩ := h
    refine ⟨b8, e9, ?_⟩
    obtain ⟨b10, e11, h⟩ := h
    refine ⟨b10, e11, ?_⟩
    obtain ⟨c12, h⟩ := h
    refine ⟨c12, ?_⟩
    have n13 := k2_ne K c12 (by decide)
    intro x15 e14
    have h := h x15 e14
    obtain ⟨c16, h⟩ := h
    refine ⟨c16, ?_⟩
    have n17 := k2_ne K c16 (by decide)
    obtain ⟨c18, h⟩ := h
    refine ⟨c18, ?_⟩
    intro x20 e19
    have h := h x20 e19
    have K := k2_I K e19 n17
    obtain ⟨b21, e22, h⟩ := h
    refine ⟨b21, e22, ?_⟩
    obtain ⟨c23, h⟩ := h
    refine ⟨c23, ?_⟩
    have n24 := k2_ne K c23 (by decide)
    intro x26 e25
    have h := h x26 e25
    intro x28 e27
    have h := h x28 e27
    intro x30 e29
    have h := h x30 e29
    have K := k2_I K e29 n24
    exact ⟨h, K⟩
  · intro c31
    have h := h.2 c31
    refine ⟨?_, ?_⟩
    · intro c32
      have h := h.1 c32
      exact kf_X11_readSeen_47 h K hX24
    · intro c33
      have h := h.2 c33
      obtain ⟨c34, h⟩ := h
      refine ⟨c34, ?_⟩
      have n35 := k2_ne K c34 (by decide)
      refine cm_X11_eatsSign (kf_X11_eatsSign h) h (fun x36 x37 hp h g38 g39 => ?_)
      have h := h g38 g39
      have K := k2_tr K hp.2
      refine ⟨?_, ?_⟩
      · intro c40
        have h := h.1 c40
        exact kf_X11_readSeen_47 h K hX24
      · intro c41
        have h := h.2 c41
        refine cm_X11_flaw (kf_X11_flaw h) h (fun x42 hp h g43 => ?_)
        have h := h g43
        have K := k2_tr K hp.2
        exact kf_X11_readSeen_47 h K hX24
theorem kf_X11_readSeen_24 {Q : HS → Prop} {v0 : Nat} {v1 : Int32} {v2 : Int32} {S0 S : HS} (h : P_X11_readSeen_24 Q v0 v1 v2 S) (K : K2 S0 S) : P_X11_readSeen_24 (fun T => Q T ∧ K2 S0 T) v0 v1 v2 S := h (fun v0 v1 v2 S => K2 S0 S → P_X11_readSeen_24 (fun T => Q T ∧ K2 S0 T) v0 v1 v2 S) (fun v0 v1 v2 S hB K => fd_X11_readSeen_24 (kfB_X11_readSeen_24 hB K (fun _ _ _ _ hx K => hx K))) K
set_option maxRecDepth 20000 in
set_option maxHeartbeats 1000000 in
theorem kf_X11_readSeen_0 {Q : HS → Prop} {v0 : Nat} {S0 S : HS} (h : P_X11_readSeen_0 Q v0 S) (K : K2 S0 S) : P_X11_readSeen_0 (fun T => Q T ∧ K2 S0 T) v0 S := by
  delta P_X11_readSeen_0 at h ⊢
  obtain ⟨c1, h⟩ := h
  refine ⟨c1, ?_⟩
  have n2 := k2_ne K c1 (by decide)
  obtain ⟨b3, e4, h⟩ := h
  refine ⟨b3, e4, ?_⟩
  obtain ⟨c5, h⟩ := h
  refine ⟨c5, ?_⟩
  have n6 := k2_ne K c5 (by decide)
  intro x8 e7
  have h := h x8 e7
  refine cm_X11_begins (kf_X11_begins h) h (fun x9 hp h g10 => ?_)
  have h := h g10
  have K := k2_tr K hp.2
  refine cm_X11_known (kf_X11_known h) h (fun x11 x12 hp h g13 => ?_)
  have h := h g13
  have K := k2_tr K hp.2
  refine cm_X11_goesOn (kf_X11_goesOn h) h (fun x14 hp h g15 => ?_)
  have h := h g15
  have K := k2_tr K hp.2
  exact kf_X11_readSeen_24 h K
theorem kf_X11_readSeen {Q : HS → Prop} {v0 : Nat} {S : HS} (h : P_X11_readSeen v0 Q S) : P_X11_readSeen v0 (fun T => Q T ∧ K2 S T) S := kf_X11_readSeen_0 h (k2_rf S)
set_option maxRecDepth 20000 in
set_option maxHeartbeats 1000000 in
theorem kf_X11_readWalker_149 {Q : HS → Prop} {v0 : Nat} {v1 : Int64} {v3 : Int32} {v4 : Int32} {s0 : Int32} {S0 S : HS} (h : P_X11_readWalker_149 Q v0 v1 v3 v4 s0 S) (K : K2 S0 S) : P_X11_readWalker_149 (fun T => Q T ∧ K2 S0 T) v0 v1 v3 v4 s0 S := by
  delta P_X11_readWalker_149 at h ⊢
  obtain ⟨c1, h⟩ := h
  refine ⟨c1, ?_⟩
  have n2 := k2_ne K c1 (by decide)
  refine cm_X11_readPart (kf_X11_readPart h) h (fun x3 x4 hp h g5 => ?_)
  have h := h g5
  have K := k2_tr K hp.2
  refine cm_X11_readPart (kf_X11_readPart h) h (fun x6 x7 hp h g8 => ?_)
  have h := h g8
  have K := k2_tr K hp.2
  refine cm_X11_readPart (kf_X11_readPart h) h (fun x9 x10 hp h g11 => ?_)
  have h := h g11
  have K := k2_tr K hp.2
  refine cm_X11_readPart (kf_X11_readPart h) h (fun x12 x13 hp h g14 => ?_)
  have h := h g14
  have K := k2_tr K hp.2
  refine cm_X11_readPart (kf_X11_readPart h) h (fun x15 x16 hp h g17 => ?_)
  have h := h g17
  have K := k2_tr K hp.2
  intro x19 e18
  have h := h x19 e18
  refine ⟨?_, ?_⟩
  · intro c20
    have h := h.1 c20
    obtain ⟨b21, e22, h⟩ := h
    refine ⟨b21, e22, ?_⟩
    obtain ⟨c23, h⟩ := h
    refine ⟨c23, ?_⟩
    have n24 := k2_ne K c23 (by decide)
    intro x26 e25
    have h := h x26 e25
    refine cm_X11_names (kf_X11_names h) h (fun x27 hp h g28 => ?_)
    have h := h g28
    have K := k2_tr K hp.2
    obtain ⟨b29, e30, h⟩ := h
    refine ⟨b29, e30, ?_⟩
    obtain ⟨c31, h⟩ := h
    refine ⟨c31, ?_⟩
    have n32 := k2_ne K c31 (by decide)
    obtain ⟨b33, e34, h⟩ := h
    refine ⟨b33, e34, ?_⟩
    obtain ⟨c35, h⟩ := h
    refine ⟨c35, ?_⟩
    have n36 := k2_ne K c35 (by decide)
    obtain ⟨c37, h⟩ := h
    refine ⟨c37, ?_⟩
    intro x39 e38
    have h := h x39 e38
    have K := k2_I K e38 n36
    obtain ⟨b40, e41, h⟩ := h
    refine ⟨b40, e41, ?_⟩
    obtain ⟨c42, h⟩ := h
    refine ⟨c42, ?_⟩
    have n43 := k2_ne K c42 (by decide)
    obtain ⟨b44, e45, h⟩ := h
    refine ⟨b44, e45, ?_⟩
    obtain ⟨c46, h⟩ := h
    refine ⟨c46, ?_⟩
    have n47 := k2_ne K c46 (by decide)
    obtain ⟨c48, h⟩ := h
    refine ⟨c48, ?_⟩
    intro x50 e49
    have h := h x50 e49
    have K := k2_I K e49 n47
    obtain ⟨b51, e52, h⟩ := h
    refine ⟨b51, e52, ?_⟩
    obtain ⟨c53, h⟩ := h
    refine ⟨c53, ?_⟩
    have n54 := k2_ne K c53 (by decide)
    obtain ⟨b55, e56, h⟩ := h
    refine ⟨b55, e56, ?_⟩
    obtain ⟨c57, h⟩ := h
    refine ⟨c57, ?_⟩
    have n58 := k2_ne K c57 (by decide)
    intro x60 e59
    have h := h x60 e59
    obtain ⟨c61, h⟩ := h
    refine ⟨c61, ?_⟩
    intro x63 e62
    have h := h x63 e62
    have K := k2_I K e62 n58
    obtain ⟨b64, e65, h⟩ := h
    refine ⟨b64, e65, ?_⟩
    obtain ⟨c66, h⟩ := h
    refine ⟨c66, ?_⟩
    have n67 := k2_ne K c66 (by decide)
    obtain ⟨b68, e69, h⟩ := h
    refine ⟨b68, e69, ?_⟩
    obtain ⟨c70, h⟩ := h
    refine ⟨c70, ?_⟩
    have n71 := k2_ne K c70 (by decide)
    intro x73 e72
    have h := h x73 e72
    obtain ⟨c74, h⟩ := h
    refine ⟨c74, ?_⟩
    intro x76 e75
    have h := h x76 e75
    have K := k2_I K e75 n71
    obtain ⟨b77, e78, h⟩ := h
    refine ⟨b77, e78, ?_⟩
    obtain ⟨c79, h⟩ := h
    refine ⟨c79, ?_⟩
    have n80 := k2_ne K c79 (by decide)
    obtain ⟨b81, e82, h⟩ := h
    refine ⟨b81, e82, ?_⟩
    obtain ⟨c83, h⟩ := h
    refine ⟨c83, ?_⟩
    have n84 := k2_ne K c83 (by decide)
    intro x86 e85
    have h := h x86 e85
    obtain ⟨c87, h⟩ := h
    refine ⟨c87, ?_⟩
    intro x89 e88
    have h := h x89 e88
    have K := k2_I K e88 n84
    obtain ⟨b90, e91, h⟩ := h
    refine ⟨b90, e91, ?_⟩
    obtain ⟨c92, h⟩ := h
    refine ⟨c92, ?_⟩
    have n93 := k2_ne K c92 (by decide)
    obtain ⟨b94, e95, h⟩ := h
    refine ⟨b94, e95, ?_⟩
    obtain ⟨c96, h⟩ := h
    refine ⟨c96, ?_⟩
    have n97 := k2_ne K c96 (by decide)
    obtain ⟨c98, h⟩ := h
    refine ⟨c98, ?_⟩
    intro x100 e99
    have h := h x100 e99
    have K := k2_I K e99 n97
    obtain ⟨b101, e102, h⟩ := h
    refine ⟨b101, e102, ?_⟩
    obtain ⟨c103, h⟩ := h
    refine ⟨c103, ?_⟩
    have n104 := k2_ne K c103 (by decide)
    obtain ⟨b105, e106, h⟩ := h
    refine ⟨b105, e106, ?_⟩
    obtain ⟨c107, h⟩ := h
    refine ⟨c107, ?_⟩
    have n108 := k2_ne K c107 (by decide)
    obtain ⟨c109, h⟩ := h
    refine ⟨c109, ?_⟩
    intro x111 e110
    have h := h x111 e110
    have K := k2_I K e110 n108
    obtain ⟨b112, e113, h⟩ := h
    refine ⟨b112, e113, ?_⟩
    obtain ⟨c114, h⟩ := h
    refine ⟨c114, ?_⟩
    have n115 := k2_ne K c114 (by decide)
    intro x117 e116
    have h := h x117 e116
    intro x119 e118
    have h := h x119 e118
    intro x121 e120
    have h := h x121 e120
    have K := k2_I K e120 n115
    exact ⟨h, K⟩
  · intro c122
    have h := h.2 c122
    exact ⟨h, K⟩
set_option maxRecDepth 20000 in
set_option maxHeartbeats 1000000 in
theorem kf_X11_readWalker_136 {Q : HS → Prop} {v0 : Nat} {v1 : Int64} {v3 : Int32} {s0 : Int32} {S0 S : HS} (h : P_X11_readWalker_136 Q v0 v1 v3 s0 S) (K : K2 S0 S) : P_X11_readWalker_136 (fun T => Q T ∧ K2 S0 T) v0 v1 v3 s0 S := by
  delta P_X11_readWalker_136 at h ⊢
  refine ⟨?_, ?_⟩
  · intro c1
    have h := h.1 c1
    exact kf_X11_readWalker_149 h K
  · intro c2
    have h := h.2 c2
    exact kf_X11_readWalker_149 h K
set_option maxRecDepth 20000 in
set_option maxHeartbeats 1000000 in
theorem kf_X11_readWalker_85 {Q : HS → Prop} {v0 : Nat} {v1 : Int64} {v3 : Int32} {S0 S : HS} (h : P_X11_readWalker_85 Q v0 v1 v3 S) (K : K2 S0 S) : P_X11_readWalker_85 (fun T => Q T ∧ K2 S0 T) v0 v1 v3 S := by
  delta P_X11_readWalker_85 at h ⊢
  obtain ⟨c1, h⟩ := h
  refine ⟨c1, ?_⟩
  have n2 := k2_ne K c1 (by decide)
  refine cm_X11_goesOn (kf_X11_goesOn h) h (fun x3 hp h g4 => ?_)
  have h := h g4
  have K := k2_tr K hp.2
  refine ⟨?_, ?_⟩
  · intro c5
    have h := h.1 c5
    refine ⟨?_, ?_⟩
    · intro c6
      have h := h.1 c6
      refine ⟨?_, ?_⟩
      · intro c7
        have h := h.1 c7
        exact kf_X11_readWalker_136 h K
      · intro c8
        have h := h.2 c8
        refine cm_X11_readWhole (kf_X11_readWhole h) h (fun x9 x10 hp h g11 => ?_)
        have h := h g11
        have K := k2_tr K hp.2
        exact kf_X11_readWalker_136 h K
    · intro c12
      have h := h.2 c12
      refine cm_X11_readWhole (kf_X11_readWhole h) h (fun x13 x14 hp h g15 => ?_)
      have h := h g15
      have K := k2_tr K hp.2
      exact kf_X11_readWalker_136 h K
  · intro c16
    have h := h.2 c16
    refine cm_X11_readWhole (kf_X11_readWhole h) h (fun x17 x18 hp h g19 => ?_)
    have h := h g19
    have K := k2_tr K hp.2
    exact kf_X11_readWalker_136 h K
set_option maxRecDepth 20000 in
set_option maxHeartbeats 1000000 in
theorem kf_X11_readWalker_74 {Q : HS → Prop} {v0 : Nat} {v1 : Int64} {s0 : Int32} {S0 S : HS} (h : P_X11_readWalker_74 Q v0 v1 s0 S) (K : K2 S0 S) : P_X11_readWalker_74 (fun T => Q T ∧ K2 S0 T) v0 v1 s0 S := by
  delta P_X11_readWalker_74 at h ⊢
  refine ⟨?_, ?_⟩
  · intro c1
    have h := h.1 c1
    exact kf_X11_readWalker_85 h K
  · intro c2
    have h := h.2 c2
    obtain ⟨c3, h⟩ := h
    refine ⟨c3, ?_⟩
    have n4 := k2_ne K c3 (by decide)
    refine cm_X11_flaw (kf_X11_flaw h) h (fun x5 hp h g6 => ?_)
    have h := h g6
    have K := k2_tr K hp.2
    exact kf_X11_readWalker_85 h K
set_option maxRecDepth 20000 in
set_option maxHeartbeats 1000000 in
theorem kf_X11_readWalker_0 {Q : HS → Prop} {v0 : Nat} {S0 S : HS} (h : P_X11_readWalker_0 Q v0 S) (K : K2 S0 S) : P_X11_readWalker_0 (fun T => Q T ∧ K2 S0 T) v0 S := by
  delta P_X11_readWalker_0 at h ⊢
  obtain ⟨c1, h⟩ := h
  refine ⟨c1, ?_⟩
  have n2 := k2_ne K c1 (by decide)
  obtain ⟨b3, e4, h⟩ := h
  refine ⟨b3, e4, ?_⟩
  obtain ⟨c5, h⟩ := h
  refine ⟨c5, ?_⟩
  have n6 := k2_ne K c5 (by decide)
  intro x8 e7
  have h := h x8 e7
  refine cm_X11_begins (kf_X11_begins h) h (fun x9 hp h g10 => ?_)
  have h := h g10
  have K := k2_tr K hp.2
  refine cm_X11_readFresh (kf_X11_readFresh h) h (fun x11 x12 hp h g13 => ?_)
  have h := h g13
  have K := k2_tr K hp.2
  refine cm_X11_isWord (kf_X11_isWord h) h (fun x14 x15 hp h g16 g17 => ?_)
  have h := h g16 g17
  have K := k2_tr K hp.2
  refine ⟨?_, ?_⟩
  · intro c18
    have h := h.1 c18
    refine cm_X11_isWord (kf_X11_isWord h) h (fun x19 x20 hp h g21 g22 => ?_)
    have h := h g21 g22
    have K := k2_tr K hp.2
    refine ⟨?_, ?_⟩
    · intro c23
      have h := h.1 c23
      refine cm_X11_isWord (kf_X11_isWord h) h (fun x24 x25 hp h g26 g27 => ?_)
      have h := h g26 g27
      have K := k2_tr K hp.2
      refine ⟨?_, ?_⟩
      · intro c28
        have h := h.1 c28
        refine cm_X11_isWord (kf_X11_isWord h) h (fun x29 x30 hp h g31 g32 => ?_)
        have h := h g31 g32
        have K := k2_tr K hp.2
        refine ⟨?_, ?_⟩
        · intro c33
          have h := h.1 c33
          exact kf_X11_readWalker_74 h K
        · intro c34
          have h := h.2 c34
          exact kf_X11_readWalker_74 h K
      · intro c35
        have h := h.2 c35
        exact kf_X11_readWalker_74 h K
    · intro c36
      have h := h.2 c36
      exact kf_X11_readWalker_74 h K
  · intro c37
    have h := h.2 c37
    exact kf_X11_readWalker_74 h K
theorem kf_X11_readWalker {Q : HS → Prop} {v0 : Nat} {S : HS} (h : P_X11_readWalker v0 Q S) : P_X11_readWalker v0 (fun T => Q T ∧ K2 S T) S := kf_X11_readWalker_0 h (k2_rf S)
set_option maxRecDepth 20000 in
set_option maxHeartbeats 1000000 in
theorem kf_X11_readWorld_15 {Q : HS → Prop} {v0 : Nat} {S0 S : HS} (h : P_X11_readWorld_15 Q v0 S) (K : K2 S0 S) : P_X11_readWorld_15 (fun T => Q T ∧ K2 S0 T) v0 S := by
  delta P_X11_readWorld_15 at h ⊢
  obtain ⟨c1, h⟩ := h
  refine ⟨c1, ?_⟩
  have n2 := k2_ne K c1 (by decide)
  refine cm_X11_goesOn (kf_X11_goesOn h) h (fun x3 hp h g4 => ?_)
  have h := h g4
  have K := k2_tr K hp.2
  refine cm_X11_readPart (kf_X11_readPart h) h (fun x5 x6 hp h g7 => ?_)
  have h := h g7
  have K := k2_tr K hp.2
  intro x9 e8
  have h := h x9 e8
  refine ⟨?_, ?_⟩
  · intro c10
    have h := h.1 c10
    exact ⟨h, K⟩
  · intro c11
    have h := h.2 c11
    obtain ⟨b12, e13, h⟩ := h
    refine ⟨b12, e13, ?_⟩
    obtain ⟨c14, h⟩ := h
    refine ⟨c14, ?_⟩
    have n15 := k2_ne K c14 (by decide)
    intro x17 e16
    have h := h x17 e16
    have K := k2_I K e16 n15
    exact ⟨h, K⟩
set_option maxRecDepth 20000 in
set_option maxHeartbeats 1000000 in
theorem kf_X11_readWorld_0 {Q : HS → Prop} {v0 : Nat} {S0 S : HS} (h : P_X11_readWorld_0 Q v0 S) (K : K2 S0 S) : P_X11_readWorld_0 (fun T => Q T ∧ K2 S0 T) v0 S := by
  delta P_X11_readWorld_0 at h ⊢
  obtain ⟨c1, h⟩ := h
  refine ⟨c1, ?_⟩
  have n2 := k2_ne K c1 (by decide)
  obtain ⟨b3, e4, h⟩ := h
  refine ⟨b3, e4, ?_⟩
  obtain ⟨c5, h⟩ := h
  refine ⟨c5, ?_⟩
  have n6 := k2_ne K c5 (by decide)
  intro x8 e7
  have h := h x8 e7
  refine ⟨?_, ?_⟩
  · intro c9
    have h := h.1 c9
    exact kf_X11_readWorld_15 h K
  · intro c10
    have h := h.2 c10
    refine cm_X11_flaw (kf_X11_flaw h) h (fun x11 hp h g12 => ?_)
    have h := h g12
    have K := k2_tr K hp.2
    exact kf_X11_readWorld_15 h K
theorem kf_X11_readWorld {Q : HS → Prop} {v0 : Nat} {S : HS} (h : P_X11_readWorld v0 Q S) : P_X11_readWorld v0 (fun T => Q T ∧ K2 S T) S := kf_X11_readWorld_0 h (k2_rf S)
set_option maxRecDepth 20000 in
set_option maxHeartbeats 1000000 in
theorem kf_X11_readLine_0 {Q : HS → Prop} {v0 : Nat} {S0 S : HS} (h : P_X11_readLine_0 Q v0 S) (K : K2 S0 S) : P_X11_readLine_0 (fun T => Q T ∧ K2 S0 T) v0 S := by
  delta P_X11_readLine_0 at h ⊢
  obtain ⟨c1, h⟩ := h
  refine ⟨c1, ?_⟩
  have n2 := k2_ne K c1 (by decide)
  refine cm_X11_isWord (kf_X11_isWord h) h (fun x3 x4 hp h g5 g6 => ?_)
  have h := h g5 g6
  have K := k2_tr K hp.2
  refine ⟨?_, ?_⟩
  · intro c7
    have h := h.1 c7
    refine cm_X11_isWord (kf_X11_isWord h) h (fun x8 x9 hp h g10 g11 => ?_)
    have h := h g10 g11
    have K := k2_tr K hp.2
    refine ⟨?_, ?_⟩
    · intro c12
      have h := h.1 c12
      refine cm_X11_isWord (kf_X11_isWord h) h (fun x13 x14 hp h g15 g16 => ?_)
      have h := h g15 g16
      have K := k2_tr K hp.2
      refine ⟨?_, ?_⟩
      · intro c17
        have h := h.1 c17
        refine cm_X11_isWord (kf_X11_isWord h) h (fun x18 x19 hp h g20 g21 => ?_)
        have h := h g20 g21
        have K := k2_tr K hp.2
        refine ⟨?_, ?_⟩
        · intro c22
          have h := h.1 c22
          refine cm_X11_isWord (kf_X11_isWord h) h (fun x23 x24 hp h g25 g26 => ?_)
          have h := h g25 g26
          have K := k2_tr K hp.2
          refine ⟨?_, ?_⟩
          · intro c27
            have h := h.1 c27
            refine cm_X11_isWord (kf_X11_isWord h) h (fun x28 x29 hp h g30 g31 => ?_)
            have h := h g30 g31
            have K := k2_tr K hp.2
            refine ⟨?_, ?_⟩
            · intro c32
              have h := h.1 c32
              refine cm_X11_flaw (kf_X11_flaw h) h (fun x33 hp h g34 => ?_)
              have h := h g34
              have K := k2_tr K hp.2
              exact ⟨h, K⟩
            · intro c35
              have h := h.2 c35
              refine cm_X11_readSeen (kf_X11_readSeen h) h (fun x36 hp h g37 => ?_)
              have h := h g37
              have K := k2_tr K hp.2
              exact ⟨h, K⟩
          · intro c38
            have h := h.2 c38
            refine cm_X11_readWalker (kf_X11_readWalker h) h (fun x39 hp h g40 => ?_)
            have h := h g40
            have K := k2_tr K hp.2
            exact ⟨h, K⟩
        · intro c41
          have h := h.2 c41
          refine cm_X11_readRoad (kf_X11_readRoad h) h (fun x42 hp h g43 => ?_)
          have h := h g43
          have K := k2_tr K hp.2
          exact ⟨h, K⟩
      · intro c44
        have h := h.2 c44
        refine cm_X11_readPlace (kf_X11_readPlace h) h (fun x45 hp h g46 => ?_)
        have h := h g46
        have K := k2_tr K hp.2
        exact ⟨h, K⟩
    · intro c47
      have h := h.2 c47
      refine cm_X11_readRain (kf_X11_readRain h) h (fun x48 hp h g49 => ?_)
      have h := h g49
      have K := k2_tr K hp.2
      exact ⟨h, K⟩
  · intro c50
    have h := h.2 c50
    refine cm_X11_readWorld (kf_X11_readWorld h) h (fun x51 hp h g52 => ?_)
    have h := h g52
    have K := k2_tr K hp.2
    exact ⟨h, K⟩
theorem kf_X11_readLine {Q : HS → Prop} {v0 : Nat} {S : HS} (h : P_X11_readLine v0 Q S) : P_X11_readLine v0 (fun T => Q T ∧ K2 S T) S := kf_X11_readLine_0 h (k2_rf S)
set_option maxRecDepth 20000 in
set_option maxHeartbeats 1000000 in
theorem kf_X11_readAll_63 {Q : HS → Prop} {v0 : Nat} {S0 S : HS} (h : P_X11_readAll_63 Q v0 S) (K : K2 S0 S) : P_X11_readAll_63 (fun T => Q T ∧ K2 S0 T) v0 S := by
  delta P_X11_readAll_63 at h ⊢
  obtain ⟨c1, h⟩ := h
  refine ⟨c1, ?_⟩
  have n2 := k2_ne K c1 (by decide)
  refine cm_X11_flaw (kf_X11_flaw h) h (fun x3 hp h g4 => ?_)
  have h := h g4
  have K := k2_tr K hp.2
  exact ⟨h, K⟩
set_option maxRecDepth 20000 in
set_option maxHeartbeats 1000000 in
theorem kf_X11_readAll_33 {Q : HS → Prop} {v0 : Nat} {S0 S : HS} (h : P_X11_readAll_33 Q v0 S) (K : K2 S0 S) : P_X11_readAll_33 (fun T => Q T ∧ K2 S0 T) v0 S := by
  delta P_X11_readAll_33 at h ⊢
  obtain ⟨c1, h⟩ := h
  refine ⟨c1, ?_⟩
  have n2 := k2_ne K c1 (by decide)
  obtain ⟨b3, e4, h⟩ := h
  refine ⟨b3, e4, ?_⟩
  obtain ⟨c5, h⟩ := h
  refine ⟨c5, ?_⟩
  have n6 := k2_ne K c5 (by decide)
  intro x8 e7
  have h := h x8 e7
  refine ⟨?_, ?_⟩
  · intro c9
    have h := h.1 c9
    exact kf_X11_readAll_63 h K
  · intro c10
    have h := h.2 c10
    obtain ⟨b11, e12, h⟩ := h
    refine ⟨b11, e12, ?_⟩
    obtain ⟨c13, h⟩ := h
    refine ⟨c13, ?_⟩
    have n14 := k2_ne K c13 (by decide)
    intro x16 e15
    have h := h x16 e15
    refine ⟨?_, ?_⟩
    · intro c17
      have h := h.1 c17
      exact kf_X11_readAll_63 h K
    · intro c18
      have h := h.2 c18
      obtain ⟨b19, e20, h⟩ := h
      refine ⟨b19, e20, ?_⟩
      obtain ⟨c21, h⟩ := h
      refine ⟨c21, ?_⟩
      have n22 := k2_ne K c21 (by decide)
      intro x24 e23
      have h := h x24 e23
      refine ⟨?_, ?_⟩
      · intro c25
        have h := h.1 c25
        exact ⟨h, K⟩
      · intro c26
        have h := h.2 c26
        exact kf_X11_readAll_63 h K
set_option maxRecDepth 20000 in
set_option maxHeartbeats 1000000 in
theorem kfB_X11_readAll_2 {Q : HS → Prop} {X2 X2_2 : Nat → Int32 → HS → Prop} {v0 : Nat} {v1 : Int32} {S0 S : HS} (h : B_X11_readAll_2 Q X2 v0 v1 S) (K : K2 S0 S) (hX2 : ∀ (u0 : Nat) (u1 : Int32) (u2 : HS), X2 u0 u1 u2 → K2 S0 u2 → X2_2 u0 u1 u2) : B_X11_readAll_2 (fun T => Q T ∧ K2 S0 T) X2_2 v0 v1 S := by
  delta B_X11_readAll_2 at h ⊢
  refine ⟨?_, ?_⟩
  · intro c1
    have h := h.1 c1
    obtain ⟨c2, h⟩ := h
    refine ⟨c2, ?_⟩
    have n3 := k2_ne K c2 (by decide)
    intro x5 e4
    have h := h x5 e4
    refine ⟨?_, ?_⟩
    · intro c6
      have h := h.1 c6
      exact kf_X11_readAll_33 h K
    · intro c7
      have h := h.2 c7
      refine cm_X11_flaw (kf_X11_flaw h) h (fun x8 hp h g9 => ?_)
      have h := h g9
      have K := k2_tr K hp.2
      exact kf_X11_readAll_33 h K
  · intro c10
    have h := h.2 c10
    obtain ⟨c11, h⟩ := h
    refine ⟨c11, ?_⟩
    have n12 := k2_ne K c11 (by decide)
    refine cm_X11_readLine (kf_X11_readLine h) h (fun x13 hp h g14 => ?_)
    have h := h g14
    have K := k2_tr K hp.2
    refine cm_X11_eatsSign (kf_X11_eatsSign h) h (fun x15 x16 hp h g17 g18 => ?_)
    have h := h g17 g18
    have K := k2_tr K hp.2
    exact hX2 _ _ _ h K
theorem kf_X11_readAll_2 {Q : HS → Prop} {v0 : Nat} {v1 : Int32} {S0 S : HS} (h : P_X11_readAll_2 Q v0 v1 S) (K : K2 S0 S) : P_X11_readAll_2 (fun T => Q T ∧ K2 S0 T) v0 v1 S := h (fun v0 v1 S => K2 S0 S → P_X11_readAll_2 (fun T => Q T ∧ K2 S0 T) v0 v1 S) (fun v0 v1 S hB K => fd_X11_readAll_2 (kfB_X11_readAll_2 hB K (fun _ _ _ hx K => hx K))) K
set_option maxRecDepth 20000 in
set_option maxHeartbeats 1000000 in
theorem kf_X11_readAll_0 {Q : HS → Prop} {v0 : Nat} {S0 S : HS} (h : P_X11_readAll_0 Q v0 S) (K : K2 S0 S) : P_X11_readAll_0 (fun T => Q T ∧ K2 S0 T) v0 S := by
  delta P_X11_readAll_0 at h ⊢
  exact kf_X11_readAll_2 h K
theorem kf_X11_readAll {Q : HS → Prop} {v0 : Nat} {S : HS} (h : P_X11_readAll v0 Q S) : P_X11_readAll v0 (fun T => Q T ∧ K2 S T) S := kf_X11_readAll_0 h (k2_rf S)
set_option maxRecDepth 20000 in
set_option maxHeartbeats 1000000 in
theorem kf_X11_road_22 {Q : Int32 → HS → Prop} {v0 : Nat} {S0 S : HS} (h : P_X11_road_22 Q v0 S) (K : K2 S0 S) : P_X11_road_22 (fun r T => Q r T ∧ K2 S0 T) v0 S := by
  delta P_X11_road_22 at h ⊢
  obtain ⟨c1, h⟩ := h
  refine ⟨c1, ?_⟩
  have n2 := k2_ne K c1 (by decide)
  refine cm_X11_refused (kf_X11_refused h) h (fun x3 x4 hp h g5 => ?_)
  have h := h g5
  have K := k2_tr K hp.2
  exact ⟨h, K⟩
set_option maxRecDepth 20000 in
set_option maxHeartbeats 1000000 in
theorem kf_X11_road_0 {Q : Int32 → HS → Prop} {v0 : Nat} {v1 : Int32} {v2 : Int32} {S0 S : HS} (h : P_X11_road_0 Q v0 v1 v2 S) (K : K2 S0 S) : P_X11_road_0 (fun r T => Q r T ∧ K2 S0 T) v0 v1 v2 S := by
  delta P_X11_road_0 at h ⊢
  obtain ⟨c1, h⟩ := h
  refine ⟨c1, ?_⟩
  have n2 := k2_ne K c1 (by decide)
  intro x4 e3
  have h := h x4 e3
  have K := k2_I K e3 n2
  refine cm_X11_isRoad (kf_X11_isRoad h) h (fun x5 x6 hp h g7 g8 => ?_)
  have h := h g7 g8
  have K := k2_tr K hp.2
  refine ⟨?_, ?_⟩
  · intro c9
    have h := h.1 c9
    exact kf_X11_road_22 h K
  · intro c10
    have h := h.2 c10
    refine cm_X11_in (kf_X11_in h) h (fun x11 x12 hp h g13 g14 => ?_)
    have h := h g13 g14
    have K := k2_tr K hp.2
    refine ⟨?_, ?_⟩
    · intro c15
      have h := h.1 c15
      refine ⟨?_, ?_, ?_, ?_, ?_⟩
      · intro c16
        have h := h.1 c16
        obtain ⟨b17, e18, h⟩ := h
        refine ⟨b17, e18, ?_⟩
        obtain ⟨c19, h⟩ := h
        refine ⟨c19, ?_⟩
        have n20 := k2_ne K c19 (by decide)
        obtain ⟨b21, e22, h⟩ := h
        refine ⟨b21, e22, ?_⟩
        obtain ⟨c23, h⟩ := h
        refine ⟨c23, ?_⟩
        have n24 := k2_ne K c23 (by decide)
        obtain ⟨c25, h⟩ := h
        refine ⟨c25, ?_⟩
        intro x27 e26
        have h := h x27 e26
        refine cm_X11_good (kf_X11_good h) h (fun x28 x29 hp h g30 => ?_)
        have h := h g30
        have K := k2_tr K hp.2
        exact ⟨h, K⟩
      · intro c31
        have h := h.2.1 c31
        obtain ⟨b32, e33, h⟩ := h
        refine ⟨b32, e33, ?_⟩
        obtain ⟨c34, h⟩ := h
        refine ⟨c34, ?_⟩
        have n35 := k2_ne K c34 (by decide)
        obtain ⟨b36, e37, h⟩ := h
        refine ⟨b36, e37, ?_⟩
        obtain ⟨c38, h⟩ := h
        refine ⟨c38, ?_⟩
        have n39 := k2_ne K c38 (by decide)
        obtain ⟨c40, h⟩ := h
        refine ⟨c40, ?_⟩
        intro x42 e41
        have h := h x42 e41
        refine cm_X11_good (kf_X11_good h) h (fun x43 x44 hp h g45 => ?_)
        have h := h g45
        have K := k2_tr K hp.2
        exact ⟨h, K⟩
      · intro c46
        have h := h.2.2.1 c46
        obtain ⟨b47, e48, h⟩ := h
        refine ⟨b47, e48, ?_⟩
        obtain ⟨c49, h⟩ := h
        refine ⟨c49, ?_⟩
        have n50 := k2_ne K c49 (by decide)
        obtain ⟨b51, e52, h⟩ := h
        refine ⟨b51, e52, ?_⟩
        obtain ⟨c53, h⟩ := h
        refine ⟨c53, ?_⟩
        have n54 := k2_ne K c53 (by decide)
        obtain ⟨c55, h⟩ := h
        refine ⟨c55, ?_⟩
        intro x57 e56
        have h := h x57 e56
        refine cm_X11_good (kf_X11_good h) h (fun x58 x59 hp h g60 => ?_)
        have h := h g60
        have K := k2_tr K hp.2
        exact ⟨h, K⟩
      · intro c61
        have h := h.2.2.2.1 c61
        obtain ⟨b62, e63, h⟩ := h
        refine ⟨b62, e63, ?_⟩
        obtain ⟨c64, h⟩ := h
        refine ⟨c64, ?_⟩
        have n65 := k2_ne K c64 (by decide)
        obtain ⟨b66, e67, h⟩ := h
        refine ⟨b66, e67, ?_⟩
        obtain ⟨c68, h⟩ := h
        refine ⟨c68, ?_⟩
        have n69 := k2_ne K c68 (by decide)
        obtain ⟨c70, h⟩ := h
        refine ⟨c70, ?_⟩
        intro x72 e71
        have h := h x72 e71
        refine cm_X11_good (kf_X11_good h) h (fun x73 x74 hp h g75 => ?_)
        have h := h g75
        have K := k2_tr K hp.2
        exact ⟨h, K⟩
      · intro c76
        have h := h.2.2.2.2 c76
        obtain ⟨b77, e78, h⟩ := h
        refine ⟨b77, e78, ?_⟩
        obtain ⟨c79, h⟩ := h
        refine ⟨c79, ?_⟩
        have n80 := k2_ne K c79 (by decide)
        obtain ⟨b81, e82, h⟩ := h
        refine ⟨b81, e82, ?_⟩
        obtain ⟨c83, h⟩ := h
        refine ⟨c83, ?_⟩
        have n84 := k2_ne K c83 (by decide)
        obtain ⟨c85, h⟩ := h
        refine ⟨c85, ?_⟩
        intro x87 e86
        have h := h x87 e86
        refine cm_X11_good (kf_X11_good h) h (fun x88 x89 hp h g90 => ?_)
        have h := h g90
        have K := k2_tr K hp.2
        exact ⟨h, K⟩
    · intro c91
      have h := h.2 c91
      exact kf_X11_road_22 h K
theorem kf_X11_road {Q : Int32 → HS → Prop} {v0 : Nat} {v1 : Int32} {v2 : Int32} {S : HS} (h : P_X11_road v0 v1 v2 Q S) : P_X11_road v0 v1 v2 (fun r T => Q r T ∧ K2 S T) S := kf_X11_road_0 h (k2_rf S)
set_option maxRecDepth 20000 in
set_option maxHeartbeats 1000000 in
theorem kf_X11_round_29 {Q : Int64 → HS → Prop} {v0 : Nat} {S0 S : HS} (h : P_X11_round_29 Q v0 S) (K : K2 S0 S) : P_X11_round_29 (fun r T => Q r T ∧ K2 S0 T) v0 S := by
  delta P_X11_round_29 at h ⊢
  obtain ⟨c1, h⟩ := h
  refine ⟨c1, ?_⟩
  have n2 := k2_ne K c1 (by decide)
  refine cm_X11_refused (kf_X11_refused h) h (fun x3 x4 hp h g5 => ?_)
  have h := h g5
  have K := k2_tr K hp.2
  exact ⟨h, K⟩
set_option maxRecDepth 20000 in
set_option maxHeartbeats 1000000 in
theorem kf_X11_round_0 {Q : Int64 → HS → Prop} {v0 : Nat} {v1 : Int32} {v2 : Int32} {v3 : Int32} {v4 : Int32} {S0 S : HS} (h : P_X11_round_0 Q v0 v1 v2 v3 v4 S) (K : K2 S0 S) : P_X11_round_0 (fun r T => Q r T ∧ K2 S0 T) v0 v1 v2 v3 v4 S := by
  delta P_X11_round_0 at h ⊢
  obtain ⟨c1, h⟩ := h
  refine ⟨c1, ?_⟩
  have n2 := k2_ne K c1 (by decide)
  intro x4 e3
  have h := h x4 e3
  have K := k2_I K e3 n2
  refine cm_X11_isWalker (kf_X11_isWalker h) h (fun x5 x6 hp h g7 g8 => ?_)
  have h := h g7 g8
  have K := k2_tr K hp.2
  refine ⟨?_, ?_⟩
  · intro c9
    have h := h.1 c9
    exact kf_X11_round_29 h K
  · intro c10
    have h := h.2 c10
    refine cm_X11_isRoad (kf_X11_isRoad h) h (fun x11 x12 hp h g13 g14 => ?_)
    have h := h g13 g14
    have K := k2_tr K hp.2
    refine ⟨?_, ?_⟩
    · intro c15
      have h := h.1 c15
      exact kf_X11_round_29 h K
    · intro c16
      have h := h.2 c16
      refine cm_X11_isHour (kf_X11_isHour h) h (fun x17 x18 hp h g19 g20 => ?_)
      have h := h g19 g20
      have K := k2_tr K hp.2
      refine ⟨?_, ?_⟩
      · intro c21
        have h := h.1 c21
        refine cm_X11_wetAtBest (kf_X11_wetAtBest h) h (fun x22 x23 hp h g24 => ?_)
        have h := h g24
        have K := k2_tr K hp.2
        refine cm_X11_wetAtBest (kf_X11_wetAtBest h) h (fun x25 x26 hp h g27 => ?_)
        have h := h g27
        have K := k2_tr K hp.2
        refine cm_X11_told (kf_X11_told h) h (fun x28 x29 hp h g30 => ?_)
        have h := h g30
        have K := k2_tr K hp.2
        exact ⟨h, K⟩
      · intro c31
        have h := h.2 c31
        exact kf_X11_round_29 h K
theorem kf_X11_round {Q : Int64 → HS → Prop} {v0 : Nat} {v1 : Int32} {v2 : Int32} {v3 : Int32} {v4 : Int32} {S : HS} (h : P_X11_round v0 v1 v2 v3 v4 Q S) : P_X11_round v0 v1 v2 v3 v4 (fun r T => Q r T ∧ K2 S T) S := kf_X11_round_0 h (k2_rf S)
set_option maxRecDepth 20000 in
set_option maxHeartbeats 1000000 in
theorem kf_X11_saves_39 {Q : Int64 → HS → Prop} {v0 : Nat} {S0 S : HS} (h : P_X11_saves_39 Q v0 S) (K : K2 S0 S) : P_X11_saves_39 (fun r T => Q r T ∧ K2 S0 T) v0 S := by
  delta P_X11_saves_39 at h ⊢
  obtain ⟨c1, h⟩ := h
  refine ⟨c1, ?_⟩
  have n2 := k2_ne K c1 (by decide)
  refine cm_X11_refused (kf_X11_refused h) h (fun x3 x4 hp h g5 => ?_)
  have h := h g5
  have K := k2_tr K hp.2
  exact ⟨h, K⟩
set_option maxRecDepth 20000 in
set_option maxHeartbeats 1000000 in
theorem kf_X11_saves_0 {Q : Int64 → HS → Prop} {v0 : Nat} {v1 : Int32} {v2 : Int32} {v3 : Int32} {v4 : Int32} {v5 : Int32} {S0 S : HS} (h : P_X11_saves_0 Q v0 v1 v2 v3 v4 v5 S) (K : K2 S0 S) : P_X11_saves_0 (fun r T => Q r T ∧ K2 S0 T) v0 v1 v2 v3 v4 v5 S := by
  delta P_X11_saves_0 at h ⊢
  obtain ⟨c1, h⟩ := h
  refine ⟨c1, ?_⟩
  have n2 := k2_ne K c1 (by decide)
  intro x4 e3
  have h := h x4 e3
  have K := k2_I K e3 n2
  refine cm_X11_isWalker (kf_X11_isWalker h) h (fun x5 x6 hp h g7 g8 => ?_)
  have h := h g7 g8
  have K := k2_tr K hp.2
  refine ⟨?_, ?_⟩
  · intro c9
    have h := h.1 c9
    exact kf_X11_saves_39 h K
  · intro c10
    have h := h.2 c10
    refine cm_X11_isRoad (kf_X11_isRoad h) h (fun x11 x12 hp h g13 g14 => ?_)
    have h := h g13 g14
    have K := k2_tr K hp.2
    refine ⟨?_, ?_⟩
    · intro c15
      have h := h.1 c15
      exact kf_X11_saves_39 h K
    · intro c16
      have h := h.2 c16
      refine cm_X11_in (kf_X11_in h) h (fun x17 x18 hp h g19 g20 => ?_)
      have h := h g19 g20
      have K := k2_tr K hp.2
      refine ⟨?_, ?_⟩
      · intro c21
        have h := h.1 c21
        exact kf_X11_saves_39 h K
      · intro c22
        have h := h.2 c22
        refine cm_X11_isHour (kf_X11_isHour h) h (fun x23 x24 hp h g25 g26 => ?_)
        have h := h g25 g26
        have K := k2_tr K hp.2
        refine ⟨?_, ?_⟩
        · intro c27
          have h := h.1 c27
          obtain ⟨b28, e29, h⟩ := h
          refine ⟨b28, e29, ?_⟩
          obtain ⟨c30, h⟩ := h
          refine ⟨c30, ?_⟩
          have n31 := k2_ne K c30 (by decide)
          obtain ⟨b32, e33, h⟩ := h
          refine ⟨b32, e33, ?_⟩
          obtain ⟨c34, h⟩ := h
          refine ⟨c34, ?_⟩
          have n35 := k2_ne K c34 (by decide)
          obtain ⟨c36, h⟩ := h
          refine ⟨c36, ?_⟩
          intro x38 e37
          have h := h x38 e37
          refine cm_X11_wetOf (kf_X11_wetOf h) h (fun x39 x40 hp h g41 => ?_)
          have h := h g41
          have K := k2_tr K hp.2
          refine cm_X11_bestOf (kf_X11_bestOf h) h (fun x42 x43 hp h g44 => ?_)
          have h := h g44
          have K := k2_tr K hp.2
          refine cm_X11_wetOf (kf_X11_wetOf h) h (fun x45 x46 hp h g47 => ?_)
          have h := h g47
          have K := k2_tr K hp.2
          refine cm_X11_told (kf_X11_told h) h (fun x48 x49 hp h g50 => ?_)
          have h := h g50
          have K := k2_tr K hp.2
          exact ⟨h, K⟩
        · intro c51
          have h := h.2 c51
          exact kf_X11_saves_39 h K
theorem kf_X11_saves {Q : Int64 → HS → Prop} {v0 : Nat} {v1 : Int32} {v2 : Int32} {v3 : Int32} {v4 : Int32} {v5 : Int32} {S : HS} (h : P_X11_saves v0 v1 v2 v3 v4 v5 Q S) : P_X11_saves v0 v1 v2 v3 v4 v5 (fun r T => Q r T ∧ K2 S T) S := kf_X11_saves_0 h (k2_rf S)
end
section
set_option maxRecDepth 20000 in
set_option maxHeartbeats 1000000 in
theorem kf_X11_size_0 {Q : Int32 → HS → Prop} {v0 : Nat} {v1 : Int32} {S0 S : HS} (h : P_X11_size_0 Q v0 v1 S) (K : K2 S0 S) : P_X11_size_0 (fun r T => Q r T ∧ K2 S0 T) v0 v1 S := by
  delta P_X11_size_0 at h ⊢
  obtain ⟨c1, h⟩ := h
  refine ⟨c1, ?_⟩
  have n2 := k2_ne K c1 (by decide)
  intro x4 e3
  have h := h x4 e3
  have K := k2_I K e3 n2
  refine ⟨?_, ?_⟩
  · intro c5
    have h := h.1 c5
    refine cm_X11_in (kf_X11_in h) h (fun x6 x7 hp h g8 g9 => ?_)
    have h := h g8 g9
    have K := k2_tr K hp.2
    refine ⟨?_, ?_⟩
    · intro c10
      have h := h.1 c10
      refine ⟨?_, ?_⟩
      · intro c11
        have h := h.1 c11
        exact ⟨h, K⟩
      · intro x12 c13
        have h := h.2 x12 c13
        refine ⟨?_, ?_, ?_, ?_, ?_, ?_, ?_, ?_, ?_, ?_, ?_⟩
        · intro c14
          have h := h.1 c14
          intro x16 e15
          have h := h x16 e15
          exact ⟨h, K⟩
        · intro c17
          have h := h.2.1 c17
          obtain ⟨b18, e19, h⟩ := h
          refine ⟨b18, e19, ?_⟩
          obtain ⟨c20, h⟩ := h
          refine ⟨c20, ?_⟩
          have n21 := k2_ne K c20 (by decide)
          intro x23 e22
          have h := h x23 e22
          exact ⟨h, K⟩
        · intro c24
          have h := h.2.2.1 c24
          obtain ⟨b25, e26, h⟩ := h
          refine ⟨b25, e26, ?_⟩
          obtain ⟨c27, h⟩ := h
          refine ⟨c27, ?_⟩
          have n28 := k2_ne K c27 (by decide)
          intro x30 e29
          have h := h x30 e29
          exact ⟨h, K⟩
        · intro c31
          have h := h.2.2.2.1 c31
          obtain ⟨b32, e33, h⟩ := h
          refine ⟨b32, e33, ?_⟩
          obtain ⟨c34, h⟩ := h
          refine ⟨c34, ?_⟩
          have n35 := k2_ne K c34 (by decide)
          intro x37 e36
          have h := h x37 e36
          exact ⟨h, K⟩
        · intro c38
          have h := h.2.2.2.2.1 c38
          obtain ⟨b39, e40, h⟩ := h
          refine ⟨b39, e40, ?_⟩
          obtain ⟨c41, h⟩ := h
          refine ⟨c41, ?_⟩
          have n42 := k2_ne K c41 (by decide)
          intro x44 e43
          have h := h x44 e43
          exact ⟨h, K⟩
        · intro c45
          have h := h.2.2.2.2.2.1 c45
          obtain ⟨b46, e47, h⟩ := h
          refine ⟨b46, e47, ?_⟩
          obtain ⟨c48, h⟩ := h
          refine ⟨c48, ?_⟩
          have n49 := k2_ne K c48 (by decide)
          intro x51 e50
          have h := h x51 e50
          exact ⟨h, K⟩
        · intro c52
          have h := h.2.2.2.2.2.2.1 c52
          obtain ⟨b53, e54, h⟩ := h
          refine ⟨b53, e54, ?_⟩
          obtain ⟨c55, h⟩ := h
          refine ⟨c55, ?_⟩
          have n56 := k2_ne K c55 (by decide)
          intro x58 e57
          have h := h x58 e57
          exact ⟨h, K⟩
        · intro c59
          have h := h.2.2.2.2.2.2.2.1 c59
          intro x61 e60
          have h := h x61 e60
          exact ⟨h, K⟩
        · intro c62
          have h := h.2.2.2.2.2.2.2.2.1 c62
          refine cm_X11_isDay (kf_X11_isDay h) h (fun x63 x64 hp h g65 g66 => ?_)
          have h := h g65 g66
          have K := k2_tr K hp.2
          refine ⟨?_, ?_⟩
          · intro c67
            have h := h.1 c67
            exact ⟨h, K⟩
          · intro c68
            have h := h.2 c68
            obtain ⟨b69, e70, h⟩ := h
            refine ⟨b69, e70, ?_⟩
            obtain ⟨c71, h⟩ := h
            refine ⟨c71, ?_⟩
            have n72 := k2_ne K c71 (by decide)
            obtain ⟨c73, h⟩ := h
            refine ⟨c73, ?_⟩
            intro x75 e74
            have h := h x75 e74
            exact ⟨h, K⟩
        · intro c76
          have h := h.2.2.2.2.2.2.2.2.2.1 c76
          refine cm_X11_isDay (kf_X11_isDay h) h (fun x77 x78 hp h g79 g80 => ?_)
          have h := h g79 g80
          have K := k2_tr K hp.2
          refine ⟨?_, ?_⟩
          · intro c81
            have h := h.1 c81
            exact ⟨h, K⟩
          · intro c82
            have h := h.2 c82
            obtain ⟨b83, e84, h⟩ := h
            refine ⟨b83, e84, ?_⟩
            obtain ⟨c85, h⟩ := h
            refine ⟨c85, ?_⟩
            have n86 := k2_ne K c85 (by decide)
            obtain ⟨c87, h⟩ := h
            refine ⟨c87, ?_⟩
            intro x89 e88
            have h := h x89 e88
            exact ⟨h, K⟩
        · intro c90
          have h := h.2.2.2.2.2.2.2.2.2.2 c90
          intro x92 e91
          have h := h x92 e91
          exact ⟨h, K⟩
    · intro c93
      have h := h.2 c93
      exact ⟨h, K⟩
  · intro c94
    have h := h.2 c94
    intro x96 e95
    have h := h x96 e95
    exact ⟨h, K⟩
theorem kf_X11_size {Q : Int32 → HS → Prop} {v0 : Nat} {v1 : Int32} {S : HS} (h : P_X11_size v0 v1 Q S) : P_X11_size v0 v1 (fun r T => Q r T ∧ K2 S T) S := kf_X11_size_0 h (k2_rf S)
set_option maxRecDepth 20000 in
set_option maxHeartbeats 1000000 in
theorem kf_X11_soaked_57 {Q : Int32 → HS → Prop} {s0 : Nat} {s1 : Int32} {S0 S : HS} (h : P_X11_soaked_57 Q s0 s1 S) (K : K2 S0 S) : P_X11_soaked_57 (fun r T => Q r T ∧ K2 S0 T) s0 s1 S := by
  delta P_X11_soaked_57 at h ⊢
  obtain ⟨c1, h⟩ := h
  refine ⟨c1, ?_⟩
  have n2 := k2_ne K c1 (by decide)
  refine cm_X11_good (kf_X11_good h) h (fun x3 x4 hp h g5 => ?_)
  have h := h g5
  have K := k2_tr K hp.2
  exact ⟨h, K⟩
set_option maxRecDepth 20000 in
set_option maxHeartbeats 1000000 in
theorem kf_X11_soaked_0 {Q : Int32 → HS → Prop} {v0 : Nat} {S0 S : HS} (h : P_X11_soaked_0 Q v0 S) (K : K2 S0 S) : P_X11_soaked_0 (fun r T => Q r T ∧ K2 S0 T) v0 S := by
  delta P_X11_soaked_0 at h ⊢
  obtain ⟨c1, h⟩ := h
  refine ⟨c1, ?_⟩
  have n2 := k2_ne K c1 (by decide)
  intro x4 e3
  have h := h x4 e3
  have K := k2_I K e3 n2
  refine cm_X11_isDay (kf_X11_isDay h) h (fun x5 x6 hp h g7 g8 => ?_)
  have h := h g7 g8
  have K := k2_tr K hp.2
  refine ⟨?_, ?_⟩
  · intro c9
    have h := h.1 c9
    obtain ⟨b10, e11, h⟩ := h
    refine ⟨b10, e11, ?_⟩
    obtain ⟨c12, h⟩ := h
    refine ⟨c12, ?_⟩
    have n13 := k2_ne K c12 (by decide)
    obtain ⟨b14, e15, h⟩ := h
    refine ⟨b14, e15, ?_⟩
    intro x17 e16
    have h := h x17 e16
    obtain ⟨c18, h⟩ := h
    refine ⟨c18, ?_⟩
    have n19 := k2_ne K c18 (by decide)
    obtain ⟨c20, h⟩ := h
    refine ⟨c20, ?_⟩
    intro x22 e21
    have h := h x22 e21
    refine ⟨?_, ?_⟩
    · intro c23
      have h := h.1 c23
      refine cm_X11_gotInAll (kf_X11_gotInAll h) h (fun x24 x25 hp h g26 => ?_)
      have h := h g26
      have K := k2_tr K hp.2
      refine cm_X11_holds (kf_X11_holds h) h (fun x27 x28 hp h g29 => ?_)
      have h := h g29
      have K := k2_tr K hp.2
      refine ⟨?_, ?_⟩
      · intro c30
        have h := h.1 c30
        exact kf_X11_soaked_57 h K
      · intro c31
        have h := h.2 c31
        exact kf_X11_soaked_57 h K
    · intro c32
      have h := h.2 c32
      exact kf_X11_soaked_57 h K
  · intro c33
    have h := h.2 c33
    refine cm_X11_refused (kf_X11_refused h) h (fun x34 x35 hp h g36 => ?_)
    have h := h g36
    have K := k2_tr K hp.2
    exact ⟨h, K⟩
theorem kf_X11_soaked {Q : Int32 → HS → Prop} {v0 : Nat} {S : HS} (h : P_X11_soaked v0 Q S) : P_X11_soaked v0 (fun r T => Q r T ∧ K2 S T) S := kf_X11_soaked_0 h (k2_rf S)
set_option maxRecDepth 20000 in
set_option maxHeartbeats 1000000 in
theorem kf_X11_stay_133 {Q : Int32 → HS → Prop} {X84 X84_2 : Nat → Int32 → Int32 → Int32 → HS → Prop} {v0 : Nat} {v1 : Int32} {v2 : Int32} {v3 : Int32} {S0 S : HS} (h : P_X11_stay_133 Q X84 v0 v1 v2 v3 S) (K : K2 S0 S) (hX84 : ∀ (u0 : Nat) (u1 : Int32) (u2 : Int32) (u3 : Int32) (u4 : HS), X84 u0 u1 u2 u3 u4 → K2 S0 u4 → X84_2 u0 u1 u2 u3 u4) : P_X11_stay_133 (fun r T => Q r T ∧ K2 S0 T) X84_2 v0 v1 v2 v3 S := by
  delta P_X11_stay_133 at h ⊢
  obtain ⟨c1, h⟩ := h
  refine ⟨c1, ?_⟩
  have n2 := k2_ne K c1 (by decide)
  obtain ⟨b3, e4, h⟩ := h
  refine ⟨b3, e4, ?_⟩
  obtain ⟨c5, h⟩ := h
  refine ⟨c5, ?_⟩
  have n6 := k2_ne K c5 (by decide)
  obtain ⟨c7, h⟩ := h
  refine ⟨c7, ?_⟩
  intro x9 e8
  have h := h x9 e8
  intro x11 e10
  have h := h x11 e10
  obtain ⟨c12, h⟩ := h
  refine ⟨c12, ?_⟩
  intro x14 e13
  have h := h x14 e13
  have K := k2_J K e13
  intro x16 e15
  have h := h x16 e15
  exact hX84 _ _ _ _ _ h K
set_option maxRecDepth 20000 in
set_option maxHeartbeats 1000000 in
theorem kfB_X11_stay_84 {Q : Int32 → HS → Prop} {X84 X84_2 : Nat → Int32 → Int32 → Int32 → HS → Prop} {v0 : Nat} {v1 : Int32} {v2 : Int32} {v3 : Int32} {S0 S : HS} (h : B_X11_stay_84 Q X84 v0 v1 v2 v3 S) (K : K2 S0 S) (hX84 : ∀ (u0 : Nat) (u1 : Int32) (u2 : Int32) (u3 : Int32) (u4 : HS), X84 u0 u1 u2 u3 u4 → K2 S0 u4 → X84_2 u0 u1 u2 u3 u4) : B_X11_stay_84 (fun r T => Q r T ∧ K2 S0 T) X84_2 v0 v1 v2 v3 S := by
  delta B_X11_stay_84 at h ⊢
  refine ⟨?_, ?_⟩
  · intro c1
    have h := h.1 c1
    obtain ⟨c2, h⟩ := h
    refine ⟨c2, ?_⟩
    have n3 := k2_ne K c2 (by decide)
    refine cm_X11_granted (kf_X11_granted h) h (fun x4 x5 hp h g6 g7 => ?_)
    have h := h g6 g7
    have K := k2_tr K hp.2
    obtain ⟨c8, h⟩ := h
    refine ⟨c8, ?_⟩
    exact ⟨h, K⟩
  · intro c9
    have h := h.2 c9
    obtain ⟨c10, h⟩ := h
    refine ⟨c10, ?_⟩
    have n11 := k2_ne K c10 (by decide)
    obtain ⟨b12, e13, h⟩ := h
    refine ⟨b12, e13, ?_⟩
    obtain ⟨c14, h⟩ := h
    refine ⟨c14, ?_⟩
    have n15 := k2_ne K c14 (by decide)
    obtain ⟨b16, e17, h⟩ := h
    refine ⟨b16, e17, ?_⟩
    obtain ⟨c18, h⟩ := h
    refine ⟨c18, ?_⟩
    have n19 := k2_ne K c18 (by decide)
    obtain ⟨c20, h⟩ := h
    refine ⟨c20, ?_⟩
    intro x22 e21
    have h := h x22 e21
    refine ⟨?_, ?_⟩
    · intro c23
      have h := h.1 c23
      exact kf_X11_stay_133 h K hX84
    · intro c24
      have h := h.2 c24
      obtain ⟨b25, e26, h⟩ := h
      refine ⟨b25, e26, ?_⟩
      obtain ⟨c27, h⟩ := h
      refine ⟨c27, ?_⟩
      have n28 := k2_ne K c27 (by decide)
      obtain ⟨c29, h⟩ := h
      refine ⟨c29, ?_⟩
      intro x31 e30
      have h := h x31 e30
      refine cm_X11_rainsIn (kf_X11_rainsIn h) h (fun x32 x33 hp h g34 g35 => ?_)
      have h := h g34 g35
      have K := k2_tr K hp.2
      refine ⟨?_, ?_⟩
      · intro c36
        have h := h.1 c36
        exact kf_X11_stay_133 h K hX84
      · intro c37
        have h := h.2 c37
        obtain ⟨b38, e39, h⟩ := h
        refine ⟨b38, e39, ?_⟩
        obtain ⟨c40, h⟩ := h
        refine ⟨c40, ?_⟩
        have n41 := k2_ne K c40 (by decide)
        obtain ⟨c42, h⟩ := h
        refine ⟨c42, ?_⟩
        intro x44 e43
        have h := h x44 e43
        intro x46 e45
        have h := h x46 e45
        refine cm_X11_drips (kf_X11_drips h) h (fun x47 x48 hp h g49 => ?_)
        have h := h g49
        have K := k2_tr K hp.2
        intro x51 e50
        have h := h x51 e50
        obtain ⟨c52, h⟩ := h
        refine ⟨c52, ?_⟩
        intro x54 e53
        have h := h x54 e53
        have K := k2_J K e53
        exact kf_X11_stay_133 h K hX84
theorem kf_X11_stay_84 {Q : Int32 → HS → Prop} {v0 : Nat} {v1 : Int32} {v2 : Int32} {v3 : Int32} {S0 S : HS} (h : P_X11_stay_84 Q v0 v1 v2 v3 S) (K : K2 S0 S) : P_X11_stay_84 (fun r T => Q r T ∧ K2 S0 T) v0 v1 v2 v3 S := h (fun v0 v1 v2 v3 S => K2 S0 S → P_X11_stay_84 (fun r T => Q r T ∧ K2 S0 T) v0 v1 v2 v3 S) (fun v0 v1 v2 v3 S hB K => fd_X11_stay_84 (kfB_X11_stay_84 hB K (fun _ _ _ _ _ hx K => hx K))) K
set_option maxRecDepth 20000 in
set_option maxHeartbeats 1000000 in
theorem kf_X11_stay_0 {Q : Int32 → HS → Prop} {v0 : Nat} {v1 : Int32} {S0 S : HS} (h : P_X11_stay_0 Q v0 v1 S) (K : K2 S0 S) : P_X11_stay_0 (fun r T => Q r T ∧ K2 S0 T) v0 v1 S := by
  delta P_X11_stay_0 at h ⊢
  obtain ⟨c1, h⟩ := h
  refine ⟨c1, ?_⟩
  have n2 := k2_ne K c1 (by decide)
  intro x4 e3
  have h := h x4 e3
  have K := k2_I K e3 n2
  refine cm_X11_isDay (kf_X11_isDay h) h (fun x5 x6 hp h g7 g8 => ?_)
  have h := h g7 g8
  have K := k2_tr K hp.2
  refine ⟨?_, ?_⟩
  · intro c9
    have h := h.1 c9
    refine cm_X11_in (kf_X11_in h) h (fun x10 x11 hp h g12 g13 => ?_)
    have h := h g12 g13
    have K := k2_tr K hp.2
    refine ⟨?_, ?_⟩
    · intro c14
      have h := h.1 c14
      obtain ⟨b15, e16, h⟩ := h
      refine ⟨b15, e16, ?_⟩
      obtain ⟨c17, h⟩ := h
      refine ⟨c17, ?_⟩
      have n18 := k2_ne K c17 (by decide)
      obtain ⟨c19, h⟩ := h
      refine ⟨c19, ?_⟩
      intro x21 e20
      have h := h x21 e20
      intro x23 e22
      have h := h x23 e22
      refine cm_X11_canWait (kf_X11_canWait h) h (fun x24 x25 hp h g26 g27 => ?_)
      have h := h g26 g27
      have K := k2_tr K hp.2
      refine ⟨?_, ?_⟩
      · intro c28
        have h := h.1 c28
        obtain ⟨b29, e30, h⟩ := h
        refine ⟨b29, e30, ?_⟩
        obtain ⟨c31, h⟩ := h
        refine ⟨c31, ?_⟩
        have n32 := k2_ne K c31 (by decide)
        obtain ⟨c33, h⟩ := h
        refine ⟨c33, ?_⟩
        intro x35 e34
        have h := h x35 e34
        refine ⟨?_, ?_⟩
        · intro c36
          have h := h.1 c36
          refine cm_X11_keeps (kf_X11_keeps h) h (fun x37 hp h g38 => ?_)
          have h := h g38
          have K := k2_tr K hp.2
          exact kf_X11_stay_84 h K
        · intro c39
          have h := h.2 c39
          refine cm_X11_denied (kf_X11_denied h) h (fun x40 x41 hp h g42 g43 => ?_)
          have h := h g42 g43
          have K := k2_tr K hp.2
          obtain ⟨c44, h⟩ := h
          refine ⟨c44, ?_⟩
          exact ⟨h, K⟩
      · intro c45
        have h := h.2 c45
        refine cm_X11_denied (kf_X11_denied h) h (fun x46 x47 hp h g48 g49 => ?_)
        have h := h g48 g49
        have K := k2_tr K hp.2
        obtain ⟨c50, h⟩ := h
        refine ⟨c50, ?_⟩
        exact ⟨h, K⟩
    · intro c51
      have h := h.2 c51
      refine cm_X11_denied (kf_X11_denied h) h (fun x52 x53 hp h g54 g55 => ?_)
      have h := h g54 g55
      have K := k2_tr K hp.2
      obtain ⟨c56, h⟩ := h
      refine ⟨c56, ?_⟩
      exact ⟨h, K⟩
  · intro c57
    have h := h.2 c57
    refine cm_X11_denied (kf_X11_denied h) h (fun x58 x59 hp h g60 g61 => ?_)
    have h := h g60 g61
    have K := k2_tr K hp.2
    obtain ⟨c62, h⟩ := h
    refine ⟨c62, ?_⟩
    exact ⟨h, K⟩
theorem kf_X11_stay {Q : Int32 → HS → Prop} {v0 : Nat} {v1 : Int32} {S : HS} (h : P_X11_stay v0 v1 Q S) : P_X11_stay v0 v1 (fun r T => Q r T ∧ K2 S T) S := kf_X11_stay_0 h (k2_rf S)
set_option maxRecDepth 20000 in
set_option maxHeartbeats 1000000 in
theorem kf_X11_stepOf_117 {Q : Int32 → HS → Prop} {X9 X9_2 : Nat → Int32 → Int32 → Int32 → Int32 → HS → Prop} {v0 : Nat} {v4 : Int32} {v6 : Int32} {v7 : Int32} {s0 : Int32} {S0 S : HS} (h : P_X11_stepOf_117 Q X9 v0 v4 v6 v7 s0 S) (K : K2 S0 S) (hX9 : ∀ (u0 : Nat) (u1 : Int32) (u2 : Int32) (u3 : Int32) (u4 : Int32) (u5 : HS), X9 u0 u1 u2 u3 u4 u5 → K2 S0 u5 → X9_2 u0 u1 u2 u3 u4 u5) : P_X11_stepOf_117 (fun r T => Q r T ∧ K2 S0 T) X9_2 v0 v4 v6 v7 s0 S := by
  delta P_X11_stepOf_117 at h ⊢
  exact hX9 _ _ _ _ _ _ h K
set_option maxRecDepth 20000 in
set_option maxHeartbeats 1000000 in
theorem kf_X11_stepOf_82 {Q : Int32 → HS → Prop} {X9 X9_2 : Nat → Int32 → Int32 → Int32 → Int32 → HS → Prop} {v0 : Nat} {v4 : Int32} {v5 : Int32} {v7 : Int32} {v8 : Int32} {s0 : Int32} {s1 : Int32} {S0 S : HS} (h : P_X11_stepOf_82 Q X9 v0 v4 v5 v7 v8 s0 s1 S) (K : K2 S0 S) (hX9 : ∀ (u0 : Nat) (u1 : Int32) (u2 : Int32) (u3 : Int32) (u4 : Int32) (u5 : HS), X9 u0 u1 u2 u3 u4 u5 → K2 S0 u5 → X9_2 u0 u1 u2 u3 u4 u5) : P_X11_stepOf_82 (fun r T => Q r T ∧ K2 S0 T) X9_2 v0 v4 v5 v7 v8 s0 s1 S := by
  delta P_X11_stepOf_82 at h ⊢
  intro x2 e1
  have h := h x2 e1
  refine ⟨?_, ?_⟩
  · intro c3
    have h := h.1 c3
    obtain ⟨c4, h⟩ := h
    refine ⟨c4, ?_⟩
    have n5 := k2_ne K c4 (by decide)
    obtain ⟨b6, e7, h⟩ := h
    refine ⟨b6, e7, ?_⟩
    intro x9 e8
    have h := h x9 e8
    intro x11 e10
    have h := h x11 e10
    intro x13 e12
    have h := h x13 e12
    obtain ⟨c14, h⟩ := h
    refine ⟨c14, ?_⟩
    have n15 := k2_ne K c14 (by decide)
    refine cm_X10_ends (kf_X10_ends h) h (fun x16 x17 hp h g18 => ?_)
    have h := h g18
    have K := k2_tr K hp.2
    exact kf_X11_stepOf_117 h K hX9
  · intro c19
    have h := h.2 c19
    exact kf_X11_stepOf_117 h K hX9
set_option maxRecDepth 20000 in
set_option maxHeartbeats 1000000 in
theorem kfB_X11_stepOf_9 {Q : Int32 → HS → Prop} {X9 X9_2 : Nat → Int32 → Int32 → Int32 → Int32 → HS → Prop} {v0 : Nat} {v4 : Int32} {v5 : Int32} {v6 : Int32} {v7 : Int32} {S0 S : HS} (h : B_X11_stepOf_9 Q X9 v0 v4 v5 v6 v7 S) (K : K2 S0 S) (hX9 : ∀ (u0 : Nat) (u1 : Int32) (u2 : Int32) (u3 : Int32) (u4 : Int32) (u5 : HS), X9 u0 u1 u2 u3 u4 u5 → K2 S0 u5 → X9_2 u0 u1 u2 u3 u4 u5) : B_X11_stepOf_9 (fun r T => Q r T ∧ K2 S0 T) X9_2 v0 v4 v5 v6 v7 S := by
  delta B_X11_stepOf_9 at h ⊢
  obtain ⟨c1, h⟩ := h
  refine ⟨c1, ?_⟩
  have n2 := k2_ne K c1 (by decide)
  obtain ⟨b3, e4, h⟩ := h
  refine ⟨b3, e4, ?_⟩
  refine cm_X11_spotOf (kf_X11_spotOf h) h (fun x5 x6 hp h g7 => ?_)
  have h := h g7
  have K := k2_tr K hp.2
  obtain ⟨c8, h⟩ := h
  refine ⟨c8, ?_⟩
  have n9 := k2_ne K c8 (by decide)
  obtain ⟨c10, h⟩ := h
  refine ⟨c10, ?_⟩
  intro x12 e11
  have h := h x12 e11
  refine ⟨?_, ?_⟩
  · intro c13
    have h := h.1 c13
    refine ⟨?_, ?_⟩
    · intro c14
      have h := h.1 c14
      exact ⟨h, K⟩
    · intro c15
      have h := h.2 c15
      exact ⟨h, K⟩
  · intro c16
    have h := h.2 c16
    obtain ⟨b17, e18, h⟩ := h
    refine ⟨b17, e18, ?_⟩
    refine cm_X11_spotOf (kf_X11_spotOf h) h (fun x19 x20 hp h g21 => ?_)
    have h := h g21
    have K := k2_tr K hp.2
    obtain ⟨c22, h⟩ := h
    refine ⟨c22, ?_⟩
    have n23 := k2_ne K c22 (by decide)
    obtain ⟨c24, h⟩ := h
    refine ⟨c24, ?_⟩
    intro x26 e25
    have h := h x26 e25
    refine ⟨?_, ?_⟩
    · intro c27
      have h := h.1 c27
      intro x29 e28
      have h := h x29 e28
      refine ⟨?_, ?_⟩
      · intro c30
        have h := h.1 c30
        obtain ⟨b31, e32, h⟩ := h
        refine ⟨b31, e32, ?_⟩
        intro x34 e33
        have h := h x34 e33
        intro x36 e35
        have h := h x36 e35
        obtain ⟨c37, h⟩ := h
        refine ⟨c37, ?_⟩
        have n38 := k2_ne K c37 (by decide)
        refine cm_X10_minutes (kf_X10_minutes h) h (fun x39 x40 hp h g41 => ?_)
        have h := h g41
        have K := k2_tr K hp.2
        exact kf_X11_stepOf_82 h K hX9
      · intro c42
        have h := h.2 c42
        exact kf_X11_stepOf_82 h K hX9
    · intro c43
      have h := h.2 c43
      exact ⟨h, K⟩
theorem kf_X11_stepOf_9 {Q : Int32 → HS → Prop} {v0 : Nat} {v4 : Int32} {v5 : Int32} {v6 : Int32} {v7 : Int32} {S0 S : HS} (h : P_X11_stepOf_9 Q v0 v4 v5 v6 v7 S) (K : K2 S0 S) : P_X11_stepOf_9 (fun r T => Q r T ∧ K2 S0 T) v0 v4 v5 v6 v7 S := h (fun v0 v4 v5 v6 v7 S => K2 S0 S → P_X11_stepOf_9 (fun r T => Q r T ∧ K2 S0 T) v0 v4 v5 v6 v7 S) (fun v0 v4 v5 v6 v7 S hB K => fd_X11_stepOf_9 (kfB_X11_stepOf_9 hB K (fun _ _ _ _ _ _ hx K => hx K))) K
set_option maxRecDepth 20000 in
set_option maxHeartbeats 1000000 in
theorem kf_X11_stepOf_0 {Q : Int32 → HS → Prop} {v0 : Nat} {v2 : Int32} {v3 : Int32} {v4 : Int32} {S0 S : HS} (h : P_X11_stepOf_0 Q v0 v2 v3 v4 S) (K : K2 S0 S) : P_X11_stepOf_0 (fun r T => Q r T ∧ K2 S0 T) v0 v2 v3 v4 S := by
  delta P_X11_stepOf_0 at h ⊢
  exact kf_X11_stepOf_9 h K
theorem kf_X11_stepOf {Q : Int32 → HS → Prop} {v0 : Nat} {v1 : Int32} {v2 : Int32} {v3 : Int32} {v4 : Int32} {S : HS} (h : P_X11_stepOf v0 v1 v2 v3 v4 Q S) : P_X11_stepOf v0 v1 v2 v3 v4 (fun r T => Q r T ∧ K2 S T) S := kf_X11_stepOf_0 h (k2_rf S)
set_option maxRecDepth 20000 in
set_option maxHeartbeats 1000000 in
theorem kf_X11_step_49 {Q : Int32 → HS → Prop} {v0 : Nat} {s0 : Int32} {S0 S : HS} (h : P_X11_step_49 Q v0 s0 S) (K : K2 S0 S) : P_X11_step_49 (fun r T => Q r T ∧ K2 S0 T) v0 s0 S := by
  delta P_X11_step_49 at h ⊢
  refine ⟨?_, ?_⟩
  · intro c1
    have h := h.1 c1
    obtain ⟨c2, h⟩ := h
    refine ⟨c2, ?_⟩
    have n3 := k2_ne K c2 (by decide)
    refine cm_X11_good (kf_X11_good h) h (fun x4 x5 hp h g6 => ?_)
    have h := h g6
    have K := k2_tr K hp.2
    exact ⟨h, K⟩
  · intro c7
    have h := h.2 c7
    obtain ⟨c8, h⟩ := h
    refine ⟨c8, ?_⟩
    have n9 := k2_ne K c8 (by decide)
    refine cm_X11_refused (kf_X11_refused h) h (fun x10 x11 hp h g12 => ?_)
    have h := h g12
    have K := k2_tr K hp.2
    exact ⟨h, K⟩
set_option maxRecDepth 20000 in
set_option maxHeartbeats 1000000 in
theorem kf_X11_step_0 {Q : Int32 → HS → Prop} {v0 : Nat} {v1 : Int32} {v2 : Int32} {v3 : Int32} {v4 : Int32} {v5 : Int32} {v6 : Int32} {S0 S : HS} (h : P_X11_step_0 Q v0 v1 v2 v3 v4 v5 v6 S) (K : K2 S0 S) : P_X11_step_0 (fun r T => Q r T ∧ K2 S0 T) v0 v1 v2 v3 v4 v5 v6 S := by
  delta P_X11_step_0 at h ⊢
  obtain ⟨c1, h⟩ := h
  refine ⟨c1, ?_⟩
  have n2 := k2_ne K c1 (by decide)
  intro x4 e3
  have h := h x4 e3
  have K := k2_I K e3 n2
  refine cm_X11_refusesWay (kf_X11_refusesWay h) h (fun x5 x6 hp h g7 => ?_)
  have h := h g7
  have K := k2_tr K hp.2
  refine ⟨?_, ?_⟩
  · intro c8
    have h := h.1 c8
    refine ⟨?_, ?_⟩
    · intro c9
      have h := h.1 c9
      refine cm_X11_stepOf (kf_X11_stepOf h) h (fun x10 x11 hp h g12 => ?_)
      have h := h g12
      have K := k2_tr K hp.2
      exact kf_X11_step_49 h K
    · intro c13
      have h := h.2 c13
      exact kf_X11_step_49 h K
  · intro c14
    have h := h.2 c14
    refine cm_X11_refused (kf_X11_refused h) h (fun x15 x16 hp h g17 => ?_)
    have h := h g17
    have K := k2_tr K hp.2
    exact ⟨h, K⟩
theorem kf_X11_step {Q : Int32 → HS → Prop} {v0 : Nat} {v1 : Int32} {v2 : Int32} {v3 : Int32} {v4 : Int32} {v5 : Int32} {v6 : Int32} {S : HS} (h : P_X11_step v0 v1 v2 v3 v4 v5 v6 Q S) : P_X11_step v0 v1 v2 v3 v4 v5 v6 (fun r T => Q r T ∧ K2 S T) S := kf_X11_step_0 h (k2_rf S)
set_option maxRecDepth 20000 in
set_option maxHeartbeats 1000000 in
theorem kf_X11_steps_0 {Q : Int32 → HS → Prop} {v0 : Nat} {v1 : Int32} {v2 : Int32} {v3 : Int32} {v4 : Int32} {v5 : Int32} {S0 S : HS} (h : P_X11_steps_0 Q v0 v1 v2 v3 v4 v5 S) (K : K2 S0 S) : P_X11_steps_0 (fun r T => Q r T ∧ K2 S0 T) v0 v1 v2 v3 v4 v5 S := by
  delta P_X11_steps_0 at h ⊢
  obtain ⟨c1, h⟩ := h
  refine ⟨c1, ?_⟩
  have n2 := k2_ne K c1 (by decide)
  intro x4 e3
  have h := h x4 e3
  have K := k2_I K e3 n2
  refine cm_X11_refusesWay (kf_X11_refusesWay h) h (fun x5 x6 hp h g7 => ?_)
  have h := h g7
  have K := k2_tr K hp.2
  refine ⟨?_, ?_⟩
  · intro c8
    have h := h.1 c8
    refine cm_X11_stepOf (kf_X11_stepOf h) h (fun x9 x10 hp h g11 => ?_)
    have h := h g11
    have K := k2_tr K hp.2
    refine cm_X11_good (kf_X11_good h) h (fun x12 x13 hp h g14 => ?_)
    have h := h g14
    have K := k2_tr K hp.2
    exact ⟨h, K⟩
  · intro c15
    have h := h.2 c15
    refine cm_X11_refused (kf_X11_refused h) h (fun x16 x17 hp h g18 => ?_)
    have h := h g18
    have K := k2_tr K hp.2
    exact ⟨h, K⟩
theorem kf_X11_steps {Q : Int32 → HS → Prop} {v0 : Nat} {v1 : Int32} {v2 : Int32} {v3 : Int32} {v4 : Int32} {v5 : Int32} {S : HS} (h : P_X11_steps v0 v1 v2 v3 v4 v5 Q S) : P_X11_steps v0 v1 v2 v3 v4 v5 (fun r T => Q r T ∧ K2 S T) S := kf_X11_steps_0 h (k2_rf S)
set_option maxRecDepth 20000 in
set_option maxHeartbeats 1000000 in
theorem kf_X11_there_0 {Q : Int32 → HS → Prop} {v0 : Nat} {v1 : Int32} {v2 : Int32} {v3 : Int32} {v4 : Int32} {v5 : Int32} {S0 S : HS} (h : P_X11_there_0 Q v0 v1 v2 v3 v4 v5 S) (K : K2 S0 S) : P_X11_there_0 (fun r T => Q r T ∧ K2 S0 T) v0 v1 v2 v3 v4 v5 S := by
  delta P_X11_there_0 at h ⊢
  obtain ⟨c1, h⟩ := h
  refine ⟨c1, ?_⟩
  have n2 := k2_ne K c1 (by decide)
  intro x4 e3
  have h := h x4 e3
  have K := k2_I K e3 n2
  refine cm_X11_refusesWay (kf_X11_refusesWay h) h (fun x5 x6 hp h g7 => ?_)
  have h := h g7
  have K := k2_tr K hp.2
  refine ⟨?_, ?_⟩
  · intro c8
    have h := h.1 c8
    obtain ⟨b9, e10, h⟩ := h
    refine ⟨b9, e10, ?_⟩
    refine cm_X11_spotOf (kf_X11_spotOf h) h (fun x11 x12 hp h g13 => ?_)
    have h := h g13
    have K := k2_tr K hp.2
    obtain ⟨c14, h⟩ := h
    refine ⟨c14, ?_⟩
    have n15 := k2_ne K c14 (by decide)
    obtain ⟨c16, h⟩ := h
    refine ⟨c16, ?_⟩
    intro x18 e17
    have h := h x18 e17
    refine cm_X11_good (kf_X11_good h) h (fun x19 x20 hp h g21 => ?_)
    have h := h g21
    have K := k2_tr K hp.2
    exact ⟨h, K⟩
  · intro c22
    have h := h.2 c22
    refine cm_X11_refused (kf_X11_refused h) h (fun x23 x24 hp h g25 => ?_)
    have h := h g25
    have K := k2_tr K hp.2
    exact ⟨h, K⟩
theorem kf_X11_there {Q : Int32 → HS → Prop} {v0 : Nat} {v1 : Int32} {v2 : Int32} {v3 : Int32} {v4 : Int32} {v5 : Int32} {S : HS} (h : P_X11_there v0 v1 v2 v3 v4 v5 Q S) : P_X11_there v0 v1 v2 v3 v4 v5 (fun r T => Q r T ∧ K2 S T) S := kf_X11_there_0 h (k2_rf S)
set_option maxRecDepth 20000 in
set_option maxHeartbeats 1000000 in
theorem kf_X11_trouble_0 {Q : Int32 → HS → Prop} {v0 : Nat} {S0 S : HS} (h : P_X11_trouble_0 Q v0 S) (K : K2 S0 S) : P_X11_trouble_0 (fun r T => Q r T ∧ K2 S0 T) v0 S := by
  delta P_X11_trouble_0 at h ⊢
  obtain ⟨c1, h⟩ := h
  refine ⟨c1, ?_⟩
  have n2 := k2_ne K c1 (by decide)
  intro x4 e3
  have h := h x4 e3
  have K := k2_I K e3 n2
  intro x6 e5
  have h := h x6 e5
  exact ⟨h, K⟩
theorem kf_X11_trouble {Q : Int32 → HS → Prop} {v0 : Nat} {S : HS} (h : P_X11_trouble v0 Q S) : P_X11_trouble v0 (fun r T => Q r T ∧ K2 S T) S := kf_X11_trouble_0 h (k2_rf S)
set_option maxRecDepth 20000 in
set_option maxHeartbeats 1000000 in
theorem kf_X11_undo_19 {Q : Int32 → HS → Prop} {v0 : Nat} {S0 S : HS} (h : P_X11_undo_19 Q v0 S) (K : K2 S0 S) : P_X11_undo_19 (fun r T => Q r T ∧ K2 S0 T) v0 S := by
  delta P_X11_undo_19 at h ⊢
  obtain ⟨c1, h⟩ := h
  refine ⟨c1, ?_⟩
  have n2 := k2_ne K c1 (by decide)
  refine cm_X11_denied (kf_X11_denied h) h (fun x3 x4 hp h g5 g6 => ?_)
  have h := h g5 g6
  have K := k2_tr K hp.2
  obtain ⟨c7, h⟩ := h
  refine ⟨c7, ?_⟩
  exact ⟨h, K⟩
set_option maxRecDepth 20000 in
set_option maxHeartbeats 1000000 in
theorem kfB_X11_undo_38 {Q : Int32 → HS → Prop} {X38 X38_2 : Nat → Int32 → HS → Prop} {v0 : Nat} {v1 : Int32} {S0 S : HS} (h : B_X11_undo_38 Q X38 v0 v1 S) (K : K2 S0 S) (hX38 : ∀ (u0 : Nat) (u1 : Int32) (u2 : HS), X38 u0 u1 u2 → K2 S0 u2 → X38_2 u0 u1 u2) : B_X11_undo_38 (fun r T => Q r T ∧ K2 S0 T) X38_2 v0 v1 S := by
  delta B_X11_undo_38 at h ⊢
  refine ⟨?_, ?_⟩
  · intro c1
    have h := h.1 c1
    obtain ⟨c2, h⟩ := h
    refine ⟨c2, ?_⟩
    have n3 := k2_ne K c2 (by decide)
    refine cm_X11_granted (kf_X11_granted h) h (fun x4 x5 hp h g6 g7 => ?_)
    have h := h g6 g7
    have K := k2_tr K hp.2
    obtain ⟨c8, h⟩ := h
    refine ⟨c8, ?_⟩
    exact ⟨h, K⟩
  · intro c9
    have h := h.2 c9
    obtain ⟨c10, h⟩ := h
    refine ⟨c10, ?_⟩
    have n11 := k2_ne K c10 (by decide)
    obtain ⟨b12, e13, h⟩ := h
    refine ⟨b12, e13, ?_⟩
    obtain ⟨b14, e15, h⟩ := h
    refine ⟨b14, e15, ?_⟩
    intro x17 e16
    have h := h x17 e16
    obtain ⟨c18, h⟩ := h
    refine ⟨c18, ?_⟩
    have n19 := k2_ne K c18 (by decide)
    intro x21 e20
    have h := h x21 e20
    obtain ⟨c22, h⟩ := h
    refine ⟨c22, ?_⟩
    intro x24 e23
    have h := h x24 e23
    obtain ⟨c25, h⟩ := h
    refine ⟨c25, ?_⟩
    have n26 := k2_ne K c25 (by decide)
    obtain ⟨c27, h⟩ := h
    refine ⟨c27, ?_⟩
    intro x29 e28
    have h := h x29 e28
    have K := k2_J K e28
    intro x31 e30
    have h := h x31 e30
    exact hX38 _ _ _ h K
theorem kf_X11_undo_38 {Q : Int32 → HS → Prop} {v0 : Nat} {v1 : Int32} {S0 S : HS} (h : P_X11_undo_38 Q v0 v1 S) (K : K2 S0 S) : P_X11_undo_38 (fun r T => Q r T ∧ K2 S0 T) v0 v1 S := h (fun v0 v1 S => K2 S0 S → P_X11_undo_38 (fun r T => Q r T ∧ K2 S0 T) v0 v1 S) (fun v0 v1 S hB K => fd_X11_undo_38 (kfB_X11_undo_38 hB K (fun _ _ _ hx K => hx K))) K
set_option maxRecDepth 20000 in
set_option maxHeartbeats 1000000 in
theorem kf_X11_undo_0 {Q : Int32 → HS → Prop} {v0 : Nat} {S0 S : HS} (h : P_X11_undo_0 Q v0 S) (K : K2 S0 S) : P_X11_undo_0 (fun r T => Q r T ∧ K2 S0 T) v0 S := by
  delta P_X11_undo_0 at h ⊢
  obtain ⟨c1, h⟩ := h
  refine ⟨c1, ?_⟩
  have n2 := k2_ne K c1 (by decide)
  intro x4 e3
  have h := h x4 e3
  have K := k2_I K e3 n2
  refine cm_X11_isDay (kf_X11_isDay h) h (fun x5 x6 hp h g7 g8 => ?_)
  have h := h g7 g8
  have K := k2_tr K hp.2
  refine ⟨?_, ?_⟩
  · intro c9
    have h := h.1 c9
    exact kf_X11_undo_19 h K
  · intro c10
    have h := h.2 c10
    intro x12 e11
    have h := h x12 e11
    refine ⟨?_, ?_⟩
    · intro c13
      have h := h.1 c13
      intro x15 e14
      have h := h x15 e14
      intro x17 e16
      have h := h x17 e16
      intro x19 e18
      have h := h x19 e18
      have K := k2_I K e18 n2
      exact kf_X11_undo_38 h K
    · intro c20
      have h := h.2 c20
      exact kf_X11_undo_19 h K
theorem kf_X11_undo {Q : Int32 → HS → Prop} {v0 : Nat} {S : HS} (h : P_X11_undo v0 Q S) : P_X11_undo v0 (fun r T => Q r T ∧ K2 S T) S := kf_X11_undo_0 h (k2_rf S)
set_option maxRecDepth 20000 in
set_option maxHeartbeats 1000000 in
theorem kf_X11_walker_23 {Q : Int32 → HS → Prop} {v0 : Nat} {S0 S : HS} (h : P_X11_walker_23 Q v0 S) (K : K2 S0 S) : P_X11_walker_23 (fun r T => Q r T ∧ K2 S0 T) v0 S := by
  delta P_X11_walker_23 at h ⊢
  obtain ⟨c1, h⟩ := h
  refine ⟨c1, ?_⟩
  have n2 := k2_ne K c1 (by decide)
  refine cm_X11_refused (kf_X11_refused h) h (fun x3 x4 hp h g5 => ?_)
  have h := h g5
  have K := k2_tr K hp.2
  exact ⟨h, K⟩
set_option maxRecDepth 20000 in
set_option maxHeartbeats 1000000 in
theorem kf_X11_walker_0 {Q : Int32 → HS → Prop} {v0 : Nat} {v1 : Int32} {v2 : Int32} {S0 S : HS} (h : P_X11_walker_0 Q v0 v1 v2 S) (K : K2 S0 S) : P_X11_walker_0 (fun r T => Q r T ∧ K2 S0 T) v0 v1 v2 S := by
  delta P_X11_walker_0 at h ⊢
  obtain ⟨c1, h⟩ := h
  refine ⟨c1, ?_⟩
  have n2 := k2_ne K c1 (by decide)
  intro x4 e3
  have h := h x4 e3
  have K := k2_I K e3 n2
  refine cm_X11_isWalker (kf_X11_isWalker h) h (fun x5 x6 hp h g7 g8 => ?_)
  have h := h g7 g8
  have K := k2_tr K hp.2
  refine ⟨?_, ?_⟩
  · intro c9
    have h := h.1 c9
    exact kf_X11_walker_23 h K
  · intro c10
    have h := h.2 c10
    refine cm_X11_in (kf_X11_in h) h (fun x11 x12 hp h g13 g14 => ?_)
    have h := h g13 g14
    have K := k2_tr K hp.2
    refine ⟨?_, ?_⟩
    · intro c15
      have h := h.1 c15
      refine ⟨?_, ?_, ?_, ?_, ?_, ?_, ?_⟩
      · intro c16
        have h := h.1 c16
        obtain ⟨b17, e18, h⟩ := h
        refine ⟨b17, e18, ?_⟩
        obtain ⟨c19, h⟩ := h
        refine ⟨c19, ?_⟩
        have n20 := k2_ne K c19 (by decide)
        obtain ⟨b21, e22, h⟩ := h
        refine ⟨b21, e22, ?_⟩
        obtain ⟨c23, h⟩ := h
        refine ⟨c23, ?_⟩
        have n24 := k2_ne K c23 (by decide)
        obtain ⟨c25, h⟩ := h
        refine ⟨c25, ?_⟩
        intro x27 e26
        have h := h x27 e26
        refine cm_X11_good (kf_X11_good h) h (fun x28 x29 hp h g30 => ?_)
        have h := h g30
        have K := k2_tr K hp.2
        exact ⟨h, K⟩
      · intro c31
        have h := h.2.1 c31
        obtain ⟨b32, e33, h⟩ := h
        refine ⟨b32, e33, ?_⟩
        obtain ⟨c34, h⟩ := h
        refine ⟨c34, ?_⟩
        have n35 := k2_ne K c34 (by decide)
        obtain ⟨b36, e37, h⟩ := h
        refine ⟨b36, e37, ?_⟩
        obtain ⟨c38, h⟩ := h
        refine ⟨c38, ?_⟩
        have n39 := k2_ne K c38 (by decide)
        obtain ⟨c40, h⟩ := h
        refine ⟨c40, ?_⟩
        intro x42 e41
        have h := h x42 e41
        refine cm_X11_good (kf_X11_good h) h (fun x43 x44 hp h g45 => ?_)
        have h := h g45
        have K := k2_tr K hp.2
        exact ⟨h, K⟩
      · intro c46
        have h := h.2.2.1 c46
        obtain ⟨b47, e48, h⟩ := h
        refine ⟨b47, e48, ?_⟩
        obtain ⟨c49, h⟩ := h
        refine ⟨c49, ?_⟩
        have n50 := k2_ne K c49 (by decide)
        obtain ⟨b51, e52, h⟩ := h
        refine ⟨b51, e52, ?_⟩
        obtain ⟨c53, h⟩ := h
        refine ⟨c53, ?_⟩
        have n54 := k2_ne K c53 (by decide)
        obtain ⟨c55, h⟩ := h
        refine ⟨c55, ?_⟩
        intro x57 e56
        have h := h x57 e56
        refine cm_X11_good (kf_X11_good h) h (fun x58 x59 hp h g60 => ?_)
        have h := h g60
        have K := k2_tr K hp.2
        exact ⟨h, K⟩
      · intro c61
        have h := h.2.2.2.1 c61
        obtain ⟨b62, e63, h⟩ := h
        refine ⟨b62, e63, ?_⟩
        obtain ⟨c64, h⟩ := h
        refine ⟨c64, ?_⟩
        have n65 := k2_ne K c64 (by decide)
        obtain ⟨b66, e67, h⟩ := h
        refine ⟨b66, e67, ?_⟩
        obtain ⟨c68, h⟩ := h
        refine ⟨c68, ?_⟩
        have n69 := k2_ne K c68 (by decide)
        obtain ⟨c70, h⟩ := h
        refine ⟨c70, ?_⟩
        intro x72 e71
        have h := h x72 e71
        refine cm_X11_good (kf_X11_good h) h (fun x73 x74 hp h g75 => ?_)
        have h := h g75
        have K := k2_tr K hp.2
        exact ⟨h, K⟩
      · intro c76
        have h := h.2.2.2.2.1 c76
        obtain ⟨b77, e78, h⟩ := h
        refine ⟨b77, e78, ?_⟩
        obtain ⟨c79, h⟩ := h
        refine ⟨c79, ?_⟩
        have n80 := k2_ne K c79 (by decide)
        obtain ⟨b81, e82, h⟩ := h
        refine ⟨b81, e82, ?_⟩
        obtain ⟨c83, h⟩ := h
        refine ⟨c83, ?_⟩
        have n84 := k2_ne K c83 (by decide)
        obtain ⟨c85, h⟩ := h
        refine ⟨c85, ?_⟩
        intro x87 e86
        have h := h x87 e86
        refine cm_X11_good (kf_X11_good h) h (fun x88 x89 hp h g90 => ?_)
        have h := h g90
        have K := k2_tr K hp.2
        exact ⟨h, K⟩
      · intro c91
        have h := h.2.2.2.2.2.1 c91
        obtain ⟨b92, e93, h⟩ := h
        refine ⟨b92, e93, ?_⟩
        obtain ⟨c94, h⟩ := h
        refine ⟨c94, ?_⟩
        have n95 := k2_ne K c94 (by decide)
        obtain ⟨b96, e97, h⟩ := h
        refine ⟨b96, e97, ?_⟩
        obtain ⟨c98, h⟩ := h
        refine ⟨c98, ?_⟩
        have n99 := k2_ne K c98 (by decide)
        obtain ⟨c100, h⟩ := h
        refine ⟨c100, ?_⟩
        intro x102 e101
        have h := h x102 e101
        refine cm_X11_good (kf_X11_good h) h (fun x103 x104 hp h g105 => ?_)
        have h := h g105
        have K := k2_tr K hp.2
        exact ⟨h, K⟩
      · intro c106
        have h := h.2.2.2.2.2.2 c106
        obtain ⟨b107, e108, h⟩ := h
        refine ⟨b107, e108, ?_⟩
        obtain ⟨c109, h⟩ := h
        refine ⟨c109, ?_⟩
        have n110 := k2_ne K c109 (by decide)
        obtain ⟨b111, e112, h⟩ := h
        refine ⟨b111, e112, ?_⟩
        obtain ⟨c113, h⟩ := h
        refine ⟨c113, ?_⟩
        have n114 := k2_ne K c113 (by decide)
        obtain ⟨c115, h⟩ := h
        refine ⟨c115, ?_⟩
        intro x117 e116
        have h := h x117 e116
        refine cm_X11_good (kf_X11_good h) h (fun x118 x119 hp h g120 => ?_)
        have h := h g120
        have K := k2_tr K hp.2
        exact ⟨h, K⟩
    · intro c121
      have h := h.2 c121
      exact kf_X11_walker_23 h K
theorem kf_X11_walker {Q : Int32 → HS → Prop} {v0 : Nat} {v1 : Int32} {v2 : Int32} {S : HS} (h : P_X11_walker v0 v1 v2 Q S) : P_X11_walker v0 v1 v2 (fun r T => Q r T ∧ K2 S T) S := kf_X11_walker_0 h (k2_rf S)
set_option maxRecDepth 20000 in
set_option maxHeartbeats 1000000 in
theorem kf_X11_wet_0 {Q : Int64 → HS → Prop} {v0 : Nat} {v1 : Int32} {v2 : Int32} {v3 : Int32} {v4 : Int32} {v5 : Int32} {v6 : Int32} {S0 S : HS} (h : P_X11_wet_0 Q v0 v1 v2 v3 v4 v5 v6 S) (K : K2 S0 S) : P_X11_wet_0 (fun r T => Q r T ∧ K2 S0 T) v0 v1 v2 v3 v4 v5 v6 S := by
  delta P_X11_wet_0 at h ⊢
  obtain ⟨c1, h⟩ := h
  refine ⟨c1, ?_⟩
  have n2 := k2_ne K c1 (by decide)
  intro x4 e3
  have h := h x4 e3
  have K := k2_I K e3 n2
  refine cm_X11_refuses (kf_X11_refuses h) h (fun x5 x6 hp h g7 => ?_)
  have h := h g7
  have K := k2_tr K hp.2
  refine ⟨?_, ?_⟩
  · intro c8
    have h := h.1 c8
    refine cm_X11_wetOf (kf_X11_wetOf h) h (fun x9 x10 hp h g11 => ?_)
    have h := h g11
    have K := k2_tr K hp.2
    refine cm_X11_told (kf_X11_told h) h (fun x12 x13 hp h g14 => ?_)
    have h := h g14
    have K := k2_tr K hp.2
    exact ⟨h, K⟩
  · intro c15
    have h := h.2 c15
    refine cm_X11_refused (kf_X11_refused h) h (fun x16 x17 hp h g18 => ?_)
    have h := h g18
    have K := k2_tr K hp.2
    exact ⟨h, K⟩
theorem kf_X11_wet {Q : Int64 → HS → Prop} {v0 : Nat} {v1 : Int32} {v2 : Int32} {v3 : Int32} {v4 : Int32} {v5 : Int32} {v6 : Int32} {S : HS} (h : P_X11_wet v0 v1 v2 v3 v4 v5 v6 Q S) : P_X11_wet v0 v1 v2 v3 v4 v5 v6 (fun r T => Q r T ∧ K2 S T) S := kf_X11_wet_0 h (k2_rf S)
set_option maxRecDepth 20000 in
set_option maxHeartbeats 1000000 in
theorem kf_X11_wetness_41 {Q : Int64 → HS → Prop} {v1 : Int32} {s0 : Nat} {s1 : Int64} {S0 S : HS} (h : P_X11_wetness_41 Q v1 s0 s1 S) (K : K2 S0 S) : P_X11_wetness_41 (fun r T => Q r T ∧ K2 S0 T) v1 s0 s1 S := by
  delta P_X11_wetness_41 at h ⊢
  obtain ⟨c1, h⟩ := h
  refine ⟨c1, ?_⟩
  have n2 := k2_ne K c1 (by decide)
  refine cm_X11_told (kf_X11_told h) h (fun x3 x4 hp h g5 => ?_)
  have h := h g5
  have K := k2_tr K hp.2
  exact ⟨h, K⟩
set_option maxRecDepth 20000 in
set_option maxHeartbeats 1000000 in
theorem kf_X11_wetness_0 {Q : Int64 → HS → Prop} {v0 : Nat} {v1 : Int32} {S0 S : HS} (h : P_X11_wetness_0 Q v0 v1 S) (K : K2 S0 S) : P_X11_wetness_0 (fun r T => Q r T ∧ K2 S0 T) v0 v1 S := by
  delta P_X11_wetness_0 at h ⊢
  obtain ⟨c1, h⟩ := h
  refine ⟨c1, ?_⟩
  have n2 := k2_ne K c1 (by decide)
  intro x4 e3
  have h := h x4 e3
  have K := k2_I K e3 n2
  refine cm_X11_isDay (kf_X11_isDay h) h (fun x5 x6 hp h g7 g8 => ?_)
  have h := h g7 g8
  have K := k2_tr K hp.2
  refine ⟨?_, ?_⟩
  · intro c9
    have h := h.1 c9
    refine cm_X11_gotInAll (kf_X11_gotInAll h) h (fun x10 x11 hp h g12 => ?_)
    have h := h g12
    have K := k2_tr K hp.2
    refine cm_X11_holds (kf_X11_holds h) h (fun x13 x14 hp h g15 => ?_)
    have h := h g15
    have K := k2_tr K hp.2
    intro x17 e16
    have h := h x17 e16
    refine ⟨?_, ?_⟩
    · intro c18
      have h := h.1 c18
      exact kf_X11_wetness_41 h K
    · intro c19
      have h := h.2 c19
      exact kf_X11_wetness_41 h K
  · intro c20
    have h := h.2 c20
    refine cm_X11_refused (kf_X11_refused h) h (fun x21 x22 hp h g23 => ?_)
    have h := h g23
    have K := k2_tr K hp.2
    exact ⟨h, K⟩
theorem kf_X11_wetness {Q : Int64 → HS → Prop} {v0 : Nat} {v1 : Int32} {S : HS} (h : P_X11_wetness v0 v1 Q S) : P_X11_wetness v0 v1 (fun r T => Q r T ∧ K2 S T) S := kf_X11_wetness_0 h (k2_rf S)
set_option maxRecDepth 20000 in
set_option maxHeartbeats 1000000 in
theorem kf_X11_where_0 {Q : Int32 → HS → Prop} {v0 : Nat} {S0 S : HS} (h : P_X11_where_0 Q v0 S) (K : K2 S0 S) : P_X11_where_0 (fun r T => Q r T ∧ K2 S0 T) v0 S := by
  delta P_X11_where_0 at h ⊢
  obtain ⟨c1, h⟩ := h
  refine ⟨c1, ?_⟩
  have n2 := k2_ne K c1 (by decide)
  intro x4 e3
  have h := h x4 e3
  have K := k2_I K e3 n2
  intro x6 e5
  have h := h x6 e5
  exact ⟨h, K⟩
theorem kf_X11_where {Q : Int32 → HS → Prop} {v0 : Nat} {S : HS} (h : P_X11_where v0 Q S) : P_X11_where v0 (fun r T => Q r T ∧ K2 S T) S := kf_X11_where_0 h (k2_rf S)
set_option maxRecDepth 20000 in
set_option maxHeartbeats 1000000 in
theorem kf_X11_world_17 {Q : Int32 → HS → Prop} {v0 : Nat} {S0 S : HS} (h : P_X11_world_17 Q v0 S) (K : K2 S0 S) : P_X11_world_17 (fun r T => Q r T ∧ K2 S0 T) v0 S := by
  delta P_X11_world_17 at h ⊢
  obtain ⟨c1, h⟩ := h
  refine ⟨c1, ?_⟩
  have n2 := k2_ne K c1 (by decide)
  refine cm_X11_refused (kf_X11_refused h) h (fun x3 x4 hp h g5 => ?_)
  have h := h g5
  have K := k2_tr K hp.2
  exact ⟨h, K⟩
set_option maxRecDepth 20000 in
set_option maxHeartbeats 1000000 in
theorem kf_X11_world_0 {Q : Int32 → HS → Prop} {v0 : Nat} {v1 : Int32} {S0 S : HS} (h : P_X11_world_0 Q v0 v1 S) (K : K2 S0 S) : P_X11_world_0 (fun r T => Q r T ∧ K2 S0 T) v0 v1 S := by
  delta P_X11_world_0 at h ⊢
  obtain ⟨c1, h⟩ := h
  refine ⟨c1, ?_⟩
  have n2 := k2_ne K c1 (by decide)
  intro x4 e3
  have h := h x4 e3
  have K := k2_I K e3 n2
  refine ⟨?_, ?_⟩
  · intro c5
    have h := h.1 c5
    exact kf_X11_world_17 h K
  · intro c6
    have h := h.2 c6
    intro x8 e7
    have h := h x8 e7
    refine ⟨?_, ?_⟩
    · intro c9
      have h := h.1 c9
      intro x11 e10
      have h := h x11 e10
      have K := k2_I K e10 n2
      intro x13 e12
      have h := h x13 e12
      have K := k2_I K e12 n2
      intro x15 e14
      have h := h x15 e14
      have K := k2_I K e14 n2
      intro x17 e16
      have h := h x17 e16
      have K := k2_I K e16 n2
      intro x19 e18
      have h := h x19 e18
      intro x21 e20
      have h := h x21 e20
      have K := k2_W K e18 e20
      refine cm_X10_init (kf_X10_init h) h (fun x22 hp h g23 => ?_)
      have h := h g23
      have K := k2_tr K hp.2
      intro x25 e24
      have h := h x25 e24
      have K := k2_R K e24
      intro x27 e26
      have h := h x27 e26
      have K := k2_I K e26 n2
      refine cm_X11_goesOn (kf_X11_goesOn h) h (fun x28 hp h g29 => ?_)
      have h := h g29
      have K := k2_tr K hp.2
      refine cm_X11_readAll (kf_X11_readAll h) h (fun x30 hp h g31 => ?_)
      have h := h g31
      have K := k2_tr K hp.2
      intro x33 e32
      have h := h x33 e32
      refine ⟨?_, ?_⟩
      · intro c34
        have h := h.1 c34
        obtain ⟨b35, e36, h⟩ := h
        refine ⟨b35, e36, ?_⟩
        intro x38 e37
        have h := h x38 e37
        have K := k2_R K e37
        intro x40 e39
        have h := h x40 e39
        have K := k2_I K e39 n2
        intro x42 e41
        have h := h x42 e41
        have K := k2_I K e41 n2
        intro x44 e43
        have h := h x44 e43
        have K := k2_I K e43 n2
        obtain ⟨b45, e46, h⟩ := h
        refine ⟨b45, e46, ?_⟩
        obtain ⟨c47, h⟩ := h
        refine ⟨c47, ?_⟩
        have n48 := k2_ne K c47 (by decide)
        intro x50 e49
        have h := h x50 e49
        refine cm_X11_good (kf_X11_good h) h (fun x51 x52 hp h g53 => ?_)
        have h := h g53
        have K := k2_tr K hp.2
        exact ⟨h, K⟩
      · intro c54
        have h := h.2 c54
        intro x56 e55
        have h := h x56 e55
        have K := k2_I K e55 n2
        intro x58 e57
        have h := h x58 e57
        intro x60 e59
        have h := h x60 e59
        have K := k2_I K e59 n2
        exact ⟨h, K⟩
    · intro c61
      have h := h.2 c61
      exact kf_X11_world_17 h K
theorem kf_X11_world {Q : Int32 → HS → Prop} {v0 : Nat} {v1 : Int32} {S : HS} (h : P_X11_world v0 v1 Q S) : P_X11_world v0 v1 (fun r T => Q r T ∧ K2 S T) S := kf_X11_world_0 h (k2_rf S)
set_option maxRecDepth 20000 in
set_option maxHeartbeats 1000000 in
theorem kf_X11_worst_39 {Q : Int32 → HS → Prop} {v0 : Nat} {S0 S : HS} (h : P_X11_worst_39 Q v0 S) (K : K2 S0 S) : P_X11_worst_39 (fun r T => Q r T ∧ K2 S0 T) v0 S := by
  delta P_X11_worst_39 at h ⊢
  obtain ⟨c1, h⟩ := h
  refine ⟨c1, ?_⟩
  have n2 := k2_ne K c1 (by decide)
  refine cm_X11_refused (kf_X11_refused h) h (fun x3 x4 hp h g5 => ?_)
  have h := h g5
  have K := k2_tr K hp.2
  exact ⟨h, K⟩
set_option maxRecDepth 20000 in
set_option maxHeartbeats 1000000 in
theorem kf_X11_worst_106 {Q : Int32 → HS → Prop} {X62 X62_2 : Nat → Int32 → Int32 → Int32 → Int32 → Int32 → Int32 → HS → Prop} {v0 : Nat} {v1 : Int32} {v2 : Int32} {v3 : Int32} {v4 : Int32} {v5 : Int32} {v6 : Int32} {S0 S : HS} (h : P_X11_worst_106 Q X62 v0 v1 v2 v3 v4 v5 v6 S) (K : K2 S0 S) (hX62 : ∀ (u0 : Nat) (u1 : Int32) (u2 : Int32) (u3 : Int32) (u4 : Int32) (u5 : Int32) (u6 : Int32) (u7 : HS), X62 u0 u1 u2 u3 u4 u5 u6 u7 → K2 S0 u7 → X62_2 u0 u1 u2 u3 u4 u5 u6 u7) : P_X11_worst_106 (fun r T => Q r T ∧ K2 S0 T) X62_2 v0 v1 v2 v3 v4 v5 v6 S := by
  delta P_X11_worst_106 at h ⊢
  intro x2 e1
  have h := h x2 e1
  exact hX62 _ _ _ _ _ _ _ _ h K
set_option maxRecDepth 20000 in
set_option maxHeartbeats 1000000 in
theorem kfB_X11_worst_62 {Q : Int32 → HS → Prop} {X62 X62_2 : Nat → Int32 → Int32 → Int32 → Int32 → Int32 → Int32 → HS → Prop} {v0 : Nat} {v1 : Int32} {v2 : Int32} {v3 : Int32} {v4 : Int32} {v5 : Int32} {v6 : Int32} {S0 S : HS} (h : B_X11_worst_62 Q X62 v0 v1 v2 v3 v4 v5 v6 S) (K : K2 S0 S) (hX62 : ∀ (u0 : Nat) (u1 : Int32) (u2 : Int32) (u3 : Int32) (u4 : Int32) (u5 : Int32) (u6 : Int32) (u7 : HS), X62 u0 u1 u2 u3 u4 u5 u6 u7 → K2 S0 u7 → X62_2 u0 u1 u2 u3 u4 u5 u6 u7) : B_X11_worst_62 (fun r T => Q r T ∧ K2 S0 T) X62_2 v0 v1 v2 v3 v4 v5 v6 S := by
  delta B_X11_worst_62 at h ⊢
  obtain ⟨c1, h⟩ := h
  refine ⟨c1, ?_⟩
  have n2 := k2_ne K c1 (by decide)
  obtain ⟨b3, e4, h⟩ := h
  refine ⟨b3, e4, ?_⟩
  obtain ⟨c5, h⟩ := h
  refine ⟨c5, ?_⟩
  have n6 := k2_ne K c5 (by decide)
  obtain ⟨b7, e8, h⟩ := h
  refine ⟨b7, e8, ?_⟩
  obtain ⟨c9, h⟩ := h
  refine ⟨c9, ?_⟩
  have n10 := k2_ne K c9 (by decide)
  obtain ⟨c11, h⟩ := h
  refine ⟨c11, ?_⟩
  intro x13 e12
  have h := h x13 e12
  refine ⟨?_, ?_⟩
  · intro c14
    have h := h.1 c14
    refine cm_X11_good (kf_X11_good h) h (fun x15 x16 hp h g17 => ?_)
    have h := h g17
    have K := k2_tr K hp.2
    exact ⟨h, K⟩
  · intro c18
    have h := h.2 c18
    refine cm_X11_wetOf (kf_X11_wetOf h) h (fun x19 x20 hp h g21 => ?_)
    have h := h g21
    have K := k2_tr K hp.2
    refine cm_X11_wetOf (kf_X11_wetOf h) h (fun x22 x23 hp h g24 => ?_)
    have h := h g24
    have K := k2_tr K hp.2
    refine ⟨?_, ?_⟩
    · intro c25
      have h := h.1 c25
      exact kf_X11_worst_106 h K hX62
    · intro c26
      have h := h.2 c26
      exact kf_X11_worst_106 h K hX62
theorem kf_X11_worst_62 {Q : Int32 → HS → Prop} {v0 : Nat} {v1 : Int32} {v2 : Int32} {v3 : Int32} {v4 : Int32} {v5 : Int32} {v6 : Int32} {S0 S : HS} (h : P_X11_worst_62 Q v0 v1 v2 v3 v4 v5 v6 S) (K : K2 S0 S) : P_X11_worst_62 (fun r T => Q r T ∧ K2 S0 T) v0 v1 v2 v3 v4 v5 v6 S := h (fun v0 v1 v2 v3 v4 v5 v6 S => K2 S0 S → P_X11_worst_62 (fun r T => Q r T ∧ K2 S0 T) v0 v1 v2 v3 v4 v5 v6 S) (fun v0 v1 v2 v3 v4 v5 v6 S hB K => fd_X11_worst_62 (kfB_X11_worst_62 hB K (fun _ _ _ _ _ _ _ _ hx K => hx K))) K
set_option maxRecDepth 20000 in
set_option maxHeartbeats 1000000 in
theorem kf_X11_worst_0 {Q : Int32 → HS → Prop} {v0 : Nat} {v1 : Int32} {v2 : Int32} {v3 : Int32} {v4 : Int32} {S0 S : HS} (h : P_X11_worst_0 Q v0 v1 v2 v3 v4 S) (K : K2 S0 S) : P_X11_worst_0 (fun r T => Q r T ∧ K2 S0 T) v0 v1 v2 v3 v4 S := by
  delta P_X11_worst_0 at h ⊢
  obtain ⟨c1, h⟩ := h
  refine ⟨c1, ?_⟩
  have n2 := k2_ne K c1 (by decide)
  intro x4 e3
  have h := h x4 e3
  have K := k2_I K e3 n2
  refine cm_X11_isWalker (kf_X11_isWalker h) h (fun x5 x6 hp h g7 g8 => ?_)
  have h := h g7 g8
  have K := k2_tr K hp.2
  refine ⟨?_, ?_⟩
  · intro c9
    have h := h.1 c9
    exact kf_X11_worst_39 h K
  · intro c10
    have h := h.2 c10
    refine cm_X11_isRoad (kf_X11_isRoad h) h (fun x11 x12 hp h g13 g14 => ?_)
    have h := h g13 g14
    have K := k2_tr K hp.2
    refine ⟨?_, ?_⟩
    · intro c15
      have h := h.1 c15
      exact kf_X11_worst_39 h K
    · intro c16
      have h := h.2 c16
      refine cm_X11_in (kf_X11_in h) h (fun x17 x18 hp h g19 g20 => ?_)
      have h := h g19 g20
      have K := k2_tr K hp.2
      refine ⟨?_, ?_⟩
      · intro c21
        have h := h.1 c21
        exact kf_X11_worst_39 h K
      · intro c22
        have h := h.2 c22
        refine cm_X11_isHour (kf_X11_isHour h) h (fun x23 x24 hp h g25 g26 => ?_)
        have h := h g25 g26
        have K := k2_tr K hp.2
        refine ⟨?_, ?_⟩
        · intro c27
          have h := h.1 c27
          obtain ⟨b28, e29, h⟩ := h
          refine ⟨b28, e29, ?_⟩
          obtain ⟨c30, h⟩ := h
          refine ⟨c30, ?_⟩
          have n31 := k2_ne K c30 (by decide)
          obtain ⟨b32, e33, h⟩ := h
          refine ⟨b32, e33, ?_⟩
          obtain ⟨c34, h⟩ := h
          refine ⟨c34, ?_⟩
          have n35 := k2_ne K c34 (by decide)
          obtain ⟨c36, h⟩ := h
          refine ⟨c36, ?_⟩
          intro x38 e37
          have h := h x38 e37
          intro x40 e39
          have h := h x40 e39
          exact kf_X11_worst_62 h K
        · intro c41
          have h := h.2 c41
          exact kf_X11_worst_39 h K
theorem kf_X11_worst {Q : Int32 → HS → Prop} {v0 : Nat} {v1 : Int32} {v2 : Int32} {v3 : Int32} {v4 : Int32} {S : HS} (h : P_X11_worst v0 v1 v2 v3 v4 Q S) : P_X11_worst v0 v1 v2 v3 v4 (fun r T => Q r T ∧ K2 S T) S := kf_X11_worst_0 h (k2_rf S)
set_option maxRecDepth 20000 in
set_option maxHeartbeats 1000000 in
theorem kf_X5_turnOf_17 {Q : Int32 → HS → Prop} {v2 : Nat} {s0 : Int32} {S0 S : HS} (h : P_X5_turnOf_17 Q v2 s0 S) (K : K2 S0 S) : P_X5_turnOf_17 (fun r T => Q r T ∧ K2 S0 T) v2 s0 S := by
  delta P_X5_turnOf_17 at h ⊢
  obtain ⟨c1, h⟩ := h
  refine ⟨c1, ?_⟩
  have n2 := k2_ne K c1 (by decide)
  intro x4 e3
  have h := h x4 e3
  exact ⟨h, K⟩
set_option maxRecDepth 20000 in
set_option maxHeartbeats 1000000 in
theorem kf_X5_turnOf_0 {Q : Int32 → HS → Prop} {v0 : Nat} {v1 : Int32} {v2 : Nat} {S0 S : HS} (h : P_X5_turnOf_0 Q v0 v1 v2 S) (K : K2 S0 S) : P_X5_turnOf_0 (fun r T => Q r T ∧ K2 S0 T) v0 v1 v2 S := by
  delta P_X5_turnOf_0 at h ⊢
  refine ⟨?_, ?_⟩
  · intro c1
    have h := h.1 c1
    obtain ⟨c2, h⟩ := h
    refine ⟨c2, ?_⟩
    have n3 := k2_ne K c2 (by decide)
    intro x5 e4
    have h := h x5 e4
    exact kf_X5_turnOf_17 h K
  · intro c6
    have h := h.2 c6
    obtain ⟨c7, h⟩ := h
    refine ⟨c7, ?_⟩
    have n8 := k2_ne K c7 (by decide)
    intro x10 e9
    have h := h x10 e9
    exact kf_X5_turnOf_17 h K
theorem kf_X5_turnOf {Q : Int32 → HS → Prop} {v0 : Nat} {v1 : Int32} {v2 : Nat} {S : HS} (h : P_X5_turnOf v0 v1 v2 Q S) : P_X5_turnOf v0 v1 v2 (fun r T => Q r T ∧ K2 S T) S := kf_X5_turnOf_0 h (k2_rf S)
set_option maxRecDepth 20000 in
set_option maxHeartbeats 1000000 in
theorem kf_X5_airAlong_0 {Q : Int32 → HS → Prop} {v0 : Nat} {v1 : Int32} {v2 : Nat} {S0 S : HS} (h : P_X5_airAlong_0 Q v0 v1 v2 S) (K : K2 S0 S) : P_X5_airAlong_0 (fun r T => Q r T ∧ K2 S0 T) v0 v1 v2 S := by
  delta P_X5_airAlong_0 at h ⊢
  obtain ⟨c1, h⟩ := h
  refine ⟨c1, ?_⟩
  have n2 := k2_ne K c1 (by decide)
  refine cm_X5_turnOf (kf_X5_turnOf h) h (fun x3 x4 hp h g5 => ?_)
  have h := h g5
  have K := k2_tr K hp.2
  refine ⟨?_, ?_⟩
  · intro c6
    have h := h.1 c6
    refine ⟨?_, ?_⟩
    · intro c7
      have h := h.1 c7
      exact ⟨h, K⟩
    · intro c8
      have h := h.2 c8
      obtain ⟨c9, h⟩ := h
      refine ⟨c9, ?_⟩
      have n10 := k2_ne K c9 (by decide)
      intro x12 e11
      have h := h x12 e11
      exact ⟨h, K⟩
  · intro c13
    have h := h.2 c13
    obtain ⟨c14, h⟩ := h
    refine ⟨c14, ?_⟩
    have n15 := k2_ne K c14 (by decide)
    intro x17 e16
    have h := h x17 e16
    exact ⟨h, K⟩
theorem kf_X5_airAlong {Q : Int32 → HS → Prop} {v0 : Nat} {v1 : Int32} {v2 : Nat} {S : HS} (h : P_X5_airAlong v0 v1 v2 Q S) : P_X5_airAlong v0 v1 v2 (fun r T => Q r T ∧ K2 S T) S := kf_X5_airAlong_0 h (k2_rf S)
set_option maxRecDepth 20000 in
set_option maxHeartbeats 1000000 in
theorem kf_X1_lay_130 {Q : HS → Prop} {v0 : Nat} {v3 : Nat} {v7 : Int64} {v9 : Int32} {s0 : Nat} {s1 : Int32} {s2 : Int64} {S0 S : HS} (h : P_X1_lay_130 Q v0 v3 v7 v9 s0 s1 s2 S) (K : K2 S0 S) : P_X1_lay_130 (fun T => Q T ∧ K2 S0 T) v0 v3 v7 v9 s0 s1 s2 S := by
  delta P_X1_lay_130 at h ⊢
  obtain ⟨c1, h⟩ := h
  refine ⟨c1, ?_⟩
  have n2 := k2_ne K c1 (by decide)
  obtain ⟨c3, h⟩ := h
  refine ⟨c3, ?_⟩
  intro x5 e4
  have h := h x5 e4
  have K := k2_J K e4
  obtain ⟨c6, h⟩ := h
  refine ⟨c6, ?_⟩
  have n7 := k2_ne K c6 (by decide)
  obtain ⟨b8, e9, h⟩ := h
  refine ⟨b8, e9, ?_⟩
  refine ⟨?_, ?_⟩
  · intro c10
    have h := h.1 c10
    obtain ⟨c11, h⟩ := h
    refine ⟨c11, ?_⟩
    have n12 := k2_ne K c11 (by decide)
    obtain ⟨c13, h⟩ := h
    refine ⟨c13, ?_⟩
    intro x15 e14
    have h := h x15 e14
    have K := k2_J K e14
    exact ⟨h, K⟩
  · intro c16
    have h := h.2 c16
    obtain ⟨c17, h⟩ := h
    refine ⟨c17, ?_⟩
    have n18 := k2_ne K c17 (by decide)
    intro x20 e19
    have h := h x20 e19
    obtain ⟨c21, h⟩ := h
    refine ⟨c21, ?_⟩
    have n22 := k2_ne K c21 (by decide)
    intro x24 e23
    have h := h x24 e23
    obtain ⟨c25, h⟩ := h
    refine ⟨c25, ?_⟩
    intro x27 e26
    have h := h x27 e26
    have K := k2_J K e26
    exact ⟨h, K⟩
set_option maxRecDepth 20000 in
set_option maxHeartbeats 1000000 in
theorem kf_X1_lay_27 {Q : HS → Prop} {v0 : Nat} {v1 : Nat} {v2 : Int32} {v3 : Nat} {v4 : Int32} {s0 : Int64} {S0 S : HS} (h : P_X1_lay_27 Q v0 v1 v2 v3 v4 s0 S) (K : K2 S0 S) : P_X1_lay_27 (fun T => Q T ∧ K2 S0 T) v0 v1 v2 v3 v4 s0 S := by
  delta P_X1_lay_27 at h ⊢
  obtain ⟨c1, h⟩ := h
  refine ⟨c1, ?_⟩
  have n2 := k2_ne K c1 (by decide)
  intro x4 e3
  have h := h x4 e3
  intro x6 e5
  have h := h x6 e5
  obtain ⟨c7, h⟩ := h
  refine ⟨c7, ?_⟩
  have n8 := k2_ne K c7 (by decide)
  refine cm_X5_turnOf (kf_X5_turnOf h) h (fun x9 x10 hp h g11 => ?_)
  have h := h g11
  have K := k2_tr K hp.2
  refine cm_X5_airAlong (kf_X5_airAlong h) h (fun x12 x13 hp h g14 => ?_)
  have h := h g14
  have K := k2_tr K hp.2
  obtain ⟨c15, h⟩ := h
  refine ⟨c15, ?_⟩
  have n16 := k2_ne K c15 (by decide)
  obtain ⟨b17, e18, h⟩ := h
  refine ⟨b17, e18, ?_⟩
  intro x20 e19
  have h := h x20 e19
  obtain ⟨c21, h⟩ := h
  refine ⟨c21, ?_⟩
  have n22 := k2_ne K c21 (by decide)
  intro x24 e23
  have h := h x24 e23
  obtain ⟨c25, h⟩ := h
  refine ⟨c25, ?_⟩
  intro x27 e26
  have h := h x27 e26
  have K := k2_J K e26
  obtain ⟨b28, e29, h⟩ := h
  refine ⟨b28, e29, ?_⟩
  intro x31 e30
  have h := h x31 e30
  obtain ⟨c32, h⟩ := h
  refine ⟨c32, ?_⟩
  have n33 := k2_ne K c32 (by decide)
  intro x35 e34
  have h := h x35 e34
  obtain ⟨c36, h⟩ := h
  refine ⟨c36, ?_⟩
  intro x38 e37
  have h := h x38 e37
  have K := k2_J K e37
  obtain ⟨b39, e40, h⟩ := h
  refine ⟨b39, e40, ?_⟩
  intro x42 e41
  have h := h x42 e41
  obtain ⟨c43, h⟩ := h
  refine ⟨c43, ?_⟩
  have n44 := k2_ne K c43 (by decide)
  intro x46 e45
  have h := h x46 e45
  obtain ⟨c47, h⟩ := h
  refine ⟨c47, ?_⟩
  intro x49 e48
  have h := h x49 e48
  have K := k2_J K e48
  obtain ⟨b50, e51, h⟩ := h
  refine ⟨b50, e51, ?_⟩
  refine ⟨?_, ?_⟩
  · intro c52
    have h := h.1 c52
    exact kf_X1_lay_130 h K
  · intro c53
    have h := h.2 c53
    intro x55 e54
    have h := h x55 e54
    exact kf_X1_lay_130 h K
set_option maxRecDepth 20000 in
set_option maxHeartbeats 1000000 in
theorem kf_X1_lay_0 {Q : HS → Prop} {v0 : Nat} {v1 : Nat} {v2 : Int32} {v3 : Nat} {v4 : Int32} {S0 S : HS} (h : P_X1_lay_0 Q v0 v1 v2 v3 v4 S) (K : K2 S0 S) : P_X1_lay_0 (fun T => Q T ∧ K2 S0 T) v0 v1 v2 v3 v4 S := by
  delta P_X1_lay_0 at h ⊢
  refine ⟨?_, ?_⟩
  · intro c1
    have h := h.1 c1
    exact kf_X1_lay_27 h K
  · intro c2
    have h := h.2 c2
    obtain ⟨c3, h⟩ := h
    refine ⟨c3, ?_⟩
    have n4 := k2_ne K c3 (by decide)
    intro x6 e5
    have h := h x6 e5
    intro x8 e7
    have h := h x8 e7
    obtain ⟨c9, h⟩ := h
    refine ⟨c9, ?_⟩
    intro x11 e10
    have h := h x11 e10
    exact kf_X1_lay_27 h K
theorem kf_X1_lay {Q : HS → Prop} {v0 : Nat} {v1 : Nat} {v2 : Int32} {v3 : Nat} {v4 : Int32} {S : HS} (h : P_X1_lay v0 v1 v2 v3 v4 Q S) : P_X1_lay v0 v1 v2 v3 v4 (fun T => Q T ∧ K2 S T) S := kf_X1_lay_0 h (k2_rf S)
set_option maxRecDepth 20000 in
set_option maxHeartbeats 1000000 in
theorem kf_X6_shield_0 {Q : Int32 → HS → Prop} {v0 : Nat} {S0 S : HS} (h : P_X6_shield_0 Q v0 S) (K : K2 S0 S) : P_X6_shield_0 (fun r T => Q r T ∧ K2 S0 T) v0 S := by
  delta P_X6_shield_0 at h ⊢
  obtain ⟨c1, h⟩ := h
  refine ⟨c1, ?_⟩
  have n2 := k2_ne K c1 (by decide)
  intro x4 e3
  have h := h x4 e3
  refine ⟨?_, ?_⟩
  · intro c5
    have h := h.1 c5
    exact ⟨h, K⟩
  · intro c6
    have h := h.2 c6
    intro x8 e7
    have h := h x8 e7
    exact ⟨h, K⟩
theorem kf_X6_shield {Q : Int32 → HS → Prop} {v0 : Nat} {S : HS} (h : P_X6_shield v0 Q S) : P_X6_shield v0 (fun r T => Q r T ∧ K2 S T) S := kf_X6_shield_0 h (k2_rf S)
set_option maxRecDepth 20000 in
set_option maxHeartbeats 1000000 in
theorem kf_X1_isForward_0 {Q : Int32 → HS → Prop} {v0 : Nat} {v1 : Nat} {S0 S : HS} (h : P_X1_isForward_0 Q v0 v1 S) (K : K2 S0 S) : P_X1_isForward_0 (fun r T => Q r T ∧ K2 S0 T) v0 v1 S := by
  delta P_X1_isForward_0 at h ⊢
  obtain ⟨c1, h⟩ := h
  refine ⟨c1, ?_⟩
  have n2 := k2_ne K c1 (by decide)
  obtain ⟨b3, e4, h⟩ := h
  refine ⟨b3, e4, ?_⟩
  obtain ⟨c5, h⟩ := h
  refine ⟨c5, ?_⟩
  have n6 := k2_ne K c5 (by decide)
  obtain ⟨c7, h⟩ := h
  refine ⟨c7, ?_⟩
  intro x9 e8
  have h := h x9 e8
  obtain ⟨c10, h⟩ := h
  refine ⟨c10, ?_⟩
  have n11 := k2_ne K c10 (by decide)
  refine cm_X6_shield (kf_X6_shield h) h (fun x12 x13 hp h g14 => ?_)
  have h := h g14
  have K := k2_tr K hp.2
  intro x16 e15
  have h := h x16 e15
  intro x18 e17
  have h := h x18 e17
  intro x20 e19
  have h := h x20 e19
  obtain ⟨b21, e22, h⟩ := h
  refine ⟨b21, e22, ?_⟩
  obtain ⟨c23, h⟩ := h
  refine ⟨c23, ?_⟩
  have n24 := k2_ne K c23 (by decide)
  obtain ⟨c25, h⟩ := h
  refine ⟨c25, ?_⟩
  intro x27 e26
  have h := h x27 e26
  refine cm_X6_shield (kf_X6_shield h) h (fun x28 x29 hp h g30 => ?_)
  have h := h g30
  have K := k2_tr K hp.2
  intro x32 e31
  have h := h x32 e31
  intro x34 e33
  have h := h x34 e33
  intro x36 e35
  have h := h x36 e35
  refine ⟨?_, ?_⟩
  · intro c37
    have h := h.1 c37
    exact ⟨h, K⟩
  · intro c38
    have h := h.2 c38
    exact ⟨h, K⟩
theorem kf_X1_isForward {Q : Int32 → HS → Prop} {v0 : Nat} {v1 : Nat} {S : HS} (h : P_X1_isForward v0 v1 Q S) : P_X1_isForward v0 v1 (fun r T => Q r T ∧ K2 S T) S := kf_X1_isForward_0 h (k2_rf S)
set_option maxRecDepth 20000 in
set_option maxHeartbeats 1000000 in
theorem kf_X1_soak_35 {Q : Int64 → HS → Prop} {v0 : Nat} {v1 : Nat} {v2 : Int32} {v3 : Int32} {v5 : Int32} {s0 : Int32} {S0 S : HS} (h : P_X1_soak_35 Q v0 v1 v2 v3 v5 s0 S) (K : K2 S0 S) : P_X1_soak_35 (fun r T => Q r T ∧ K2 S0 T) v0 v1 v2 v3 v5 s0 S := by
  delta P_X1_soak_35 at h ⊢
  obtain ⟨c1, h⟩ := h
  refine ⟨c1, ?_⟩
  have n2 := k2_ne K c1 (by decide)
  obtain ⟨b3, e4, h⟩ := h
  refine ⟨b3, e4, ?_⟩
  obtain ⟨b5, e6, h⟩ := h
  refine ⟨b5, e6, ?_⟩
  obtain ⟨c7, h⟩ := h
  refine ⟨c7, ?_⟩
  have n8 := k2_ne K c7 (by decide)
  obtain ⟨c9, h⟩ := h
  refine ⟨c9, ?_⟩
  intro x11 e10
  have h := h x11 e10
  obtain ⟨c12, h⟩ := h
  refine ⟨c12, ?_⟩
  have n13 := k2_ne K c12 (by decide)
  intro x15 e14
  have h := h x15 e14
  intro x17 e16
  have h := h x17 e16
  obtain ⟨c18, h⟩ := h
  refine ⟨c18, ?_⟩
  have n19 := k2_ne K c18 (by decide)
  intro x21 e20
  have h := h x21 e20
  obtain ⟨c22, h⟩ := h
  refine ⟨c22, ?_⟩
  intro x24 e23
  have h := h x24 e23
  have K := k2_J K e23
  obtain ⟨b25, e26, h⟩ := h
  refine ⟨b25, e26, ?_⟩
  obtain ⟨b27, e28, h⟩ := h
  refine ⟨b27, e28, ?_⟩
  obtain ⟨c29, h⟩ := h
  refine ⟨c29, ?_⟩
  have n30 := k2_ne K c29 (by decide)
  obtain ⟨c31, h⟩ := h
  refine ⟨c31, ?_⟩
  intro x33 e32
  have h := h x33 e32
  intro x35 e34
  have h := h x35 e34
  intro x37 e36
  have h := h x37 e36
  obtain ⟨c38, h⟩ := h
  refine ⟨c38, ?_⟩
  have n39 := k2_ne K c38 (by decide)
  intro x41 e40
  have h := h x41 e40
  obtain ⟨c42, h⟩ := h
  refine ⟨c42, ?_⟩
  intro x44 e43
  have h := h x44 e43
  have K := k2_J K e43
  obtain ⟨b45, e46, h⟩ := h
  refine ⟨b45, e46, ?_⟩
  obtain ⟨b47, e48, h⟩ := h
  refine ⟨b47, e48, ?_⟩
  obtain ⟨c49, h⟩ := h
  refine ⟨c49, ?_⟩
  have n50 := k2_ne K c49 (by decide)
  obtain ⟨c51, h⟩ := h
  refine ⟨c51, ?_⟩
  intro x53 e52
  have h := h x53 e52
  intro x55 e54
  have h := h x55 e54
  intro x57 e56
  have h := h x57 e56
  obtain ⟨c58, h⟩ := h
  refine ⟨c58, ?_⟩
  have n59 := k2_ne K c58 (by decide)
  intro x61 e60
  have h := h x61 e60
  obtain ⟨c62, h⟩ := h
  refine ⟨c62, ?_⟩
  intro x64 e63
  have h := h x64 e63
  have K := k2_J K e63
  obtain ⟨b65, e66, h⟩ := h
  refine ⟨b65, e66, ?_⟩
  obtain ⟨b67, e68, h⟩ := h
  refine ⟨b67, e68, ?_⟩
  obtain ⟨c69, h⟩ := h
  refine ⟨c69, ?_⟩
  have n70 := k2_ne K c69 (by decide)
  obtain ⟨c71, h⟩ := h
  refine ⟨c71, ?_⟩
  intro x73 e72
  have h := h x73 e72
  intro x75 e74
  have h := h x75 e74
  obtain ⟨c76, h⟩ := h
  refine ⟨c76, ?_⟩
  have n77 := k2_ne K c76 (by decide)
  intro x79 e78
  have h := h x79 e78
  obtain ⟨c80, h⟩ := h
  refine ⟨c80, ?_⟩
  intro x82 e81
  have h := h x82 e81
  have K := k2_J K e81
  obtain ⟨b83, e84, h⟩ := h
  refine ⟨b83, e84, ?_⟩
  obtain ⟨b85, e86, h⟩ := h
  refine ⟨b85, e86, ?_⟩
  obtain ⟨c87, h⟩ := h
  refine ⟨c87, ?_⟩
  have n88 := k2_ne K c87 (by decide)
  obtain ⟨c89, h⟩ := h
  refine ⟨c89, ?_⟩
  intro x91 e90
  have h := h x91 e90
  intro x93 e92
  have h := h x93 e92
  obtain ⟨c94, h⟩ := h
  refine ⟨c94, ?_⟩
  have n95 := k2_ne K c94 (by decide)
  intro x97 e96
  have h := h x97 e96
  obtain ⟨c98, h⟩ := h
  refine ⟨c98, ?_⟩
  intro x100 e99
  have h := h x100 e99
  have K := k2_J K e99
  obtain ⟨b101, e102, h⟩ := h
  refine ⟨b101, e102, ?_⟩
  obtain ⟨c103, h⟩ := h
  refine ⟨c103, ?_⟩
  have n104 := k2_ne K c103 (by decide)
  obtain ⟨c105, h⟩ := h
  refine ⟨c105, ?_⟩
  intro x107 e106
  have h := h x107 e106
  obtain ⟨b108, e109, h⟩ := h
  refine ⟨b108, e109, ?_⟩
  obtain ⟨c110, h⟩ := h
  refine ⟨c110, ?_⟩
  have n111 := k2_ne K c110 (by decide)
  obtain ⟨c112, h⟩ := h
  refine ⟨c112, ?_⟩
  intro x114 e113
  have h := h x114 e113
  obtain ⟨b115, e116, h⟩ := h
  refine ⟨b115, e116, ?_⟩
  obtain ⟨c117, h⟩ := h
  refine ⟨c117, ?_⟩
  have n118 := k2_ne K c117 (by decide)
  obtain ⟨c119, h⟩ := h
  refine ⟨c119, ?_⟩
  intro x121 e120
  have h := h x121 e120
  obtain ⟨b122, e123, h⟩ := h
  refine ⟨b122, e123, ?_⟩
  obtain ⟨c124, h⟩ := h
  refine ⟨c124, ?_⟩
  have n125 := k2_ne K c124 (by decide)
  obtain ⟨c126, h⟩ := h
  refine ⟨c126, ?_⟩
  intro x128 e127
  have h := h x128 e127
  obtain ⟨b129, e130, h⟩ := h
  refine ⟨b129, e130, ?_⟩
  obtain ⟨c131, h⟩ := h
  refine ⟨c131, ?_⟩
  have n132 := k2_ne K c131 (by decide)
  obtain ⟨c133, h⟩ := h
  refine ⟨c133, ?_⟩
  intro x135 e134
  have h := h x135 e134
  exact ⟨h, K⟩
set_option maxRecDepth 20000 in
set_option maxHeartbeats 1000000 in
theorem kf_X1_soak_20 {Q : Int64 → HS → Prop} {v0 : Nat} {v1 : Nat} {v2 : Int32} {v3 : Int32} {v4 : Int32} {s0 : Int32} {S0 S : HS} (h : P_X1_soak_20 Q v0 v1 v2 v3 v4 s0 S) (K : K2 S0 S) : P_X1_soak_20 (fun r T => Q r T ∧ K2 S0 T) v0 v1 v2 v3 v4 s0 S := by
  delta P_X1_soak_20 at h ⊢
  refine ⟨?_, ?_⟩
  · intro c1
    have h := h.1 c1
    exact kf_X1_soak_35 h K
  · intro c2
    have h := h.2 c2
    obtain ⟨c3, h⟩ := h
    refine ⟨c3, ?_⟩
    have n4 := k2_ne K c3 (by decide)
    refine cm_X6_shield (kf_X6_shield h) h (fun x5 x6 hp h g7 => ?_)
    have h := h g7
    have K := k2_tr K hp.2
    exact kf_X1_soak_35 h K
set_option maxRecDepth 20000 in
set_option maxHeartbeats 1000000 in
theorem kf_X1_soak_0 {Q : Int64 → HS → Prop} {v0 : Nat} {v1 : Nat} {v2 : Int32} {v3 : Int32} {S0 S : HS} (h : P_X1_soak_0 Q v0 v1 v2 v3 S) (K : K2 S0 S) : P_X1_soak_0 (fun r T => Q r T ∧ K2 S0 T) v0 v1 v2 v3 S := by
  delta P_X1_soak_0 at h ⊢
  obtain ⟨c1, h⟩ := h
  refine ⟨c1, ?_⟩
  have n2 := k2_ne K c1 (by decide)
  refine cm_X1_isForward (kf_X1_isForward h) h (fun x3 x4 hp h g5 g6 => ?_)
  have h := h g5 g6
  have K := k2_tr K hp.2
  refine ⟨?_, ?_⟩
  · intro c7
    have h := h.1 c7
    obtain ⟨c8, h⟩ := h
    refine ⟨c8, ?_⟩
    have n9 := k2_ne K c8 (by decide)
    refine cm_X6_shield (kf_X6_shield h) h (fun x10 x11 hp h g12 => ?_)
    have h := h g12
    have K := k2_tr K hp.2
    exact kf_X1_soak_20 h K
  · intro c13
    have h := h.2 c13
    exact kf_X1_soak_20 h K
theorem kf_X1_soak {Q : Int64 → HS → Prop} {v0 : Nat} {v1 : Nat} {v2 : Int32} {v3 : Int32} {S : HS} (h : P_X1_soak v0 v1 v2 v3 Q S) : P_X1_soak v0 v1 v2 v3 (fun r T => Q r T ∧ K2 S T) S := kf_X1_soak_0 h (k2_rf S)
set_option maxRecDepth 20000 in
set_option maxHeartbeats 1000000 in
theorem kf_X1_wetOf_0 {Q : Int64 → HS → Prop} {v0 : Nat} {v1 : Nat} {v2 : Nat} {v3 : Int32} {v4 : Nat} {v5 : Int32} {S0 S : HS} (h : P_X1_wetOf_0 Q v0 v1 v2 v3 v4 v5 S) (K : K2 S0 S) : P_X1_wetOf_0 (fun r T => Q r T ∧ K2 S0 T) v0 v1 v2 v3 v4 v5 S := by
  delta P_X1_wetOf_0 at h ⊢
  obtain ⟨c1, h⟩ := h
  refine ⟨c1, ?_⟩
  have n2 := k2_ne K c1 (by decide)
  refine cm_X1_lay (kf_X1_lay h) h (fun x3 hp h g4 => ?_)
  have h := h g4
  have K := k2_tr K hp.2
  refine cm_X1_soak (kf_X1_soak h) h (fun x5 x6 hp h g7 => ?_)
  have h := h g7
  have K := k2_tr K hp.2
  exact ⟨h, K⟩
theorem kf_X1_wetOf {Q : Int64 → HS → Prop} {v0 : Nat} {v1 : Nat} {v2 : Nat} {v3 : Int32} {v4 : Nat} {v5 : Int32} {S : HS} (h : P_X1_wetOf v0 v1 v2 v3 v4 v5 Q S) : P_X1_wetOf v0 v1 v2 v3 v4 v5 (fun r T => Q r T ∧ K2 S T) S := kf_X1_wetOf_0 h (k2_rf S)
set_option maxRecDepth 20000 in
set_option maxHeartbeats 1000000 in
theorem kf_X1_bestSpeed_55 {Q : Int32 → HS → Prop} {X17 X17_2 : Nat → Nat → Nat → Int32 → Nat → Int32 → Int64 → Int32 → HS → Prop} {v0 : Nat} {v1 : Nat} {v2 : Nat} {v3 : Int32} {v4 : Nat} {v5 : Int32} {v6 : Int64} {v8 : Int32} {S0 S : HS} (h : P_X1_bestSpeed_55 Q X17 v0 v1 v2 v3 v4 v5 v6 v8 S) (K : K2 S0 S) (hX17 : ∀ (u0 : Nat) (u1 : Nat) (u2 : Nat) (u3 : Int32) (u4 : Nat) (u5 : Int32) (u6 : Int64) (u7 : Int32) (u8 : HS), X17 u0 u1 u2 u3 u4 u5 u6 u7 u8 → K2 S0 u8 → X17_2 u0 u1 u2 u3 u4 u5 u6 u7 u8) : P_X1_bestSpeed_55 (fun r T => Q r T ∧ K2 S0 T) X17_2 v0 v1 v2 v3 v4 v5 v6 v8 S := by
  delta P_X1_bestSpeed_55 at h ⊢
  intro x2 e1
  have h := h x2 e1
  exact hX17 _ _ _ _ _ _ _ _ _ h K
set_option maxRecDepth 20000 in
set_option maxHeartbeats 1000000 in
theorem kfB_X1_bestSpeed_17 {Q : Int32 → HS → Prop} {X17 X17_2 : Nat → Nat → Nat → Int32 → Nat → Int32 → Int64 → Int32 → HS → Prop} {v0 : Nat} {v1 : Nat} {v2 : Nat} {v3 : Int32} {v4 : Nat} {v5 : Int32} {v6 : Int64} {v8 : Int32} {S0 S : HS} (h : B_X1_bestSpeed_17 Q X17 v0 v1 v2 v3 v4 v5 v6 v8 S) (K : K2 S0 S) (hX17 : ∀ (u0 : Nat) (u1 : Nat) (u2 : Nat) (u3 : Int32) (u4 : Nat) (u5 : Int32) (u6 : Int64) (u7 : Int32) (u8 : HS), X17 u0 u1 u2 u3 u4 u5 u6 u7 u8 → K2 S0 u8 → X17_2 u0 u1 u2 u3 u4 u5 u6 u7 u8) : B_X1_bestSpeed_17 (fun r T => Q r T ∧ K2 S0 T) X17_2 v0 v1 v2 v3 v4 v5 v6 v8 S := by
  delta B_X1_bestSpeed_17 at h ⊢
  obtain ⟨c1, h⟩ := h
  refine ⟨c1, ?_⟩
  have n2 := k2_ne K c1 (by decide)
  intro x4 e3
  have h := h x4 e3
  refine ⟨?_, ?_⟩
  · intro c5
    have h := h.1 c5
    exact ⟨h, K⟩
  · intro c6
    have h := h.2 c6
    obtain ⟨c7, h⟩ := h
    refine ⟨c7, ?_⟩
    have n8 := k2_ne K c7 (by decide)
    refine cm_X1_wetOf (kf_X1_wetOf h) h (fun x9 x10 hp h g11 => ?_)
    have h := h g11
    have K := k2_tr K hp.2
    refine ⟨?_, ?_⟩
    · intro c12
      have h := h.1 c12
      exact kf_X1_bestSpeed_55 h K hX17
    · intro c13
      have h := h.2 c13
      exact kf_X1_bestSpeed_55 h K hX17
theorem kf_X1_bestSpeed_17 {Q : Int32 → HS → Prop} {v0 : Nat} {v1 : Nat} {v2 : Nat} {v3 : Int32} {v4 : Nat} {v5 : Int32} {v6 : Int64} {v8 : Int32} {S0 S : HS} (h : P_X1_bestSpeed_17 Q v0 v1 v2 v3 v4 v5 v6 v8 S) (K : K2 S0 S) : P_X1_bestSpeed_17 (fun r T => Q r T ∧ K2 S0 T) v0 v1 v2 v3 v4 v5 v6 v8 S := h (fun v0 v1 v2 v3 v4 v5 v6 v8 S => K2 S0 S → P_X1_bestSpeed_17 (fun r T => Q r T ∧ K2 S0 T) v0 v1 v2 v3 v4 v5 v6 v8 S) (fun v0 v1 v2 v3 v4 v5 v6 v8 S hB K => fd_X1_bestSpeed_17 (kfB_X1_bestSpeed_17 hB K (fun _ _ _ _ _ _ _ _ _ hx K => hx K))) K
set_option maxRecDepth 20000 in
set_option maxHeartbeats 1000000 in
theorem kf_X1_bestSpeed_0 {Q : Int32 → HS → Prop} {v0 : Nat} {v1 : Nat} {v2 : Nat} {v3 : Int32} {v4 : Nat} {S0 S : HS} (h : P_X1_bestSpeed_0 Q v0 v1 v2 v3 v4 S) (K : K2 S0 S) : P_X1_bestSpeed_0 (fun r T => Q r T ∧ K2 S0 T) v0 v1 v2 v3 v4 S := by
  delta P_X1_bestSpeed_0 at h ⊢
  obtain ⟨c1, h⟩ := h
  refine ⟨c1, ?_⟩
  have n2 := k2_ne K c1 (by decide)
  intro x4 e3
  have h := h x4 e3
  intro x6 e5
  have h := h x6 e5
  exact kf_X1_bestSpeed_17 h K
theorem kf_X1_bestSpeed {Q : Int32 → HS → Prop} {v0 : Nat} {v1 : Nat} {v2 : Nat} {v3 : Int32} {v4 : Nat} {S : HS} (h : P_X1_bestSpeed v0 v1 v2 v3 v4 Q S) : P_X1_bestSpeed v0 v1 v2 v3 v4 (fun r T => Q r T ∧ K2 S T) S := kf_X1_bestSpeed_0 h (k2_rf S)
set_option maxRecDepth 20000 in
set_option maxHeartbeats 1000000 in
theorem kf_X1_legsOf_0 {Q : Int32 → HS → Prop} {v0 : Nat} {S0 S : HS} (h : P_X1_legsOf_0 Q v0 S) (K : K2 S0 S) : P_X1_legsOf_0 (fun r T => Q r T ∧ K2 S0 T) v0 S := by
  delta P_X1_legsOf_0 at h ⊢
  obtain ⟨c1, h⟩ := h
  refine ⟨c1, ?_⟩
  have n2 := k2_ne K c1 (by decide)
  intro x4 e3
  have h := h x4 e3
  intro x6 e5
  have h := h x6 e5
  exact ⟨h, K⟩
theorem kf_X1_legsOf {Q : Int32 → HS → Prop} {v0 : Nat} {S : HS} (h : P_X1_legsOf v0 Q S) : P_X1_legsOf v0 (fun r T => Q r T ∧ K2 S T) S := kf_X1_legsOf_0 h (k2_rf S)
set_option maxRecDepth 20000 in
set_option maxHeartbeats 1000000 in
theorem kf_X6_canGo_0 {Q : Int32 → HS → Prop} {v0 : Nat} {v1 : Int32} {S0 S : HS} (h : P_X6_canGo_0 Q v0 v1 S) (K : K2 S0 S) : P_X6_canGo_0 (fun r T => Q r T ∧ K2 S0 T) v0 v1 S := by
  delta P_X6_canGo_0 at h ⊢
  obtain ⟨c1, h⟩ := h
  refine ⟨c1, ?_⟩
  have n2 := k2_ne K c1 (by decide)
  intro x4 e3
  have h := h x4 e3
  refine ⟨?_, ?_⟩
  · intro c5
    have h := h.1 c5
    exact ⟨h, K⟩
  · intro c6
    have h := h.2 c6
    intro x8 e7
    have h := h x8 e7
    refine ⟨?_, ?_⟩
    · intro c9
      have h := h.1 c9
      exact ⟨h, K⟩
    · intro c10
      have h := h.2 c10
      refine ⟨?_, ?_⟩
      · intro c11
        have h := h.1 c11
        exact ⟨h, K⟩
      · intro c12
        have h := h.2 c12
        refine ⟨?_, ?_⟩
        · intro c13
          have h := h.1 c13
          exact ⟨h, K⟩
        · intro c14
          have h := h.2 c14
          exact ⟨h, K⟩
theorem kf_X6_canGo {Q : Int32 → HS → Prop} {v0 : Nat} {v1 : Int32} {S : HS} (h : P_X6_canGo v0 v1 Q S) : P_X6_canGo v0 v1 (fun r T => Q r T ∧ K2 S T) S := kf_X6_canGo_0 h (k2_rf S)
set_option maxRecDepth 20000 in
set_option maxHeartbeats 1000000 in
theorem kf_X8_hasRoad_0 {Q : Int32 → HS → Prop} {v0 : Nat} {v1 : Int32} {S0 S : HS} (h : P_X8_hasRoad_0 Q v0 v1 S) (K : K2 S0 S) : P_X8_hasRoad_0 (fun r T => Q r T ∧ K2 S0 T) v0 v1 S := by
  delta P_X8_hasRoad_0 at h ⊢
  refine ⟨?_, ?_⟩
  · intro c1
    have h := h.1 c1
    exact ⟨h, K⟩
  · intro c2
    have h := h.2 c2
    obtain ⟨c3, h⟩ := h
    refine ⟨c3, ?_⟩
    have n4 := k2_ne K c3 (by decide)
    intro x6 e5
    have h := h x6 e5
    refine ⟨?_, ?_⟩
    · intro c7
      have h := h.1 c7
      exact ⟨h, K⟩
    · intro c8
      have h := h.2 c8
      obtain ⟨b9, e10, h⟩ := h
      refine ⟨b9, e10, ?_⟩
      obtain ⟨c11, h⟩ := h
      refine ⟨c11, ?_⟩
      have n12 := k2_ne K c11 (by decide)
      refine ⟨?_, ?_⟩
      · intro c13
        have h := h.1 c13
        exact ⟨h, K⟩
      · intro c14
        have h := h.2 c14
        exact ⟨h, K⟩
theorem kf_X8_hasRoad {Q : Int32 → HS → Prop} {v0 : Nat} {v1 : Int32} {S : HS} (h : P_X8_hasRoad v0 v1 Q S) : P_X8_hasRoad v0 v1 (fun r T => Q r T ∧ K2 S T) S := kf_X8_hasRoad_0 h (k2_rf S)
set_option maxRecDepth 20000 in
set_option maxHeartbeats 1000000 in
theorem kf_X8_hasSeen_0 {Q : Int32 → HS → Prop} {v0 : Nat} {v1 : Int32} {S0 S : HS} (h : P_X8_hasSeen_0 Q v0 v1 S) (K : K2 S0 S) : P_X8_hasSeen_0 (fun r T => Q r T ∧ K2 S0 T) v0 v1 S := by
  delta P_X8_hasSeen_0 at h ⊢
  refine ⟨?_, ?_⟩
  · intro c1
    have h := h.1 c1
    exact ⟨h, K⟩
  · intro c2
    have h := h.2 c2
    obtain ⟨c3, h⟩ := h
    refine ⟨c3, ?_⟩
    have n4 := k2_ne K c3 (by decide)
    intro x6 e5
    have h := h x6 e5
    refine ⟨?_, ?_⟩
    · intro c7
      have h := h.1 c7
      exact ⟨h, K⟩
    · intro c8
      have h := h.2 c8
      obtain ⟨b9, e10, h⟩ := h
      refine ⟨b9, e10, ?_⟩
      obtain ⟨c11, h⟩ := h
      refine ⟨c11, ?_⟩
      have n12 := k2_ne K c11 (by decide)
      refine ⟨?_, ?_⟩
      · intro c13
        have h := h.1 c13
        exact ⟨h, K⟩
      · intro c14
        have h := h.2 c14
        exact ⟨h, K⟩
theorem kf_X8_hasSeen {Q : Int32 → HS → Prop} {v0 : Nat} {v1 : Int32} {S : HS} (h : P_X8_hasSeen v0 v1 Q S) : P_X8_hasSeen v0 v1 (fun r T => Q r T ∧ K2 S T) S := kf_X8_hasSeen_0 h (k2_rf S)
set_option maxRecDepth 20000 in
set_option maxHeartbeats 1000000 in
theorem kf_X8_hasWalker_0 {Q : Int32 → HS → Prop} {v0 : Nat} {v1 : Int32} {S0 S : HS} (h : P_X8_hasWalker_0 Q v0 v1 S) (K : K2 S0 S) : P_X8_hasWalker_0 (fun r T => Q r T ∧ K2 S0 T) v0 v1 S := by
  delta P_X8_hasWalker_0 at h ⊢
  refine ⟨?_, ?_⟩
  · intro c1
    have h := h.1 c1
    exact ⟨h, K⟩
  · intro c2
    have h := h.2 c2
    obtain ⟨c3, h⟩ := h
    refine ⟨c3, ?_⟩
    have n4 := k2_ne K c3 (by decide)
    intro x6 e5
    have h := h x6 e5
    refine ⟨?_, ?_⟩
    · intro c7
      have h := h.1 c7
      exact ⟨h, K⟩
    · intro c8
      have h := h.2 c8
      obtain ⟨b9, e10, h⟩ := h
      refine ⟨b9, e10, ?_⟩
      obtain ⟨c11, h⟩ := h
      refine ⟨c11, ?_⟩
      have n12 := k2_ne K c11 (by decide)
      refine ⟨?_, ?_⟩
      · intro c13
        have h := h.1 c13
        exact ⟨h, K⟩
      · intro c14
        have h := h.2 c14
        exact ⟨h, K⟩
theorem kf_X8_hasWalker {Q : Int32 → HS → Prop} {v0 : Nat} {v1 : Int32} {S : HS} (h : P_X8_hasWalker v0 v1 Q S) : P_X8_hasWalker v0 v1 (fun r T => Q r T ∧ K2 S T) S := kf_X8_hasWalker_0 h (k2_rf S)
set_option maxRecDepth 20000 in
set_option maxHeartbeats 1000000 in
theorem kfB_X1_fitCode_141 {Q : Int32 → HS → Prop} {X141 X141_2 : Nat → Nat → Int32 → Int32 → Int32 → Int32 → Int32 → HS → Prop} {v0 : Nat} {v1 : Nat} {v2 : Int32} {v4 : Int32} {v5 : Int32} {v6 : Int32} {v8 : Int32} {S0 S : HS} (h : B_X1_fitCode_141 Q X141 v0 v1 v2 v4 v5 v6 v8 S) (K : K2 S0 S) (hX141 : ∀ (u0 : Nat) (u1 : Nat) (u2 : Int32) (u3 : Int32) (u4 : Int32) (u5 : Int32) (u6 : Int32) (u7 : HS), X141 u0 u1 u2 u3 u4 u5 u6 u7 → K2 S0 u7 → X141_2 u0 u1 u2 u3 u4 u5 u6 u7) : B_X1_fitCode_141 (fun r T => Q r T ∧ K2 S0 T) X141_2 v0 v1 v2 v4 v5 v6 v8 S := by
  delta B_X1_fitCode_141 at h ⊢
  refine ⟨?_, ?_⟩
  · intro c1
    have h := h.1 c1
    intro x3 e2
    have h := h x3 e2
    intro x5 e4
    have h := h x5 e4
    exact ⟨h, K⟩
  · intro c6
    have h := h.2 c6
    obtain ⟨c7, h⟩ := h
    refine ⟨c7, ?_⟩
    have n8 := k2_ne K c7 (by decide)
    obtain ⟨b9, e10, h⟩ := h
    refine ⟨b9, e10, ?_⟩
    obtain ⟨c11, h⟩ := h
    refine ⟨c11, ?_⟩
    have n12 := k2_ne K c11 (by decide)
    obtain ⟨c13, h⟩ := h
    refine ⟨c13, ?_⟩
    intro x15 e14
    have h := h x15 e14
    obtain ⟨c16, h⟩ := h
    refine ⟨c16, ?_⟩
    have n17 := k2_ne K c16 (by decide)
    obtain ⟨b18, e19, h⟩ := h
    refine ⟨b18, e19, ?_⟩
    obtain ⟨c20, h⟩ := h
    refine ⟨c20, ?_⟩
    have n21 := k2_ne K c20 (by decide)
    intro x23 e22
    have h := h x23 e22
    obtain ⟨c24, h⟩ := h
    refine ⟨c24, ?_⟩
    intro x26 e25
    have h := h x26 e25
    refine ⟨?_, ?_⟩
    · intro c27
      have h := h.1 c27
      intro x29 e28
      have h := h x29 e28
      exact hX141 _ _ _ _ _ _ _ _ h K
    · intro c30
      have h := h.2 c30
      exact ⟨h, K⟩
theorem kf_X1_fitCode_141 {Q : Int32 → HS → Prop} {v0 : Nat} {v1 : Nat} {v2 : Int32} {v4 : Int32} {v5 : Int32} {v6 : Int32} {v8 : Int32} {S0 S : HS} (h : P_X1_fitCode_141 Q v0 v1 v2 v4 v5 v6 v8 S) (K : K2 S0 S) : P_X1_fitCode_141 (fun r T => Q r T ∧ K2 S0 T) v0 v1 v2 v4 v5 v6 v8 S := h (fun v0 v1 v2 v4 v5 v6 v8 S => K2 S0 S → P_X1_fitCode_141 (fun r T => Q r T ∧ K2 S0 T) v0 v1 v2 v4 v5 v6 v8 S) (fun v0 v1 v2 v4 v5 v6 v8 S hB K => fd_X1_fitCode_141 (kfB_X1_fitCode_141 hB K (fun _ _ _ _ _ _ _ _ hx K => hx K))) K
set_option maxRecDepth 20000 in
set_option maxHeartbeats 1000000 in
theorem kf_X1_fitCode_0 {Q : Int32 → HS → Prop} {v0 : Nat} {v1 : Nat} {v2 : Int32} {v3 : Int32} {S0 S : HS} (h : P_X1_fitCode_0 Q v0 v1 v2 v3 S) (K : K2 S0 S) : P_X1_fitCode_0 (fun r T => Q r T ∧ K2 S0 T) v0 v1 v2 v3 S := by
  delta P_X1_fitCode_0 at h ⊢
  refine ⟨?_, ?_⟩
  · intro c1
    have h := h.1 c1
    exact ⟨h, K⟩
  · intro c2
    have h := h.2 c2
    refine cm_X1_legsOf (kf_X1_legsOf h) h (fun x3 x4 hp h g5 => ?_)
    have h := h g5
    have K := k2_tr K hp.2
    refine ⟨?_, ?_⟩
    · intro c6
      have h := h.1 c6
      exact ⟨h, K⟩
    · intro c7
      have h := h.2 c7
      obtain ⟨c8, h⟩ := h
      refine ⟨c8, ?_⟩
      have n9 := k2_ne K c8 (by decide)
      refine cm_X8_hasSeen (kf_X8_hasSeen h) h (fun x10 x11 hp h g12 g13 => ?_)
      have h := h g12 g13
      have K := k2_tr K hp.2
      refine ⟨?_, ?_⟩
      · intro c14
        have h := h.1 c14
        exact ⟨h, K⟩
      · intro c15
        have h := h.2 c15
        intro x17 e16
        have h := h x17 e16
        refine ⟨?_, ?_⟩
        · intro c18
          have h := h.1 c18
          intro x20 e19
          have h := h x20 e19
          intro x22 e21
          have h := h x22 e21
          intro x24 e23
          have h := h x24 e23
          intro x26 e25
          have h := h x26 e25
          obtain ⟨c27, h⟩ := h
          refine ⟨c27, ?_⟩
          intro x29 e28
          have h := h x29 e28
          intro x31 e30
          have h := h x31 e30
          intro x33 e32
          have h := h x33 e32
          obtain ⟨c34, h⟩ := h
          refine ⟨c34, ?_⟩
          intro x36 e35
          have h := h x36 e35
          obtain ⟨b37, e38, h⟩ := h
          refine ⟨b37, e38, ?_⟩
          obtain ⟨c39, h⟩ := h
          refine ⟨c39, ?_⟩
          have n40 := k2_ne K c39 (by decide)
          obtain ⟨c41, h⟩ := h
          refine ⟨c41, ?_⟩
          intro x43 e42
          have h := h x43 e42
          refine cm_X8_hasWalker (kf_X8_hasWalker h) h (fun x44 x45 hp h g46 g47 => ?_)
          have h := h g46 g47
          have K := k2_tr K hp.2
          refine ⟨?_, ?_⟩
          · intro c48
            have h := h.1 c48
            exact ⟨h, K⟩
          · intro c49
            have h := h.2 c49
            intro x51 e50
            have h := h x51 e50
            refine cm_X8_hasRoad (kf_X8_hasRoad h) h (fun x52 x53 hp h g54 g55 => ?_)
            have h := h g54 g55
            have K := k2_tr K hp.2
            refine ⟨?_, ?_⟩
            · intro c56
              have h := h.1 c56
              exact ⟨h, K⟩
            · intro c57
              have h := h.2 c57
              obtain ⟨b58, e59, h⟩ := h
              refine ⟨b58, e59, ?_⟩
              obtain ⟨c60, h⟩ := h
              refine ⟨c60, ?_⟩
              have n61 := k2_ne K c60 (by decide)
              obtain ⟨c62, h⟩ := h
              refine ⟨c62, ?_⟩
              obtain ⟨b63, e64, h⟩ := h
              refine ⟨b63, e64, ?_⟩
              obtain ⟨c65, h⟩ := h
              refine ⟨c65, ?_⟩
              have n66 := k2_ne K c65 (by decide)
              refine cm_X6_canGo (kf_X6_canGo h) h (fun x67 x68 hp h g69 g70 => ?_)
              have h := h g69 g70
              have K := k2_tr K hp.2
              refine ⟨?_, ?_⟩
              · intro c71
                have h := h.1 c71
                obtain ⟨b72, e73, h⟩ := h
                refine ⟨b72, e73, ?_⟩
                obtain ⟨c74, h⟩ := h
                refine ⟨c74, ?_⟩
                have n75 := k2_ne K c74 (by decide)
                obtain ⟨c76, h⟩ := h
                refine ⟨c76, ?_⟩
                obtain ⟨b77, e78, h⟩ := h
                refine ⟨b77, e78, ?_⟩
                obtain ⟨b79, e80, h⟩ := h
                refine ⟨b79, e80, ?_⟩
                intro x82 e81
                have h := h x82 e81
                obtain ⟨c83, h⟩ := h
                refine ⟨c83, ?_⟩
                have n84 := k2_ne K c83 (by decide)
                obtain ⟨c85, h⟩ := h
                refine ⟨c85, ?_⟩
                obtain ⟨b86, e87, h⟩ := h
                refine ⟨b86, e87, ?_⟩
                intro x89 e88
                have h := h x89 e88
                obtain ⟨b90, e91, h⟩ := h
                refine ⟨b90, e91, ?_⟩
                obtain ⟨c92, h⟩ := h
                refine ⟨c92, ?_⟩
                have n93 := k2_ne K c92 (by decide)
                obtain ⟨c94, h⟩ := h
                refine ⟨c94, ?_⟩
                obtain ⟨b95, e96, h⟩ := h
                refine ⟨b95, e96, ?_⟩
                obtain ⟨c97, h⟩ := h
                refine ⟨c97, ?_⟩
                have n98 := k2_ne K c97 (by decide)
                refine cm_X1_wetOf (kf_X1_wetOf h) h (fun x99 x100 hp h g101 => ?_)
                have h := h g101
                have K := k2_tr K hp.2
                exact kf_X1_fitCode_141 h K
              · intro c102
                have h := h.2 c102
                exact ⟨h, K⟩
        · intro c103
          have h := h.2 c103
          exact ⟨h, K⟩
theorem kf_X1_fitCode {Q : Int32 → HS → Prop} {v0 : Nat} {v1 : Nat} {v2 : Int32} {v3 : Int32} {S : HS} (h : P_X1_fitCode v0 v1 v2 v3 Q S) : P_X1_fitCode v0 v1 v2 v3 (fun r T => Q r T ∧ K2 S T) S := kf_X1_fitCode_0 h (k2_rf S)
set_option maxRecDepth 20000 in
set_option maxHeartbeats 1000000 in
theorem kf_X1_countFits_29 {Q : Int32 → HS → Prop} {X5 X5_2 : Nat → Nat → Int32 → Int32 → Int32 → HS → Prop} {v0 : Nat} {v1 : Nat} {v2 : Int32} {v3 : Int32} {v4 : Int32} {S0 S : HS} (h : P_X1_countFits_29 Q X5 v0 v1 v2 v3 v4 S) (K : K2 S0 S) (hX5 : ∀ (u0 : Nat) (u1 : Nat) (u2 : Int32) (u3 : Int32) (u4 : Int32) (u5 : HS), X5 u0 u1 u2 u3 u4 u5 → K2 S0 u5 → X5_2 u0 u1 u2 u3 u4 u5) : P_X1_countFits_29 (fun r T => Q r T ∧ K2 S0 T) X5_2 v0 v1 v2 v3 v4 S := by
  delta P_X1_countFits_29 at h ⊢
  intro x2 e1
  have h := h x2 e1
  exact hX5 _ _ _ _ _ _ h K
set_option maxRecDepth 20000 in
set_option maxHeartbeats 1000000 in
theorem kfB_X1_countFits_5 {Q : Int32 → HS → Prop} {X5 X5_2 : Nat → Nat → Int32 → Int32 → Int32 → HS → Prop} {v0 : Nat} {v1 : Nat} {v2 : Int32} {v3 : Int32} {v4 : Int32} {S0 S : HS} (h : B_X1_countFits_5 Q X5 v0 v1 v2 v3 v4 S) (K : K2 S0 S) (hX5 : ∀ (u0 : Nat) (u1 : Nat) (u2 : Int32) (u3 : Int32) (u4 : Int32) (u5 : HS), X5 u0 u1 u2 u3 u4 u5 → K2 S0 u5 → X5_2 u0 u1 u2 u3 u4 u5) : B_X1_countFits_5 (fun r T => Q r T ∧ K2 S0 T) X5_2 v0 v1 v2 v3 v4 S := by
  delta B_X1_countFits_5 at h ⊢
  refine cm_X1_legsOf (kf_X1_legsOf h) h (fun x1 x2 hp h g3 => ?_)
  have h := h g3
  have K := k2_tr K hp.2
  refine ⟨?_, ?_⟩
  · intro c4
    have h := h.1 c4
    exact ⟨h, K⟩
  · intro c5
    have h := h.2 c5
    obtain ⟨c6, h⟩ := h
    refine ⟨c6, ?_⟩
    have n7 := k2_ne K c6 (by decide)
    refine cm_X1_fitCode (kf_X1_fitCode h) h (fun x8 x9 hp h g10 => ?_)
    have h := h g10
    have K := k2_tr K hp.2
    refine ⟨?_, ?_⟩
    · intro c11
      have h := h.1 c11
      exact kf_X1_countFits_29 h K hX5
    · intro c12
      have h := h.2 c12
      intro x14 e13
      have h := h x14 e13
      exact kf_X1_countFits_29 h K hX5
theorem kf_X1_countFits_5 {Q : Int32 → HS → Prop} {v0 : Nat} {v1 : Nat} {v2 : Int32} {v3 : Int32} {v4 : Int32} {S0 S : HS} (h : P_X1_countFits_5 Q v0 v1 v2 v3 v4 S) (K : K2 S0 S) : P_X1_countFits_5 (fun r T => Q r T ∧ K2 S0 T) v0 v1 v2 v3 v4 S := h (fun v0 v1 v2 v3 v4 S => K2 S0 S → P_X1_countFits_5 (fun r T => Q r T ∧ K2 S0 T) v0 v1 v2 v3 v4 S) (fun v0 v1 v2 v3 v4 S hB K => fd_X1_countFits_5 (kfB_X1_countFits_5 hB K (fun _ _ _ _ _ _ hx K => hx K))) K
set_option maxRecDepth 20000 in
set_option maxHeartbeats 1000000 in
theorem kf_X1_countFits_0 {Q : Int32 → HS → Prop} {v0 : Nat} {v1 : Nat} {v2 : Int32} {S0 S : HS} (h : P_X1_countFits_0 Q v0 v1 v2 S) (K : K2 S0 S) : P_X1_countFits_0 (fun r T => Q r T ∧ K2 S0 T) v0 v1 v2 S := by
  delta P_X1_countFits_0 at h ⊢
  exact kf_X1_countFits_5 h K
theorem kf_X1_countFits {Q : Int32 → HS → Prop} {v0 : Nat} {v1 : Nat} {v2 : Int32} {S : HS} (h : P_X1_countFits v0 v1 v2 Q S) : P_X1_countFits v0 v1 v2 (fun r T => Q r T ∧ K2 S T) S := kf_X1_countFits_0 h (k2_rf S)
set_option maxRecDepth 20000 in
set_option maxHeartbeats 1000000 in
theorem kf_X1_findFit_48 {Q : Int32 → HS → Prop} {X6 X6_2 : Nat → Nat → Int32 → Int32 → Int32 → HS → Prop} {v0 : Nat} {v1 : Nat} {v2 : Int32} {v4 : Int32} {v5 : Int32} {S0 S : HS} (h : P_X1_findFit_48 Q X6 v0 v1 v2 v4 v5 S) (K : K2 S0 S) (hX6 : ∀ (u0 : Nat) (u1 : Nat) (u2 : Int32) (u3 : Int32) (u4 : Int32) (u5 : HS), X6 u0 u1 u2 u3 u4 u5 → K2 S0 u5 → X6_2 u0 u1 u2 u3 u4 u5) : P_X1_findFit_48 (fun r T => Q r T ∧ K2 S0 T) X6_2 v0 v1 v2 v4 v5 S := by
  delta P_X1_findFit_48 at h ⊢
  intro x2 e1
  have h := h x2 e1
  exact hX6 _ _ _ _ _ _ h K
set_option maxRecDepth 20000 in
set_option maxHeartbeats 1000000 in
theorem kf_X1_findFit_39 {Q : Int32 → HS → Prop} {X6 X6_2 : Nat → Nat → Int32 → Int32 → Int32 → HS → Prop} {v0 : Nat} {v1 : Nat} {v2 : Int32} {v4 : Int32} {v5 : Int32} {v6 : Int32} {S0 S : HS} (h : P_X1_findFit_39 Q X6 v0 v1 v2 v4 v5 v6 S) (K : K2 S0 S) (hX6 : ∀ (u0 : Nat) (u1 : Nat) (u2 : Int32) (u3 : Int32) (u4 : Int32) (u5 : HS), X6 u0 u1 u2 u3 u4 u5 → K2 S0 u5 → X6_2 u0 u1 u2 u3 u4 u5) : P_X1_findFit_39 (fun r T => Q r T ∧ K2 S0 T) X6_2 v0 v1 v2 v4 v5 v6 S := by
  delta P_X1_findFit_39 at h ⊢
  refine ⟨?_, ?_⟩
  · intro c1
    have h := h.1 c1
    exact kf_X1_findFit_48 h K hX6
  · intro c2
    have h := h.2 c2
    intro x4 e3
    have h := h x4 e3
    exact kf_X1_findFit_48 h K hX6
set_option maxRecDepth 20000 in
set_option maxHeartbeats 1000000 in
theorem kfB_X1_findFit_6 {Q : Int32 → HS → Prop} {X6 X6_2 : Nat → Nat → Int32 → Int32 → Int32 → HS → Prop} {v0 : Nat} {v1 : Nat} {v2 : Int32} {v4 : Int32} {v5 : Int32} {S0 S : HS} (h : B_X1_findFit_6 Q X6 v0 v1 v2 v4 v5 S) (K : K2 S0 S) (hX6 : ∀ (u0 : Nat) (u1 : Nat) (u2 : Int32) (u3 : Int32) (u4 : Int32) (u5 : HS), X6 u0 u1 u2 u3 u4 u5 → K2 S0 u5 → X6_2 u0 u1 u2 u3 u4 u5) : B_X1_findFit_6 (fun r T => Q r T ∧ K2 S0 T) X6_2 v0 v1 v2 v4 v5 S := by
  delta B_X1_findFit_6 at h ⊢
  refine cm_X1_legsOf (kf_X1_legsOf h) h (fun x1 x2 hp h g3 => ?_)
  have h := h g3
  have K := k2_tr K hp.2
  refine ⟨?_, ?_⟩
  · intro c4
    have h := h.1 c4
    exact ⟨h, K⟩
  · intro c5
    have h := h.2 c5
    obtain ⟨c6, h⟩ := h
    refine ⟨c6, ?_⟩
    have n7 := k2_ne K c6 (by decide)
    refine cm_X1_fitCode (kf_X1_fitCode h) h (fun x8 x9 hp h g10 => ?_)
    have h := h g10
    have K := k2_tr K hp.2
    refine ⟨?_, ?_⟩
    · intro c11
      have h := h.1 c11
      exact kf_X1_findFit_39 h K hX6
    · intro c12
      have h := h.2 c12
      refine ⟨?_, ?_⟩
      · intro c13
        have h := h.1 c13
        exact kf_X1_findFit_39 h K hX6
      · intro c14
        have h := h.2 c14
        exact ⟨h, K⟩
theorem kf_X1_findFit_6 {Q : Int32 → HS → Prop} {v0 : Nat} {v1 : Nat} {v2 : Int32} {v4 : Int32} {v5 : Int32} {S0 S : HS} (h : P_X1_findFit_6 Q v0 v1 v2 v4 v5 S) (K : K2 S0 S) : P_X1_findFit_6 (fun r T => Q r T ∧ K2 S0 T) v0 v1 v2 v4 v5 S := h (fun v0 v1 v2 v4 v5 S => K2 S0 S → P_X1_findFit_6 (fun r T => Q r T ∧ K2 S0 T) v0 v1 v2 v4 v5 S) (fun v0 v1 v2 v4 v5 S hB K => fd_X1_findFit_6 (kfB_X1_findFit_6 hB K (fun _ _ _ _ _ _ hx K => hx K))) K
set_option maxRecDepth 20000 in
set_option maxHeartbeats 1000000 in
theorem kf_X1_findFit_0 {Q : Int32 → HS → Prop} {v0 : Nat} {v1 : Nat} {v2 : Int32} {v3 : Int32} {S0 S : HS} (h : P_X1_findFit_0 Q v0 v1 v2 v3 S) (K : K2 S0 S) : P_X1_findFit_0 (fun r T => Q r T ∧ K2 S0 T) v0 v1 v2 v3 S := by
  delta P_X1_findFit_0 at h ⊢
  exact kf_X1_findFit_6 h K
theorem kf_X1_findFit {Q : Int32 → HS → Prop} {v0 : Nat} {v1 : Nat} {v2 : Int32} {v3 : Int32} {S : HS} (h : P_X1_findFit v0 v1 v2 v3 Q S) : P_X1_findFit v0 v1 v2 v3 (fun r T => Q r T ∧ K2 S T) S := kf_X1_findFit_0 h (k2_rf S)
set_option maxRecDepth 20000 in
set_option maxHeartbeats 1000000 in
theorem kf_X1_leastWet_0 {Q : Int64 → HS → Prop} {v0 : Nat} {v1 : Nat} {v2 : Nat} {v3 : Int32} {v4 : Nat} {S0 S : HS} (h : P_X1_leastWet_0 Q v0 v1 v2 v3 v4 S) (K : K2 S0 S) : P_X1_leastWet_0 (fun r T => Q r T ∧ K2 S0 T) v0 v1 v2 v3 v4 S := by
  delta P_X1_leastWet_0 at h ⊢
  obtain ⟨c1, h⟩ := h
  refine ⟨c1, ?_⟩
  have n2 := k2_ne K c1 (by decide)
  refine cm_X1_bestSpeed (kf_X1_bestSpeed h) h (fun x3 x4 hp h g5 => ?_)
  have h := h g5
  have K := k2_tr K hp.2
  refine cm_X1_wetOf (kf_X1_wetOf h) h (fun x6 x7 hp h g8 => ?_)
  have h := h g8
  have K := k2_tr K hp.2
  exact ⟨h, K⟩
theorem kf_X1_leastWet {Q : Int64 → HS → Prop} {v0 : Nat} {v1 : Nat} {v2 : Nat} {v3 : Int32} {v4 : Nat} {S : HS} (h : P_X1_leastWet v0 v1 v2 v3 v4 Q S) : P_X1_leastWet v0 v1 v2 v3 v4 (fun r T => Q r T ∧ K2 S T) S := kf_X1_leastWet_0 h (k2_rf S)
set_option maxRecDepth 20000 in
set_option maxHeartbeats 1000000 in
theorem kf_X1_wetInLee_0 {Q : Int64 → HS → Prop} {v0 : Nat} {v1 : Nat} {v2 : Nat} {S0 S : HS} (h : P_X1_wetInLee_0 Q v0 v1 v2 S) (K : K2 S0 S) : P_X1_wetInLee_0 (fun r T => Q r T ∧ K2 S0 T) v0 v1 v2 S := by
  delta P_X1_wetInLee_0 at h ⊢
  obtain ⟨c1, h⟩ := h
  refine ⟨c1, ?_⟩
  have n2 := k2_ne K c1 (by decide)
  intro x4 e3
  have h := h x4 e3
  obtain ⟨c5, h⟩ := h
  refine ⟨c5, ?_⟩
  have n6 := k2_ne K c5 (by decide)
  refine cm_X1_soak (kf_X1_soak h) h (fun x7 x8 hp h g9 => ?_)
  have h := h g9
  have K := k2_tr K hp.2
  obtain ⟨c10, h⟩ := h
  refine ⟨c10, ?_⟩
  have n11 := k2_ne K c10 (by decide)
  intro x13 e12
  have h := h x13 e12
  refine cm_X1_soak (kf_X1_soak h) h (fun x14 x15 hp h g16 => ?_)
  have h := h g16
  have K := k2_tr K hp.2
  exact ⟨h, K⟩
theorem kf_X1_wetInLee {Q : Int64 → HS → Prop} {v0 : Nat} {v1 : Nat} {v2 : Nat} {S : HS} (h : P_X1_wetInLee v0 v1 v2 Q S) : P_X1_wetInLee v0 v1 v2 (fun r T => Q r T ∧ K2 S T) S := kf_X1_wetInLee_0 h (k2_rf S)
set_option maxRecDepth 20000 in
set_option maxHeartbeats 1000000 in
theorem kf_X1_worstSpeed_55 {Q : Int32 → HS → Prop} {X17 X17_2 : Nat → Nat → Nat → Int32 → Nat → Int32 → Int64 → Int32 → HS → Prop} {v0 : Nat} {v1 : Nat} {v2 : Nat} {v3 : Int32} {v4 : Nat} {v5 : Int32} {v6 : Int64} {v8 : Int32} {S0 S : HS} (h : P_X1_worstSpeed_55 Q X17 v0 v1 v2 v3 v4 v5 v6 v8 S) (K : K2 S0 S) (hX17 : ∀ (u0 : Nat) (u1 : Nat) (u2 : Nat) (u3 : Int32) (u4 : Nat) (u5 : Int32) (u6 : Int64) (u7 : Int32) (u8 : HS), X17 u0 u1 u2 u3 u4 u5 u6 u7 u8 → K2 S0 u8 → X17_2 u0 u1 u2 u3 u4 u5 u6 u7 u8) : P_X1_worstSpeed_55 (fun r T => Q r T ∧ K2 S0 T) X17_2 v0 v1 v2 v3 v4 v5 v6 v8 S := by
  delta P_X1_worstSpeed_55 at h ⊢
  intro x2 e1
  have h := h x2 e1
  exact hX17 _ _ _ _ _ _ _ _ _ h K
set_option maxRecDepth 20000 in
set_option maxHeartbeats 1000000 in
theorem kfB_X1_worstSpeed_17 {Q : Int32 → HS → Prop} {X17 X17_2 : Nat → Nat → Nat → Int32 → Nat → Int32 → Int64 → Int32 → HS → Prop} {v0 : Nat} {v1 : Nat} {v2 : Nat} {v3 : Int32} {v4 : Nat} {v5 : Int32} {v6 : Int64} {v8 : Int32} {S0 S : HS} (h : B_X1_worstSpeed_17 Q X17 v0 v1 v2 v3 v4 v5 v6 v8 S) (K : K2 S0 S) (hX17 : ∀ (u0 : Nat) (u1 : Nat) (u2 : Nat) (u3 : Int32) (u4 : Nat) (u5 : Int32) (u6 : Int64) (u7 : Int32) (u8 : HS), X17 u0 u1 u2 u3 u4 u5 u6 u7 u8 → K2 S0 u8 → X17_2 u0 u1 u2 u3 u4 u5 u6 u7 u8) : B_X1_worstSpeed_17 (fun r T => Q r T ∧ K2 S0 T) X17_2 v0 v1 v2 v3 v4 v5 v6 v8 S := by
  delta B_X1_worstSpeed_17 at h ⊢
  obtain ⟨c1, h⟩ := h
  refine ⟨c1, ?_⟩
  have n2 := k2_ne K c1 (by decide)
  intro x4 e3
  have h := h x4 e3
  refine ⟨?_, ?_⟩
  · intro c5
    have h := h.1 c5
    exact ⟨h, K⟩
  · intro c6
    have h := h.2 c6
    obtain ⟨c7, h⟩ := h
    refine ⟨c7, ?_⟩
    have n8 := k2_ne K c7 (by decide)
    refine cm_X1_wetOf (kf_X1_wetOf h) h (fun x9 x10 hp h g11 => ?_)
    have h := h g11
    have K := k2_tr K hp.2
    refine ⟨?_, ?_⟩
    · intro c12
      have h := h.1 c12
      exact kf_X1_worstSpeed_55 h K hX17
    · intro c13
      have h := h.2 c13
      exact kf_X1_worstSpeed_55 h K hX17
theorem kf_X1_worstSpeed_17 {Q : Int32 → HS → Prop} {v0 : Nat} {v1 : Nat} {v2 : Nat} {v3 : Int32} {v4 : Nat} {v5 : Int32} {v6 : Int64} {v8 : Int32} {S0 S : HS} (h : P_X1_worstSpeed_17 Q v0 v1 v2 v3 v4 v5 v6 v8 S) (K : K2 S0 S) : P_X1_worstSpeed_17 (fun r T => Q r T ∧ K2 S0 T) v0 v1 v2 v3 v4 v5 v6 v8 S := h (fun v0 v1 v2 v3 v4 v5 v6 v8 S => K2 S0 S → P_X1_worstSpeed_17 (fun r T => Q r T ∧ K2 S0 T) v0 v1 v2 v3 v4 v5 v6 v8 S) (fun v0 v1 v2 v3 v4 v5 v6 v8 S hB K => fd_X1_worstSpeed_17 (kfB_X1_worstSpeed_17 hB K (fun _ _ _ _ _ _ _ _ _ hx K => hx K))) K
set_option maxRecDepth 20000 in
set_option maxHeartbeats 1000000 in
theorem kf_X1_worstSpeed_0 {Q : Int32 → HS → Prop} {v0 : Nat} {v1 : Nat} {v2 : Nat} {v3 : Int32} {v4 : Nat} {S0 S : HS} (h : P_X1_worstSpeed_0 Q v0 v1 v2 v3 v4 S) (K : K2 S0 S) : P_X1_worstSpeed_0 (fun r T => Q r T ∧ K2 S0 T) v0 v1 v2 v3 v4 S := by
  delta P_X1_worstSpeed_0 at h ⊢
  obtain ⟨c1, h⟩ := h
  refine ⟨c1, ?_⟩
  have n2 := k2_ne K c1 (by decide)
  intro x4 e3
  have h := h x4 e3
  intro x6 e5
  have h := h x6 e5
  exact kf_X1_worstSpeed_17 h K
theorem kf_X1_worstSpeed {Q : Int32 → HS → Prop} {v0 : Nat} {v1 : Nat} {v2 : Nat} {v3 : Int32} {v4 : Nat} {S : HS} (h : P_X1_worstSpeed v0 v1 v2 v3 v4 Q S) : P_X1_worstSpeed v0 v1 v2 v3 v4 (fun r T => Q r T ∧ K2 S T) S := kf_X1_worstSpeed_0 h (k2_rf S)
set_option maxRecDepth 20000 in
set_option maxHeartbeats 1000000 in
theorem kfB_X2_addFaces_2 {Q : HS → Prop} {X2 X2_2 : Nat → Nat → Int32 → HS → Prop} {v0 : Nat} {v1 : Nat} {v2 : Int32} {S0 S : HS} (h : B_X2_addFaces_2 Q X2 v0 v1 v2 S) (K : K2 S0 S) (hX2 : ∀ (u0 : Nat) (u1 : Nat) (u2 : Int32) (u3 : HS), X2 u0 u1 u2 u3 → K2 S0 u3 → X2_2 u0 u1 u2 u3) : B_X2_addFaces_2 (fun T => Q T ∧ K2 S0 T) X2_2 v0 v1 v2 S := by
  delta B_X2_addFaces_2 at h ⊢
  refine ⟨?_, ?_⟩
  · intro c1
    have h := h.1 c1
    exact ⟨h, K⟩
  · intro c2
    have h := h.2 c2
    obtain ⟨c3, h⟩ := h
    refine ⟨c3, ?_⟩
    have n4 := k2_ne K c3 (by decide)
    refine ⟨?_, ?_⟩
    · intro c5
      have h := h.1 c5
      exact ⟨h, K⟩
    · intro c6
      have h := h.2 c6
      obtain ⟨c7, h⟩ := h
      refine ⟨c7, ?_⟩
      have n8 := k2_ne K c7 (by decide)
      obtain ⟨b9, e10, h⟩ := h
      refine ⟨b9, e10, ?_⟩
      obtain ⟨c11, h⟩ := h
      refine ⟨c11, ?_⟩
      have n12 := k2_ne K c11 (by decide)
      obtain ⟨c13, h⟩ := h
      refine ⟨c13, ?_⟩
      intro x15 e14
      have h := h x15 e14
      obtain ⟨c16, h⟩ := h
      refine ⟨c16, ?_⟩
      intro x18 e17
      have h := h x18 e17
      intro x20 e19
      have h := h x20 e19
      obtain ⟨c21, h⟩ := h
      refine ⟨c21, ?_⟩
      intro x23 e22
      have h := h x23 e22
      have K := k2_J K e22
      intro x25 e24
      have h := h x25 e24
      exact hX2 _ _ _ _ h K
theorem kf_X2_addFaces_2 {Q : HS → Prop} {v0 : Nat} {v1 : Nat} {v2 : Int32} {S0 S : HS} (h : P_X2_addFaces_2 Q v0 v1 v2 S) (K : K2 S0 S) : P_X2_addFaces_2 (fun T => Q T ∧ K2 S0 T) v0 v1 v2 S := h (fun v0 v1 v2 S => K2 S0 S → P_X2_addFaces_2 (fun T => Q T ∧ K2 S0 T) v0 v1 v2 S) (fun v0 v1 v2 S hB K => fd_X2_addFaces_2 (kfB_X2_addFaces_2 hB K (fun _ _ _ _ hx K => hx K))) K
set_option maxRecDepth 20000 in
set_option maxHeartbeats 1000000 in
theorem kf_X2_addFaces_0 {Q : HS → Prop} {v0 : Nat} {v1 : Nat} {S0 S : HS} (h : P_X2_addFaces_0 Q v0 v1 S) (K : K2 S0 S) : P_X2_addFaces_0 (fun T => Q T ∧ K2 S0 T) v0 v1 S := by
  delta P_X2_addFaces_0 at h ⊢
  exact kf_X2_addFaces_2 h K
theorem kf_X2_addFaces {Q : HS → Prop} {v0 : Nat} {v1 : Nat} {S : HS} (h : P_X2_addFaces v0 v1 Q S) : P_X2_addFaces v0 v1 (fun T => Q T ∧ K2 S T) S := kf_X2_addFaces_0 h (k2_rf S)
set_option maxRecDepth 20000 in
set_option maxHeartbeats 1000000 in
theorem kfB_X2_allGot_4 {Q : Int64 → HS → Prop} {X4 X4_2 : Nat → Int64 → Int32 → HS → Prop} {v0 : Nat} {v1 : Int64} {v3 : Int32} {S0 S : HS} (h : B_X2_allGot_4 Q X4 v0 v1 v3 S) (K : K2 S0 S) (hX4 : ∀ (u0 : Nat) (u1 : Int64) (u2 : Int32) (u3 : HS), X4 u0 u1 u2 u3 → K2 S0 u3 → X4_2 u0 u1 u2 u3) : B_X2_allGot_4 (fun r T => Q r T ∧ K2 S0 T) X4_2 v0 v1 v3 S := by
  delta B_X2_allGot_4 at h ⊢
  refine ⟨?_, ?_⟩
  · intro c1
    have h := h.1 c1
    exact ⟨h, K⟩
  · intro c2
    have h := h.2 c2
    obtain ⟨c3, h⟩ := h
    refine ⟨c3, ?_⟩
    have n4 := k2_ne K c3 (by decide)
    obtain ⟨b5, e6, h⟩ := h
    refine ⟨b5, e6, ?_⟩
    obtain ⟨c7, h⟩ := h
    refine ⟨c7, ?_⟩
    have n8 := k2_ne K c7 (by decide)
    obtain ⟨c9, h⟩ := h
    refine ⟨c9, ?_⟩
    intro x11 e10
    have h := h x11 e10
    intro x13 e12
    have h := h x13 e12
    intro x15 e14
    have h := h x15 e14
    exact hX4 _ _ _ _ h K
theorem kf_X2_allGot_4 {Q : Int64 → HS → Prop} {v0 : Nat} {v1 : Int64} {v3 : Int32} {S0 S : HS} (h : P_X2_allGot_4 Q v0 v1 v3 S) (K : K2 S0 S) : P_X2_allGot_4 (fun r T => Q r T ∧ K2 S0 T) v0 v1 v3 S := h (fun v0 v1 v3 S => K2 S0 S → P_X2_allGot_4 (fun r T => Q r T ∧ K2 S0 T) v0 v1 v3 S) (fun v0 v1 v3 S hB K => fd_X2_allGot_4 (kfB_X2_allGot_4 hB K (fun _ _ _ _ hx K => hx K))) K
set_option maxRecDepth 20000 in
set_option maxHeartbeats 1000000 in
theorem kf_X2_allGot_0 {Q : Int64 → HS → Prop} {v0 : Nat} {S0 S : HS} (h : P_X2_allGot_0 Q v0 S) (K : K2 S0 S) : P_X2_allGot_0 (fun r T => Q r T ∧ K2 S0 T) v0 S := by
  delta P_X2_allGot_0 at h ⊢
  exact kf_X2_allGot_4 h K
theorem kf_X2_allGot {Q : Int64 → HS → Prop} {v0 : Nat} {S : HS} (h : P_X2_allGot v0 Q S) : P_X2_allGot v0 (fun r T => Q r T ∧ K2 S T) S := kf_X2_allGot_0 h (k2_rf S)
set_option maxRecDepth 20000 in
set_option maxHeartbeats 1000000 in
theorem kf_X4_fail_0 {Q : Int32 → HS → Prop} {v0 : Nat} {v1 : Int32} {S0 S : HS} (h : P_X4_fail_0 Q v0 v1 S) (K : K2 S0 S) : P_X4_fail_0 (fun r T => Q r T ∧ K2 S0 T) v0 v1 S := by
  delta P_X4_fail_0 at h ⊢
  obtain ⟨c1, h⟩ := h
  refine ⟨c1, ?_⟩
  have n2 := k2_ne K c1 (by decide)
  intro x4 e3
  have h := h x4 e3
  have K := k2_I K e3 n2
  intro x6 e5
  have h := h x6 e5
  intro x8 e7
  have h := h x8 e7
  have K := k2_I K e7 n2
  exact ⟨h, K⟩
theorem kf_X4_fail {Q : Int32 → HS → Prop} {v0 : Nat} {v1 : Int32} {S : HS} (h : P_X4_fail v0 v1 Q S) : P_X4_fail v0 v1 (fun r T => Q r T ∧ K2 S T) S := kf_X4_fail_0 h (k2_rf S)
set_option maxRecDepth 20000 in
set_option maxHeartbeats 1000000 in
theorem kf_X4_sortAt_58 {Q : Int32 → HS → Prop} {v2 : Int32} {S0 S : HS} (h : P_X4_sortAt_58 Q v2 S) (K : K2 S0 S) : P_X4_sortAt_58 (fun r T => Q r T ∧ K2 S0 T) v2 S := by
  delta P_X4_sortAt_58 at h ⊢
  refine ⟨?_, ?_, ?_, ?_⟩
  · intro c1
    have h := h.1 c1
    exact ⟨h, K⟩
  · intro c2
    have h := h.2.1 c2
    exact ⟨h, K⟩
  · intro c3
    have h := h.2.2.1 c3
    exact ⟨h, K⟩
  · intro c4
    have h := h.2.2.2 c4
    exact ⟨h, K⟩
set_option maxRecDepth 20000 in
set_option maxHeartbeats 1000000 in
theorem kf_X4_sortAt_44 {Q : Int32 → HS → Prop} {v2 : Int32} {S0 S : HS} (h : P_X4_sortAt_44 Q v2 S) (K : K2 S0 S) : P_X4_sortAt_44 (fun r T => Q r T ∧ K2 S0 T) v2 S := by
  delta P_X4_sortAt_44 at h ⊢
  refine ⟨?_, ?_⟩
  · intro c1
    have h := h.1 c1
    exact kf_X4_sortAt_58 h K
  · intro c2
    have h := h.2 c2
    refine ⟨?_, ?_⟩
    · intro c3
      have h := h.1 c3
      exact kf_X4_sortAt_58 h K
    · intro c4
      have h := h.2 c4
      exact ⟨h, K⟩
set_option maxRecDepth 20000 in
set_option maxHeartbeats 1000000 in
theorem kf_X4_sortAt_0 {Q : Int32 → HS → Prop} {v0 : Nat} {v1 : Int32} {S0 S : HS} (h : P_X4_sortAt_0 Q v0 v1 S) (K : K2 S0 S) : P_X4_sortAt_0 (fun r T => Q r T ∧ K2 S0 T) v0 v1 S := by
  delta P_X4_sortAt_0 at h ⊢
  refine ⟨?_, ?_⟩
  · intro c1
    have h := h.1 c1
    exact ⟨h, K⟩
  · intro c2
    have h := h.2 c2
    obtain ⟨c3, h⟩ := h
    refine ⟨c3, ?_⟩
    have n4 := k2_ne K c3 (by decide)
    intro x6 e5
    have h := h x6 e5
    refine ⟨?_, ?_⟩
    · intro c7
      have h := h.1 c7
      exact ⟨h, K⟩
    · intro c8
      have h := h.2 c8
      obtain ⟨b9, e10, h⟩ := h
      refine ⟨b9, e10, ?_⟩
      obtain ⟨c11, h⟩ := h
      refine ⟨c11, ?_⟩
      refine ⟨?_, ?_⟩
      · intro c12
        have h := h.1 c12
        obtain ⟨b13, e14, h⟩ := h
        refine ⟨b13, e14, ?_⟩
        obtain ⟨c15, h⟩ := h
        refine ⟨c15, ?_⟩
        obtain ⟨c16, h⟩ := h
        refine ⟨c16, ?_⟩
        intro x18 e17
        have h := h x18 e17
        refine ⟨?_, ?_⟩
        · intro c19
          have h := h.1 c19
          exact kf_X4_sortAt_44 h K
        · intro c20
          have h := h.2 c20
          refine ⟨?_, ?_⟩
          · intro c21
            have h := h.1 c21
            exact kf_X4_sortAt_44 h K
          · intro c22
            have h := h.2 c22
            exact ⟨h, K⟩
      · intro c23
        have h := h.2 c23
        exact ⟨h, K⟩
theorem kf_X4_sortAt {Q : Int32 → HS → Prop} {v0 : Nat} {v1 : Int32} {S : HS} (h : P_X4_sortAt v0 v1 Q S) : P_X4_sortAt v0 v1 (fun r T => Q r T ∧ K2 S T) S := kf_X4_sortAt_0 h (k2_rf S)
set_option maxRecDepth 20000 in
set_option maxHeartbeats 1000000 in
theorem kf_X4_next_201 {Q : HS → Prop} {X118 X118_2 : Nat → Int32 → Int32 → Int32 → Int32 → HS → Prop} {v0 : Nat} {v1 : Int32} {v2 : Int32} {v3 : Int32} {v4 : Int32} {S0 S : HS} (h : P_X4_next_201 Q X118 v0 v1 v2 v3 v4 S) (K : K2 S0 S) (hX118 : ∀ (u0 : Nat) (u1 : Int32) (u2 : Int32) (u3 : Int32) (u4 : Int32) (u5 : HS), X118 u0 u1 u2 u3 u4 u5 → K2 S0 u5 → X118_2 u0 u1 u2 u3 u4 u5) : P_X4_next_201 (fun T => Q T ∧ K2 S0 T) X118_2 v0 v1 v2 v3 v4 S := by
  delta P_X4_next_201 at h ⊢
  obtain ⟨c1, h⟩ := h
  refine ⟨c1, ?_⟩
  have n2 := k2_ne K c1 (by decide)
  intro x4 e3
  have h := h x4 e3
  intro x6 e5
  have h := h x6 e5
  intro x8 e7
  have h := h x8 e7
  have K := k2_I K e7 n2
  intro x10 e9
  have h := h x10 e9
  exact hX118 _ _ _ _ _ _ h K
set_option maxRecDepth 20000 in
set_option maxHeartbeats 1000000 in
theorem kf_X4_next_195 {Q : HS → Prop} {X118 X118_2 : Nat → Int32 → Int32 → Int32 → Int32 → HS → Prop} {v0 : Nat} {v1 : Int32} {v2 : Int32} {v3 : Int32} {v4 : Int32} {s0 : Nat} {s1 : Int64} {s2 : Int32} {s3 : Int32} {S0 S : HS} (h : P_X4_next_195 Q X118 v0 v1 v2 v3 v4 s0 s1 s2 s3 S) (K : K2 S0 S) (hX118 : ∀ (u0 : Nat) (u1 : Int32) (u2 : Int32) (u3 : Int32) (u4 : Int32) (u5 : HS), X118 u0 u1 u2 u3 u4 u5 → K2 S0 u5 → X118_2 u0 u1 u2 u3 u4 u5) : P_X4_next_195 (fun T => Q T ∧ K2 S0 T) X118_2 v0 v1 v2 v3 v4 s0 s1 s2 s3 S := by
  delta P_X4_next_195 at h ⊢
  obtain ⟨c1, h⟩ := h
  refine ⟨c1, ?_⟩
  have n2 := k2_ne K c1 (by decide)
  intro x4 e3
  have h := h x4 e3
  intro x6 e5
  have h := h x6 e5
  have K := k2_J K e5
  exact kf_X4_next_201 h K hX118
set_option maxRecDepth 20000 in
set_option maxHeartbeats 1000000 in
theorem kf_X4_next_240 {Q : HS → Prop} {v0 : Nat} {v1 : Int32} {S0 S : HS} (h : P_X4_next_240 Q v0 v1 S) (K : K2 S0 S) : P_X4_next_240 (fun T => Q T ∧ K2 S0 T) v0 v1 S := by
  delta P_X4_next_240 at h ⊢
  refine ⟨?_, ?_⟩
  · intro c1
    have h := h.1 c1
    exact ⟨h, K⟩
  · intro c2
    have h := h.2 c2
    obtain ⟨c3, h⟩ := h
    refine ⟨c3, ?_⟩
    have n4 := k2_ne K c3 (by decide)
    intro x6 e5
    have h := h x6 e5
    refine ⟨?_, ?_⟩
    · intro c7
      have h := h.1 c7
      exact ⟨h, K⟩
    · intro c8
      have h := h.2 c8
      intro x10 e9
      have h := h x10 e9
      intro x12 e11
      have h := h x12 e11
      intro x14 e13
      have h := h x14 e13
      have K := k2_I K e13 n4
      exact ⟨h, K⟩
set_option maxRecDepth 20000 in
set_option maxHeartbeats 1000000 in
theorem kf_X4_next_217 {Q : HS → Prop} {v0 : Nat} {v1 : Int32} {v2 : Int32} {S0 S : HS} (h : P_X4_next_217 Q v0 v1 v2 S) (K : K2 S0 S) : P_X4_next_217 (fun T => Q T ∧ K2 S0 T) v0 v1 v2 S := by
  delta P_X4_next_217 at h ⊢
  refine ⟨?_, ?_⟩
  · intro c1
    have h := h.1 c1
    exact kf_X4_next_240 h K
  · intro c2
    have h := h.2 c2
    obtain ⟨c3, h⟩ := h
    refine ⟨c3, ?_⟩
    have n4 := k2_ne K c3 (by decide)
    intro x6 e5
    have h := h x6 e5
    intro x8 e7
    have h := h x8 e7
    refine ⟨?_, ?_⟩
    · intro c9
      have h := h.1 c9
      exact kf_X4_next_240 h K
    · intro c10
      have h := h.2 c10
      intro x12 e11
      have h := h x12 e11
      have K := k2_I K e11 n4
      exact kf_X4_next_240 h K
set_option maxRecDepth 20000 in
set_option maxHeartbeats 1000000 in
theorem kfB_X4_next_118 {Q : HS → Prop} {X118 X118_2 : Nat → Int32 → Int32 → Int32 → Int32 → HS → Prop} {v0 : Nat} {v1 : Int32} {v2 : Int32} {v3 : Int32} {v4 : Int32} {S0 S : HS} (h : B_X4_next_118 Q X118 v0 v1 v2 v3 v4 S) (K : K2 S0 S) (hX118 : ∀ (u0 : Nat) (u1 : Int32) (u2 : Int32) (u3 : Int32) (u4 : Int32) (u5 : HS), X118 u0 u1 u2 u3 u4 u5 → K2 S0 u5 → X118_2 u0 u1 u2 u3 u4 u5) : B_X4_next_118 (fun T => Q T ∧ K2 S0 T) X118_2 v0 v1 v2 v3 v4 S := by
  delta B_X4_next_118 at h ⊢
  refine ⟨?_, ?_⟩
  · intro c1
    have h := h.1 c1
    exact kf_X4_next_217 h K
  · intro c2
    have h := h.2 c2
    refine ⟨?_, ?_⟩
    · intro c3
      have h := h.1 c3
      exact kf_X4_next_217 h K
    · intro c4
      have h := h.2 c4
      obtain ⟨c5, h⟩ := h
      refine ⟨c5, ?_⟩
      have n6 := k2_ne K c5 (by decide)
      intro x8 e7
      have h := h x8 e7
      refine cm_X4_sortAt (kf_X4_sortAt h) h (fun x9 x10 hp h g11 => ?_)
      have h := h g11
      have K := k2_tr K hp.2
      intro x13 e12
      have h := h x13 e12
      refine ⟨?_, ?_⟩
      · intro c14
        have h := h.1 c14
        exact kf_X4_next_217 h K
      · intro c15
        have h := h.2 c15
        refine ⟨?_, ?_⟩
        · intro c16
          have h := h.1 c16
          exact kf_X4_next_201 h K hX118
        · intro c17
          have h := h.2 c17
          intro x19 e18
          have h := h x19 e18
          obtain ⟨b20, e21, h⟩ := h
          refine ⟨b20, e21, ?_⟩
          obtain ⟨c22, h⟩ := h
          refine ⟨c22, ?_⟩
          refine ⟨?_, ?_⟩
          · intro c23
            have h := h.1 c23
            exact kf_X4_next_201 h K hX118
          · intro c24
            have h := h.2 c24
            intro x26 e25
            have h := h x26 e25
            obtain ⟨b27, e28, h⟩ := h
            refine ⟨b27, e28, ?_⟩
            intro x30 e29
            have h := h x30 e29
            obtain ⟨c31, h⟩ := h
            refine ⟨c31, ?_⟩
            obtain ⟨c32, h⟩ := h
            refine ⟨c32, ?_⟩
            intro x34 e33
            have h := h x34 e33
            intro x36 e35
            have h := h x36 e35
            refine ⟨?_, ?_⟩
            · intro c37
              have h := h.1 c37
              exact kf_X4_next_195 h K hX118
            · intro c38
              have h := h.2 c38
              exact kf_X4_next_195 h K hX118
theorem kf_X4_next_118 {Q : HS → Prop} {v0 : Nat} {v1 : Int32} {v2 : Int32} {v3 : Int32} {v4 : Int32} {S0 S : HS} (h : P_X4_next_118 Q v0 v1 v2 v3 v4 S) (K : K2 S0 S) : P_X4_next_118 (fun T => Q T ∧ K2 S0 T) v0 v1 v2 v3 v4 S := h (fun v0 v1 v2 v3 v4 S => K2 S0 S → P_X4_next_118 (fun T => Q T ∧ K2 S0 T) v0 v1 v2 v3 v4 S) (fun v0 v1 v2 v3 v4 S hB K => fd_X4_next_118 (kfB_X4_next_118 hB K (fun _ _ _ _ _ _ hx K => hx K))) K
set_option maxRecDepth 20000 in
set_option maxHeartbeats 1000000 in
theorem kf_X4_next_114 {Q : HS → Prop} {v0 : Nat} {v1 : Int32} {v2 : Int32} {s0 : Int32} {S0 S : HS} (h : P_X4_next_114 Q v0 v1 v2 s0 S) (K : K2 S0 S) : P_X4_next_114 (fun T => Q T ∧ K2 S0 T) v0 v1 v2 s0 S := by
  delta P_X4_next_114 at h ⊢
  exact kf_X4_next_118 h K
set_option maxRecDepth 20000 in
set_option maxHeartbeats 1000000 in
theorem kf_X4_next_98 {Q : HS → Prop} {v0 : Nat} {v1 : Int32} {s0 : Int32} {S0 S : HS} (h : P_X4_next_98 Q v0 v1 s0 S) (K : K2 S0 S) : P_X4_next_98 (fun T => Q T ∧ K2 S0 T) v0 v1 s0 S := by
  delta P_X4_next_98 at h ⊢
  obtain ⟨c1, h⟩ := h
  refine ⟨c1, ?_⟩
  have n2 := k2_ne K c1 (by decide)
  intro x4 e3
  have h := h x4 e3
  refine ⟨?_, ?_⟩
  · intro c5
    have h := h.1 c5
    exact kf_X4_next_114 h K
  · intro c6
    have h := h.2 c6
    exact kf_X4_next_114 h K
set_option maxRecDepth 20000 in
set_option maxHeartbeats 1000000 in
theorem kf_X4_next_83 {Q : HS → Prop} {v0 : Nat} {s0 : Int32} {S0 S : HS} (h : P_X4_next_83 Q v0 s0 S) (K : K2 S0 S) : P_X4_next_83 (fun T => Q T ∧ K2 S0 T) v0 s0 S := by
  delta P_X4_next_83 at h ⊢
  obtain ⟨c1, h⟩ := h
  refine ⟨c1, ?_⟩
  have n2 := k2_ne K c1 (by decide)
  intro x4 e3
  have h := h x4 e3
  refine ⟨?_, ?_⟩
  · intro c5
    have h := h.1 c5
    exact kf_X4_next_98 h K
  · intro c6
    have h := h.2 c6
    exact kf_X4_next_98 h K
set_option maxRecDepth 20000 in
set_option maxHeartbeats 1000000 in
theorem kf_X4_next_78 {Q : HS → Prop} {v0 : Nat} {S0 S : HS} (h : P_X4_next_78 Q v0 S) (K : K2 S0 S) : P_X4_next_78 (fun T => Q T ∧ K2 S0 T) v0 S := by
  delta P_X4_next_78 at h ⊢
  exact kf_X4_next_83 h K
set_option maxRecDepth 20000 in
set_option maxHeartbeats 1000000 in
theorem kf_X4_next_37 {Q : HS → Prop} {v0 : Nat} {S0 S : HS} (h : P_X4_next_37 Q v0 S) (K : K2 S0 S) : P_X4_next_37 (fun T => Q T ∧ K2 S0 T) v0 S := by
  delta P_X4_next_37 at h ⊢
  obtain ⟨c1, h⟩ := h
  refine ⟨c1, ?_⟩
  have n2 := k2_ne K c1 (by decide)
  intro x4 e3
  have h := h x4 e3
  intro x6 e5
  have h := h x6 e5
  have K := k2_I K e5 n2
  intro x8 e7
  have h := h x8 e7
  refine cm_X4_sortAt (kf_X4_sortAt h) h (fun x9 x10 hp h g11 => ?_)
  have h := h g11
  have K := k2_tr K hp.2
  intro x13 e12
  have h := h x13 e12
  have K := k2_I K e12 n2
  intro x15 e14
  have h := h x15 e14
  have K := k2_J K e14
  intro x17 e16
  have h := h x17 e16
  refine ⟨?_, ?_⟩
  · intro c18
    have h := h.1 c18
    exact kf_X4_next_78 h K
  · intro c19
    have h := h.2 c19
    intro x21 e20
    have h := h x21 e20
    refine ⟨?_, ?_⟩
    · intro c22
      have h := h.1 c22
      exact kf_X4_next_83 h K
    · intro c23
      have h := h.2 c23
      exact kf_X4_next_78 h K
set_option maxRecDepth 20000 in
set_option maxHeartbeats 1000000 in
theorem kfB_X4_next_2 {Q : HS → Prop} {X2 X2_2 : Nat → Int32 → HS → Prop} {v0 : Nat} {v1 : Int32} {S0 S : HS} (h : B_X4_next_2 Q X2 v0 v1 S) (K : K2 S0 S) (hX2 : ∀ (u0 : Nat) (u1 : Int32) (u2 : HS), X2 u0 u1 u2 → K2 S0 u2 → X2_2 u0 u1 u2) : B_X4_next_2 (fun T => Q T ∧ K2 S0 T) X2_2 v0 v1 S := by
  delta B_X4_next_2 at h ⊢
  refine ⟨?_, ?_⟩
  · intro c1
    have h := h.1 c1
    exact kf_X4_next_37 h K
  · intro c2
    have h := h.2 c2
    obtain ⟨c3, h⟩ := h
    refine ⟨c3, ?_⟩
    have n4 := k2_ne K c3 (by decide)
    intro x6 e5
    have h := h x6 e5
    refine cm_X4_sortAt (kf_X4_sortAt h) h (fun x7 x8 hp h g9 => ?_)
    have h := h g9
    have K := k2_tr K hp.2
    refine ⟨?_, ?_⟩
    · intro c10
      have h := h.1 c10
      exact kf_X4_next_37 h K
    · intro c11
      have h := h.2 c11
      intro x13 e12
      have h := h x13 e12
      intro x15 e14
      have h := h x15 e14
      intro x17 e16
      have h := h x17 e16
      have K := k2_I K e16 n4
      intro x19 e18
      have h := h x19 e18
      exact hX2 _ _ _ h K
theorem kf_X4_next_2 {Q : HS → Prop} {v0 : Nat} {v1 : Int32} {S0 S : HS} (h : P_X4_next_2 Q v0 v1 S) (K : K2 S0 S) : P_X4_next_2 (fun T => Q T ∧ K2 S0 T) v0 v1 S := h (fun v0 v1 S => K2 S0 S → P_X4_next_2 (fun T => Q T ∧ K2 S0 T) v0 v1 S) (fun v0 v1 S hB K => fd_X4_next_2 (kfB_X4_next_2 hB K (fun _ _ _ hx K => hx K))) K
set_option maxRecDepth 20000 in
set_option maxHeartbeats 1000000 in
theorem kf_X4_next_0 {Q : HS → Prop} {v0 : Nat} {S0 S : HS} (h : P_X4_next_0 Q v0 S) (K : K2 S0 S) : P_X4_next_0 (fun T => Q T ∧ K2 S0 T) v0 S := by
  delta P_X4_next_0 at h ⊢
  exact kf_X4_next_2 h K
theorem kf_X4_next {Q : HS → Prop} {v0 : Nat} {S : HS} (h : P_X4_next v0 Q S) : P_X4_next v0 (fun T => Q T ∧ K2 S T) S := kf_X4_next_0 h (k2_rf S)
set_option maxRecDepth 20000 in
set_option maxHeartbeats 1000000 in
theorem kf_X4_whole_34 {Q : Int32 → HS → Prop} {v0 : Nat} {S0 S : HS} (h : P_X4_whole_34 Q v0 S) (K : K2 S0 S) : P_X4_whole_34 (fun r T => Q r T ∧ K2 S0 T) v0 S := by
  delta P_X4_whole_34 at h ⊢
  obtain ⟨c1, h⟩ := h
  refine ⟨c1, ?_⟩
  have n2 := k2_ne K c1 (by decide)
  refine cm_X4_fail (kf_X4_fail h) h (fun x3 x4 hp h g5 g6 => ?_)
  have h := h g5 g6
  have K := k2_tr K hp.2
  obtain ⟨c7, h⟩ := h
  refine ⟨c7, ?_⟩
  exact ⟨h, K⟩
set_option maxRecDepth 20000 in
set_option maxHeartbeats 1000000 in
theorem kf_X4_whole_0 {Q : Int32 → HS → Prop} {v0 : Nat} {v1 : Int32} {v2 : Int32} {S0 S : HS} (h : P_X4_whole_0 Q v0 v1 v2 S) (K : K2 S0 S) : P_X4_whole_0 (fun r T => Q r T ∧ K2 S0 T) v0 v1 v2 S := by
  delta P_X4_whole_0 at h ⊢
  obtain ⟨c1, h⟩ := h
  refine ⟨c1, ?_⟩
  have n2 := k2_ne K c1 (by decide)
  intro x4 e3
  have h := h x4 e3
  refine ⟨?_, ?_⟩
  · intro c5
    have h := h.1 c5
    intro x7 e6
    have h := h x7 e6
    refine ⟨?_, ?_⟩
    · intro c8
      have h := h.1 c8
      exact kf_X4_whole_34 h K
    · intro c9
      have h := h.2 c9
      intro x11 e10
      have h := h x11 e10
      refine ⟨?_, ?_⟩
      · intro c12
        have h := h.1 c12
        intro x14 e13
        have h := h x14 e13
        intro x16 e15
        have h := h x16 e15
        intro x18 e17
        have h := h x18 e17
        have K := k2_I K e17 n2
        refine cm_X4_next (kf_X4_next h) h (fun x19 hp h g20 => ?_)
        have h := h g20
        have K := k2_tr K hp.2
        exact ⟨h, K⟩
      · intro c21
        have h := h.2 c21
        exact kf_X4_whole_34 h K
  · intro c22
    have h := h.2 c22
    refine cm_X4_fail (kf_X4_fail h) h (fun x23 x24 hp h g25 g26 => ?_)
    have h := h g25 g26
    have K := k2_tr K hp.2
    obtain ⟨c27, h⟩ := h
    refine ⟨c27, ?_⟩
    exact ⟨h, K⟩
theorem kf_X4_whole {Q : Int32 → HS → Prop} {v0 : Nat} {v1 : Int32} {v2 : Int32} {S : HS} (h : P_X4_whole v0 v1 v2 Q S) : P_X4_whole v0 v1 v2 (fun r T => Q r T ∧ K2 S T) S := kf_X4_whole_0 h (k2_rf S)
set_option maxRecDepth 20000 in
set_option maxHeartbeats 1000000 in
theorem kfB_X4_is_15 {Q : Int32 → HS → Prop} {X15 X15_2 : Nat → Nat → Int64 → Int32 → HS → Prop} {v0 : Nat} {v1 : Nat} {v2 : Int64} {v4 : Int32} {S0 S : HS} (h : B_X4_is_15 Q X15 v0 v1 v2 v4 S) (K : K2 S0 S) (hX15 : ∀ (u0 : Nat) (u1 : Nat) (u2 : Int64) (u3 : Int32) (u4 : HS), X15 u0 u1 u2 u3 u4 → K2 S0 u4 → X15_2 u0 u1 u2 u3 u4) : B_X4_is_15 (fun r T => Q r T ∧ K2 S0 T) X15_2 v0 v1 v2 v4 S := by
  delta B_X4_is_15 at h ⊢
  obtain ⟨c1, h⟩ := h
  refine ⟨c1, ?_⟩
  intro x3 e2
  have h := h x3 e2
  refine ⟨?_, ?_⟩
  · intro c4
    have h := h.1 c4
    obtain ⟨c5, h⟩ := h
    refine ⟨c5, ?_⟩
    have n6 := k2_ne K c5 (by decide)
    intro x8 e7
    have h := h x8 e7
    refine ⟨?_, ?_⟩
    · intro c9
      have h := h.1 c9
      exact ⟨h, K⟩
    · intro c10
      have h := h.2 c10
      exact ⟨h, K⟩
  · intro c11
    have h := h.2 c11
    obtain ⟨c12, h⟩ := h
    refine ⟨c12, ?_⟩
    obtain ⟨c13, h⟩ := h
    refine ⟨c13, ?_⟩
    intro x15 e14
    have h := h x15 e14
    intro x17 e16
    have h := h x17 e16
    intro x19 e18
    have h := h x19 e18
    exact hX15 _ _ _ _ _ h K
theorem kf_X4_is_15 {Q : Int32 → HS → Prop} {v0 : Nat} {v1 : Nat} {v2 : Int64} {v4 : Int32} {S0 S : HS} (h : P_X4_is_15 Q v0 v1 v2 v4 S) (K : K2 S0 S) : P_X4_is_15 (fun r T => Q r T ∧ K2 S0 T) v0 v1 v2 v4 S := h (fun v0 v1 v2 v4 S => K2 S0 S → P_X4_is_15 (fun r T => Q r T ∧ K2 S0 T) v0 v1 v2 v4 S) (fun v0 v1 v2 v4 S hB K => fd_X4_is_15 (kfB_X4_is_15 hB K (fun _ _ _ _ _ hx K => hx K))) K
set_option maxRecDepth 20000 in
set_option maxHeartbeats 1000000 in
theorem kf_X4_is_0 {Q : Int32 → HS → Prop} {v0 : Nat} {v1 : Nat} {S0 S : HS} (h : P_X4_is_0 Q v0 v1 S) (K : K2 S0 S) : P_X4_is_0 (fun r T => Q r T ∧ K2 S0 T) v0 v1 S := by
  delta P_X4_is_0 at h ⊢
  obtain ⟨c1, h⟩ := h
  refine ⟨c1, ?_⟩
  have n2 := k2_ne K c1 (by decide)
  intro x4 e3
  have h := h x4 e3
  refine ⟨?_, ?_⟩
  · intro c5
    have h := h.1 c5
    exact kf_X4_is_15 h K
  · intro c6
    have h := h.2 c6
    exact ⟨h, K⟩
theorem kf_X4_is {Q : Int32 → HS → Prop} {v0 : Nat} {v1 : Nat} {S : HS} (h : P_X4_is v0 v1 Q S) : P_X4_is v0 v1 (fun r T => Q r T ∧ K2 S T) S := kf_X4_is_0 h (k2_rf S)
set_option maxRecDepth 20000 in
set_option maxHeartbeats 1000000 in
theorem kf_X4_word_0 {Q : Int32 → HS → Prop} {v0 : Nat} {v1 : Nat} {S0 S : HS} (h : P_X4_word_0 Q v0 v1 S) (K : K2 S0 S) : P_X4_word_0 (fun r T => Q r T ∧ K2 S0 T) v0 v1 S := by
  delta P_X4_word_0 at h ⊢
  obtain ⟨c1, h⟩ := h
  refine ⟨c1, ?_⟩
  have n2 := k2_ne K c1 (by decide)
  refine cm_X4_is (kf_X4_is h) h (fun x3 x4 hp h g5 g6 => ?_)
  have h := h g5 g6
  have K := k2_tr K hp.2
  refine ⟨?_, ?_⟩
  · intro c7
    have h := h.1 c7
    refine cm_X4_next (kf_X4_next h) h (fun x8 hp h g9 => ?_)
    have h := h g9
    have K := k2_tr K hp.2
    exact ⟨h, K⟩
  · intro c10
    have h := h.2 c10
    refine cm_X4_fail (kf_X4_fail h) h (fun x11 x12 hp h g13 g14 => ?_)
    have h := h g13 g14
    have K := k2_tr K hp.2
    obtain ⟨c15, h⟩ := h
    refine ⟨c15, ?_⟩
    exact ⟨h, K⟩
theorem kf_X4_word {Q : Int32 → HS → Prop} {v0 : Nat} {v1 : Nat} {S : HS} (h : P_X4_word v0 v1 Q S) : P_X4_word v0 v1 (fun r T => Q r T ∧ K2 S T) S := kf_X4_word_0 h (k2_rf S)
set_option maxRecDepth 20000 in
set_option maxHeartbeats 1000000 in
theorem kf_X4_wordAndWhole_0 {Q : Int32 → HS → Prop} {v0 : Nat} {v1 : Nat} {v2 : Int32} {v3 : Int32} {S0 S : HS} (h : P_X4_wordAndWhole_0 Q v0 v1 v2 v3 S) (K : K2 S0 S) : P_X4_wordAndWhole_0 (fun r T => Q r T ∧ K2 S0 T) v0 v1 v2 v3 S := by
  delta P_X4_wordAndWhole_0 at h ⊢
  obtain ⟨c1, h⟩ := h
  refine ⟨c1, ?_⟩
  have n2 := k2_ne K c1 (by decide)
  refine cm_X4_word (kf_X4_word h) h (fun x3 x4 hp h g5 g6 => ?_)
  have h := h g5 g6
  have K := k2_tr K hp.2
  refine ⟨?_, ?_⟩
  · intro c7
    have h := h.1 c7
    exact ⟨h, K⟩
  · intro c8
    have h := h.2 c8
    refine cm_X4_whole (kf_X4_whole h) h (fun x9 x10 hp h g11 g12 => ?_)
    have h := h g11 g12
    have K := k2_tr K hp.2
    refine ⟨?_, ?_⟩
    · intro c13
      have h := h.1 c13
      exact ⟨h, K⟩
    · intro c14
      have h := h.2 c14
      exact ⟨h, K⟩
theorem kf_X4_wordAndWhole {Q : Int32 → HS → Prop} {v0 : Nat} {v1 : Nat} {v2 : Int32} {v3 : Int32} {S : HS} (h : P_X4_wordAndWhole v0 v1 v2 v3 Q S) : P_X4_wordAndWhole v0 v1 v2 v3 (fun r T => Q r T ∧ K2 S T) S := kf_X4_wordAndWhole_0 h (k2_rf S)
set_option maxRecDepth 20000 in
set_option maxHeartbeats 1000000 in
theorem kf_X6_shape_16 {Q : HS → Prop} {v0 : Nat} {v1 : Int32} {v2 : Int32} {v3 : Int32} {s0 : Int32} {S0 S : HS} (h : P_X6_shape_16 Q v0 v1 v2 v3 s0 S) (K : K2 S0 S) : P_X6_shape_16 (fun T => Q T ∧ K2 S0 T) v0 v1 v2 v3 s0 S := by
  delta P_X6_shape_16 at h ⊢
  obtain ⟨c1, h⟩ := h
  refine ⟨c1, ?_⟩
  have n2 := k2_ne K c1 (by decide)
  intro x4 e3
  have h := h x4 e3
  intro x6 e5
  have h := h x6 e5
  have K := k2_I K e5 n2
  intro x8 e7
  have h := h x8 e7
  intro x10 e9
  have h := h x10 e9
  have K := k2_I K e9 n2
  intro x12 e11
  have h := h x12 e11
  intro x14 e13
  have h := h x14 e13
  have K := k2_I K e13 n2
  exact ⟨h, K⟩
set_option maxRecDepth 20000 in
set_option maxHeartbeats 1000000 in
theorem kf_X6_shape_0 {Q : HS → Prop} {v0 : Nat} {v1 : Int32} {v2 : Int32} {v3 : Int32} {S0 S : HS} (h : P_X6_shape_0 Q v0 v1 v2 v3 S) (K : K2 S0 S) : P_X6_shape_0 (fun T => Q T ∧ K2 S0 T) v0 v1 v2 v3 S := by
  delta P_X6_shape_0 at h ⊢
  obtain ⟨c1, h⟩ := h
  refine ⟨c1, ?_⟩
  have n2 := k2_ne K c1 (by decide)
  intro x4 e3
  have h := h x4 e3
  refine ⟨?_, ?_⟩
  · intro c5
    have h := h.1 c5
    exact kf_X6_shape_16 h K
  · intro c6
    have h := h.2 c6
    intro x8 e7
    have h := h x8 e7
    exact kf_X6_shape_16 h K
theorem kf_X6_shape {Q : HS → Prop} {v0 : Nat} {v1 : Int32} {v2 : Int32} {v3 : Int32} {S : HS} (h : P_X6_shape v0 v1 v2 v3 Q S) : P_X6_shape v0 v1 v2 v3 (fun T => Q T ∧ K2 S T) S := kf_X6_shape_0 h (k2_rf S)
set_option maxRecDepth 20000 in
set_option maxHeartbeats 1000000 in
theorem kf_X4_bodyOf_58 {Q : Int32 → HS → Prop} {v0 : Nat} {v1 : Nat} {v2 : Int32} {v3 : Int32} {s0 : Int32} {S0 S : HS} (h : P_X4_bodyOf_58 Q v0 v1 v2 v3 s0 S) (K : K2 S0 S) : P_X4_bodyOf_58 (fun r T => Q r T ∧ K2 S0 T) v0 v1 v2 v3 s0 S := by
  delta P_X4_bodyOf_58 at h ⊢
  obtain ⟨c1, h⟩ := h
  refine ⟨c1, ?_⟩
  have n2 := k2_ne K c1 (by decide)
  refine cm_X4_wordAndWhole (kf_X4_wordAndWhole h) h (fun x3 x4 hp h g5 g6 => ?_)
  have h := h g5 g6
  have K := k2_tr K hp.2
  refine ⟨?_, ?_⟩
  · intro c7
    have h := h.1 c7
    intro x9 e8
    have h := h x9 e8
    obtain ⟨c10, h⟩ := h
    refine ⟨c10, ?_⟩
    have n11 := k2_ne K c10 (by decide)
    refine cm_X6_shape (kf_X6_shape h) h (fun x12 hp h g13 => ?_)
    have h := h g13
    have K := k2_tr K hp.2
    exact ⟨h, K⟩
  · intro c14
    have h := h.2 c14
    exact ⟨h, K⟩
set_option maxRecDepth 20000 in
set_option maxHeartbeats 1000000 in
theorem kf_X4_bodyOf_0 {Q : Int32 → HS → Prop} {v0 : Nat} {v1 : Nat} {S0 S : HS} (h : P_X4_bodyOf_0 Q v0 v1 S) (K : K2 S0 S) : P_X4_bodyOf_0 (fun r T => Q r T ∧ K2 S0 T) v0 v1 S := by
  delta P_X4_bodyOf_0 at h ⊢
  obtain ⟨c1, h⟩ := h
  refine ⟨c1, ?_⟩
  have n2 := k2_ne K c1 (by decide)
  refine cm_X4_wordAndWhole (kf_X4_wordAndWhole h) h (fun x3 x4 hp h g5 g6 => ?_)
  have h := h g5 g6
  have K := k2_tr K hp.2
  refine ⟨?_, ?_⟩
  · intro c7
    have h := h.1 c7
    intro x9 e8
    have h := h x9 e8
    refine cm_X4_wordAndWhole (kf_X4_wordAndWhole h) h (fun x10 x11 hp h g12 g13 => ?_)
    have h := h g12 g13
    have K := k2_tr K hp.2
    refine ⟨?_, ?_⟩
    · intro c14
      have h := h.1 c14
      intro x16 e15
      have h := h x16 e15
      obtain ⟨c17, h⟩ := h
      refine ⟨c17, ?_⟩
      have n18 := k2_ne K c17 (by decide)
      intro x20 e19
      have h := h x20 e19
      refine ⟨?_, ?_⟩
      · intro c21
        have h := h.1 c21
        exact kf_X4_bodyOf_58 h K
      · intro c22
        have h := h.2 c22
        intro x24 e23
        have h := h x24 e23
        exact kf_X4_bodyOf_58 h K
    · intro c25
      have h := h.2 c25
      exact ⟨h, K⟩
  · intro c26
    have h := h.2 c26
    exact ⟨h, K⟩
theorem kf_X4_bodyOf {Q : Int32 → HS → Prop} {v0 : Nat} {v1 : Nat} {S : HS} (h : P_X4_bodyOf v0 v1 Q S) : P_X4_bodyOf v0 v1 (fun r T => Q r T ∧ K2 S T) S := kf_X4_bodyOf_0 h (k2_rf S)
set_option maxRecDepth 20000 in
set_option maxHeartbeats 1000000 in
theorem kf_X4_canBeName_86 {Q : Int32 → HS → Prop} {v0 : Nat} {s0 : Int32} {S0 S : HS} (h : P_X4_canBeName_86 Q v0 s0 S) (K : K2 S0 S) : P_X4_canBeName_86 (fun r T => Q r T ∧ K2 S0 T) v0 s0 S := by
  delta P_X4_canBeName_86 at h ⊢
  obtain ⟨c1, h⟩ := h
  refine ⟨c1, ?_⟩
  have n2 := k2_ne K c1 (by decide)
  intro x4 e3
  have h := h x4 e3
  refine ⟨?_, ?_⟩
  · intro c5
    have h := h.1 c5
    exact ⟨h, K⟩
  · intro c6
    have h := h.2 c6
    refine ⟨?_, ?_⟩
    · intro c7
      have h := h.1 c7
      exact ⟨h, K⟩
    · intro c8
      have h := h.2 c8
      exact ⟨h, K⟩
set_option maxRecDepth 20000 in
set_option maxHeartbeats 1000000 in
theorem kf_X4_canBeName_81 {Q : Int32 → HS → Prop} {v0 : Nat} {S0 S : HS} (h : P_X4_canBeName_81 Q v0 S) (K : K2 S0 S) : P_X4_canBeName_81 (fun r T => Q r T ∧ K2 S0 T) v0 S := by
  delta P_X4_canBeName_81 at h ⊢
  exact kf_X4_canBeName_86 h K
set_option maxRecDepth 20000 in
set_option maxHeartbeats 1000000 in
theorem kf_X4_canBeName_0 {Q : Int32 → HS → Prop} {v0 : Nat} {S0 S : HS} (h : P_X4_canBeName_0 Q v0 S) (K : K2 S0 S) : P_X4_canBeName_0 (fun r T => Q r T ∧ K2 S0 T) v0 S := by
  delta P_X4_canBeName_0 at h ⊢
  obtain ⟨c1, h⟩ := h
  refine ⟨c1, ?_⟩
  have n2 := k2_ne K c1 (by decide)
  refine cm_X4_is (kf_X4_is h) h (fun x3 x4 hp h g5 g6 => ?_)
  have h := h g5 g6
  have K := k2_tr K hp.2
  refine ⟨?_, ?_⟩
  · intro c7
    have h := h.1 c7
    exact kf_X4_canBeName_81 h K
  · intro c8
    have h := h.2 c8
    refine cm_X4_is (kf_X4_is h) h (fun x9 x10 hp h g11 g12 => ?_)
    have h := h g11 g12
    have K := k2_tr K hp.2
    refine ⟨?_, ?_⟩
    · intro c13
      have h := h.1 c13
      exact kf_X4_canBeName_81 h K
    · intro c14
      have h := h.2 c14
      refine cm_X4_is (kf_X4_is h) h (fun x15 x16 hp h g17 g18 => ?_)
      have h := h g17 g18
      have K := k2_tr K hp.2
      refine ⟨?_, ?_⟩
      · intro c19
        have h := h.1 c19
        exact kf_X4_canBeName_81 h K
      · intro c20
        have h := h.2 c20
        refine cm_X4_is (kf_X4_is h) h (fun x21 x22 hp h g23 g24 => ?_)
        have h := h g23 g24
        have K := k2_tr K hp.2
        refine ⟨?_, ?_⟩
        · intro c25
          have h := h.1 c25
          exact kf_X4_canBeName_81 h K
        · intro c26
          have h := h.2 c26
          refine cm_X4_is (kf_X4_is h) h (fun x27 x28 hp h g29 g30 => ?_)
          have h := h g29 g30
          have K := k2_tr K hp.2
          refine ⟨?_, ?_⟩
          · intro c31
            have h := h.1 c31
            exact kf_X4_canBeName_81 h K
          · intro c32
            have h := h.2 c32
            refine cm_X4_is (kf_X4_is h) h (fun x33 x34 hp h g35 g36 => ?_)
            have h := h g35 g36
            have K := k2_tr K hp.2
            refine ⟨?_, ?_⟩
            · intro c37
              have h := h.1 c37
              exact kf_X4_canBeName_81 h K
            · intro c38
              have h := h.2 c38
              refine cm_X4_is (kf_X4_is h) h (fun x39 x40 hp h g41 g42 => ?_)
              have h := h g41 g42
              have K := k2_tr K hp.2
              refine ⟨?_, ?_⟩
              · intro c43
                have h := h.1 c43
                exact kf_X4_canBeName_81 h K
              · intro c44
                have h := h.2 c44
                refine cm_X4_is (kf_X4_is h) h (fun x45 x46 hp h g47 g48 => ?_)
                have h := h g47 g48
                have K := k2_tr K hp.2
                refine ⟨?_, ?_⟩
                · intro c49
                  have h := h.1 c49
                  exact kf_X4_canBeName_81 h K
                · intro c50
                  have h := h.2 c50
                  refine cm_X4_is (kf_X4_is h) h (fun x51 x52 hp h g53 g54 => ?_)
                  have h := h g53 g54
                  have K := k2_tr K hp.2
                  refine ⟨?_, ?_⟩
                  · intro c55
                    have h := h.1 c55
                    exact kf_X4_canBeName_86 h K
                  · intro c56
                    have h := h.2 c56
                    exact kf_X4_canBeName_81 h K
theorem kf_X4_canBeName {Q : Int32 → HS → Prop} {v0 : Nat} {S : HS} (h : P_X4_canBeName v0 Q S) : P_X4_canBeName v0 (fun r T => Q r T ∧ K2 S T) S := kf_X4_canBeName_0 h (k2_rf S)
set_option maxRecDepth 20000 in
set_option maxHeartbeats 1000000 in
theorem kf_X4_exchange_0 {Q : Nat → HS → Prop} {v0 : Nat} {v1 : Nat} {S0 S : HS} (h : P_X4_exchange_0 Q v0 v1 S) (K : K2 S0 S) : P_X4_exchange_0 (fun r T => Q r T ∧ K2 S0 T) v0 v1 S := by
  delta P_X4_exchange_0 at h ⊢
  obtain ⟨c1, h⟩ := h
  refine ⟨c1, ?_⟩
  have n2 := k2_ne K c1 (by decide)
  obtain ⟨b3, e4, h⟩ := h
  refine ⟨b3, e4, ?_⟩
  intro x6 e5
  have h := h x6 e5
  have K := k2_R K e5
  exact ⟨h, K⟩
theorem kf_X4_exchange {Q : Nat → HS → Prop} {v0 : Nat} {v1 : Nat} {S : HS} (h : P_X4_exchange v0 v1 Q S) : P_X4_exchange v0 v1 (fun r T => Q r T ∧ K2 S T) S := kf_X4_exchange_0 h (k2_rf S)
set_option maxRecDepth 20000 in
set_option maxHeartbeats 1000000 in
theorem kfB_X4_findName_2 {Q : Int32 → HS → Prop} {X2 X2_2 : Nat → Int32 → HS → Prop} {v0 : Nat} {v1 : Int32} {S0 S : HS} (h : B_X4_findName_2 Q X2 v0 v1 S) (K : K2 S0 S) (hX2 : ∀ (u0 : Nat) (u1 : Int32) (u2 : HS), X2 u0 u1 u2 → K2 S0 u2 → X2_2 u0 u1 u2) : B_X4_findName_2 (fun r T => Q r T ∧ K2 S0 T) X2_2 v0 v1 S := by
  delta B_X4_findName_2 at h ⊢
  obtain ⟨c1, h⟩ := h
  refine ⟨c1, ?_⟩
  have n2 := k2_ne K c1 (by decide)
  intro x4 e3
  have h := h x4 e3
  refine ⟨?_, ?_⟩
  · intro c5
    have h := h.1 c5
    exact ⟨h, K⟩
  · intro c6
    have h := h.2 c6
    refine ⟨?_, ?_⟩
    · intro c7
      have h := h.1 c7
      exact ⟨h, K⟩
    · intro c8
      have h := h.2 c8
      obtain ⟨b9, e10, h⟩ := h
      refine ⟨b9, e10, ?_⟩
      obtain ⟨c11, h⟩ := h
      refine ⟨c11, ?_⟩
      have n12 := k2_ne K c11 (by decide)
      obtain ⟨c13, h⟩ := h
      refine ⟨c13, ?_⟩
      intro x15 e14
      have h := h x15 e14
      intro x17 e16
      have h := h x17 e16
      refine ⟨?_, ?_⟩
      · intro c18
        have h := h.1 c18
        intro x20 e19
        have h := h x20 e19
        exact hX2 _ _ _ h K
      · intro c21
        have h := h.2 c21
        obtain ⟨b22, e23, h⟩ := h
        refine ⟨b22, e23, ?_⟩
        obtain ⟨c24, h⟩ := h
        refine ⟨c24, ?_⟩
        have n25 := k2_ne K c24 (by decide)
        obtain ⟨c26, h⟩ := h
        refine ⟨c26, ?_⟩
        intro x28 e27
        have h := h x28 e27
        exact ⟨h, K⟩
theorem kf_X4_findName_2 {Q : Int32 → HS → Prop} {v0 : Nat} {v1 : Int32} {S0 S : HS} (h : P_X4_findName_2 Q v0 v1 S) (K : K2 S0 S) : P_X4_findName_2 (fun r T => Q r T ∧ K2 S0 T) v0 v1 S := h (fun v0 v1 S => K2 S0 S → P_X4_findName_2 (fun r T => Q r T ∧ K2 S0 T) v0 v1 S) (fun v0 v1 S hB K => fd_X4_findName_2 (kfB_X4_findName_2 hB K (fun _ _ _ hx K => hx K))) K
set_option maxRecDepth 20000 in
set_option maxHeartbeats 1000000 in
theorem kf_X4_findName_0 {Q : Int32 → HS → Prop} {v0 : Nat} {S0 S : HS} (h : P_X4_findName_0 Q v0 S) (K : K2 S0 S) : P_X4_findName_0 (fun r T => Q r T ∧ K2 S0 T) v0 S := by
  delta P_X4_findName_0 at h ⊢
  exact kf_X4_findName_2 h K
theorem kf_X4_findName {Q : Int32 → HS → Prop} {v0 : Nat} {S : HS} (h : P_X4_findName v0 Q S) : P_X4_findName v0 (fun r T => Q r T ∧ K2 S T) S := kf_X4_findName_0 h (k2_rf S)
set_option maxRecDepth 20000 in
set_option maxHeartbeats 1000000 in
theorem kf_X8_isTold_0 {Q : Int32 → HS → Prop} {v0 : Nat} {S0 S : HS} (h : P_X8_isTold_0 Q v0 S) (K : K2 S0 S) : P_X8_isTold_0 (fun r T => Q r T ∧ K2 S0 T) v0 S := by
  delta P_X8_isTold_0 at h ⊢
  obtain ⟨c1, h⟩ := h
  refine ⟨c1, ?_⟩
  have n2 := k2_ne K c1 (by decide)
  intro x4 e3
  have h := h x4 e3
  refine ⟨?_, ?_⟩
  · intro c5
    have h := h.1 c5
    exact ⟨h, K⟩
  · intro c6
    have h := h.2 c6
    exact ⟨h, K⟩
theorem kf_X8_isTold {Q : Int32 → HS → Prop} {v0 : Nat} {S : HS} (h : P_X8_isTold v0 Q S) : P_X8_isTold v0 (fun r T => Q r T ∧ K2 S T) S := kf_X8_isTold_0 h (k2_rf S)
set_option maxRecDepth 20000 in
set_option maxHeartbeats 1000000 in
theorem kf_X4_hasRoom_0 {Q : Int32 → HS → Prop} {v0 : Nat} {v1 : Int32} {v2 : Int32} {S0 S : HS} (h : P_X4_hasRoom_0 Q v0 v1 v2 S) (K : K2 S0 S) : P_X4_hasRoom_0 (fun r T => Q r T ∧ K2 S0 T) v0 v1 v2 S := by
  delta P_X4_hasRoom_0 at h ⊢
  obtain ⟨c1, h⟩ := h
  refine ⟨c1, ?_⟩
  have n2 := k2_ne K c1 (by decide)
  obtain ⟨b3, e4, h⟩ := h
  refine ⟨b3, e4, ?_⟩
  obtain ⟨c5, h⟩ := h
  refine ⟨c5, ?_⟩
  have n6 := k2_ne K c5 (by decide)
  refine cm_X8_isTold (kf_X8_isTold h) h (fun x7 x8 hp h g9 g10 => ?_)
  have h := h g9 g10
  have K := k2_tr K hp.2
  refine ⟨?_, ?_⟩
  · intro c11
    have h := h.1 c11
    refine ⟨?_, ?_⟩
    · intro c12
      have h := h.1 c12
      refine cm_X4_next (kf_X4_next h) h (fun x13 hp h g14 => ?_)
      have h := h g14
      have K := k2_tr K hp.2
      exact ⟨h, K⟩
    · intro c15
      have h := h.2 c15
      refine cm_X4_fail (kf_X4_fail h) h (fun x16 x17 hp h g18 g19 => ?_)
      have h := h g18 g19
      have K := k2_tr K hp.2
      obtain ⟨c20, h⟩ := h
      refine ⟨c20, ?_⟩
      exact ⟨h, K⟩
  · intro c21
    have h := h.2 c21
    refine cm_X4_fail (kf_X4_fail h) h (fun x22 x23 hp h g24 g25 => ?_)
    have h := h g24 g25
    have K := k2_tr K hp.2
    obtain ⟨c26, h⟩ := h
    refine ⟨c26, ?_⟩
    exact ⟨h, K⟩
theorem kf_X4_hasRoom {Q : Int32 → HS → Prop} {v0 : Nat} {v1 : Int32} {v2 : Int32} {S : HS} (h : P_X4_hasRoom v0 v1 v2 Q S) : P_X4_hasRoom v0 v1 v2 (fun r T => Q r T ∧ K2 S T) S := kf_X4_hasRoom_0 h (k2_rf S)
set_option maxRecDepth 20000 in
set_option maxHeartbeats 1000000 in
theorem kf_X4_kindOf_0 {Q : Int32 → HS → Prop} {v0 : Nat} {v1 : Nat} {S0 S : HS} (h : P_X4_kindOf_0 Q v0 v1 S) (K : K2 S0 S) : P_X4_kindOf_0 (fun r T => Q r T ∧ K2 S0 T) v0 v1 S := by
  delta P_X4_kindOf_0 at h ⊢
  obtain ⟨c1, h⟩ := h
  refine ⟨c1, ?_⟩
  have n2 := k2_ne K c1 (by decide)
  intro x4 e3
  have h := h x4 e3
  have K := k2_I K e3 n2
  refine cm_X4_is (kf_X4_is h) h (fun x5 x6 hp h g7 g8 => ?_)
  have h := h g7 g8
  have K := k2_tr K hp.2
  refine ⟨?_, ?_⟩
  · intro c9
    have h := h.1 c9
    refine cm_X4_is (kf_X4_is h) h (fun x10 x11 hp h g12 g13 => ?_)
    have h := h g12 g13
    have K := k2_tr K hp.2
    refine ⟨?_, ?_⟩
    · intro c14
      have h := h.1 c14
      refine cm_X4_is (kf_X4_is h) h (fun x15 x16 hp h g17 g18 => ?_)
      have h := h g17 g18
      have K := k2_tr K hp.2
      refine ⟨?_, ?_⟩
      · intro c19
        have h := h.1 c19
        obtain ⟨c20, h⟩ := h
        refine ⟨c20, ?_⟩
        have n21 := k2_ne K c20 (by decide)
        intro x23 e22
        have h := h x23 e22
        have K := k2_I K e22 n21
        refine cm_X4_word (kf_X4_word h) h (fun x24 x25 hp h g26 g27 => ?_)
        have h := h g26 g27
        have K := k2_tr K hp.2
        intro x29 e28
        have h := h x29 e28
        intro x31 e30
        have h := h x31 e30
        have K := k2_I K e30 n21
        obtain ⟨c32, h⟩ := h
        refine ⟨c32, ?_⟩
        exact ⟨h, K⟩
      · intro c33
        have h := h.2 c33
        obtain ⟨c34, h⟩ := h
        refine ⟨c34, ?_⟩
        have n35 := k2_ne K c34 (by decide)
        intro x37 e36
        have h := h x37 e36
        have K := k2_I K e36 n35
        refine cm_X4_wordAndWhole (kf_X4_wordAndWhole h) h (fun x38 x39 hp h g40 g41 => ?_)
        have h := h g40 g41
        have K := k2_tr K hp.2
        intro x43 e42
        have h := h x43 e42
        intro x45 e44
        have h := h x45 e44
        have K := k2_I K e44 n35
        obtain ⟨c46, h⟩ := h
        refine ⟨c46, ?_⟩
        exact ⟨h, K⟩
    · intro c47
      have h := h.2 c47
      obtain ⟨c48, h⟩ := h
      refine ⟨c48, ?_⟩
      have n49 := k2_ne K c48 (by decide)
      intro x51 e50
      have h := h x51 e50
      have K := k2_I K e50 n49
      refine cm_X4_wordAndWhole (kf_X4_wordAndWhole h) h (fun x52 x53 hp h g54 g55 => ?_)
      have h := h g54 g55
      have K := k2_tr K hp.2
      intro x57 e56
      have h := h x57 e56
      intro x59 e58
      have h := h x59 e58
      have K := k2_I K e58 n49
      obtain ⟨c60, h⟩ := h
      refine ⟨c60, ?_⟩
      exact ⟨h, K⟩
  · intro c61
    have h := h.2 c61
    obtain ⟨c62, h⟩ := h
    refine ⟨c62, ?_⟩
    have n63 := k2_ne K c62 (by decide)
    intro x65 e64
    have h := h x65 e64
    have K := k2_I K e64 n63
    refine cm_X4_wordAndWhole (kf_X4_wordAndWhole h) h (fun x66 x67 hp h g68 g69 => ?_)
    have h := h g68 g69
    have K := k2_tr K hp.2
    intro x71 e70
    have h := h x71 e70
    intro x73 e72
    have h := h x73 e72
    have K := k2_I K e72 n63
    obtain ⟨c74, h⟩ := h
    refine ⟨c74, ?_⟩
    exact ⟨h, K⟩
theorem kf_X4_kindOf {Q : Int32 → HS → Prop} {v0 : Nat} {v1 : Nat} {S : HS} (h : P_X4_kindOf v0 v1 Q S) : P_X4_kindOf v0 v1 (fun r T => Q r T ∧ K2 S T) S := kf_X4_kindOf_0 h (k2_rf S)
set_option maxRecDepth 20000 in
set_option maxHeartbeats 1000000 in
theorem kf_X4_newName_69 {Q : Int32 → HS → Prop} {v0 : Nat} {S0 S : HS} (h : P_X4_newName_69 Q v0 S) (K : K2 S0 S) : P_X4_newName_69 (fun r T => Q r T ∧ K2 S0 T) v0 S := by
  delta P_X4_newName_69 at h ⊢
  obtain ⟨c1, h⟩ := h
  refine ⟨c1, ?_⟩
  have n2 := k2_ne K c1 (by decide)
  refine cm_X4_next (kf_X4_next h) h (fun x3 hp h g4 => ?_)
  have h := h g4
  have K := k2_tr K hp.2
  exact ⟨h, K⟩
set_option maxRecDepth 20000 in
set_option maxHeartbeats 1000000 in
theorem kf_X4_newName_0 {Q : Int32 → HS → Prop} {v0 : Nat} {v1 : Int32} {S0 S : HS} (h : P_X4_newName_0 Q v0 v1 S) (K : K2 S0 S) : P_X4_newName_0 (fun r T => Q r T ∧ K2 S0 T) v0 v1 S := by
  delta P_X4_newName_0 at h ⊢
  obtain ⟨c1, h⟩ := h
  refine ⟨c1, ?_⟩
  have n2 := k2_ne K c1 (by decide)
  refine cm_X4_canBeName (kf_X4_canBeName h) h (fun x3 x4 hp h g5 g6 => ?_)
  have h := h g5 g6
  have K := k2_tr K hp.2
  refine ⟨?_, ?_⟩
  · intro c7
    have h := h.1 c7
    refine cm_X4_findName (kf_X4_findName h) h (fun x8 x9 hp h g10 => ?_)
    have h := h g10
    have K := k2_tr K hp.2
    refine ⟨?_, ?_⟩
    · intro c11
      have h := h.1 c11
      intro x13 e12
      have h := h x13 e12
      refine ⟨?_, ?_⟩
      · intro c14
        have h := h.1 c14
        exact kf_X4_newName_69 h K
      · intro c15
        have h := h.2 c15
        obtain ⟨b16, e17, h⟩ := h
        refine ⟨b16, e17, ?_⟩
        intro x19 e18
        have h := h x19 e18
        intro x21 e20
        have h := h x21 e20
        obtain ⟨c22, h⟩ := h
        refine ⟨c22, ?_⟩
        have n23 := k2_ne K c22 (by decide)
        obtain ⟨c24, h⟩ := h
        refine ⟨c24, ?_⟩
        intro x26 e25
        have h := h x26 e25
        have K := k2_J K e25
        obtain ⟨b27, e28, h⟩ := h
        refine ⟨b27, e28, ?_⟩
        intro x30 e29
        have h := h x30 e29
        obtain ⟨c31, h⟩ := h
        refine ⟨c31, ?_⟩
        have n32 := k2_ne K c31 (by decide)
        obtain ⟨c33, h⟩ := h
        refine ⟨c33, ?_⟩
        intro x35 e34
        have h := h x35 e34
        have K := k2_I K e34 n32
        intro x37 e36
        have h := h x37 e36
        intro x39 e38
        have h := h x39 e38
        intro x41 e40
        have h := h x41 e40
        have K := k2_I K e40 n2
        exact kf_X4_newName_69 h K
    · intro c42
      have h := h.2 c42
      refine cm_X4_fail (kf_X4_fail h) h (fun x43 x44 hp h g45 g46 => ?_)
      have h := h g45 g46
      have K := k2_tr K hp.2
      obtain ⟨c47, h⟩ := h
      refine ⟨c47, ?_⟩
      exact ⟨h, K⟩
  · intro c48
    have h := h.2 c48
    refine cm_X4_fail (kf_X4_fail h) h (fun x49 x50 hp h g51 g52 => ?_)
    have h := h g51 g52
    have K := k2_tr K hp.2
    obtain ⟨c53, h⟩ := h
    refine ⟨c53, ?_⟩
    exact ⟨h, K⟩
theorem kf_X4_newName {Q : Int32 → HS → Prop} {v0 : Nat} {v1 : Int32} {S : HS} (h : P_X4_newName v0 v1 Q S) : P_X4_newName v0 v1 (fun r T => Q r T ∧ K2 S T) S := kf_X4_newName_0 h (k2_rf S)
set_option maxRecDepth 20000 in
set_option maxHeartbeats 1000000 in
theorem kf_X8_clear_0 {Q : HS → Prop} {v0 : Nat} {S0 S : HS} (h : P_X8_clear_0 Q v0 S) (K : K2 S0 S) : P_X8_clear_0 (fun T => Q T ∧ K2 S0 T) v0 S := by
  delta P_X8_clear_0 at h ⊢
  obtain ⟨c1, h⟩ := h
  refine ⟨c1, ?_⟩
  have n2 := k2_ne K c1 (by decide)
  intro x4 e3
  have h := h x4 e3
  have K := k2_I K e3 n2
  intro x6 e5
  have h := h x6 e5
  have K := k2_I K e5 n2
  intro x8 e7
  have h := h x8 e7
  have K := k2_I K e7 n2
  intro x10 e9
  have h := h x10 e9
  have K := k2_I K e9 n2
  intro x12 e11
  have h := h x12 e11
  have K := k2_I K e11 n2
  intro x14 e13
  have h := h x14 e13
  have K := k2_I K e13 n2
  exact ⟨h, K⟩
theorem kf_X8_clear {Q : HS → Prop} {v0 : Nat} {S : HS} (h : P_X8_clear v0 Q S) : P_X8_clear v0 (fun T => Q T ∧ K2 S T) S := kf_X8_clear_0 h (k2_rf S)
set_option maxRecDepth 20000 in
set_option maxHeartbeats 1000000 in
theorem kf_X4_open_0 {Q : HS → Prop} {v0 : Nat} {v1 : Nat} {v2 : Int32} {S0 S : HS} (h : P_X4_open_0 Q v0 v1 v2 S) (K : K2 S0 S) : P_X4_open_0 (fun T => Q T ∧ K2 S0 T) v0 v1 v2 S := by
  delta P_X4_open_0 at h ⊢
  obtain ⟨c1, h⟩ := h
  refine ⟨c1, ?_⟩
  have n2 := k2_ne K c1 (by decide)
  intro x4 e3
  have h := h x4 e3
  have K := k2_R K e3
  obtain ⟨c5, h⟩ := h
  refine ⟨c5, ?_⟩
  intro x7 e6
  have h := h x7 e6
  intro x9 e8
  have h := h x9 e8
  have K := k2_I K e8 n2
  intro x11 e10
  have h := h x11 e10
  have K := k2_I K e10 n2
  intro x13 e12
  have h := h x13 e12
  have K := k2_I K e12 n2
  intro x15 e14
  have h := h x15 e14
  have K := k2_I K e14 n2
  intro x17 e16
  have h := h x17 e16
  have K := k2_I K e16 n2
  obtain ⟨b18, e19, h⟩ := h
  refine ⟨b18, e19, ?_⟩
  obtain ⟨c20, h⟩ := h
  refine ⟨c20, ?_⟩
  have n21 := k2_ne K c20 (by decide)
  refine cm_X8_clear (kf_X8_clear h) h (fun x22 hp h g23 => ?_)
  have h := h g23
  have K := k2_tr K hp.2
  refine cm_X4_next (kf_X4_next h) h (fun x24 hp h g25 => ?_)
  have h := h g25
  have K := k2_tr K hp.2
  exact ⟨h, K⟩
theorem kf_X4_open {Q : HS → Prop} {v0 : Nat} {v1 : Nat} {v2 : Int32} {S : HS} (h : P_X4_open v0 v1 v2 Q S) : P_X4_open v0 v1 v2 (fun T => Q T ∧ K2 S T) S := kf_X4_open_0 h (k2_rf S)
set_option maxRecDepth 20000 in
set_option maxHeartbeats 1000000 in
theorem kf_X4_placeBut_29 {Q : Int32 → HS → Prop} {v0 : Nat} {S0 S : HS} (h : P_X4_placeBut_29 Q v0 S) (K : K2 S0 S) : P_X4_placeBut_29 (fun r T => Q r T ∧ K2 S0 T) v0 S := by
  delta P_X4_placeBut_29 at h ⊢
  obtain ⟨c1, h⟩ := h
  refine ⟨c1, ?_⟩
  have n2 := k2_ne K c1 (by decide)
  refine cm_X4_fail (kf_X4_fail h) h (fun x3 x4 hp h g5 g6 => ?_)
  have h := h g5 g6
  have K := k2_tr K hp.2
  obtain ⟨c7, h⟩ := h
  refine ⟨c7, ?_⟩
  exact ⟨h, K⟩
set_option maxRecDepth 20000 in
set_option maxHeartbeats 1000000 in
theorem kf_X4_placeBut_0 {Q : Int32 → HS → Prop} {v0 : Nat} {v1 : Int32} {S0 S : HS} (h : P_X4_placeBut_0 Q v0 v1 S) (K : K2 S0 S) : P_X4_placeBut_0 (fun r T => Q r T ∧ K2 S0 T) v0 v1 S := by
  delta P_X4_placeBut_0 at h ⊢
  obtain ⟨c1, h⟩ := h
  refine ⟨c1, ?_⟩
  have n2 := k2_ne K c1 (by decide)
  refine cm_X4_canBeName (kf_X4_canBeName h) h (fun x3 x4 hp h g5 g6 => ?_)
  have h := h g5 g6
  have K := k2_tr K hp.2
  refine ⟨?_, ?_⟩
  · intro c7
    have h := h.1 c7
    refine cm_X4_findName (kf_X4_findName h) h (fun x8 x9 hp h g10 => ?_)
    have h := h g10
    have K := k2_tr K hp.2
    refine ⟨?_, ?_⟩
    · intro c11
      have h := h.1 c11
      exact kf_X4_placeBut_29 h K
    · intro c12
      have h := h.2 c12
      refine ⟨?_, ?_⟩
      · intro c13
        have h := h.1 c13
        refine ⟨?_, ?_⟩
        · intro c14
          have h := h.1 c14
          intro x16 e15
          have h := h x16 e15
          have K := k2_I K e15 n2
          refine cm_X4_next (kf_X4_next h) h (fun x17 hp h g18 => ?_)
          have h := h g18
          have K := k2_tr K hp.2
          exact ⟨h, K⟩
        · intro c19
          have h := h.2 c19
          refine cm_X4_fail (kf_X4_fail h) h (fun x20 x21 hp h g22 g23 => ?_)
          have h := h g22 g23
          have K := k2_tr K hp.2
          obtain ⟨c24, h⟩ := h
          refine ⟨c24, ?_⟩
          exact ⟨h, K⟩
      · intro c25
        have h := h.2 c25
        exact kf_X4_placeBut_29 h K
  · intro c26
    have h := h.2 c26
    refine cm_X4_fail (kf_X4_fail h) h (fun x27 x28 hp h g29 g30 => ?_)
    have h := h g29 g30
    have K := k2_tr K hp.2
    obtain ⟨c31, h⟩ := h
    refine ⟨c31, ?_⟩
    exact ⟨h, K⟩
theorem kf_X4_placeBut {Q : Int32 → HS → Prop} {v0 : Nat} {v1 : Int32} {S : HS} (h : P_X4_placeBut v0 v1 Q S) : P_X4_placeBut v0 v1 (fun r T => Q r T ∧ K2 S T) S := kf_X4_placeBut_0 h (k2_rf S)
end
section
set_option maxRecDepth 20000 in
set_option maxHeartbeats 1000000 in
theorem kf_X4_placeLine_64 {Q : Int32 → HS → Prop} {v0 : Nat} {v1 : Int32} {S0 S : HS} (h : P_X4_placeLine_64 Q v0 v1 S) (K : K2 S0 S) : P_X4_placeLine_64 (fun r T => Q r T ∧ K2 S0 T) v0 v1 S := by
  delta P_X4_placeLine_64 at h ⊢
  obtain ⟨c1, h⟩ := h
  refine ⟨c1, ?_⟩
  have n2 := k2_ne K c1 (by decide)
  obtain ⟨b3, e4, h⟩ := h
  refine ⟨b3, e4, ?_⟩
  obtain ⟨c5, h⟩ := h
  refine ⟨c5, ?_⟩
  have n6 := k2_ne K c5 (by decide)
  obtain ⟨b7, e8, h⟩ := h
  refine ⟨b7, e8, ?_⟩
  obtain ⟨b9, e10, h⟩ := h
  refine ⟨b9, e10, ?_⟩
  obtain ⟨c11, h⟩ := h
  refine ⟨c11, ?_⟩
  have n12 := k2_ne K c11 (by decide)
  intro x14 e13
  have h := h x14 e13
  obtain ⟨c15, h⟩ := h
  refine ⟨c15, ?_⟩
  have n16 := k2_ne K c15 (by decide)
  obtain ⟨c17, h⟩ := h
  refine ⟨c17, ?_⟩
  intro x19 e18
  have h := h x19 e18
  have K := k2_I K e18 n16
  obtain ⟨b20, e21, h⟩ := h
  refine ⟨b20, e21, ?_⟩
  obtain ⟨c22, h⟩ := h
  refine ⟨c22, ?_⟩
  have n23 := k2_ne K c22 (by decide)
  intro x25 e24
  have h := h x25 e24
  intro x27 e26
  have h := h x27 e26
  intro x29 e28
  have h := h x29 e28
  have K := k2_I K e28 n23
  exact ⟨h, K⟩
set_option maxRecDepth 20000 in
set_option maxHeartbeats 1000000 in
theorem kf_X4_placeLine_0 {Q : Int32 → HS → Prop} {v0 : Nat} {S0 S : HS} (h : P_X4_placeLine_0 Q v0 S) (K : K2 S0 S) : P_X4_placeLine_0 (fun r T => Q r T ∧ K2 S0 T) v0 S := by
  delta P_X4_placeLine_0 at h ⊢
  obtain ⟨c1, h⟩ := h
  refine ⟨c1, ?_⟩
  have n2 := k2_ne K c1 (by decide)
  obtain ⟨b3, e4, h⟩ := h
  refine ⟨b3, e4, ?_⟩
  obtain ⟨c5, h⟩ := h
  refine ⟨c5, ?_⟩
  have n6 := k2_ne K c5 (by decide)
  intro x8 e7
  have h := h x8 e7
  refine cm_X4_newName (kf_X4_newName h) h (fun x9 x10 hp h g11 g12 => ?_)
  have h := h g11 g12
  have K := k2_tr K hp.2
  refine ⟨?_, ?_⟩
  · intro c13
    have h := h.1 c13
    refine cm_X4_is (kf_X4_is h) h (fun x14 x15 hp h g16 g17 => ?_)
    have h := h g16 g17
    have K := k2_tr K hp.2
    refine ⟨?_, ?_⟩
    · intro c18
      have h := h.1 c18
      refine cm_X4_is (kf_X4_is h) h (fun x19 x20 hp h g21 g22 => ?_)
      have h := h g21 g22
      have K := k2_tr K hp.2
      refine ⟨?_, ?_⟩
      · intro c23
        have h := h.1 c23
        exact kf_X4_placeLine_64 h K
      · intro c24
        have h := h.2 c24
        refine cm_X4_wordAndWhole (kf_X4_wordAndWhole h) h (fun x25 x26 hp h g27 g28 => ?_)
        have h := h g27 g28
        have K := k2_tr K hp.2
        refine ⟨?_, ?_⟩
        · intro c29
          have h := h.1 c29
          intro x31 e30
          have h := h x31 e30
          exact kf_X4_placeLine_64 h K
        · intro c32
          have h := h.2 c32
          exact ⟨h, K⟩
    · intro c33
      have h := h.2 c33
      refine cm_X4_next (kf_X4_next h) h (fun x34 hp h g35 => ?_)
      have h := h g35
      have K := k2_tr K hp.2
      exact kf_X4_placeLine_64 h K
  · intro c36
    have h := h.2 c36
    exact ⟨h, K⟩
theorem kf_X4_placeLine {Q : Int32 → HS → Prop} {v0 : Nat} {S : HS} (h : P_X4_placeLine v0 Q S) : P_X4_placeLine v0 (fun r T => Q r T ∧ K2 S T) S := kf_X4_placeLine_0 h (k2_rf S)
set_option maxRecDepth 20000 in
set_option maxHeartbeats 1000000 in
theorem kf_X4_side_74 {Q : Int32 → HS → Prop} {v0 : Nat} {S0 S : HS} (h : P_X4_side_74 Q v0 S) (K : K2 S0 S) : P_X4_side_74 (fun r T => Q r T ∧ K2 S0 T) v0 S := by
  delta P_X4_side_74 at h ⊢
  obtain ⟨c1, h⟩ := h
  refine ⟨c1, ?_⟩
  have n2 := k2_ne K c1 (by decide)
  refine cm_X4_next (kf_X4_next h) h (fun x3 hp h g4 => ?_)
  have h := h g4
  have K := k2_tr K hp.2
  exact ⟨h, K⟩
set_option maxRecDepth 20000 in
set_option maxHeartbeats 1000000 in
theorem kf_X4_side_0 {Q : Int32 → HS → Prop} {v0 : Nat} {S0 S : HS} (h : P_X4_side_0 Q v0 S) (K : K2 S0 S) : P_X4_side_0 (fun r T => Q r T ∧ K2 S0 T) v0 S := by
  delta P_X4_side_0 at h ⊢
  obtain ⟨c1, h⟩ := h
  refine ⟨c1, ?_⟩
  have n2 := k2_ne K c1 (by decide)
  refine cm_X4_is (kf_X4_is h) h (fun x3 x4 hp h g5 g6 => ?_)
  have h := h g5 g6
  have K := k2_tr K hp.2
  refine ⟨?_, ?_⟩
  · intro c7
    have h := h.1 c7
    refine cm_X4_is (kf_X4_is h) h (fun x8 x9 hp h g10 g11 => ?_)
    have h := h g10 g11
    have K := k2_tr K hp.2
    refine ⟨?_, ?_⟩
    · intro c12
      have h := h.1 c12
      refine cm_X4_is (kf_X4_is h) h (fun x13 x14 hp h g15 g16 => ?_)
      have h := h g15 g16
      have K := k2_tr K hp.2
      refine ⟨?_, ?_⟩
      · intro c17
        have h := h.1 c17
        refine cm_X4_is (kf_X4_is h) h (fun x18 x19 hp h g20 g21 => ?_)
        have h := h g20 g21
        have K := k2_tr K hp.2
        refine ⟨?_, ?_⟩
        · intro c22
          have h := h.1 c22
          refine cm_X4_fail (kf_X4_fail h) h (fun x23 x24 hp h g25 g26 => ?_)
          have h := h g25 g26
          have K := k2_tr K hp.2
          obtain ⟨c27, h⟩ := h
          refine ⟨c27, ?_⟩
          exact ⟨h, K⟩
        · intro c28
          have h := h.2 c28
          intro x30 e29
          have h := h x30 e29
          have K := k2_I K e29 n2
          exact kf_X4_side_74 h K
      · intro c31
        have h := h.2 c31
        intro x33 e32
        have h := h x33 e32
        have K := k2_I K e32 n2
        exact kf_X4_side_74 h K
    · intro c34
      have h := h.2 c34
      intro x36 e35
      have h := h x36 e35
      have K := k2_I K e35 n2
      exact kf_X4_side_74 h K
  · intro c37
    have h := h.2 c37
    intro x39 e38
    have h := h x39 e38
    have K := k2_I K e38 n2
    exact kf_X4_side_74 h K
theorem kf_X4_side {Q : Int32 → HS → Prop} {v0 : Nat} {S : HS} (h : P_X4_side v0 Q S) : P_X4_side v0 (fun r T => Q r T ∧ K2 S T) S := kf_X4_side_0 h (k2_rf S)
set_option maxRecDepth 20000 in
set_option maxHeartbeats 1000000 in
theorem kf_X4_rainLine_0 {Q : Int32 → HS → Prop} {v0 : Nat} {S0 S : HS} (h : P_X4_rainLine_0 Q v0 S) (K : K2 S0 S) : P_X4_rainLine_0 (fun r T => Q r T ∧ K2 S0 T) v0 S := by
  delta P_X4_rainLine_0 at h ⊢
  obtain ⟨c1, h⟩ := h
  refine ⟨c1, ?_⟩
  have n2 := k2_ne K c1 (by decide)
  obtain ⟨b3, e4, h⟩ := h
  refine ⟨b3, e4, ?_⟩
  obtain ⟨c5, h⟩ := h
  refine ⟨c5, ?_⟩
  have n6 := k2_ne K c5 (by decide)
  obtain ⟨b7, e8, h⟩ := h
  refine ⟨b7, e8, ?_⟩
  obtain ⟨b9, e10, h⟩ := h
  refine ⟨b9, e10, ?_⟩
  obtain ⟨c11, h⟩ := h
  refine ⟨c11, ?_⟩
  have n12 := k2_ne K c11 (by decide)
  intro x14 e13
  have h := h x14 e13
  obtain ⟨c15, h⟩ := h
  refine ⟨c15, ?_⟩
  have n16 := k2_ne K c15 (by decide)
  obtain ⟨c17, h⟩ := h
  refine ⟨c17, ?_⟩
  obtain ⟨b18, e19, h⟩ := h
  refine ⟨b18, e19, ?_⟩
  refine cm_X4_wordAndWhole (kf_X4_wordAndWhole h) h (fun x20 x21 hp h g22 g23 => ?_)
  have h := h g22 g23
  have K := k2_tr K hp.2
  refine ⟨?_, ?_⟩
  · intro c24
    have h := h.1 c24
    intro x26 e25
    have h := h x26 e25
    obtain ⟨c27, h⟩ := h
    refine ⟨c27, ?_⟩
    have n28 := k2_ne K c27 (by decide)
    intro x30 e29
    have h := h x30 e29
    have K := k2_I K e29 n28
    refine cm_X4_wordAndWhole (kf_X4_wordAndWhole h) h (fun x31 x32 hp h g33 g34 => ?_)
    have h := h g33 g34
    have K := k2_tr K hp.2
    refine ⟨?_, ?_⟩
    · intro c35
      have h := h.1 c35
      intro x37 e36
      have h := h x37 e36
      intro x39 e38
      have h := h x39 e38
      have K := k2_I K e38 n28
      refine cm_X4_word (kf_X4_word h) h (fun x40 x41 hp h g42 g43 => ?_)
      have h := h g42 g43
      have K := k2_tr K hp.2
      refine ⟨?_, ?_⟩
      · intro c44
        have h := h.1 c44
        exact ⟨h, K⟩
      · intro c45
        have h := h.2 c45
        refine cm_X4_side (kf_X4_side h) h (fun x46 x47 hp h g48 g49 => ?_)
        have h := h g48 g49
        have K := k2_tr K hp.2
        refine ⟨?_, ?_⟩
        · intro c50
          have h := h.1 c50
          intro x52 e51
          have h := h x52 e51
          intro x54 e53
          have h := h x54 e53
          have K := k2_I K e53 n28
          refine cm_X4_whole (kf_X4_whole h) h (fun x55 x56 hp h g57 g58 => ?_)
          have h := h g57 g58
          have K := k2_tr K hp.2
          refine ⟨?_, ?_⟩
          · intro c59
            have h := h.1 c59
            intro x61 e60
            have h := h x61 e60
            intro x63 e62
            have h := h x63 e62
            have K := k2_I K e62 n28
            refine cm_X4_wordAndWhole (kf_X4_wordAndWhole h) h (fun x64 x65 hp h g66 g67 => ?_)
            have h := h g66 g67
            have K := k2_tr K hp.2
            refine ⟨?_, ?_⟩
            · intro c68
              have h := h.1 c68
              intro x70 e69
              have h := h x70 e69
              intro x72 e71
              have h := h x72 e71
              have K := k2_I K e71 n28
              obtain ⟨b73, e74, h⟩ := h
              refine ⟨b73, e74, ?_⟩
              obtain ⟨c75, h⟩ := h
              refine ⟨c75, ?_⟩
              have n76 := k2_ne K c75 (by decide)
              intro x78 e77
              have h := h x78 e77
              intro x80 e79
              have h := h x80 e79
              intro x82 e81
              have h := h x82 e81
              have K := k2_I K e81 n76
              exact ⟨h, K⟩
            · intro c83
              have h := h.2 c83
              exact ⟨h, K⟩
          · intro c84
            have h := h.2 c84
            exact ⟨h, K⟩
        · intro c85
          have h := h.2 c85
          exact ⟨h, K⟩
    · intro c86
      have h := h.2 c86
      exact ⟨h, K⟩
  · intro c87
    have h := h.2 c87
    exact ⟨h, K⟩
theorem kf_X4_rainLine {Q : Int32 → HS → Prop} {v0 : Nat} {S : HS} (h : P_X4_rainLine v0 Q S) : P_X4_rainLine v0 (fun r T => Q r T ∧ K2 S T) S := kf_X4_rainLine_0 h (k2_rf S)
set_option maxRecDepth 20000 in
set_option maxHeartbeats 1000000 in
theorem kf_X4_roadLine_130 {Q : Int32 → HS → Prop} {v0 : Nat} {S0 S : HS} (h : P_X4_roadLine_130 Q v0 S) (K : K2 S0 S) : P_X4_roadLine_130 (fun r T => Q r T ∧ K2 S0 T) v0 S := by
  delta P_X4_roadLine_130 at h ⊢
  obtain ⟨c1, h⟩ := h
  refine ⟨c1, ?_⟩
  have n2 := k2_ne K c1 (by decide)
  obtain ⟨b3, e4, h⟩ := h
  refine ⟨b3, e4, ?_⟩
  obtain ⟨c5, h⟩ := h
  refine ⟨c5, ?_⟩
  have n6 := k2_ne K c5 (by decide)
  intro x8 e7
  have h := h x8 e7
  intro x10 e9
  have h := h x10 e9
  intro x12 e11
  have h := h x12 e11
  have K := k2_I K e11 n6
  exact ⟨h, K⟩
set_option maxRecDepth 20000 in
set_option maxHeartbeats 1000000 in
theorem kf_X4_roadLine_0 {Q : Int32 → HS → Prop} {v0 : Nat} {S0 S : HS} (h : P_X4_roadLine_0 Q v0 S) (K : K2 S0 S) : P_X4_roadLine_0 (fun r T => Q r T ∧ K2 S0 T) v0 S := by
  delta P_X4_roadLine_0 at h ⊢
  obtain ⟨c1, h⟩ := h
  refine ⟨c1, ?_⟩
  have n2 := k2_ne K c1 (by decide)
  obtain ⟨b3, e4, h⟩ := h
  refine ⟨b3, e4, ?_⟩
  obtain ⟨c5, h⟩ := h
  refine ⟨c5, ?_⟩
  have n6 := k2_ne K c5 (by decide)
  obtain ⟨b7, e8, h⟩ := h
  refine ⟨b7, e8, ?_⟩
  obtain ⟨b9, e10, h⟩ := h
  refine ⟨b9, e10, ?_⟩
  obtain ⟨c11, h⟩ := h
  refine ⟨c11, ?_⟩
  have n12 := k2_ne K c11 (by decide)
  intro x14 e13
  have h := h x14 e13
  obtain ⟨c15, h⟩ := h
  refine ⟨c15, ?_⟩
  have n16 := k2_ne K c15 (by decide)
  obtain ⟨c17, h⟩ := h
  refine ⟨c17, ?_⟩
  obtain ⟨b18, e19, h⟩ := h
  refine ⟨b18, e19, ?_⟩
  refine cm_X4_placeBut (kf_X4_placeBut h) h (fun x20 x21 hp h g22 g23 => ?_)
  have h := h g22 g23
  have K := k2_tr K hp.2
  refine ⟨?_, ?_⟩
  · intro c24
    have h := h.1 c24
    intro x26 e25
    have h := h x26 e25
    obtain ⟨c27, h⟩ := h
    refine ⟨c27, ?_⟩
    have n28 := k2_ne K c27 (by decide)
    intro x30 e29
    have h := h x30 e29
    have K := k2_I K e29 n28
    refine cm_X4_side (kf_X4_side h) h (fun x31 x32 hp h g33 g34 => ?_)
    have h := h g33 g34
    have K := k2_tr K hp.2
    refine ⟨?_, ?_⟩
    · intro c35
      have h := h.1 c35
      intro x37 e36
      have h := h x37 e36
      intro x39 e38
      have h := h x39 e38
      have K := k2_I K e38 n28
      refine cm_X4_whole (kf_X4_whole h) h (fun x40 x41 hp h g42 g43 => ?_)
      have h := h g42 g43
      have K := k2_tr K hp.2
      refine ⟨?_, ?_⟩
      · intro c44
        have h := h.1 c44
        intro x46 e45
        have h := h x46 e45
        intro x48 e47
        have h := h x48 e47
        have K := k2_I K e47 n28
        intro x50 e49
        have h := h x50 e49
        refine cm_X4_placeBut (kf_X4_placeBut h) h (fun x51 x52 hp h g53 g54 => ?_)
        have h := h g53 g54
        have K := k2_tr K hp.2
        refine ⟨?_, ?_⟩
        · intro c55
          have h := h.1 c55
          intro x57 e56
          have h := h x57 e56
          intro x59 e58
          have h := h x59 e58
          have K := k2_I K e58 n28
          intro x61 e60
          have h := h x61 e60
          have K := k2_I K e60 n28
          refine cm_X4_is (kf_X4_is h) h (fun x62 x63 hp h g64 g65 => ?_)
          have h := h g64 g65
          have K := k2_tr K hp.2
          refine ⟨?_, ?_⟩
          · intro c66
            have h := h.1 c66
            exact kf_X4_roadLine_130 h K
          · intro c67
            have h := h.2 c67
            intro x69 e68
            have h := h x69 e68
            refine cm_X4_wordAndWhole (kf_X4_wordAndWhole h) h (fun x70 x71 hp h g72 g73 => ?_)
            have h := h g72 g73
            have K := k2_tr K hp.2
            refine ⟨?_, ?_⟩
            · intro c74
              have h := h.1 c74
              intro x76 e75
              have h := h x76 e75
              intro x78 e77
              have h := h x78 e77
              have K := k2_I K e77 n28
              exact kf_X4_roadLine_130 h K
            · intro c79
              have h := h.2 c79
              exact ⟨h, K⟩
        · intro c80
          have h := h.2 c80
          exact ⟨h, K⟩
      · intro c81
        have h := h.2 c81
        exact ⟨h, K⟩
    · intro c82
      have h := h.2 c82
      exact ⟨h, K⟩
  · intro c83
    have h := h.2 c83
    exact ⟨h, K⟩
theorem kf_X4_roadLine {Q : Int32 → HS → Prop} {v0 : Nat} {S : HS} (h : P_X4_roadLine v0 Q S) : P_X4_roadLine v0 (fun r T => Q r T ∧ K2 S T) S := kf_X4_roadLine_0 h (k2_rf S)
set_option maxRecDepth 20000 in
set_option maxHeartbeats 1000000 in
theorem kf_X4_sign_0 {Q : Int32 → HS → Prop} {v0 : Nat} {v1 : Int32} {S0 S : HS} (h : P_X4_sign_0 Q v0 v1 S) (K : K2 S0 S) : P_X4_sign_0 (fun r T => Q r T ∧ K2 S0 T) v0 v1 S := by
  delta P_X4_sign_0 at h ⊢
  obtain ⟨c1, h⟩ := h
  refine ⟨c1, ?_⟩
  have n2 := k2_ne K c1 (by decide)
  intro x4 e3
  have h := h x4 e3
  refine ⟨?_, ?_⟩
  · intro c5
    have h := h.1 c5
    refine cm_X4_next (kf_X4_next h) h (fun x6 hp h g7 => ?_)
    have h := h g7
    have K := k2_tr K hp.2
    exact ⟨h, K⟩
  · intro c8
    have h := h.2 c8
    refine cm_X4_fail (kf_X4_fail h) h (fun x9 x10 hp h g11 g12 => ?_)
    have h := h g11 g12
    have K := k2_tr K hp.2
    obtain ⟨c13, h⟩ := h
    refine ⟨c13, ?_⟩
    exact ⟨h, K⟩
theorem kf_X4_sign {Q : Int32 → HS → Prop} {v0 : Nat} {v1 : Int32} {S : HS} (h : P_X4_sign v0 v1 Q S) : P_X4_sign v0 v1 (fun r T => Q r T ∧ K2 S T) S := kf_X4_sign_0 h (k2_rf S)
set_option maxRecDepth 20000 in
set_option maxHeartbeats 1000000 in
theorem kf_X4_someWalker_0 {Q : Int32 → HS → Prop} {v0 : Nat} {S0 S : HS} (h : P_X4_someWalker_0 Q v0 S) (K : K2 S0 S) : P_X4_someWalker_0 (fun r T => Q r T ∧ K2 S0 T) v0 S := by
  delta P_X4_someWalker_0 at h ⊢
  obtain ⟨c1, h⟩ := h
  refine ⟨c1, ?_⟩
  have n2 := k2_ne K c1 (by decide)
  refine cm_X4_canBeName (kf_X4_canBeName h) h (fun x3 x4 hp h g5 g6 => ?_)
  have h := h g5 g6
  have K := k2_tr K hp.2
  refine ⟨?_, ?_⟩
  · intro c7
    have h := h.1 c7
    refine cm_X4_findName (kf_X4_findName h) h (fun x8 x9 hp h g10 => ?_)
    have h := h g10
    have K := k2_tr K hp.2
    refine ⟨?_, ?_⟩
    · intro c11
      have h := h.1 c11
      intro x13 e12
      have h := h x13 e12
      intro x15 e14
      have h := h x15 e14
      have K := k2_I K e14 n2
      refine cm_X4_next (kf_X4_next h) h (fun x16 hp h g17 => ?_)
      have h := h g17
      have K := k2_tr K hp.2
      exact ⟨h, K⟩
    · intro c18
      have h := h.2 c18
      refine cm_X4_fail (kf_X4_fail h) h (fun x19 x20 hp h g21 g22 => ?_)
      have h := h g21 g22
      have K := k2_tr K hp.2
      obtain ⟨c23, h⟩ := h
      refine ⟨c23, ?_⟩
      exact ⟨h, K⟩
  · intro c24
    have h := h.2 c24
    refine cm_X4_fail (kf_X4_fail h) h (fun x25 x26 hp h g27 g28 => ?_)
    have h := h g27 g28
    have K := k2_tr K hp.2
    obtain ⟨c29, h⟩ := h
    refine ⟨c29, ?_⟩
    exact ⟨h, K⟩
theorem kf_X4_someWalker {Q : Int32 → HS → Prop} {v0 : Nat} {S : HS} (h : P_X4_someWalker v0 Q S) : P_X4_someWalker v0 (fun r T => Q r T ∧ K2 S T) S := kf_X4_someWalker_0 h (k2_rf S)
set_option maxRecDepth 20000 in
set_option maxHeartbeats 1000000 in
theorem kf_X4_seenLine_47 {Q : Int32 → HS → Prop} {X30 X30_2 : Nat → Int32 → HS → Prop} {v0 : Nat} {v1 : Int32} {S0 S : HS} (h : P_X4_seenLine_47 Q X30 v0 v1 S) (K : K2 S0 S) (hX30 : ∀ (u0 : Nat) (u1 : Int32) (u2 : HS), X30 u0 u1 u2 → K2 S0 u2 → X30_2 u0 u1 u2) : P_X4_seenLine_47 (fun r T => Q r T ∧ K2 S0 T) X30_2 v0 v1 S := by
  delta P_X4_seenLine_47 at h ⊢
  obtain ⟨c1, h⟩ := h
  refine ⟨c1, ?_⟩
  have n2 := k2_ne K c1 (by decide)
  refine cm_X4_whole (kf_X4_whole h) h (fun x3 x4 hp h g5 g6 => ?_)
  have h := h g5 g6
  have K := k2_tr K hp.2
  refine ⟨?_, ?_⟩
  · intro c7
    have h := h.1 c7
    obtain ⟨b8, e9, h⟩ := h
    refine ⟨b8, e9, ?_⟩
    obtain ⟨c10, h⟩ := h
    refine ⟨c10, ?_⟩
    have n11 := k2_ne K c10 (by decide)
    obtain ⟨b12, e13, h⟩ := h
    refine ⟨b12, e13, ?_⟩
    obtain ⟨b14, e15, h⟩ := h
    refine ⟨b14, e15, ?_⟩
    obtain ⟨c16, h⟩ := h
    refine ⟨c16, ?_⟩
    have n17 := k2_ne K c16 (by decide)
    intro x19 e18
    have h := h x19 e18
    intro x21 e20
    have h := h x21 e20
    obtain ⟨c22, h⟩ := h
    refine ⟨c22, ?_⟩
    have n23 := k2_ne K c22 (by decide)
    obtain ⟨c24, h⟩ := h
    refine ⟨c24, ?_⟩
    intro x26 e25
    have h := h x26 e25
    have K := k2_I K e25 n23
    intro x28 e27
    have h := h x28 e27
    exact hX30 _ _ _ h K
  · intro c29
    have h := h.2 c29
    exact ⟨h, K⟩
set_option maxRecDepth 20000 in
set_option maxHeartbeats 1000000 in
theorem kfB_X4_seenLine_30 {Q : Int32 → HS → Prop} {X30 X30_2 : Nat → Int32 → HS → Prop} {v0 : Nat} {v1 : Int32} {S0 S : HS} (h : B_X4_seenLine_30 Q X30 v0 v1 S) (K : K2 S0 S) (hX30 : ∀ (u0 : Nat) (u1 : Int32) (u2 : HS), X30 u0 u1 u2 → K2 S0 u2 → X30_2 u0 u1 u2) : B_X4_seenLine_30 (fun r T => Q r T ∧ K2 S0 T) X30_2 v0 v1 S := by
  delta B_X4_seenLine_30 at h ⊢
  refine ⟨?_, ?_⟩
  · intro c1
    have h := h.1 c1
    obtain ⟨c2, h⟩ := h
    refine ⟨c2, ?_⟩
    have n3 := k2_ne K c2 (by decide)
    obtain ⟨b4, e5, h⟩ := h
    refine ⟨b4, e5, ?_⟩
    obtain ⟨c6, h⟩ := h
    refine ⟨c6, ?_⟩
    have n7 := k2_ne K c6 (by decide)
    intro x9 e8
    have h := h x9 e8
    intro x11 e10
    have h := h x11 e10
    intro x13 e12
    have h := h x13 e12
    have K := k2_I K e12 n7
    exact ⟨h, K⟩
  · intro c14
    have h := h.2 c14
    refine ⟨?_, ?_⟩
    · intro c15
      have h := h.1 c15
      exact kf_X4_seenLine_47 h K hX30
    · intro c16
      have h := h.2 c16
      obtain ⟨c17, h⟩ := h
      refine ⟨c17, ?_⟩
      have n18 := k2_ne K c17 (by decide)
      refine cm_X4_sign (kf_X4_sign h) h (fun x19 x20 hp h g21 g22 => ?_)
      have h := h g21 g22
      have K := k2_tr K hp.2
      refine ⟨?_, ?_⟩
      · intro c23
        have h := h.1 c23
        exact ⟨h, K⟩
      · intro c24
        have h := h.2 c24
        exact kf_X4_seenLine_47 h K hX30
theorem kf_X4_seenLine_30 {Q : Int32 → HS → Prop} {v0 : Nat} {v1 : Int32} {S0 S : HS} (h : P_X4_seenLine_30 Q v0 v1 S) (K : K2 S0 S) : P_X4_seenLine_30 (fun r T => Q r T ∧ K2 S0 T) v0 v1 S := h (fun v0 v1 S => K2 S0 S → P_X4_seenLine_30 (fun r T => Q r T ∧ K2 S0 T) v0 v1 S) (fun v0 v1 S hB K => fd_X4_seenLine_30 (kfB_X4_seenLine_30 hB K (fun _ _ _ hx K => hx K))) K
set_option maxRecDepth 20000 in
set_option maxHeartbeats 1000000 in
theorem kf_X4_seenLine_0 {Q : Int32 → HS → Prop} {v0 : Nat} {S0 S : HS} (h : P_X4_seenLine_0 Q v0 S) (K : K2 S0 S) : P_X4_seenLine_0 (fun r T => Q r T ∧ K2 S0 T) v0 S := by
  delta P_X4_seenLine_0 at h ⊢
  obtain ⟨c1, h⟩ := h
  refine ⟨c1, ?_⟩
  have n2 := k2_ne K c1 (by decide)
  refine cm_X4_someWalker (kf_X4_someWalker h) h (fun x3 x4 hp h g5 g6 => ?_)
  have h := h g5 g6
  have K := k2_tr K hp.2
  refine ⟨?_, ?_⟩
  · intro c7
    have h := h.1 c7
    obtain ⟨b8, e9, h⟩ := h
    refine ⟨b8, e9, ?_⟩
    obtain ⟨c10, h⟩ := h
    refine ⟨c10, ?_⟩
    have n11 := k2_ne K c10 (by decide)
    obtain ⟨b12, e13, h⟩ := h
    refine ⟨b12, e13, ?_⟩
    obtain ⟨b14, e15, h⟩ := h
    refine ⟨b14, e15, ?_⟩
    obtain ⟨c16, h⟩ := h
    refine ⟨c16, ?_⟩
    have n17 := k2_ne K c16 (by decide)
    intro x19 e18
    have h := h x19 e18
    intro x21 e20
    have h := h x21 e20
    obtain ⟨c22, h⟩ := h
    refine ⟨c22, ?_⟩
    have n23 := k2_ne K c22 (by decide)
    obtain ⟨c24, h⟩ := h
    refine ⟨c24, ?_⟩
    intro x26 e25
    have h := h x26 e25
    have K := k2_I K e25 n23
    exact kf_X4_seenLine_30 h K
  · intro c27
    have h := h.2 c27
    exact ⟨h, K⟩
theorem kf_X4_seenLine {Q : Int32 → HS → Prop} {v0 : Nat} {S : HS} (h : P_X4_seenLine v0 Q S) : P_X4_seenLine v0 (fun r T => Q r T ∧ K2 S T) S := kf_X4_seenLine_0 h (k2_rf S)
set_option maxRecDepth 20000 in
set_option maxHeartbeats 1000000 in
theorem kf_X4_walkerLine_0 {Q : Int32 → HS → Prop} {v0 : Nat} {S0 S : HS} (h : P_X4_walkerLine_0 Q v0 S) (K : K2 S0 S) : P_X4_walkerLine_0 (fun r T => Q r T ∧ K2 S0 T) v0 S := by
  delta P_X4_walkerLine_0 at h ⊢
  obtain ⟨c1, h⟩ := h
  refine ⟨c1, ?_⟩
  have n2 := k2_ne K c1 (by decide)
  obtain ⟨b3, e4, h⟩ := h
  refine ⟨b3, e4, ?_⟩
  obtain ⟨c5, h⟩ := h
  refine ⟨c5, ?_⟩
  have n6 := k2_ne K c5 (by decide)
  obtain ⟨b7, e8, h⟩ := h
  refine ⟨b7, e8, ?_⟩
  obtain ⟨b9, e10, h⟩ := h
  refine ⟨b9, e10, ?_⟩
  obtain ⟨c11, h⟩ := h
  refine ⟨c11, ?_⟩
  have n12 := k2_ne K c11 (by decide)
  intro x14 e13
  have h := h x14 e13
  obtain ⟨c15, h⟩ := h
  refine ⟨c15, ?_⟩
  have n16 := k2_ne K c15 (by decide)
  obtain ⟨c17, h⟩ := h
  refine ⟨c17, ?_⟩
  obtain ⟨b18, e19, h⟩ := h
  refine ⟨b18, e19, ?_⟩
  obtain ⟨b20, e21, h⟩ := h
  refine ⟨b20, e21, ?_⟩
  obtain ⟨c22, h⟩ := h
  refine ⟨c22, ?_⟩
  have n23 := k2_ne K c22 (by decide)
  intro x25 e24
  have h := h x25 e24
  refine cm_X4_newName (kf_X4_newName h) h (fun x26 x27 hp h g28 g29 => ?_)
  have h := h g28 g29
  have K := k2_tr K hp.2
  refine ⟨?_, ?_⟩
  · intro c30
    have h := h.1 c30
    exact ⟨h, K⟩
  · intro c31
    have h := h.2 c31
    refine cm_X4_kindOf (kf_X4_kindOf h) h (fun x32 x33 hp h g34 g35 => ?_)
    have h := h g34 g35
    have K := k2_tr K hp.2
    refine ⟨?_, ?_⟩
    · intro c36
      have h := h.1 c36
      exact ⟨h, K⟩
    · intro c37
      have h := h.2 c37
      refine cm_X4_bodyOf (kf_X4_bodyOf h) h (fun x38 x39 hp h g40 g41 => ?_)
      have h := h g40 g41
      have K := k2_tr K hp.2
      refine ⟨?_, ?_⟩
      · intro c42
        have h := h.1 c42
        refine cm_X4_wordAndWhole (kf_X4_wordAndWhole h) h (fun x43 x44 hp h g45 g46 => ?_)
        have h := h g45 g46
        have K := k2_tr K hp.2
        refine ⟨?_, ?_⟩
        · intro c47
          have h := h.1 c47
          intro x49 e48
          have h := h x49 e48
          obtain ⟨c50, h⟩ := h
          refine ⟨c50, ?_⟩
          have n51 := k2_ne K c50 (by decide)
          intro x53 e52
          have h := h x53 e52
          have K := k2_I K e52 n51
          intro x55 e54
          have h := h x55 e54
          refine cm_X4_wordAndWhole (kf_X4_wordAndWhole h) h (fun x56 x57 hp h g58 g59 => ?_)
          have h := h g58 g59
          have K := k2_tr K hp.2
          refine ⟨?_, ?_⟩
          · intro c60
            have h := h.1 c60
            intro x62 e61
            have h := h x62 e61
            intro x64 e63
            have h := h x64 e63
            have K := k2_I K e63 n51
            obtain ⟨b65, e66, h⟩ := h
            refine ⟨b65, e66, ?_⟩
            obtain ⟨c67, h⟩ := h
            refine ⟨c67, ?_⟩
            have n68 := k2_ne K c67 (by decide)
            intro x70 e69
            have h := h x70 e69
            intro x72 e71
            have h := h x72 e71
            intro x74 e73
            have h := h x74 e73
            have K := k2_I K e73 n68
            exact ⟨h, K⟩
          · intro c75
            have h := h.2 c75
            exact ⟨h, K⟩
        · intro c76
          have h := h.2 c76
          exact ⟨h, K⟩
      · intro c77
        have h := h.2 c77
        exact ⟨h, K⟩
theorem kf_X4_walkerLine {Q : Int32 → HS → Prop} {v0 : Nat} {S : HS} (h : P_X4_walkerLine v0 Q S) : P_X4_walkerLine v0 (fun r T => Q r T ∧ K2 S T) S := kf_X4_walkerLine_0 h (k2_rf S)
set_option maxRecDepth 20000 in
set_option maxHeartbeats 1000000 in
theorem kf_X4_worldLine_0 {Q : Int32 → HS → Prop} {v0 : Nat} {S0 S : HS} (h : P_X4_worldLine_0 Q v0 S) (K : K2 S0 S) : P_X4_worldLine_0 (fun r T => Q r T ∧ K2 S0 T) v0 S := by
  delta P_X4_worldLine_0 at h ⊢
  obtain ⟨c1, h⟩ := h
  refine ⟨c1, ?_⟩
  have n2 := k2_ne K c1 (by decide)
  obtain ⟨b3, e4, h⟩ := h
  refine ⟨b3, e4, ?_⟩
  obtain ⟨c5, h⟩ := h
  refine ⟨c5, ?_⟩
  have n6 := k2_ne K c5 (by decide)
  refine cm_X8_isTold (kf_X8_isTold h) h (fun x7 x8 hp h g9 g10 => ?_)
  have h := h g9 g10
  have K := k2_tr K hp.2
  refine ⟨?_, ?_⟩
  · intro c11
    have h := h.1 c11
    refine cm_X4_next (kf_X4_next h) h (fun x12 hp h g13 => ?_)
    have h := h g13
    have K := k2_tr K hp.2
    refine cm_X4_wordAndWhole (kf_X4_wordAndWhole h) h (fun x14 x15 hp h g16 g17 => ?_)
    have h := h g16 g17
    have K := k2_tr K hp.2
    refine ⟨?_, ?_⟩
    · intro c18
      have h := h.1 c18
      obtain ⟨b19, e20, h⟩ := h
      refine ⟨b19, e20, ?_⟩
      intro x22 e21
      have h := h x22 e21
      obtain ⟨c23, h⟩ := h
      refine ⟨c23, ?_⟩
      have n24 := k2_ne K c23 (by decide)
      intro x26 e25
      have h := h x26 e25
      have K := k2_I K e25 n24
      exact ⟨h, K⟩
    · intro c27
      have h := h.2 c27
      exact ⟨h, K⟩
  · intro c28
    have h := h.2 c28
    refine cm_X4_fail (kf_X4_fail h) h (fun x29 x30 hp h g31 g32 => ?_)
    have h := h g31 g32
    have K := k2_tr K hp.2
    obtain ⟨c33, h⟩ := h
    refine ⟨c33, ?_⟩
    exact ⟨h, K⟩
theorem kf_X4_worldLine {Q : Int32 → HS → Prop} {v0 : Nat} {S : HS} (h : P_X4_worldLine v0 Q S) : P_X4_worldLine v0 (fun r T => Q r T ∧ K2 S T) S := kf_X4_worldLine_0 h (k2_rf S)
set_option maxRecDepth 20000 in
set_option maxHeartbeats 1000000 in
theorem kf_X4_read_280 {Q : Int32 → HS → Prop} {v0 : Nat} {S0 S : HS} (h : P_X4_read_280 Q v0 S) (K : K2 S0 S) : P_X4_read_280 (fun r T => Q r T ∧ K2 S0 T) v0 S := by
  delta P_X4_read_280 at h ⊢
  obtain ⟨c1, h⟩ := h
  refine ⟨c1, ?_⟩
  have n2 := k2_ne K c1 (by decide)
  refine cm_X4_fail (kf_X4_fail h) h (fun x3 x4 hp h g5 g6 => ?_)
  have h := h g5 g6
  have K := k2_tr K hp.2
  refine ⟨?_, ?_⟩
  · intro c7
    have h := h.1 c7
    exact ⟨h, K⟩
  · intro c8
    have h := h.2 c8
    exact ⟨h, K⟩
set_option maxRecDepth 20000 in
set_option maxHeartbeats 1000000 in
theorem kf_X4_read_295 {Q : Int32 → HS → Prop} {X8 X8_2 : Nat → Int32 → HS → Prop} {v0 : Nat} {v3 : Int32} {v4 : Int32} {S0 S : HS} (h : P_X4_read_295 Q X8 v0 v3 v4 S) (K : K2 S0 S) (hX8 : ∀ (u0 : Nat) (u1 : Int32) (u2 : HS), X8 u0 u1 u2 → K2 S0 u2 → X8_2 u0 u1 u2) : P_X4_read_295 (fun r T => Q r T ∧ K2 S0 T) X8_2 v0 v3 v4 S := by
  delta P_X4_read_295 at h ⊢
  refine ⟨?_, ?_⟩
  · intro c1
    have h := h.1 c1
    exact ⟨h, K⟩
  · intro c2
    have h := h.2 c2
    obtain ⟨c3, h⟩ := h
    refine ⟨c3, ?_⟩
    have n4 := k2_ne K c3 (by decide)
    refine cm_X4_sign (kf_X4_sign h) h (fun x5 x6 hp h g7 g8 => ?_)
    have h := h g7 g8
    have K := k2_tr K hp.2
    refine ⟨?_, ?_⟩
    · intro c9
      have h := h.1 c9
      intro x11 e10
      have h := h x11 e10
      exact hX8 _ _ _ h K
    · intro c12
      have h := h.2 c12
      exact ⟨h, K⟩
set_option maxRecDepth 20000 in
set_option maxHeartbeats 1000000 in
theorem kf_X4_read_248 {Q : Int32 → HS → Prop} {X8 X8_2 : Nat → Int32 → HS → Prop} {v0 : Nat} {v3 : Int32} {v4 : Int32} {S0 S : HS} (h : P_X4_read_248 Q X8 v0 v3 v4 S) (K : K2 S0 S) (hX8 : ∀ (u0 : Nat) (u1 : Int32) (u2 : HS), X8 u0 u1 u2 → K2 S0 u2 → X8_2 u0 u1 u2) : P_X4_read_248 (fun r T => Q r T ∧ K2 S0 T) X8_2 v0 v3 v4 S := by
  delta P_X4_read_248 at h ⊢
  refine ⟨?_, ?_⟩
  · intro c1
    have h := h.1 c1
    exact kf_X4_read_295 h K hX8
  · intro c2
    have h := h.2 c2
    obtain ⟨c3, h⟩ := h
    refine ⟨c3, ?_⟩
    have n4 := k2_ne K c3 (by decide)
    intro x6 e5
    have h := h x6 e5
    refine ⟨?_, ?_⟩
    · intro c7
      have h := h.1 c7
      exact kf_X4_read_295 h K hX8
    · intro c8
      have h := h.2 c8
      obtain ⟨b9, e10, h⟩ := h
      refine ⟨b9, e10, ?_⟩
      obtain ⟨c11, h⟩ := h
      refine ⟨c11, ?_⟩
      have n12 := k2_ne K c11 (by decide)
      intro x14 e13
      have h := h x14 e13
      refine ⟨?_, ?_⟩
      · intro c15
        have h := h.1 c15
        exact kf_X4_read_280 h K
      · intro c16
        have h := h.2 c16
        obtain ⟨b17, e18, h⟩ := h
        refine ⟨b17, e18, ?_⟩
        obtain ⟨c19, h⟩ := h
        refine ⟨c19, ?_⟩
        have n20 := k2_ne K c19 (by decide)
        intro x22 e21
        have h := h x22 e21
        refine ⟨?_, ?_⟩
        · intro c23
          have h := h.1 c23
          exact ⟨h, K⟩
        · intro c24
          have h := h.2 c24
          exact kf_X4_read_280 h K
set_option maxRecDepth 20000 in
set_option maxHeartbeats 1000000 in
theorem kf_X4_read_70 {Q : Int32 → HS → Prop} {X8 X8_2 : Nat → Int32 → HS → Prop} {v0 : Nat} {v3 : Int32} {s0 : Int32} {S0 S : HS} (h : P_X4_read_70 Q X8 v0 v3 s0 S) (K : K2 S0 S) (hX8 : ∀ (u0 : Nat) (u1 : Int32) (u2 : HS), X8 u0 u1 u2 → K2 S0 u2 → X8_2 u0 u1 u2) : P_X4_read_70 (fun r T => Q r T ∧ K2 S0 T) X8_2 v0 v3 s0 S := by
  delta P_X4_read_70 at h ⊢
  exact kf_X4_read_248 h K hX8
set_option maxRecDepth 20000 in
set_option maxHeartbeats 1000000 in
theorem kf_X4_read_69 {Q : Int32 → HS → Prop} {X8 X8_2 : Nat → Int32 → HS → Prop} {v0 : Nat} {v3 : Int32} {S0 S : HS} (h : P_X4_read_69 Q X8 v0 v3 S) (K : K2 S0 S) (hX8 : ∀ (u0 : Nat) (u1 : Int32) (u2 : HS), X8 u0 u1 u2 → K2 S0 u2 → X8_2 u0 u1 u2) : P_X4_read_69 (fun r T => Q r T ∧ K2 S0 T) X8_2 v0 v3 S := by
  delta P_X4_read_69 at h ⊢
  exact kf_X4_read_70 h K hX8
set_option maxRecDepth 20000 in
set_option maxHeartbeats 1000000 in
theorem kf_X4_read_112 {Q : Int32 → HS → Prop} {X8 X8_2 : Nat → Int32 → HS → Prop} {v0 : Nat} {v3 : Int32} {s0 : Int32} {S0 S : HS} (h : P_X4_read_112 Q X8 v0 v3 s0 S) (K : K2 S0 S) (hX8 : ∀ (u0 : Nat) (u1 : Int32) (u2 : HS), X8 u0 u1 u2 → K2 S0 u2 → X8_2 u0 u1 u2) : P_X4_read_112 (fun r T => Q r T ∧ K2 S0 T) X8_2 v0 v3 s0 S := by
  delta P_X4_read_112 at h ⊢
  exact kf_X4_read_248 h K hX8
set_option maxRecDepth 20000 in
set_option maxHeartbeats 1000000 in
theorem kf_X4_read_111 {Q : Int32 → HS → Prop} {X8 X8_2 : Nat → Int32 → HS → Prop} {v0 : Nat} {v3 : Int32} {S0 S : HS} (h : P_X4_read_111 Q X8 v0 v3 S) (K : K2 S0 S) (hX8 : ∀ (u0 : Nat) (u1 : Int32) (u2 : HS), X8 u0 u1 u2 → K2 S0 u2 → X8_2 u0 u1 u2) : P_X4_read_111 (fun r T => Q r T ∧ K2 S0 T) X8_2 v0 v3 S := by
  delta P_X4_read_111 at h ⊢
  exact kf_X4_read_112 h K hX8
set_option maxRecDepth 20000 in
set_option maxHeartbeats 1000000 in
theorem kf_X4_read_154 {Q : Int32 → HS → Prop} {X8 X8_2 : Nat → Int32 → HS → Prop} {v0 : Nat} {v3 : Int32} {s0 : Int32} {S0 S : HS} (h : P_X4_read_154 Q X8 v0 v3 s0 S) (K : K2 S0 S) (hX8 : ∀ (u0 : Nat) (u1 : Int32) (u2 : HS), X8 u0 u1 u2 → K2 S0 u2 → X8_2 u0 u1 u2) : P_X4_read_154 (fun r T => Q r T ∧ K2 S0 T) X8_2 v0 v3 s0 S := by
  delta P_X4_read_154 at h ⊢
  exact kf_X4_read_248 h K hX8
set_option maxRecDepth 20000 in
set_option maxHeartbeats 1000000 in
theorem kf_X4_read_153 {Q : Int32 → HS → Prop} {X8 X8_2 : Nat → Int32 → HS → Prop} {v0 : Nat} {v3 : Int32} {S0 S : HS} (h : P_X4_read_153 Q X8 v0 v3 S) (K : K2 S0 S) (hX8 : ∀ (u0 : Nat) (u1 : Int32) (u2 : HS), X8 u0 u1 u2 → K2 S0 u2 → X8_2 u0 u1 u2) : P_X4_read_153 (fun r T => Q r T ∧ K2 S0 T) X8_2 v0 v3 S := by
  delta P_X4_read_153 at h ⊢
  exact kf_X4_read_154 h K hX8
set_option maxRecDepth 20000 in
set_option maxHeartbeats 1000000 in
theorem kf_X4_read_195 {Q : Int32 → HS → Prop} {X8 X8_2 : Nat → Int32 → HS → Prop} {v0 : Nat} {v3 : Int32} {s0 : Int32} {S0 S : HS} (h : P_X4_read_195 Q X8 v0 v3 s0 S) (K : K2 S0 S) (hX8 : ∀ (u0 : Nat) (u1 : Int32) (u2 : HS), X8 u0 u1 u2 → K2 S0 u2 → X8_2 u0 u1 u2) : P_X4_read_195 (fun r T => Q r T ∧ K2 S0 T) X8_2 v0 v3 s0 S := by
  delta P_X4_read_195 at h ⊢
  exact kf_X4_read_248 h K hX8
set_option maxRecDepth 20000 in
set_option maxHeartbeats 1000000 in
theorem kf_X4_read_194 {Q : Int32 → HS → Prop} {X8 X8_2 : Nat → Int32 → HS → Prop} {v0 : Nat} {v3 : Int32} {S0 S : HS} (h : P_X4_read_194 Q X8 v0 v3 S) (K : K2 S0 S) (hX8 : ∀ (u0 : Nat) (u1 : Int32) (u2 : HS), X8 u0 u1 u2 → K2 S0 u2 → X8_2 u0 u1 u2) : P_X4_read_194 (fun r T => Q r T ∧ K2 S0 T) X8_2 v0 v3 S := by
  delta P_X4_read_194 at h ⊢
  exact kf_X4_read_195 h K hX8
set_option maxRecDepth 20000 in
set_option maxHeartbeats 1000000 in
theorem kf_X4_read_236 {Q : Int32 → HS → Prop} {X8 X8_2 : Nat → Int32 → HS → Prop} {v0 : Nat} {v3 : Int32} {s0 : Int32} {S0 S : HS} (h : P_X4_read_236 Q X8 v0 v3 s0 S) (K : K2 S0 S) (hX8 : ∀ (u0 : Nat) (u1 : Int32) (u2 : HS), X8 u0 u1 u2 → K2 S0 u2 → X8_2 u0 u1 u2) : P_X4_read_236 (fun r T => Q r T ∧ K2 S0 T) X8_2 v0 v3 s0 S := by
  delta P_X4_read_236 at h ⊢
  exact kf_X4_read_248 h K hX8
set_option maxRecDepth 20000 in
set_option maxHeartbeats 1000000 in
theorem kf_X4_read_235 {Q : Int32 → HS → Prop} {X8 X8_2 : Nat → Int32 → HS → Prop} {v0 : Nat} {v3 : Int32} {S0 S : HS} (h : P_X4_read_235 Q X8 v0 v3 S) (K : K2 S0 S) (hX8 : ∀ (u0 : Nat) (u1 : Int32) (u2 : HS), X8 u0 u1 u2 → K2 S0 u2 → X8_2 u0 u1 u2) : P_X4_read_235 (fun r T => Q r T ∧ K2 S0 T) X8_2 v0 v3 S := by
  delta P_X4_read_235 at h ⊢
  exact kf_X4_read_236 h K hX8
set_option maxRecDepth 20000 in
set_option maxHeartbeats 1000000 in
theorem kfB_X4_read_8 {Q : Int32 → HS → Prop} {X8 X8_2 : Nat → Int32 → HS → Prop} {v0 : Nat} {v3 : Int32} {S0 S : HS} (h : B_X4_read_8 Q X8 v0 v3 S) (K : K2 S0 S) (hX8 : ∀ (u0 : Nat) (u1 : Int32) (u2 : HS), X8 u0 u1 u2 → K2 S0 u2 → X8_2 u0 u1 u2) : B_X4_read_8 (fun r T => Q r T ∧ K2 S0 T) X8_2 v0 v3 S := by
  delta B_X4_read_8 at h ⊢
  refine ⟨?_, ?_⟩
  · intro c1
    have h := h.1 c1
    obtain ⟨c2, h⟩ := h
    refine ⟨c2, ?_⟩
    have n3 := k2_ne K c2 (by decide)
    refine cm_X4_fail (kf_X4_fail h) h (fun x4 x5 hp h g6 g7 => ?_)
    have h := h g6 g7
    have K := k2_tr K hp.2
    obtain ⟨c8, h⟩ := h
    refine ⟨c8, ?_⟩
    exact ⟨h, K⟩
  · intro c9
    have h := h.2 c9
    obtain ⟨c10, h⟩ := h
    refine ⟨c10, ?_⟩
    have n11 := k2_ne K c10 (by decide)
    refine cm_X4_is (kf_X4_is h) h (fun x12 x13 hp h g14 g15 => ?_)
    have h := h g14 g15
    have K := k2_tr K hp.2
    refine ⟨?_, ?_⟩
    · intro c16
      have h := h.1 c16
      refine cm_X4_is (kf_X4_is h) h (fun x17 x18 hp h g19 g20 => ?_)
      have h := h g19 g20
      have K := k2_tr K hp.2
      refine ⟨?_, ?_⟩
      · intro c21
        have h := h.1 c21
        refine cm_X4_is (kf_X4_is h) h (fun x22 x23 hp h g24 g25 => ?_)
        have h := h g24 g25
        have K := k2_tr K hp.2
        refine ⟨?_, ?_⟩
        · intro c26
          have h := h.1 c26
          refine cm_X4_is (kf_X4_is h) h (fun x27 x28 hp h g29 g30 => ?_)
          have h := h g29 g30
          have K := k2_tr K hp.2
          refine ⟨?_, ?_⟩
          · intro c31
            have h := h.1 c31
            refine cm_X4_is (kf_X4_is h) h (fun x32 x33 hp h g34 g35 => ?_)
            have h := h g34 g35
            have K := k2_tr K hp.2
            refine ⟨?_, ?_⟩
            · intro c36
              have h := h.1 c36
              refine cm_X4_is (kf_X4_is h) h (fun x37 x38 hp h g39 g40 => ?_)
              have h := h g39 g40
              have K := k2_tr K hp.2
              refine ⟨?_, ?_⟩
              · intro c41
                have h := h.1 c41
                refine cm_X4_fail (kf_X4_fail h) h (fun x42 x43 hp h g44 g45 => ?_)
                have h := h g44 g45
                have K := k2_tr K hp.2
                exact kf_X4_read_248 h K hX8
              · intro c46
                have h := h.2 c46
                obtain ⟨b47, e48, h⟩ := h
                refine ⟨b47, e48, ?_⟩
                obtain ⟨c49, h⟩ := h
                refine ⟨c49, ?_⟩
                have n50 := k2_ne K c49 (by decide)
                intro x52 e51
                have h := h x52 e51
                refine cm_X4_hasRoom (kf_X4_hasRoom h) h (fun x53 x54 hp h g55 g56 => ?_)
                have h := h g55 g56
                have K := k2_tr K hp.2
                refine ⟨?_, ?_⟩
                · intro c57
                  have h := h.1 c57
                  exact kf_X4_read_235 h K hX8
                · intro c58
                  have h := h.2 c58
                  refine cm_X4_seenLine (kf_X4_seenLine h) h (fun x59 x60 hp h g61 g62 => ?_)
                  have h := h g61 g62
                  have K := k2_tr K hp.2
                  refine ⟨?_, ?_⟩
                  · intro c63
                    have h := h.1 c63
                    exact kf_X4_read_235 h K hX8
                  · intro c64
                    have h := h.2 c64
                    exact kf_X4_read_236 h K hX8
            · intro c65
              have h := h.2 c65
              obtain ⟨b66, e67, h⟩ := h
              refine ⟨b66, e67, ?_⟩
              obtain ⟨c68, h⟩ := h
              refine ⟨c68, ?_⟩
              have n69 := k2_ne K c68 (by decide)
              intro x71 e70
              have h := h x71 e70
              refine cm_X4_hasRoom (kf_X4_hasRoom h) h (fun x72 x73 hp h g74 g75 => ?_)
              have h := h g74 g75
              have K := k2_tr K hp.2
              refine ⟨?_, ?_⟩
              · intro c76
                have h := h.1 c76
                exact kf_X4_read_194 h K hX8
              · intro c77
                have h := h.2 c77
                refine cm_X4_walkerLine (kf_X4_walkerLine h) h (fun x78 x79 hp h g80 g81 => ?_)
                have h := h g80 g81
                have K := k2_tr K hp.2
                refine ⟨?_, ?_⟩
                · intro c82
                  have h := h.1 c82
                  exact kf_X4_read_194 h K hX8
                · intro c83
                  have h := h.2 c83
                  exact kf_X4_read_195 h K hX8
          · intro c84
            have h := h.2 c84
            obtain ⟨b85, e86, h⟩ := h
            refine ⟨b85, e86, ?_⟩
            obtain ⟨c87, h⟩ := h
            refine ⟨c87, ?_⟩
            have n88 := k2_ne K c87 (by decide)
            intro x90 e89
            have h := h x90 e89
            refine cm_X4_hasRoom (kf_X4_hasRoom h) h (fun x91 x92 hp h g93 g94 => ?_)
            have h := h g93 g94
            have K := k2_tr K hp.2
            refine ⟨?_, ?_⟩
            · intro c95
              have h := h.1 c95
              exact kf_X4_read_153 h K hX8
            · intro c96
              have h := h.2 c96
              refine cm_X4_roadLine (kf_X4_roadLine h) h (fun x97 x98 hp h g99 g100 => ?_)
              have h := h g99 g100
              have K := k2_tr K hp.2
              refine ⟨?_, ?_⟩
              · intro c101
                have h := h.1 c101
                exact kf_X4_read_153 h K hX8
              · intro c102
                have h := h.2 c102
                exact kf_X4_read_154 h K hX8
        · intro c103
          have h := h.2 c103
          obtain ⟨b104, e105, h⟩ := h
          refine ⟨b104, e105, ?_⟩
          obtain ⟨c106, h⟩ := h
          refine ⟨c106, ?_⟩
          have n107 := k2_ne K c106 (by decide)
          intro x109 e108
          have h := h x109 e108
          refine cm_X4_hasRoom (kf_X4_hasRoom h) h (fun x110 x111 hp h g112 g113 => ?_)
          have h := h g112 g113
          have K := k2_tr K hp.2
          refine ⟨?_, ?_⟩
          · intro c114
            have h := h.1 c114
            exact kf_X4_read_111 h K hX8
          · intro c115
            have h := h.2 c115
            refine cm_X4_placeLine (kf_X4_placeLine h) h (fun x116 x117 hp h g118 g119 => ?_)
            have h := h g118 g119
            have K := k2_tr K hp.2
            refine ⟨?_, ?_⟩
            · intro c120
              have h := h.1 c120
              exact kf_X4_read_111 h K hX8
            · intro c121
              have h := h.2 c121
              exact kf_X4_read_112 h K hX8
      · intro c122
        have h := h.2 c122
        obtain ⟨b123, e124, h⟩ := h
        refine ⟨b123, e124, ?_⟩
        obtain ⟨c125, h⟩ := h
        refine ⟨c125, ?_⟩
        have n126 := k2_ne K c125 (by decide)
        intro x128 e127
        have h := h x128 e127
        refine cm_X4_hasRoom (kf_X4_hasRoom h) h (fun x129 x130 hp h g131 g132 => ?_)
        have h := h g131 g132
        have K := k2_tr K hp.2
        refine ⟨?_, ?_⟩
        · intro c133
          have h := h.1 c133
          exact kf_X4_read_69 h K hX8
        · intro c134
          have h := h.2 c134
          refine cm_X4_rainLine (kf_X4_rainLine h) h (fun x135 x136 hp h g137 g138 => ?_)
          have h := h g137 g138
          have K := k2_tr K hp.2
          refine ⟨?_, ?_⟩
          · intro c139
            have h := h.1 c139
            exact kf_X4_read_69 h K hX8
          · intro c140
            have h := h.2 c140
            exact kf_X4_read_70 h K hX8
    · intro c141
      have h := h.2 c141
      refine cm_X4_worldLine (kf_X4_worldLine h) h (fun x142 x143 hp h g144 g145 => ?_)
      have h := h g144 g145
      have K := k2_tr K hp.2
      exact kf_X4_read_248 h K hX8
theorem kf_X4_read_8 {Q : Int32 → HS → Prop} {v0 : Nat} {v3 : Int32} {S0 S : HS} (h : P_X4_read_8 Q v0 v3 S) (K : K2 S0 S) : P_X4_read_8 (fun r T => Q r T ∧ K2 S0 T) v0 v3 S := h (fun v0 v3 S => K2 S0 S → P_X4_read_8 (fun r T => Q r T ∧ K2 S0 T) v0 v3 S) (fun v0 v3 S hB K => fd_X4_read_8 (kfB_X4_read_8 hB K (fun _ _ _ hx K => hx K))) K
set_option maxRecDepth 20000 in
set_option maxHeartbeats 1000000 in
theorem kf_X4_read_0 {Q : Int32 → HS → Prop} {v0 : Nat} {v1 : Nat} {v2 : Int32} {S0 S : HS} (h : P_X4_read_0 Q v0 v1 v2 S) (K : K2 S0 S) : P_X4_read_0 (fun r T => Q r T ∧ K2 S0 T) v0 v1 v2 S := by
  delta P_X4_read_0 at h ⊢
  obtain ⟨c1, h⟩ := h
  refine ⟨c1, ?_⟩
  have n2 := k2_ne K c1 (by decide)
  refine cm_X4_open (kf_X4_open h) h (fun x3 hp h g4 => ?_)
  have h := h g4
  have K := k2_tr K hp.2
  exact kf_X4_read_8 h K
theorem kf_X4_read {Q : Int32 → HS → Prop} {v0 : Nat} {v1 : Nat} {v2 : Int32} {S : HS} (h : P_X4_read v0 v1 v2 Q S) : P_X4_read v0 v1 v2 (fun r T => Q r T ∧ K2 S T) S := kf_X4_read_0 h (k2_rf S)
set_option maxRecDepth 20000 in
set_option maxHeartbeats 1000000 in
theorem kf_X5_endOf_0 {Q : Int32 → HS → Prop} {v0 : Nat} {v1 : Int32} {S0 S : HS} (h : P_X5_endOf_0 Q v0 v1 S) (K : K2 S0 S) : P_X5_endOf_0 (fun r T => Q r T ∧ K2 S0 T) v0 v1 S := by
  delta P_X5_endOf_0 at h ⊢
  refine ⟨?_, ?_⟩
  · intro c1
    have h := h.1 c1
    obtain ⟨c2, h⟩ := h
    refine ⟨c2, ?_⟩
    have n3 := k2_ne K c2 (by decide)
    intro x5 e4
    have h := h x5 e4
    exact ⟨h, K⟩
  · intro c6
    have h := h.2 c6
    obtain ⟨c7, h⟩ := h
    refine ⟨c7, ?_⟩
    have n8 := k2_ne K c7 (by decide)
    intro x10 e9
    have h := h x10 e9
    exact ⟨h, K⟩
theorem kf_X5_endOf {Q : Int32 → HS → Prop} {v0 : Nat} {v1 : Int32} {S : HS} (h : P_X5_endOf v0 v1 Q S) : P_X5_endOf v0 v1 (fun r T => Q r T ∧ K2 S T) S := kf_X5_endOf_0 h (k2_rf S)
set_option maxRecDepth 20000 in
set_option maxHeartbeats 1000000 in
theorem kf_X5_minutesAt_0 {Q : Int32 → HS → Prop} {v0 : Nat} {v1 : Int32} {S0 S : HS} (h : P_X5_minutesAt_0 Q v0 v1 S) (K : K2 S0 S) : P_X5_minutesAt_0 (fun r T => Q r T ∧ K2 S0 T) v0 v1 S := by
  delta P_X5_minutesAt_0 at h ⊢
  refine ⟨?_, ?_⟩
  · intro c1
    have h := h.1 c1
    exact ⟨h, K⟩
  · intro c2
    have h := h.2 c2
    obtain ⟨c3, h⟩ := h
    refine ⟨c3, ?_⟩
    have n4 := k2_ne K c3 (by decide)
    intro x6 e5
    have h := h x6 e5
    obtain ⟨c7, h⟩ := h
    refine ⟨c7, ?_⟩
    intro x9 e8
    have h := h x9 e8
    exact ⟨h, K⟩
theorem kf_X5_minutesAt {Q : Int32 → HS → Prop} {v0 : Nat} {v1 : Int32} {S : HS} (h : P_X5_minutesAt v0 v1 Q S) : P_X5_minutesAt v0 v1 (fun r T => Q r T ∧ K2 S T) S := kf_X5_minutesAt_0 h (k2_rf S)
set_option maxRecDepth 20000 in
set_option maxHeartbeats 1000000 in
theorem kf_X5_startOf_0 {Q : Int32 → HS → Prop} {v0 : Nat} {v1 : Int32} {S0 S : HS} (h : P_X5_startOf_0 Q v0 v1 S) (K : K2 S0 S) : P_X5_startOf_0 (fun r T => Q r T ∧ K2 S0 T) v0 v1 S := by
  delta P_X5_startOf_0 at h ⊢
  refine ⟨?_, ?_⟩
  · intro c1
    have h := h.1 c1
    obtain ⟨c2, h⟩ := h
    refine ⟨c2, ?_⟩
    have n3 := k2_ne K c2 (by decide)
    intro x5 e4
    have h := h x5 e4
    exact ⟨h, K⟩
  · intro c6
    have h := h.2 c6
    obtain ⟨c7, h⟩ := h
    refine ⟨c7, ?_⟩
    have n8 := k2_ne K c7 (by decide)
    intro x10 e9
    have h := h x10 e9
    exact ⟨h, K⟩
theorem kf_X5_startOf {Q : Int32 → HS → Prop} {v0 : Nat} {v1 : Int32} {S : HS} (h : P_X5_startOf v0 v1 Q S) : P_X5_startOf v0 v1 (fun r T => Q r T ∧ K2 S T) S := kf_X5_startOf_0 h (k2_rf S)
set_option maxRecDepth 20000 in
set_option maxHeartbeats 1000000 in
theorem kf_X5_tell_0 {Q : Int32 → HS → Prop} {v0 : Nat} {v1 : Int32} {S0 S : HS} (h : P_X5_tell_0 Q v0 v1 S) (K : K2 S0 S) : P_X5_tell_0 (fun r T => Q r T ∧ K2 S0 T) v0 v1 S := by
  delta P_X5_tell_0 at h ⊢
  refine ⟨?_, ?_, ?_, ?_, ?_⟩
  · intro c1
    have h := h.1 c1
    obtain ⟨c2, h⟩ := h
    refine ⟨c2, ?_⟩
    have n3 := k2_ne K c2 (by decide)
    intro x5 e4
    have h := h x5 e4
    exact ⟨h, K⟩
  · intro c6
    have h := h.2.1 c6
    obtain ⟨c7, h⟩ := h
    refine ⟨c7, ?_⟩
    have n8 := k2_ne K c7 (by decide)
    intro x10 e9
    have h := h x10 e9
    exact ⟨h, K⟩
  · intro c11
    have h := h.2.2.1 c11
    obtain ⟨c12, h⟩ := h
    refine ⟨c12, ?_⟩
    have n13 := k2_ne K c12 (by decide)
    intro x15 e14
    have h := h x15 e14
    exact ⟨h, K⟩
  · intro c16
    have h := h.2.2.2.1 c16
    obtain ⟨c17, h⟩ := h
    refine ⟨c17, ?_⟩
    have n18 := k2_ne K c17 (by decide)
    intro x20 e19
    have h := h x20 e19
    exact ⟨h, K⟩
  · intro c21
    have h := h.2.2.2.2 c21
    obtain ⟨c22, h⟩ := h
    refine ⟨c22, ?_⟩
    have n23 := k2_ne K c22 (by decide)
    intro x25 e24
    have h := h x25 e24
    exact ⟨h, K⟩
theorem kf_X5_tell {Q : Int32 → HS → Prop} {v0 : Nat} {v1 : Int32} {S : HS} (h : P_X5_tell v0 v1 Q S) : P_X5_tell v0 v1 (fun r T => Q r T ∧ K2 S T) S := kf_X5_tell_0 h (k2_rf S)
set_option maxRecDepth 20000 in
set_option maxHeartbeats 1000000 in
theorem kf_X6_tell_0 {Q : Int32 → HS → Prop} {v0 : Nat} {v1 : Int32} {S0 S : HS} (h : P_X6_tell_0 Q v0 v1 S) (K : K2 S0 S) : P_X6_tell_0 (fun r T => Q r T ∧ K2 S0 T) v0 v1 S := by
  delta P_X6_tell_0 at h ⊢
  refine ⟨?_, ?_, ?_, ?_, ?_, ?_, ?_⟩
  · intro c1
    have h := h.1 c1
    obtain ⟨c2, h⟩ := h
    refine ⟨c2, ?_⟩
    have n3 := k2_ne K c2 (by decide)
    intro x5 e4
    have h := h x5 e4
    exact ⟨h, K⟩
  · intro c6
    have h := h.2.1 c6
    obtain ⟨c7, h⟩ := h
    refine ⟨c7, ?_⟩
    have n8 := k2_ne K c7 (by decide)
    intro x10 e9
    have h := h x10 e9
    exact ⟨h, K⟩
  · intro c11
    have h := h.2.2.1 c11
    obtain ⟨c12, h⟩ := h
    refine ⟨c12, ?_⟩
    have n13 := k2_ne K c12 (by decide)
    intro x15 e14
    have h := h x15 e14
    exact ⟨h, K⟩
  · intro c16
    have h := h.2.2.2.1 c16
    obtain ⟨c17, h⟩ := h
    refine ⟨c17, ?_⟩
    have n18 := k2_ne K c17 (by decide)
    intro x20 e19
    have h := h x20 e19
    exact ⟨h, K⟩
  · intro c21
    have h := h.2.2.2.2.1 c21
    obtain ⟨c22, h⟩ := h
    refine ⟨c22, ?_⟩
    have n23 := k2_ne K c22 (by decide)
    intro x25 e24
    have h := h x25 e24
    exact ⟨h, K⟩
  · intro c26
    have h := h.2.2.2.2.2.1 c26
    obtain ⟨c27, h⟩ := h
    refine ⟨c27, ?_⟩
    have n28 := k2_ne K c27 (by decide)
    intro x30 e29
    have h := h x30 e29
    exact ⟨h, K⟩
  · intro c31
    have h := h.2.2.2.2.2.2 c31
    obtain ⟨c32, h⟩ := h
    refine ⟨c32, ?_⟩
    have n33 := k2_ne K c32 (by decide)
    intro x35 e34
    have h := h x35 e34
    exact ⟨h, K⟩
theorem kf_X6_tell {Q : Int32 → HS → Prop} {v0 : Nat} {v1 : Int32} {S : HS} (h : P_X6_tell v0 v1 Q S) : P_X6_tell v0 v1 (fun r T => Q r T ∧ K2 S T) S := kf_X6_tell_0 h (k2_rf S)
set_option maxRecDepth 20000 in
set_option maxHeartbeats 1000000 in
theorem kf_X7_addMove_0 {Q : HS → Prop} {v0 : Nat} {v1 : Int32} {v2 : Int32} {v3 : Int32} {v4 : Int64} {v6 : Int32} {S0 S : HS} (h : P_X7_addMove_0 Q v0 v1 v2 v3 v4 v6 S) (K : K2 S0 S) : P_X7_addMove_0 (fun T => Q T ∧ K2 S0 T) v0 v1 v2 v3 v4 v6 S := by
  delta P_X7_addMove_0 at h ⊢
  obtain ⟨c1, h⟩ := h
  refine ⟨c1, ?_⟩
  have n2 := k2_ne K c1 (by decide)
  intro x4 e3
  have h := h x4 e3
  refine ⟨?_, ?_⟩
  · intro c5
    have h := h.1 c5
    exact ⟨h, K⟩
  · intro c6
    have h := h.2 c6
    intro x8 e7
    have h := h x8 e7
    refine ⟨?_, ?_⟩
    · intro c9
      have h := h.1 c9
      exact ⟨h, K⟩
    · intro c10
      have h := h.2 c10
      intro x12 e11
      have h := h x12 e11
      refine ⟨?_, ?_⟩
      · intro c13
        have h := h.1 c13
        obtain ⟨b14, e15, h⟩ := h
        refine ⟨b14, e15, ?_⟩
        intro x17 e16
        have h := h x17 e16
        obtain ⟨c18, h⟩ := h
        refine ⟨c18, ?_⟩
        have n19 := k2_ne K c18 (by decide)
        intro x21 e20
        have h := h x21 e20
        obtain ⟨c22, h⟩ := h
        refine ⟨c22, ?_⟩
        intro x24 e23
        have h := h x24 e23
        have K := k2_I K e23 n19
        obtain ⟨b25, e26, h⟩ := h
        refine ⟨b25, e26, ?_⟩
        intro x28 e27
        have h := h x28 e27
        obtain ⟨c29, h⟩ := h
        refine ⟨c29, ?_⟩
        have n30 := k2_ne K c29 (by decide)
        intro x32 e31
        have h := h x32 e31
        obtain ⟨c33, h⟩ := h
        refine ⟨c33, ?_⟩
        intro x35 e34
        have h := h x35 e34
        have K := k2_I K e34 n30
        obtain ⟨b36, e37, h⟩ := h
        refine ⟨b36, e37, ?_⟩
        intro x39 e38
        have h := h x39 e38
        obtain ⟨c40, h⟩ := h
        refine ⟨c40, ?_⟩
        have n41 := k2_ne K c40 (by decide)
        obtain ⟨c42, h⟩ := h
        refine ⟨c42, ?_⟩
        intro x44 e43
        have h := h x44 e43
        have K := k2_I K e43 n41
        obtain ⟨b45, e46, h⟩ := h
        refine ⟨b45, e46, ?_⟩
        intro x48 e47
        have h := h x48 e47
        obtain ⟨c49, h⟩ := h
        refine ⟨c49, ?_⟩
        have n50 := k2_ne K c49 (by decide)
        intro x52 e51
        have h := h x52 e51
        obtain ⟨c53, h⟩ := h
        refine ⟨c53, ?_⟩
        intro x55 e54
        have h := h x55 e54
        have K := k2_J K e54
        obtain ⟨b56, e57, h⟩ := h
        refine ⟨b56, e57, ?_⟩
        intro x59 e58
        have h := h x59 e58
        obtain ⟨c60, h⟩ := h
        refine ⟨c60, ?_⟩
        have n61 := k2_ne K c60 (by decide)
        obtain ⟨c62, h⟩ := h
        refine ⟨c62, ?_⟩
        intro x64 e63
        have h := h x64 e63
        have K := k2_I K e63 n61
        intro x66 e65
        have h := h x66 e65
        intro x68 e67
        have h := h x68 e67
        intro x70 e69
        have h := h x70 e69
        have K := k2_I K e69 n2
        exact ⟨h, K⟩
      · intro c71
        have h := h.2 c71
        exact ⟨h, K⟩
theorem kf_X7_addMove {Q : HS → Prop} {v0 : Nat} {v1 : Int32} {v2 : Int32} {v3 : Int32} {v4 : Int64} {v6 : Int32} {S : HS} (h : P_X7_addMove v0 v1 v2 v3 v4 v6 Q S) : P_X7_addMove v0 v1 v2 v3 v4 v6 (fun T => Q T ∧ K2 S T) S := kf_X7_addMove_0 h (k2_rf S)
set_option maxRecDepth 20000 in
set_option maxHeartbeats 1000000 in
theorem kf_X7_addLeg_82 {Q : HS → Prop} {v0 : Nat} {v1 : Nat} {v2 : Int32} {v4 : Int64} {v6 : Int32} {v7 : Int32} {S0 S : HS} (h : P_X7_addLeg_82 Q v0 v1 v2 v4 v6 v7 S) (K : K2 S0 S) : P_X7_addLeg_82 (fun T => Q T ∧ K2 S0 T) v0 v1 v2 v4 v6 v7 S := by
  delta P_X7_addLeg_82 at h ⊢
  obtain ⟨c1, h⟩ := h
  refine ⟨c1, ?_⟩
  have n2 := k2_ne K c1 (by decide)
  refine cm_X5_startOf (kf_X5_startOf h) h (fun x3 x4 hp h g5 => ?_)
  have h := h g5
  have K := k2_tr K hp.2
  refine cm_X5_endOf (kf_X5_endOf h) h (fun x6 x7 hp h g8 => ?_)
  have h := h g8
  have K := k2_tr K hp.2
  obtain ⟨c9, h⟩ := h
  refine ⟨c9, ?_⟩
  have n10 := k2_ne K c9 (by decide)
  refine cm_X7_addMove (kf_X7_addMove h) h (fun x11 hp h g12 => ?_)
  have h := h g12
  have K := k2_tr K hp.2
  exact ⟨h, K⟩
set_option maxRecDepth 20000 in
set_option maxHeartbeats 1000000 in
theorem kf_X7_addLeg_0 {Q : HS → Prop} {v0 : Nat} {v1 : Nat} {v2 : Int32} {v3 : Int32} {v4 : Int64} {v6 : Int32} {S0 S : HS} (h : P_X7_addLeg_0 Q v0 v1 v2 v3 v4 v6 S) (K : K2 S0 S) : P_X7_addLeg_0 (fun T => Q T ∧ K2 S0 T) v0 v1 v2 v3 v4 v6 S := by
  delta P_X7_addLeg_0 at h ⊢
  obtain ⟨c1, h⟩ := h
  refine ⟨c1, ?_⟩
  have n2 := k2_ne K c1 (by decide)
  refine cm_X5_minutesAt (kf_X5_minutesAt h) h (fun x3 x4 hp h g5 => ?_)
  have h := h g5
  have K := k2_tr K hp.2
  obtain ⟨c6, h⟩ := h
  refine ⟨c6, ?_⟩
  have n7 := k2_ne K c6 (by decide)
  intro x9 e8
  have h := h x9 e8
  intro x11 e10
  have h := h x11 e10
  refine ⟨?_, ?_⟩
  · intro c12
    have h := h.1 c12
    exact kf_X7_addLeg_82 h K
  · intro c13
    have h := h.2 c13
    refine ⟨?_, ?_⟩
    · intro c14
      have h := h.1 c14
      exact kf_X7_addLeg_82 h K
    · intro c15
      have h := h.2 c15
      obtain ⟨b16, e17, h⟩ := h
      refine ⟨b16, e17, ?_⟩
      obtain ⟨c18, h⟩ := h
      refine ⟨c18, ?_⟩
      have n19 := k2_ne K c18 (by decide)
      obtain ⟨c20, h⟩ := h
      refine ⟨c20, ?_⟩
      intro x22 e21
      have h := h x22 e21
      intro x24 e23
      have h := h x24 e23
      intro x26 e25
      have h := h x26 e25
      refine ⟨?_, ?_⟩
      · intro c27
        have h := h.1 c27
        exact kf_X7_addLeg_82 h K
      · intro c28
        have h := h.2 c28
        obtain ⟨b29, e30, h⟩ := h
        refine ⟨b29, e30, ?_⟩
        obtain ⟨c31, h⟩ := h
        refine ⟨c31, ?_⟩
        have n32 := k2_ne K c31 (by decide)
        obtain ⟨c33, h⟩ := h
        refine ⟨c33, ?_⟩
        intro x35 e34
        have h := h x35 e34
        refine ⟨?_, ?_⟩
        · intro c36
          have h := h.1 c36
          exact kf_X7_addLeg_82 h K
        · intro c37
          have h := h.2 c37
          obtain ⟨b38, e39, h⟩ := h
          refine ⟨b38, e39, ?_⟩
          obtain ⟨c40, h⟩ := h
          refine ⟨c40, ?_⟩
          have n41 := k2_ne K c40 (by decide)
          obtain ⟨c42, h⟩ := h
          refine ⟨c42, ?_⟩
          intro x44 e43
          have h := h x44 e43
          refine ⟨?_, ?_⟩
          · intro c45
            have h := h.1 c45
            intro x47 e46
            have h := h x47 e46
            have K := k2_I K e46 n7
            exact kf_X7_addLeg_82 h K
          · intro c48
            have h := h.2 c48
            exact ⟨h, K⟩
theorem kf_X7_addLeg {Q : HS → Prop} {v0 : Nat} {v1 : Nat} {v2 : Int32} {v3 : Int32} {v4 : Int64} {v6 : Int32} {S : HS} (h : P_X7_addLeg v0 v1 v2 v3 v4 v6 Q S) : P_X7_addLeg v0 v1 v2 v3 v4 v6 (fun T => Q T ∧ K2 S T) S := kf_X7_addLeg_0 h (k2_rf S)
set_option maxRecDepth 20000 in
set_option maxHeartbeats 1000000 in
theorem kf_X7_keyOf_0 {Q : Int64 → HS → Prop} {v0 : Nat} {v1 : Int32} {v2 : Int32} {S0 S : HS} (h : P_X7_keyOf_0 Q v0 v1 v2 S) (K : K2 S0 S) : P_X7_keyOf_0 (fun r T => Q r T ∧ K2 S0 T) v0 v1 v2 S := by
  delta P_X7_keyOf_0 at h ⊢
  intro x2 e1
  have h := h x2 e1
  refine ⟨?_, ?_⟩
  · intro c3
    have h := h.1 c3
    exact ⟨h, K⟩
  · intro c4
    have h := h.2 c4
    obtain ⟨c5, h⟩ := h
    refine ⟨c5, ?_⟩
    have n6 := k2_ne K c5 (by decide)
    obtain ⟨b7, e8, h⟩ := h
    refine ⟨b7, e8, ?_⟩
    obtain ⟨c9, h⟩ := h
    refine ⟨c9, ?_⟩
    have n10 := k2_ne K c9 (by decide)
    refine ⟨?_, ?_⟩
    · intro c11
      have h := h.1 c11
      exact ⟨h, K⟩
    · intro c12
      have h := h.2 c12
      obtain ⟨b13, e14, h⟩ := h
      refine ⟨b13, e14, ?_⟩
      obtain ⟨c15, h⟩ := h
      refine ⟨c15, ?_⟩
      have n16 := k2_ne K c15 (by decide)
      obtain ⟨c17, h⟩ := h
      refine ⟨c17, ?_⟩
      intro x19 e18
      have h := h x19 e18
      exact ⟨h, K⟩
theorem kf_X7_keyOf {Q : Int64 → HS → Prop} {v0 : Nat} {v1 : Int32} {v2 : Int32} {S : HS} (h : P_X7_keyOf v0 v1 v2 Q S) : P_X7_keyOf v0 v1 v2 (fun r T => Q r T ∧ K2 S T) S := kf_X7_keyOf_0 h (k2_rf S)
set_option maxRecDepth 20000 in
set_option maxHeartbeats 1000000 in
theorem kf_X7_endFrom_0 {Q : Int32 → HS → Prop} {v0 : Nat} {v1 : Int32} {v2 : Int32} {S0 S : HS} (h : P_X7_endFrom_0 Q v0 v1 v2 S) (K : K2 S0 S) : P_X7_endFrom_0 (fun r T => Q r T ∧ K2 S0 T) v0 v1 v2 S := by
  delta P_X7_endFrom_0 at h ⊢
  obtain ⟨c1, h⟩ := h
  refine ⟨c1, ?_⟩
  have n2 := k2_ne K c1 (by decide)
  refine cm_X7_keyOf (kf_X7_keyOf h) h (fun x3 x4 hp h g5 => ?_)
  have h := h g5
  have K := k2_tr K hp.2
  intro x7 e6
  have h := h x7 e6
  exact ⟨h, K⟩
theorem kf_X7_endFrom {Q : Int32 → HS → Prop} {v0 : Nat} {v1 : Int32} {v2 : Int32} {S : HS} (h : P_X7_endFrom v0 v1 v2 Q S) : P_X7_endFrom v0 v1 v2 (fun r T => Q r T ∧ K2 S T) S := kf_X7_endFrom_0 h (k2_rf S)
set_option maxRecDepth 20000 in
set_option maxHeartbeats 1000000 in
theorem kf_X7_forget_0 {Q : HS → Prop} {v0 : Nat} {S0 S : HS} (h : P_X7_forget_0 Q v0 S) (K : K2 S0 S) : P_X7_forget_0 (fun T => Q T ∧ K2 S0 T) v0 S := by
  delta P_X7_forget_0 at h ⊢
  obtain ⟨c1, h⟩ := h
  refine ⟨c1, ?_⟩
  have n2 := k2_ne K c1 (by decide)
  intro x4 e3
  have h := h x4 e3
  have K := k2_I K e3 n2
  exact ⟨h, K⟩
theorem kf_X7_forget {Q : HS → Prop} {v0 : Nat} {S : HS} (h : P_X7_forget v0 Q S) : P_X7_forget v0 (fun T => Q T ∧ K2 S T) S := kf_X7_forget_0 h (k2_rf S)
set_option maxRecDepth 20000 in
set_option maxHeartbeats 1000000 in
theorem kf_X7_isOpen_0 {Q : Int32 → HS → Prop} {v0 : Nat} {v1 : Int32} {v2 : Int32} {S0 S : HS} (h : P_X7_isOpen_0 Q v0 v1 v2 S) (K : K2 S0 S) : P_X7_isOpen_0 (fun r T => Q r T ∧ K2 S0 T) v0 v1 v2 S := by
  delta P_X7_isOpen_0 at h ⊢
  obtain ⟨c1, h⟩ := h
  refine ⟨c1, ?_⟩
  have n2 := k2_ne K c1 (by decide)
  refine cm_X7_keyOf (kf_X7_keyOf h) h (fun x3 x4 hp h g5 => ?_)
  have h := h g5
  have K := k2_tr K hp.2
  refine ⟨?_, ?_⟩
  · intro c6
    have h := h.1 c6
    exact ⟨h, K⟩
  · intro c7
    have h := h.2 c7
    exact ⟨h, K⟩
theorem kf_X7_isOpen {Q : Int32 → HS → Prop} {v0 : Nat} {v1 : Int32} {v2 : Int32} {S : HS} (h : P_X7_isOpen v0 v1 v2 Q S) : P_X7_isOpen v0 v1 v2 (fun r T => Q r T ∧ K2 S T) S := kf_X7_isOpen_0 h (k2_rf S)
set_option maxRecDepth 20000 in
set_option maxHeartbeats 1000000 in
theorem kf_X7_makeRows_0 {Q : HS → Prop} {v0 : Nat} {S0 S : HS} (h : P_X7_makeRows_0 Q v0 S) (K : K2 S0 S) : P_X7_makeRows_0 (fun T => Q T ∧ K2 S0 T) v0 S := by
  delta P_X7_makeRows_0 at h ⊢
  intro x2 e1
  have h := h x2 e1
  intro x4 e3
  have h := h x4 e3
  have K := k2_W K e1 e3
  obtain ⟨c5, h⟩ := h
  refine ⟨c5, ?_⟩
  have n6 := k2_ne K c5 (by decide)
  intro x8 e7
  have h := h x8 e7
  have K := k2_R K e7
  intro x10 e9
  have h := h x10 e9
  intro x12 e11
  have h := h x12 e11
  have K := k2_W K e9 e11
  intro x14 e13
  have h := h x14 e13
  have K := k2_R K e13
  intro x16 e15
  have h := h x16 e15
  intro x18 e17
  have h := h x18 e17
  have K := k2_W K e15 e17
  intro x20 e19
  have h := h x20 e19
  have K := k2_R K e19
  intro x22 e21
  have h := h x22 e21
  intro x24 e23
  have h := h x24 e23
  have K := k2_W K e21 e23
  intro x26 e25
  have h := h x26 e25
  have K := k2_R K e25
  intro x28 e27
  have h := h x28 e27
  intro x30 e29
  have h := h x30 e29
  have K := k2_W K e27 e29
  intro x32 e31
  have h := h x32 e31
  have K := k2_R K e31
  intro x34 e33
  have h := h x34 e33
  intro x36 e35
  have h := h x36 e35
  have K := k2_W K e33 e35
  intro x38 e37
  have h := h x38 e37
  have K := k2_R K e37
  intro x40 e39
  have h := h x40 e39
  intro x42 e41
  have h := h x42 e41
  have K := k2_W K e39 e41
  intro x44 e43
  have h := h x44 e43
  have K := k2_R K e43
  intro x46 e45
  have h := h x46 e45
  intro x48 e47
  have h := h x48 e47
  have K := k2_W K e45 e47
  intro x50 e49
  have h := h x50 e49
  have K := k2_R K e49
  exact ⟨h, K⟩
theorem kf_X7_makeRows {Q : HS → Prop} {v0 : Nat} {S : HS} (h : P_X7_makeRows v0 Q S) : P_X7_makeRows v0 (fun T => Q T ∧ K2 S T) S := kf_X7_makeRows_0 h (k2_rf S)
set_option maxRecDepth 20000 in
set_option maxHeartbeats 1000000 in
theorem kf_X7_meanFrom_0 {Q : Int64 → HS → Prop} {v0 : Nat} {v1 : Int32} {v2 : Int32} {S0 S : HS} (h : P_X7_meanFrom_0 Q v0 v1 v2 S) (K : K2 S0 S) : P_X7_meanFrom_0 (fun r T => Q r T ∧ K2 S0 T) v0 v1 v2 S := by
  delta P_X7_meanFrom_0 at h ⊢
  obtain ⟨c1, h⟩ := h
  refine ⟨c1, ?_⟩
  have n2 := k2_ne K c1 (by decide)
  refine cm_X7_keyOf (kf_X7_keyOf h) h (fun x3 x4 hp h g5 => ?_)
  have h := h g5
  have K := k2_tr K hp.2
  intro x7 e6
  have h := h x7 e6
  exact ⟨h, K⟩
theorem kf_X7_meanFrom {Q : Int64 → HS → Prop} {v0 : Nat} {v1 : Int32} {v2 : Int32} {S : HS} (h : P_X7_meanFrom v0 v1 v2 Q S) : P_X7_meanFrom v0 v1 v2 (fun r T => Q r T ∧ K2 S T) S := kf_X7_meanFrom_0 h (k2_rf S)
set_option maxRecDepth 20000 in
set_option maxHeartbeats 1000000 in
theorem kf_X8_hasPlace_0 {Q : Int32 → HS → Prop} {v0 : Nat} {v1 : Int32} {S0 S : HS} (h : P_X8_hasPlace_0 Q v0 v1 S) (K : K2 S0 S) : P_X8_hasPlace_0 (fun r T => Q r T ∧ K2 S0 T) v0 v1 S := by
  delta P_X8_hasPlace_0 at h ⊢
  refine ⟨?_, ?_⟩
  · intro c1
    have h := h.1 c1
    exact ⟨h, K⟩
  · intro c2
    have h := h.2 c2
    obtain ⟨c3, h⟩ := h
    refine ⟨c3, ?_⟩
    have n4 := k2_ne K c3 (by decide)
    intro x6 e5
    have h := h x6 e5
    refine ⟨?_, ?_⟩
    · intro c7
      have h := h.1 c7
      exact ⟨h, K⟩
    · intro c8
      have h := h.2 c8
      obtain ⟨b9, e10, h⟩ := h
      refine ⟨b9, e10, ?_⟩
      obtain ⟨c11, h⟩ := h
      refine ⟨c11, ?_⟩
      have n12 := k2_ne K c11 (by decide)
      refine ⟨?_, ?_⟩
      · intro c13
        have h := h.1 c13
        exact ⟨h, K⟩
      · intro c14
        have h := h.2 c14
        exact ⟨h, K⟩
theorem kf_X8_hasPlace {Q : Int32 → HS → Prop} {v0 : Nat} {v1 : Int32} {S : HS} (h : P_X8_hasPlace v0 v1 Q S) : P_X8_hasPlace v0 v1 (fun r T => Q r T ∧ K2 S T) S := kf_X8_hasPlace_0 h (k2_rf S)
set_option maxRecDepth 20000 in
set_option maxHeartbeats 1000000 in
theorem kf_X8_canWait_0 {Q : Int32 → HS → Prop} {v0 : Nat} {v1 : Int32} {S0 S : HS} (h : P_X8_canWait_0 Q v0 v1 S) (K : K2 S0 S) : P_X8_canWait_0 (fun r T => Q r T ∧ K2 S0 T) v0 v1 S := by
  delta P_X8_canWait_0 at h ⊢
  obtain ⟨c1, h⟩ := h
  refine ⟨c1, ?_⟩
  have n2 := k2_ne K c1 (by decide)
  refine cm_X8_hasPlace (kf_X8_hasPlace h) h (fun x3 x4 hp h g5 g6 => ?_)
  have h := h g5 g6
  have K := k2_tr K hp.2
  refine ⟨?_, ?_⟩
  · intro c7
    have h := h.1 c7
    exact ⟨h, K⟩
  · intro c8
    have h := h.2 c8
    obtain ⟨b9, e10, h⟩ := h
    refine ⟨b9, e10, ?_⟩
    obtain ⟨c11, h⟩ := h
    refine ⟨c11, ?_⟩
    have n12 := k2_ne K c11 (by decide)
    obtain ⟨c13, h⟩ := h
    refine ⟨c13, ?_⟩
    intro x15 e14
    have h := h x15 e14
    refine ⟨?_, ?_⟩
    · intro c16
      have h := h.1 c16
      exact ⟨h, K⟩
    · intro c17
      have h := h.2 c17
      exact ⟨h, K⟩
theorem kf_X8_canWait {Q : Int32 → HS → Prop} {v0 : Nat} {v1 : Int32} {S : HS} (h : P_X8_canWait v0 v1 Q S) : P_X8_canWait v0 v1 (fun r T => Q r T ∧ K2 S T) S := kf_X8_canWait_0 h (k2_rf S)
set_option maxRecDepth 20000 in
set_option maxHeartbeats 1000000 in
theorem kf_X8_dripOn_0 {Q : Int32 → HS → Prop} {v0 : Nat} {v1 : Nat} {v2 : Int32} {S0 S : HS} (h : P_X8_dripOn_0 Q v0 v1 v2 S) (K : K2 S0 S) : P_X8_dripOn_0 (fun r T => Q r T ∧ K2 S0 T) v0 v1 v2 S := by
  delta P_X8_dripOn_0 at h ⊢
  obtain ⟨c1, h⟩ := h
  refine ⟨c1, ?_⟩
  have n2 := k2_ne K c1 (by decide)
  refine cm_X8_canWait (kf_X8_canWait h) h (fun x3 x4 hp h g5 g6 => ?_)
  have h := h g5 g6
  have K := k2_tr K hp.2
  refine ⟨?_, ?_⟩
  · intro c7
    have h := h.1 c7
    exact ⟨h, K⟩
  · intro c8
    have h := h.2 c8
    obtain ⟨b9, e10, h⟩ := h
    refine ⟨b9, e10, ?_⟩
    obtain ⟨c11, h⟩ := h
    refine ⟨c11, ?_⟩
    have n12 := k2_ne K c11 (by decide)
    obtain ⟨c13, h⟩ := h
    refine ⟨c13, ?_⟩
    intro x15 e14
    have h := h x15 e14
    obtain ⟨c16, h⟩ := h
    refine ⟨c16, ?_⟩
    have n17 := k2_ne K c16 (by decide)
    intro x19 e18
    have h := h x19 e18
    refine cm_X6_shield (kf_X6_shield h) h (fun x20 x21 hp h g22 => ?_)
    have h := h g22
    have K := k2_tr K hp.2
    intro x24 e23
    have h := h x24 e23
    exact ⟨h, K⟩
theorem kf_X8_dripOn {Q : Int32 → HS → Prop} {v0 : Nat} {v1 : Nat} {v2 : Int32} {S : HS} (h : P_X8_dripOn v0 v1 v2 Q S) : P_X8_dripOn v0 v1 v2 (fun r T => Q r T ∧ K2 S T) S := kf_X8_dripOn_0 h (k2_rf S)
set_option maxRecDepth 20000 in
set_option maxHeartbeats 1000000 in
theorem kf_X8_hasHour_0 {Q : Int32 → HS → Prop} {v0 : Nat} {v1 : Int32} {S0 S : HS} (h : P_X8_hasHour_0 Q v0 v1 S) (K : K2 S0 S) : P_X8_hasHour_0 (fun r T => Q r T ∧ K2 S0 T) v0 v1 S := by
  delta P_X8_hasHour_0 at h ⊢
  refine ⟨?_, ?_⟩
  · intro c1
    have h := h.1 c1
    exact ⟨h, K⟩
  · intro c2
    have h := h.2 c2
    obtain ⟨c3, h⟩ := h
    refine ⟨c3, ?_⟩
    have n4 := k2_ne K c3 (by decide)
    intro x6 e5
    have h := h x6 e5
    refine ⟨?_, ?_⟩
    · intro c7
      have h := h.1 c7
      exact ⟨h, K⟩
    · intro c8
      have h := h.2 c8
      obtain ⟨b9, e10, h⟩ := h
      refine ⟨b9, e10, ?_⟩
      obtain ⟨c11, h⟩ := h
      refine ⟨c11, ?_⟩
      have n12 := k2_ne K c11 (by decide)
      refine ⟨?_, ?_⟩
      · intro c13
        have h := h.1 c13
        exact ⟨h, K⟩
      · intro c14
        have h := h.2 c14
        exact ⟨h, K⟩
theorem kf_X8_hasHour {Q : Int32 → HS → Prop} {v0 : Nat} {v1 : Int32} {S : HS} (h : P_X8_hasHour v0 v1 Q S) : P_X8_hasHour v0 v1 (fun r T => Q r T ∧ K2 S T) S := kf_X8_hasHour_0 h (k2_rf S)
set_option maxRecDepth 20000 in
set_option maxHeartbeats 1000000 in
theorem kf_X7_price_134 {Q : HS → Prop} {X51 X51_2 : Nat → Nat → Nat → Int32 → Nat → Int32 → Int32 → HS → Prop} {X86 X86_2 : Nat → Nat → Nat → Int32 → Nat → Int32 → Int32 → Nat → Int32 → Int32 → HS → Prop} {v0 : Nat} {v1 : Nat} {v2 : Nat} {v3 : Int32} {v4 : Nat} {v5 : Int32} {v6 : Int32} {v7 : Nat} {v8 : Int32} {v9 : Int32} {s0 : Int64} {S0 S : HS} (h : P_X7_price_134 Q X51 X86 v0 v1 v2 v3 v4 v5 v6 v7 v8 v9 s0 S) (K : K2 S0 S) (hX51 : ∀ (u0 : Nat) (u1 : Nat) (u2 : Nat) (u3 : Int32) (u4 : Nat) (u5 : Int32) (u6 : Int32) (u7 : HS), X51 u0 u1 u2 u3 u4 u5 u6 u7 → K2 S0 u7 → X51_2 u0 u1 u2 u3 u4 u5 u6 u7) (hX86 : ∀ (u0 : Nat) (u1 : Nat) (u2 : Nat) (u3 : Int32) (u4 : Nat) (u5 : Int32) (u6 : Int32) (u7 : Nat) (u8 : Int32) (u9 : Int32) (u10 : HS), X86 u0 u1 u2 u3 u4 u5 u6 u7 u8 u9 u10 → K2 S0 u10 → X86_2 u0 u1 u2 u3 u4 u5 u6 u7 u8 u9 u10) : P_X7_price_134 (fun T => Q T ∧ K2 S0 T) X51_2 X86_2 v0 v1 v2 v3 v4 v5 v6 v7 v8 v9 s0 S := by
  delta P_X7_price_134 at h ⊢
  intro x2 e1
  have h := h x2 e1
  obtain ⟨c3, h⟩ := h
  refine ⟨c3, ?_⟩
  have n4 := k2_ne K c3 (by decide)
  refine cm_X7_addLeg (kf_X7_addLeg h) h (fun x5 hp h g6 => ?_)
  have h := h g6
  have K := k2_tr K hp.2
  intro x8 e7
  have h := h x8 e7
  exact hX86 _ _ _ _ _ _ _ _ _ _ _ h K
set_option maxRecDepth 20000 in
set_option maxHeartbeats 1000000 in
theorem kfB_X7_price_86 {Q : HS → Prop} {X51 X51_2 : Nat → Nat → Nat → Int32 → Nat → Int32 → Int32 → HS → Prop} {X86 X86_2 : Nat → Nat → Nat → Int32 → Nat → Int32 → Int32 → Nat → Int32 → Int32 → HS → Prop} {v0 : Nat} {v1 : Nat} {v2 : Nat} {v3 : Int32} {v4 : Nat} {v5 : Int32} {v6 : Int32} {v7 : Nat} {v8 : Int32} {v9 : Int32} {S0 S : HS} (h : B_X7_price_86 Q X51 X86 v0 v1 v2 v3 v4 v5 v6 v7 v8 v9 S) (K : K2 S0 S) (hX51 : ∀ (u0 : Nat) (u1 : Nat) (u2 : Nat) (u3 : Int32) (u4 : Nat) (u5 : Int32) (u6 : Int32) (u7 : HS), X51 u0 u1 u2 u3 u4 u5 u6 u7 → K2 S0 u7 → X51_2 u0 u1 u2 u3 u4 u5 u6 u7) (hX86 : ∀ (u0 : Nat) (u1 : Nat) (u2 : Nat) (u3 : Int32) (u4 : Nat) (u5 : Int32) (u6 : Int32) (u7 : Nat) (u8 : Int32) (u9 : Int32) (u10 : HS), X86 u0 u1 u2 u3 u4 u5 u6 u7 u8 u9 u10 → K2 S0 u10 → X86_2 u0 u1 u2 u3 u4 u5 u6 u7 u8 u9 u10) : B_X7_price_86 (fun T => Q T ∧ K2 S0 T) X51_2 X86_2 v0 v1 v2 v3 v4 v5 v6 v7 v8 v9 S := by
  delta B_X7_price_86 at h ⊢
  obtain ⟨c1, h⟩ := h
  refine ⟨c1, ?_⟩
  have n2 := k2_ne K c1 (by decide)
  intro x4 e3
  have h := h x4 e3
  refine ⟨?_, ?_⟩
  · intro c5
    have h := h.1 c5
    intro x7 e6
    have h := h x7 e6
    exact hX51 _ _ _ _ _ _ _ _ h K
  · intro c8
    have h := h.2 c8
    refine ⟨?_, ?_⟩
    · intro c9
      have h := h.1 c9
      obtain ⟨c10, h⟩ := h
      refine ⟨c10, ?_⟩
      have n11 := k2_ne K c10 (by decide)
      obtain ⟨b12, e13, h⟩ := h
      refine ⟨b12, e13, ?_⟩
      obtain ⟨c14, h⟩ := h
      refine ⟨c14, ?_⟩
      have n15 := k2_ne K c14 (by decide)
      obtain ⟨c16, h⟩ := h
      refine ⟨c16, ?_⟩
      obtain ⟨b17, e18, h⟩ := h
      refine ⟨b17, e18, ?_⟩
      obtain ⟨c19, h⟩ := h
      refine ⟨c19, ?_⟩
      have n20 := k2_ne K c19 (by decide)
      refine cm_X1_wetOf (kf_X1_wetOf h) h (fun x21 x22 hp h g23 => ?_)
      have h := h g23
      have K := k2_tr K hp.2
      obtain ⟨b24, e25, h⟩ := h
      refine ⟨b24, e25, ?_⟩
      obtain ⟨c26, h⟩ := h
      refine ⟨c26, ?_⟩
      have n27 := k2_ne K c26 (by decide)
      obtain ⟨c28, h⟩ := h
      refine ⟨c28, ?_⟩
      obtain ⟨b29, e30, h⟩ := h
      refine ⟨b29, e30, ?_⟩
      obtain ⟨c31, h⟩ := h
      refine ⟨c31, ?_⟩
      have n32 := k2_ne K c31 (by decide)
      intro x34 e33
      have h := h x34 e33
      exact kf_X7_price_134 h K hX51 hX86
    · intro c35
      have h := h.2 c35
      exact kf_X7_price_134 h K hX51 hX86
theorem kf_X7_price_86 {Q : HS → Prop} {X51 X51_2 : Nat → Nat → Nat → Int32 → Nat → Int32 → Int32 → HS → Prop} {v0 : Nat} {v1 : Nat} {v2 : Nat} {v3 : Int32} {v4 : Nat} {v5 : Int32} {v6 : Int32} {v7 : Nat} {v8 : Int32} {v9 : Int32} {S0 S : HS} (h : P_X7_price_86 Q X51 v0 v1 v2 v3 v4 v5 v6 v7 v8 v9 S) (K : K2 S0 S) (hX51 : ∀ (u0 : Nat) (u1 : Nat) (u2 : Nat) (u3 : Int32) (u4 : Nat) (u5 : Int32) (u6 : Int32) (u7 : HS), X51 u0 u1 u2 u3 u4 u5 u6 u7 → K2 S0 u7 → X51_2 u0 u1 u2 u3 u4 u5 u6 u7) : P_X7_price_86 (fun T => Q T ∧ K2 S0 T) X51_2 v0 v1 v2 v3 v4 v5 v6 v7 v8 v9 S := h (fun v0 v1 v2 v3 v4 v5 v6 v7 v8 v9 S => K2 S0 S → P_X7_price_86 (fun T => Q T ∧ K2 S0 T) X51_2 v0 v1 v2 v3 v4 v5 v6 v7 v8 v9 S) (fun v0 v1 v2 v3 v4 v5 v6 v7 v8 v9 S hB K => fd_X7_price_86 (kfB_X7_price_86 hB K hX51 (fun _ _ _ _ _ _ _ _ _ _ _ hx K => hx K))) K
set_option maxRecDepth 20000 in
set_option maxHeartbeats 1000000 in
theorem kf_X7_price_245 {Q : HS → Prop} {X179 X179_2 : Nat → Nat → Int32 → Nat → Int32 → Int32 → HS → Prop} {v0 : Nat} {v1 : Nat} {v3 : Int32} {v4 : Nat} {v5 : Int32} {v6 : Int32} {S0 S : HS} (h : P_X7_price_245 Q X179 v0 v1 v3 v4 v5 v6 S) (K : K2 S0 S) (hX179 : ∀ (u0 : Nat) (u1 : Nat) (u2 : Int32) (u3 : Nat) (u4 : Int32) (u5 : Int32) (u6 : HS), X179 u0 u1 u2 u3 u4 u5 u6 → K2 S0 u6 → X179_2 u0 u1 u2 u3 u4 u5 u6) : P_X7_price_245 (fun T => Q T ∧ K2 S0 T) X179_2 v0 v1 v3 v4 v5 v6 S := by
  delta P_X7_price_245 at h ⊢
  intro x2 e1
  have h := h x2 e1
  exact hX179 _ _ _ _ _ _ _ h K
set_option maxRecDepth 20000 in
set_option maxHeartbeats 1000000 in
theorem kf_X7_price_230 {Q : HS → Prop} {X179 X179_2 : Nat → Nat → Int32 → Nat → Int32 → Int32 → HS → Prop} {v0 : Nat} {v1 : Nat} {v3 : Int32} {v4 : Nat} {v5 : Int32} {v6 : Int32} {s0 : Int64} {S0 S : HS} (h : P_X7_price_230 Q X179 v0 v1 v3 v4 v5 v6 s0 S) (K : K2 S0 S) (hX179 : ∀ (u0 : Nat) (u1 : Nat) (u2 : Int32) (u3 : Nat) (u4 : Int32) (u5 : Int32) (u6 : HS), X179 u0 u1 u2 u3 u4 u5 u6 → K2 S0 u6 → X179_2 u0 u1 u2 u3 u4 u5 u6) : P_X7_price_230 (fun T => Q T ∧ K2 S0 T) X179_2 v0 v1 v3 v4 v5 v6 s0 S := by
  delta P_X7_price_230 at h ⊢
  obtain ⟨c1, h⟩ := h
  refine ⟨c1, ?_⟩
  have n2 := k2_ne K c1 (by decide)
  refine cm_X7_addMove (kf_X7_addMove h) h (fun x3 hp h g4 => ?_)
  have h := h g4
  have K := k2_tr K hp.2
  exact kf_X7_price_245 h K hX179
set_option maxRecDepth 20000 in
set_option maxHeartbeats 1000000 in
theorem kfB_X7_price_179 {Q : HS → Prop} {X179 X179_2 : Nat → Nat → Int32 → Nat → Int32 → Int32 → HS → Prop} {v0 : Nat} {v1 : Nat} {v3 : Int32} {v4 : Nat} {v5 : Int32} {v6 : Int32} {S0 S : HS} (h : B_X7_price_179 Q X179 v0 v1 v3 v4 v5 v6 S) (K : K2 S0 S) (hX179 : ∀ (u0 : Nat) (u1 : Nat) (u2 : Int32) (u3 : Nat) (u4 : Int32) (u5 : Int32) (u6 : HS), X179 u0 u1 u2 u3 u4 u5 u6 → K2 S0 u6 → X179_2 u0 u1 u2 u3 u4 u5 u6) : B_X7_price_179 (fun T => Q T ∧ K2 S0 T) X179_2 v0 v1 v3 v4 v5 v6 S := by
  delta B_X7_price_179 at h ⊢
  obtain ⟨c1, h⟩ := h
  refine ⟨c1, ?_⟩
  have n2 := k2_ne K c1 (by decide)
  intro x4 e3
  have h := h x4 e3
  refine ⟨?_, ?_⟩
  · intro c5
    have h := h.1 c5
    exact ⟨h, K⟩
  · intro c6
    have h := h.2 c6
    refine cm_X8_canWait (kf_X8_canWait h) h (fun x7 x8 hp h g9 g10 => ?_)
    have h := h g9 g10
    have K := k2_tr K hp.2
    refine ⟨?_, ?_⟩
    · intro c11
      have h := h.1 c11
      exact kf_X7_price_245 h K hX179
    · intro c12
      have h := h.2 c12
      refine ⟨?_, ?_⟩
      · intro c13
        have h := h.1 c13
        refine cm_X8_dripOn (kf_X8_dripOn h) h (fun x14 x15 hp h g16 => ?_)
        have h := h g16
        have K := k2_tr K hp.2
        obtain ⟨b17, e18, h⟩ := h
        refine ⟨b17, e18, ?_⟩
        obtain ⟨c19, h⟩ := h
        refine ⟨c19, ?_⟩
        have n20 := k2_ne K c19 (by decide)
        obtain ⟨c21, h⟩ := h
        refine ⟨c21, ?_⟩
        obtain ⟨b22, e23, h⟩ := h
        refine ⟨b22, e23, ?_⟩
        obtain ⟨c24, h⟩ := h
        refine ⟨c24, ?_⟩
        have n25 := k2_ne K c24 (by decide)
        intro x27 e26
        have h := h x27 e26
        exact kf_X7_price_230 h K hX179
      · intro c28
        have h := h.2 c28
        exact kf_X7_price_230 h K hX179
theorem kf_X7_price_179 {Q : HS → Prop} {v0 : Nat} {v1 : Nat} {v3 : Int32} {v4 : Nat} {v5 : Int32} {v6 : Int32} {S0 S : HS} (h : P_X7_price_179 Q v0 v1 v3 v4 v5 v6 S) (K : K2 S0 S) : P_X7_price_179 (fun T => Q T ∧ K2 S0 T) v0 v1 v3 v4 v5 v6 S := h (fun v0 v1 v3 v4 v5 v6 S => K2 S0 S → P_X7_price_179 (fun T => Q T ∧ K2 S0 T) v0 v1 v3 v4 v5 v6 S) (fun v0 v1 v3 v4 v5 v6 S hB K => fd_X7_price_179 (kfB_X7_price_179 hB K (fun _ _ _ _ _ _ _ hx K => hx K))) K
set_option maxRecDepth 20000 in
set_option maxHeartbeats 1000000 in
theorem kfB_X7_price_51 {Q : HS → Prop} {X51 X51_2 : Nat → Nat → Nat → Int32 → Nat → Int32 → Int32 → HS → Prop} {v0 : Nat} {v1 : Nat} {v2 : Nat} {v3 : Int32} {v4 : Nat} {v5 : Int32} {v6 : Int32} {S0 S : HS} (h : B_X7_price_51 Q X51 v0 v1 v2 v3 v4 v5 v6 S) (K : K2 S0 S) (hX51 : ∀ (u0 : Nat) (u1 : Nat) (u2 : Nat) (u3 : Int32) (u4 : Nat) (u5 : Int32) (u6 : Int32) (u7 : HS), X51 u0 u1 u2 u3 u4 u5 u6 u7 → K2 S0 u7 → X51_2 u0 u1 u2 u3 u4 u5 u6 u7) : B_X7_price_51 (fun T => Q T ∧ K2 S0 T) X51_2 v0 v1 v2 v3 v4 v5 v6 S := by
  delta B_X7_price_51 at h ⊢
  obtain ⟨c1, h⟩ := h
  refine ⟨c1, ?_⟩
  have n2 := k2_ne K c1 (by decide)
  intro x4 e3
  have h := h x4 e3
  refine ⟨?_, ?_⟩
  · intro c5
    have h := h.1 c5
    exact kf_X7_price_179 h K
  · intro c6
    have h := h.2 c6
    obtain ⟨b7, e8, h⟩ := h
    refine ⟨b7, e8, ?_⟩
    intro x10 e9
    have h := h x10 e9
    obtain ⟨c11, h⟩ := h
    refine ⟨c11, ?_⟩
    have n12 := k2_ne K c11 (by decide)
    obtain ⟨c13, h⟩ := h
    refine ⟨c13, ?_⟩
    obtain ⟨b14, e15, h⟩ := h
    refine ⟨b14, e15, ?_⟩
    intro x17 e16
    have h := h x17 e16
    obtain ⟨c18, h⟩ := h
    refine ⟨c18, ?_⟩
    have n19 := k2_ne K c18 (by decide)
    intro x21 e20
    have h := h x21 e20
    exact kf_X7_price_86 h K hX51
theorem kf_X7_price_51 {Q : HS → Prop} {v0 : Nat} {v1 : Nat} {v2 : Nat} {v3 : Int32} {v4 : Nat} {v5 : Int32} {v6 : Int32} {S0 S : HS} (h : P_X7_price_51 Q v0 v1 v2 v3 v4 v5 v6 S) (K : K2 S0 S) : P_X7_price_51 (fun T => Q T ∧ K2 S0 T) v0 v1 v2 v3 v4 v5 v6 S := h (fun v0 v1 v2 v3 v4 v5 v6 S => K2 S0 S → P_X7_price_51 (fun T => Q T ∧ K2 S0 T) v0 v1 v2 v3 v4 v5 v6 S) (fun v0 v1 v2 v3 v4 v5 v6 S hB K => fd_X7_price_51 (kfB_X7_price_51 hB K (fun _ _ _ _ _ _ _ _ hx K => hx K))) K
set_option maxRecDepth 20000 in
set_option maxHeartbeats 1000000 in
theorem kf_X7_price_46 {Q : HS → Prop} {v0 : Nat} {v1 : Nat} {v2 : Nat} {v3 : Int32} {v4 : Nat} {s0 : Int32} {S0 S : HS} (h : P_X7_price_46 Q v0 v1 v2 v3 v4 s0 S) (K : K2 S0 S) : P_X7_price_46 (fun T => Q T ∧ K2 S0 T) v0 v1 v2 v3 v4 s0 S := by
  delta P_X7_price_46 at h ⊢
  exact kf_X7_price_51 h K
set_option maxRecDepth 20000 in
set_option maxHeartbeats 1000000 in
theorem kf_X7_price_0 {Q : HS → Prop} {v0 : Nat} {v1 : Nat} {v2 : Nat} {v3 : Int32} {S0 S : HS} (h : P_X7_price_0 Q v0 v1 v2 v3 S) (K : K2 S0 S) : P_X7_price_0 (fun T => Q T ∧ K2 S0 T) v0 v1 v2 v3 S := by
  delta P_X7_price_0 at h ⊢
  obtain ⟨c1, h⟩ := h
  refine ⟨c1, ?_⟩
  have n2 := k2_ne K c1 (by decide)
  intro x4 e3
  have h := h x4 e3
  have K := k2_I K e3 n2
  intro x6 e5
  have h := h x6 e5
  have K := k2_I K e5 n2
  intro x8 e7
  have h := h x8 e7
  obtain ⟨c9, h⟩ := h
  refine ⟨c9, ?_⟩
  have n10 := k2_ne K c9 (by decide)
  refine cm_X8_hasWalker (kf_X8_hasWalker h) h (fun x11 x12 hp h g13 g14 => ?_)
  have h := h g13 g14
  have K := k2_tr K hp.2
  refine ⟨?_, ?_⟩
  · intro c15
    have h := h.1 c15
    obtain ⟨b16, e17, h⟩ := h
    refine ⟨b16, e17, ?_⟩
    intro x19 e18
    have h := h x19 e18
    obtain ⟨c20, h⟩ := h
    refine ⟨c20, ?_⟩
    have n21 := k2_ne K c20 (by decide)
    obtain ⟨c22, h⟩ := h
    refine ⟨c22, ?_⟩
    obtain ⟨b23, e24, h⟩ := h
    refine ⟨b23, e24, ?_⟩
    refine cm_X8_hasHour (kf_X8_hasHour h) h (fun x25 x26 hp h g27 g28 => ?_)
    have h := h g27 g28
    have K := k2_tr K hp.2
    refine ⟨?_, ?_⟩
    · intro c29
      have h := h.1 c29
      exact kf_X7_price_46 h K
    · intro c30
      have h := h.2 c30
      exact kf_X7_price_46 h K
  · intro c31
    have h := h.2 c31
    exact ⟨h, K⟩
theorem kf_X7_price {Q : HS → Prop} {v0 : Nat} {v1 : Nat} {v2 : Nat} {v3 : Int32} {S : HS} (h : P_X7_price v0 v1 v2 v3 Q S) : P_X7_price v0 v1 v2 v3 (fun T => Q T ∧ K2 S T) S := kf_X7_price_0 h (k2_rf S)
set_option maxRecDepth 20000 in
set_option maxHeartbeats 1000000 in
theorem kf_X7_reckonMinute_40 {Q : HS → Prop} {X2 X2_2 : Nat → Int32 → Int32 → Int32 → HS → Prop} {v0 : Nat} {v1 : Int32} {v2 : Int32} {v3 : Int32} {s0 : Nat} {s1 : Int32} {s2 : Int64} {S0 S : HS} (h : P_X7_reckonMinute_40 Q X2 v0 v1 v2 v3 s0 s1 s2 S) (K : K2 S0 S) (hX2 : ∀ (u0 : Nat) (u1 : Int32) (u2 : Int32) (u3 : Int32) (u4 : HS), X2 u0 u1 u2 u3 u4 → K2 S0 u4 → X2_2 u0 u1 u2 u3 u4) : P_X7_reckonMinute_40 (fun T => Q T ∧ K2 S0 T) X2_2 v0 v1 v2 v3 s0 s1 s2 S := by
  delta P_X7_reckonMinute_40 at h ⊢
  obtain ⟨c1, h⟩ := h
  refine ⟨c1, ?_⟩
  have n2 := k2_ne K c1 (by decide)
  obtain ⟨c3, h⟩ := h
  refine ⟨c3, ?_⟩
  intro x5 e4
  have h := h x5 e4
  have K := k2_J K e4
  obtain ⟨c6, h⟩ := h
  refine ⟨c6, ?_⟩
  have n7 := k2_ne K c6 (by decide)
  obtain ⟨b8, e9, h⟩ := h
  refine ⟨b8, e9, ?_⟩
  obtain ⟨c10, h⟩ := h
  refine ⟨c10, ?_⟩
  have n11 := k2_ne K c10 (by decide)
  obtain ⟨c12, h⟩ := h
  refine ⟨c12, ?_⟩
  intro x14 e13
  have h := h x14 e13
  have K := k2_I K e13 n11
  intro x16 e15
  have h := h x16 e15
  exact hX2 _ _ _ _ _ h K
set_option maxRecDepth 20000 in
set_option maxHeartbeats 1000000 in
theorem kf_X7_reckonMinute_219 {Q : HS → Prop} {X62 X62_2 : Nat → Int32 → Int32 → HS → Prop} {v0 : Nat} {v2 : Int32} {v3 : Int32} {S0 S : HS} (h : P_X7_reckonMinute_219 Q X62 v0 v2 v3 S) (K : K2 S0 S) (hX62 : ∀ (u0 : Nat) (u1 : Int32) (u2 : Int32) (u3 : HS), X62 u0 u1 u2 u3 → K2 S0 u3 → X62_2 u0 u1 u2 u3) : P_X7_reckonMinute_219 (fun T => Q T ∧ K2 S0 T) X62_2 v0 v2 v3 S := by
  delta P_X7_reckonMinute_219 at h ⊢
  intro x2 e1
  have h := h x2 e1
  exact hX62 _ _ _ _ h K
set_option maxRecDepth 20000 in
set_option maxHeartbeats 1000000 in
theorem kf_X7_reckonMinute_117 {Q : HS → Prop} {X62 X62_2 : Nat → Int32 → Int32 → HS → Prop} {v0 : Nat} {v2 : Int32} {v3 : Int32} {v4 : Int32} {v5 : Int32} {s0 : Int32} {S0 S : HS} (h : P_X7_reckonMinute_117 Q X62 v0 v2 v3 v4 v5 s0 S) (K : K2 S0 S) (hX62 : ∀ (u0 : Nat) (u1 : Int32) (u2 : Int32) (u3 : HS), X62 u0 u1 u2 u3 → K2 S0 u3 → X62_2 u0 u1 u2 u3) : P_X7_reckonMinute_117 (fun T => Q T ∧ K2 S0 T) X62_2 v0 v2 v3 v4 v5 s0 S := by
  delta P_X7_reckonMinute_117 at h ⊢
  refine ⟨?_, ?_⟩
  · intro c1
    have h := h.1 c1
    exact kf_X7_reckonMinute_219 h K hX62
  · intro c2
    have h := h.2 c2
    refine ⟨?_, ?_⟩
    · intro c3
      have h := h.1 c3
      exact kf_X7_reckonMinute_219 h K hX62
    · intro c4
      have h := h.2 c4
      obtain ⟨c5, h⟩ := h
      refine ⟨c5, ?_⟩
      have n6 := k2_ne K c5 (by decide)
      obtain ⟨b7, e8, h⟩ := h
      refine ⟨b7, e8, ?_⟩
      obtain ⟨c9, h⟩ := h
      refine ⟨c9, ?_⟩
      have n10 := k2_ne K c9 (by decide)
      refine ⟨?_, ?_⟩
      · intro c11
        have h := h.1 c11
        exact kf_X7_reckonMinute_219 h K hX62
      · intro c12
        have h := h.2 c12
        refine ⟨?_, ?_⟩
        · intro c13
          have h := h.1 c13
          exact kf_X7_reckonMinute_219 h K hX62
        · intro c14
          have h := h.2 c14
          obtain ⟨b15, e16, h⟩ := h
          refine ⟨b15, e16, ?_⟩
          obtain ⟨c17, h⟩ := h
          refine ⟨c17, ?_⟩
          have n18 := k2_ne K c17 (by decide)
          refine ⟨?_, ?_⟩
          · intro c19
            have h := h.1 c19
            exact kf_X7_reckonMinute_219 h K hX62
          · intro c20
            have h := h.2 c20
            obtain ⟨b21, e22, h⟩ := h
            refine ⟨b21, e22, ?_⟩
            obtain ⟨c23, h⟩ := h
            refine ⟨c23, ?_⟩
            have n24 := k2_ne K c23 (by decide)
            obtain ⟨c25, h⟩ := h
            refine ⟨c25, ?_⟩
            intro x27 e26
            have h := h x27 e26
            refine ⟨?_, ?_⟩
            · intro c28
              have h := h.1 c28
              exact kf_X7_reckonMinute_219 h K hX62
            · intro c29
              have h := h.2 c29
              obtain ⟨b30, e31, h⟩ := h
              refine ⟨b30, e31, ?_⟩
              obtain ⟨c32, h⟩ := h
              refine ⟨c32, ?_⟩
              have n33 := k2_ne K c32 (by decide)
              obtain ⟨c34, h⟩ := h
              refine ⟨c34, ?_⟩
              intro x36 e35
              have h := h x36 e35
              obtain ⟨b37, e38, h⟩ := h
              refine ⟨b37, e38, ?_⟩
              obtain ⟨c39, h⟩ := h
              refine ⟨c39, ?_⟩
              have n40 := k2_ne K c39 (by decide)
              obtain ⟨c41, h⟩ := h
              refine ⟨c41, ?_⟩
              intro x43 e42
              have h := h x43 e42
              intro x45 e44
              have h := h x45 e44
              obtain ⟨b46, e47, h⟩ := h
              refine ⟨b46, e47, ?_⟩
              obtain ⟨c48, h⟩ := h
              refine ⟨c48, ?_⟩
              have n49 := k2_ne K c48 (by decide)
              obtain ⟨c50, h⟩ := h
              refine ⟨c50, ?_⟩
              intro x52 e51
              have h := h x52 e51
              refine ⟨?_, ?_⟩
              · intro c53
                have h := h.1 c53
                exact kf_X7_reckonMinute_219 h K hX62
              · intro c54
                have h := h.2 c54
                obtain ⟨b55, e56, h⟩ := h
                refine ⟨b55, e56, ?_⟩
                obtain ⟨c57, h⟩ := h
                refine ⟨c57, ?_⟩
                have n58 := k2_ne K c57 (by decide)
                obtain ⟨c59, h⟩ := h
                refine ⟨c59, ?_⟩
                intro x61 e60
                have h := h x61 e60
                have K := k2_J K e60
                obtain ⟨b62, e63, h⟩ := h
                refine ⟨b62, e63, ?_⟩
                obtain ⟨b64, e65, h⟩ := h
                refine ⟨b64, e65, ?_⟩
                obtain ⟨c66, h⟩ := h
                refine ⟨c66, ?_⟩
                have n67 := k2_ne K c66 (by decide)
                obtain ⟨c68, h⟩ := h
                refine ⟨c68, ?_⟩
                intro x70 e69
                have h := h x70 e69
                obtain ⟨c71, h⟩ := h
                refine ⟨c71, ?_⟩
                have n72 := k2_ne K c71 (by decide)
                obtain ⟨c73, h⟩ := h
                refine ⟨c73, ?_⟩
                intro x75 e74
                have h := h x75 e74
                have K := k2_I K e74 n72
                exact kf_X7_reckonMinute_219 h K hX62
set_option maxRecDepth 20000 in
set_option maxHeartbeats 1000000 in
theorem kfB_X7_reckonMinute_62 {Q : HS → Prop} {X62 X62_2 : Nat → Int32 → Int32 → HS → Prop} {v0 : Nat} {v2 : Int32} {v3 : Int32} {S0 S : HS} (h : B_X7_reckonMinute_62 Q X62 v0 v2 v3 S) (K : K2 S0 S) (hX62 : ∀ (u0 : Nat) (u1 : Int32) (u2 : Int32) (u3 : HS), X62 u0 u1 u2 u3 → K2 S0 u3 → X62_2 u0 u1 u2 u3) : B_X7_reckonMinute_62 (fun T => Q T ∧ K2 S0 T) X62_2 v0 v2 v3 S := by
  delta B_X7_reckonMinute_62 at h ⊢
  obtain ⟨c1, h⟩ := h
  refine ⟨c1, ?_⟩
  have n2 := k2_ne K c1 (by decide)
  intro x4 e3
  have h := h x4 e3
  refine ⟨?_, ?_⟩
  · intro c5
    have h := h.1 c5
    exact ⟨h, K⟩
  · intro c6
    have h := h.2 c6
    refine ⟨?_, ?_⟩
    · intro c7
      have h := h.1 c7
      exact ⟨h, K⟩
    · intro c8
      have h := h.2 c8
      obtain ⟨b9, e10, h⟩ := h
      refine ⟨b9, e10, ?_⟩
      obtain ⟨c11, h⟩ := h
      refine ⟨c11, ?_⟩
      have n12 := k2_ne K c11 (by decide)
      obtain ⟨c13, h⟩ := h
      refine ⟨c13, ?_⟩
      intro x15 e14
      have h := h x15 e14
      intro x17 e16
      have h := h x17 e16
      obtain ⟨b18, e19, h⟩ := h
      refine ⟨b18, e19, ?_⟩
      obtain ⟨c20, h⟩ := h
      refine ⟨c20, ?_⟩
      have n21 := k2_ne K c20 (by decide)
      obtain ⟨c22, h⟩ := h
      refine ⟨c22, ?_⟩
      intro x24 e23
      have h := h x24 e23
      intro x26 e25
      have h := h x26 e25
      obtain ⟨b27, e28, h⟩ := h
      refine ⟨b27, e28, ?_⟩
      obtain ⟨c29, h⟩ := h
      refine ⟨c29, ?_⟩
      have n30 := k2_ne K c29 (by decide)
      obtain ⟨c31, h⟩ := h
      refine ⟨c31, ?_⟩
      intro x33 e32
      have h := h x33 e32
      intro x35 e34
      have h := h x35 e34
      refine ⟨?_, ?_⟩
      · intro c36
        have h := h.1 c36
        exact kf_X7_reckonMinute_117 h K hX62
      · intro c37
        have h := h.2 c37
        exact kf_X7_reckonMinute_117 h K hX62
theorem kf_X7_reckonMinute_62 {Q : HS → Prop} {v0 : Nat} {v2 : Int32} {v3 : Int32} {S0 S : HS} (h : P_X7_reckonMinute_62 Q v0 v2 v3 S) (K : K2 S0 S) : P_X7_reckonMinute_62 (fun T => Q T ∧ K2 S0 T) v0 v2 v3 S := h (fun v0 v2 v3 S => K2 S0 S → P_X7_reckonMinute_62 (fun T => Q T ∧ K2 S0 T) v0 v2 v3 S) (fun v0 v2 v3 S hB K => fd_X7_reckonMinute_62 (kfB_X7_reckonMinute_62 hB K (fun _ _ _ _ hx K => hx K))) K
set_option maxRecDepth 20000 in
set_option maxHeartbeats 1000000 in
theorem kf_X7_reckonMinute_60 {Q : HS → Prop} {v0 : Nat} {v2 : Int32} {S0 S : HS} (h : P_X7_reckonMinute_60 Q v0 v2 S) (K : K2 S0 S) : P_X7_reckonMinute_60 (fun T => Q T ∧ K2 S0 T) v0 v2 S := by
  delta P_X7_reckonMinute_60 at h ⊢
  exact kf_X7_reckonMinute_62 h K
set_option maxRecDepth 20000 in
set_option maxHeartbeats 1000000 in
theorem kfB_X7_reckonMinute_2 {Q : HS → Prop} {X2 X2_2 : Nat → Int32 → Int32 → Int32 → HS → Prop} {v0 : Nat} {v1 : Int32} {v2 : Int32} {v3 : Int32} {S0 S : HS} (h : B_X7_reckonMinute_2 Q X2 v0 v1 v2 v3 S) (K : K2 S0 S) (hX2 : ∀ (u0 : Nat) (u1 : Int32) (u2 : Int32) (u3 : Int32) (u4 : HS), X2 u0 u1 u2 u3 u4 → K2 S0 u4 → X2_2 u0 u1 u2 u3 u4) : B_X7_reckonMinute_2 (fun T => Q T ∧ K2 S0 T) X2_2 v0 v1 v2 v3 S := by
  delta B_X7_reckonMinute_2 at h ⊢
  refine ⟨?_, ?_⟩
  · intro c1
    have h := h.1 c1
    exact kf_X7_reckonMinute_60 h K
  · intro c2
    have h := h.2 c2
    refine ⟨?_, ?_⟩
    · intro c3
      have h := h.1 c3
      exact kf_X7_reckonMinute_60 h K
    · intro c4
      have h := h.2 c4
      obtain ⟨c5, h⟩ := h
      refine ⟨c5, ?_⟩
      have n6 := k2_ne K c5 (by decide)
      obtain ⟨b7, e8, h⟩ := h
      refine ⟨b7, e8, ?_⟩
      intro x10 e9
      have h := h x10 e9
      refine ⟨?_, ?_⟩
      · intro c11
        have h := h.1 c11
        exact kf_X7_reckonMinute_40 h K hX2
      · intro c12
        have h := h.2 c12
        exact kf_X7_reckonMinute_40 h K hX2
theorem kf_X7_reckonMinute_2 {Q : HS → Prop} {v0 : Nat} {v1 : Int32} {v2 : Int32} {v3 : Int32} {S0 S : HS} (h : P_X7_reckonMinute_2 Q v0 v1 v2 v3 S) (K : K2 S0 S) : P_X7_reckonMinute_2 (fun T => Q T ∧ K2 S0 T) v0 v1 v2 v3 S := h (fun v0 v1 v2 v3 S => K2 S0 S → P_X7_reckonMinute_2 (fun T => Q T ∧ K2 S0 T) v0 v1 v2 v3 S) (fun v0 v1 v2 v3 S hB K => fd_X7_reckonMinute_2 (kfB_X7_reckonMinute_2 hB K (fun _ _ _ _ _ hx K => hx K))) K
set_option maxRecDepth 20000 in
set_option maxHeartbeats 1000000 in
theorem kf_X7_reckonMinute_0 {Q : HS → Prop} {v0 : Nat} {v1 : Int32} {v2 : Int32} {S0 S : HS} (h : P_X7_reckonMinute_0 Q v0 v1 v2 S) (K : K2 S0 S) : P_X7_reckonMinute_0 (fun T => Q T ∧ K2 S0 T) v0 v1 v2 S := by
  delta P_X7_reckonMinute_0 at h ⊢
  exact kf_X7_reckonMinute_2 h K
theorem kf_X7_reckonMinute {Q : HS → Prop} {v0 : Nat} {v1 : Int32} {v2 : Int32} {S : HS} (h : P_X7_reckonMinute v0 v1 v2 Q S) : P_X7_reckonMinute v0 v1 v2 (fun T => Q T ∧ K2 S T) S := kf_X7_reckonMinute_0 h (k2_rf S)
set_option maxRecDepth 20000 in
set_option maxHeartbeats 1000000 in
theorem kf_X8_hourOf_0 {Q : Int32 → HS → Prop} {v0 : Nat} {v1 : Int32} {S0 S : HS} (h : P_X8_hourOf_0 Q v0 v1 S) (K : K2 S0 S) : P_X8_hourOf_0 (fun r T => Q r T ∧ K2 S0 T) v0 v1 S := by
  delta P_X8_hourOf_0 at h ⊢
  obtain ⟨c1, h⟩ := h
  refine ⟨c1, ?_⟩
  have n2 := k2_ne K c1 (by decide)
  intro x4 e3
  have h := h x4 e3
  refine ⟨?_, ?_⟩
  · intro c5
    have h := h.1 c5
    exact ⟨h, K⟩
  · intro c6
    have h := h.2 c6
    intro x8 e7
    have h := h x8 e7
    obtain ⟨c9, h⟩ := h
    refine ⟨c9, ?_⟩
    intro x11 e10
    have h := h x11 e10
    exact ⟨h, K⟩
theorem kf_X8_hourOf {Q : Int32 → HS → Prop} {v0 : Nat} {v1 : Int32} {S : HS} (h : P_X8_hourOf v0 v1 Q S) : P_X8_hourOf v0 v1 (fun r T => Q r T ∧ K2 S T) S := kf_X8_hourOf_0 h (k2_rf S)
set_option maxRecDepth 20000 in
set_option maxHeartbeats 1000000 in
theorem kf_X7_reckon_120 {Q : HS → Prop} {X76 X76_2 : Nat → Nat → Nat → Int32 → Int32 → HS → Prop} {v0 : Nat} {v1 : Nat} {v2 : Nat} {v6 : Int32} {v7 : Int32} {S0 S : HS} (h : P_X7_reckon_120 Q X76 v0 v1 v2 v6 v7 S) (K : K2 S0 S) (hX76 : ∀ (u0 : Nat) (u1 : Nat) (u2 : Nat) (u3 : Int32) (u4 : Int32) (u5 : HS), X76 u0 u1 u2 u3 u4 u5 → K2 S0 u5 → X76_2 u0 u1 u2 u3 u4 u5) : P_X7_reckon_120 (fun T => Q T ∧ K2 S0 T) X76_2 v0 v1 v2 v6 v7 S := by
  delta P_X7_reckon_120 at h ⊢
  obtain ⟨c1, h⟩ := h
  refine ⟨c1, ?_⟩
  have n2 := k2_ne K c1 (by decide)
  intro x4 e3
  have h := h x4 e3
  obtain ⟨c5, h⟩ := h
  refine ⟨c5, ?_⟩
  have n6 := k2_ne K c5 (by decide)
  refine cm_X7_reckonMinute (kf_X7_reckonMinute h) h (fun x7 hp h g8 => ?_)
  have h := h g8
  have K := k2_tr K hp.2
  intro x10 e9
  have h := h x10 e9
  have K := k2_I K e9 n6
  intro x12 e11
  have h := h x12 e11
  exact hX76 _ _ _ _ _ _ h K
set_option maxRecDepth 20000 in
set_option maxHeartbeats 1000000 in
theorem kfB_X7_reckon_76 {Q : HS → Prop} {X76 X76_2 : Nat → Nat → Nat → Int32 → Int32 → HS → Prop} {v0 : Nat} {v1 : Nat} {v2 : Nat} {v6 : Int32} {v7 : Int32} {S0 S : HS} (h : B_X7_reckon_76 Q X76 v0 v1 v2 v6 v7 S) (K : K2 S0 S) (hX76 : ∀ (u0 : Nat) (u1 : Nat) (u2 : Nat) (u3 : Int32) (u4 : Int32) (u5 : HS), X76 u0 u1 u2 u3 u4 u5 → K2 S0 u5 → X76_2 u0 u1 u2 u3 u4 u5) : B_X7_reckon_76 (fun T => Q T ∧ K2 S0 T) X76_2 v0 v1 v2 v6 v7 S := by
  delta B_X7_reckon_76 at h ⊢
  refine ⟨?_, ?_⟩
  · intro c1
    have h := h.1 c1
    exact ⟨h, K⟩
  · intro c2
    have h := h.2 c2
    refine ⟨?_, ?_⟩
    · intro c3
      have h := h.1 c3
      exact ⟨h, K⟩
    · intro c4
      have h := h.2 c4
      obtain ⟨c5, h⟩ := h
      refine ⟨c5, ?_⟩
      have n6 := k2_ne K c5 (by decide)
      refine cm_X8_hourOf (kf_X8_hourOf h) h (fun x7 x8 hp h g9 => ?_)
      have h := h g9
      have K := k2_tr K hp.2
      intro x11 e10
      have h := h x11 e10
      intro x13 e12
      have h := h x13 e12
      obtain ⟨c14, h⟩ := h
      refine ⟨c14, ?_⟩
      have n15 := k2_ne K c14 (by decide)
      intro x17 e16
      have h := h x17 e16
      refine ⟨?_, ?_⟩
      · intro c18
        have h := h.1 c18
        exact kf_X7_reckon_120 h K hX76
      · intro c19
        have h := h.2 c19
        refine cm_X7_price (kf_X7_price h) h (fun x20 hp h g21 => ?_)
        have h := h g21
        have K := k2_tr K hp.2
        exact kf_X7_reckon_120 h K hX76
theorem kf_X7_reckon_76 {Q : HS → Prop} {v0 : Nat} {v1 : Nat} {v2 : Nat} {v6 : Int32} {v7 : Int32} {S0 S : HS} (h : P_X7_reckon_76 Q v0 v1 v2 v6 v7 S) (K : K2 S0 S) : P_X7_reckon_76 (fun T => Q T ∧ K2 S0 T) v0 v1 v2 v6 v7 S := h (fun v0 v1 v2 v6 v7 S => K2 S0 S → P_X7_reckon_76 (fun T => Q T ∧ K2 S0 T) v0 v1 v2 v6 v7 S) (fun v0 v1 v2 v6 v7 S hB K => fd_X7_reckon_76 (kfB_X7_reckon_76 hB K (fun _ _ _ _ _ _ hx K => hx K))) K
set_option maxRecDepth 20000 in
set_option maxHeartbeats 1000000 in
theorem kf_X7_reckon_68 {Q : HS → Prop} {v0 : Nat} {v1 : Nat} {v2 : Nat} {v6 : Int32} {S0 S : HS} (h : P_X7_reckon_68 Q v0 v1 v2 v6 S) (K : K2 S0 S) : P_X7_reckon_68 (fun T => Q T ∧ K2 S0 T) v0 v1 v2 v6 S := by
  delta P_X7_reckon_68 at h ⊢
  obtain ⟨c1, h⟩ := h
  refine ⟨c1, ?_⟩
  have n2 := k2_ne K c1 (by decide)
  intro x4 e3
  have h := h x4 e3
  intro x6 e5
  have h := h x6 e5
  exact kf_X7_reckon_76 h K
set_option maxRecDepth 20000 in
set_option maxHeartbeats 1000000 in
theorem kf_X7_reckon_38 {Q : HS → Prop} {v0 : Nat} {v1 : Nat} {v2 : Nat} {v3 : Int32} {v4 : Int32} {v5 : Int32} {v6 : Int32} {S0 S : HS} (h : P_X7_reckon_38 Q v0 v1 v2 v3 v4 v5 v6 S) (K : K2 S0 S) : P_X7_reckon_38 (fun T => Q T ∧ K2 S0 T) v0 v1 v2 v3 v4 v5 v6 S := by
  delta P_X7_reckon_38 at h ⊢
  obtain ⟨c1, h⟩ := h
  refine ⟨c1, ?_⟩
  have n2 := k2_ne K c1 (by decide)
  intro x4 e3
  have h := h x4 e3
  have K := k2_I K e3 n2
  intro x6 e5
  have h := h x6 e5
  have K := k2_I K e5 n2
  intro x8 e7
  have h := h x8 e7
  have K := k2_I K e7 n2
  intro x10 e9
  have h := h x10 e9
  intro x12 e11
  have h := h x12 e11
  have K := k2_I K e11 n2
  intro x14 e13
  have h := h x14 e13
  have K := k2_I K e13 n2
  exact kf_X7_reckon_68 h K
set_option maxRecDepth 20000 in
set_option maxHeartbeats 1000000 in
theorem kf_X7_reckon_12 {Q : HS → Prop} {v0 : Nat} {v1 : Nat} {v2 : Nat} {v3 : Int32} {v4 : Int32} {v5 : Int32} {v6 : Int32} {S0 S : HS} (h : P_X7_reckon_12 Q v0 v1 v2 v3 v4 v5 v6 S) (K : K2 S0 S) : P_X7_reckon_12 (fun T => Q T ∧ K2 S0 T) v0 v1 v2 v3 v4 v5 v6 S := by
  delta P_X7_reckon_12 at h ⊢
  obtain ⟨c1, h⟩ := h
  refine ⟨c1, ?_⟩
  have n2 := k2_ne K c1 (by decide)
  intro x4 e3
  have h := h x4 e3
  refine ⟨?_, ?_⟩
  · intro c5
    have h := h.1 c5
    exact kf_X7_reckon_38 h K
  · intro c6
    have h := h.2 c6
    intro x8 e7
    have h := h x8 e7
    refine ⟨?_, ?_⟩
    · intro c9
      have h := h.1 c9
      exact kf_X7_reckon_38 h K
    · intro c10
      have h := h.2 c10
      intro x12 e11
      have h := h x12 e11
      refine ⟨?_, ?_⟩
      · intro c13
        have h := h.1 c13
        exact kf_X7_reckon_68 h K
      · intro c14
        have h := h.2 c14
        exact kf_X7_reckon_38 h K
set_option maxRecDepth 20000 in
set_option maxHeartbeats 1000000 in
theorem kf_X7_reckon_0 {Q : HS → Prop} {v0 : Nat} {v1 : Nat} {v2 : Nat} {v3 : Int32} {v4 : Int32} {v5 : Int32} {v6 : Int32} {S0 S : HS} (h : P_X7_reckon_0 Q v0 v1 v2 v3 v4 v5 v6 S) (K : K2 S0 S) : P_X7_reckon_0 (fun T => Q T ∧ K2 S0 T) v0 v1 v2 v3 v4 v5 v6 S := by
  delta P_X7_reckon_0 at h ⊢
  obtain ⟨c1, h⟩ := h
  refine ⟨c1, ?_⟩
  have n2 := k2_ne K c1 (by decide)
  obtain ⟨b3, e4, h⟩ := h
  refine ⟨b3, e4, ?_⟩
  obtain ⟨c5, h⟩ := h
  refine ⟨c5, ?_⟩
  have n6 := k2_ne K c5 (by decide)
  refine ⟨?_, ?_⟩
  · intro c7
    have h := h.1 c7
    exact kf_X7_reckon_12 h K
  · intro c8
    have h := h.2 c8
    refine cm_X7_makeRows (kf_X7_makeRows h) h (fun x9 hp h g10 => ?_)
    have h := h g10
    have K := k2_tr K hp.2
    exact kf_X7_reckon_12 h K
theorem kf_X7_reckon {Q : HS → Prop} {v0 : Nat} {v1 : Nat} {v2 : Nat} {v3 : Int32} {v4 : Int32} {v5 : Int32} {v6 : Int32} {S : HS} (h : P_X7_reckon v0 v1 v2 v3 v4 v5 v6 Q S) : P_X7_reckon v0 v1 v2 v3 v4 v5 v6 (fun T => Q T ∧ K2 S T) S := kf_X7_reckon_0 h (k2_rf S)
set_option maxRecDepth 20000 in
set_option maxHeartbeats 1000000 in
theorem kf_X7_trace_143 {Q : Int32 → HS → Prop} {X9 X9_2 : Nat → Nat → Int32 → Int32 → Int32 → HS → Prop} {v0 : Nat} {v1 : Nat} {v4 : Int32} {v5 : Int32} {v6 : Int32} {S0 S : HS} (h : P_X7_trace_143 Q X9 v0 v1 v4 v5 v6 S) (K : K2 S0 S) (hX9 : ∀ (u0 : Nat) (u1 : Nat) (u2 : Int32) (u3 : Int32) (u4 : Int32) (u5 : HS), X9 u0 u1 u2 u3 u4 u5 → K2 S0 u5 → X9_2 u0 u1 u2 u3 u4 u5) : P_X7_trace_143 (fun r T => Q r T ∧ K2 S0 T) X9_2 v0 v1 v4 v5 v6 S := by
  delta P_X7_trace_143 at h ⊢
  intro x2 e1
  have h := h x2 e1
  exact hX9 _ _ _ _ _ _ h K
set_option maxRecDepth 20000 in
set_option maxHeartbeats 1000000 in
theorem kf_X7_trace_56 {Q : Int32 → HS → Prop} {X9 X9_2 : Nat → Nat → Int32 → Int32 → Int32 → HS → Prop} {v0 : Nat} {v1 : Nat} {v4 : Int32} {v5 : Int32} {v6 : Int32} {s0 : Int32} {S0 S : HS} (h : P_X7_trace_56 Q X9 v0 v1 v4 v5 v6 s0 S) (K : K2 S0 S) (hX9 : ∀ (u0 : Nat) (u1 : Nat) (u2 : Int32) (u3 : Int32) (u4 : Int32) (u5 : HS), X9 u0 u1 u2 u3 u4 u5 → K2 S0 u5 → X9_2 u0 u1 u2 u3 u4 u5) : P_X7_trace_56 (fun r T => Q r T ∧ K2 S0 T) X9_2 v0 v1 v4 v5 v6 s0 S := by
  delta P_X7_trace_56 at h ⊢
  refine ⟨?_, ?_⟩
  · intro c1
    have h := h.1 c1
    obtain ⟨c2, h⟩ := h
    refine ⟨c2, ?_⟩
    have n3 := k2_ne K c2 (by decide)
    obtain ⟨b4, e5, h⟩ := h
    refine ⟨b4, e5, ?_⟩
    obtain ⟨c6, h⟩ := h
    refine ⟨c6, ?_⟩
    have n7 := k2_ne K c6 (by decide)
    obtain ⟨c8, h⟩ := h
    refine ⟨c8, ?_⟩
    intro x10 e9
    have h := h x10 e9
    have K := k2_I K e9 n7
    refine ⟨?_, ?_⟩
    · intro c11
      have h := h.1 c11
      intro x13 e12
      have h := h x13 e12
      obtain ⟨c14, h⟩ := h
      refine ⟨c14, ?_⟩
      have n15 := k2_ne K c14 (by decide)
      refine cm_X8_hasRoad (kf_X8_hasRoad h) h (fun x16 x17 hp h g18 g19 => ?_)
      have h := h g18 g19
      have K := k2_tr K hp.2
      refine ⟨?_, ?_⟩
      · intro c20
        have h := h.1 c20
        exact kf_X7_trace_143 h K hX9
      · intro c21
        have h := h.2 c21
        obtain ⟨b22, e23, h⟩ := h
        refine ⟨b22, e23, ?_⟩
        intro x25 e24
        have h := h x25 e24
        obtain ⟨c26, h⟩ := h
        refine ⟨c26, ?_⟩
        have n27 := k2_ne K c26 (by decide)
        obtain ⟨c28, h⟩ := h
        refine ⟨c28, ?_⟩
        obtain ⟨b29, e30, h⟩ := h
        refine ⟨b29, e30, ?_⟩
        intro x32 e31
        have h := h x32 e31
        intro x34 e33
        have h := h x34 e33
        obtain ⟨c35, h⟩ := h
        refine ⟨c35, ?_⟩
        have n36 := k2_ne K c35 (by decide)
        refine cm_X5_endOf (kf_X5_endOf h) h (fun x37 x38 hp h g39 => ?_)
        have h := h g39
        have K := k2_tr K hp.2
        intro x41 e40
        have h := h x41 e40
        refine cm_X5_minutesAt (kf_X5_minutesAt h) h (fun x42 x43 hp h g44 => ?_)
        have h := h g44
        have K := k2_tr K hp.2
        intro x46 e45
        have h := h x46 e45
        exact kf_X7_trace_143 h K hX9
    · intro c47
      have h := h.2 c47
      intro x49 e48
      have h := h x49 e48
      exact kf_X7_trace_143 h K hX9
  · intro c50
    have h := h.2 c50
    exact ⟨h, K⟩
set_option maxRecDepth 20000 in
set_option maxHeartbeats 1000000 in
theorem kf_X7_trace_55 {Q : Int32 → HS → Prop} {X9 X9_2 : Nat → Nat → Int32 → Int32 → Int32 → HS → Prop} {v0 : Nat} {v1 : Nat} {v4 : Int32} {v5 : Int32} {v6 : Int32} {S0 S : HS} (h : P_X7_trace_55 Q X9 v0 v1 v4 v5 v6 S) (K : K2 S0 S) (hX9 : ∀ (u0 : Nat) (u1 : Nat) (u2 : Int32) (u3 : Int32) (u4 : Int32) (u5 : HS), X9 u0 u1 u2 u3 u4 u5 → K2 S0 u5 → X9_2 u0 u1 u2 u3 u4 u5) : P_X7_trace_55 (fun r T => Q r T ∧ K2 S0 T) X9_2 v0 v1 v4 v5 v6 S := by
  delta P_X7_trace_55 at h ⊢
  exact kf_X7_trace_56 h K hX9
set_option maxRecDepth 20000 in
set_option maxHeartbeats 1000000 in
theorem kfB_X7_trace_9 {Q : Int32 → HS → Prop} {X9 X9_2 : Nat → Nat → Int32 → Int32 → Int32 → HS → Prop} {v0 : Nat} {v1 : Nat} {v4 : Int32} {v5 : Int32} {v6 : Int32} {S0 S : HS} (h : B_X7_trace_9 Q X9 v0 v1 v4 v5 v6 S) (K : K2 S0 S) (hX9 : ∀ (u0 : Nat) (u1 : Nat) (u2 : Int32) (u3 : Int32) (u4 : Int32) (u5 : HS), X9 u0 u1 u2 u3 u4 u5 → K2 S0 u5 → X9_2 u0 u1 u2 u3 u4 u5) : B_X7_trace_9 (fun r T => Q r T ∧ K2 S0 T) X9_2 v0 v1 v4 v5 v6 S := by
  delta B_X7_trace_9 at h ⊢
  obtain ⟨c1, h⟩ := h
  refine ⟨c1, ?_⟩
  have n2 := k2_ne K c1 (by decide)
  obtain ⟨b3, e4, h⟩ := h
  refine ⟨b3, e4, ?_⟩
  obtain ⟨c5, h⟩ := h
  refine ⟨c5, ?_⟩
  have n6 := k2_ne K c5 (by decide)
  refine ⟨?_, ?_⟩
  · intro c7
    have h := h.1 c7
    obtain ⟨b8, e9, h⟩ := h
    refine ⟨b8, e9, ?_⟩
    obtain ⟨c10, h⟩ := h
    refine ⟨c10, ?_⟩
    have n11 := k2_ne K c10 (by decide)
    exact ⟨h, K⟩
  · intro c12
    have h := h.2 c12
    intro x14 e13
    have h := h x14 e13
    refine ⟨?_, ?_⟩
    · intro c15
      have h := h.1 c15
      exact kf_X7_trace_55 h K hX9
    · intro c16
      have h := h.2 c16
      obtain ⟨b17, e18, h⟩ := h
      refine ⟨b17, e18, ?_⟩
      obtain ⟨c19, h⟩ := h
      refine ⟨c19, ?_⟩
      have n20 := k2_ne K c19 (by decide)
      refine ⟨?_, ?_⟩
      · intro c21
        have h := h.1 c21
        exact kf_X7_trace_55 h K hX9
      · intro c22
        have h := h.2 c22
        obtain ⟨b23, e24, h⟩ := h
        refine ⟨b23, e24, ?_⟩
        obtain ⟨c25, h⟩ := h
        refine ⟨c25, ?_⟩
        have n26 := k2_ne K c25 (by decide)
        obtain ⟨c27, h⟩ := h
        refine ⟨c27, ?_⟩
        intro x29 e28
        have h := h x29 e28
        exact kf_X7_trace_56 h K hX9
theorem kf_X7_trace_9 {Q : Int32 → HS → Prop} {v0 : Nat} {v1 : Nat} {v4 : Int32} {v5 : Int32} {v6 : Int32} {S0 S : HS} (h : P_X7_trace_9 Q v0 v1 v4 v5 v6 S) (K : K2 S0 S) : P_X7_trace_9 (fun r T => Q r T ∧ K2 S0 T) v0 v1 v4 v5 v6 S := h (fun v0 v1 v4 v5 v6 S => K2 S0 S → P_X7_trace_9 (fun r T => Q r T ∧ K2 S0 T) v0 v1 v4 v5 v6 S) (fun v0 v1 v4 v5 v6 S hB K => fd_X7_trace_9 (kfB_X7_trace_9 hB K (fun _ _ _ _ _ _ hx K => hx K))) K
set_option maxRecDepth 20000 in
set_option maxHeartbeats 1000000 in
theorem kf_X7_trace_0 {Q : Int32 → HS → Prop} {v0 : Nat} {v1 : Nat} {v2 : Int32} {v3 : Int32} {S0 S : HS} (h : P_X7_trace_0 Q v0 v1 v2 v3 S) (K : K2 S0 S) : P_X7_trace_0 (fun r T => Q r T ∧ K2 S0 T) v0 v1 v2 v3 S := by
  delta P_X7_trace_0 at h ⊢
  exact kf_X7_trace_9 h K
theorem kf_X7_trace {Q : Int32 → HS → Prop} {v0 : Nat} {v1 : Nat} {v2 : Int32} {v3 : Int32} {S : HS} (h : P_X7_trace v0 v1 v2 v3 Q S) : P_X7_trace v0 v1 v2 v3 (fun r T => Q r T ∧ K2 S T) S := kf_X7_trace_0 h (k2_rf S)
set_option maxRecDepth 20000 in
set_option maxHeartbeats 1000000 in
theorem kf_X9_grant_0 {Q : Int32 → HS → Prop} {v0 : Nat} {v1 : Int32} {S0 S : HS} (h : P_X9_grant_0 Q v0 v1 S) (K : K2 S0 S) : P_X9_grant_0 (fun r T => Q r T ∧ K2 S0 T) v0 v1 S := by
  delta P_X9_grant_0 at h ⊢
  obtain ⟨c1, h⟩ := h
  refine ⟨c1, ?_⟩
  have n2 := k2_ne K c1 (by decide)
  intro x4 e3
  have h := h x4 e3
  have K := k2_I K e3 n2
  exact ⟨h, K⟩
theorem kf_X9_grant {Q : Int32 → HS → Prop} {v0 : Nat} {v1 : Int32} {S : HS} (h : P_X9_grant v0 v1 Q S) : P_X9_grant v0 v1 (fun r T => Q r T ∧ K2 S T) S := kf_X9_grant_0 h (k2_rf S)
set_option maxRecDepth 20000 in
set_option maxHeartbeats 1000000 in
theorem kf_X9_isWay_0 {Q : Int32 → HS → Prop} {v0 : Int32} {S0 S : HS} (h : P_X9_isWay_0 Q v0 S) (K : K2 S0 S) : P_X9_isWay_0 (fun r T => Q r T ∧ K2 S0 T) v0 S := by
  delta P_X9_isWay_0 at h ⊢
  refine ⟨?_, ?_⟩
  · intro c1
    have h := h.1 c1
    exact ⟨h, K⟩
  · intro c2
    have h := h.2 c2
    refine ⟨?_, ?_⟩
    · intro c3
      have h := h.1 c3
      exact ⟨h, K⟩
    · intro c4
      have h := h.2 c4
      exact ⟨h, K⟩
theorem kf_X9_isWay {Q : Int32 → HS → Prop} {v0 : Int32} {S : HS} (h : P_X9_isWay v0 Q S) : P_X9_isWay v0 (fun r T => Q r T ∧ K2 S T) S := kf_X9_isWay_0 h (k2_rf S)
set_option maxRecDepth 20000 in
set_option maxHeartbeats 1000000 in
theorem kf_X9_air_0 {Q : Int32 → HS → Prop} {v0 : Nat} {v1 : Int32} {v2 : Int32} {v3 : Int32} {S0 S : HS} (h : P_X9_air_0 Q v0 v1 v2 v3 S) (K : K2 S0 S) : P_X9_air_0 (fun r T => Q r T ∧ K2 S0 T) v0 v1 v2 v3 S := by
  delta P_X9_air_0 at h ⊢
  obtain ⟨c1, h⟩ := h
  refine ⟨c1, ?_⟩
  have n2 := k2_ne K c1 (by decide)
  obtain ⟨b3, e4, h⟩ := h
  refine ⟨b3, e4, ?_⟩
  obtain ⟨c5, h⟩ := h
  refine ⟨c5, ?_⟩
  have n6 := k2_ne K c5 (by decide)
  refine cm_X8_hasRoad (kf_X8_hasRoad h) h (fun x7 x8 hp h g9 g10 => ?_)
  have h := h g9 g10
  have K := k2_tr K hp.2
  refine ⟨?_, ?_⟩
  · intro c11
    have h := h.1 c11
    intro x13 e12
    have h := h x13 e12
    have K := k2_I K e12 n2
    exact ⟨h, K⟩
  · intro c14
    have h := h.2 c14
    refine cm_X9_isWay (kf_X9_isWay h) h (fun x15 x16 hp h g17 g18 => ?_)
    have h := h g17 g18
    have K := k2_tr K hp.2
    refine ⟨?_, ?_⟩
    · intro c19
      have h := h.1 c19
      intro x21 e20
      have h := h x21 e20
      have K := k2_I K e20 n2
      exact ⟨h, K⟩
    · intro c22
      have h := h.2 c22
      obtain ⟨b23, e24, h⟩ := h
      refine ⟨b23, e24, ?_⟩
      obtain ⟨c25, h⟩ := h
      refine ⟨c25, ?_⟩
      have n26 := k2_ne K c25 (by decide)
      refine cm_X8_hasHour (kf_X8_hasHour h) h (fun x27 x28 hp h g29 g30 => ?_)
      have h := h g29 g30
      have K := k2_tr K hp.2
      refine ⟨?_, ?_⟩
      · intro c31
        have h := h.1 c31
        obtain ⟨b32, e33, h⟩ := h
        refine ⟨b32, e33, ?_⟩
        obtain ⟨c34, h⟩ := h
        refine ⟨c34, ?_⟩
        have n35 := k2_ne K c34 (by decide)
        obtain ⟨b36, e37, h⟩ := h
        refine ⟨b36, e37, ?_⟩
        obtain ⟨c38, h⟩ := h
        refine ⟨c38, ?_⟩
        have n39 := k2_ne K c38 (by decide)
        obtain ⟨c40, h⟩ := h
        refine ⟨c40, ?_⟩
        obtain ⟨b41, e42, h⟩ := h
        refine ⟨b41, e42, ?_⟩
        obtain ⟨b43, e44, h⟩ := h
        refine ⟨b43, e44, ?_⟩
        obtain ⟨c45, h⟩ := h
        refine ⟨c45, ?_⟩
        have n46 := k2_ne K c45 (by decide)
        obtain ⟨b47, e48, h⟩ := h
        refine ⟨b47, e48, ?_⟩
        obtain ⟨c49, h⟩ := h
        refine ⟨c49, ?_⟩
        have n50 := k2_ne K c49 (by decide)
        obtain ⟨c51, h⟩ := h
        refine ⟨c51, ?_⟩
        obtain ⟨b52, e53, h⟩ := h
        refine ⟨b52, e53, ?_⟩
        obtain ⟨c54, h⟩ := h
        refine ⟨c54, ?_⟩
        have n55 := k2_ne K c54 (by decide)
        refine cm_X5_airAlong (kf_X5_airAlong h) h (fun x56 x57 hp h g58 => ?_)
        have h := h g58
        have K := k2_tr K hp.2
        refine cm_X9_grant (kf_X9_grant h) h (fun x59 x60 hp h g61 => ?_)
        have h := h g61
        have K := k2_tr K hp.2
        exact ⟨h, K⟩
      · intro c62
        have h := h.2 c62
        intro x64 e63
        have h := h x64 e63
        have K := k2_I K e63 n2
        exact ⟨h, K⟩
theorem kf_X9_air {Q : Int32 → HS → Prop} {v0 : Nat} {v1 : Int32} {v2 : Int32} {v3 : Int32} {S : HS} (h : P_X9_air v0 v1 v2 v3 Q S) : P_X9_air v0 v1 v2 v3 (fun r T => Q r T ∧ K2 S T) S := kf_X9_air_0 h (k2_rf S)
set_option maxRecDepth 20000 in
set_option maxHeartbeats 1000000 in
theorem kf_X9_refusedBy_0 {Q : Int32 → HS → Prop} {v0 : Nat} {v1 : Int32} {S0 S : HS} (h : P_X9_refusedBy_0 Q v0 v1 S) (K : K2 S0 S) : P_X9_refusedBy_0 (fun r T => Q r T ∧ K2 S0 T) v0 v1 S := by
  delta P_X9_refusedBy_0 at h ⊢
  obtain ⟨c1, h⟩ := h
  refine ⟨c1, ?_⟩
  have n2 := k2_ne K c1 (by decide)
  intro x4 e3
  have h := h x4 e3
  have K := k2_I K e3 n2
  refine ⟨?_, ?_⟩
  · intro c5
    have h := h.1 c5
    exact ⟨h, K⟩
  · intro c6
    have h := h.2 c6
    exact ⟨h, K⟩
theorem kf_X9_refusedBy {Q : Int32 → HS → Prop} {v0 : Nat} {v1 : Int32} {S : HS} (h : P_X9_refusedBy v0 v1 Q S) : P_X9_refusedBy v0 v1 (fun r T => Q r T ∧ K2 S T) S := kf_X9_refusedBy_0 h (k2_rf S)
set_option maxRecDepth 20000 in
set_option maxHeartbeats 1000000 in
theorem kf_X9_back_17 {Q : Int32 → HS → Prop} {s0 : Nat} {s1 : Int32} {S0 S : HS} (h : P_X9_back_17 Q s0 s1 S) (K : K2 S0 S) : P_X9_back_17 (fun r T => Q r T ∧ K2 S0 T) s0 s1 S := by
  delta P_X9_back_17 at h ⊢
  obtain ⟨c1, h⟩ := h
  refine ⟨c1, ?_⟩
  have n2 := k2_ne K c1 (by decide)
  refine cm_X9_refusedBy (kf_X9_refusedBy h) h (fun x3 x4 hp h g5 g6 => ?_)
  have h := h g5 g6
  have K := k2_tr K hp.2
  refine ⟨?_, ?_⟩
  · intro c7
    have h := h.1 c7
    exact ⟨h, K⟩
  · intro c8
    have h := h.2 c8
    exact ⟨h, K⟩
set_option maxRecDepth 20000 in
set_option maxHeartbeats 1000000 in
theorem kf_X9_back_0 {Q : Int32 → HS → Prop} {v0 : Nat} {v1 : Int32} {S0 S : HS} (h : P_X9_back_0 Q v0 v1 S) (K : K2 S0 S) : P_X9_back_0 (fun r T => Q r T ∧ K2 S0 T) v0 v1 S := by
  delta P_X9_back_0 at h ⊢
  obtain ⟨c1, h⟩ := h
  refine ⟨c1, ?_⟩
  have n2 := k2_ne K c1 (by decide)
  obtain ⟨b3, e4, h⟩ := h
  refine ⟨b3, e4, ?_⟩
  obtain ⟨c5, h⟩ := h
  refine ⟨c5, ?_⟩
  have n6 := k2_ne K c5 (by decide)
  refine cm_X0_returnTo (kf_X0_returnTo h) h (fun x7 x8 hp h g9 g10 => ?_)
  have h := h g9 g10
  have K := k2_tr K hp.2
  refine ⟨?_, ?_⟩
  · intro c11
    have h := h.1 c11
    exact kf_X9_back_17 h K
  · intro c12
    have h := h.2 c12
    exact kf_X9_back_17 h K
theorem kf_X9_back {Q : Int32 → HS → Prop} {v0 : Nat} {v1 : Int32} {S : HS} (h : P_X9_back v0 v1 Q S) : P_X9_back v0 v1 (fun r T => Q r T ∧ K2 S T) S := kf_X9_back_0 h (k2_rf S)
set_option maxRecDepth 20000 in
set_option maxHeartbeats 1000000 in
theorem kf_X9_tripTrouble_46 {Q : Int32 → HS → Prop} {s0 : Int32} {S0 S : HS} (h : P_X9_tripTrouble_46 Q s0 S) (K : K2 S0 S) : P_X9_tripTrouble_46 (fun r T => Q r T ∧ K2 S0 T) s0 S := by
  delta P_X9_tripTrouble_46 at h ⊢
  refine ⟨?_, ?_⟩
  · intro c1
    have h := h.1 c1
    exact ⟨h, K⟩
  · intro c2
    have h := h.2 c2
    exact ⟨h, K⟩
set_option maxRecDepth 20000 in
set_option maxHeartbeats 1000000 in
theorem kf_X9_tripTrouble_45 {Q : Int32 → HS → Prop} {S0 S : HS} (h : P_X9_tripTrouble_45 Q S) (K : K2 S0 S) : P_X9_tripTrouble_45 (fun r T => Q r T ∧ K2 S0 T) S := by
  delta P_X9_tripTrouble_45 at h ⊢
  exact kf_X9_tripTrouble_46 h K
set_option maxRecDepth 20000 in
set_option maxHeartbeats 1000000 in
theorem kf_X9_tripTrouble_0 {Q : Int32 → HS → Prop} {v0 : Nat} {v1 : Int32} {v2 : Int32} {v3 : Int32} {v4 : Int32} {S0 S : HS} (h : P_X9_tripTrouble_0 Q v0 v1 v2 v3 v4 S) (K : K2 S0 S) : P_X9_tripTrouble_0 (fun r T => Q r T ∧ K2 S0 T) v0 v1 v2 v3 v4 S := by
  delta P_X9_tripTrouble_0 at h ⊢
  obtain ⟨c1, h⟩ := h
  refine ⟨c1, ?_⟩
  have n2 := k2_ne K c1 (by decide)
  obtain ⟨b3, e4, h⟩ := h
  refine ⟨b3, e4, ?_⟩
  obtain ⟨c5, h⟩ := h
  refine ⟨c5, ?_⟩
  have n6 := k2_ne K c5 (by decide)
  refine cm_X8_hasWalker (kf_X8_hasWalker h) h (fun x7 x8 hp h g9 g10 => ?_)
  have h := h g9 g10
  have K := k2_tr K hp.2
  refine ⟨?_, ?_⟩
  · intro c11
    have h := h.1 c11
    exact kf_X9_tripTrouble_45 h K
  · intro c12
    have h := h.2 c12
    obtain ⟨b13, e14, h⟩ := h
    refine ⟨b13, e14, ?_⟩
    obtain ⟨c15, h⟩ := h
    refine ⟨c15, ?_⟩
    have n16 := k2_ne K c15 (by decide)
    refine cm_X8_hasRoad (kf_X8_hasRoad h) h (fun x17 x18 hp h g19 g20 => ?_)
    have h := h g19 g20
    have K := k2_tr K hp.2
    refine ⟨?_, ?_⟩
    · intro c21
      have h := h.1 c21
      exact kf_X9_tripTrouble_45 h K
    · intro c22
      have h := h.2 c22
      refine cm_X9_isWay (kf_X9_isWay h) h (fun x23 x24 hp h g25 g26 => ?_)
      have h := h g25 g26
      have K := k2_tr K hp.2
      refine ⟨?_, ?_⟩
      · intro c27
        have h := h.1 c27
        exact kf_X9_tripTrouble_45 h K
      · intro c28
        have h := h.2 c28
        obtain ⟨b29, e30, h⟩ := h
        refine ⟨b29, e30, ?_⟩
        obtain ⟨c31, h⟩ := h
        refine ⟨c31, ?_⟩
        have n32 := k2_ne K c31 (by decide)
        refine cm_X8_hasHour (kf_X8_hasHour h) h (fun x33 x34 hp h g35 g36 => ?_)
        have h := h g35 g36
        have K := k2_tr K hp.2
        refine ⟨?_, ?_⟩
        · intro c37
          have h := h.1 c37
          exact kf_X9_tripTrouble_45 h K
        · intro c38
          have h := h.2 c38
          exact kf_X9_tripTrouble_46 h K
theorem kf_X9_tripTrouble {Q : Int32 → HS → Prop} {v0 : Nat} {v1 : Int32} {v2 : Int32} {v3 : Int32} {v4 : Int32} {S : HS} (h : P_X9_tripTrouble v0 v1 v2 v3 v4 Q S) : P_X9_tripTrouble v0 v1 v2 v3 v4 (fun r T => Q r T ∧ K2 S T) S := kf_X9_tripTrouble_0 h (k2_rf S)
set_option maxRecDepth 20000 in
set_option maxHeartbeats 1000000 in
theorem kf_X9_best_0 {Q : Int32 → HS → Prop} {v0 : Nat} {v1 : Int32} {v2 : Int32} {v3 : Int32} {v4 : Int32} {S0 S : HS} (h : P_X9_best_0 Q v0 v1 v2 v3 v4 S) (K : K2 S0 S) : P_X9_best_0 (fun r T => Q r T ∧ K2 S0 T) v0 v1 v2 v3 v4 S := by
  delta P_X9_best_0 at h ⊢
  obtain ⟨c1, h⟩ := h
  refine ⟨c1, ?_⟩
  have n2 := k2_ne K c1 (by decide)
  refine cm_X9_tripTrouble (kf_X9_tripTrouble h) h (fun x3 x4 hp h g5 => ?_)
  have h := h g5
  have K := k2_tr K hp.2
  refine cm_X9_refusedBy (kf_X9_refusedBy h) h (fun x6 x7 hp h g8 g9 => ?_)
  have h := h g8 g9
  have K := k2_tr K hp.2
  refine ⟨?_, ?_⟩
  · intro c10
    have h := h.1 c10
    obtain ⟨b11, e12, h⟩ := h
    refine ⟨b11, e12, ?_⟩
    obtain ⟨b13, e14, h⟩ := h
    refine ⟨b13, e14, ?_⟩
    obtain ⟨c15, h⟩ := h
    refine ⟨c15, ?_⟩
    have n16 := k2_ne K c15 (by decide)
    obtain ⟨b17, e18, h⟩ := h
    refine ⟨b17, e18, ?_⟩
    obtain ⟨c19, h⟩ := h
    refine ⟨c19, ?_⟩
    have n20 := k2_ne K c19 (by decide)
    obtain ⟨c21, h⟩ := h
    refine ⟨c21, ?_⟩
    obtain ⟨b22, e23, h⟩ := h
    refine ⟨b22, e23, ?_⟩
    obtain ⟨b24, e25, h⟩ := h
    refine ⟨b24, e25, ?_⟩
    obtain ⟨c26, h⟩ := h
    refine ⟨c26, ?_⟩
    have n27 := k2_ne K c26 (by decide)
    obtain ⟨b28, e29, h⟩ := h
    refine ⟨b28, e29, ?_⟩
    obtain ⟨c30, h⟩ := h
    refine ⟨c30, ?_⟩
    have n31 := k2_ne K c30 (by decide)
    obtain ⟨c32, h⟩ := h
    refine ⟨c32, ?_⟩
    obtain ⟨b33, e34, h⟩ := h
    refine ⟨b33, e34, ?_⟩
    obtain ⟨b35, e36, h⟩ := h
    refine ⟨b35, e36, ?_⟩
    obtain ⟨c37, h⟩ := h
    refine ⟨c37, ?_⟩
    have n38 := k2_ne K c37 (by decide)
    obtain ⟨b39, e40, h⟩ := h
    refine ⟨b39, e40, ?_⟩
    obtain ⟨c41, h⟩ := h
    refine ⟨c41, ?_⟩
    have n42 := k2_ne K c41 (by decide)
    obtain ⟨c43, h⟩ := h
    refine ⟨c43, ?_⟩
    obtain ⟨b44, e45, h⟩ := h
    refine ⟨b44, e45, ?_⟩
    obtain ⟨c46, h⟩ := h
    refine ⟨c46, ?_⟩
    have n47 := k2_ne K c46 (by decide)
    refine cm_X1_bestSpeed (kf_X1_bestSpeed h) h (fun x48 x49 hp h g50 => ?_)
    have h := h g50
    have K := k2_tr K hp.2
    exact ⟨h, K⟩
  · intro c51
    have h := h.2 c51
    exact ⟨h, K⟩
theorem kf_X9_best {Q : Int32 → HS → Prop} {v0 : Nat} {v1 : Int32} {v2 : Int32} {v3 : Int32} {v4 : Int32} {S : HS} (h : P_X9_best v0 v1 v2 v3 v4 Q S) : P_X9_best v0 v1 v2 v3 v4 (fun r T => Q r T ∧ K2 S T) S := kf_X9_best_0 h (k2_rf S)
set_option maxRecDepth 20000 in
set_option maxHeartbeats 1000000 in
theorem kf_X9_coatParts_0 {Q : Int64 → HS → Prop} {v0 : Nat} {S0 S : HS} (h : P_X9_coatParts_0 Q v0 S) (K : K2 S0 S) : P_X9_coatParts_0 (fun r T => Q r T ∧ K2 S0 T) v0 S := by
  delta P_X9_coatParts_0 at h ⊢
  obtain ⟨c1, h⟩ := h
  refine ⟨c1, ?_⟩
  have n2 := k2_ne K c1 (by decide)
  intro x4 e3
  have h := h x4 e3
  refine ⟨?_, ?_⟩
  · intro c5
    have h := h.1 c5
    exact ⟨h, K⟩
  · intro c6
    have h := h.2 c6
    intro x8 e7
    have h := h x8 e7
    exact ⟨h, K⟩
theorem kf_X9_coatParts {Q : Int64 → HS → Prop} {v0 : Nat} {S : HS} (h : P_X9_coatParts v0 Q S) : P_X9_coatParts v0 (fun r T => Q r T ∧ K2 S T) S := kf_X9_coatParts_0 h (k2_rf S)
set_option maxRecDepth 20000 in
set_option maxHeartbeats 1000000 in
theorem kfB_X9_commonDivisor_9 {Q : Int64 → HS → Prop} {X9 X9_2 : Int64 → Int64 → Int32 → HS → Prop} {v4 : Int64} {v6 : Int64} {v8 : Int32} {S0 S : HS} (h : B_X9_commonDivisor_9 Q X9 v4 v6 v8 S) (K : K2 S0 S) (hX9 : ∀ (u0 : Int64) (u1 : Int64) (u2 : Int32) (u3 : HS), X9 u0 u1 u2 u3 → K2 S0 u3 → X9_2 u0 u1 u2 u3) : B_X9_commonDivisor_9 (fun r T => Q r T ∧ K2 S0 T) X9_2 v4 v6 v8 S := by
  delta B_X9_commonDivisor_9 at h ⊢
  refine ⟨?_, ?_⟩
  · intro c1
    have h := h.1 c1
    exact ⟨h, K⟩
  · intro c2
    have h := h.2 c2
    refine ⟨?_, ?_⟩
    · intro c3
      have h := h.1 c3
      exact ⟨h, K⟩
    · intro c4
      have h := h.2 c4
      obtain ⟨c5, h⟩ := h
      refine ⟨c5, ?_⟩
      intro x7 e6
      have h := h x7 e6
      intro x9 e8
      have h := h x9 e8
      exact hX9 _ _ _ _ h K
theorem kf_X9_commonDivisor_9 {Q : Int64 → HS → Prop} {v4 : Int64} {v6 : Int64} {v8 : Int32} {S0 S : HS} (h : P_X9_commonDivisor_9 Q v4 v6 v8 S) (K : K2 S0 S) : P_X9_commonDivisor_9 (fun r T => Q r T ∧ K2 S0 T) v4 v6 v8 S := h (fun v4 v6 v8 S => K2 S0 S → P_X9_commonDivisor_9 (fun r T => Q r T ∧ K2 S0 T) v4 v6 v8 S) (fun v4 v6 v8 S hB K => fd_X9_commonDivisor_9 (kfB_X9_commonDivisor_9 hB K (fun _ _ _ _ hx K => hx K))) K
set_option maxRecDepth 20000 in
set_option maxHeartbeats 1000000 in
theorem kf_X9_commonDivisor_0 {Q : Int64 → HS → Prop} {v0 : Int64} {v2 : Int64} {S0 S : HS} (h : P_X9_commonDivisor_0 Q v0 v2 S) (K : K2 S0 S) : P_X9_commonDivisor_0 (fun r T => Q r T ∧ K2 S0 T) v0 v2 S := by
  delta P_X9_commonDivisor_0 at h ⊢
  exact kf_X9_commonDivisor_9 h K
theorem kf_X9_commonDivisor {Q : Int64 → HS → Prop} {v0 : Int64} {v2 : Int64} {S : HS} (h : P_X9_commonDivisor v0 v2 Q S) : P_X9_commonDivisor v0 v2 (fun r T => Q r T ∧ K2 S T) S := kf_X9_commonDivisor_0 h (k2_rf S)
set_option maxRecDepth 20000 in
set_option maxHeartbeats 1000000 in
theorem kf_X9_refuse_0 {Q : Int32 → HS → Prop} {v0 : Nat} {v1 : Int32} {S0 S : HS} (h : P_X9_refuse_0 Q v0 v1 S) (K : K2 S0 S) : P_X9_refuse_0 (fun r T => Q r T ∧ K2 S0 T) v0 v1 S := by
  delta P_X9_refuse_0 at h ⊢
  obtain ⟨c1, h⟩ := h
  refine ⟨c1, ?_⟩
  have n2 := k2_ne K c1 (by decide)
  intro x4 e3
  have h := h x4 e3
  have K := k2_I K e3 n2
  exact ⟨h, K⟩
theorem kf_X9_refuse {Q : Int32 → HS → Prop} {v0 : Nat} {v1 : Int32} {S : HS} (h : P_X9_refuse v0 v1 Q S) : P_X9_refuse v0 v1 (fun r T => Q r T ∧ K2 S T) S := kf_X9_refuse_0 h (k2_rf S)
set_option maxRecDepth 20000 in
set_option maxHeartbeats 1000000 in
theorem kf_X9_day_22 {Q : Int32 → HS → Prop} {v0 : Nat} {S0 S : HS} (h : P_X9_day_22 Q v0 S) (K : K2 S0 S) : P_X9_day_22 (fun r T => Q r T ∧ K2 S0 T) v0 S := by
  delta P_X9_day_22 at h ⊢
  obtain ⟨c1, h⟩ := h
  refine ⟨c1, ?_⟩
  have n2 := k2_ne K c1 (by decide)
  refine cm_X9_refuse (kf_X9_refuse h) h (fun x3 x4 hp h g5 => ?_)
  have h := h g5
  have K := k2_tr K hp.2
  exact ⟨h, K⟩
set_option maxRecDepth 20000 in
set_option maxHeartbeats 1000000 in
theorem kf_X9_day_52 {Q : Int32 → HS → Prop} {v0 : Nat} {S0 S : HS} (h : P_X9_day_52 Q v0 S) (K : K2 S0 S) : P_X9_day_52 (fun r T => Q r T ∧ K2 S0 T) v0 S := by
  delta P_X9_day_52 at h ⊢
  obtain ⟨c1, h⟩ := h
  refine ⟨c1, ?_⟩
  have n2 := k2_ne K c1 (by decide)
  refine cm_X9_refuse (kf_X9_refuse h) h (fun x3 x4 hp h g5 => ?_)
  have h := h g5
  have K := k2_tr K hp.2
  exact ⟨h, K⟩
set_option maxRecDepth 20000 in
set_option maxHeartbeats 1000000 in
theorem kf_X9_day_0 {Q : Int32 → HS → Prop} {v0 : Nat} {v1 : Int32} {v2 : Int32} {v3 : Int32} {v4 : Int32} {S0 S : HS} (h : P_X9_day_0 Q v0 v1 v2 v3 v4 S) (K : K2 S0 S) : P_X9_day_0 (fun r T => Q r T ∧ K2 S0 T) v0 v1 v2 v3 v4 S := by
  delta P_X9_day_0 at h ⊢
  obtain ⟨c1, h⟩ := h
  refine ⟨c1, ?_⟩
  have n2 := k2_ne K c1 (by decide)
  obtain ⟨b3, e4, h⟩ := h
  refine ⟨b3, e4, ?_⟩
  obtain ⟨c5, h⟩ := h
  refine ⟨c5, ?_⟩
  have n6 := k2_ne K c5 (by decide)
  refine cm_X8_hasWalker (kf_X8_hasWalker h) h (fun x7 x8 hp h g9 g10 => ?_)
  have h := h g9 g10
  have K := k2_tr K hp.2
  refine ⟨?_, ?_⟩
  · intro c11
    have h := h.1 c11
    exact kf_X9_day_22 h K
  · intro c12
    have h := h.2 c12
    obtain ⟨b13, e14, h⟩ := h
    refine ⟨b13, e14, ?_⟩
    obtain ⟨c15, h⟩ := h
    refine ⟨c15, ?_⟩
    have n16 := k2_ne K c15 (by decide)
    refine cm_X8_hasPlace (kf_X8_hasPlace h) h (fun x17 x18 hp h g19 g20 => ?_)
    have h := h g19 g20
    have K := k2_tr K hp.2
    refine ⟨?_, ?_⟩
    · intro c21
      have h := h.1 c21
      refine ⟨?_, ?_⟩
      · intro c22
        have h := h.1 c22
        exact kf_X9_day_52 h K
      · intro c23
        have h := h.2 c23
        refine ⟨?_, ?_⟩
        · intro c24
          have h := h.1 c24
          exact kf_X9_day_52 h K
        · intro c25
          have h := h.2 c25
          refine ⟨?_, ?_⟩
          · intro c26
            have h := h.1 c26
            exact kf_X9_day_52 h K
          · intro c27
            have h := h.2 c27
            refine ⟨?_, ?_⟩
            · intro c28
              have h := h.1 c28
              obtain ⟨b29, e30, h⟩ := h
              refine ⟨b29, e30, ?_⟩
              obtain ⟨c31, h⟩ := h
              refine ⟨c31, ?_⟩
              have n32 := k2_ne K c31 (by decide)
              refine cm_X0_begin (kf_X0_begin h) h (fun x33 hp h g34 => ?_)
              have h := h g34
              have K := k2_tr K hp.2
              obtain ⟨b35, e36, h⟩ := h
              refine ⟨b35, e36, ?_⟩
              obtain ⟨b37, e38, h⟩ := h
              refine ⟨b37, e38, ?_⟩
              obtain ⟨c39, h⟩ := h
              refine ⟨c39, ?_⟩
              have n40 := k2_ne K c39 (by decide)
              refine cm_X0_draw (kf_X0_draw h) h (fun x41 hp h g42 => ?_)
              have h := h g42
              have K := k2_tr K hp.2
              obtain ⟨b43, e44, h⟩ := h
              refine ⟨b43, e44, ?_⟩
              obtain ⟨c45, h⟩ := h
              refine ⟨c45, ?_⟩
              have n46 := k2_ne K c45 (by decide)
              intro x48 e47
              have h := h x48 e47
              refine cm_X9_grant (kf_X9_grant h) h (fun x49 x50 hp h g51 => ?_)
              have h := h g51
              have K := k2_tr K hp.2
              exact ⟨h, K⟩
            · intro c52
              have h := h.2 c52
              exact kf_X9_day_52 h K
    · intro c53
      have h := h.2 c53
      exact kf_X9_day_22 h K
theorem kf_X9_day {Q : Int32 → HS → Prop} {v0 : Nat} {v1 : Int32} {v2 : Int32} {v3 : Int32} {v4 : Int32} {S : HS} (h : P_X9_day v0 v1 v2 v3 v4 Q S) : P_X9_day v0 v1 v2 v3 v4 (fun r T => Q r T ∧ K2 S T) S := kf_X9_day_0 h (k2_rf S)
set_option maxRecDepth 20000 in
set_option maxHeartbeats 1000000 in
theorem kf_X9_driest_29 {Q : Int32 → HS → Prop} {v0 : Nat} {S0 S : HS} (h : P_X9_driest_29 Q v0 S) (K : K2 S0 S) : P_X9_driest_29 (fun r T => Q r T ∧ K2 S0 T) v0 S := by
  delta P_X9_driest_29 at h ⊢
  obtain ⟨c1, h⟩ := h
  refine ⟨c1, ?_⟩
  have n2 := k2_ne K c1 (by decide)
  refine cm_X9_refuse (kf_X9_refuse h) h (fun x3 x4 hp h g5 => ?_)
  have h := h g5
  have K := k2_tr K hp.2
  exact ⟨h, K⟩
set_option maxRecDepth 20000 in
set_option maxHeartbeats 1000000 in
theorem kf_X9_driest_140 {Q : Int32 → HS → Prop} {X63 X63_2 : Nat → Int32 → Int32 → Int32 → Int32 → Int64 → Int32 → HS → Prop} {v0 : Nat} {v1 : Int32} {v2 : Int32} {v3 : Int32} {v4 : Int32} {v5 : Int64} {v7 : Int32} {S0 S : HS} (h : P_X9_driest_140 Q X63 v0 v1 v2 v3 v4 v5 v7 S) (K : K2 S0 S) (hX63 : ∀ (u0 : Nat) (u1 : Int32) (u2 : Int32) (u3 : Int32) (u4 : Int32) (u5 : Int64) (u6 : Int32) (u7 : HS), X63 u0 u1 u2 u3 u4 u5 u6 u7 → K2 S0 u7 → X63_2 u0 u1 u2 u3 u4 u5 u6 u7) : P_X9_driest_140 (fun r T => Q r T ∧ K2 S0 T) X63_2 v0 v1 v2 v3 v4 v5 v7 S := by
  delta P_X9_driest_140 at h ⊢
  intro x2 e1
  have h := h x2 e1
  exact hX63 _ _ _ _ _ _ _ _ h K
set_option maxRecDepth 20000 in
set_option maxHeartbeats 1000000 in
theorem kfB_X9_driest_63 {Q : Int32 → HS → Prop} {X63 X63_2 : Nat → Int32 → Int32 → Int32 → Int32 → Int64 → Int32 → HS → Prop} {v0 : Nat} {v1 : Int32} {v2 : Int32} {v3 : Int32} {v4 : Int32} {v5 : Int64} {v7 : Int32} {S0 S : HS} (h : B_X9_driest_63 Q X63 v0 v1 v2 v3 v4 v5 v7 S) (K : K2 S0 S) (hX63 : ∀ (u0 : Nat) (u1 : Int32) (u2 : Int32) (u3 : Int32) (u4 : Int32) (u5 : Int64) (u6 : Int32) (u7 : HS), X63 u0 u1 u2 u3 u4 u5 u6 u7 → K2 S0 u7 → X63_2 u0 u1 u2 u3 u4 u5 u6 u7) : B_X9_driest_63 (fun r T => Q r T ∧ K2 S0 T) X63_2 v0 v1 v2 v3 v4 v5 v7 S := by
  delta B_X9_driest_63 at h ⊢
  obtain ⟨c1, h⟩ := h
  refine ⟨c1, ?_⟩
  have n2 := k2_ne K c1 (by decide)
  obtain ⟨b3, e4, h⟩ := h
  refine ⟨b3, e4, ?_⟩
  obtain ⟨c5, h⟩ := h
  refine ⟨c5, ?_⟩
  have n6 := k2_ne K c5 (by decide)
  intro x8 e7
  have h := h x8 e7
  refine ⟨?_, ?_⟩
  · intro c9
    have h := h.1 c9
    refine cm_X9_grant (kf_X9_grant h) h (fun x10 x11 hp h g12 => ?_)
    have h := h g12
    have K := k2_tr K hp.2
    exact ⟨h, K⟩
  · intro c13
    have h := h.2 c13
    obtain ⟨b14, e15, h⟩ := h
    refine ⟨b14, e15, ?_⟩
    obtain ⟨c16, h⟩ := h
    refine ⟨c16, ?_⟩
    have n17 := k2_ne K c16 (by decide)
    obtain ⟨b18, e19, h⟩ := h
    refine ⟨b18, e19, ?_⟩
    obtain ⟨c20, h⟩ := h
    refine ⟨c20, ?_⟩
    have n21 := k2_ne K c20 (by decide)
    obtain ⟨c22, h⟩ := h
    refine ⟨c22, ?_⟩
    obtain ⟨b23, e24, h⟩ := h
    refine ⟨b23, e24, ?_⟩
    obtain ⟨b25, e26, h⟩ := h
    refine ⟨b25, e26, ?_⟩
    obtain ⟨b27, e28, h⟩ := h
    refine ⟨b27, e28, ?_⟩
    obtain ⟨c29, h⟩ := h
    refine ⟨c29, ?_⟩
    have n30 := k2_ne K c29 (by decide)
    obtain ⟨b31, e32, h⟩ := h
    refine ⟨b31, e32, ?_⟩
    obtain ⟨c33, h⟩ := h
    refine ⟨c33, ?_⟩
    have n34 := k2_ne K c33 (by decide)
    obtain ⟨c35, h⟩ := h
    refine ⟨c35, ?_⟩
    obtain ⟨b36, e37, h⟩ := h
    refine ⟨b36, e37, ?_⟩
    obtain ⟨b38, e39, h⟩ := h
    refine ⟨b38, e39, ?_⟩
    obtain ⟨c40, h⟩ := h
    refine ⟨c40, ?_⟩
    have n41 := k2_ne K c40 (by decide)
    obtain ⟨b42, e43, h⟩ := h
    refine ⟨b42, e43, ?_⟩
    obtain ⟨c44, h⟩ := h
    refine ⟨c44, ?_⟩
    have n45 := k2_ne K c44 (by decide)
    obtain ⟨c46, h⟩ := h
    refine ⟨c46, ?_⟩
    obtain ⟨b47, e48, h⟩ := h
    refine ⟨b47, e48, ?_⟩
    obtain ⟨c49, h⟩ := h
    refine ⟨c49, ?_⟩
    have n50 := k2_ne K c49 (by decide)
    refine cm_X1_leastWet (kf_X1_leastWet h) h (fun x51 x52 hp h g53 => ?_)
    have h := h g53
    have K := k2_tr K hp.2
    obtain ⟨c54, h⟩ := h
    refine ⟨c54, ?_⟩
    have n55 := k2_ne K c54 (by decide)
    intro x57 e56
    have h := h x57 e56
    intro x59 e58
    have h := h x59 e58
    refine ⟨?_, ?_⟩
    · intro c60
      have h := h.1 c60
      exact kf_X9_driest_140 h K hX63
    · intro c61
      have h := h.2 c61
      exact kf_X9_driest_140 h K hX63
theorem kf_X9_driest_63 {Q : Int32 → HS → Prop} {v0 : Nat} {v1 : Int32} {v2 : Int32} {v3 : Int32} {v4 : Int32} {v5 : Int64} {v7 : Int32} {S0 S : HS} (h : P_X9_driest_63 Q v0 v1 v2 v3 v4 v5 v7 S) (K : K2 S0 S) : P_X9_driest_63 (fun r T => Q r T ∧ K2 S0 T) v0 v1 v2 v3 v4 v5 v7 S := h (fun v0 v1 v2 v3 v4 v5 v7 S => K2 S0 S → P_X9_driest_63 (fun r T => Q r T ∧ K2 S0 T) v0 v1 v2 v3 v4 v5 v7 S) (fun v0 v1 v2 v3 v4 v5 v7 S hB K => fd_X9_driest_63 (kfB_X9_driest_63 hB K (fun _ _ _ _ _ _ _ _ hx K => hx K))) K
set_option maxRecDepth 20000 in
set_option maxHeartbeats 1000000 in
theorem kf_X9_driest_0 {Q : Int32 → HS → Prop} {v0 : Nat} {v1 : Int32} {v2 : Int32} {v3 : Int32} {S0 S : HS} (h : P_X9_driest_0 Q v0 v1 v2 v3 S) (K : K2 S0 S) : P_X9_driest_0 (fun r T => Q r T ∧ K2 S0 T) v0 v1 v2 v3 S := by
  delta P_X9_driest_0 at h ⊢
  obtain ⟨c1, h⟩ := h
  refine ⟨c1, ?_⟩
  have n2 := k2_ne K c1 (by decide)
  obtain ⟨b3, e4, h⟩ := h
  refine ⟨b3, e4, ?_⟩
  obtain ⟨c5, h⟩ := h
  refine ⟨c5, ?_⟩
  have n6 := k2_ne K c5 (by decide)
  refine cm_X8_hasWalker (kf_X8_hasWalker h) h (fun x7 x8 hp h g9 g10 => ?_)
  have h := h g9 g10
  have K := k2_tr K hp.2
  refine ⟨?_, ?_⟩
  · intro c11
    have h := h.1 c11
    exact kf_X9_driest_29 h K
  · intro c12
    have h := h.2 c12
    obtain ⟨b13, e14, h⟩ := h
    refine ⟨b13, e14, ?_⟩
    obtain ⟨c15, h⟩ := h
    refine ⟨c15, ?_⟩
    have n16 := k2_ne K c15 (by decide)
    refine cm_X8_hasRoad (kf_X8_hasRoad h) h (fun x17 x18 hp h g19 g20 => ?_)
    have h := h g19 g20
    have K := k2_tr K hp.2
    refine ⟨?_, ?_⟩
    · intro c21
      have h := h.1 c21
      exact kf_X9_driest_29 h K
    · intro c22
      have h := h.2 c22
      refine cm_X9_isWay (kf_X9_isWay h) h (fun x23 x24 hp h g25 g26 => ?_)
      have h := h g25 g26
      have K := k2_tr K hp.2
      refine ⟨?_, ?_⟩
      · intro c27
        have h := h.1 c27
        obtain ⟨b28, e29, h⟩ := h
        refine ⟨b28, e29, ?_⟩
        obtain ⟨c30, h⟩ := h
        refine ⟨c30, ?_⟩
        have n31 := k2_ne K c30 (by decide)
        intro x33 e32
        have h := h x33 e32
        refine ⟨?_, ?_⟩
        · intro c34
          have h := h.1 c34
          exact kf_X9_driest_63 h K
        · intro c35
          have h := h.2 c35
          refine cm_X9_refuse (kf_X9_refuse h) h (fun x36 x37 hp h g38 => ?_)
          have h := h g38
          have K := k2_tr K hp.2
          exact ⟨h, K⟩
      · intro c39
        have h := h.2 c39
        exact kf_X9_driest_29 h K
theorem kf_X9_driest {Q : Int32 → HS → Prop} {v0 : Nat} {v1 : Int32} {v2 : Int32} {v3 : Int32} {S : HS} (h : P_X9_driest v0 v1 v2 v3 Q S) : P_X9_driest v0 v1 v2 v3 (fun r T => Q r T ∧ K2 S T) S := kf_X9_driest_0 h (k2_rf S)
set_option maxRecDepth 20000 in
set_option maxHeartbeats 1000000 in
theorem kf_X9_even_0 {Q : Int32 → HS → Prop} {v0 : Nat} {v1 : Int32} {v2 : Int32} {v3 : Int32} {v4 : Int32} {S0 S : HS} (h : P_X9_even_0 Q v0 v1 v2 v3 v4 S) (K : K2 S0 S) : P_X9_even_0 (fun r T => Q r T ∧ K2 S0 T) v0 v1 v2 v3 v4 S := by
  delta P_X9_even_0 at h ⊢
  obtain ⟨c1, h⟩ := h
  refine ⟨c1, ?_⟩
  have n2 := k2_ne K c1 (by decide)
  refine cm_X9_tripTrouble (kf_X9_tripTrouble h) h (fun x3 x4 hp h g5 => ?_)
  have h := h g5
  have K := k2_tr K hp.2
  refine cm_X9_refusedBy (kf_X9_refusedBy h) h (fun x6 x7 hp h g8 g9 => ?_)
  have h := h g8 g9
  have K := k2_tr K hp.2
  refine ⟨?_, ?_⟩
  · intro c10
    have h := h.1 c10
    obtain ⟨b11, e12, h⟩ := h
    refine ⟨b11, e12, ?_⟩
    obtain ⟨c13, h⟩ := h
    refine ⟨c13, ?_⟩
    have n14 := k2_ne K c13 (by decide)
    obtain ⟨b15, e16, h⟩ := h
    refine ⟨b15, e16, ?_⟩
    obtain ⟨c17, h⟩ := h
    refine ⟨c17, ?_⟩
    have n18 := k2_ne K c17 (by decide)
    obtain ⟨c19, h⟩ := h
    refine ⟨c19, ?_⟩
    obtain ⟨b20, e21, h⟩ := h
    refine ⟨b20, e21, ?_⟩
    obtain ⟨b22, e23, h⟩ := h
    refine ⟨b22, e23, ?_⟩
    obtain ⟨b24, e25, h⟩ := h
    refine ⟨b24, e25, ?_⟩
    obtain ⟨c26, h⟩ := h
    refine ⟨c26, ?_⟩
    have n27 := k2_ne K c26 (by decide)
    obtain ⟨b28, e29, h⟩ := h
    refine ⟨b28, e29, ?_⟩
    obtain ⟨c30, h⟩ := h
    refine ⟨c30, ?_⟩
    have n31 := k2_ne K c30 (by decide)
    obtain ⟨c32, h⟩ := h
    refine ⟨c32, ?_⟩
    obtain ⟨b33, e34, h⟩ := h
    refine ⟨b33, e34, ?_⟩
    obtain ⟨b35, e36, h⟩ := h
    refine ⟨b35, e36, ?_⟩
    obtain ⟨c37, h⟩ := h
    refine ⟨c37, ?_⟩
    have n38 := k2_ne K c37 (by decide)
    obtain ⟨b39, e40, h⟩ := h
    refine ⟨b39, e40, ?_⟩
    obtain ⟨c41, h⟩ := h
    refine ⟨c41, ?_⟩
    have n42 := k2_ne K c41 (by decide)
    obtain ⟨c43, h⟩ := h
    refine ⟨c43, ?_⟩
    obtain ⟨b44, e45, h⟩ := h
    refine ⟨b44, e45, ?_⟩
    obtain ⟨c46, h⟩ := h
    refine ⟨c46, ?_⟩
    have n47 := k2_ne K c46 (by decide)
    refine cm_X1_worstSpeed (kf_X1_worstSpeed h) h (fun x48 x49 hp h g50 => ?_)
    have h := h g50
    have K := k2_tr K hp.2
    obtain ⟨b51, e52, h⟩ := h
    refine ⟨b51, e52, ?_⟩
    obtain ⟨b53, e54, h⟩ := h
    refine ⟨b53, e54, ?_⟩
    obtain ⟨c55, h⟩ := h
    refine ⟨c55, ?_⟩
    have n56 := k2_ne K c55 (by decide)
    obtain ⟨b57, e58, h⟩ := h
    refine ⟨b57, e58, ?_⟩
    obtain ⟨c59, h⟩ := h
    refine ⟨c59, ?_⟩
    have n60 := k2_ne K c59 (by decide)
    obtain ⟨c61, h⟩ := h
    refine ⟨c61, ?_⟩
    obtain ⟨b62, e63, h⟩ := h
    refine ⟨b62, e63, ?_⟩
    obtain ⟨b64, e65, h⟩ := h
    refine ⟨b64, e65, ?_⟩
    obtain ⟨c66, h⟩ := h
    refine ⟨c66, ?_⟩
    have n67 := k2_ne K c66 (by decide)
    obtain ⟨b68, e69, h⟩ := h
    refine ⟨b68, e69, ?_⟩
    obtain ⟨c70, h⟩ := h
    refine ⟨c70, ?_⟩
    have n71 := k2_ne K c70 (by decide)
    obtain ⟨c72, h⟩ := h
    refine ⟨c72, ?_⟩
    obtain ⟨b73, e74, h⟩ := h
    refine ⟨b73, e74, ?_⟩
    obtain ⟨c75, h⟩ := h
    refine ⟨c75, ?_⟩
    have n76 := k2_ne K c75 (by decide)
    refine cm_X1_leastWet (kf_X1_leastWet h) h (fun x77 x78 hp h g79 => ?_)
    have h := h g79
    have K := k2_tr K hp.2
    obtain ⟨b80, e81, h⟩ := h
    refine ⟨b80, e81, ?_⟩
    obtain ⟨b82, e83, h⟩ := h
    refine ⟨b82, e83, ?_⟩
    obtain ⟨c84, h⟩ := h
    refine ⟨c84, ?_⟩
    have n85 := k2_ne K c84 (by decide)
    obtain ⟨b86, e87, h⟩ := h
    refine ⟨b86, e87, ?_⟩
    obtain ⟨c88, h⟩ := h
    refine ⟨c88, ?_⟩
    have n89 := k2_ne K c88 (by decide)
    obtain ⟨c90, h⟩ := h
    refine ⟨c90, ?_⟩
    obtain ⟨b91, e92, h⟩ := h
    refine ⟨b91, e92, ?_⟩
    obtain ⟨b93, e94, h⟩ := h
    refine ⟨b93, e94, ?_⟩
    obtain ⟨c95, h⟩ := h
    refine ⟨c95, ?_⟩
    have n96 := k2_ne K c95 (by decide)
    obtain ⟨b97, e98, h⟩ := h
    refine ⟨b97, e98, ?_⟩
    obtain ⟨c99, h⟩ := h
    refine ⟨c99, ?_⟩
    have n100 := k2_ne K c99 (by decide)
    obtain ⟨c101, h⟩ := h
    refine ⟨c101, ?_⟩
    obtain ⟨b102, e103, h⟩ := h
    refine ⟨b102, e103, ?_⟩
    obtain ⟨c104, h⟩ := h
    refine ⟨c104, ?_⟩
    have n105 := k2_ne K c104 (by decide)
    refine cm_X1_wetOf (kf_X1_wetOf h) h (fun x106 x107 hp h g108 => ?_)
    have h := h g108
    have K := k2_tr K hp.2
    refine ⟨?_, ?_⟩
    · intro c109
      have h := h.1 c109
      exact ⟨h, K⟩
    · intro c110
      have h := h.2 c110
      exact ⟨h, K⟩
  · intro c111
    have h := h.2 c111
    exact ⟨h, K⟩
theorem kf_X9_even {Q : Int32 → HS → Prop} {v0 : Nat} {v1 : Int32} {v2 : Int32} {v3 : Int32} {v4 : Int32} {S : HS} (h : P_X9_even v0 v1 v2 v3 v4 Q S) : P_X9_even v0 v1 v2 v3 v4 (fun r T => Q r T ∧ K2 S T) S := kf_X9_even_0 h (k2_rf S)
set_option maxRecDepth 20000 in
set_option maxHeartbeats 1000000 in
theorem kf_X9_fraction_0 {Q : Int64 → HS → Prop} {v0 : Int64} {v2 : Int64} {v4 : Int32} {S0 S : HS} (h : P_X9_fraction_0 Q v0 v2 v4 S) (K : K2 S0 S) : P_X9_fraction_0 (fun r T => Q r T ∧ K2 S0 T) v0 v2 v4 S := by
  delta P_X9_fraction_0 at h ⊢
  refine cm_X9_commonDivisor (kf_X9_commonDivisor h) h (fun x1 x2 hp h g3 => ?_)
  have h := h g3
  have K := k2_tr K hp.2
  refine ⟨?_, ?_⟩
  · intro c4
    have h := h.1 c4
    refine ⟨?_, ?_⟩
    · intro c5
      have h := h.1 c5
      obtain ⟨c6, h⟩ := h
      refine ⟨c6, ?_⟩
      intro x8 e7
      have h := h x8 e7
      exact ⟨h, K⟩
    · intro c9
      have h := h.2 c9
      obtain ⟨c10, h⟩ := h
      refine ⟨c10, ?_⟩
      intro x12 e11
      have h := h x12 e11
      exact ⟨h, K⟩
  · intro c13
    have h := h.2 c13
    refine ⟨?_, ?_⟩
    · intro c14
      have h := h.1 c14
      exact ⟨h, K⟩
    · intro c15
      have h := h.2 c15
      exact ⟨h, K⟩
theorem kf_X9_fraction {Q : Int64 → HS → Prop} {v0 : Int64} {v2 : Int64} {v4 : Int32} {S : HS} (h : P_X9_fraction v0 v2 v4 Q S) : P_X9_fraction v0 v2 v4 (fun r T => Q r T ∧ K2 S T) S := kf_X9_fraction_0 h (k2_rf S)
set_option maxRecDepth 20000 in
set_option maxHeartbeats 1000000 in
theorem kf_X9_isFace_0 {Q : Int32 → HS → Prop} {v0 : Int32} {S0 S : HS} (h : P_X9_isFace_0 Q v0 S) (K : K2 S0 S) : P_X9_isFace_0 (fun r T => Q r T ∧ K2 S0 T) v0 S := by
  delta P_X9_isFace_0 at h ⊢
  refine ⟨?_, ?_⟩
  · intro c1
    have h := h.1 c1
    exact ⟨h, K⟩
  · intro c2
    have h := h.2 c2
    refine ⟨?_, ?_⟩
    · intro c3
      have h := h.1 c3
      exact ⟨h, K⟩
    · intro c4
      have h := h.2 c4
      exact ⟨h, K⟩
theorem kf_X9_isFace {Q : Int32 → HS → Prop} {v0 : Int32} {S : HS} (h : P_X9_isFace v0 Q S) : P_X9_isFace v0 (fun r T => Q r T ∧ K2 S T) S := kf_X9_isFace_0 h (k2_rf S)
set_option maxRecDepth 20000 in
set_option maxHeartbeats 1000000 in
theorem kf_X9_legTrouble_0 {Q : Int32 → HS → Prop} {v0 : Nat} {v1 : Int32} {v2 : Int32} {v3 : Int32} {v4 : Int32} {v5 : Int32} {S0 S : HS} (h : P_X9_legTrouble_0 Q v0 v1 v2 v3 v4 v5 S) (K : K2 S0 S) : P_X9_legTrouble_0 (fun r T => Q r T ∧ K2 S0 T) v0 v1 v2 v3 v4 v5 S := by
  delta P_X9_legTrouble_0 at h ⊢
  obtain ⟨c1, h⟩ := h
  refine ⟨c1, ?_⟩
  have n2 := k2_ne K c1 (by decide)
  refine cm_X9_tripTrouble (kf_X9_tripTrouble h) h (fun x3 x4 hp h g5 => ?_)
  have h := h g5
  have K := k2_tr K hp.2
  refine ⟨?_, ?_⟩
  · intro c6
    have h := h.1 c6
    obtain ⟨b7, e8, h⟩ := h
    refine ⟨b7, e8, ?_⟩
    obtain ⟨c9, h⟩ := h
    refine ⟨c9, ?_⟩
    have n10 := k2_ne K c9 (by decide)
    obtain ⟨b11, e12, h⟩ := h
    refine ⟨b11, e12, ?_⟩
    obtain ⟨c13, h⟩ := h
    refine ⟨c13, ?_⟩
    have n14 := k2_ne K c13 (by decide)
    obtain ⟨c15, h⟩ := h
    refine ⟨c15, ?_⟩
    obtain ⟨b16, e17, h⟩ := h
    refine ⟨b16, e17, ?_⟩
    obtain ⟨c18, h⟩ := h
    refine ⟨c18, ?_⟩
    have n19 := k2_ne K c18 (by decide)
    refine cm_X6_canGo (kf_X6_canGo h) h (fun x20 x21 hp h g22 g23 => ?_)
    have h := h g22 g23
    have K := k2_tr K hp.2
    refine ⟨?_, ?_⟩
    · intro c24
      have h := h.1 c24
      exact ⟨h, K⟩
    · intro c25
      have h := h.2 c25
      exact ⟨h, K⟩
  · intro c26
    have h := h.2 c26
    exact ⟨h, K⟩
theorem kf_X9_legTrouble {Q : Int32 → HS → Prop} {v0 : Nat} {v1 : Int32} {v2 : Int32} {v3 : Int32} {v4 : Int32} {v5 : Int32} {S : HS} (h : P_X9_legTrouble v0 v1 v2 v3 v4 v5 Q S) : P_X9_legTrouble v0 v1 v2 v3 v4 v5 (fun r T => Q r T ∧ K2 S T) S := kf_X9_legTrouble_0 h (k2_rf S)
set_option maxRecDepth 20000 in
set_option maxHeartbeats 1000000 in
theorem kf_X9_face_23 {Q : Int64 → HS → Prop} {v0 : Nat} {v1 : Int32} {v2 : Int32} {v3 : Int32} {v4 : Int32} {v5 : Int32} {v6 : Int32} {v7 : Int32} {s0 : Int32} {S0 S : HS} (h : P_X9_face_23 Q v0 v1 v2 v3 v4 v5 v6 v7 s0 S) (K : K2 S0 S) : P_X9_face_23 (fun r T => Q r T ∧ K2 S0 T) v0 v1 v2 v3 v4 v5 v6 v7 s0 S := by
  delta P_X9_face_23 at h ⊢
  obtain ⟨c1, h⟩ := h
  refine ⟨c1, ?_⟩
  have n2 := k2_ne K c1 (by decide)
  refine cm_X9_refusedBy (kf_X9_refusedBy h) h (fun x3 x4 hp h g5 g6 => ?_)
  have h := h g5 g6
  have K := k2_tr K hp.2
  refine ⟨?_, ?_⟩
  · intro c7
    have h := h.1 c7
    obtain ⟨b8, e9, h⟩ := h
    refine ⟨b8, e9, ?_⟩
    obtain ⟨b10, e11, h⟩ := h
    refine ⟨b10, e11, ?_⟩
    obtain ⟨c12, h⟩ := h
    refine ⟨c12, ?_⟩
    have n13 := k2_ne K c12 (by decide)
    obtain ⟨b14, e15, h⟩ := h
    refine ⟨b14, e15, ?_⟩
    obtain ⟨c16, h⟩ := h
    refine ⟨c16, ?_⟩
    have n17 := k2_ne K c16 (by decide)
    obtain ⟨c18, h⟩ := h
    refine ⟨c18, ?_⟩
    obtain ⟨b19, e20, h⟩ := h
    refine ⟨b19, e20, ?_⟩
    obtain ⟨b21, e22, h⟩ := h
    refine ⟨b21, e22, ?_⟩
    obtain ⟨c23, h⟩ := h
    refine ⟨c23, ?_⟩
    have n24 := k2_ne K c23 (by decide)
    obtain ⟨b25, e26, h⟩ := h
    refine ⟨b25, e26, ?_⟩
    obtain ⟨c27, h⟩ := h
    refine ⟨c27, ?_⟩
    have n28 := k2_ne K c27 (by decide)
    obtain ⟨c29, h⟩ := h
    refine ⟨c29, ?_⟩
    obtain ⟨b30, e31, h⟩ := h
    refine ⟨b30, e31, ?_⟩
    obtain ⟨b32, e33, h⟩ := h
    refine ⟨b32, e33, ?_⟩
    obtain ⟨c34, h⟩ := h
    refine ⟨c34, ?_⟩
    have n35 := k2_ne K c34 (by decide)
    obtain ⟨b36, e37, h⟩ := h
    refine ⟨b36, e37, ?_⟩
    obtain ⟨c38, h⟩ := h
    refine ⟨c38, ?_⟩
    have n39 := k2_ne K c38 (by decide)
    obtain ⟨c40, h⟩ := h
    refine ⟨c40, ?_⟩
    obtain ⟨b41, e42, h⟩ := h
    refine ⟨b41, e42, ?_⟩
    obtain ⟨c43, h⟩ := h
    refine ⟨c43, ?_⟩
    have n44 := k2_ne K c43 (by decide)
    refine cm_X1_wetOf (kf_X1_wetOf h) h (fun x45 x46 hp h g47 => ?_)
    have h := h g47
    have K := k2_tr K hp.2
    obtain ⟨b48, e49, h⟩ := h
    refine ⟨b48, e49, ?_⟩
    obtain ⟨c50, h⟩ := h
    refine ⟨c50, ?_⟩
    have n51 := k2_ne K c50 (by decide)
    obtain ⟨b52, e53, h⟩ := h
    refine ⟨b52, e53, ?_⟩
    obtain ⟨c54, h⟩ := h
    refine ⟨c54, ?_⟩
    have n55 := k2_ne K c54 (by decide)
    obtain ⟨c56, h⟩ := h
    refine ⟨c56, ?_⟩
    intro x58 e57
    have h := h x58 e57
    refine cm_X9_fraction (kf_X9_fraction h) h (fun x59 x60 hp h g61 => ?_)
    have h := h g61
    have K := k2_tr K hp.2
    exact ⟨h, K⟩
  · intro c62
    have h := h.2 c62
    exact ⟨h, K⟩
set_option maxRecDepth 20000 in
set_option maxHeartbeats 1000000 in
theorem kf_X9_face_0 {Q : Int64 → HS → Prop} {v0 : Nat} {v1 : Int32} {v2 : Int32} {v3 : Int32} {v4 : Int32} {v5 : Int32} {v6 : Int32} {v7 : Int32} {S0 S : HS} (h : P_X9_face_0 Q v0 v1 v2 v3 v4 v5 v6 v7 S) (K : K2 S0 S) : P_X9_face_0 (fun r T => Q r T ∧ K2 S0 T) v0 v1 v2 v3 v4 v5 v6 v7 S := by
  delta P_X9_face_0 at h ⊢
  refine cm_X9_isFace (kf_X9_isFace h) h (fun x1 x2 hp h g3 g4 => ?_)
  have h := h g3 g4
  have K := k2_tr K hp.2
  refine ⟨?_, ?_⟩
  · intro c5
    have h := h.1 c5
    exact kf_X9_face_23 h K
  · intro c6
    have h := h.2 c6
    obtain ⟨c7, h⟩ := h
    refine ⟨c7, ?_⟩
    have n8 := k2_ne K c7 (by decide)
    refine cm_X9_legTrouble (kf_X9_legTrouble h) h (fun x9 x10 hp h g11 => ?_)
    have h := h g11
    have K := k2_tr K hp.2
    exact kf_X9_face_23 h K
theorem kf_X9_face {Q : Int64 → HS → Prop} {v0 : Nat} {v1 : Int32} {v2 : Int32} {v3 : Int32} {v4 : Int32} {v5 : Int32} {v6 : Int32} {v7 : Int32} {S : HS} (h : P_X9_face v0 v1 v2 v3 v4 v5 v6 v7 Q S) : P_X9_face v0 v1 v2 v3 v4 v5 v6 v7 (fun r T => Q r T ∧ K2 S T) S := kf_X9_face_0 h (k2_rf S)
set_option maxRecDepth 20000 in
set_option maxHeartbeats 1000000 in
theorem kf_X9_fault_0 {Q : Int32 → HS → Prop} {v0 : Nat} {S0 S : HS} (h : P_X9_fault_0 Q v0 S) (K : K2 S0 S) : P_X9_fault_0 (fun r T => Q r T ∧ K2 S0 T) v0 S := by
  delta P_X9_fault_0 at h ⊢
  obtain ⟨c1, h⟩ := h
  refine ⟨c1, ?_⟩
  have n2 := k2_ne K c1 (by decide)
  intro x4 e3
  have h := h x4 e3
  exact ⟨h, K⟩
theorem kf_X9_fault {Q : Int32 → HS → Prop} {v0 : Nat} {S : HS} (h : P_X9_fault v0 Q S) : P_X9_fault v0 (fun r T => Q r T ∧ K2 S T) S := kf_X9_fault_0 h (k2_rf S)
set_option maxRecDepth 20000 in
set_option maxHeartbeats 1000000 in
theorem kf_X9_leeTrouble_0 {Q : Int32 → HS → Prop} {v0 : Nat} {v1 : Int32} {v2 : Int32} {v3 : Int32} {v4 : Int32} {v5 : Int32} {v6 : Int32} {S0 S : HS} (h : P_X9_leeTrouble_0 Q v0 v1 v2 v3 v4 v5 v6 S) (K : K2 S0 S) : P_X9_leeTrouble_0 (fun r T => Q r T ∧ K2 S0 T) v0 v1 v2 v3 v4 v5 v6 S := by
  delta P_X9_leeTrouble_0 at h ⊢
  refine ⟨?_, ?_⟩
  · intro c1
    have h := h.1 c1
    exact ⟨h, K⟩
  · intro c2
    have h := h.2 c2
    obtain ⟨c3, h⟩ := h
    refine ⟨c3, ?_⟩
    have n4 := k2_ne K c3 (by decide)
    obtain ⟨b5, e6, h⟩ := h
    refine ⟨b5, e6, ?_⟩
    obtain ⟨c7, h⟩ := h
    refine ⟨c7, ?_⟩
    have n8 := k2_ne K c7 (by decide)
    refine cm_X8_hasWalker (kf_X8_hasWalker h) h (fun x9 x10 hp h g11 g12 => ?_)
    have h := h g11 g12
    have K := k2_tr K hp.2
    refine ⟨?_, ?_⟩
    · intro c13
      have h := h.1 c13
      exact ⟨h, K⟩
    · intro c14
      have h := h.2 c14
      obtain ⟨b15, e16, h⟩ := h
      refine ⟨b15, e16, ?_⟩
      obtain ⟨c17, h⟩ := h
      refine ⟨c17, ?_⟩
      have n18 := k2_ne K c17 (by decide)
      refine cm_X8_hasWalker (kf_X8_hasWalker h) h (fun x19 x20 hp h g21 g22 => ?_)
      have h := h g21 g22
      have K := k2_tr K hp.2
      refine ⟨?_, ?_⟩
      · intro c23
        have h := h.1 c23
        refine cm_X9_legTrouble (kf_X9_legTrouble h) h (fun x24 x25 hp h g26 => ?_)
        have h := h g26
        have K := k2_tr K hp.2
        refine ⟨?_, ?_⟩
        · intro c27
          have h := h.1 c27
          obtain ⟨b28, e29, h⟩ := h
          refine ⟨b28, e29, ?_⟩
          obtain ⟨c30, h⟩ := h
          refine ⟨c30, ?_⟩
          have n31 := k2_ne K c30 (by decide)
          obtain ⟨b32, e33, h⟩ := h
          refine ⟨b32, e33, ?_⟩
          obtain ⟨c34, h⟩ := h
          refine ⟨c34, ?_⟩
          have n35 := k2_ne K c34 (by decide)
          obtain ⟨c36, h⟩ := h
          refine ⟨c36, ?_⟩
          obtain ⟨b37, e38, h⟩ := h
          refine ⟨b37, e38, ?_⟩
          obtain ⟨c39, h⟩ := h
          refine ⟨c39, ?_⟩
          have n40 := k2_ne K c39 (by decide)
          refine cm_X6_canGo (kf_X6_canGo h) h (fun x41 x42 hp h g43 g44 => ?_)
          have h := h g43 g44
          have K := k2_tr K hp.2
          refine ⟨?_, ?_⟩
          · intro c45
            have h := h.1 c45
            exact ⟨h, K⟩
          · intro c46
            have h := h.2 c46
            exact ⟨h, K⟩
        · intro c47
          have h := h.2 c47
          exact ⟨h, K⟩
      · intro c48
        have h := h.2 c48
        exact ⟨h, K⟩
theorem kf_X9_leeTrouble {Q : Int32 → HS → Prop} {v0 : Nat} {v1 : Int32} {v2 : Int32} {v3 : Int32} {v4 : Int32} {v5 : Int32} {v6 : Int32} {S : HS} (h : P_X9_leeTrouble v0 v1 v2 v3 v4 v5 v6 Q S) : P_X9_leeTrouble v0 v1 v2 v3 v4 v5 v6 (fun r T => Q r T ∧ K2 S T) S := kf_X9_leeTrouble_0 h (k2_rf S)
set_option maxRecDepth 20000 in
set_option maxHeartbeats 1000000 in
theorem kf_X9_first_0 {Q : Int32 → HS → Prop} {v0 : Nat} {v1 : Int32} {v2 : Int32} {v3 : Int32} {v4 : Int32} {v5 : Int32} {v6 : Int32} {S0 S : HS} (h : P_X9_first_0 Q v0 v1 v2 v3 v4 v5 v6 S) (K : K2 S0 S) : P_X9_first_0 (fun r T => Q r T ∧ K2 S0 T) v0 v1 v2 v3 v4 v5 v6 S := by
  delta P_X9_first_0 at h ⊢
  obtain ⟨c1, h⟩ := h
  refine ⟨c1, ?_⟩
  have n2 := k2_ne K c1 (by decide)
  refine cm_X9_leeTrouble (kf_X9_leeTrouble h) h (fun x3 x4 hp h g5 => ?_)
  have h := h g5
  have K := k2_tr K hp.2
  refine cm_X9_refusedBy (kf_X9_refusedBy h) h (fun x6 x7 hp h g8 g9 => ?_)
  have h := h g8 g9
  have K := k2_tr K hp.2
  refine ⟨?_, ?_⟩
  · intro c10
    have h := h.1 c10
    obtain ⟨b11, e12, h⟩ := h
    refine ⟨b11, e12, ?_⟩
    obtain ⟨b13, e14, h⟩ := h
    refine ⟨b13, e14, ?_⟩
    obtain ⟨c15, h⟩ := h
    refine ⟨c15, ?_⟩
    have n16 := k2_ne K c15 (by decide)
    obtain ⟨b17, e18, h⟩ := h
    refine ⟨b17, e18, ?_⟩
    obtain ⟨c19, h⟩ := h
    refine ⟨c19, ?_⟩
    have n20 := k2_ne K c19 (by decide)
    obtain ⟨c21, h⟩ := h
    refine ⟨c21, ?_⟩
    obtain ⟨b22, e23, h⟩ := h
    refine ⟨b22, e23, ?_⟩
    obtain ⟨b24, e25, h⟩ := h
    refine ⟨b24, e25, ?_⟩
    obtain ⟨c26, h⟩ := h
    refine ⟨c26, ?_⟩
    have n27 := k2_ne K c26 (by decide)
    obtain ⟨b28, e29, h⟩ := h
    refine ⟨b28, e29, ?_⟩
    obtain ⟨c30, h⟩ := h
    refine ⟨c30, ?_⟩
    have n31 := k2_ne K c30 (by decide)
    obtain ⟨c32, h⟩ := h
    refine ⟨c32, ?_⟩
    obtain ⟨b33, e34, h⟩ := h
    refine ⟨b33, e34, ?_⟩
    obtain ⟨c35, h⟩ := h
    refine ⟨c35, ?_⟩
    have n36 := k2_ne K c35 (by decide)
    refine cm_X1_lay (kf_X1_lay h) h (fun x37 hp h g38 => ?_)
    have h := h g38
    have K := k2_tr K hp.2
    obtain ⟨b39, e40, h⟩ := h
    refine ⟨b39, e40, ?_⟩
    obtain ⟨b41, e42, h⟩ := h
    refine ⟨b41, e42, ?_⟩
    obtain ⟨c43, h⟩ := h
    refine ⟨c43, ?_⟩
    have n44 := k2_ne K c43 (by decide)
    obtain ⟨b45, e46, h⟩ := h
    refine ⟨b45, e46, ?_⟩
    obtain ⟨c47, h⟩ := h
    refine ⟨c47, ?_⟩
    have n48 := k2_ne K c47 (by decide)
    obtain ⟨c49, h⟩ := h
    refine ⟨c49, ?_⟩
    obtain ⟨b50, e51, h⟩ := h
    refine ⟨b50, e51, ?_⟩
    obtain ⟨b52, e53, h⟩ := h
    refine ⟨b52, e53, ?_⟩
    obtain ⟨c54, h⟩ := h
    refine ⟨c54, ?_⟩
    have n55 := k2_ne K c54 (by decide)
    obtain ⟨b56, e57, h⟩ := h
    refine ⟨b56, e57, ?_⟩
    obtain ⟨c58, h⟩ := h
    refine ⟨c58, ?_⟩
    have n59 := k2_ne K c58 (by decide)
    obtain ⟨c60, h⟩ := h
    refine ⟨c60, ?_⟩
    obtain ⟨b61, e62, h⟩ := h
    refine ⟨b61, e62, ?_⟩
    obtain ⟨c63, h⟩ := h
    refine ⟨c63, ?_⟩
    have n64 := k2_ne K c63 (by decide)
    refine cm_X1_wetInLee (kf_X1_wetInLee h) h (fun x65 x66 hp h g67 => ?_)
    have h := h g67
    have K := k2_tr K hp.2
    obtain ⟨b68, e69, h⟩ := h
    refine ⟨b68, e69, ?_⟩
    obtain ⟨b70, e71, h⟩ := h
    refine ⟨b70, e71, ?_⟩
    obtain ⟨c72, h⟩ := h
    refine ⟨c72, ?_⟩
    have n73 := k2_ne K c72 (by decide)
    obtain ⟨b74, e75, h⟩ := h
    refine ⟨b74, e75, ?_⟩
    obtain ⟨c76, h⟩ := h
    refine ⟨c76, ?_⟩
    have n77 := k2_ne K c76 (by decide)
    obtain ⟨c78, h⟩ := h
    refine ⟨c78, ?_⟩
    obtain ⟨b79, e80, h⟩ := h
    refine ⟨b79, e80, ?_⟩
    obtain ⟨b81, e82, h⟩ := h
    refine ⟨b81, e82, ?_⟩
    obtain ⟨c83, h⟩ := h
    refine ⟨c83, ?_⟩
    have n84 := k2_ne K c83 (by decide)
    obtain ⟨b85, e86, h⟩ := h
    refine ⟨b85, e86, ?_⟩
    obtain ⟨c87, h⟩ := h
    refine ⟨c87, ?_⟩
    have n88 := k2_ne K c87 (by decide)
    obtain ⟨c89, h⟩ := h
    refine ⟨c89, ?_⟩
    obtain ⟨b90, e91, h⟩ := h
    refine ⟨b90, e91, ?_⟩
    obtain ⟨c92, h⟩ := h
    refine ⟨c92, ?_⟩
    have n93 := k2_ne K c92 (by decide)
    refine cm_X1_wetInLee (kf_X1_wetInLee h) h (fun x94 x95 hp h g96 => ?_)
    have h := h g96
    have K := k2_tr K hp.2
    refine ⟨?_, ?_⟩
    · intro c97
      have h := h.1 c97
      refine ⟨?_, ?_⟩
      · intro c98
        have h := h.1 c98
        exact ⟨h, K⟩
      · intro c99
        have h := h.2 c99
        exact ⟨h, K⟩
    · intro c100
      have h := h.2 c100
      exact ⟨h, K⟩
  · intro c101
    have h := h.2 c101
    exact ⟨h, K⟩
theorem kf_X9_first {Q : Int32 → HS → Prop} {v0 : Nat} {v1 : Int32} {v2 : Int32} {v3 : Int32} {v4 : Int32} {v5 : Int32} {v6 : Int32} {S : HS} (h : P_X9_first v0 v1 v2 v3 v4 v5 v6 Q S) : P_X9_first v0 v1 v2 v3 v4 v5 v6 (fun r T => Q r T ∧ K2 S T) S := kf_X9_first_0 h (k2_rf S)
end
