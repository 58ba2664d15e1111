set_option maxRecDepth 20000 in
set_option maxHeartbeats 1000000 in
theorem kg_X11_laysWays_85 {Q : HS → Prop} {X3 X3_2 : Nat → Int32 → Int32 → Int32 → Int32 → HS → Prop} {X11 X11_2 : Nat → Int32 → Int32 → Int32 → Int32 → Int32 → HS → Prop} {v0 : Nat} {v1 : Int32} {v2 : Int32} {v3 : Int32} {v4 : Int32} {v5 : Int32} {S0 S : HS} (h : P_X11_laysWays_85 Q X3 X11 v0 v1 v2 v3 v4 v5 S) (K : K5 S0 S) (hX3 : ∀ (u0 : Nat) (u1 : Int32) (u2 : Int32) (u3 : Int32) (u4 : Int32) (u5 : HS), X3 u0 u1 u2 u3 u4 u5 → K5 S0 u5 → X3_2 u0 u1 u2 u3 u4 u5) (hX11 : ∀ (u0 : Nat) (u1 : Int32) (u2 : Int32) (u3 : Int32) (u4 : Int32) (u5 : Int32) (u6 : HS), X11 u0 u1 u2 u3 u4 u5 u6 → K5 S0 u6 → X11_2 u0 u1 u2 u3 u4 u5 u6) : P_X11_laysWays_85 (fun T => Q T ∧ K5 S0 T) X3_2 X11_2 v0 v1 v2 v3 v4 v5 S := by
  delta P_X11_laysWays_85 at h ⊢
  intro x2 e1
  have h := h x2 e1
  exact hX11 _ _ _ _ _ _ _ h K
set_option maxRecDepth 20000 in
set_option maxHeartbeats 1000000 in
theorem kg_X11_laysWays_51 {Q : HS → Prop} {X3 X3_2 : Nat → Int32 → Int32 → Int32 → Int32 → HS → Prop} {X11 X11_2 : Nat → Int32 → Int32 → Int32 → Int32 → Int32 → HS → Prop} {v0 : Nat} {v1 : Int32} {v2 : Int32} {v3 : Int32} {v4 : Int32} {v5 : Int32} {v6 : Int32} {s0 : Nat} {s1 : Int32} {s2 : Int64} {S0 S : HS} (h : P_X11_laysWays_51 Q X3 X11 v0 v1 v2 v3 v4 v5 v6 s0 s1 s2 S) (K : K5 S0 S) (hX3 : ∀ (u0 : Nat) (u1 : Int32) (u2 : Int32) (u3 : Int32) (u4 : Int32) (u5 : HS), X3 u0 u1 u2 u3 u4 u5 → K5 S0 u5 → X3_2 u0 u1 u2 u3 u4 u5) (hX11 : ∀ (u0 : Nat) (u1 : Int32) (u2 : Int32) (u3 : Int32) (u4 : Int32) (u5 : Int32) (u6 : HS), X11 u0 u1 u2 u3 u4 u5 u6 → K5 S0 u6 → X11_2 u0 u1 u2 u3 u4 u5 u6) : P_X11_laysWays_51 (fun T => Q T ∧ K5 S0 T) X3_2 X11_2 v0 v1 v2 v3 v4 v5 v6 s0 s1 s2 S := by
  delta P_X11_laysWays_51 at h ⊢
  obtain ⟨c1, h⟩ := h
  refine ⟨c1, ?_⟩
  have n2 := k5_ne K c1
  obtain ⟨c3, h⟩ := h
  refine ⟨c3, ?_⟩
  intro x5 e4
  have h := h x5 e4
  have K := k5_J K e4
  obtain ⟨c6, h⟩ := h
  refine ⟨c6, ?_⟩
  have n7 := k5_ne K c6
  obtain ⟨b8, e9, h⟩ := h
  refine ⟨b8, e9, ?_⟩
  obtain ⟨c10, h⟩ := h
  refine ⟨c10, ?_⟩
  have n11 := k5_ne K c10
  obtain ⟨c12, h⟩ := h
  refine ⟨c12, ?_⟩
  intro x14 e13
  have h := h x14 e13
  have K := k5_A K e13 n11 (by decide)
  obtain ⟨b15, e16, h⟩ := h
  refine ⟨b15, e16, ?_⟩
  obtain ⟨c17, h⟩ := h
  refine ⟨c17, ?_⟩
  have n18 := k5_ne K c17
  obtain ⟨c19, h⟩ := h
  refine ⟨c19, ?_⟩
  intro x21 e20
  have h := h x21 e20
  have K := k5_A K e20 n18 (by decide)
  refine ⟨?_, ?_⟩
  · intro c22
    have h := h.1 c22
    exact kg_X11_laysWays_85 h K hX3 hX11
  · intro c23
    have h := h.2 c23
    refine cm_X11_tries (kg_X11_tries h) h (fun x24 hp h g25 => ?_)
    have h := h g25
    have K := k5_tr K hp.2
    exact kg_X11_laysWays_85 h K hX3 hX11
set_option maxRecDepth 20000 in
set_option maxHeartbeats 1000000 in
theorem kgB_X11_laysWays_11 {Q : HS → Prop} {X3 X3_2 : Nat → Int32 → Int32 → Int32 → Int32 → HS → Prop} {X11 X11_2 : Nat → Int32 → Int32 → Int32 → Int32 → Int32 → HS → Prop} {v0 : Nat} {v1 : Int32} {v2 : Int32} {v3 : Int32} {v4 : Int32} {v5 : Int32} {S0 S : HS} (h : B_X11_laysWays_11 Q X3 X11 v0 v1 v2 v3 v4 v5 S) (K : K5 S0 S) (hX3 : ∀ (u0 : Nat) (u1 : Int32) (u2 : Int32) (u3 : Int32) (u4 : Int32) (u5 : HS), X3 u0 u1 u2 u3 u4 u5 → K5 S0 u5 → X3_2 u0 u1 u2 u3 u4 u5) (hX11 : ∀ (u0 : Nat) (u1 : Int32) (u2 : Int32) (u3 : Int32) (u4 : Int32) (u5 : Int32) (u6 : HS), X11 u0 u1 u2 u3 u4 u5 u6 → K5 S0 u6 → X11_2 u0 u1 u2 u3 u4 u5 u6) : B_X11_laysWays_11 (fun T => Q T ∧ K5 S0 T) X3_2 X11_2 v0 v1 v2 v3 v4 v5 S := by
  delta B_X11_laysWays_11 at h ⊢
  obtain ⟨c1, h⟩ := h
  refine ⟨c1, ?_⟩
  have n2 := k5_ne K c1
  obtain ⟨b3, e4, h⟩ := h
  refine ⟨b3, e4, ?_⟩
  obtain ⟨c5, h⟩ := h
  refine ⟨c5, ?_⟩
  have n6 := k5_ne K c5
  intro x8 e7
  have h := h x8 e7
  refine ⟨?_, ?_⟩
  · intro c9
    have h := h.1 c9
    intro x11 e10
    have h := h x11 e10
    exact hX3 _ _ _ _ _ _ h K
  · intro c12
    have h := h.2 c12
    refine cm_X11_spotOf (kg_X11_spotOf h) h (fun x13 x14 hp h g15 => ?_)
    have h := h g15
    have K := k5_tr K hp.2
    obtain ⟨b16, e17, h⟩ := h
    refine ⟨b16, e17, ?_⟩
    refine ⟨?_, ?_⟩
    · intro c18
      have h := h.1 c18
      exact kg_X11_laysWays_51 h K hX3 hX11
    · intro c19
      have h := h.2 c19
      exact kg_X11_laysWays_51 h K hX3 hX11
theorem kg_X11_laysWays_11 {Q : HS → Prop} {X3 X3_2 : Nat → Int32 → Int32 → Int32 → Int32 → HS → Prop} {v0 : Nat} {v1 : Int32} {v2 : Int32} {v3 : Int32} {v4 : Int32} {v5 : Int32} {S0 S : HS} (h : P_X11_laysWays_11 Q X3 v0 v1 v2 v3 v4 v5 S) (K : K5 S0 S) (hX3 : ∀ (u0 : Nat) (u1 : Int32) (u2 : Int32) (u3 : Int32) (u4 : Int32) (u5 : HS), X3 u0 u1 u2 u3 u4 u5 → K5 S0 u5 → X3_2 u0 u1 u2 u3 u4 u5) : P_X11_laysWays_11 (fun T => Q T ∧ K5 S0 T) X3_2 v0 v1 v2 v3 v4 v5 S := h (fun v0 v1 v2 v3 v4 v5 S => K5 S0 S → P_X11_laysWays_11 (fun T => Q T ∧ K5 S0 T) X3_2 v0 v1 v2 v3 v4 v5 S) (fun v0 v1 v2 v3 v4 v5 S hB K => fd_X11_laysWays_11 (kgB_X11_laysWays_11 hB K hX3 (fun _ _ _ _ _ _ _ hx K => hx K))) K
set_option maxRecDepth 20000 in
set_option maxHeartbeats 1000000 in
theorem kgB_X11_laysWays_3 {Q : HS → Prop} {X3 X3_2 : Nat → Int32 → Int32 → Int32 → Int32 → HS → Prop} {v0 : Nat} {v1 : Int32} {v2 : Int32} {v3 : Int32} {v4 : Int32} {S0 S : HS} (h : B_X11_laysWays_3 Q X3 v0 v1 v2 v3 v4 S) (K : K5 S0 S) (hX3 : ∀ (u0 : Nat) (u1 : Int32) (u2 : Int32) (u3 : Int32) (u4 : Int32) (u5 : HS), X3 u0 u1 u2 u3 u4 u5 → K5 S0 u5 → X3_2 u0 u1 u2 u3 u4 u5) : B_X11_laysWays_3 (fun T => Q T ∧ K5 S0 T) X3_2 v0 v1 v2 v3 v4 S := by
  delta B_X11_laysWays_3 at h ⊢
  refine ⟨?_, ?_⟩
  · intro c1
    have h := h.1 c1
    exact ⟨h, K⟩
  · intro c2
    have h := h.2 c2
    exact kg_X11_laysWays_11 h K hX3
theorem kg_X11_laysWays_3 {Q : HS → Prop} {v0 : Nat} {v1 : Int32} {v2 : Int32} {v3 : Int32} {v4 : Int32} {S0 S : HS} (h : P_X11_laysWays_3 Q v0 v1 v2 v3 v4 S) (K : K5 S0 S) : P_X11_laysWays_3 (fun T => Q T ∧ K5 S0 T) v0 v1 v2 v3 v4 S := h (fun v0 v1 v2 v3 v4 S => K5 S0 S → P_X11_laysWays_3 (fun T => Q T ∧ K5 S0 T) v0 v1 v2 v3 v4 S) (fun v0 v1 v2 v3 v4 S hB K => fd_X11_laysWays_3 (kgB_X11_laysWays_3 hB K (fun _ _ _ _ _ _ hx K => hx K))) K
set_option maxRecDepth 20000 in
set_option maxHeartbeats 1000000 in
theorem kg_X11_laysWays_0 {Q : HS → Prop} {v0 : Nat} {v1 : Int32} {v2 : Int32} {v3 : Int32} {S0 S : HS} (h : P_X11_laysWays_0 Q v0 v1 v2 v3 S) (K : K5 S0 S) : P_X11_laysWays_0 (fun T => Q T ∧ K5 S0 T) v0 v1 v2 v3 S := by
  delta P_X11_laysWays_0 at h ⊢
  exact kg_X11_laysWays_3 h K
theorem kg_X11_laysWays {Q : HS → Prop} {v0 : Nat} {v1 : Int32} {v2 : Int32} {v3 : Int32} {S : HS} (h : P_X11_laysWays v0 v1 v2 v3 Q S) : P_X11_laysWays v0 v1 v2 v3 (fun T => Q T ∧ K5 S T) S := kg_X11_laysWays_0 h (k5_rf S)
set_option maxRecDepth 20000 in
set_option maxHeartbeats 1000000 in
theorem kg_X11_refusesWay_0 {Q : Int32 → HS → Prop} {v0 : Nat} {v1 : Int32} {v2 : Int32} {v3 : Int32} {v4 : Int32} {v5 : Int32} {S0 S : HS} (h : P_X11_refusesWay_0 Q v0 v1 v2 v3 v4 v5 S) (K : K5 S0 S) : P_X11_refusesWay_0 (fun r T => Q r T ∧ K5 S0 T) v0 v1 v2 v3 v4 v5 S := by
  delta P_X11_refusesWay_0 at h ⊢
  obtain ⟨c1, h⟩ := h
  refine ⟨c1, ?_⟩
  have n2 := k5_ne K c1
  refine cm_X11_isWalker (kg_X11_isWalker h) h (fun x3 x4 hp h g5 g6 => ?_)
  have h := h g5 g6
  have K := k5_tr K hp.2
  refine ⟨?_, ?_⟩
  · intro c7
    have h := h.1 c7
    exact ⟨h, K⟩
  · intro c8
    have h := h.2 c8
    refine cm_X11_isPlace (kg_X11_isPlace h) h (fun x9 x10 hp h g11 g12 => ?_)
    have h := h g11 g12
    have K := k5_tr K hp.2
    refine ⟨?_, ?_⟩
    · intro c13
      have h := h.1 c13
      exact ⟨h, K⟩
    · intro c14
      have h := h.2 c14
      refine cm_X11_isPlace (kg_X11_isPlace h) h (fun x15 x16 hp h g17 g18 => ?_)
      have h := h g17 g18
      have K := k5_tr K hp.2
      refine ⟨?_, ?_⟩
      · intro c19
        have h := h.1 c19
        refine cm_X11_in (kg_X11_in h) h (fun x20 x21 hp h g22 g23 => ?_)
        have h := h g22 g23
        have K := k5_tr K hp.2
        refine ⟨?_, ?_⟩
        · intro c24
          have h := h.1 c24
          exact ⟨h, K⟩
        · intro c25
          have h := h.2 c25
          refine cm_X11_in (kg_X11_in h) h (fun x26 x27 hp h g28 g29 => ?_)
          have h := h g28 g29
          have K := k5_tr K hp.2
          refine ⟨?_, ?_⟩
          · intro c30
            have h := h.1 c30
            refine cm_X11_laysWays (kg_X11_laysWays h) h (fun x31 hp h g32 => ?_)
            have h := h g32
            have K := k5_tr K hp.2
            obtain ⟨b33, e34, h⟩ := h
            refine ⟨b33, e34, ?_⟩
            refine cm_X11_spotOf (kg_X11_spotOf h) h (fun x35 x36 hp h g37 => ?_)
            have h := h g37
            have K := k5_tr K hp.2
            obtain ⟨c38, h⟩ := h
            refine ⟨c38, ?_⟩
            have n39 := k5_ne K c38
            obtain ⟨c40, h⟩ := h
            refine ⟨c40, ?_⟩
            intro x42 e41
            have h := h x42 e41
            refine ⟨?_, ?_⟩
            · intro c43
              have h := h.1 c43
              exact ⟨h, K⟩
            · intro c44
              have h := h.2 c44
              exact ⟨h, K⟩
          · intro c45
            have h := h.2 c45
            exact ⟨h, K⟩
      · intro c46
        have h := h.2 c46
        exact ⟨h, K⟩
theorem kg_X11_refusesWay {Q : Int32 → HS → Prop} {v0 : Nat} {v1 : Int32} {v2 : Int32} {v3 : Int32} {v4 : Int32} {v5 : Int32} {S : HS} (h : P_X11_refusesWay v0 v1 v2 v3 v4 v5 Q S) : P_X11_refusesWay v0 v1 v2 v3 v4 v5 (fun r T => Q r T ∧ K5 S T) S := kg_X11_refusesWay_0 h (k5_rf S)
set_option maxRecDepth 20000 in
set_option maxHeartbeats 1000000 in
theorem kg_X11_led_80 {Q : Int32 → HS → Prop} {X9 X9_2 : Nat → Int32 → Int32 → Int32 → HS → Prop} {v0 : Nat} {v1 : Int32} {v2 : Int32} {v3 : Int32} {S0 S : HS} (h : P_X11_led_80 Q X9 v0 v1 v2 v3 S) (K : K5 S0 S) (hX9 : ∀ (u0 : Nat) (u1 : Int32) (u2 : Int32) (u3 : Int32) (u4 : HS), X9 u0 u1 u2 u3 u4 → K5 S0 u4 → X9_2 u0 u1 u2 u3 u4) : P_X11_led_80 (fun r T => Q r T ∧ K5 S0 T) X9_2 v0 v1 v2 v3 S := by
  delta P_X11_led_80 at h ⊢
  intro x2 e1
  have h := h x2 e1
  exact hX9 _ _ _ _ _ h K
set_option maxRecDepth 20000 in
set_option maxHeartbeats 1000000 in
theorem kg_X11_led_70 {Q : Int32 → HS → Prop} {X9 X9_2 : Nat → Int32 → Int32 → Int32 → HS → Prop} {v0 : Nat} {v1 : Int32} {v2 : Int32} {v3 : Int32} {S0 S : HS} (h : P_X11_led_70 Q X9 v0 v1 v2 v3 S) (K : K5 S0 S) (hX9 : ∀ (u0 : Nat) (u1 : Int32) (u2 : Int32) (u3 : Int32) (u4 : HS), X9 u0 u1 u2 u3 u4 → K5 S0 u4 → X9_2 u0 u1 u2 u3 u4) : P_X11_led_70 (fun r T => Q r T ∧ K5 S0 T) X9_2 v0 v1 v2 v3 S := by
  delta P_X11_led_70 at h ⊢
  refine ⟨?_, ?_⟩
  · intro c1
    have h := h.1 c1
    intro x3 e2
    have h := h x3 e2
    exact kg_X11_led_80 h K hX9
  · intro c4
    have h := h.2 c4
    exact ⟨h, K⟩
set_option maxRecDepth 20000 in
set_option maxHeartbeats 1000000 in
theorem kgB_X11_led_9 {Q : Int32 → HS → Prop} {X9 X9_2 : Nat → Int32 → Int32 → Int32 → HS → Prop} {v0 : Nat} {v1 : Int32} {v2 : Int32} {v3 : Int32} {S0 S : HS} (h : B_X11_led_9 Q X9 v0 v1 v2 v3 S) (K : K5 S0 S) (hX9 : ∀ (u0 : Nat) (u1 : Int32) (u2 : Int32) (u3 : Int32) (u4 : HS), X9 u0 u1 u2 u3 u4 → K5 S0 u4 → X9_2 u0 u1 u2 u3 u4) : B_X11_led_9 (fun r T => Q r T ∧ K5 S0 T) X9_2 v0 v1 v2 v3 S := by
  delta B_X11_led_9 at h ⊢
  obtain ⟨c1, h⟩ := h
  refine ⟨c1, ?_⟩
  have n2 := k5_ne K c1
  refine cm_X11_isDay (kg_X11_isDay h) h (fun x3 x4 hp h g5 g6 => ?_)
  have h := h g5 g6
  have K := k5_tr K hp.2
  refine ⟨?_, ?_⟩
  · intro c7
    have h := h.1 c7
    intro x9 e8
    have h := h x9 e8
    have K := k5_I K e8 n2 (by decide)
    exact ⟨h, K⟩
  · intro c10
    have h := h.2 c10
    obtain ⟨b11, e12, h⟩ := h
    refine ⟨b11, e12, ?_⟩
    obtain ⟨c13, h⟩ := h
    refine ⟨c13, ?_⟩
    have n14 := k5_ne K c13
    intro x16 e15
    have h := h x16 e15
    refine ⟨?_, ?_⟩
    · intro c17
      have h := h.1 c17
      intro x19 e18
      have h := h x19 e18
      have K := k5_I K e18 n2 (by decide)
      exact ⟨h, K⟩
    · intro c20
      have h := h.2 c20
      obtain ⟨b21, e22, h⟩ := h
      refine ⟨b21, e22, ?_⟩
      obtain ⟨c23, h⟩ := h
      refine ⟨c23, ?_⟩
      have n24 := k5_ne K c23
      obtain ⟨b25, e26, h⟩ := h
      refine ⟨b25, e26, ?_⟩
      obtain ⟨c27, h⟩ := h
      refine ⟨c27, ?_⟩
      have n28 := k5_ne K c27
      obtain ⟨c29, h⟩ := h
      refine ⟨c29, ?_⟩
      intro x31 e30
      have h := h x31 e30
      obtain ⟨b32, e33, h⟩ := h
      refine ⟨b32, e33, ?_⟩
      obtain ⟨c34, h⟩ := h
      refine ⟨c34, ?_⟩
      have n35 := k5_ne K c34
      obtain ⟨c36, h⟩ := h
      refine ⟨c36, ?_⟩
      intro x38 e37
      have h := h x38 e37
      refine ⟨?_, ?_⟩
      · intro c39
        have h := h.1 c39
        exact kg_X11_led_70 h K hX9
      · intro c40
        have h := h.2 c40
        obtain ⟨b41, e42, h⟩ := h
        refine ⟨b41, e42, ?_⟩
        obtain ⟨c43, h⟩ := h
        refine ⟨c43, ?_⟩
        have n44 := k5_ne K c43
        obtain ⟨b45, e46, h⟩ := h
        refine ⟨b45, e46, ?_⟩
        obtain ⟨c47, h⟩ := h
        refine ⟨c47, ?_⟩
        have n48 := k5_ne K c47
        obtain ⟨c49, h⟩ := h
        refine ⟨c49, ?_⟩
        intro x51 e50
        have h := h x51 e50
        obtain ⟨b52, e53, h⟩ := h
        refine ⟨b52, e53, ?_⟩
        obtain ⟨c54, h⟩ := h
        refine ⟨c54, ?_⟩
        have n55 := k5_ne K c54
        obtain ⟨c56, h⟩ := h
        refine ⟨c56, ?_⟩
        intro x58 e57
        have h := h x58 e57
        refine ⟨?_, ?_⟩
        · intro c59
          have h := h.1 c59
          exact kg_X11_led_70 h K hX9
        · intro c60
          have h := h.2 c60
          exact kg_X11_led_80 h K hX9
theorem kg_X11_led_9 {Q : Int32 → HS → Prop} {v0 : Nat} {v1 : Int32} {v2 : Int32} {v3 : Int32} {S0 S : HS} (h : P_X11_led_9 Q v0 v1 v2 v3 S) (K : K5 S0 S) : P_X11_led_9 (fun r T => Q r T ∧ K5 S0 T) v0 v1 v2 v3 S := h (fun v0 v1 v2 v3 S => K5 S0 S → P_X11_led_9 (fun r T => Q r T ∧ K5 S0 T) v0 v1 v2 v3 S) (fun v0 v1 v2 v3 S hB K => fd_X11_led_9 (kgB_X11_led_9 hB K (fun _ _ _ _ _ hx K => hx K))) K
set_option maxRecDepth 20000 in
set_option maxHeartbeats 1000000 in
theorem kg_X11_led_0 {Q : Int32 → HS → Prop} {v0 : Nat} {v1 : Int32} {S0 S : HS} (h : P_X11_led_0 Q v0 v1 S) (K : K5 S0 S) : P_X11_led_0 (fun r T => Q r T ∧ K5 S0 T) v0 v1 S := by
  delta P_X11_led_0 at h ⊢
  obtain ⟨c1, h⟩ := h
  refine ⟨c1, ?_⟩
  have n2 := k5_ne K c1
  intro x4 e3
  have h := h x4 e3
  have K := k5_I K e3 n2 (by decide)
  exact kg_X11_led_9 h K
theorem kg_X11_led {Q : Int32 → HS → Prop} {v0 : Nat} {v1 : Int32} {S : HS} (h : P_X11_led v0 v1 Q S) : P_X11_led v0 v1 (fun r T => Q r T ∧ K5 S T) S := kg_X11_led_0 h (k5_rf S)
set_option maxRecDepth 20000 in
set_option maxHeartbeats 1000000 in
theorem kg_X11_names_0 {Q : HS → Prop} {v0 : Nat} {v1 : Int64} {v3 : Int32} {v4 : Int32} {S0 S : HS} (h : P_X11_names_0 Q v0 v1 v3 v4 S) (K : K5 S0 S) : P_X11_names_0 (fun T => Q T ∧ K5 S0 T) v0 v1 v3 v4 S := by
  delta P_X11_names_0 at h ⊢
  obtain ⟨c1, h⟩ := h
  refine ⟨c1, ?_⟩
  have n2 := k5_ne K c1
  obtain ⟨b3, e4, h⟩ := h
  refine ⟨b3, e4, ?_⟩
  obtain ⟨c5, h⟩ := h
  refine ⟨c5, ?_⟩
  have n6 := k5_ne K c5
  obtain ⟨b7, e8, h⟩ := h
  refine ⟨b7, e8, ?_⟩
  obtain ⟨b9, e10, h⟩ := h
  refine ⟨b9, e10, ?_⟩
  obtain ⟨c11, h⟩ := h
  refine ⟨c11, ?_⟩
  have n12 := k5_ne K c11
  intro x14 e13
  have h := h x14 e13
  obtain ⟨c15, h⟩ := h
  refine ⟨c15, ?_⟩
  have n16 := k5_ne K c15
  obtain ⟨c17, h⟩ := h
  refine ⟨c17, ?_⟩
  intro x19 e18
  have h := h x19 e18
  have K := k5_J K e18
  obtain ⟨b20, e21, h⟩ := h
  refine ⟨b20, e21, ?_⟩
  obtain ⟨c22, h⟩ := h
  refine ⟨c22, ?_⟩
  have n23 := k5_ne K c22
  obtain ⟨b24, e25, h⟩ := h
  refine ⟨b24, e25, ?_⟩
  obtain ⟨b26, e27, h⟩ := h
  refine ⟨b26, e27, ?_⟩
  obtain ⟨c28, h⟩ := h
  refine ⟨c28, ?_⟩
  have n29 := k5_ne K c28
  intro x31 e30
  have h := h x31 e30
  obtain ⟨c32, h⟩ := h
  refine ⟨c32, ?_⟩
  have n33 := k5_ne K c32
  obtain ⟨c34, h⟩ := h
  refine ⟨c34, ?_⟩
  intro x36 e35
  have h := h x36 e35
  have K := k5_A K e35 n33 (by decide)
  obtain ⟨b37, e38, h⟩ := h
  refine ⟨b37, e38, ?_⟩
  obtain ⟨c39, h⟩ := h
  refine ⟨c39, ?_⟩
  have n40 := k5_ne K c39
  obtain ⟨b41, e42, h⟩ := h
  refine ⟨b41, e42, ?_⟩
  obtain ⟨b43, e44, h⟩ := h
  refine ⟨b43, e44, ?_⟩
  obtain ⟨c45, h⟩ := h
  refine ⟨c45, ?_⟩
  have n46 := k5_ne K c45
  intro x48 e47
  have h := h x48 e47
  obtain ⟨c49, h⟩ := h
  refine ⟨c49, ?_⟩
  have n50 := k5_ne K c49
  obtain ⟨c51, h⟩ := h
  refine ⟨c51, ?_⟩
  intro x53 e52
  have h := h x53 e52
  have K := k5_A K e52 n50 (by decide)
  obtain ⟨b54, e55, h⟩ := h
  refine ⟨b54, e55, ?_⟩
  obtain ⟨c56, h⟩ := h
  refine ⟨c56, ?_⟩
  have n57 := k5_ne K c56
  intro x59 e58
  have h := h x59 e58
  intro x61 e60
  have h := h x61 e60
  intro x63 e62
  have h := h x63 e62
  have K := k5_I K e62 n57 (by decide)
  exact ⟨h, K⟩
theorem kg_X11_names {Q : HS → Prop} {v0 : Nat} {v1 : Int64} {v3 : Int32} {v4 : Int32} {S : HS} (h : P_X11_names v0 v1 v3 v4 Q S) : P_X11_names v0 v1 v3 v4 (fun T => Q T ∧ K5 S T) S := kg_X11_names_0 h (k5_rf S)
set_option maxRecDepth 20000 in
set_option maxHeartbeats 1000000 in
theorem kg_X11_size_0 {Q : Int32 → HS → Prop} {v0 : Nat} {v1 : Int32} {S0 S : HS} (h : P_X11_size_0 Q v0 v1 S) (K : K5 S0 S) : P_X11_size_0 (fun r T => Q r T ∧ K5 S0 T) v0 v1 S := by
  delta P_X11_size_0 at h ⊢
  obtain ⟨c1, h⟩ := h
  refine ⟨c1, ?_⟩
  have n2 := k5_ne K c1
  intro x4 e3
  have h := h x4 e3
  have K := k5_I K e3 n2 (by decide)
  refine ⟨?_, ?_⟩
  · intro c5
    have h := h.1 c5
    refine cm_X11_in (kg_X11_in h) h (fun x6 x7 hp h g8 g9 => ?_)
    have h := h g8 g9
    have K := k5_tr K hp.2
    refine ⟨?_, ?_⟩
    · intro c10
      have h := h.1 c10
      refine ⟨?_, ?_⟩
      · intro c11
        have h := h.1 c11
        exact ⟨h, K⟩
      · intro x12 c13
        have h := h.2 x12 c13
        refine ⟨?_, ?_, ?_, ?_, ?_, ?_, ?_, ?_, ?_, ?_, ?_⟩
        · intro c14
          have h := h.1 c14
          intro x16 e15
          have h := h x16 e15
          exact ⟨h, K⟩
        · intro c17
          have h := h.2.1 c17
          obtain ⟨b18, e19, h⟩ := h
          refine ⟨b18, e19, ?_⟩
          obtain ⟨c20, h⟩ := h
          refine ⟨c20, ?_⟩
          have n21 := k5_ne K c20
          intro x23 e22
          have h := h x23 e22
          exact ⟨h, K⟩
        · intro c24
          have h := h.2.2.1 c24
          obtain ⟨b25, e26, h⟩ := h
          refine ⟨b25, e26, ?_⟩
          obtain ⟨c27, h⟩ := h
          refine ⟨c27, ?_⟩
          have n28 := k5_ne K c27
          intro x30 e29
          have h := h x30 e29
          exact ⟨h, K⟩
        · intro c31
          have h := h.2.2.2.1 c31
          obtain ⟨b32, e33, h⟩ := h
          refine ⟨b32, e33, ?_⟩
          obtain ⟨c34, h⟩ := h
          refine ⟨c34, ?_⟩
          have n35 := k5_ne K c34
          intro x37 e36
          have h := h x37 e36
          exact ⟨h, K⟩
        · intro c38
          have h := h.2.2.2.2.1 c38
          obtain ⟨b39, e40, h⟩ := h
          refine ⟨b39, e40, ?_⟩
          obtain ⟨c41, h⟩ := h
          refine ⟨c41, ?_⟩
          have n42 := k5_ne K c41
          intro x44 e43
          have h := h x44 e43
          exact ⟨h, K⟩
        · intro c45
          have h := h.2.2.2.2.2.1 c45
          obtain ⟨b46, e47, h⟩ := h
          refine ⟨b46, e47, ?_⟩
          obtain ⟨c48, h⟩ := h
          refine ⟨c48, ?_⟩
          have n49 := k5_ne K c48
          intro x51 e50
          have h := h x51 e50
          exact ⟨h, K⟩
        · intro c52
          have h := h.2.2.2.2.2.2.1 c52
          obtain ⟨b53, e54, h⟩ := h
          refine ⟨b53, e54, ?_⟩
          obtain ⟨c55, h⟩ := h
          refine ⟨c55, ?_⟩
          have n56 := k5_ne K c55
          intro x58 e57
          have h := h x58 e57
          exact ⟨h, K⟩
        · intro c59
          have h := h.2.2.2.2.2.2.2.1 c59
          intro x61 e60
          have h := h x61 e60
          exact ⟨h, K⟩
        · intro c62
          have h := h.2.2.2.2.2.2.2.2.1 c62
          refine cm_X11_isDay (kg_X11_isDay h) h (fun x63 x64 hp h g65 g66 => ?_)
          have h := h g65 g66
          have K := k5_tr K hp.2
          refine ⟨?_, ?_⟩
          · intro c67
            have h := h.1 c67
            exact ⟨h, K⟩
          · intro c68
            have h := h.2 c68
            obtain ⟨b69, e70, h⟩ := h
            refine ⟨b69, e70, ?_⟩
            obtain ⟨c71, h⟩ := h
            refine ⟨c71, ?_⟩
            have n72 := k5_ne K c71
            obtain ⟨c73, h⟩ := h
            refine ⟨c73, ?_⟩
            intro x75 e74
            have h := h x75 e74
            exact ⟨h, K⟩
        · intro c76
          have h := h.2.2.2.2.2.2.2.2.2.1 c76
          refine cm_X11_isDay (kg_X11_isDay h) h (fun x77 x78 hp h g79 g80 => ?_)
          have h := h g79 g80
          have K := k5_tr K hp.2
          refine ⟨?_, ?_⟩
          · intro c81
            have h := h.1 c81
            exact ⟨h, K⟩
          · intro c82
            have h := h.2 c82
            obtain ⟨b83, e84, h⟩ := h
            refine ⟨b83, e84, ?_⟩
            obtain ⟨c85, h⟩ := h
            refine ⟨c85, ?_⟩
            have n86 := k5_ne K c85
            obtain ⟨c87, h⟩ := h
            refine ⟨c87, ?_⟩
            intro x89 e88
            have h := h x89 e88
            exact ⟨h, K⟩
        · intro c90
          have h := h.2.2.2.2.2.2.2.2.2.2 c90
          intro x92 e91
          have h := h x92 e91
          exact ⟨h, K⟩
    · intro c93
      have h := h.2 c93
      exact ⟨h, K⟩
  · intro c94
    have h := h.2 c94
    intro x96 e95
    have h := h x96 e95
    exact ⟨h, K⟩
theorem kg_X11_size {Q : Int32 → HS → Prop} {v0 : Nat} {v1 : Int32} {S : HS} (h : P_X11_size v0 v1 Q S) : P_X11_size v0 v1 (fun r T => Q r T ∧ K5 S T) S := kg_X11_size_0 h (k5_rf S)
set_option maxRecDepth 20000 in
set_option maxHeartbeats 1000000 in
theorem kg_X11_stepOf_117 {Q : Int32 → HS → Prop} {X9 X9_2 : Nat → Int32 → Int32 → Int32 → Int32 → HS → Prop} {v0 : Nat} {v4 : Int32} {v6 : Int32} {v7 : Int32} {s0 : Int32} {S0 S : HS} (h : P_X11_stepOf_117 Q X9 v0 v4 v6 v7 s0 S) (K : K5 S0 S) (hX9 : ∀ (u0 : Nat) (u1 : Int32) (u2 : Int32) (u3 : Int32) (u4 : Int32) (u5 : HS), X9 u0 u1 u2 u3 u4 u5 → K5 S0 u5 → X9_2 u0 u1 u2 u3 u4 u5) : P_X11_stepOf_117 (fun r T => Q r T ∧ K5 S0 T) X9_2 v0 v4 v6 v7 s0 S := by
  delta P_X11_stepOf_117 at h ⊢
  exact hX9 _ _ _ _ _ _ h K
set_option maxRecDepth 20000 in
set_option maxHeartbeats 1000000 in
theorem kg_X11_stepOf_82 {Q : Int32 → HS → Prop} {X9 X9_2 : Nat → Int32 → Int32 → Int32 → Int32 → HS → Prop} {v0 : Nat} {v4 : Int32} {v5 : Int32} {v7 : Int32} {v8 : Int32} {s0 : Int32} {s1 : Int32} {S0 S : HS} (h : P_X11_stepOf_82 Q X9 v0 v4 v5 v7 v8 s0 s1 S) (K : K5 S0 S) (hX9 : ∀ (u0 : Nat) (u1 : Int32) (u2 : Int32) (u3 : Int32) (u4 : Int32) (u5 : HS), X9 u0 u1 u2 u3 u4 u5 → K5 S0 u5 → X9_2 u0 u1 u2 u3 u4 u5) : P_X11_stepOf_82 (fun r T => Q r T ∧ K5 S0 T) X9_2 v0 v4 v5 v7 v8 s0 s1 S := by
  delta P_X11_stepOf_82 at h ⊢
  intro x2 e1
  have h := h x2 e1
  refine ⟨?_, ?_⟩
  · intro c3
    have h := h.1 c3
    obtain ⟨c4, h⟩ := h
    refine ⟨c4, ?_⟩
    have n5 := k5_ne K c4
    obtain ⟨b6, e7, h⟩ := h
    refine ⟨b6, e7, ?_⟩
    intro x9 e8
    have h := h x9 e8
    intro x11 e10
    have h := h x11 e10
    intro x13 e12
    have h := h x13 e12
    obtain ⟨c14, h⟩ := h
    refine ⟨c14, ?_⟩
    have n15 := k5_ne K c14
    refine cm_X10_ends (kg_X10_ends h) h (fun x16 x17 hp h g18 => ?_)
    have h := h g18
    have K := k5_tr K hp.2
    exact kg_X11_stepOf_117 h K hX9
  · intro c19
    have h := h.2 c19
    exact kg_X11_stepOf_117 h K hX9
set_option maxRecDepth 20000 in
set_option maxHeartbeats 1000000 in
theorem kgB_X11_stepOf_9 {Q : Int32 → HS → Prop} {X9 X9_2 : Nat → Int32 → Int32 → Int32 → Int32 → HS → Prop} {v0 : Nat} {v4 : Int32} {v5 : Int32} {v6 : Int32} {v7 : Int32} {S0 S : HS} (h : B_X11_stepOf_9 Q X9 v0 v4 v5 v6 v7 S) (K : K5 S0 S) (hX9 : ∀ (u0 : Nat) (u1 : Int32) (u2 : Int32) (u3 : Int32) (u4 : Int32) (u5 : HS), X9 u0 u1 u2 u3 u4 u5 → K5 S0 u5 → X9_2 u0 u1 u2 u3 u4 u5) : B_X11_stepOf_9 (fun r T => Q r T ∧ K5 S0 T) X9_2 v0 v4 v5 v6 v7 S := by
  delta B_X11_stepOf_9 at h ⊢
  obtain ⟨c1, h⟩ := h
  refine ⟨c1, ?_⟩
  have n2 := k5_ne K c1
  obtain ⟨b3, e4, h⟩ := h
  refine ⟨b3, e4, ?_⟩
  refine cm_X11_spotOf (kg_X11_spotOf h) h (fun x5 x6 hp h g7 => ?_)
  have h := h g7
  have K := k5_tr K hp.2
  obtain ⟨c8, h⟩ := h
  refine ⟨c8, ?_⟩
  have n9 := k5_ne K c8
  obtain ⟨c10, h⟩ := h
  refine ⟨c10, ?_⟩
  intro x12 e11
  have h := h x12 e11
  refine ⟨?_, ?_⟩
  · intro c13
    have h := h.1 c13
    refine ⟨?_, ?_⟩
    · intro c14
      have h := h.1 c14
      exact ⟨h, K⟩
    · intro c15
      have h := h.2 c15
      exact ⟨h, K⟩
  · intro c16
    have h := h.2 c16
    obtain ⟨b17, e18, h⟩ := h
    refine ⟨b17, e18, ?_⟩
    refine cm_X11_spotOf (kg_X11_spotOf h) h (fun x19 x20 hp h g21 => ?_)
    have h := h g21
    have K := k5_tr K hp.2
    obtain ⟨c22, h⟩ := h
    refine ⟨c22, ?_⟩
    have n23 := k5_ne K c22
    obtain ⟨c24, h⟩ := h
    refine ⟨c24, ?_⟩
    intro x26 e25
    have h := h x26 e25
    refine ⟨?_, ?_⟩
    · intro c27
      have h := h.1 c27
      intro x29 e28
      have h := h x29 e28
      refine ⟨?_, ?_⟩
      · intro c30
        have h := h.1 c30
        obtain ⟨b31, e32, h⟩ := h
        refine ⟨b31, e32, ?_⟩
        intro x34 e33
        have h := h x34 e33
        intro x36 e35
        have h := h x36 e35
        obtain ⟨c37, h⟩ := h
        refine ⟨c37, ?_⟩
        have n38 := k5_ne K c37
        refine cm_X10_minutes (kg_X10_minutes h) h (fun x39 x40 hp h g41 => ?_)
        have h := h g41
        have K := k5_tr K hp.2
        exact kg_X11_stepOf_82 h K hX9
      · intro c42
        have h := h.2 c42
        exact kg_X11_stepOf_82 h K hX9
    · intro c43
      have h := h.2 c43
      exact ⟨h, K⟩
theorem kg_X11_stepOf_9 {Q : Int32 → HS → Prop} {v0 : Nat} {v4 : Int32} {v5 : Int32} {v6 : Int32} {v7 : Int32} {S0 S : HS} (h : P_X11_stepOf_9 Q v0 v4 v5 v6 v7 S) (K : K5 S0 S) : P_X11_stepOf_9 (fun r T => Q r T ∧ K5 S0 T) v0 v4 v5 v6 v7 S := h (fun v0 v4 v5 v6 v7 S => K5 S0 S → P_X11_stepOf_9 (fun r T => Q r T ∧ K5 S0 T) v0 v4 v5 v6 v7 S) (fun v0 v4 v5 v6 v7 S hB K => fd_X11_stepOf_9 (kgB_X11_stepOf_9 hB K (fun _ _ _ _ _ _ hx K => hx K))) K
set_option maxRecDepth 20000 in
set_option maxHeartbeats 1000000 in
theorem kg_X11_stepOf_0 {Q : Int32 → HS → Prop} {v0 : Nat} {v2 : Int32} {v3 : Int32} {v4 : Int32} {S0 S : HS} (h : P_X11_stepOf_0 Q v0 v2 v3 v4 S) (K : K5 S0 S) : P_X11_stepOf_0 (fun r T => Q r T ∧ K5 S0 T) v0 v2 v3 v4 S := by
  delta P_X11_stepOf_0 at h ⊢
  exact kg_X11_stepOf_9 h K
theorem kg_X11_stepOf {Q : Int32 → HS → Prop} {v0 : Nat} {v1 : Int32} {v2 : Int32} {v3 : Int32} {v4 : Int32} {S : HS} (h : P_X11_stepOf v0 v1 v2 v3 v4 Q S) : P_X11_stepOf v0 v1 v2 v3 v4 (fun r T => Q r T ∧ K5 S T) S := kg_X11_stepOf_0 h (k5_rf S)
set_option maxRecDepth 20000 in
set_option maxHeartbeats 1000000 in
theorem kg_X11_trouble_0 {Q : Int32 → HS → Prop} {v0 : Nat} {S0 S : HS} (h : P_X11_trouble_0 Q v0 S) (K : K5 S0 S) : P_X11_trouble_0 (fun r T => Q r T ∧ K5 S0 T) v0 S := by
  delta P_X11_trouble_0 at h ⊢
  obtain ⟨c1, h⟩ := h
  refine ⟨c1, ?_⟩
  have n2 := k5_ne K c1
  intro x4 e3
  have h := h x4 e3
  have K := k5_I K e3 n2 (by decide)
  intro x6 e5
  have h := h x6 e5
  exact ⟨h, K⟩
theorem kg_X11_trouble {Q : Int32 → HS → Prop} {v0 : Nat} {S : HS} (h : P_X11_trouble v0 Q S) : P_X11_trouble v0 (fun r T => Q r T ∧ K5 S T) S := kg_X11_trouble_0 h (k5_rf S)
set_option maxRecDepth 20000 in
set_option maxHeartbeats 1000000 in
theorem kg_X11_where_0 {Q : Int32 → HS → Prop} {v0 : Nat} {S0 S : HS} (h : P_X11_where_0 Q v0 S) (K : K5 S0 S) : P_X11_where_0 (fun r T => Q r T ∧ K5 S0 T) v0 S := by
  delta P_X11_where_0 at h ⊢
  obtain ⟨c1, h⟩ := h
  refine ⟨c1, ?_⟩
  have n2 := k5_ne K c1
  intro x4 e3
  have h := h x4 e3
  have K := k5_I K e3 n2 (by decide)
  intro x6 e5
  have h := h x6 e5
  exact ⟨h, K⟩
theorem kg_X11_where {Q : Int32 → HS → Prop} {v0 : Nat} {S : HS} (h : P_X11_where v0 Q S) : P_X11_where v0 (fun r T => Q r T ∧ K5 S T) S := kg_X11_where_0 h (k5_rf S)
set_option maxRecDepth 20000 in
set_option maxHeartbeats 1000000 in
theorem kg_X5_turnOf_17 {Q : Int32 → HS → Prop} {v2 : Nat} {s0 : Int32} {S0 S : HS} (h : P_X5_turnOf_17 Q v2 s0 S) (K : K5 S0 S) : P_X5_turnOf_17 (fun r T => Q r T ∧ K5 S0 T) v2 s0 S := by
  delta P_X5_turnOf_17 at h ⊢
  obtain ⟨c1, h⟩ := h
  refine ⟨c1, ?_⟩
  have n2 := k5_ne K c1
  intro x4 e3
  have h := h x4 e3
  exact ⟨h, K⟩
set_option maxRecDepth 20000 in
set_option maxHeartbeats 1000000 in
theorem kg_X5_turnOf_0 {Q : Int32 → HS → Prop} {v0 : Nat} {v1 : Int32} {v2 : Nat} {S0 S : HS} (h : P_X5_turnOf_0 Q v0 v1 v2 S) (K : K5 S0 S) : P_X5_turnOf_0 (fun r T => Q r T ∧ K5 S0 T) v0 v1 v2 S := by
  delta P_X5_turnOf_0 at h ⊢
  refine ⟨?_, ?_⟩
  · intro c1
    have h := h.1 c1
    obtain ⟨c2, h⟩ := h
    refine ⟨c2, ?_⟩
    have n3 := k5_ne K c2
    intro x5 e4
    have h := h x5 e4
    exact kg_X5_turnOf_17 h K
  · intro c6
    have h := h.2 c6
    obtain ⟨c7, h⟩ := h
    refine ⟨c7, ?_⟩
    have n8 := k5_ne K c7
    intro x10 e9
    have h := h x10 e9
    exact kg_X5_turnOf_17 h K
theorem kg_X5_turnOf {Q : Int32 → HS → Prop} {v0 : Nat} {v1 : Int32} {v2 : Nat} {S : HS} (h : P_X5_turnOf v0 v1 v2 Q S) : P_X5_turnOf v0 v1 v2 (fun r T => Q r T ∧ K5 S T) S := kg_X5_turnOf_0 h (k5_rf S)
set_option maxRecDepth 20000 in
set_option maxHeartbeats 1000000 in
theorem kg_X5_airAlong_0 {Q : Int32 → HS → Prop} {v0 : Nat} {v1 : Int32} {v2 : Nat} {S0 S : HS} (h : P_X5_airAlong_0 Q v0 v1 v2 S) (K : K5 S0 S) : P_X5_airAlong_0 (fun r T => Q r T ∧ K5 S0 T) v0 v1 v2 S := by
  delta P_X5_airAlong_0 at h ⊢
  obtain ⟨c1, h⟩ := h
  refine ⟨c1, ?_⟩
  have n2 := k5_ne K c1
  refine cm_X5_turnOf (kg_X5_turnOf h) h (fun x3 x4 hp h g5 => ?_)
  have h := h g5
  have K := k5_tr K hp.2
  refine ⟨?_, ?_⟩
  · intro c6
    have h := h.1 c6
    refine ⟨?_, ?_⟩
    · intro c7
      have h := h.1 c7
      exact ⟨h, K⟩
    · intro c8
      have h := h.2 c8
      obtain ⟨c9, h⟩ := h
      refine ⟨c9, ?_⟩
      have n10 := k5_ne K c9
      intro x12 e11
      have h := h x12 e11
      exact ⟨h, K⟩
  · intro c13
    have h := h.2 c13
    obtain ⟨c14, h⟩ := h
    refine ⟨c14, ?_⟩
    have n15 := k5_ne K c14
    intro x17 e16
    have h := h x17 e16
    exact ⟨h, K⟩
theorem kg_X5_airAlong {Q : Int32 → HS → Prop} {v0 : Nat} {v1 : Int32} {v2 : Nat} {S : HS} (h : P_X5_airAlong v0 v1 v2 Q S) : P_X5_airAlong v0 v1 v2 (fun r T => Q r T ∧ K5 S T) S := kg_X5_airAlong_0 h (k5_rf S)
set_option maxRecDepth 20000 in
set_option maxHeartbeats 1000000 in
theorem kg_X1_lay_130 {Q : HS → Prop} {v0 : Nat} {v3 : Nat} {v7 : Int64} {v9 : Int32} {s0 : Nat} {s1 : Int32} {s2 : Int64} {S0 S : HS} (h : P_X1_lay_130 Q v0 v3 v7 v9 s0 s1 s2 S) (K : K5 S0 S) : P_X1_lay_130 (fun T => Q T ∧ K5 S0 T) v0 v3 v7 v9 s0 s1 s2 S := by
  delta P_X1_lay_130 at h ⊢
  obtain ⟨c1, h⟩ := h
  refine ⟨c1, ?_⟩
  have n2 := k5_ne K c1
  obtain ⟨c3, h⟩ := h
  refine ⟨c3, ?_⟩
  intro x5 e4
  have h := h x5 e4
  have K := k5_J K e4
  obtain ⟨c6, h⟩ := h
  refine ⟨c6, ?_⟩
  have n7 := k5_ne K c6
  obtain ⟨b8, e9, h⟩ := h
  refine ⟨b8, e9, ?_⟩
  refine ⟨?_, ?_⟩
  · intro c10
    have h := h.1 c10
    obtain ⟨c11, h⟩ := h
    refine ⟨c11, ?_⟩
    have n12 := k5_ne K c11
    obtain ⟨c13, h⟩ := h
    refine ⟨c13, ?_⟩
    intro x15 e14
    have h := h x15 e14
    have K := k5_J K e14
    exact ⟨h, K⟩
  · intro c16
    have h := h.2 c16
    obtain ⟨c17, h⟩ := h
    refine ⟨c17, ?_⟩
    have n18 := k5_ne K c17
    intro x20 e19
    have h := h x20 e19
    obtain ⟨c21, h⟩ := h
    refine ⟨c21, ?_⟩
    have n22 := k5_ne K c21
    intro x24 e23
    have h := h x24 e23
    obtain ⟨c25, h⟩ := h
    refine ⟨c25, ?_⟩
    intro x27 e26
    have h := h x27 e26
    have K := k5_J K e26
    exact ⟨h, K⟩
set_option maxRecDepth 20000 in
set_option maxHeartbeats 1000000 in
theorem kg_X1_lay_27 {Q : HS → Prop} {v0 : Nat} {v1 : Nat} {v2 : Int32} {v3 : Nat} {v4 : Int32} {s0 : Int64} {S0 S : HS} (h : P_X1_lay_27 Q v0 v1 v2 v3 v4 s0 S) (K : K5 S0 S) : P_X1_lay_27 (fun T => Q T ∧ K5 S0 T) v0 v1 v2 v3 v4 s0 S := by
  delta P_X1_lay_27 at h ⊢
  obtain ⟨c1, h⟩ := h
  refine ⟨c1, ?_⟩
  have n2 := k5_ne K c1
  intro x4 e3
  have h := h x4 e3
  intro x6 e5
  have h := h x6 e5
  obtain ⟨c7, h⟩ := h
  refine ⟨c7, ?_⟩
  have n8 := k5_ne K c7
  refine cm_X5_turnOf (kg_X5_turnOf h) h (fun x9 x10 hp h g11 => ?_)
  have h := h g11
  have K := k5_tr K hp.2
  refine cm_X5_airAlong (kg_X5_airAlong h) h (fun x12 x13 hp h g14 => ?_)
  have h := h g14
  have K := k5_tr K hp.2
  obtain ⟨c15, h⟩ := h
  refine ⟨c15, ?_⟩
  have n16 := k5_ne K c15
  obtain ⟨b17, e18, h⟩ := h
  refine ⟨b17, e18, ?_⟩
  intro x20 e19
  have h := h x20 e19
  obtain ⟨c21, h⟩ := h
  refine ⟨c21, ?_⟩
  have n22 := k5_ne K c21
  intro x24 e23
  have h := h x24 e23
  obtain ⟨c25, h⟩ := h
  refine ⟨c25, ?_⟩
  intro x27 e26
  have h := h x27 e26
  have K := k5_J K e26
  obtain ⟨b28, e29, h⟩ := h
  refine ⟨b28, e29, ?_⟩
  intro x31 e30
  have h := h x31 e30
  obtain ⟨c32, h⟩ := h
  refine ⟨c32, ?_⟩
  have n33 := k5_ne K c32
  intro x35 e34
  have h := h x35 e34
  obtain ⟨c36, h⟩ := h
  refine ⟨c36, ?_⟩
  intro x38 e37
  have h := h x38 e37
  have K := k5_J K e37
  obtain ⟨b39, e40, h⟩ := h
  refine ⟨b39, e40, ?_⟩
  intro x42 e41
  have h := h x42 e41
  obtain ⟨c43, h⟩ := h
  refine ⟨c43, ?_⟩
  have n44 := k5_ne K c43
  intro x46 e45
  have h := h x46 e45
  obtain ⟨c47, h⟩ := h
  refine ⟨c47, ?_⟩
  intro x49 e48
  have h := h x49 e48
  have K := k5_J K e48
  obtain ⟨b50, e51, h⟩ := h
  refine ⟨b50, e51, ?_⟩
  refine ⟨?_, ?_⟩
  · intro c52
    have h := h.1 c52
    exact kg_X1_lay_130 h K
  · intro c53
    have h := h.2 c53
    intro x55 e54
    have h := h x55 e54
    exact kg_X1_lay_130 h K
set_option maxRecDepth 20000 in
set_option maxHeartbeats 1000000 in
theorem kg_X1_lay_0 {Q : HS → Prop} {v0 : Nat} {v1 : Nat} {v2 : Int32} {v3 : Nat} {v4 : Int32} {S0 S : HS} (h : P_X1_lay_0 Q v0 v1 v2 v3 v4 S) (K : K5 S0 S) : P_X1_lay_0 (fun T => Q T ∧ K5 S0 T) v0 v1 v2 v3 v4 S := by
  delta P_X1_lay_0 at h ⊢
  refine ⟨?_, ?_⟩
  · intro c1
    have h := h.1 c1
    exact kg_X1_lay_27 h K
  · intro c2
    have h := h.2 c2
    obtain ⟨c3, h⟩ := h
    refine ⟨c3, ?_⟩
    have n4 := k5_ne K c3
    intro x6 e5
    have h := h x6 e5
    intro x8 e7
    have h := h x8 e7
    obtain ⟨c9, h⟩ := h
    refine ⟨c9, ?_⟩
    intro x11 e10
    have h := h x11 e10
    exact kg_X1_lay_27 h K
theorem kg_X1_lay {Q : HS → Prop} {v0 : Nat} {v1 : Nat} {v2 : Int32} {v3 : Nat} {v4 : Int32} {S : HS} (h : P_X1_lay v0 v1 v2 v3 v4 Q S) : P_X1_lay v0 v1 v2 v3 v4 (fun T => Q T ∧ K5 S T) S := kg_X1_lay_0 h (k5_rf S)
set_option maxRecDepth 20000 in
set_option maxHeartbeats 1000000 in
theorem kg_X6_shield_0 {Q : Int32 → HS → Prop} {v0 : Nat} {S0 S : HS} (h : P_X6_shield_0 Q v0 S) (K : K5 S0 S) : P_X6_shield_0 (fun r T => Q r T ∧ K5 S0 T) v0 S := by
  delta P_X6_shield_0 at h ⊢
  obtain ⟨c1, h⟩ := h
  refine ⟨c1, ?_⟩
  have n2 := k5_ne K c1
  intro x4 e3
  have h := h x4 e3
  refine ⟨?_, ?_⟩
  · intro c5
    have h := h.1 c5
    exact ⟨h, K⟩
  · intro c6
    have h := h.2 c6
    intro x8 e7
    have h := h x8 e7
    exact ⟨h, K⟩
theorem kg_X6_shield {Q : Int32 → HS → Prop} {v0 : Nat} {S : HS} (h : P_X6_shield v0 Q S) : P_X6_shield v0 (fun r T => Q r T ∧ K5 S T) S := kg_X6_shield_0 h (k5_rf S)
set_option maxRecDepth 20000 in
set_option maxHeartbeats 1000000 in
theorem kg_X1_isForward_0 {Q : Int32 → HS → Prop} {v0 : Nat} {v1 : Nat} {S0 S : HS} (h : P_X1_isForward_0 Q v0 v1 S) (K : K5 S0 S) : P_X1_isForward_0 (fun r T => Q r T ∧ K5 S0 T) v0 v1 S := by
  delta P_X1_isForward_0 at h ⊢
  obtain ⟨c1, h⟩ := h
  refine ⟨c1, ?_⟩
  have n2 := k5_ne K c1
  obtain ⟨b3, e4, h⟩ := h
  refine ⟨b3, e4, ?_⟩
  obtain ⟨c5, h⟩ := h
  refine ⟨c5, ?_⟩
  have n6 := k5_ne K c5
  obtain ⟨c7, h⟩ := h
  refine ⟨c7, ?_⟩
  intro x9 e8
  have h := h x9 e8
  obtain ⟨c10, h⟩ := h
  refine ⟨c10, ?_⟩
  have n11 := k5_ne K c10
  refine cm_X6_shield (kg_X6_shield h) h (fun x12 x13 hp h g14 => ?_)
  have h := h g14
  have K := k5_tr K hp.2
  intro x16 e15
  have h := h x16 e15
  intro x18 e17
  have h := h x18 e17
  intro x20 e19
  have h := h x20 e19
  obtain ⟨b21, e22, h⟩ := h
  refine ⟨b21, e22, ?_⟩
  obtain ⟨c23, h⟩ := h
  refine ⟨c23, ?_⟩
  have n24 := k5_ne K c23
  obtain ⟨c25, h⟩ := h
  refine ⟨c25, ?_⟩
  intro x27 e26
  have h := h x27 e26
  refine cm_X6_shield (kg_X6_shield h) h (fun x28 x29 hp h g30 => ?_)
  have h := h g30
  have K := k5_tr K hp.2
  intro x32 e31
  have h := h x32 e31
  intro x34 e33
  have h := h x34 e33
  intro x36 e35
  have h := h x36 e35
  refine ⟨?_, ?_⟩
  · intro c37
    have h := h.1 c37
    exact ⟨h, K⟩
  · intro c38
    have h := h.2 c38
    exact ⟨h, K⟩
theorem kg_X1_isForward {Q : Int32 → HS → Prop} {v0 : Nat} {v1 : Nat} {S : HS} (h : P_X1_isForward v0 v1 Q S) : P_X1_isForward v0 v1 (fun r T => Q r T ∧ K5 S T) S := kg_X1_isForward_0 h (k5_rf S)
set_option maxRecDepth 20000 in
set_option maxHeartbeats 1000000 in
theorem kg_X1_soak_35 {Q : Int64 → HS → Prop} {v0 : Nat} {v1 : Nat} {v2 : Int32} {v3 : Int32} {v5 : Int32} {s0 : Int32} {S0 S : HS} (h : P_X1_soak_35 Q v0 v1 v2 v3 v5 s0 S) (K : K5 S0 S) : P_X1_soak_35 (fun r T => Q r T ∧ K5 S0 T) v0 v1 v2 v3 v5 s0 S := by
  delta P_X1_soak_35 at h ⊢
  obtain ⟨c1, h⟩ := h
  refine ⟨c1, ?_⟩
  have n2 := k5_ne K c1
  obtain ⟨b3, e4, h⟩ := h
  refine ⟨b3, e4, ?_⟩
  obtain ⟨b5, e6, h⟩ := h
  refine ⟨b5, e6, ?_⟩
  obtain ⟨c7, h⟩ := h
  refine ⟨c7, ?_⟩
  have n8 := k5_ne K c7
  obtain ⟨c9, h⟩ := h
  refine ⟨c9, ?_⟩
  intro x11 e10
  have h := h x11 e10
  obtain ⟨c12, h⟩ := h
  refine ⟨c12, ?_⟩
  have n13 := k5_ne K c12
  intro x15 e14
  have h := h x15 e14
  intro x17 e16
  have h := h x17 e16
  obtain ⟨c18, h⟩ := h
  refine ⟨c18, ?_⟩
  have n19 := k5_ne K c18
  intro x21 e20
  have h := h x21 e20
  obtain ⟨c22, h⟩ := h
  refine ⟨c22, ?_⟩
  intro x24 e23
  have h := h x24 e23
  have K := k5_J K e23
  obtain ⟨b25, e26, h⟩ := h
  refine ⟨b25, e26, ?_⟩
  obtain ⟨b27, e28, h⟩ := h
  refine ⟨b27, e28, ?_⟩
  obtain ⟨c29, h⟩ := h
  refine ⟨c29, ?_⟩
  have n30 := k5_ne K c29
  obtain ⟨c31, h⟩ := h
  refine ⟨c31, ?_⟩
  intro x33 e32
  have h := h x33 e32
  intro x35 e34
  have h := h x35 e34
  intro x37 e36
  have h := h x37 e36
  obtain ⟨c38, h⟩ := h
  refine ⟨c38, ?_⟩
  have n39 := k5_ne K c38
  intro x41 e40
  have h := h x41 e40
  obtain ⟨c42, h⟩ := h
  refine ⟨c42, ?_⟩
  intro x44 e43
  have h := h x44 e43
  have K := k5_J K e43
  obtain ⟨b45, e46, h⟩ := h
  refine ⟨b45, e46, ?_⟩
  obtain ⟨b47, e48, h⟩ := h
  refine ⟨b47, e48, ?_⟩
  obtain ⟨c49, h⟩ := h
  refine ⟨c49, ?_⟩
  have n50 := k5_ne K c49
  obtain ⟨c51, h⟩ := h
  refine ⟨c51, ?_⟩
  intro x53 e52
  have h := h x53 e52
  intro x55 e54
  have h := h x55 e54
  intro x57 e56
  have h := h x57 e56
  obtain ⟨c58, h⟩ := h
  refine ⟨c58, ?_⟩
  have n59 := k5_ne K c58
  intro x61 e60
  have h := h x61 e60
  obtain ⟨c62, h⟩ := h
  refine ⟨c62, ?_⟩
  intro x64 e63
  have h := h x64 e63
  have K := k5_J K e63
  obtain ⟨b65, e66, h⟩ := h
  refine ⟨b65, e66, ?_⟩
  obtain ⟨b67, e68, h⟩ := h
  refine ⟨b67, e68, ?_⟩
  obtain ⟨c69, h⟩ := h
  refine ⟨c69, ?_⟩
  have n70 := k5_ne K c69
  obtain ⟨c71, h⟩ := h
  refine ⟨c71, ?_⟩
  intro x73 e72
  have h := h x73 e72
  intro x75 e74
  have h := h x75 e74
  obtain ⟨c76, h⟩ := h
  refine ⟨c76, ?_⟩
  have n77 := k5_ne K c76
  intro x79 e78
  have h := h x79 e78
  obtain ⟨c80, h⟩ := h
  refine ⟨c80, ?_⟩
  intro x82 e81
  have h := h x82 e81
  have K := k5_J K e81
  obtain ⟨b83, e84, h⟩ := h
  refine ⟨b83, e84, ?_⟩
  obtain ⟨b85, e86, h⟩ := h
  refine ⟨b85, e86, ?_⟩
  obtain ⟨c87, h⟩ := h
  refine ⟨c87, ?_⟩
  have n88 := k5_ne K c87
  obtain ⟨c89, h⟩ := h
  refine ⟨c89, ?_⟩
  intro x91 e90
  have h := h x91 e90
  intro x93 e92
  have h := h x93 e92
  obtain ⟨c94, h⟩ := h
  refine ⟨c94, ?_⟩
  have n95 := k5_ne K c94
  intro x97 e96
  have h := h x97 e96
  obtain ⟨c98, h⟩ := h
  refine ⟨c98, ?_⟩
  intro x100 e99
  have h := h x100 e99
  have K := k5_J K e99
  obtain ⟨b101, e102, h⟩ := h
  refine ⟨b101, e102, ?_⟩
  obtain ⟨c103, h⟩ := h
  refine ⟨c103, ?_⟩
  have n104 := k5_ne K c103
  obtain ⟨c105, h⟩ := h
  refine ⟨c105, ?_⟩
  intro x107 e106
  have h := h x107 e106
  obtain ⟨b108, e109, h⟩ := h
  refine ⟨b108, e109, ?_⟩
  obtain ⟨c110, h⟩ := h
  refine ⟨c110, ?_⟩
  have n111 := k5_ne K c110
  obtain ⟨c112, h⟩ := h
  refine ⟨c112, ?_⟩
  intro x114 e113
  have h := h x114 e113
  obtain ⟨b115, e116, h⟩ := h
  refine ⟨b115, e116, ?_⟩
  obtain ⟨c117, h⟩ := h
  refine ⟨c117, ?_⟩
  have n118 := k5_ne K c117
  obtain ⟨c119, h⟩ := h
  refine ⟨c119, ?_⟩
  intro x121 e120
  have h := h x121 e120
  obtain ⟨b122, e123, h⟩ := h
  refine ⟨b122, e123, ?_⟩
  obtain ⟨c124, h⟩ := h
  refine ⟨c124, ?_⟩
  have n125 := k5_ne K c124
  obtain ⟨c126, h⟩ := h
  refine ⟨c126, ?_⟩
  intro x128 e127
  have h := h x128 e127
  obtain ⟨b129, e130, h⟩ := h
  refine ⟨b129, e130, ?_⟩
  obtain ⟨c131, h⟩ := h
  refine ⟨c131, ?_⟩
  have n132 := k5_ne K c131
  obtain ⟨c133, h⟩ := h
  refine ⟨c133, ?_⟩
  intro x135 e134
  have h := h x135 e134
  exact ⟨h, K⟩
set_option maxRecDepth 20000 in
set_option maxHeartbeats 1000000 in
theorem kg_X1_soak_20 {Q : Int64 → HS → Prop} {v0 : Nat} {v1 : Nat} {v2 : Int32} {v3 : Int32} {v4 : Int32} {s0 : Int32} {S0 S : HS} (h : P_X1_soak_20 Q v0 v1 v2 v3 v4 s0 S) (K : K5 S0 S) : P_X1_soak_20 (fun r T => Q r T ∧ K5 S0 T) v0 v1 v2 v3 v4 s0 S := by
  delta P_X1_soak_20 at h ⊢
  refine ⟨?_, ?_⟩
  · intro c1
    have h := h.1 c1
    exact kg_X1_soak_35 h K
  · intro c2
    have h := h.2 c2
    obtain ⟨c3, h⟩ := h
    refine ⟨c3, ?_⟩
    have n4 := k5_ne K c3
    refine cm_X6_shield (kg_X6_shield h) h (fun x5 x6 hp h g7 => ?_)
    have h := h g7
    have K := k5_tr K hp.2
    exact kg_X1_soak_35 h K
set_option maxRecDepth 20000 in
set_option maxHeartbeats 1000000 in
theorem kg_X1_soak_0 {Q : Int64 → HS → Prop} {v0 : Nat} {v1 : Nat} {v2 : Int32} {v3 : Int32} {S0 S : HS} (h : P_X1_soak_0 Q v0 v1 v2 v3 S) (K : K5 S0 S) : P_X1_soak_0 (fun r T => Q r T ∧ K5 S0 T) v0 v1 v2 v3 S := by
  delta P_X1_soak_0 at h ⊢
  obtain ⟨c1, h⟩ := h
  refine ⟨c1, ?_⟩
  have n2 := k5_ne K c1
  refine cm_X1_isForward (kg_X1_isForward h) h (fun x3 x4 hp h g5 g6 => ?_)
  have h := h g5 g6
  have K := k5_tr K hp.2
  refine ⟨?_, ?_⟩
  · intro c7
    have h := h.1 c7
    obtain ⟨c8, h⟩ := h
    refine ⟨c8, ?_⟩
    have n9 := k5_ne K c8
    refine cm_X6_shield (kg_X6_shield h) h (fun x10 x11 hp h g12 => ?_)
    have h := h g12
    have K := k5_tr K hp.2
    exact kg_X1_soak_20 h K
  · intro c13
    have h := h.2 c13
    exact kg_X1_soak_20 h K
theorem kg_X1_soak {Q : Int64 → HS → Prop} {v0 : Nat} {v1 : Nat} {v2 : Int32} {v3 : Int32} {S : HS} (h : P_X1_soak v0 v1 v2 v3 Q S) : P_X1_soak v0 v1 v2 v3 (fun r T => Q r T ∧ K5 S T) S := kg_X1_soak_0 h (k5_rf S)
set_option maxRecDepth 20000 in
set_option maxHeartbeats 1000000 in
theorem kg_X1_wetOf_0 {Q : Int64 → HS → Prop} {v0 : Nat} {v1 : Nat} {v2 : Nat} {v3 : Int32} {v4 : Nat} {v5 : Int32} {S0 S : HS} (h : P_X1_wetOf_0 Q v0 v1 v2 v3 v4 v5 S) (K : K5 S0 S) : P_X1_wetOf_0 (fun r T => Q r T ∧ K5 S0 T) v0 v1 v2 v3 v4 v5 S := by
  delta P_X1_wetOf_0 at h ⊢
  obtain ⟨c1, h⟩ := h
  refine ⟨c1, ?_⟩
  have n2 := k5_ne K c1
  refine cm_X1_lay (kg_X1_lay h) h (fun x3 hp h g4 => ?_)
  have h := h g4
  have K := k5_tr K hp.2
  refine cm_X1_soak (kg_X1_soak h) h (fun x5 x6 hp h g7 => ?_)
  have h := h g7
  have K := k5_tr K hp.2
  exact ⟨h, K⟩
theorem kg_X1_wetOf {Q : Int64 → HS → Prop} {v0 : Nat} {v1 : Nat} {v2 : Nat} {v3 : Int32} {v4 : Nat} {v5 : Int32} {S : HS} (h : P_X1_wetOf v0 v1 v2 v3 v4 v5 Q S) : P_X1_wetOf v0 v1 v2 v3 v4 v5 (fun r T => Q r T ∧ K5 S T) S := kg_X1_wetOf_0 h (k5_rf S)
set_option maxRecDepth 20000 in
set_option maxHeartbeats 1000000 in
theorem kg_X1_bestSpeed_55 {Q : Int32 → HS → Prop} {X17 X17_2 : Nat → Nat → Nat → Int32 → Nat → Int32 → Int64 → Int32 → HS → Prop} {v0 : Nat} {v1 : Nat} {v2 : Nat} {v3 : Int32} {v4 : Nat} {v5 : Int32} {v6 : Int64} {v8 : Int32} {S0 S : HS} (h : P_X1_bestSpeed_55 Q X17 v0 v1 v2 v3 v4 v5 v6 v8 S) (K : K5 S0 S) (hX17 : ∀ (u0 : Nat) (u1 : Nat) (u2 : Nat) (u3 : Int32) (u4 : Nat) (u5 : Int32) (u6 : Int64) (u7 : Int32) (u8 : HS), X17 u0 u1 u2 u3 u4 u5 u6 u7 u8 → K5 S0 u8 → X17_2 u0 u1 u2 u3 u4 u5 u6 u7 u8) : P_X1_bestSpeed_55 (fun r T => Q r T ∧ K5 S0 T) X17_2 v0 v1 v2 v3 v4 v5 v6 v8 S := by
  delta P_X1_bestSpeed_55 at h ⊢
  intro x2 e1
  have h := h x2 e1
  exact hX17 _ _ _ _ _ _ _ _ _ h K
set_option maxRecDepth 20000 in
set_option maxHeartbeats 1000000 in
theorem kgB_X1_bestSpeed_17 {Q : Int32 → HS → Prop} {X17 X17_2 : Nat → Nat → Nat → Int32 → Nat → Int32 → Int64 → Int32 → HS → Prop} {v0 : Nat} {v1 : Nat} {v2 : Nat} {v3 : Int32} {v4 : Nat} {v5 : Int32} {v6 : Int64} {v8 : Int32} {S0 S : HS} (h : B_X1_bestSpeed_17 Q X17 v0 v1 v2 v3 v4 v5 v6 v8 S) (K : K5 S0 S) (hX17 : ∀ (u0 : Nat) (u1 : Nat) (u2 : Nat) (u3 : Int32) (u4 : Nat) (u5 : Int32) (u6 : Int64) (u7 : Int32) (u8 : HS), X17 u0 u1 u2 u3 u4 u5 u6 u7 u8 → K5 S0 u8 → X17_2 u0 u1 u2 u3 u4 u5 u6 u7 u8) : B_X1_bestSpeed_17 (fun r T => Q r T ∧ K5 S0 T) X17_2 v0 v1 v2 v3 v4 v5 v6 v8 S := by
  delta B_X1_bestSpeed_17 at h ⊢
  obtain ⟨c1, h⟩ := h
  refine ⟨c1, ?_⟩
  have n2 := k5_ne K c1
  intro x4 e3
  have h := h x4 e3
  refine ⟨?_, ?_⟩
  · intro c5
    have h := h.1 c5
    exact ⟨h, K⟩
  · intro c6
    have h := h.2 c6
    obtain ⟨c7, h⟩ := h
    refine ⟨c7, ?_⟩
    have n8 := k5_ne K c7
    refine cm_X1_wetOf (kg_X1_wetOf h) h (fun x9 x10 hp h g11 => ?_)
    have h := h g11
    have K := k5_tr K hp.2
    refine ⟨?_, ?_⟩
    · intro c12
      have h := h.1 c12
      exact kg_X1_bestSpeed_55 h K hX17
    · intro c13
      have h := h.2 c13
      exact kg_X1_bestSpeed_55 h K hX17
theorem kg_X1_bestSpeed_17 {Q : Int32 → HS → Prop} {v0 : Nat} {v1 : Nat} {v2 : Nat} {v3 : Int32} {v4 : Nat} {v5 : Int32} {v6 : Int64} {v8 : Int32} {S0 S : HS} (h : P_X1_bestSpeed_17 Q v0 v1 v2 v3 v4 v5 v6 v8 S) (K : K5 S0 S) : P_X1_bestSpeed_17 (fun r T => Q r T ∧ K5 S0 T) v0 v1 v2 v3 v4 v5 v6 v8 S := h (fun v0 v1 v2 v3 v4 v5 v6 v8 S => K5 S0 S → P_X1_bestSpeed_17 (fun r T => Q r T ∧ K5 S0 T) v0 v1 v2 v3 v4 v5 v6 v8 S) (fun v0 v1 v2 v3 v4 v5 v6 v8 S hB K => fd_X1_bestSpeed_17 (kgB_X1_bestSpeed_17 hB K (fun _ _ _ _ _ _ _ _ _ hx K => hx K))) K
set_option maxRecDepth 20000 in
set_option maxHeartbeats 1000000 in
theorem kg_X1_bestSpeed_0 {Q : Int32 → HS → Prop} {v0 : Nat} {v1 : Nat} {v2 : Nat} {v3 : Int32} {v4 : Nat} {S0 S : HS} (h : P_X1_bestSpeed_0 Q v0 v1 v2 v3 v4 S) (K : K5 S0 S) : P_X1_bestSpeed_0 (fun r T => Q r T ∧ K5 S0 T) v0 v1 v2 v3 v4 S := by
  delta P_X1_bestSpeed_0 at h ⊢
  obtain ⟨c1, h⟩ := h
  refine ⟨c1, ?_⟩
  have n2 := k5_ne K c1
  intro x4 e3
  have h := h x4 e3
  intro x6 e5
  have h := h x6 e5
  exact kg_X1_bestSpeed_17 h K
theorem kg_X1_bestSpeed {Q : Int32 → HS → Prop} {v0 : Nat} {v1 : Nat} {v2 : Nat} {v3 : Int32} {v4 : Nat} {S : HS} (h : P_X1_bestSpeed v0 v1 v2 v3 v4 Q S) : P_X1_bestSpeed v0 v1 v2 v3 v4 (fun r T => Q r T ∧ K5 S T) S := kg_X1_bestSpeed_0 h (k5_rf S)
set_option maxRecDepth 20000 in
set_option maxHeartbeats 1000000 in
theorem kg_X1_legsOf_0 {Q : Int32 → HS → Prop} {v0 : Nat} {S0 S : HS} (h : P_X1_legsOf_0 Q v0 S) (K : K5 S0 S) : P_X1_legsOf_0 (fun r T => Q r T ∧ K5 S0 T) v0 S := by
  delta P_X1_legsOf_0 at h ⊢
  obtain ⟨c1, h⟩ := h
  refine ⟨c1, ?_⟩
  have n2 := k5_ne K c1
  intro x4 e3
  have h := h x4 e3
  intro x6 e5
  have h := h x6 e5
  exact ⟨h, K⟩
theorem kg_X1_legsOf {Q : Int32 → HS → Prop} {v0 : Nat} {S : HS} (h : P_X1_legsOf v0 Q S) : P_X1_legsOf v0 (fun r T => Q r T ∧ K5 S T) S := kg_X1_legsOf_0 h (k5_rf S)
set_option maxRecDepth 20000 in
set_option maxHeartbeats 1000000 in
theorem kg_X6_canGo_0 {Q : Int32 → HS → Prop} {v0 : Nat} {v1 : Int32} {S0 S : HS} (h : P_X6_canGo_0 Q v0 v1 S) (K : K5 S0 S) : P_X6_canGo_0 (fun r T => Q r T ∧ K5 S0 T) v0 v1 S := by
  delta P_X6_canGo_0 at h ⊢
  obtain ⟨c1, h⟩ := h
  refine ⟨c1, ?_⟩
  have n2 := k5_ne K c1
  intro x4 e3
  have h := h x4 e3
  refine ⟨?_, ?_⟩
  · intro c5
    have h := h.1 c5
    exact ⟨h, K⟩
  · intro c6
    have h := h.2 c6
    intro x8 e7
    have h := h x8 e7
    refine ⟨?_, ?_⟩
    · intro c9
      have h := h.1 c9
      exact ⟨h, K⟩
    · intro c10
      have h := h.2 c10
      refine ⟨?_, ?_⟩
      · intro c11
        have h := h.1 c11
        exact ⟨h, K⟩
      · intro c12
        have h := h.2 c12
        refine ⟨?_, ?_⟩
        · intro c13
          have h := h.1 c13
          exact ⟨h, K⟩
        · intro c14
          have h := h.2 c14
          exact ⟨h, K⟩
theorem kg_X6_canGo {Q : Int32 → HS → Prop} {v0 : Nat} {v1 : Int32} {S : HS} (h : P_X6_canGo v0 v1 Q S) : P_X6_canGo v0 v1 (fun r T => Q r T ∧ K5 S T) S := kg_X6_canGo_0 h (k5_rf S)
set_option maxRecDepth 20000 in
set_option maxHeartbeats 1000000 in
theorem kg_X8_hasRoad_0 {Q : Int32 → HS → Prop} {v0 : Nat} {v1 : Int32} {S0 S : HS} (h : P_X8_hasRoad_0 Q v0 v1 S) (K : K5 S0 S) : P_X8_hasRoad_0 (fun r T => Q r T ∧ K5 S0 T) v0 v1 S := by
  delta P_X8_hasRoad_0 at h ⊢
  refine ⟨?_, ?_⟩
  · intro c1
    have h := h.1 c1
    exact ⟨h, K⟩
  · intro c2
    have h := h.2 c2
    obtain ⟨c3, h⟩ := h
    refine ⟨c3, ?_⟩
    have n4 := k5_ne K c3
    intro x6 e5
    have h := h x6 e5
    refine ⟨?_, ?_⟩
    · intro c7
      have h := h.1 c7
      exact ⟨h, K⟩
    · intro c8
      have h := h.2 c8
      obtain ⟨b9, e10, h⟩ := h
      refine ⟨b9, e10, ?_⟩
      obtain ⟨c11, h⟩ := h
      refine ⟨c11, ?_⟩
      have n12 := k5_ne K c11
      refine ⟨?_, ?_⟩
      · intro c13
        have h := h.1 c13
        exact ⟨h, K⟩
      · intro c14
        have h := h.2 c14
        exact ⟨h, K⟩
theorem kg_X8_hasRoad {Q : Int32 → HS → Prop} {v0 : Nat} {v1 : Int32} {S : HS} (h : P_X8_hasRoad v0 v1 Q S) : P_X8_hasRoad v0 v1 (fun r T => Q r T ∧ K5 S T) S := kg_X8_hasRoad_0 h (k5_rf S)
set_option maxRecDepth 20000 in
set_option maxHeartbeats 1000000 in
theorem kg_X8_hasSeen_0 {Q : Int32 → HS → Prop} {v0 : Nat} {v1 : Int32} {S0 S : HS} (h : P_X8_hasSeen_0 Q v0 v1 S) (K : K5 S0 S) : P_X8_hasSeen_0 (fun r T => Q r T ∧ K5 S0 T) v0 v1 S := by
  delta P_X8_hasSeen_0 at h ⊢
  refine ⟨?_, ?_⟩
  · intro c1
    have h := h.1 c1
    exact ⟨h, K⟩
  · intro c2
    have h := h.2 c2
    obtain ⟨c3, h⟩ := h
    refine ⟨c3, ?_⟩
    have n4 := k5_ne K c3
    intro x6 e5
    have h := h x6 e5
    refine ⟨?_, ?_⟩
    · intro c7
      have h := h.1 c7
      exact ⟨h, K⟩
    · intro c8
      have h := h.2 c8
      obtain ⟨b9, e10, h⟩ := h
      refine ⟨b9, e10, ?_⟩
      obtain ⟨c11, h⟩ := h
      refine ⟨c11, ?_⟩
      have n12 := k5_ne K c11
      refine ⟨?_, ?_⟩
      · intro c13
        have h := h.1 c13
        exact ⟨h, K⟩
      · intro c14
        have h := h.2 c14
        exact ⟨h, K⟩
theorem kg_X8_hasSeen {Q : Int32 → HS → Prop} {v0 : Nat} {v1 : Int32} {S : HS} (h : P_X8_hasSeen v0 v1 Q S) : P_X8_hasSeen v0 v1 (fun r T => Q r T ∧ K5 S T) S := kg_X8_hasSeen_0 h (k5_rf S)
set_option maxRecDepth 20000 in
set_option maxHeartbeats 1000000 in
theorem kg_X8_hasWalker_0 {Q : Int32 → HS → Prop} {v0 : Nat} {v1 : Int32} {S0 S : HS} (h : P_X8_hasWalker_0 Q v0 v1 S) (K : K5 S0 S) : P_X8_hasWalker_0 (fun r T => Q r T ∧ K5 S0 T) v0 v1 S := by
  delta P_X8_hasWalker_0 at h ⊢
  refine ⟨?_, ?_⟩
  · intro c1
    have h := h.1 c1
    exact ⟨h, K⟩
  · intro c2
    have h := h.2 c2
    obtain ⟨c3, h⟩ := h
    refine ⟨c3, ?_⟩
    have n4 := k5_ne K c3
    intro x6 e5
    have h := h x6 e5
    refine ⟨?_, ?_⟩
    · intro c7
      have h := h.1 c7
      exact ⟨h, K⟩
    · intro c8
      have h := h.2 c8
      obtain ⟨b9, e10, h⟩ := h
      refine ⟨b9, e10, ?_⟩
      obtain ⟨c11, h⟩ := h
      refine ⟨c11, ?_⟩
      have n12 := k5_ne K c11
      refine ⟨?_, ?_⟩
      · intro c13
        have h := h.1 c13
        exact ⟨h, K⟩
      · intro c14
        have h := h.2 c14
        exact ⟨h, K⟩
theorem kg_X8_hasWalker {Q : Int32 → HS → Prop} {v0 : Nat} {v1 : Int32} {S : HS} (h : P_X8_hasWalker v0 v1 Q S) : P_X8_hasWalker v0 v1 (fun r T => Q r T ∧ K5 S T) S := kg_X8_hasWalker_0 h (k5_rf S)
set_option maxRecDepth 20000 in
set_option maxHeartbeats 1000000 in
theorem kgB_X1_fitCode_141 {Q : Int32 → HS → Prop} {X141 X141_2 : Nat → Nat → Int32 → Int32 → Int32 → Int32 → Int32 → HS → Prop} {v0 : Nat} {v1 : Nat} {v2 : Int32} {v4 : Int32} {v5 : Int32} {v6 : Int32} {v8 : Int32} {S0 S : HS} (h : B_X1_fitCode_141 Q X141 v0 v1 v2 v4 v5 v6 v8 S) (K : K5 S0 S) (hX141 : ∀ (u0 : Nat) (u1 : Nat) (u2 : Int32) (u3 : Int32) (u4 : Int32) (u5 : Int32) (u6 : Int32) (u7 : HS), X141 u0 u1 u2 u3 u4 u5 u6 u7 → K5 S0 u7 → X141_2 u0 u1 u2 u3 u4 u5 u6 u7) : B_X1_fitCode_141 (fun r T => Q r T ∧ K5 S0 T) X141_2 v0 v1 v2 v4 v5 v6 v8 S := by
  delta B_X1_fitCode_141 at h ⊢
  refine ⟨?_, ?_⟩
  · intro c1
    have h := h.1 c1
    intro x3 e2
    have h := h x3 e2
    intro x5 e4
    have h := h x5 e4
    exact ⟨h, K⟩
  · intro c6
    have h := h.2 c6
    obtain ⟨c7, h⟩ := h
    refine ⟨c7, ?_⟩
    have n8 := k5_ne K c7
    obtain ⟨b9, e10, h⟩ := h
    refine ⟨b9, e10, ?_⟩
    obtain ⟨c11, h⟩ := h
    refine ⟨c11, ?_⟩
    have n12 := k5_ne K c11
    obtain ⟨c13, h⟩ := h
    refine ⟨c13, ?_⟩
    intro x15 e14
    have h := h x15 e14
    obtain ⟨c16, h⟩ := h
    refine ⟨c16, ?_⟩
    have n17 := k5_ne K c16
    obtain ⟨b18, e19, h⟩ := h
    refine ⟨b18, e19, ?_⟩
    obtain ⟨c20, h⟩ := h
    refine ⟨c20, ?_⟩
    have n21 := k5_ne K c20
    intro x23 e22
    have h := h x23 e22
    obtain ⟨c24, h⟩ := h
    refine ⟨c24, ?_⟩
    intro x26 e25
    have h := h x26 e25
    refine ⟨?_, ?_⟩
    · intro c27
      have h := h.1 c27
      intro x29 e28
      have h := h x29 e28
      exact hX141 _ _ _ _ _ _ _ _ h K
    · intro c30
      have h := h.2 c30
      exact ⟨h, K⟩
theorem kg_X1_fitCode_141 {Q : Int32 → HS → Prop} {v0 : Nat} {v1 : Nat} {v2 : Int32} {v4 : Int32} {v5 : Int32} {v6 : Int32} {v8 : Int32} {S0 S : HS} (h : P_X1_fitCode_141 Q v0 v1 v2 v4 v5 v6 v8 S) (K : K5 S0 S) : P_X1_fitCode_141 (fun r T => Q r T ∧ K5 S0 T) v0 v1 v2 v4 v5 v6 v8 S := h (fun v0 v1 v2 v4 v5 v6 v8 S => K5 S0 S → P_X1_fitCode_141 (fun r T => Q r T ∧ K5 S0 T) v0 v1 v2 v4 v5 v6 v8 S) (fun v0 v1 v2 v4 v5 v6 v8 S hB K => fd_X1_fitCode_141 (kgB_X1_fitCode_141 hB K (fun _ _ _ _ _ _ _ _ hx K => hx K))) K
set_option maxRecDepth 20000 in
set_option maxHeartbeats 1000000 in
theorem kg_X1_fitCode_0 {Q : Int32 → HS → Prop} {v0 : Nat} {v1 : Nat} {v2 : Int32} {v3 : Int32} {S0 S : HS} (h : P_X1_fitCode_0 Q v0 v1 v2 v3 S) (K : K5 S0 S) : P_X1_fitCode_0 (fun r T => Q r T ∧ K5 S0 T) v0 v1 v2 v3 S := by
  delta P_X1_fitCode_0 at h ⊢
  refine ⟨?_, ?_⟩
  · intro c1
    have h := h.1 c1
    exact ⟨h, K⟩
  · intro c2
    have h := h.2 c2
    refine cm_X1_legsOf (kg_X1_legsOf h) h (fun x3 x4 hp h g5 => ?_)
    have h := h g5
    have K := k5_tr K hp.2
    refine ⟨?_, ?_⟩
    · intro c6
      have h := h.1 c6
      exact ⟨h, K⟩
    · intro c7
      have h := h.2 c7
      obtain ⟨c8, h⟩ := h
      refine ⟨c8, ?_⟩
      have n9 := k5_ne K c8
      refine cm_X8_hasSeen (kg_X8_hasSeen h) h (fun x10 x11 hp h g12 g13 => ?_)
      have h := h g12 g13
      have K := k5_tr K hp.2
      refine ⟨?_, ?_⟩
      · intro c14
        have h := h.1 c14
        exact ⟨h, K⟩
      · intro c15
        have h := h.2 c15
        intro x17 e16
        have h := h x17 e16
        refine ⟨?_, ?_⟩
        · intro c18
          have h := h.1 c18
          intro x20 e19
          have h := h x20 e19
          intro x22 e21
          have h := h x22 e21
          intro x24 e23
          have h := h x24 e23
          intro x26 e25
          have h := h x26 e25
          obtain ⟨c27, h⟩ := h
          refine ⟨c27, ?_⟩
          intro x29 e28
          have h := h x29 e28
          intro x31 e30
          have h := h x31 e30
          intro x33 e32
          have h := h x33 e32
          obtain ⟨c34, h⟩ := h
          refine ⟨c34, ?_⟩
          intro x36 e35
          have h := h x36 e35
          obtain ⟨b37, e38, h⟩ := h
          refine ⟨b37, e38, ?_⟩
          obtain ⟨c39, h⟩ := h
          refine ⟨c39, ?_⟩
          have n40 := k5_ne K c39
          obtain ⟨c41, h⟩ := h
          refine ⟨c41, ?_⟩
          intro x43 e42
          have h := h x43 e42
          refine cm_X8_hasWalker (kg_X8_hasWalker h) h (fun x44 x45 hp h g46 g47 => ?_)
          have h := h g46 g47
          have K := k5_tr K hp.2
          refine ⟨?_, ?_⟩
          · intro c48
            have h := h.1 c48
            exact ⟨h, K⟩
          · intro c49
            have h := h.2 c49
            intro x51 e50
            have h := h x51 e50
            refine cm_X8_hasRoad (kg_X8_hasRoad h) h (fun x52 x53 hp h g54 g55 => ?_)
            have h := h g54 g55
            have K := k5_tr K hp.2
            refine ⟨?_, ?_⟩
            · intro c56
              have h := h.1 c56
              exact ⟨h, K⟩
            · intro c57
              have h := h.2 c57
              obtain ⟨b58, e59, h⟩ := h
              refine ⟨b58, e59, ?_⟩
              obtain ⟨c60, h⟩ := h
              refine ⟨c60, ?_⟩
              have n61 := k5_ne K c60
              obtain ⟨c62, h⟩ := h
              refine ⟨c62, ?_⟩
              obtain ⟨b63, e64, h⟩ := h
              refine ⟨b63, e64, ?_⟩
              obtain ⟨c65, h⟩ := h
              refine ⟨c65, ?_⟩
              have n66 := k5_ne K c65
              refine cm_X6_canGo (kg_X6_canGo h) h (fun x67 x68 hp h g69 g70 => ?_)
              have h := h g69 g70
              have K := k5_tr K hp.2
              refine ⟨?_, ?_⟩
              · intro c71
                have h := h.1 c71
                obtain ⟨b72, e73, h⟩ := h
                refine ⟨b72, e73, ?_⟩
                obtain ⟨c74, h⟩ := h
                refine ⟨c74, ?_⟩
                have n75 := k5_ne K c74
                obtain ⟨c76, h⟩ := h
                refine ⟨c76, ?_⟩
                obtain ⟨b77, e78, h⟩ := h
                refine ⟨b77, e78, ?_⟩
                obtain ⟨b79, e80, h⟩ := h
                refine ⟨b79, e80, ?_⟩
                intro x82 e81
                have h := h x82 e81
                obtain ⟨c83, h⟩ := h
                refine ⟨c83, ?_⟩
                have n84 := k5_ne K c83
                obtain ⟨c85, h⟩ := h
                refine ⟨c85, ?_⟩
                obtain ⟨b86, e87, h⟩ := h
                refine ⟨b86, e87, ?_⟩
                intro x89 e88
                have h := h x89 e88
                obtain ⟨b90, e91, h⟩ := h
                refine ⟨b90, e91, ?_⟩
                obtain ⟨c92, h⟩ := h
                refine ⟨c92, ?_⟩
                have n93 := k5_ne K c92
                obtain ⟨c94, h⟩ := h
                refine ⟨c94, ?_⟩
                obtain ⟨b95, e96, h⟩ := h
                refine ⟨b95, e96, ?_⟩
                obtain ⟨c97, h⟩ := h
                refine ⟨c97, ?_⟩
                have n98 := k5_ne K c97
                refine cm_X1_wetOf (kg_X1_wetOf h) h (fun x99 x100 hp h g101 => ?_)
                have h := h g101
                have K := k5_tr K hp.2
                exact kg_X1_fitCode_141 h K
              · intro c102
                have h := h.2 c102
                exact ⟨h, K⟩
        · intro c103
          have h := h.2 c103
          exact ⟨h, K⟩
theorem kg_X1_fitCode {Q : Int32 → HS → Prop} {v0 : Nat} {v1 : Nat} {v2 : Int32} {v3 : Int32} {S : HS} (h : P_X1_fitCode v0 v1 v2 v3 Q S) : P_X1_fitCode v0 v1 v2 v3 (fun r T => Q r T ∧ K5 S T) S := kg_X1_fitCode_0 h (k5_rf S)
set_option maxRecDepth 20000 in
set_option maxHeartbeats 1000000 in
theorem kg_X1_countFits_29 {Q : Int32 → HS → Prop} {X5 X5_2 : Nat → Nat → Int32 → Int32 → Int32 → HS → Prop} {v0 : Nat} {v1 : Nat} {v2 : Int32} {v3 : Int32} {v4 : Int32} {S0 S : HS} (h : P_X1_countFits_29 Q X5 v0 v1 v2 v3 v4 S) (K : K5 S0 S) (hX5 : ∀ (u0 : Nat) (u1 : Nat) (u2 : Int32) (u3 : Int32) (u4 : Int32) (u5 : HS), X5 u0 u1 u2 u3 u4 u5 → K5 S0 u5 → X5_2 u0 u1 u2 u3 u4 u5) : P_X1_countFits_29 (fun r T => Q r T ∧ K5 S0 T) X5_2 v0 v1 v2 v3 v4 S := by
  delta P_X1_countFits_29 at h ⊢
  intro x2 e1
  have h := h x2 e1
  exact hX5 _ _ _ _ _ _ h K
set_option maxRecDepth 20000 in
set_option maxHeartbeats 1000000 in
theorem kgB_X1_countFits_5 {Q : Int32 → HS → Prop} {X5 X5_2 : Nat → Nat → Int32 → Int32 → Int32 → HS → Prop} {v0 : Nat} {v1 : Nat} {v2 : Int32} {v3 : Int32} {v4 : Int32} {S0 S : HS} (h : B_X1_countFits_5 Q X5 v0 v1 v2 v3 v4 S) (K : K5 S0 S) (hX5 : ∀ (u0 : Nat) (u1 : Nat) (u2 : Int32) (u3 : Int32) (u4 : Int32) (u5 : HS), X5 u0 u1 u2 u3 u4 u5 → K5 S0 u5 → X5_2 u0 u1 u2 u3 u4 u5) : B_X1_countFits_5 (fun r T => Q r T ∧ K5 S0 T) X5_2 v0 v1 v2 v3 v4 S := by
  delta B_X1_countFits_5 at h ⊢
  refine cm_X1_legsOf (kg_X1_legsOf h) h (fun x1 x2 hp h g3 => ?_)
  have h := h g3
  have K := k5_tr K hp.2
  refine ⟨?_, ?_⟩
  · intro c4
    have h := h.1 c4
    exact ⟨h, K⟩
  · intro c5
    have h := h.2 c5
    obtain ⟨c6, h⟩ := h
    refine ⟨c6, ?_⟩
    have n7 := k5_ne K c6
    refine cm_X1_fitCode (kg_X1_fitCode h) h (fun x8 x9 hp h g10 => ?_)
    have h := h g10
    have K := k5_tr K hp.2
    refine ⟨?_, ?_⟩
    · intro c11
      have h := h.1 c11
      exact kg_X1_countFits_29 h K hX5
    · intro c12
      have h := h.2 c12
      intro x14 e13
      have h := h x14 e13
      exact kg_X1_countFits_29 h K hX5
theorem kg_X1_countFits_5 {Q : Int32 → HS → Prop} {v0 : Nat} {v1 : Nat} {v2 : Int32} {v3 : Int32} {v4 : Int32} {S0 S : HS} (h : P_X1_countFits_5 Q v0 v1 v2 v3 v4 S) (K : K5 S0 S) : P_X1_countFits_5 (fun r T => Q r T ∧ K5 S0 T) v0 v1 v2 v3 v4 S := h (fun v0 v1 v2 v3 v4 S => K5 S0 S → P_X1_countFits_5 (fun r T => Q r T ∧ K5 S0 T) v0 v1 v2 v3 v4 S) (fun v0 v1 v2 v3 v4 S hB K => fd_X1_countFits_5 (kgB_X1_countFits_5 hB K (fun _ _ _ _ _ _ hx K => hx K))) K
set_option maxRecDepth 20000 in
set_option maxHeartbeats 1000000 in
theorem kg_X1_countFits_0 {Q : Int32 → HS → Prop} {v0 : Nat} {v1 : Nat} {v2 : Int32} {S0 S : HS} (h : P_X1_countFits_0 Q v0 v1 v2 S) (K : K5 S0 S) : P_X1_countFits_0 (fun r T => Q r T ∧ K5 S0 T) v0 v1 v2 S := by
  delta P_X1_countFits_0 at h ⊢
  exact kg_X1_countFits_5 h K
theorem kg_X1_countFits {Q : Int32 → HS → Prop} {v0 : Nat} {v1 : Nat} {v2 : Int32} {S : HS} (h : P_X1_countFits v0 v1 v2 Q S) : P_X1_countFits v0 v1 v2 (fun r T => Q r T ∧ K5 S T) S := kg_X1_countFits_0 h (k5_rf S)
set_option maxRecDepth 20000 in
set_option maxHeartbeats 1000000 in
theorem kg_X1_findFit_48 {Q : Int32 → HS → Prop} {X6 X6_2 : Nat → Nat → Int32 → Int32 → Int32 → HS → Prop} {v0 : Nat} {v1 : Nat} {v2 : Int32} {v4 : Int32} {v5 : Int32} {S0 S : HS} (h : P_X1_findFit_48 Q X6 v0 v1 v2 v4 v5 S) (K : K5 S0 S) (hX6 : ∀ (u0 : Nat) (u1 : Nat) (u2 : Int32) (u3 : Int32) (u4 : Int32) (u5 : HS), X6 u0 u1 u2 u3 u4 u5 → K5 S0 u5 → X6_2 u0 u1 u2 u3 u4 u5) : P_X1_findFit_48 (fun r T => Q r T ∧ K5 S0 T) X6_2 v0 v1 v2 v4 v5 S := by
  delta P_X1_findFit_48 at h ⊢
  intro x2 e1
  have h := h x2 e1
  exact hX6 _ _ _ _ _ _ h K
set_option maxRecDepth 20000 in
set_option maxHeartbeats 1000000 in
theorem kg_X1_findFit_39 {Q : Int32 → HS → Prop} {X6 X6_2 : Nat → Nat → Int32 → Int32 → Int32 → HS → Prop} {v0 : Nat} {v1 : Nat} {v2 : Int32} {v4 : Int32} {v5 : Int32} {v6 : Int32} {S0 S : HS} (h : P_X1_findFit_39 Q X6 v0 v1 v2 v4 v5 v6 S) (K : K5 S0 S) (hX6 : ∀ (u0 : Nat) (u1 : Nat) (u2 : Int32) (u3 : Int32) (u4 : Int32) (u5 : HS), X6 u0 u1 u2 u3 u4 u5 → K5 S0 u5 → X6_2 u0 u1 u2 u3 u4 u5) : P_X1_findFit_39 (fun r T => Q r T ∧ K5 S0 T) X6_2 v0 v1 v2 v4 v5 v6 S := by
  delta P_X1_findFit_39 at h ⊢
  refine ⟨?_, ?_⟩
  · intro c1
    have h := h.1 c1
    exact kg_X1_findFit_48 h K hX6
  · intro c2
    have h := h.2 c2
    intro x4 e3
    have h := h x4 e3
    exact kg_X1_findFit_48 h K hX6
set_option maxRecDepth 20000 in
set_option maxHeartbeats 1000000 in
theorem kgB_X1_findFit_6 {Q : Int32 → HS → Prop} {X6 X6_2 : Nat → Nat → Int32 → Int32 → Int32 → HS → Prop} {v0 : Nat} {v1 : Nat} {v2 : Int32} {v4 : Int32} {v5 : Int32} {S0 S : HS} (h : B_X1_findFit_6 Q X6 v0 v1 v2 v4 v5 S) (K : K5 S0 S) (hX6 : ∀ (u0 : Nat) (u1 : Nat) (u2 : Int32) (u3 : Int32) (u4 : Int32) (u5 : HS), X6 u0 u1 u2 u3 u4 u5 → K5 S0 u5 → X6_2 u0 u1 u2 u3 u4 u5) : B_X1_findFit_6 (fun r T => Q r T ∧ K5 S0 T) X6_2 v0 v1 v2 v4 v5 S := by
  delta B_X1_findFit_6 at h ⊢
  refine cm_X1_legsOf (kg_X1_legsOf h) h (fun x1 x2 hp h g3 => ?_)
  have h := h g3
  have K := k5_tr K hp.2
  refine ⟨?_, ?_⟩
  · intro c4
    have h := h.1 c4
    exact ⟨h, K⟩
  · intro c5
    have h := h.2 c5
    obtain ⟨c6, h⟩ := h
    refine ⟨c6, ?_⟩
    have n7 := k5_ne K c6
    refine cm_X1_fitCode (kg_X1_fitCode h) h (fun x8 x9 hp h g10 => ?_)
    have h := h g10
    have K := k5_tr K hp.2
    refine ⟨?_, ?_⟩
    · intro c11
      have h := h.1 c11
      exact kg_X1_findFit_39 h K hX6
    · intro c12
      have h := h.2 c12
      refine ⟨?_, ?_⟩
      · intro c13
        have h := h.1 c13
        exact kg_X1_findFit_39 h K hX6
      · intro c14
        have h := h.2 c14
        exact ⟨h, K⟩
theorem kg_X1_findFit_6 {Q : Int32 → HS → Prop} {v0 : Nat} {v1 : Nat} {v2 : Int32} {v4 : Int32} {v5 : Int32} {S0 S : HS} (h : P_X1_findFit_6 Q v0 v1 v2 v4 v5 S) (K : K5 S0 S) : P_X1_findFit_6 (fun r T => Q r T ∧ K5 S0 T) v0 v1 v2 v4 v5 S := h (fun v0 v1 v2 v4 v5 S => K5 S0 S → P_X1_findFit_6 (fun r T => Q r T ∧ K5 S0 T) v0 v1 v2 v4 v5 S) (fun v0 v1 v2 v4 v5 S hB K => fd_X1_findFit_6 (kgB_X1_findFit_6 hB K (fun _ _ _ _ _ _ hx K => hx K))) K
set_option maxRecDepth 20000 in
set_option maxHeartbeats 1000000 in
theorem kg_X1_findFit_0 {Q : Int32 → HS → Prop} {v0 : Nat} {v1 : Nat} {v2 : Int32} {v3 : Int32} {S0 S : HS} (h : P_X1_findFit_0 Q v0 v1 v2 v3 S) (K : K5 S0 S) : P_X1_findFit_0 (fun r T => Q r T ∧ K5 S0 T) v0 v1 v2 v3 S := by
  delta P_X1_findFit_0 at h ⊢
  exact kg_X1_findFit_6 h K
theorem kg_X1_findFit {Q : Int32 → HS → Prop} {v0 : Nat} {v1 : Nat} {v2 : Int32} {v3 : Int32} {S : HS} (h : P_X1_findFit v0 v1 v2 v3 Q S) : P_X1_findFit v0 v1 v2 v3 (fun r T => Q r T ∧ K5 S T) S := kg_X1_findFit_0 h (k5_rf S)
set_option maxRecDepth 20000 in
set_option maxHeartbeats 1000000 in
theorem kg_X1_init_0 {Q : HS → Prop} {v0 : Nat} {S0 S : HS} (h : P_X1_init_0 Q v0 S) (K : K5 S0 S) : P_X1_init_0 (fun T => Q T ∧ K5 S0 T) v0 S := by
  delta P_X1_init_0 at h ⊢
  intro x2 e1
  have h := h x2 e1
  intro x4 e3
  have h := h x4 e3
  have K := k5_W K e1 e3
  obtain ⟨c5, h⟩ := h
  refine ⟨c5, ?_⟩
  have n6 := k5_ne K c5
  intro x8 e7
  have h := h x8 e7
  have K := k5_R K e7
  intro x10 e9
  have h := h x10 e9
  intro x12 e11
  have h := h x12 e11
  have K := k5_W K e9 e11
  intro x14 e13
  have h := h x14 e13
  have K := k5_R K e13
  exact ⟨h, K⟩
theorem kg_X1_init {Q : HS → Prop} {v0 : Nat} {S : HS} (h : P_X1_init v0 Q S) : P_X1_init v0 (fun T => Q T ∧ K5 S T) S := kg_X1_init_0 h (k5_rf S)
set_option maxRecDepth 20000 in
set_option maxHeartbeats 1000000 in
theorem kg_X1_leastWet_0 {Q : Int64 → HS → Prop} {v0 : Nat} {v1 : Nat} {v2 : Nat} {v3 : Int32} {v4 : Nat} {S0 S : HS} (h : P_X1_leastWet_0 Q v0 v1 v2 v3 v4 S) (K : K5 S0 S) : P_X1_leastWet_0 (fun r T => Q r T ∧ K5 S0 T) v0 v1 v2 v3 v4 S := by
  delta P_X1_leastWet_0 at h ⊢
  obtain ⟨c1, h⟩ := h
  refine ⟨c1, ?_⟩
  have n2 := k5_ne K c1
  refine cm_X1_bestSpeed (kg_X1_bestSpeed h) h (fun x3 x4 hp h g5 => ?_)
  have h := h g5
  have K := k5_tr K hp.2
  refine cm_X1_wetOf (kg_X1_wetOf h) h (fun x6 x7 hp h g8 => ?_)
  have h := h g8
  have K := k5_tr K hp.2
  exact ⟨h, K⟩
theorem kg_X1_leastWet {Q : Int64 → HS → Prop} {v0 : Nat} {v1 : Nat} {v2 : Nat} {v3 : Int32} {v4 : Nat} {S : HS} (h : P_X1_leastWet v0 v1 v2 v3 v4 Q S) : P_X1_leastWet v0 v1 v2 v3 v4 (fun r T => Q r T ∧ K5 S T) S := kg_X1_leastWet_0 h (k5_rf S)
set_option maxRecDepth 20000 in
set_option maxHeartbeats 1000000 in
theorem kg_X1_wetInLee_0 {Q : Int64 → HS → Prop} {v0 : Nat} {v1 : Nat} {v2 : Nat} {S0 S : HS} (h : P_X1_wetInLee_0 Q v0 v1 v2 S) (K : K5 S0 S) : P_X1_wetInLee_0 (fun r T => Q r T ∧ K5 S0 T) v0 v1 v2 S := by
  delta P_X1_wetInLee_0 at h ⊢
  obtain ⟨c1, h⟩ := h
  refine ⟨c1, ?_⟩
  have n2 := k5_ne K c1
  intro x4 e3
  have h := h x4 e3
  obtain ⟨c5, h⟩ := h
  refine ⟨c5, ?_⟩
  have n6 := k5_ne K c5
  refine cm_X1_soak (kg_X1_soak h) h (fun x7 x8 hp h g9 => ?_)
  have h := h g9
  have K := k5_tr K hp.2
  obtain ⟨c10, h⟩ := h
  refine ⟨c10, ?_⟩
  have n11 := k5_ne K c10
  intro x13 e12
  have h := h x13 e12
  refine cm_X1_soak (kg_X1_soak h) h (fun x14 x15 hp h g16 => ?_)
  have h := h g16
  have K := k5_tr K hp.2
  exact ⟨h, K⟩
theorem kg_X1_wetInLee {Q : Int64 → HS → Prop} {v0 : Nat} {v1 : Nat} {v2 : Nat} {S : HS} (h : P_X1_wetInLee v0 v1 v2 Q S) : P_X1_wetInLee v0 v1 v2 (fun r T => Q r T ∧ K5 S T) S := kg_X1_wetInLee_0 h (k5_rf S)
set_option maxRecDepth 20000 in
set_option maxHeartbeats 1000000 in
theorem kg_X1_worstSpeed_55 {Q : Int32 → HS → Prop} {X17 X17_2 : Nat → Nat → Nat → Int32 → Nat → Int32 → Int64 → Int32 → HS → Prop} {v0 : Nat} {v1 : Nat} {v2 : Nat} {v3 : Int32} {v4 : Nat} {v5 : Int32} {v6 : Int64} {v8 : Int32} {S0 S : HS} (h : P_X1_worstSpeed_55 Q X17 v0 v1 v2 v3 v4 v5 v6 v8 S) (K : K5 S0 S) (hX17 : ∀ (u0 : Nat) (u1 : Nat) (u2 : Nat) (u3 : Int32) (u4 : Nat) (u5 : Int32) (u6 : Int64) (u7 : Int32) (u8 : HS), X17 u0 u1 u2 u3 u4 u5 u6 u7 u8 → K5 S0 u8 → X17_2 u0 u1 u2 u3 u4 u5 u6 u7 u8) : P_X1_worstSpeed_55 (fun r T => Q r T ∧ K5 S0 T) X17_2 v0 v1 v2 v3 v4 v5 v6 v8 S := by
  delta P_X1_worstSpeed_55 at h ⊢
  intro x2 e1
  have h := h x2 e1
  exact hX17 _ _ _ _ _ _ _ _ _ h K
set_option maxRecDepth 20000 in
set_option maxHeartbeats 1000000 in
theorem kgB_X1_worstSpeed_17 {Q : Int32 → HS → Prop} {X17 X17_2 : Nat → Nat → Nat → Int32 → Nat → Int32 → Int64 → Int32 → HS → Prop} {v0 : Nat} {v1 : Nat} {v2 : Nat} {v3 : Int32} {v4 : Nat} {v5 : Int32} {v6 : Int64} {v8 : Int32} {S0 S : HS} (h : B_X1_worstSpeed_17 Q X17 v0 v1 v2 v3 v4 v5 v6 v8 S) (K : K5 S0 S) (hX17 : ∀ (u0 : Nat) (u1 : Nat) (u2 : Nat) (u3 : Int32) (u4 : Nat) (u5 : Int32) (u6 : Int64) (u7 : Int32) (u8 : HS), X17 u0 u1 u2 u3 u4 u5 u6 u7 u8 → K5 S0 u8 → X17_2 u0 u1 u2 u3 u4 u5 u6 u7 u8) : B_X1_worstSpeed_17 (fun r T => Q r T ∧ K5 S0 T) X17_2 v0 v1 v2 v3 v4 v5 v6 v8 S := by
  delta B_X1_worstSpeed_17 at h ⊢
  obtain ⟨c1, h⟩ := h
  refine ⟨c1, ?_⟩
  have n2 := k5_ne K c1
  intro x4 e3
  have h := h x4 e3
  refine ⟨?_, ?_⟩
  · intro c5
    have h := h.1 c5
    exact ⟨h, K⟩
  · intro c6
    have h := h.2 c6
    obtain ⟨c7, h⟩ := h
    refine ⟨c7, ?_⟩
    have n8 := k5_ne K c7
    refine cm_X1_wetOf (kg_X1_wetOf h) h (fun x9 x10 hp h g11 => ?_)
    have h := h g11
    have K := k5_tr K hp.2
    refine ⟨?_, ?_⟩
    · intro c12
      have h := h.1 c12
      exact kg_X1_worstSpeed_55 h K hX17
    · intro c13
      have h := h.2 c13
      exact kg_X1_worstSpeed_55 h K hX17
theorem kg_X1_worstSpeed_17 {Q : Int32 → HS → Prop} {v0 : Nat} {v1 : Nat} {v2 : Nat} {v3 : Int32} {v4 : Nat} {v5 : Int32} {v6 : Int64} {v8 : Int32} {S0 S : HS} (h : P_X1_worstSpeed_17 Q v0 v1 v2 v3 v4 v5 v6 v8 S) (K : K5 S0 S) : P_X1_worstSpeed_17 (fun r T => Q r T ∧ K5 S0 T) v0 v1 v2 v3 v4 v5 v6 v8 S := h (fun v0 v1 v2 v3 v4 v5 v6 v8 S => K5 S0 S → P_X1_worstSpeed_17 (fun r T => Q r T ∧ K5 S0 T) v0 v1 v2 v3 v4 v5 v6 v8 S) (fun v0 v1 v2 v3 v4 v5 v6 v8 S hB K => fd_X1_worstSpeed_17 (kgB_X1_worstSpeed_17 hB K (fun _ _ _ _ _ _ _ _ _ hx K => hx K))) K
set_option maxRecDepth 20000 in
set_option maxHeartbeats 1000000 in
theorem kg_X1_worstSpeed_0 {Q : Int32 → HS → Prop} {v0 : Nat} {v1 : Nat} {v2 : Nat} {v3 : Int32} {v4 : Nat} {S0 S : HS} (h : P_X1_worstSpeed_0 Q v0 v1 v2 v3 v4 S) (K : K5 S0 S) : P_X1_worstSpeed_0 (fun r T => Q r T ∧ K5 S0 T) v0 v1 v2 v3 v4 S := by
  delta P_X1_worstSpeed_0 at h ⊢
  obtain ⟨c1, h⟩ := h
  refine ⟨c1, ?_⟩
  have n2 := k5_ne K c1
  intro x4 e3
  have h := h x4 e3
  intro x6 e5
  have h := h x6 e5
  exact kg_X1_worstSpeed_17 h K
theorem kg_X1_worstSpeed {Q : Int32 → HS → Prop} {v0 : Nat} {v1 : Nat} {v2 : Nat} {v3 : Int32} {v4 : Nat} {S : HS} (h : P_X1_worstSpeed v0 v1 v2 v3 v4 Q S) : P_X1_worstSpeed v0 v1 v2 v3 v4 (fun r T => Q r T ∧ K5 S T) S := kg_X1_worstSpeed_0 h (k5_rf S)
set_option maxRecDepth 20000 in
set_option maxHeartbeats 1000000 in
theorem kgB_X2_addFaces_2 {Q : HS → Prop} {X2 X2_2 : Nat → Nat → Int32 → HS → Prop} {v0 : Nat} {v1 : Nat} {v2 : Int32} {S0 S : HS} (h : B_X2_addFaces_2 Q X2 v0 v1 v2 S) (K : K5 S0 S) (hX2 : ∀ (u0 : Nat) (u1 : Nat) (u2 : Int32) (u3 : HS), X2 u0 u1 u2 u3 → K5 S0 u3 → X2_2 u0 u1 u2 u3) : B_X2_addFaces_2 (fun T => Q T ∧ K5 S0 T) X2_2 v0 v1 v2 S := by
  delta B_X2_addFaces_2 at h ⊢
  refine ⟨?_, ?_⟩
  · intro c1
    have h := h.1 c1
    exact ⟨h, K⟩
  · intro c2
    have h := h.2 c2
    obtain ⟨c3, h⟩ := h
    refine ⟨c3, ?_⟩
    have n4 := k5_ne K c3
    refine ⟨?_, ?_⟩
    · intro c5
      have h := h.1 c5
      exact ⟨h, K⟩
    · intro c6
      have h := h.2 c6
      obtain ⟨c7, h⟩ := h
      refine ⟨c7, ?_⟩
      have n8 := k5_ne K c7
      obtain ⟨b9, e10, h⟩ := h
      refine ⟨b9, e10, ?_⟩
      obtain ⟨c11, h⟩ := h
      refine ⟨c11, ?_⟩
      have n12 := k5_ne K c11
      obtain ⟨c13, h⟩ := h
      refine ⟨c13, ?_⟩
      intro x15 e14
      have h := h x15 e14
      obtain ⟨c16, h⟩ := h
      refine ⟨c16, ?_⟩
      intro x18 e17
      have h := h x18 e17
      intro x20 e19
      have h := h x20 e19
      obtain ⟨c21, h⟩ := h
      refine ⟨c21, ?_⟩
      intro x23 e22
      have h := h x23 e22
      have K := k5_J K e22
      intro x25 e24
      have h := h x25 e24
      exact hX2 _ _ _ _ h K
theorem kg_X2_addFaces_2 {Q : HS → Prop} {v0 : Nat} {v1 : Nat} {v2 : Int32} {S0 S : HS} (h : P_X2_addFaces_2 Q v0 v1 v2 S) (K : K5 S0 S) : P_X2_addFaces_2 (fun T => Q T ∧ K5 S0 T) v0 v1 v2 S := h (fun v0 v1 v2 S => K5 S0 S → P_X2_addFaces_2 (fun T => Q T ∧ K5 S0 T) v0 v1 v2 S) (fun v0 v1 v2 S hB K => fd_X2_addFaces_2 (kgB_X2_addFaces_2 hB K (fun _ _ _ _ hx K => hx K))) K
set_option maxRecDepth 20000 in
set_option maxHeartbeats 1000000 in
theorem kg_X2_addFaces_0 {Q : HS → Prop} {v0 : Nat} {v1 : Nat} {S0 S : HS} (h : P_X2_addFaces_0 Q v0 v1 S) (K : K5 S0 S) : P_X2_addFaces_0 (fun T => Q T ∧ K5 S0 T) v0 v1 S := by
  delta P_X2_addFaces_0 at h ⊢
  exact kg_X2_addFaces_2 h K
theorem kg_X2_addFaces {Q : HS → Prop} {v0 : Nat} {v1 : Nat} {S : HS} (h : P_X2_addFaces v0 v1 Q S) : P_X2_addFaces v0 v1 (fun T => Q T ∧ K5 S T) S := kg_X2_addFaces_0 h (k5_rf S)
set_option maxRecDepth 20000 in
set_option maxHeartbeats 1000000 in
theorem kgB_X2_allGot_4 {Q : Int64 → HS → Prop} {X4 X4_2 : Nat → Int64 → Int32 → HS → Prop} {v0 : Nat} {v1 : Int64} {v3 : Int32} {S0 S : HS} (h : B_X2_allGot_4 Q X4 v0 v1 v3 S) (K : K5 S0 S) (hX4 : ∀ (u0 : Nat) (u1 : Int64) (u2 : Int32) (u3 : HS), X4 u0 u1 u2 u3 → K5 S0 u3 → X4_2 u0 u1 u2 u3) : B_X2_allGot_4 (fun r T => Q r T ∧ K5 S0 T) X4_2 v0 v1 v3 S := by
  delta B_X2_allGot_4 at h ⊢
  refine ⟨?_, ?_⟩
  · intro c1
    have h := h.1 c1
    exact ⟨h, K⟩
  · intro c2
    have h := h.2 c2
    obtain ⟨c3, h⟩ := h
    refine ⟨c3, ?_⟩
    have n4 := k5_ne K c3
    obtain ⟨b5, e6, h⟩ := h
    refine ⟨b5, e6, ?_⟩
    obtain ⟨c7, h⟩ := h
    refine ⟨c7, ?_⟩
    have n8 := k5_ne K c7
    obtain ⟨c9, h⟩ := h
    refine ⟨c9, ?_⟩
    intro x11 e10
    have h := h x11 e10
    intro x13 e12
    have h := h x13 e12
    intro x15 e14
    have h := h x15 e14
    exact hX4 _ _ _ _ h K
theorem kg_X2_allGot_4 {Q : Int64 → HS → Prop} {v0 : Nat} {v1 : Int64} {v3 : Int32} {S0 S : HS} (h : P_X2_allGot_4 Q v0 v1 v3 S) (K : K5 S0 S) : P_X2_allGot_4 (fun r T => Q r T ∧ K5 S0 T) v0 v1 v3 S := h (fun v0 v1 v3 S => K5 S0 S → P_X2_allGot_4 (fun r T => Q r T ∧ K5 S0 T) v0 v1 v3 S) (fun v0 v1 v3 S hB K => fd_X2_allGot_4 (kgB_X2_allGot_4 hB K (fun _ _ _ _ hx K => hx K))) K
set_option maxRecDepth 20000 in
set_option maxHeartbeats 1000000 in
theorem kg_X2_allGot_0 {Q : Int64 → HS → Prop} {v0 : Nat} {S0 S : HS} (h : P_X2_allGot_0 Q v0 S) (K : K5 S0 S) : P_X2_allGot_0 (fun r T => Q r T ∧ K5 S0 T) v0 S := by
  delta P_X2_allGot_0 at h ⊢
  exact kg_X2_allGot_4 h K
theorem kg_X2_allGot {Q : Int64 → HS → Prop} {v0 : Nat} {S : HS} (h : P_X2_allGot v0 Q S) : P_X2_allGot v0 (fun r T => Q r T ∧ K5 S T) S := kg_X2_allGot_0 h (k5_rf S)
set_option maxRecDepth 20000 in
set_option maxHeartbeats 1000000 in
theorem kg_X3_init_0 {Q : HS → Prop} {v0 : Nat} {S0 S : HS} (h : P_X3_init_0 Q v0 S) (K : K5 S0 S) : P_X3_init_0 (fun T => Q T ∧ K5 S0 T) v0 S := by
  delta P_X3_init_0 at h ⊢
  exact ⟨h, K⟩
theorem kg_X3_init {Q : HS → Prop} {v0 : Nat} {S : HS} (h : P_X3_init v0 Q S) : P_X3_init v0 (fun T => Q T ∧ K5 S T) S := kg_X3_init_0 h (k5_rf S)
set_option maxRecDepth 20000 in
set_option maxHeartbeats 1000000 in
theorem kg_X4_fail_0 {Q : Int32 → HS → Prop} {v0 : Nat} {v1 : Int32} {S0 S : HS} (h : P_X4_fail_0 Q v0 v1 S) (K : K5 S0 S) : P_X4_fail_0 (fun r T => Q r T ∧ K5 S0 T) v0 v1 S := by
  delta P_X4_fail_0 at h ⊢
  obtain ⟨c1, h⟩ := h
  refine ⟨c1, ?_⟩
  have n2 := k5_ne K c1
  intro x4 e3
  have h := h x4 e3
  have K := k5_I K e3 n2 (by decide)
  intro x6 e5
  have h := h x6 e5
  intro x8 e7
  have h := h x8 e7
  have K := k5_I K e7 n2 (by decide)
  exact ⟨h, K⟩
theorem kg_X4_fail {Q : Int32 → HS → Prop} {v0 : Nat} {v1 : Int32} {S : HS} (h : P_X4_fail v0 v1 Q S) : P_X4_fail v0 v1 (fun r T => Q r T ∧ K5 S T) S := kg_X4_fail_0 h (k5_rf S)
set_option maxRecDepth 20000 in
set_option maxHeartbeats 1000000 in
theorem kg_X4_sortAt_58 {Q : Int32 → HS → Prop} {v2 : Int32} {S0 S : HS} (h : P_X4_sortAt_58 Q v2 S) (K : K5 S0 S) : P_X4_sortAt_58 (fun r T => Q r T ∧ K5 S0 T) v2 S := by
  delta P_X4_sortAt_58 at h ⊢
  refine ⟨?_, ?_, ?_, ?_⟩
  · intro c1
    have h := h.1 c1
    exact ⟨h, K⟩
  · intro c2
    have h := h.2.1 c2
    exact ⟨h, K⟩
  · intro c3
    have h := h.2.2.1 c3
    exact ⟨h, K⟩
  · intro c4
    have h := h.2.2.2 c4
    exact ⟨h, K⟩
set_option maxRecDepth 20000 in
set_option maxHeartbeats 1000000 in
theorem kg_X4_sortAt_44 {Q : Int32 → HS → Prop} {v2 : Int32} {S0 S : HS} (h : P_X4_sortAt_44 Q v2 S) (K : K5 S0 S) : P_X4_sortAt_44 (fun r T => Q r T ∧ K5 S0 T) v2 S := by
  delta P_X4_sortAt_44 at h ⊢
  refine ⟨?_, ?_⟩
  · intro c1
    have h := h.1 c1
    exact kg_X4_sortAt_58 h K
  · intro c2
    have h := h.2 c2
    refine ⟨?_, ?_⟩
    · intro c3
      have h := h.1 c3
      exact kg_X4_sortAt_58 h K
    · intro c4
      have h := h.2 c4
      exact ⟨h, K⟩
set_option maxRecDepth 20000 in
set_option maxHeartbeats 1000000 in
theorem kg_X4_sortAt_0 {Q : Int32 → HS → Prop} {v0 : Nat} {v1 : Int32} {S0 S : HS} (h : P_X4_sortAt_0 Q v0 v1 S) (K : K5 S0 S) : P_X4_sortAt_0 (fun r T => Q r T ∧ K5 S0 T) v0 v1 S := by
  delta P_X4_sortAt_0 at h ⊢
  refine ⟨?_, ?_⟩
  · intro c1
    have h := h.1 c1
    exact ⟨h, K⟩
  · intro c2
    have h := h.2 c2
    obtain ⟨c3, h⟩ := h
    refine ⟨c3, ?_⟩
    have n4 := k5_ne K c3
    intro x6 e5
    have h := h x6 e5
    refine ⟨?_, ?_⟩
    · intro c7
      have h := h.1 c7
      exact ⟨h, K⟩
    · intro c8
      have h := h.2 c8
      obtain ⟨b9, e10, h⟩ := h
      refine ⟨b9, e10, ?_⟩
      obtain ⟨c11, h⟩ := h
      refine ⟨c11, ?_⟩
      have n12 := k5_ne K c11
      refine ⟨?_, ?_⟩
      · intro c13
        have h := h.1 c13
        obtain ⟨b14, e15, h⟩ := h
        refine ⟨b14, e15, ?_⟩
        obtain ⟨c16, h⟩ := h
        refine ⟨c16, ?_⟩
        have n17 := k5_ne K c16
        obtain ⟨c18, h⟩ := h
        refine ⟨c18, ?_⟩
        intro x20 e19
        have h := h x20 e19
        refine ⟨?_, ?_⟩
        · intro c21
          have h := h.1 c21
          exact kg_X4_sortAt_44 h K
        · intro c22
          have h := h.2 c22
          refine ⟨?_, ?_⟩
          · intro c23
            have h := h.1 c23
            exact kg_X4_sortAt_44 h K
          · intro c24
            have h := h.2 c24
            exact ⟨h, K⟩
      · intro c25
        have h := h.2 c25
        exact ⟨h, K⟩
theorem kg_X4_sortAt {Q : Int32 → HS → Prop} {v0 : Nat} {v1 : Int32} {S : HS} (h : P_X4_sortAt v0 v1 Q S) : P_X4_sortAt v0 v1 (fun r T => Q r T ∧ K5 S T) S := kg_X4_sortAt_0 h (k5_rf S)
set_option maxRecDepth 20000 in
set_option maxHeartbeats 1000000 in
theorem kg_X4_next_201 {Q : HS → Prop} {X118 X118_2 : Nat → Int32 → Int32 → Int32 → Int32 → HS → Prop} {v0 : Nat} {v1 : Int32} {v2 : Int32} {v3 : Int32} {v4 : Int32} {S0 S : HS} (h : P_X4_next_201 Q X118 v0 v1 v2 v3 v4 S) (K : K5 S0 S) (hX118 : ∀ (u0 : Nat) (u1 : Int32) (u2 : Int32) (u3 : Int32) (u4 : Int32) (u5 : HS), X118 u0 u1 u2 u3 u4 u5 → K5 S0 u5 → X118_2 u0 u1 u2 u3 u4 u5) : P_X4_next_201 (fun T => Q T ∧ K5 S0 T) X118_2 v0 v1 v2 v3 v4 S := by
  delta P_X4_next_201 at h ⊢
  obtain ⟨c1, h⟩ := h
  refine ⟨c1, ?_⟩
  have n2 := k5_ne K c1
  intro x4 e3
  have h := h x4 e3
  intro x6 e5
  have h := h x6 e5
  intro x8 e7
  have h := h x8 e7
  have K := k5_I K e7 n2 (by decide)
  intro x10 e9
  have h := h x10 e9
  exact hX118 _ _ _ _ _ _ h K
set_option maxRecDepth 20000 in
set_option maxHeartbeats 1000000 in
theorem kg_X4_next_195 {Q : HS → Prop} {X118 X118_2 : Nat → Int32 → Int32 → Int32 → Int32 → HS → Prop} {v0 : Nat} {v1 : Int32} {v2 : Int32} {v3 : Int32} {v4 : Int32} {s0 : Nat} {s1 : Int64} {s2 : Int32} {s3 : Int32} {S0 S : HS} (h : P_X4_next_195 Q X118 v0 v1 v2 v3 v4 s0 s1 s2 s3 S) (K : K5 S0 S) (hX118 : ∀ (u0 : Nat) (u1 : Int32) (u2 : Int32) (u3 : Int32) (u4 : Int32) (u5 : HS), X118 u0 u1 u2 u3 u4 u5 → K5 S0 u5 → X118_2 u0 u1 u2 u3 u4 u5) : P_X4_next_195 (fun T => Q T ∧ K5 S0 T) X118_2 v0 v1 v2 v3 v4 s0 s1 s2 s3 S := by
  delta P_X4_next_195 at h ⊢
  obtain ⟨c1, h⟩ := h
  refine ⟨c1, ?_⟩
  have n2 := k5_ne K c1
  intro x4 e3
  have h := h x4 e3
  intro x6 e5
  have h := h x6 e5
  have K := k5_J K e5
  exact kg_X4_next_201 h K hX118
set_option maxRecDepth 20000 in
set_option maxHeartbeats 1000000 in
theorem kg_X4_next_240 {Q : HS → Prop} {v0 : Nat} {v1 : Int32} {S0 S : HS} (h : P_X4_next_240 Q v0 v1 S) (K : K5 S0 S) : P_X4_next_240 (fun T => Q T ∧ K5 S0 T) v0 v1 S := by
  delta P_X4_next_240 at h ⊢
  refine ⟨?_, ?_⟩
  · intro c1
    have h := h.1 c1
    exact ⟨h, K⟩
  · intro c2
    have h := h.2 c2
    obtain ⟨c3, h⟩ := h
    refine ⟨c3, ?_⟩
    have n4 := k5_ne K c3
    intro x6 e5
    have h := h x6 e5
    refine ⟨?_, ?_⟩
    · intro c7
      have h := h.1 c7
      exact ⟨h, K⟩
    · intro c8
      have h := h.2 c8
      intro x10 e9
      have h := h x10 e9
      intro x12 e11
      have h := h x12 e11
      intro x14 e13
      have h := h x14 e13
      have K := k5_I K e13 n4 (by decide)
      exact ⟨h, K⟩
set_option maxRecDepth 20000 in
set_option maxHeartbeats 1000000 in
theorem kg_X4_next_217 {Q : HS → Prop} {v0 : Nat} {v1 : Int32} {v2 : Int32} {S0 S : HS} (h : P_X4_next_217 Q v0 v1 v2 S) (K : K5 S0 S) : P_X4_next_217 (fun T => Q T ∧ K5 S0 T) v0 v1 v2 S := by
  delta P_X4_next_217 at h ⊢
  refine ⟨?_, ?_⟩
  · intro c1
    have h := h.1 c1
    exact kg_X4_next_240 h K
  · intro c2
    have h := h.2 c2
    obtain ⟨c3, h⟩ := h
    refine ⟨c3, ?_⟩
    have n4 := k5_ne K c3
    intro x6 e5
    have h := h x6 e5
    intro x8 e7
    have h := h x8 e7
    refine ⟨?_, ?_⟩
    · intro c9
      have h := h.1 c9
      exact kg_X4_next_240 h K
    · intro c10
      have h := h.2 c10
      intro x12 e11
      have h := h x12 e11
      have K := k5_I K e11 n4 (by decide)
      exact kg_X4_next_240 h K
set_option maxRecDepth 20000 in
set_option maxHeartbeats 1000000 in
theorem kgB_X4_next_118 {Q : HS → Prop} {X118 X118_2 : Nat → Int32 → Int32 → Int32 → Int32 → HS → Prop} {v0 : Nat} {v1 : Int32} {v2 : Int32} {v3 : Int32} {v4 : Int32} {S0 S : HS} (h : B_X4_next_118 Q X118 v0 v1 v2 v3 v4 S) (K : K5 S0 S) (hX118 : ∀ (u0 : Nat) (u1 : Int32) (u2 : Int32) (u3 : Int32) (u4 : Int32) (u5 : HS), X118 u0 u1 u2 u3 u4 u5 → K5 S0 u5 → X118_2 u0 u1 u2 u3 u4 u5) : B_X4_next_118 (fun T => Q T ∧ K5 S0 T) X118_2 v0 v1 v2 v3 v4 S := by
  delta B_X4_next_118 at h ⊢
  refine ⟨?_, ?_⟩
  · intro c1
    have h := h.1 c1
    exact kg_X4_next_217 h K
  · intro c2
    have h := h.2 c2
    refine ⟨?_, ?_⟩
    · intro c3
      have h := h.1 c3
      exact kg_X4_next_217 h K
    · intro c4
      have h := h.2 c4
      obtain ⟨c5, h⟩ := h
      refine ⟨c5, ?_⟩
      have n6 := k5_ne K c5
      intro x8 e7
      have h := h x8 e7
      refine cm_X4_sortAt (kg_X4_sortAt h) h (fun x9 x10 hp h g11 => ?_)
      have h := h g11
      have K := k5_tr K hp.2
      intro x13 e12
      have h := h x13 e12
      refine ⟨?_, ?_⟩
      · intro c14
        have h := h.1 c14
        exact kg_X4_next_217 h K
      · intro c15
        have h := h.2 c15
        refine ⟨?_, ?_⟩
        · intro c16
          have h := h.1 c16
          exact kg_X4_next_201 h K hX118
        · intro c17
          have h := h.2 c17
          intro x19 e18
          have h := h x19 e18
          obtain ⟨b20, e21, h⟩ := h
          refine ⟨b20, e21, ?_⟩
          obtain ⟨c22, h⟩ := h
          refine ⟨c22, ?_⟩
          have n23 := k5_ne K c22
          refine ⟨?_, ?_⟩
          · intro c24
            have h := h.1 c24
            exact kg_X4_next_201 h K hX118
          · intro c25
            have h := h.2 c25
            intro x27 e26
            have h := h x27 e26
            obtain ⟨b28, e29, h⟩ := h
            refine ⟨b28, e29, ?_⟩
            intro x31 e30
            have h := h x31 e30
            obtain ⟨c32, h⟩ := h
            refine ⟨c32, ?_⟩
            have n33 := k5_ne K c32
            obtain ⟨c34, h⟩ := h
            refine ⟨c34, ?_⟩
            intro x36 e35
            have h := h x36 e35
            intro x38 e37
            have h := h x38 e37
            refine ⟨?_, ?_⟩
            · intro c39
              have h := h.1 c39
              exact kg_X4_next_195 h K hX118
            · intro c40
              have h := h.2 c40
              exact kg_X4_next_195 h K hX118
theorem kg_X4_next_118 {Q : HS → Prop} {v0 : Nat} {v1 : Int32} {v2 : Int32} {v3 : Int32} {v4 : Int32} {S0 S : HS} (h : P_X4_next_118 Q v0 v1 v2 v3 v4 S) (K : K5 S0 S) : P_X4_next_118 (fun T => Q T ∧ K5 S0 T) v0 v1 v2 v3 v4 S := h (fun v0 v1 v2 v3 v4 S => K5 S0 S → P_X4_next_118 (fun T => Q T ∧ K5 S0 T) v0 v1 v2 v3 v4 S) (fun v0 v1 v2 v3 v4 S hB K => fd_X4_next_118 (kgB_X4_next_118 hB K (fun _ _ _ _ _ _ hx K => hx K))) K
set_option maxRecDepth 20000 in
set_option maxHeartbeats 1000000 in
theorem kg_X4_next_114 {Q : HS → Prop} {v0 : Nat} {v1 : Int32} {v2 : Int32} {s0 : Int32} {S0 S : HS} (h : P_X4_next_114 Q v0 v1 v2 s0 S) (K : K5 S0 S) : P_X4_next_114 (fun T => Q T ∧ K5 S0 T) v0 v1 v2 s0 S := by
  delta P_X4_next_114 at h ⊢
  exact kg_X4_next_118 h K
set_option maxRecDepth 20000 in
set_option maxHeartbeats 1000000 in
theorem kg_X4_next_98 {Q : HS → Prop} {v0 : Nat} {v1 : Int32} {s0 : Int32} {S0 S : HS} (h : P_X4_next_98 Q v0 v1 s0 S) (K : K5 S0 S) : P_X4_next_98 (fun T => Q T ∧ K5 S0 T) v0 v1 s0 S := by
  delta P_X4_next_98 at h ⊢
  obtain ⟨c1, h⟩ := h
  refine ⟨c1, ?_⟩
  have n2 := k5_ne K c1
  intro x4 e3
  have h := h x4 e3
  refine ⟨?_, ?_⟩
  · intro c5
    have h := h.1 c5
    exact kg_X4_next_114 h K
  · intro c6
    have h := h.2 c6
    exact kg_X4_next_114 h K
set_option maxRecDepth 20000 in
set_option maxHeartbeats 1000000 in
theorem kg_X4_next_83 {Q : HS → Prop} {v0 : Nat} {s0 : Int32} {S0 S : HS} (h : P_X4_next_83 Q v0 s0 S) (K : K5 S0 S) : P_X4_next_83 (fun T => Q T ∧ K5 S0 T) v0 s0 S := by
  delta P_X4_next_83 at h ⊢
  obtain ⟨c1, h⟩ := h
  refine ⟨c1, ?_⟩
  have n2 := k5_ne K c1
  intro x4 e3
  have h := h x4 e3
  refine ⟨?_, ?_⟩
  · intro c5
    have h := h.1 c5
    exact kg_X4_next_98 h K
  · intro c6
    have h := h.2 c6
    exact kg_X4_next_98 h K
set_option maxRecDepth 20000 in
set_option maxHeartbeats 1000000 in
theorem kg_X4_next_78 {Q : HS → Prop} {v0 : Nat} {S0 S : HS} (h : P_X4_next_78 Q v0 S) (K : K5 S0 S) : P_X4_next_78 (fun T => Q T ∧ K5 S0 T) v0 S := by
  delta P_X4_next_78 at h ⊢
  exact kg_X4_next_83 h K
set_option maxRecDepth 20000 in
set_option maxHeartbeats 1000000 in
theorem kg_X4_next_37 {Q : HS → Prop} {v0 : Nat} {S0 S : HS} (h : P_X4_next_37 Q v0 S) (K : K5 S0 S) : P_X4_next_37 (fun T => Q T ∧ K5 S0 T) v0 S := by
  delta P_X4_next_37 at h ⊢
  obtain ⟨c1, h⟩ := h
  refine ⟨c1, ?_⟩
  have n2 := k5_ne K c1
  intro x4 e3
  have h := h x4 e3
  intro x6 e5
  have h := h x6 e5
  have K := k5_I K e5 n2 (by decide)
  intro x8 e7
  have h := h x8 e7
  refine cm_X4_sortAt (kg_X4_sortAt h) h (fun x9 x10 hp h g11 => ?_)
  have h := h g11
  have K := k5_tr K hp.2
  intro x13 e12
  have h := h x13 e12
  have K := k5_I K e12 n2 (by decide)
  intro x15 e14
  have h := h x15 e14
  have K := k5_J K e14
  intro x17 e16
  have h := h x17 e16
  refine ⟨?_, ?_⟩
  · intro c18
    have h := h.1 c18
    exact kg_X4_next_78 h K
  · intro c19
    have h := h.2 c19
    intro x21 e20
    have h := h x21 e20
    refine ⟨?_, ?_⟩
    · intro c22
      have h := h.1 c22
      exact kg_X4_next_83 h K
    · intro c23
      have h := h.2 c23
      exact kg_X4_next_78 h K
set_option maxRecDepth 20000 in
set_option maxHeartbeats 1000000 in
theorem kgB_X4_next_2 {Q : HS → Prop} {X2 X2_2 : Nat → Int32 → HS → Prop} {v0 : Nat} {v1 : Int32} {S0 S : HS} (h : B_X4_next_2 Q X2 v0 v1 S) (K : K5 S0 S) (hX2 : ∀ (u0 : Nat) (u1 : Int32) (u2 : HS), X2 u0 u1 u2 → K5 S0 u2 → X2_2 u0 u1 u2) : B_X4_next_2 (fun T => Q T ∧ K5 S0 T) X2_2 v0 v1 S := by
  delta B_X4_next_2 at h ⊢
  refine ⟨?_, ?_⟩
  · intro c1
    have h := h.1 c1
    exact kg_X4_next_37 h K
  · intro c2
    have h := h.2 c2
    obtain ⟨c3, h⟩ := h
    refine ⟨c3, ?_⟩
    have n4 := k5_ne K c3
    intro x6 e5
    have h := h x6 e5
    refine cm_X4_sortAt (kg_X4_sortAt h) h (fun x7 x8 hp h g9 => ?_)
    have h := h g9
    have K := k5_tr K hp.2
    refine ⟨?_, ?_⟩
    · intro c10
      have h := h.1 c10
      exact kg_X4_next_37 h K
    · intro c11
      have h := h.2 c11
      intro x13 e12
      have h := h x13 e12
      intro x15 e14
      have h := h x15 e14
      intro x17 e16
      have h := h x17 e16
      have K := k5_I K e16 n4 (by decide)
      intro x19 e18
      have h := h x19 e18
      exact hX2 _ _ _ h K
theorem kg_X4_next_2 {Q : HS → Prop} {v0 : Nat} {v1 : Int32} {S0 S : HS} (h : P_X4_next_2 Q v0 v1 S) (K : K5 S0 S) : P_X4_next_2 (fun T => Q T ∧ K5 S0 T) v0 v1 S := h (fun v0 v1 S => K5 S0 S → P_X4_next_2 (fun T => Q T ∧ K5 S0 T) v0 v1 S) (fun v0 v1 S hB K => fd_X4_next_2 (kgB_X4_next_2 hB K (fun _ _ _ hx K => hx K))) K
set_option maxRecDepth 20000 in
set_option maxHeartbeats 1000000 in
theorem kg_X4_next_0 {Q : HS → Prop} {v0 : Nat} {S0 S : HS} (h : P_X4_next_0 Q v0 S) (K : K5 S0 S) : P_X4_next_0 (fun T => Q T ∧ K5 S0 T) v0 S := by
  delta P_X4_next_0 at h ⊢
  exact kg_X4_next_2 h K
theorem kg_X4_next {Q : HS → Prop} {v0 : Nat} {S : HS} (h : P_X4_next v0 Q S) : P_X4_next v0 (fun T => Q T ∧ K5 S T) S := kg_X4_next_0 h (k5_rf S)
set_option maxRecDepth 20000 in
set_option maxHeartbeats 1000000 in
theorem kg_X4_whole_34 {Q : Int32 → HS → Prop} {v0 : Nat} {S0 S : HS} (h : P_X4_whole_34 Q v0 S) (K : K5 S0 S) : P_X4_whole_34 (fun r T => Q r T ∧ K5 S0 T) v0 S := by
  delta P_X4_whole_34 at h ⊢
  obtain ⟨c1, h⟩ := h
  refine ⟨c1, ?_⟩
  have n2 := k5_ne K c1
  refine cm_X4_fail (kg_X4_fail h) h (fun x3 x4 hp h g5 g6 => ?_)
  have h := h g5 g6
  have K := k5_tr K hp.2
  obtain ⟨c7, h⟩ := h
  refine ⟨c7, ?_⟩
  exact ⟨h, K⟩
set_option maxRecDepth 20000 in
set_option maxHeartbeats 1000000 in
theorem kg_X4_whole_0 {Q : Int32 → HS → Prop} {v0 : Nat} {v1 : Int32} {v2 : Int32} {S0 S : HS} (h : P_X4_whole_0 Q v0 v1 v2 S) (K : K5 S0 S) : P_X4_whole_0 (fun r T => Q r T ∧ K5 S0 T) v0 v1 v2 S := by
  delta P_X4_whole_0 at h ⊢
  obtain ⟨c1, h⟩ := h
  refine ⟨c1, ?_⟩
  have n2 := k5_ne K c1
  intro x4 e3
  have h := h x4 e3
  refine ⟨?_, ?_⟩
  · intro c5
    have h := h.1 c5
    intro x7 e6
    have h := h x7 e6
    refine ⟨?_, ?_⟩
    · intro c8
      have h := h.1 c8
      exact kg_X4_whole_34 h K
    · intro c9
      have h := h.2 c9
      intro x11 e10
      have h := h x11 e10
      refine ⟨?_, ?_⟩
      · intro c12
        have h := h.1 c12
        intro x14 e13
        have h := h x14 e13
        intro x16 e15
        have h := h x16 e15
        intro x18 e17
        have h := h x18 e17
        have K := k5_I K e17 n2 (by decide)
        refine cm_X4_next (kg_X4_next h) h (fun x19 hp h g20 => ?_)
        have h := h g20
        have K := k5_tr K hp.2
        exact ⟨h, K⟩
      · intro c21
        have h := h.2 c21
        exact kg_X4_whole_34 h K
  · intro c22
    have h := h.2 c22
    refine cm_X4_fail (kg_X4_fail h) h (fun x23 x24 hp h g25 g26 => ?_)
    have h := h g25 g26
    have K := k5_tr K hp.2
    obtain ⟨c27, h⟩ := h
    refine ⟨c27, ?_⟩
    exact ⟨h, K⟩
theorem kg_X4_whole {Q : Int32 → HS → Prop} {v0 : Nat} {v1 : Int32} {v2 : Int32} {S : HS} (h : P_X4_whole v0 v1 v2 Q S) : P_X4_whole v0 v1 v2 (fun r T => Q r T ∧ K5 S T) S := kg_X4_whole_0 h (k5_rf S)
set_option maxRecDepth 20000 in
set_option maxHeartbeats 1000000 in
theorem kgB_X4_is_15 {Q : Int32 → HS → Prop} {X15 X15_2 : Nat → Nat → Int64 → Int32 → HS → Prop} {v0 : Nat} {v1 : Nat} {v2 : Int64} {v4 : Int32} {S0 S : HS} (h : B_X4_is_15 Q X15 v0 v1 v2 v4 S) (K : K5 S0 S) (hX15 : ∀ (u0 : Nat) (u1 : Nat) (u2 : Int64) (u3 : Int32) (u4 : HS), X15 u0 u1 u2 u3 u4 → K5 S0 u4 → X15_2 u0 u1 u2 u3 u4) : B_X4_is_15 (fun r T => Q r T ∧ K5 S0 T) X15_2 v0 v1 v2 v4 S := by
  delta B_X4_is_15 at h ⊢
  obtain ⟨c1, h⟩ := h
  refine ⟨c1, ?_⟩
  intro x3 e2
  have h := h x3 e2
  refine ⟨?_, ?_⟩
  · intro c4
    have h := h.1 c4
    obtain ⟨c5, h⟩ := h
    refine ⟨c5, ?_⟩
    have n6 := k5_ne K c5
    intro x8 e7
    have h := h x8 e7
    refine ⟨?_, ?_⟩
    · intro c9
      have h := h.1 c9
      exact ⟨h, K⟩
    · intro c10
      have h := h.2 c10
      exact ⟨h, K⟩
  · intro c11
    have h := h.2 c11
    obtain ⟨c12, h⟩ := h
    refine ⟨c12, ?_⟩
    obtain ⟨c13, h⟩ := h
    refine ⟨c13, ?_⟩
    intro x15 e14
    have h := h x15 e14
    intro x17 e16
    have h := h x17 e16
    intro x19 e18
    have h := h x19 e18
    exact hX15 _ _ _ _ _ h K
theorem kg_X4_is_15 {Q : Int32 → HS → Prop} {v0 : Nat} {v1 : Nat} {v2 : Int64} {v4 : Int32} {S0 S : HS} (h : P_X4_is_15 Q v0 v1 v2 v4 S) (K : K5 S0 S) : P_X4_is_15 (fun r T => Q r T ∧ K5 S0 T) v0 v1 v2 v4 S := h (fun v0 v1 v2 v4 S => K5 S0 S → P_X4_is_15 (fun r T => Q r T ∧ K5 S0 T) v0 v1 v2 v4 S) (fun v0 v1 v2 v4 S hB K => fd_X4_is_15 (kgB_X4_is_15 hB K (fun _ _ _ _ _ hx K => hx K))) K
set_option maxRecDepth 20000 in
set_option maxHeartbeats 1000000 in
theorem kg_X4_is_0 {Q : Int32 → HS → Prop} {v0 : Nat} {v1 : Nat} {S0 S : HS} (h : P_X4_is_0 Q v0 v1 S) (K : K5 S0 S) : P_X4_is_0 (fun r T => Q r T ∧ K5 S0 T) v0 v1 S := by
  delta P_X4_is_0 at h ⊢
  obtain ⟨c1, h⟩ := h
  refine ⟨c1, ?_⟩
  have n2 := k5_ne K c1
  intro x4 e3
  have h := h x4 e3
  refine ⟨?_, ?_⟩
  · intro c5
    have h := h.1 c5
    exact kg_X4_is_15 h K
  · intro c6
    have h := h.2 c6
    exact ⟨h, K⟩
theorem kg_X4_is {Q : Int32 → HS → Prop} {v0 : Nat} {v1 : Nat} {S : HS} (h : P_X4_is v0 v1 Q S) : P_X4_is v0 v1 (fun r T => Q r T ∧ K5 S T) S := kg_X4_is_0 h (k5_rf S)
set_option maxRecDepth 20000 in
set_option maxHeartbeats 1000000 in
theorem kg_X4_word_0 {Q : Int32 → HS → Prop} {v0 : Nat} {v1 : Nat} {S0 S : HS} (h : P_X4_word_0 Q v0 v1 S) (K : K5 S0 S) : P_X4_word_0 (fun r T => Q r T ∧ K5 S0 T) v0 v1 S := by
  delta P_X4_word_0 at h ⊢
  obtain ⟨c1, h⟩ := h
  refine ⟨c1, ?_⟩
  have n2 := k5_ne K c1
  refine cm_X4_is (kg_X4_is h) h (fun x3 x4 hp h g5 g6 => ?_)
  have h := h g5 g6
  have K := k5_tr K hp.2
  refine ⟨?_, ?_⟩
  · intro c7
    have h := h.1 c7
    refine cm_X4_next (kg_X4_next h) h (fun x8 hp h g9 => ?_)
    have h := h g9
    have K := k5_tr K hp.2
    exact ⟨h, K⟩
  · intro c10
    have h := h.2 c10
    refine cm_X4_fail (kg_X4_fail h) h (fun x11 x12 hp h g13 g14 => ?_)
    have h := h g13 g14
    have K := k5_tr K hp.2
    obtain ⟨c15, h⟩ := h
    refine ⟨c15, ?_⟩
    exact ⟨h, K⟩
theorem kg_X4_word {Q : Int32 → HS → Prop} {v0 : Nat} {v1 : Nat} {S : HS} (h : P_X4_word v0 v1 Q S) : P_X4_word v0 v1 (fun r T => Q r T ∧ K5 S T) S := kg_X4_word_0 h (k5_rf S)
set_option maxRecDepth 20000 in
set_option maxHeartbeats 1000000 in
theorem kg_X4_wordAndWhole_0 {Q : Int32 → HS → Prop} {v0 : Nat} {v1 : Nat} {v2 : Int32} {v3 : Int32} {S0 S : HS} (h : P_X4_wordAndWhole_0 Q v0 v1 v2 v3 S) (K : K5 S0 S) : P_X4_wordAndWhole_0 (fun r T => Q r T ∧ K5 S0 T) v0 v1 v2 v3 S := by
  delta P_X4_wordAndWhole_0 at h ⊢
  obtain ⟨c1, h⟩ := h
  refine ⟨c1, ?_⟩
  have n2 := k5_ne K c1
  refine cm_X4_word (kg_X4_word h) h (fun x3 x4 hp h g5 g6 => ?_)
  have h := h g5 g6
  have K := k5_tr K hp.2
  refine ⟨?_, ?_⟩
  · intro c7
    have h := h.1 c7
    exact ⟨h, K⟩
  · intro c8
    have h := h.2 c8
    refine cm_X4_whole (kg_X4_whole h) h (fun x9 x10 hp h g11 g12 => ?_)
    have h := h g11 g12
    have K := k5_tr K hp.2
    refine ⟨?_, ?_⟩
    · intro c13
      have h := h.1 c13
      exact ⟨h, K⟩
    · intro c14
      have h := h.2 c14
      exact ⟨h, K⟩
theorem kg_X4_wordAndWhole {Q : Int32 → HS → Prop} {v0 : Nat} {v1 : Nat} {v2 : Int32} {v3 : Int32} {S : HS} (h : P_X4_wordAndWhole v0 v1 v2 v3 Q S) : P_X4_wordAndWhole v0 v1 v2 v3 (fun r T => Q r T ∧ K5 S T) S := kg_X4_wordAndWhole_0 h (k5_rf S)
set_option maxRecDepth 20000 in
set_option maxHeartbeats 1000000 in
theorem kg_X6_shape_16 {Q : HS → Prop} {v0 : Nat} {v1 : Int32} {v2 : Int32} {v3 : Int32} {s0 : Int32} {S0 S : HS} (h : P_X6_shape_16 Q v0 v1 v2 v3 s0 S) (K : K5 S0 S) : P_X6_shape_16 (fun T => Q T ∧ K5 S0 T) v0 v1 v2 v3 s0 S := by
  delta P_X6_shape_16 at h ⊢
  obtain ⟨c1, h⟩ := h
  refine ⟨c1, ?_⟩
  have n2 := k5_ne K c1
  intro x4 e3
  have h := h x4 e3
  intro x6 e5
  have h := h x6 e5
  have K := k5_I K e5 n2 (by decide)
  intro x8 e7
  have h := h x8 e7
  intro x10 e9
  have h := h x10 e9
  have K := k5_I K e9 n2 (by decide)
  intro x12 e11
  have h := h x12 e11
  intro x14 e13
  have h := h x14 e13
  have K := k5_I K e13 n2 (by decide)
  exact ⟨h, K⟩
set_option maxRecDepth 20000 in
set_option maxHeartbeats 1000000 in
theorem kg_X6_shape_0 {Q : HS → Prop} {v0 : Nat} {v1 : Int32} {v2 : Int32} {v3 : Int32} {S0 S : HS} (h : P_X6_shape_0 Q v0 v1 v2 v3 S) (K : K5 S0 S) : P_X6_shape_0 (fun T => Q T ∧ K5 S0 T) v0 v1 v2 v3 S := by
  delta P_X6_shape_0 at h ⊢
  obtain ⟨c1, h⟩ := h
  refine ⟨c1, ?_⟩
  have n2 := k5_ne K c1
  intro x4 e3
  have h := h x4 e3
  refine ⟨?_, ?_⟩
  · intro c5
    have h := h.1 c5
    exact kg_X6_shape_16 h K
  · intro c6
    have h := h.2 c6
    intro x8 e7
    have h := h x8 e7
    exact kg_X6_shape_16 h K
theorem kg_X6_shape {Q : HS → Prop} {v0 : Nat} {v1 : Int32} {v2 : Int32} {v3 : Int32} {S : HS} (h : P_X6_shape v0 v1 v2 v3 Q S) : P_X6_shape v0 v1 v2 v3 (fun T => Q T ∧ K5 S T) S := kg_X6_shape_0 h (k5_rf S)
set_option maxRecDepth 20000 in
set_option maxHeartbeats 1000000 in
theorem kg_X4_bodyOf_58 {Q : Int32 → HS → Prop} {v0 : Nat} {v1 : Nat} {v2 : Int32} {v3 : Int32} {s0 : Int32} {S0 S : HS} (h : P_X4_bodyOf_58 Q v0 v1 v2 v3 s0 S) (K : K5 S0 S) : P_X4_bodyOf_58 (fun r T => Q r T ∧ K5 S0 T) v0 v1 v2 v3 s0 S := by
  delta P_X4_bodyOf_58 at h ⊢
  obtain ⟨c1, h⟩ := h
  refine ⟨c1, ?_⟩
  have n2 := k5_ne K c1
  refine cm_X4_wordAndWhole (kg_X4_wordAndWhole h) h (fun x3 x4 hp h g5 g6 => ?_)
  have h := h g5 g6
  have K := k5_tr K hp.2
  refine ⟨?_, ?_⟩
  · intro c7
    have h := h.1 c7
    intro x9 e8
    have h := h x9 e8
    obtain ⟨c10, h⟩ := h
    refine ⟨c10, ?_⟩
    have n11 := k5_ne K c10
    refine cm_X6_shape (kg_X6_shape h) h (fun x12 hp h g13 => ?_)
    have h := h g13
    have K := k5_tr K hp.2
    exact ⟨h, K⟩
  · intro c14
    have h := h.2 c14
    exact ⟨h, K⟩
set_option maxRecDepth 20000 in
set_option maxHeartbeats 1000000 in
theorem kg_X4_bodyOf_0 {Q : Int32 → HS → Prop} {v0 : Nat} {v1 : Nat} {S0 S : HS} (h : P_X4_bodyOf_0 Q v0 v1 S) (K : K5 S0 S) : P_X4_bodyOf_0 (fun r T => Q r T ∧ K5 S0 T) v0 v1 S := by
  delta P_X4_bodyOf_0 at h ⊢
  obtain ⟨c1, h⟩ := h
  refine ⟨c1, ?_⟩
  have n2 := k5_ne K c1
  refine cm_X4_wordAndWhole (kg_X4_wordAndWhole h) h (fun x3 x4 hp h g5 g6 => ?_)
  have h := h g5 g6
  have K := k5_tr K hp.2
  refine ⟨?_, ?_⟩
  · intro c7
    have h := h.1 c7
    intro x9 e8
    have h := h x9 e8
    refine cm_X4_wordAndWhole (kg_X4_wordAndWhole h) h (fun x10 x11 hp h g12 g13 => ?_)
    have h := h g12 g13
    have K := k5_tr K hp.2
    refine ⟨?_, ?_⟩
    · intro c14
      have h := h.1 c14
      intro x16 e15
      have h := h x16 e15
      obtain ⟨c17, h⟩ := h
      refine ⟨c17, ?_⟩
      have n18 := k5_ne K c17
      intro x20 e19
      have h := h x20 e19
      refine ⟨?_, ?_⟩
      · intro c21
        have h := h.1 c21
        exact kg_X4_bodyOf_58 h K
      · intro c22
        have h := h.2 c22
        intro x24 e23
        have h := h x24 e23
        exact kg_X4_bodyOf_58 h K
    · intro c25
      have h := h.2 c25
      exact ⟨h, K⟩
  · intro c26
    have h := h.2 c26
    exact ⟨h, K⟩
theorem kg_X4_bodyOf {Q : Int32 → HS → Prop} {v0 : Nat} {v1 : Nat} {S : HS} (h : P_X4_bodyOf v0 v1 Q S) : P_X4_bodyOf v0 v1 (fun r T => Q r T ∧ K5 S T) S := kg_X4_bodyOf_0 h (k5_rf S)
set_option maxRecDepth 20000 in
set_option maxHeartbeats 1000000 in
theorem kg_X4_canBeName_86 {Q : Int32 → HS → Prop} {v0 : Nat} {s0 : Int32} {S0 S : HS} (h : P_X4_canBeName_86 Q v0 s0 S) (K : K5 S0 S) : P_X4_canBeName_86 (fun r T => Q r T ∧ K5 S0 T) v0 s0 S := by
  delta P_X4_canBeName_86 at h ⊢
  obtain ⟨c1, h⟩ := h
  refine ⟨c1, ?_⟩
  have n2 := k5_ne K c1
  intro x4 e3
  have h := h x4 e3
  refine ⟨?_, ?_⟩
  · intro c5
    have h := h.1 c5
    exact ⟨h, K⟩
  · intro c6
    have h := h.2 c6
    refine ⟨?_, ?_⟩
    · intro c7
      have h := h.1 c7
      exact ⟨h, K⟩
    · intro c8
      have h := h.2 c8
      exact ⟨h, K⟩
set_option maxRecDepth 20000 in
set_option maxHeartbeats 1000000 in
theorem kg_X4_canBeName_81 {Q : Int32 → HS → Prop} {v0 : Nat} {S0 S : HS} (h : P_X4_canBeName_81 Q v0 S) (K : K5 S0 S) : P_X4_canBeName_81 (fun r T => Q r T ∧ K5 S0 T) v0 S := by
  delta P_X4_canBeName_81 at h ⊢
  exact kg_X4_canBeName_86 h K
set_option maxRecDepth 20000 in
set_option maxHeartbeats 1000000 in
theorem kg_X4_canBeName_0 {Q : Int32 → HS → Prop} {v0 : Nat} {S0 S : HS} (h : P_X4_canBeName_0 Q v0 S) (K : K5 S0 S) : P_X4_canBeName_0 (fun r T => Q r T ∧ K5 S0 T) v0 S := by
  delta P_X4_canBeName_0 at h ⊢
  obtain ⟨c1, h⟩ := h
  refine ⟨c1, ?_⟩
  have n2 := k5_ne K c1
  refine cm_X4_is (kg_X4_is h) h (fun x3 x4 hp h g5 g6 => ?_)
  have h := h g5 g6
  have K := k5_tr K hp.2
  refine ⟨?_, ?_⟩
  · intro c7
    have h := h.1 c7
    exact kg_X4_canBeName_81 h K
  · intro c8
    have h := h.2 c8
    refine cm_X4_is (kg_X4_is h) h (fun x9 x10 hp h g11 g12 => ?_)
    have h := h g11 g12
    have K := k5_tr K hp.2
    refine ⟨?_, ?_⟩
    · intro c13
      have h := h.1 c13
      exact kg_X4_canBeName_81 h K
    · intro c14
      have h := h.2 c14
      refine cm_X4_is (kg_X4_is h) h (fun x15 x16 hp h g17 g18 => ?_)
      have h := h g17 g18
      have K := k5_tr K hp.2
      refine ⟨?_, ?_⟩
      · intro c19
        have h := h.1 c19
        exact kg_X4_canBeName_81 h K
      · intro c20
        have h := h.2 c20
        refine cm_X4_is (kg_X4_is h) h (fun x21 x22 hp h g23 g24 => ?_)
        have h := h g23 g24
        have K := k5_tr K hp.2
        refine ⟨?_, ?_⟩
        · intro c25
          have h := h.1 c25
          exact kg_X4_canBeName_81 h K
        · intro c26
          have h := h.2 c26
          refine cm_X4_is (kg_X4_is h) h (fun x27 x28 hp h g29 g30 => ?_)
          have h := h g29 g30
          have K := k5_tr K hp.2
          refine ⟨?_, ?_⟩
          · intro c31
            have h := h.1 c31
            exact kg_X4_canBeName_81 h K
          · intro c32
            have h := h.2 c32
            refine cm_X4_is (kg_X4_is h) h (fun x33 x34 hp h g35 g36 => ?_)
            have h := h g35 g36
            have K := k5_tr K hp.2
            refine ⟨?_, ?_⟩
            · intro c37
              have h := h.1 c37
              exact kg_X4_canBeName_81 h K
            · intro c38
              have h := h.2 c38
              refine cm_X4_is (kg_X4_is h) h (fun x39 x40 hp h g41 g42 => ?_)
              have h := h g41 g42
              have K := k5_tr K hp.2
              refine ⟨?_, ?_⟩
              · intro c43
                have h := h.1 c43
                exact kg_X4_canBeName_81 h K
              · intro c44
                have h := h.2 c44
                refine cm_X4_is (kg_X4_is h) h (fun x45 x46 hp h g47 g48 => ?_)
                have h := h g47 g48
                have K := k5_tr K hp.2
                refine ⟨?_, ?_⟩
                · intro c49
                  have h := h.1 c49
                  exact kg_X4_canBeName_81 h K
                · intro c50
                  have h := h.2 c50
                  refine cm_X4_is (kg_X4_is h) h (fun x51 x52 hp h g53 g54 => ?_)
                  have h := h g53 g54
                  have K := k5_tr K hp.2
                  refine ⟨?_, ?_⟩
                  · intro c55
                    have h := h.1 c55
                    exact kg_X4_canBeName_86 h K
                  · intro c56
                    have h := h.2 c56
                    exact kg_X4_canBeName_81 h K
theorem kg_X4_canBeName {Q : Int32 → HS → Prop} {v0 : Nat} {S : HS} (h : P_X4_canBeName v0 Q S) : P_X4_canBeName v0 (fun r T => Q r T ∧ K5 S T) S := kg_X4_canBeName_0 h (k5_rf S)
set_option maxRecDepth 20000 in
set_option maxHeartbeats 1000000 in
theorem kg_X4_exchange_0 {Q : Nat → HS → Prop} {v0 : Nat} {v1 : Nat} {S0 S : HS} (h : P_X4_exchange_0 Q v0 v1 S) (K : K5 S0 S) : P_X4_exchange_0 (fun r T => Q r T ∧ K5 S0 T) v0 v1 S := by
  delta P_X4_exchange_0 at h ⊢
  obtain ⟨c1, h⟩ := h
  refine ⟨c1, ?_⟩
  have n2 := k5_ne K c1
  obtain ⟨b3, e4, h⟩ := h
  refine ⟨b3, e4, ?_⟩
  intro x6 e5
  have h := h x6 e5
  have K := k5_R K e5
  exact ⟨h, K⟩
theorem kg_X4_exchange {Q : Nat → HS → Prop} {v0 : Nat} {v1 : Nat} {S : HS} (h : P_X4_exchange v0 v1 Q S) : P_X4_exchange v0 v1 (fun r T => Q r T ∧ K5 S T) S := kg_X4_exchange_0 h (k5_rf S)
set_option maxRecDepth 20000 in
set_option maxHeartbeats 1000000 in
theorem kgB_X4_findName_2 {Q : Int32 → HS → Prop} {X2 X2_2 : Nat → Int32 → HS → Prop} {v0 : Nat} {v1 : Int32} {S0 S : HS} (h : B_X4_findName_2 Q X2 v0 v1 S) (K : K5 S0 S) (hX2 : ∀ (u0 : Nat) (u1 : Int32) (u2 : HS), X2 u0 u1 u2 → K5 S0 u2 → X2_2 u0 u1 u2) : B_X4_findName_2 (fun r T => Q r T ∧ K5 S0 T) X2_2 v0 v1 S := by
  delta B_X4_findName_2 at h ⊢
  obtain ⟨c1, h⟩ := h
  refine ⟨c1, ?_⟩
  have n2 := k5_ne K c1
  intro x4 e3
  have h := h x4 e3
  refine ⟨?_, ?_⟩
  · intro c5
    have h := h.1 c5
    exact ⟨h, K⟩
  · intro c6
    have h := h.2 c6
    refine ⟨?_, ?_⟩
    · intro c7
      have h := h.1 c7
      exact ⟨h, K⟩
    · intro c8
      have h := h.2 c8
      obtain ⟨b9, e10, h⟩ := h
      refine ⟨b9, e10, ?_⟩
      obtain ⟨c11, h⟩ := h
      refine ⟨c11, ?_⟩
      have n12 := k5_ne K c11
      obtain ⟨c13, h⟩ := h
      refine ⟨c13, ?_⟩
      intro x15 e14
      have h := h x15 e14
      intro x17 e16
      have h := h x17 e16
      refine ⟨?_, ?_⟩
      · intro c18
        have h := h.1 c18
        intro x20 e19
        have h := h x20 e19
        exact hX2 _ _ _ h K
      · intro c21
        have h := h.2 c21
        obtain ⟨b22, e23, h⟩ := h
        refine ⟨b22, e23, ?_⟩
        obtain ⟨c24, h⟩ := h
        refine ⟨c24, ?_⟩
        have n25 := k5_ne K c24
        obtain ⟨c26, h⟩ := h
        refine ⟨c26, ?_⟩
        intro x28 e27
        have h := h x28 e27
        exact ⟨h, K⟩
theorem kg_X4_findName_2 {Q : Int32 → HS → Prop} {v0 : Nat} {v1 : Int32} {S0 S : HS} (h : P_X4_findName_2 Q v0 v1 S) (K : K5 S0 S) : P_X4_findName_2 (fun r T => Q r T ∧ K5 S0 T) v0 v1 S := h (fun v0 v1 S => K5 S0 S → P_X4_findName_2 (fun r T => Q r T ∧ K5 S0 T) v0 v1 S) (fun v0 v1 S hB K => fd_X4_findName_2 (kgB_X4_findName_2 hB K (fun _ _ _ hx K => hx K))) K
set_option maxRecDepth 20000 in
set_option maxHeartbeats 1000000 in
theorem kg_X4_findName_0 {Q : Int32 → HS → Prop} {v0 : Nat} {S0 S : HS} (h : P_X4_findName_0 Q v0 S) (K : K5 S0 S) : P_X4_findName_0 (fun r T => Q r T ∧ K5 S0 T) v0 S := by
  delta P_X4_findName_0 at h ⊢
  exact kg_X4_findName_2 h K
theorem kg_X4_findName {Q : Int32 → HS → Prop} {v0 : Nat} {S : HS} (h : P_X4_findName v0 Q S) : P_X4_findName v0 (fun r T => Q r T ∧ K5 S T) S := kg_X4_findName_0 h (k5_rf S)
set_option maxRecDepth 20000 in
set_option maxHeartbeats 1000000 in
theorem kg_X8_isTold_0 {Q : Int32 → HS → Prop} {v0 : Nat} {S0 S : HS} (h : P_X8_isTold_0 Q v0 S) (K : K5 S0 S) : P_X8_isTold_0 (fun r T => Q r T ∧ K5 S0 T) v0 S := by
  delta P_X8_isTold_0 at h ⊢
  obtain ⟨c1, h⟩ := h
  refine ⟨c1, ?_⟩
  have n2 := k5_ne K c1
  intro x4 e3
  have h := h x4 e3
  refine ⟨?_, ?_⟩
  · intro c5
    have h := h.1 c5
    exact ⟨h, K⟩
  · intro c6
    have h := h.2 c6
    exact ⟨h, K⟩
theorem kg_X8_isTold {Q : Int32 → HS → Prop} {v0 : Nat} {S : HS} (h : P_X8_isTold v0 Q S) : P_X8_isTold v0 (fun r T => Q r T ∧ K5 S T) S := kg_X8_isTold_0 h (k5_rf S)
set_option maxRecDepth 20000 in
set_option maxHeartbeats 1000000 in
theorem kg_X4_hasRoom_0 {Q : Int32 → HS → Prop} {v0 : Nat} {v1 : Int32} {v2 : Int32} {S0 S : HS} (h : P_X4_hasRoom_0 Q v0 v1 v2 S) (K : K5 S0 S) : P_X4_hasRoom_0 (fun r T => Q r T ∧ K5 S0 T) v0 v1 v2 S := by
  delta P_X4_hasRoom_0 at h ⊢
  obtain ⟨c1, h⟩ := h
  refine ⟨c1, ?_⟩
  have n2 := k5_ne K c1
  obtain ⟨b3, e4, h⟩ := h
  refine ⟨b3, e4, ?_⟩
  obtain ⟨c5, h⟩ := h
  refine ⟨c5, ?_⟩
  have n6 := k5_ne K c5
  refine cm_X8_isTold (kg_X8_isTold h) h (fun x7 x8 hp h g9 g10 => ?_)
  have h := h g9 g10
  have K := k5_tr K hp.2
  refine ⟨?_, ?_⟩
  · intro c11
    have h := h.1 c11
    refine ⟨?_, ?_⟩
    · intro c12
      have h := h.1 c12
      refine cm_X4_next (kg_X4_next h) h (fun x13 hp h g14 => ?_)
      have h := h g14
      have K := k5_tr K hp.2
      exact ⟨h, K⟩
    · intro c15
      have h := h.2 c15
      refine cm_X4_fail (kg_X4_fail h) h (fun x16 x17 hp h g18 g19 => ?_)
      have h := h g18 g19
      have K := k5_tr K hp.2
      obtain ⟨c20, h⟩ := h
      refine ⟨c20, ?_⟩
      exact ⟨h, K⟩
  · intro c21
    have h := h.2 c21
    refine cm_X4_fail (kg_X4_fail h) h (fun x22 x23 hp h g24 g25 => ?_)
    have h := h g24 g25
    have K := k5_tr K hp.2
    obtain ⟨c26, h⟩ := h
    refine ⟨c26, ?_⟩
    exact ⟨h, K⟩
theorem kg_X4_hasRoom {Q : Int32 → HS → Prop} {v0 : Nat} {v1 : Int32} {v2 : Int32} {S : HS} (h : P_X4_hasRoom v0 v1 v2 Q S) : P_X4_hasRoom v0 v1 v2 (fun r T => Q r T ∧ K5 S T) S := kg_X4_hasRoom_0 h (k5_rf S)
set_option maxRecDepth 20000 in
set_option maxHeartbeats 1000000 in
theorem kg_X5_init_0 {Q : HS → Prop} {v0 : Nat} {S0 S : HS} (h : P_X5_init_0 Q v0 S) (K : K5 S0 S) : P_X5_init_0 (fun T => Q T ∧ K5 S0 T) v0 S := by
  delta P_X5_init_0 at h ⊢
  exact ⟨h, K⟩
theorem kg_X5_init {Q : HS → Prop} {v0 : Nat} {S : HS} (h : P_X5_init v0 Q S) : P_X5_init v0 (fun T => Q T ∧ K5 S T) S := kg_X5_init_0 h (k5_rf S)
set_option maxRecDepth 20000 in
set_option maxHeartbeats 1000000 in
theorem kg_X6_init_0 {Q : HS → Prop} {v0 : Nat} {S0 S : HS} (h : P_X6_init_0 Q v0 S) (K : K5 S0 S) : P_X6_init_0 (fun T => Q T ∧ K5 S0 T) v0 S := by
  delta P_X6_init_0 at h ⊢
  exact ⟨h, K⟩
theorem kg_X6_init {Q : HS → Prop} {v0 : Nat} {S : HS} (h : P_X6_init v0 Q S) : P_X6_init v0 (fun T => Q T ∧ K5 S T) S := kg_X6_init_0 h (k5_rf S)
set_option maxRecDepth 20000 in
set_option maxHeartbeats 1000000 in
theorem kgB_X8_init_115 {Q : HS → Prop} {X115 X115_2 : Nat → Int32 → Nat → Nat → HS → Prop} {v0 : Nat} {v1 : Int32} {kk : Nat} {nn : Nat} {S0 S : HS} (h : B_X8_init_115 Q X115 v0 v1 kk nn S) (K : K5 S0 S) (hX115 : ∀ (u0 : Nat) (u1 : Int32) (u2 : Nat) (u3 : Nat) (u4 : HS), X115 u0 u1 u2 u3 u4 → K5 S0 u4 → X115_2 u0 u1 u2 u3 u4) : B_X8_init_115 (fun T => Q T ∧ K5 S0 T) X115_2 v0 v1 kk nn S := by
  delta B_X8_init_115 at h ⊢
  obtain ⟨c1, h⟩ := h
  refine ⟨c1, ?_⟩
  have n2 := k5_ne K c1
  obtain ⟨b3, e4, h⟩ := h
  refine ⟨b3, e4, ?_⟩
  obtain ⟨c5, h⟩ := h
  refine ⟨c5, ?_⟩
  have n6 := k5_ne K c5
  refine ⟨?_, ?_⟩
  · intro c7
    have h := h.1 c7
    obtain ⟨c8, h⟩ := h
    refine ⟨c8, ?_⟩
    obtain ⟨c9, h⟩ := h
    refine ⟨c9, ?_⟩
    exact ⟨h, K⟩
  · intro c10
    have h := h.2 c10
    obtain ⟨b11, e12, h⟩ := h
    refine ⟨b11, e12, ?_⟩
    obtain ⟨c13, h⟩ := h
    refine ⟨c13, ?_⟩
    obtain ⟨c14, h⟩ := h
    refine ⟨c14, ?_⟩
    intro x16 e15
    have h := h x16 e15
    intro x18 e17
    have h := h x18 e17
    have K := k5_W K e15 e17
    obtain ⟨c19, h⟩ := h
    refine ⟨c19, ?_⟩
    obtain ⟨c20, h⟩ := h
    refine ⟨c20, ?_⟩
    refine cm_X6_init (kg_X6_init h) h (fun x21 hp h g22 => ?_)
    have h := h g22
    have K := k5_tr K hp.2
    obtain ⟨c23, h⟩ := h
    refine ⟨c23, ?_⟩
    have n24 := k5_ne K c23
    obtain ⟨c25, h⟩ := h
    refine ⟨c25, ?_⟩
    intro x27 e26
    have h := h x27 e26
    have K := k5_R K e26
    intro x29 e28
    have h := h x29 e28
    exact hX115 _ _ _ _ _ h K
theorem kg_X8_init_115 {Q : HS → Prop} {v0 : Nat} {v1 : Int32} {kk : Nat} {nn : Nat} {S0 S : HS} (h : P_X8_init_115 Q v0 v1 kk nn S) (K : K5 S0 S) : P_X8_init_115 (fun T => Q T ∧ K5 S0 T) v0 v1 kk nn S := h (fun v0 v1 kk nn S => K5 S0 S → P_X8_init_115 (fun T => Q T ∧ K5 S0 T) v0 v1 kk nn S) (fun v0 v1 kk nn S hB K => fd_X8_init_115 (kgB_X8_init_115 hB K (fun _ _ _ _ _ hx K => hx K))) K
set_option maxRecDepth 20000 in
set_option maxHeartbeats 1000000 in
theorem kgB_X8_init_85 {Q : HS → Prop} {X85 X85_2 : Nat → Int32 → Nat → Nat → HS → Prop} {v0 : Nat} {v1 : Int32} {kk : Nat} {nn : Nat} {S0 S : HS} (h : B_X8_init_85 Q X85 v0 v1 kk nn S) (K : K5 S0 S) (hX85 : ∀ (u0 : Nat) (u1 : Int32) (u2 : Nat) (u3 : Nat) (u4 : HS), X85 u0 u1 u2 u3 u4 → K5 S0 u4 → X85_2 u0 u1 u2 u3 u4) : B_X8_init_85 (fun T => Q T ∧ K5 S0 T) X85_2 v0 v1 kk nn S := by
  delta B_X8_init_85 at h ⊢
  obtain ⟨c1, h⟩ := h
  refine ⟨c1, ?_⟩
  have n2 := k5_ne K c1
  obtain ⟨b3, e4, h⟩ := h
  refine ⟨b3, e4, ?_⟩
  obtain ⟨c5, h⟩ := h
  refine ⟨c5, ?_⟩
  have n6 := k5_ne K c5
  refine ⟨?_, ?_⟩
  · intro c7
    have h := h.1 c7
    exact kg_X8_init_115 h K
  · intro c8
    have h := h.2 c8
    obtain ⟨b9, e10, h⟩ := h
    refine ⟨b9, e10, ?_⟩
    obtain ⟨c11, h⟩ := h
    refine ⟨c11, ?_⟩
    obtain ⟨c12, h⟩ := h
    refine ⟨c12, ?_⟩
    intro x14 e13
    have h := h x14 e13
    intro x16 e15
    have h := h x16 e15
    have K := k5_W K e13 e15
    obtain ⟨c17, h⟩ := h
    refine ⟨c17, ?_⟩
    obtain ⟨c18, h⟩ := h
    refine ⟨c18, ?_⟩
    refine cm_X5_init (kg_X5_init h) h (fun x19 hp h g20 => ?_)
    have h := h g20
    have K := k5_tr K hp.2
    obtain ⟨c21, h⟩ := h
    refine ⟨c21, ?_⟩
    have n22 := k5_ne K c21
    obtain ⟨c23, h⟩ := h
    refine ⟨c23, ?_⟩
    intro x25 e24
    have h := h x25 e24
    have K := k5_R K e24
    intro x27 e26
    have h := h x27 e26
    exact hX85 _ _ _ _ _ h K
theorem kg_X8_init_85 {Q : HS → Prop} {v0 : Nat} {v1 : Int32} {kk : Nat} {nn : Nat} {S0 S : HS} (h : P_X8_init_85 Q v0 v1 kk nn S) (K : K5 S0 S) : P_X8_init_85 (fun T => Q T ∧ K5 S0 T) v0 v1 kk nn S := h (fun v0 v1 kk nn S => K5 S0 S → P_X8_init_85 (fun T => Q T ∧ K5 S0 T) v0 v1 kk nn S) (fun v0 v1 kk nn S hB K => fd_X8_init_85 (kgB_X8_init_85 hB K (fun _ _ _ _ _ hx K => hx K))) K
set_option maxRecDepth 20000 in
set_option maxHeartbeats 1000000 in
theorem kgB_X8_init_55 {Q : HS → Prop} {X55 X55_2 : Nat → Int32 → Nat → Nat → HS → Prop} {v0 : Nat} {v1 : Int32} {kk : Nat} {nn : Nat} {S0 S : HS} (h : B_X8_init_55 Q X55 v0 v1 kk nn S) (K : K5 S0 S) (hX55 : ∀ (u0 : Nat) (u1 : Int32) (u2 : Nat) (u3 : Nat) (u4 : HS), X55 u0 u1 u2 u3 u4 → K5 S0 u4 → X55_2 u0 u1 u2 u3 u4) : B_X8_init_55 (fun T => Q T ∧ K5 S0 T) X55_2 v0 v1 kk nn S := by
  delta B_X8_init_55 at h ⊢
  obtain ⟨c1, h⟩ := h
  refine ⟨c1, ?_⟩
  have n2 := k5_ne K c1
  obtain ⟨b3, e4, h⟩ := h
  refine ⟨b3, e4, ?_⟩
  obtain ⟨c5, h⟩ := h
  refine ⟨c5, ?_⟩
  have n6 := k5_ne K c5
  refine ⟨?_, ?_⟩
  · intro c7
    have h := h.1 c7
    exact kg_X8_init_85 h K
  · intro c8
    have h := h.2 c8
    obtain ⟨b9, e10, h⟩ := h
    refine ⟨b9, e10, ?_⟩
    obtain ⟨c11, h⟩ := h
    refine ⟨c11, ?_⟩
    obtain ⟨c12, h⟩ := h
    refine ⟨c12, ?_⟩
    intro x14 e13
    have h := h x14 e13
    intro x16 e15
    have h := h x16 e15
    have K := k5_W K e13 e15
    obtain ⟨c17, h⟩ := h
    refine ⟨c17, ?_⟩
    obtain ⟨c18, h⟩ := h
    refine ⟨c18, ?_⟩
    refine cm_X3_init (kg_X3_init h) h (fun x19 hp h g20 => ?_)
    have h := h g20
    have K := k5_tr K hp.2
    obtain ⟨c21, h⟩ := h
    refine ⟨c21, ?_⟩
    have n22 := k5_ne K c21
    obtain ⟨c23, h⟩ := h
    refine ⟨c23, ?_⟩
    intro x25 e24
    have h := h x25 e24
    have K := k5_R K e24
    intro x27 e26
    have h := h x27 e26
    exact hX55 _ _ _ _ _ h K
theorem kg_X8_init_55 {Q : HS → Prop} {v0 : Nat} {v1 : Int32} {kk : Nat} {nn : Nat} {S0 S : HS} (h : P_X8_init_55 Q v0 v1 kk nn S) (K : K5 S0 S) : P_X8_init_55 (fun T => Q T ∧ K5 S0 T) v0 v1 kk nn S := h (fun v0 v1 kk nn S => K5 S0 S → P_X8_init_55 (fun T => Q T ∧ K5 S0 T) v0 v1 kk nn S) (fun v0 v1 kk nn S hB K => fd_X8_init_55 (kgB_X8_init_55 hB K (fun _ _ _ _ _ hx K => hx K))) K
set_option maxRecDepth 20000 in
set_option maxHeartbeats 1000000 in
theorem kg_X8_init_0 {Q : HS → Prop} {v0 : Nat} {kk : Nat} {nn : Nat} {S0 S : HS} (h : P_X8_init_0 Q v0 kk nn S) (K : K5 S0 S) : P_X8_init_0 (fun T => Q T ∧ K5 S0 T) v0 kk nn S := by
  delta P_X8_init_0 at h ⊢
  obtain ⟨c1, h⟩ := h
  refine ⟨c1, ?_⟩
  obtain ⟨c2, h⟩ := h
  refine ⟨c2, ?_⟩
  intro x4 e3
  have h := h x4 e3
  intro x6 e5
  have h := h x6 e5
  have K := k5_W K e3 e5
  obtain ⟨c7, h⟩ := h
  refine ⟨c7, ?_⟩
  have n8 := k5_ne K c7
  intro x10 e9
  have h := h x10 e9
  have K := k5_R K e9
  obtain ⟨c11, h⟩ := h
  refine ⟨c11, ?_⟩
  obtain ⟨c12, h⟩ := h
  refine ⟨c12, ?_⟩
  intro x14 e13
  have h := h x14 e13
  intro x16 e15
  have h := h x16 e15
  have K := k5_W K e13 e15
  intro x18 e17
  have h := h x18 e17
  have K := k5_R K e17
  obtain ⟨c19, h⟩ := h
  refine ⟨c19, ?_⟩
  obtain ⟨c20, h⟩ := h
  refine ⟨c20, ?_⟩
  intro x22 e21
  have h := h x22 e21
  intro x24 e23
  have h := h x24 e23
  have K := k5_W K e21 e23
  intro x26 e25
  have h := h x26 e25
  have K := k5_R K e25
  obtain ⟨c27, h⟩ := h
  refine ⟨c27, ?_⟩
  obtain ⟨c28, h⟩ := h
  refine ⟨c28, ?_⟩
  intro x30 e29
  have h := h x30 e29
  intro x32 e31
  have h := h x32 e31
  have K := k5_W K e29 e31
  intro x34 e33
  have h := h x34 e33
  have K := k5_R K e33
  obtain ⟨c35, h⟩ := h
  refine ⟨c35, ?_⟩
  obtain ⟨c36, h⟩ := h
  refine ⟨c36, ?_⟩
  intro x38 e37
  have h := h x38 e37
  intro x40 e39
  have h := h x40 e39
  have K := k5_W K e37 e39
  intro x42 e41
  have h := h x42 e41
  have K := k5_R K e41
  obtain ⟨c43, h⟩ := h
  refine ⟨c43, ?_⟩
  obtain ⟨c44, h⟩ := h
  refine ⟨c44, ?_⟩
  intro x46 e45
  have h := h x46 e45
  intro x48 e47
  have h := h x48 e47
  have K := k5_W K e45 e47
  intro x50 e49
  have h := h x50 e49
  have K := k5_R K e49
  exact kg_X8_init_55 h K
theorem kg_X8_init {Q : HS → Prop} {v0 : Nat} {S : HS} (h : P_X8_init v0 Q S) : P_X8_init v0 (fun T => Q T ∧ K5 S T) S := kg_X8_init_0 h (k5_rf S)
set_option maxRecDepth 20000 in
set_option maxHeartbeats 1000000 in
theorem kg_X4_init_0 {Q : HS → Prop} {v0 : Nat} {S0 S : HS} (h : P_X4_init_0 Q v0 S) (K : K5 S0 S) : P_X4_init_0 (fun T => Q T ∧ K5 S0 T) v0 S := by
  delta P_X4_init_0 at h ⊢
  intro x2 e1
  have h := h x2 e1
  intro x4 e3
  have h := h x4 e3
  have K := k5_W K e1 e3
  obtain ⟨c5, h⟩ := h
  refine ⟨c5, ?_⟩
  have n6 := k5_ne K c5
  intro x8 e7
  have h := h x8 e7
  have K := k5_R K e7
  intro x10 e9
  have h := h x10 e9
  intro x12 e11
  have h := h x12 e11
  have K := k5_W K e9 e11
  refine cm_X8_init (kg_X8_init h) h (fun x13 hp h g14 => ?_)
  have h := h g14
  have K := k5_tr K hp.2
  intro x16 e15
  have h := h x16 e15
  have K := k5_R K e15
  intro x18 e17
  have h := h x18 e17
  intro x20 e19
  have h := h x20 e19
  have K := k5_W K e17 e19
  intro x22 e21
  have h := h x22 e21
  have K := k5_R K e21
  intro x24 e23
  have h := h x24 e23
  intro x26 e25
  have h := h x26 e25
  have K := k5_W K e23 e25
  intro x28 e27
  have h := h x28 e27
  have K := k5_R K e27
  exact ⟨h, K⟩
theorem kg_X4_init {Q : HS → Prop} {v0 : Nat} {S : HS} (h : P_X4_init v0 Q S) : P_X4_init v0 (fun T => Q T ∧ K5 S T) S := kg_X4_init_0 h (k5_rf S)
set_option maxRecDepth 20000 in
set_option maxHeartbeats 1000000 in
theorem kg_X4_kindOf_0 {Q : Int32 → HS → Prop} {v0 : Nat} {v1 : Nat} {S0 S : HS} (h : P_X4_kindOf_0 Q v0 v1 S) (K : K5 S0 S) : P_X4_kindOf_0 (fun r T => Q r T ∧ K5 S0 T) v0 v1 S := by
  delta P_X4_kindOf_0 at h ⊢
  obtain ⟨c1, h⟩ := h
  refine ⟨c1, ?_⟩
  have n2 := k5_ne K c1
  intro x4 e3
  have h := h x4 e3
  have K := k5_I K e3 n2 (by decide)
  refine cm_X4_is (kg_X4_is h) h (fun x5 x6 hp h g7 g8 => ?_)
  have h := h g7 g8
  have K := k5_tr K hp.2
  refine ⟨?_, ?_⟩
  · intro c9
    have h := h.1 c9
    refine cm_X4_is (kg_X4_is h) h (fun x10 x11 hp h g12 g13 => ?_)
    have h := h g12 g13
    have K := k5_tr K hp.2
    refine ⟨?_, ?_⟩
    · intro c14
      have h := h.1 c14
      refine cm_X4_is (kg_X4_is h) h (fun x15 x16 hp h g17 g18 => ?_)
      have h := h g17 g18
      have K := k5_tr K hp.2
      refine ⟨?_, ?_⟩
      · intro c19
        have h := h.1 c19
        obtain ⟨c20, h⟩ := h
        refine ⟨c20, ?_⟩
        have n21 := k5_ne K c20
        intro x23 e22
        have h := h x23 e22
        have K := k5_I K e22 n21 (by decide)
        refine cm_X4_word (kg_X4_word h) h (fun x24 x25 hp h g26 g27 => ?_)
        have h := h g26 g27
        have K := k5_tr K hp.2
        intro x29 e28
        have h := h x29 e28
        intro x31 e30
        have h := h x31 e30
        have K := k5_I K e30 n21 (by decide)
        obtain ⟨c32, h⟩ := h
        refine ⟨c32, ?_⟩
        exact ⟨h, K⟩
      · intro c33
        have h := h.2 c33
        obtain ⟨c34, h⟩ := h
        refine ⟨c34, ?_⟩
        have n35 := k5_ne K c34
        intro x37 e36
        have h := h x37 e36
        have K := k5_I K e36 n35 (by decide)
        refine cm_X4_wordAndWhole (kg_X4_wordAndWhole h) h (fun x38 x39 hp h g40 g41 => ?_)
        have h := h g40 g41
        have K := k5_tr K hp.2
        intro x43 e42
        have h := h x43 e42
        intro x45 e44
        have h := h x45 e44
        have K := k5_I K e44 n35 (by decide)
        obtain ⟨c46, h⟩ := h
        refine ⟨c46, ?_⟩
        exact ⟨h, K⟩
    · intro c47
      have h := h.2 c47
      obtain ⟨c48, h⟩ := h
      refine ⟨c48, ?_⟩
      have n49 := k5_ne K c48
      intro x51 e50
      have h := h x51 e50
      have K := k5_I K e50 n49 (by decide)
      refine cm_X4_wordAndWhole (kg_X4_wordAndWhole h) h (fun x52 x53 hp h g54 g55 => ?_)
      have h := h g54 g55
      have K := k5_tr K hp.2
      intro x57 e56
      have h := h x57 e56
      intro x59 e58
      have h := h x59 e58
      have K := k5_I K e58 n49 (by decide)
      obtain ⟨c60, h⟩ := h
      refine ⟨c60, ?_⟩
      exact ⟨h, K⟩
  · intro c61
    have h := h.2 c61
    obtain ⟨c62, h⟩ := h
    refine ⟨c62, ?_⟩
    have n63 := k5_ne K c62
    intro x65 e64
    have h := h x65 e64
    have K := k5_I K e64 n63 (by decide)
    refine cm_X4_wordAndWhole (kg_X4_wordAndWhole h) h (fun x66 x67 hp h g68 g69 => ?_)
    have h := h g68 g69
    have K := k5_tr K hp.2
    intro x71 e70
    have h := h x71 e70
    intro x73 e72
    have h := h x73 e72
    have K := k5_I K e72 n63 (by decide)
    obtain ⟨c74, h⟩ := h
    refine ⟨c74, ?_⟩
    exact ⟨h, K⟩
theorem kg_X4_kindOf {Q : Int32 → HS → Prop} {v0 : Nat} {v1 : Nat} {S : HS} (h : P_X4_kindOf v0 v1 Q S) : P_X4_kindOf v0 v1 (fun r T => Q r T ∧ K5 S T) S := kg_X4_kindOf_0 h (k5_rf S)
set_option maxRecDepth 20000 in
set_option maxHeartbeats 1000000 in
theorem kg_X4_newName_69 {Q : Int32 → HS → Prop} {v0 : Nat} {S0 S : HS} (h : P_X4_newName_69 Q v0 S) (K : K5 S0 S) : P_X4_newName_69 (fun r T => Q r T ∧ K5 S0 T) v0 S := by
  delta P_X4_newName_69 at h ⊢
  obtain ⟨c1, h⟩ := h
  refine ⟨c1, ?_⟩
  have n2 := k5_ne K c1
  refine cm_X4_next (kg_X4_next h) h (fun x3 hp h g4 => ?_)
  have h := h g4
  have K := k5_tr K hp.2
  exact ⟨h, K⟩
set_option maxRecDepth 20000 in
set_option maxHeartbeats 1000000 in
theorem kg_X4_newName_0 {Q : Int32 → HS → Prop} {v0 : Nat} {v1 : Int32} {S0 S : HS} (h : P_X4_newName_0 Q v0 v1 S) (K : K5 S0 S) : P_X4_newName_0 (fun r T => Q r T ∧ K5 S0 T) v0 v1 S := by
  delta P_X4_newName_0 at h ⊢
  obtain ⟨c1, h⟩ := h
  refine ⟨c1, ?_⟩
  have n2 := k5_ne K c1
  refine cm_X4_canBeName (kg_X4_canBeName h) h (fun x3 x4 hp h g5 g6 => ?_)
  have h := h g5 g6
  have K := k5_tr K hp.2
  refine ⟨?_, ?_⟩
  · intro c7
    have h := h.1 c7
    refine cm_X4_findName (kg_X4_findName h) h (fun x8 x9 hp h g10 => ?_)
    have h := h g10
    have K := k5_tr K hp.2
    refine ⟨?_, ?_⟩
    · intro c11
      have h := h.1 c11
      intro x13 e12
      have h := h x13 e12
      refine ⟨?_, ?_⟩
      · intro c14
        have h := h.1 c14
        exact kg_X4_newName_69 h K
      · intro c15
        have h := h.2 c15
        obtain ⟨b16, e17, h⟩ := h
        refine ⟨b16, e17, ?_⟩
        intro x19 e18
        have h := h x19 e18
        intro x21 e20
        have h := h x21 e20
        obtain ⟨c22, h⟩ := h
        refine ⟨c22, ?_⟩
        have n23 := k5_ne K c22
        obtain ⟨c24, h⟩ := h
        refine ⟨c24, ?_⟩
        intro x26 e25
        have h := h x26 e25
        have K := k5_J K e25
        obtain ⟨b27, e28, h⟩ := h
        refine ⟨b27, e28, ?_⟩
        intro x30 e29
        have h := h x30 e29
        obtain ⟨c31, h⟩ := h
        refine ⟨c31, ?_⟩
        have n32 := k5_ne K c31
        obtain ⟨c33, h⟩ := h
        refine ⟨c33, ?_⟩
        intro x35 e34
        have h := h x35 e34
        have K := k5_A K e34 n32 (by decide)
        intro x37 e36
        have h := h x37 e36
        intro x39 e38
        have h := h x39 e38
        intro x41 e40
        have h := h x41 e40
        have K := k5_I K e40 n2 (by decide)
        exact kg_X4_newName_69 h K
    · intro c42
      have h := h.2 c42
      refine cm_X4_fail (kg_X4_fail h) h (fun x43 x44 hp h g45 g46 => ?_)
      have h := h g45 g46
      have K := k5_tr K hp.2
      obtain ⟨c47, h⟩ := h
      refine ⟨c47, ?_⟩
      exact ⟨h, K⟩
  · intro c48
    have h := h.2 c48
    refine cm_X4_fail (kg_X4_fail h) h (fun x49 x50 hp h g51 g52 => ?_)
    have h := h g51 g52
    have K := k5_tr K hp.2
    obtain ⟨c53, h⟩ := h
    refine ⟨c53, ?_⟩
    exact ⟨h, K⟩
theorem kg_X4_newName {Q : Int32 → HS → Prop} {v0 : Nat} {v1 : Int32} {S : HS} (h : P_X4_newName v0 v1 Q S) : P_X4_newName v0 v1 (fun r T => Q r T ∧ K5 S T) S := kg_X4_newName_0 h (k5_rf S)
set_option maxRecDepth 20000 in
set_option maxHeartbeats 1000000 in
theorem kg_X8_clear_0 {Q : HS → Prop} {v0 : Nat} {S0 S : HS} (h : P_X8_clear_0 Q v0 S) (K : K5 S0 S) : P_X8_clear_0 (fun T => Q T ∧ K5 S0 T) v0 S := by
  delta P_X8_clear_0 at h ⊢
  obtain ⟨c1, h⟩ := h
  refine ⟨c1, ?_⟩
  have n2 := k5_ne K c1
  intro x4 e3
  have h := h x4 e3
  have K := k5_I K e3 n2 (by decide)
  intro x6 e5
  have h := h x6 e5
  have K := k5_I K e5 n2 (by decide)
  intro x8 e7
  have h := h x8 e7
  have K := k5_I K e7 n2 (by decide)
  intro x10 e9
  have h := h x10 e9
  have K := k5_I K e9 n2 (by decide)
  intro x12 e11
  have h := h x12 e11
  have K := k5_I K e11 n2 (by decide)
  intro x14 e13
  have h := h x14 e13
  have K := k5_I K e13 n2 (by decide)
  exact ⟨h, K⟩
theorem kg_X8_clear {Q : HS → Prop} {v0 : Nat} {S : HS} (h : P_X8_clear v0 Q S) : P_X8_clear v0 (fun T => Q T ∧ K5 S T) S := kg_X8_clear_0 h (k5_rf S)
set_option maxRecDepth 20000 in
set_option maxHeartbeats 1000000 in
theorem kg_X4_open_0 {Q : HS → Prop} {v0 : Nat} {v1 : Nat} {v2 : Int32} {S0 S : HS} (h : P_X4_open_0 Q v0 v1 v2 S) (K : K5 S0 S) : P_X4_open_0 (fun T => Q T ∧ K5 S0 T) v0 v1 v2 S := by
  delta P_X4_open_0 at h ⊢
  obtain ⟨c1, h⟩ := h
  refine ⟨c1, ?_⟩
  have n2 := k5_ne K c1
  intro x4 e3
  have h := h x4 e3
  have K := k5_R K e3
  obtain ⟨c5, h⟩ := h
  refine ⟨c5, ?_⟩
  have n6 := k5_ne K c5
  intro x8 e7
  have h := h x8 e7
  intro x10 e9
  have h := h x10 e9
  have K := k5_I K e9 n2 (by decide)
  intro x12 e11
  have h := h x12 e11
  have K := k5_I K e11 n2 (by decide)
  intro x14 e13
  have h := h x14 e13
  have K := k5_I K e13 n2 (by decide)
  intro x16 e15
  have h := h x16 e15
  have K := k5_I K e15 n2 (by decide)
  intro x18 e17
  have h := h x18 e17
  have K := k5_I K e17 n2 (by decide)
  obtain ⟨b19, e20, h⟩ := h
  refine ⟨b19, e20, ?_⟩
  obtain ⟨c21, h⟩ := h
  refine ⟨c21, ?_⟩
  have n22 := k5_ne K c21
  refine cm_X8_clear (kg_X8_clear h) h (fun x23 hp h g24 => ?_)
  have h := h g24
  have K := k5_tr K hp.2
  refine cm_X4_next (kg_X4_next h) h (fun x25 hp h g26 => ?_)
  have h := h g26
  have K := k5_tr K hp.2
  exact ⟨h, K⟩
theorem kg_X4_open {Q : HS → Prop} {v0 : Nat} {v1 : Nat} {v2 : Int32} {S : HS} (h : P_X4_open v0 v1 v2 Q S) : P_X4_open v0 v1 v2 (fun T => Q T ∧ K5 S T) S := kg_X4_open_0 h (k5_rf S)
set_option maxRecDepth 20000 in
set_option maxHeartbeats 1000000 in
theorem kg_X4_placeBut_29 {Q : Int32 → HS → Prop} {v0 : Nat} {S0 S : HS} (h : P_X4_placeBut_29 Q v0 S) (K : K5 S0 S) : P_X4_placeBut_29 (fun r T => Q r T ∧ K5 S0 T) v0 S := by
  delta P_X4_placeBut_29 at h ⊢
  obtain ⟨c1, h⟩ := h
  refine ⟨c1, ?_⟩
  have n2 := k5_ne K c1
  refine cm_X4_fail (kg_X4_fail h) h (fun x3 x4 hp h g5 g6 => ?_)
  have h := h g5 g6
  have K := k5_tr K hp.2
  obtain ⟨c7, h⟩ := h
  refine ⟨c7, ?_⟩
  exact ⟨h, K⟩
set_option maxRecDepth 20000 in
set_option maxHeartbeats 1000000 in
theorem kg_X4_placeBut_0 {Q : Int32 → HS → Prop} {v0 : Nat} {v1 : Int32} {S0 S : HS} (h : P_X4_placeBut_0 Q v0 v1 S) (K : K5 S0 S) : P_X4_placeBut_0 (fun r T => Q r T ∧ K5 S0 T) v0 v1 S := by
  delta P_X4_placeBut_0 at h ⊢
  obtain ⟨c1, h⟩ := h
  refine ⟨c1, ?_⟩
  have n2 := k5_ne K c1
  refine cm_X4_canBeName (kg_X4_canBeName h) h (fun x3 x4 hp h g5 g6 => ?_)
  have h := h g5 g6
  have K := k5_tr K hp.2
  refine ⟨?_, ?_⟩
  · intro c7
    have h := h.1 c7
    refine cm_X4_findName (kg_X4_findName h) h (fun x8 x9 hp h g10 => ?_)
    have h := h g10
    have K := k5_tr K hp.2
    refine ⟨?_, ?_⟩
    · intro c11
      have h := h.1 c11
      exact kg_X4_placeBut_29 h K
    · intro c12
      have h := h.2 c12
      refine ⟨?_, ?_⟩
      · intro c13
        have h := h.1 c13
        refine ⟨?_, ?_⟩
        · intro c14
          have h := h.1 c14
          intro x16 e15
          have h := h x16 e15
          have K := k5_I K e15 n2 (by decide)
          refine cm_X4_next (kg_X4_next h) h (fun x17 hp h g18 => ?_)
          have h := h g18
          have K := k5_tr K hp.2
          exact ⟨h, K⟩
        · intro c19
          have h := h.2 c19
          refine cm_X4_fail (kg_X4_fail h) h (fun x20 x21 hp h g22 g23 => ?_)
          have h := h g22 g23
          have K := k5_tr K hp.2
          obtain ⟨c24, h⟩ := h
          refine ⟨c24, ?_⟩
          exact ⟨h, K⟩
      · intro c25
        have h := h.2 c25
        exact kg_X4_placeBut_29 h K
  · intro c26
    have h := h.2 c26
    refine cm_X4_fail (kg_X4_fail h) h (fun x27 x28 hp h g29 g30 => ?_)
    have h := h g29 g30
    have K := k5_tr K hp.2
    obtain ⟨c31, h⟩ := h
    refine ⟨c31, ?_⟩
    exact ⟨h, K⟩
theorem kg_X4_placeBut {Q : Int32 → HS → Prop} {v0 : Nat} {v1 : Int32} {S : HS} (h : P_X4_placeBut v0 v1 Q S) : P_X4_placeBut v0 v1 (fun r T => Q r T ∧ K5 S T) S := kg_X4_placeBut_0 h (k5_rf S)
set_option maxRecDepth 20000 in
set_option maxHeartbeats 1000000 in
theorem kg_X4_placeLine_64 {Q : Int32 → HS → Prop} {v0 : Nat} {v1 : Int32} {S0 S : HS} (h : P_X4_placeLine_64 Q v0 v1 S) (K : K5 S0 S) : P_X4_placeLine_64 (fun r T => Q r T ∧ K5 S0 T) v0 v1 S := by
  delta P_X4_placeLine_64 at h ⊢
  obtain ⟨c1, h⟩ := h
  refine ⟨c1, ?_⟩
  have n2 := k5_ne K c1
  obtain ⟨b3, e4, h⟩ := h
  refine ⟨b3, e4, ?_⟩
  obtain ⟨c5, h⟩ := h
  refine ⟨c5, ?_⟩
  have n6 := k5_ne K c5
  obtain ⟨b7, e8, h⟩ := h
  refine ⟨b7, e8, ?_⟩
  obtain ⟨b9, e10, h⟩ := h
  refine ⟨b9, e10, ?_⟩
  obtain ⟨c11, h⟩ := h
  refine ⟨c11, ?_⟩
  have n12 := k5_ne K c11
  intro x14 e13
  have h := h x14 e13
  obtain ⟨c15, h⟩ := h
  refine ⟨c15, ?_⟩
  have n16 := k5_ne K c15
  obtain ⟨c17, h⟩ := h
  refine ⟨c17, ?_⟩
  intro x19 e18
  have h := h x19 e18
  have K := k5_A K e18 n16 (by decide)
  obtain ⟨b20, e21, h⟩ := h
  refine ⟨b20, e21, ?_⟩
  obtain ⟨c22, h⟩ := h
  refine ⟨c22, ?_⟩
  have n23 := k5_ne K c22
  intro x25 e24
  have h := h x25 e24
  intro x27 e26
  have h := h x27 e26
  intro x29 e28
  have h := h x29 e28
  have K := k5_I K e28 n23 (by decide)
  exact ⟨h, K⟩
set_option maxRecDepth 20000 in
set_option maxHeartbeats 1000000 in
theorem kg_X4_placeLine_0 {Q : Int32 → HS → Prop} {v0 : Nat} {S0 S : HS} (h : P_X4_placeLine_0 Q v0 S) (K : K5 S0 S) : P_X4_placeLine_0 (fun r T => Q r T ∧ K5 S0 T) v0 S := by
  delta P_X4_placeLine_0 at h ⊢
  obtain ⟨c1, h⟩ := h
  refine ⟨c1, ?_⟩
  have n2 := k5_ne K c1
  obtain ⟨b3, e4, h⟩ := h
  refine ⟨b3, e4, ?_⟩
  obtain ⟨c5, h⟩ := h
  refine ⟨c5, ?_⟩
  have n6 := k5_ne K c5
  intro x8 e7
  have h := h x8 e7
  refine cm_X4_newName (kg_X4_newName h) h (fun x9 x10 hp h g11 g12 => ?_)
  have h := h g11 g12
  have K := k5_tr K hp.2
  refine ⟨?_, ?_⟩
  · intro c13
    have h := h.1 c13
    refine cm_X4_is (kg_X4_is h) h (fun x14 x15 hp h g16 g17 => ?_)
    have h := h g16 g17
    have K := k5_tr K hp.2
    refine ⟨?_, ?_⟩
    · intro c18
      have h := h.1 c18
      refine cm_X4_is (kg_X4_is h) h (fun x19 x20 hp h g21 g22 => ?_)
      have h := h g21 g22
      have K := k5_tr K hp.2
      refine ⟨?_, ?_⟩
      · intro c23
        have h := h.1 c23
        exact kg_X4_placeLine_64 h K
      · intro c24
        have h := h.2 c24
        refine cm_X4_wordAndWhole (kg_X4_wordAndWhole h) h (fun x25 x26 hp h g27 g28 => ?_)
        have h := h g27 g28
        have K := k5_tr K hp.2
        refine ⟨?_, ?_⟩
        · intro c29
          have h := h.1 c29
          intro x31 e30
          have h := h x31 e30
          exact kg_X4_placeLine_64 h K
        · intro c32
          have h := h.2 c32
          exact ⟨h, K⟩
    · intro c33
      have h := h.2 c33
      refine cm_X4_next (kg_X4_next h) h (fun x34 hp h g35 => ?_)
      have h := h g35
      have K := k5_tr K hp.2
      exact kg_X4_placeLine_64 h K
  · intro c36
    have h := h.2 c36
    exact ⟨h, K⟩
theorem kg_X4_placeLine {Q : Int32 → HS → Prop} {v0 : Nat} {S : HS} (h : P_X4_placeLine v0 Q S) : P_X4_placeLine v0 (fun r T => Q r T ∧ K5 S T) S := kg_X4_placeLine_0 h (k5_rf S)
set_option maxRecDepth 20000 in
set_option maxHeartbeats 1000000 in
theorem kg_X4_side_74 {Q : Int32 → HS → Prop} {v0 : Nat} {S0 S : HS} (h : P_X4_side_74 Q v0 S) (K : K5 S0 S) : P_X4_side_74 (fun r T => Q r T ∧ K5 S0 T) v0 S := by
  delta P_X4_side_74 at h ⊢
  obtain ⟨c1, h⟩ := h
  refine ⟨c1, ?_⟩
  have n2 := k5_ne K c1
  refine cm_X4_next (kg_X4_next h) h (fun x3 hp h g4 => ?_)
  have h := h g4
  have K := k5_tr K hp.2
  exact ⟨h, K⟩
set_option maxRecDepth 20000 in
set_option maxHeartbeats 1000000 in
theorem kg_X4_side_0 {Q : Int32 → HS → Prop} {v0 : Nat} {S0 S : HS} (h : P_X4_side_0 Q v0 S) (K : K5 S0 S) : P_X4_side_0 (fun r T => Q r T ∧ K5 S0 T) v0 S := by
  delta P_X4_side_0 at h ⊢
  obtain ⟨c1, h⟩ := h
  refine ⟨c1, ?_⟩
  have n2 := k5_ne K c1
  refine cm_X4_is (kg_X4_is h) h (fun x3 x4 hp h g5 g6 => ?_)
  have h := h g5 g6
  have K := k5_tr K hp.2
  refine ⟨?_, ?_⟩
  · intro c7
    have h := h.1 c7
    refine cm_X4_is (kg_X4_is h) h (fun x8 x9 hp h g10 g11 => ?_)
    have h := h g10 g11
    have K := k5_tr K hp.2
    refine ⟨?_, ?_⟩
    · intro c12
      have h := h.1 c12
      refine cm_X4_is (kg_X4_is h) h (fun x13 x14 hp h g15 g16 => ?_)
      have h := h g15 g16
      have K := k5_tr K hp.2
      refine ⟨?_, ?_⟩
      · intro c17
        have h := h.1 c17
        refine cm_X4_is (kg_X4_is h) h (fun x18 x19 hp h g20 g21 => ?_)
        have h := h g20 g21
        have K := k5_tr K hp.2
        refine ⟨?_, ?_⟩
        · intro c22
          have h := h.1 c22
          refine cm_X4_fail (kg_X4_fail h) h (fun x23 x24 hp h g25 g26 => ?_)
          have h := h g25 g26
          have K := k5_tr K hp.2
          obtain ⟨c27, h⟩ := h
          refine ⟨c27, ?_⟩
          exact ⟨h, K⟩
        · intro c28
          have h := h.2 c28
          intro x30 e29
          have h := h x30 e29
          have K := k5_I K e29 n2 (by decide)
          exact kg_X4_side_74 h K
      · intro c31
        have h := h.2 c31
        intro x33 e32
        have h := h x33 e32
        have K := k5_I K e32 n2 (by decide)
        exact kg_X4_side_74 h K
    · intro c34
      have h := h.2 c34
      intro x36 e35
      have h := h x36 e35
      have K := k5_I K e35 n2 (by decide)
      exact kg_X4_side_74 h K
  · intro c37
    have h := h.2 c37
    intro x39 e38
    have h := h x39 e38
    have K := k5_I K e38 n2 (by decide)
    exact kg_X4_side_74 h K
theorem kg_X4_side {Q : Int32 → HS → Prop} {v0 : Nat} {S : HS} (h : P_X4_side v0 Q S) : P_X4_side v0 (fun r T => Q r T ∧ K5 S T) S := kg_X4_side_0 h (k5_rf S)
set_option maxRecDepth 20000 in
set_option maxHeartbeats 1000000 in
theorem kg_X4_rainLine_0 {Q : Int32 → HS → Prop} {v0 : Nat} {S0 S : HS} (h : P_X4_rainLine_0 Q v0 S) (K : K5 S0 S) : P_X4_rainLine_0 (fun r T => Q r T ∧ K5 S0 T) v0 S := by
  delta P_X4_rainLine_0 at h ⊢
  obtain ⟨c1, h⟩ := h
  refine ⟨c1, ?_⟩
  have n2 := k5_ne K c1
  obtain ⟨b3, e4, h⟩ := h
  refine ⟨b3, e4, ?_⟩
  obtain ⟨c5, h⟩ := h
  refine ⟨c5, ?_⟩
  have n6 := k5_ne K c5
  obtain ⟨b7, e8, h⟩ := h
  refine ⟨b7, e8, ?_⟩
  obtain ⟨b9, e10, h⟩ := h
  refine ⟨b9, e10, ?_⟩
  obtain ⟨c11, h⟩ := h
  refine ⟨c11, ?_⟩
  have n12 := k5_ne K c11
  intro x14 e13
  have h := h x14 e13
  obtain ⟨c15, h⟩ := h
  refine ⟨c15, ?_⟩
  have n16 := k5_ne K c15
  obtain ⟨c17, h⟩ := h
  refine ⟨c17, ?_⟩
  obtain ⟨b18, e19, h⟩ := h
  refine ⟨b18, e19, ?_⟩
  refine cm_X4_wordAndWhole (kg_X4_wordAndWhole h) h (fun x20 x21 hp h g22 g23 => ?_)
  have h := h g22 g23
  have K := k5_tr K hp.2
  refine ⟨?_, ?_⟩
  · intro c24
    have h := h.1 c24
    intro x26 e25
    have h := h x26 e25
    obtain ⟨c27, h⟩ := h
    refine ⟨c27, ?_⟩
    have n28 := k5_ne K c27
    intro x30 e29
    have h := h x30 e29
    have K := k5_I K e29 n28 (by decide)
    refine cm_X4_wordAndWhole (kg_X4_wordAndWhole h) h (fun x31 x32 hp h g33 g34 => ?_)
    have h := h g33 g34
    have K := k5_tr K hp.2
    refine ⟨?_, ?_⟩
    · intro c35
      have h := h.1 c35
      intro x37 e36
      have h := h x37 e36
      intro x39 e38
      have h := h x39 e38
      have K := k5_I K e38 n28 (by decide)
      refine cm_X4_word (kg_X4_word h) h (fun x40 x41 hp h g42 g43 => ?_)
      have h := h g42 g43
      have K := k5_tr K hp.2
      refine ⟨?_, ?_⟩
      · intro c44
        have h := h.1 c44
        exact ⟨h, K⟩
      · intro c45
        have h := h.2 c45
        refine cm_X4_side (kg_X4_side h) h (fun x46 x47 hp h g48 g49 => ?_)
        have h := h g48 g49
        have K := k5_tr K hp.2
        refine ⟨?_, ?_⟩
        · intro c50
          have h := h.1 c50
          intro x52 e51
          have h := h x52 e51
          intro x54 e53
          have h := h x54 e53
          have K := k5_I K e53 n28 (by decide)
          refine cm_X4_whole (kg_X4_whole h) h (fun x55 x56 hp h g57 g58 => ?_)
          have h := h g57 g58
          have K := k5_tr K hp.2
          refine ⟨?_, ?_⟩
          · intro c59
            have h := h.1 c59
            intro x61 e60
            have h := h x61 e60
            intro x63 e62
            have h := h x63 e62
            have K := k5_I K e62 n28 (by decide)
            refine cm_X4_wordAndWhole (kg_X4_wordAndWhole h) h (fun x64 x65 hp h g66 g67 => ?_)
            have h := h g66 g67
            have K := k5_tr K hp.2
            refine ⟨?_, ?_⟩
            · intro c68
              have h := h.1 c68
              intro x70 e69
              have h := h x70 e69
              intro x72 e71
              have h := h x72 e71
              have K := k5_I K e71 n28 (by decide)
              obtain ⟨b73, e74, h⟩ := h
              refine ⟨b73, e74, ?_⟩
              obtain ⟨c75, h⟩ := h
              refine ⟨c75, ?_⟩
              have n76 := k5_ne K c75
              intro x78 e77
              have h := h x78 e77
              intro x80 e79
              have h := h x80 e79
              intro x82 e81
              have h := h x82 e81
              have K := k5_I K e81 n76 (by decide)
              exact ⟨h, K⟩
            · intro c83
              have h := h.2 c83
              exact ⟨h, K⟩
          · intro c84
            have h := h.2 c84
            exact ⟨h, K⟩
        · intro c85
          have h := h.2 c85
          exact ⟨h, K⟩
    · intro c86
      have h := h.2 c86
      exact ⟨h, K⟩
  · intro c87
    have h := h.2 c87
    exact ⟨h, K⟩
theorem kg_X4_rainLine {Q : Int32 → HS → Prop} {v0 : Nat} {S : HS} (h : P_X4_rainLine v0 Q S) : P_X4_rainLine v0 (fun r T => Q r T ∧ K5 S T) S := kg_X4_rainLine_0 h (k5_rf S)
set_option maxRecDepth 20000 in
set_option maxHeartbeats 1000000 in
theorem kg_X4_roadLine_130 {Q : Int32 → HS → Prop} {v0 : Nat} {S0 S : HS} (h : P_X4_roadLine_130 Q v0 S) (K : K5 S0 S) : P_X4_roadLine_130 (fun r T => Q r T ∧ K5 S0 T) v0 S := by
  delta P_X4_roadLine_130 at h ⊢
  obtain ⟨c1, h⟩ := h
  refine ⟨c1, ?_⟩
  have n2 := k5_ne K c1
  obtain ⟨b3, e4, h⟩ := h
  refine ⟨b3, e4, ?_⟩
  obtain ⟨c5, h⟩ := h
  refine ⟨c5, ?_⟩
  have n6 := k5_ne K c5
  intro x8 e7
  have h := h x8 e7
  intro x10 e9
  have h := h x10 e9
  intro x12 e11
  have h := h x12 e11
  have K := k5_I K e11 n6 (by decide)
  exact ⟨h, K⟩
set_option maxRecDepth 20000 in
set_option maxHeartbeats 1000000 in
theorem kg_X4_roadLine_0 {Q : Int32 → HS → Prop} {v0 : Nat} {S0 S : HS} (h : P_X4_roadLine_0 Q v0 S) (K : K5 S0 S) : P_X4_roadLine_0 (fun r T => Q r T ∧ K5 S0 T) v0 S := by
  delta P_X4_roadLine_0 at h ⊢
  obtain ⟨c1, h⟩ := h
  refine ⟨c1, ?_⟩
  have n2 := k5_ne K c1
  obtain ⟨b3, e4, h⟩ := h
  refine ⟨b3, e4, ?_⟩
  obtain ⟨c5, h⟩ := h
  refine ⟨c5, ?_⟩
  have n6 := k5_ne K c5
  obtain ⟨b7, e8, h⟩ := h
  refine ⟨b7, e8, ?_⟩
  obtain ⟨b9, e10, h⟩ := h
  refine ⟨b9, e10, ?_⟩
  obtain ⟨c11, h⟩ := h
  refine ⟨c11, ?_⟩
  have n12 := k5_ne K c11
  intro x14 e13
  have h := h x14 e13
  obtain ⟨c15, h⟩ := h
  refine ⟨c15, ?_⟩
  have n16 := k5_ne K c15
  obtain ⟨c17, h⟩ := h
  refine ⟨c17, ?_⟩
  obtain ⟨b18, e19, h⟩ := h
  refine ⟨b18, e19, ?_⟩
  refine cm_X4_placeBut (kg_X4_placeBut h) h (fun x20 x21 hp h g22 g23 => ?_)
  have h := h g22 g23
  have K := k5_tr K hp.2
  refine ⟨?_, ?_⟩
  · intro c24
    have h := h.1 c24
    intro x26 e25
    have h := h x26 e25
    obtain ⟨c27, h⟩ := h
    refine ⟨c27, ?_⟩
    have n28 := k5_ne K c27
    intro x30 e29
    have h := h x30 e29
    have K := k5_I K e29 n28 (by decide)
    refine cm_X4_side (kg_X4_side h) h (fun x31 x32 hp h g33 g34 => ?_)
    have h := h g33 g34
    have K := k5_tr K hp.2
    refine ⟨?_, ?_⟩
    · intro c35
      have h := h.1 c35
      intro x37 e36
      have h := h x37 e36
      intro x39 e38
      have h := h x39 e38
      have K := k5_I K e38 n28 (by decide)
      refine cm_X4_whole (kg_X4_whole h) h (fun x40 x41 hp h g42 g43 => ?_)
      have h := h g42 g43
      have K := k5_tr K hp.2
      refine ⟨?_, ?_⟩
      · intro c44
        have h := h.1 c44
        intro x46 e45
        have h := h x46 e45
        intro x48 e47
        have h := h x48 e47
        have K := k5_I K e47 n28 (by decide)
        intro x50 e49
        have h := h x50 e49
        refine cm_X4_placeBut (kg_X4_placeBut h) h (fun x51 x52 hp h g53 g54 => ?_)
        have h := h g53 g54
        have K := k5_tr K hp.2
        refine ⟨?_, ?_⟩
        · intro c55
          have h := h.1 c55
          intro x57 e56
          have h := h x57 e56
          intro x59 e58
          have h := h x59 e58
          have K := k5_I K e58 n28 (by decide)
          intro x61 e60
          have h := h x61 e60
          have K := k5_I K e60 n28 (by decide)
          refine cm_X4_is (kg_X4_is h) h (fun x62 x63 hp h g64 g65 => ?_)
          have h := h g64 g65
          have K := k5_tr K hp.2
          refine ⟨?_, ?_⟩
          · intro c66
            have h := h.1 c66
            exact kg_X4_roadLine_130 h K
          · intro c67
            have h := h.2 c67
            intro x69 e68
            have h := h x69 e68
            refine cm_X4_wordAndWhole (kg_X4_wordAndWhole h) h (fun x70 x71 hp h g72 g73 => ?_)
            have h := h g72 g73
            have K := k5_tr K hp.2
            refine ⟨?_, ?_⟩
            · intro c74
              have h := h.1 c74
              intro x76 e75
              have h := h x76 e75
              intro x78 e77
              have h := h x78 e77
              have K := k5_I K e77 n28 (by decide)
              exact kg_X4_roadLine_130 h K
            · intro c79
              have h := h.2 c79
              exact ⟨h, K⟩
        · intro c80
          have h := h.2 c80
          exact ⟨h, K⟩
      · intro c81
        have h := h.2 c81
        exact ⟨h, K⟩
    · intro c82
      have h := h.2 c82
      exact ⟨h, K⟩
  · intro c83
    have h := h.2 c83
    exact ⟨h, K⟩
theorem kg_X4_roadLine {Q : Int32 → HS → Prop} {v0 : Nat} {S : HS} (h : P_X4_roadLine v0 Q S) : P_X4_roadLine v0 (fun r T => Q r T ∧ K5 S T) S := kg_X4_roadLine_0 h (k5_rf S)
set_option maxRecDepth 20000 in
set_option maxHeartbeats 1000000 in
theorem kg_X4_sign_0 {Q : Int32 → HS → Prop} {v0 : Nat} {v1 : Int32} {S0 S : HS} (h : P_X4_sign_0 Q v0 v1 S) (K : K5 S0 S) : P_X4_sign_0 (fun r T => Q r T ∧ K5 S0 T) v0 v1 S := by
  delta P_X4_sign_0 at h ⊢
  obtain ⟨c1, h⟩ := h
  refine ⟨c1, ?_⟩
  have n2 := k5_ne K c1
  intro x4 e3
  have h := h x4 e3
  refine ⟨?_, ?_⟩
  · intro c5
    have h := h.1 c5
    refine cm_X4_next (kg_X4_next h) h (fun x6 hp h g7 => ?_)
    have h := h g7
    have K := k5_tr K hp.2
    exact ⟨h, K⟩
  · intro c8
    have h := h.2 c8
    refine cm_X4_fail (kg_X4_fail h) h (fun x9 x10 hp h g11 g12 => ?_)
    have h := h g11 g12
    have K := k5_tr K hp.2
    obtain ⟨c13, h⟩ := h
    refine ⟨c13, ?_⟩
    exact ⟨h, K⟩
theorem kg_X4_sign {Q : Int32 → HS → Prop} {v0 : Nat} {v1 : Int32} {S : HS} (h : P_X4_sign v0 v1 Q S) : P_X4_sign v0 v1 (fun r T => Q r T ∧ K5 S T) S := kg_X4_sign_0 h (k5_rf S)
set_option maxRecDepth 20000 in
set_option maxHeartbeats 1000000 in
theorem kg_X4_someWalker_0 {Q : Int32 → HS → Prop} {v0 : Nat} {S0 S : HS} (h : P_X4_someWalker_0 Q v0 S) (K : K5 S0 S) : P_X4_someWalker_0 (fun r T => Q r T ∧ K5 S0 T) v0 S := by
  delta P_X4_someWalker_0 at h ⊢
  obtain ⟨c1, h⟩ := h
  refine ⟨c1, ?_⟩
  have n2 := k5_ne K c1
  refine cm_X4_canBeName (kg_X4_canBeName h) h (fun x3 x4 hp h g5 g6 => ?_)
  have h := h g5 g6
  have K := k5_tr K hp.2
  refine ⟨?_, ?_⟩
  · intro c7
    have h := h.1 c7
    refine cm_X4_findName (kg_X4_findName h) h (fun x8 x9 hp h g10 => ?_)
    have h := h g10
    have K := k5_tr K hp.2
    refine ⟨?_, ?_⟩
    · intro c11
      have h := h.1 c11
      intro x13 e12
      have h := h x13 e12
      intro x15 e14
      have h := h x15 e14
      have K := k5_I K e14 n2 (by decide)
      refine cm_X4_next (kg_X4_next h) h (fun x16 hp h g17 => ?_)
      have h := h g17
      have K := k5_tr K hp.2
      exact ⟨h, K⟩
    · intro c18
      have h := h.2 c18
      refine cm_X4_fail (kg_X4_fail h) h (fun x19 x20 hp h g21 g22 => ?_)
      have h := h g21 g22
      have K := k5_tr K hp.2
      obtain ⟨c23, h⟩ := h
      refine ⟨c23, ?_⟩
      exact ⟨h, K⟩
  · intro c24
    have h := h.2 c24
    refine cm_X4_fail (kg_X4_fail h) h (fun x25 x26 hp h g27 g28 => ?_)
    have h := h g27 g28
    have K := k5_tr K hp.2
    obtain ⟨c29, h⟩ := h
    refine ⟨c29, ?_⟩
    exact ⟨h, K⟩
theorem kg_X4_someWalker {Q : Int32 → HS → Prop} {v0 : Nat} {S : HS} (h : P_X4_someWalker v0 Q S) : P_X4_someWalker v0 (fun r T => Q r T ∧ K5 S T) S := kg_X4_someWalker_0 h (k5_rf S)
set_option maxRecDepth 20000 in
set_option maxHeartbeats 1000000 in
theorem kg_X4_seenLine_47 {Q : Int32 → HS → Prop} {X30 X30_2 : Nat → Int32 → HS → Prop} {v0 : Nat} {v1 : Int32} {S0 S : HS} (h : P_X4_seenLine_47 Q X30 v0 v1 S) (K : K5 S0 S) (hX30 : ∀ (u0 : Nat) (u1 : Int32) (u2 : HS), X30 u0 u1 u2 → K5 S0 u2 → X30_2 u0 u1 u2) : P_X4_seenLine_47 (fun r T => Q r T ∧ K5 S0 T) X30_2 v0 v1 S := by
  delta P_X4_seenLine_47 at h ⊢
  obtain ⟨c1, h⟩ := h
  refine ⟨c1, ?_⟩
  have n2 := k5_ne K c1
  refine cm_X4_whole (kg_X4_whole h) h (fun x3 x4 hp h g5 g6 => ?_)
  have h := h g5 g6
  have K := k5_tr K hp.2
  refine ⟨?_, ?_⟩
  · intro c7
    have h := h.1 c7
    obtain ⟨b8, e9, h⟩ := h
    refine ⟨b8, e9, ?_⟩
    obtain ⟨c10, h⟩ := h
    refine ⟨c10, ?_⟩
    have n11 := k5_ne K c10
    obtain ⟨b12, e13, h⟩ := h
    refine ⟨b12, e13, ?_⟩
    obtain ⟨b14, e15, h⟩ := h
    refine ⟨b14, e15, ?_⟩
    obtain ⟨c16, h⟩ := h
    refine ⟨c16, ?_⟩
    have n17 := k5_ne K c16
    intro x19 e18
    have h := h x19 e18
    intro x21 e20
    have h := h x21 e20
    obtain ⟨c22, h⟩ := h
    refine ⟨c22, ?_⟩
    have n23 := k5_ne K c22
    obtain ⟨c24, h⟩ := h
    refine ⟨c24, ?_⟩
    intro x26 e25
    have h := h x26 e25
    have K := k5_A K e25 n23 (by decide)
    intro x28 e27
    have h := h x28 e27
    exact hX30 _ _ _ h K
  · intro c29
    have h := h.2 c29
    exact ⟨h, K⟩
set_option maxRecDepth 20000 in
set_option maxHeartbeats 1000000 in
theorem kgB_X4_seenLine_30 {Q : Int32 → HS → Prop} {X30 X30_2 : Nat → Int32 → HS → Prop} {v0 : Nat} {v1 : Int32} {S0 S : HS} (h : B_X4_seenLine_30 Q X30 v0 v1 S) (K : K5 S0 S) (hX30 : ∀ (u0 : Nat) (u1 : Int32) (u2 : HS), X30 u0 u1 u2 → K5 S0 u2 → X30_2 u0 u1 u2) : B_X4_seenLine_30 (fun r T => Q r T ∧ K5 S0 T) X30_2 v0 v1 S := by
  delta B_X4_seenLine_30 at h ⊢
  refine ⟨?_, ?_⟩
  · intro c1
    have h := h.1 c1
    obtain ⟨c2, h⟩ := h
    refine ⟨c2, ?_⟩
    have n3 := k5_ne K c2
    obtain ⟨b4, e5, h⟩ := h
    refine ⟨b4, e5, ?_⟩
    obtain ⟨c6, h⟩ := h
    refine ⟨c6, ?_⟩
    have n7 := k5_ne K c6
    intro x9 e8
    have h := h x9 e8
    intro x11 e10
    have h := h x11 e10
    intro x13 e12
    have h := h x13 e12
    have K := k5_I K e12 n7 (by decide)
    exact ⟨h, K⟩
  · intro c14
    have h := h.2 c14
    refine ⟨?_, ?_⟩
    · intro c15
      have h := h.1 c15
      exact kg_X4_seenLine_47 h K hX30
    · intro c16
      have h := h.2 c16
      obtain ⟨c17, h⟩ := h
      refine ⟨c17, ?_⟩
      have n18 := k5_ne K c17
      refine cm_X4_sign (kg_X4_sign h) h (fun x19 x20 hp h g21 g22 => ?_)
      have h := h g21 g22
      have K := k5_tr K hp.2
      refine ⟨?_, ?_⟩
      · intro c23
        have h := h.1 c23
        exact ⟨h, K⟩
      · intro c24
        have h := h.2 c24
        exact kg_X4_seenLine_47 h K hX30
theorem kg_X4_seenLine_30 {Q : Int32 → HS → Prop} {v0 : Nat} {v1 : Int32} {S0 S : HS} (h : P_X4_seenLine_30 Q v0 v1 S) (K : K5 S0 S) : P_X4_seenLine_30 (fun r T => Q r T ∧ K5 S0 T) v0 v1 S := h (fun v0 v1 S => K5 S0 S → P_X4_seenLine_30 (fun r T => Q r T ∧ K5 S0 T) v0 v1 S) (fun v0 v1 S hB K => fd_X4_seenLine_30 (kgB_X4_seenLine_30 hB K (fun _ _ _ hx K => hx K))) K
set_option maxRecDepth 20000 in
set_option maxHeartbeats 1000000 in
theorem kg_X4_seenLine_0 {Q : Int32 → HS → Prop} {v0 : Nat} {S0 S : HS} (h : P_X4_seenLine_0 Q v0 S) (K : K5 S0 S) : P_X4_seenLine_0 (fun r T => Q r T ∧ K5 S0 T) v0 S := by
  delta P_X4_seenLine_0 at h ⊢
  obtain ⟨c1, h⟩ := h
  refine ⟨c1, ?_⟩
  have n2 := k5_ne K c1
  refine cm_X4_someWalker (kg_X4_someWalker h) h (fun x3 x4 hp h g5 g6 => ?_)
  have h := h g5 g6
  have K := k5_tr K hp.2
  refine ⟨?_, ?_⟩
  · intro c7
    have h := h.1 c7
    obtain ⟨b8, e9, h⟩ := h
    refine ⟨b8, e9, ?_⟩
    obtain ⟨c10, h⟩ := h
    refine ⟨c10, ?_⟩
    have n11 := k5_ne K c10
    obtain ⟨b12, e13, h⟩ := h
    refine ⟨b12, e13, ?_⟩
    obtain ⟨b14, e15, h⟩ := h
    refine ⟨b14, e15, ?_⟩
    obtain ⟨c16, h⟩ := h
    refine ⟨c16, ?_⟩
    have n17 := k5_ne K c16
    intro x19 e18
    have h := h x19 e18
    intro x21 e20
    have h := h x21 e20
    obtain ⟨c22, h⟩ := h
    refine ⟨c22, ?_⟩
    have n23 := k5_ne K c22
    obtain ⟨c24, h⟩ := h
    refine ⟨c24, ?_⟩
    intro x26 e25
    have h := h x26 e25
    have K := k5_A K e25 n23 (by decide)
    exact kg_X4_seenLine_30 h K
  · intro c27
    have h := h.2 c27
    exact ⟨h, K⟩
theorem kg_X4_seenLine {Q : Int32 → HS → Prop} {v0 : Nat} {S : HS} (h : P_X4_seenLine v0 Q S) : P_X4_seenLine v0 (fun r T => Q r T ∧ K5 S T) S := kg_X4_seenLine_0 h (k5_rf S)
