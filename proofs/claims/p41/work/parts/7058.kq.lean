section
set_option maxRecDepth 20000 in
set_option maxHeartbeats 1000000 in
theorem kq_X11_waitsOf_0 {Q : Int64 → HS → Prop} {v0 : Nat} {v1 : Int32} {v2 : Int32} {v3 : Int32} {S0 S : HS} (h : P_X11_waitsOf_0 Q v0 v1 v2 v3 S) (K : KQ5 S0 S) : P_X11_waitsOf_0 (fun r T => Q r T ∧ KQ5 S0 T) v0 v1 v2 v3 S := by
  delta P_X11_waitsOf_0 at h ⊢
  obtain ⟨c1, h⟩ := h
  refine ⟨c1, ?_⟩
  have n2 := kq5_ne K c1
  refine cm_X11_hourOf (kq_X11_hourOf h) h (fun x3 x4 hp h g5 => ?_)
  have h := h g5
  have K := kq5_tr K hp.2
  obtain ⟨b6, e7, h⟩ := h
  refine ⟨b6, e7, ?_⟩
  obtain ⟨c8, h⟩ := h
  refine ⟨c8, ?_⟩
  have n9 := kq5_ne K c8
  obtain ⟨b10, e11, h⟩ := h
  refine ⟨b10, e11, ?_⟩
  obtain ⟨c12, h⟩ := h
  refine ⟨c12, ?_⟩
  have n13 := kq5_ne K c12
  obtain ⟨c14, h⟩ := h
  refine ⟨c14, ?_⟩
  intro x16 e15
  have h := h x16 e15
  refine ⟨?_, ?_⟩
  · intro c17
    have h := h.1 c17
    exact ⟨h, K⟩
  · intro c18
    have h := h.2 c18
    obtain ⟨b19, e20, h⟩ := h
    refine ⟨b19, e20, ?_⟩
    obtain ⟨c21, h⟩ := h
    refine ⟨c21, ?_⟩
    have n22 := kq5_ne K c21
    intro x24 e23
    have h := h x24 e23
    refine ⟨?_, ?_⟩
    · intro c25
      have h := h.1 c25
      refine cm_X11_drips (kq_X11_drips h) h (fun x26 x27 hp h g28 => ?_)
      have h := h g28
      have K := kq5_tr K hp.2
      obtain ⟨b29, e30, h⟩ := h
      refine ⟨b29, e30, ?_⟩
      obtain ⟨c31, h⟩ := h
      refine ⟨c31, ?_⟩
      have n32 := kq5_ne K c31
      obtain ⟨b33, e34, h⟩ := h
      refine ⟨b33, e34, ?_⟩
      obtain ⟨c35, h⟩ := h
      refine ⟨c35, ?_⟩
      have n36 := kq5_ne K c35
      obtain ⟨c37, h⟩ := h
      refine ⟨c37, ?_⟩
      intro x39 e38
      have h := h x39 e38
      exact ⟨h, K⟩
    · intro c40
      have h := h.2 c40
      exact ⟨h, K⟩
theorem kq_X11_waitsOf {Q : Int64 → HS → Prop} {v0 : Nat} {v1 : Int32} {v2 : Int32} {v3 : Int32} {S : HS} (h : P_X11_waitsOf v0 v1 v2 v3 Q S) : P_X11_waitsOf v0 v1 v2 v3 (fun r T => Q r T ∧ KQ5 S T) S := kq_X11_waitsOf_0 h (kq5_rf S)
set_option maxRecDepth 20000 in
set_option maxHeartbeats 1000000 in
theorem kq_X11_tries_140 {Q : HS → Prop} {X3 X3_2 : Nat → Int32 → Int32 → Int32 → Int32 → Int32 → HS → Prop} {X18 X18_2 : Nat → Int32 → Int32 → Int32 → Int32 → Int32 → Int32 → HS → Prop} {X53 X53_2 : Nat → Int32 → Int32 → Int32 → Int32 → Int32 → Int32 → Int32 → HS → Prop} {v0 : Nat} {v1 : Int32} {v2 : Int32} {v3 : Int32} {v4 : Int32} {v5 : Int32} {v6 : Int32} {v7 : Int32} {S0 S : HS} (h : P_X11_tries_140 Q X3 X18 X53 v0 v1 v2 v3 v4 v5 v6 v7 S) (K : KQ5 S0 S) (hX3 : ∀ (u0 : Nat) (u1 : Int32) (u2 : Int32) (u3 : Int32) (u4 : Int32) (u5 : Int32) (u6 : HS), X3 u0 u1 u2 u3 u4 u5 u6 → KQ5 S0 u6 → X3_2 u0 u1 u2 u3 u4 u5 u6) (hX18 : ∀ (u0 : Nat) (u1 : Int32) (u2 : Int32) (u3 : Int32) (u4 : Int32) (u5 : Int32) (u6 : Int32) (u7 : HS), X18 u0 u1 u2 u3 u4 u5 u6 u7 → KQ5 S0 u7 → X18_2 u0 u1 u2 u3 u4 u5 u6 u7) (hX53 : ∀ (u0 : Nat) (u1 : Int32) (u2 : Int32) (u3 : Int32) (u4 : Int32) (u5 : Int32) (u6 : Int32) (u7 : Int32) (u8 : HS), X53 u0 u1 u2 u3 u4 u5 u6 u7 u8 → KQ5 S0 u8 → X53_2 u0 u1 u2 u3 u4 u5 u6 u7 u8) : P_X11_tries_140 (fun T => Q T ∧ KQ5 S0 T) X3_2 X18_2 X53_2 v0 v1 v2 v3 v4 v5 v6 v7 S := by
  delta P_X11_tries_140 at h ⊢
  intro x2 e1
  have h := h x2 e1
  exact hX53 _ _ _ _ _ _ _ _ _ h K
set_option maxRecDepth 20000 in
set_option maxHeartbeats 1000000 in
theorem kq_X11_tries_146 {Q : HS → Prop} {X3 X3_2 : Nat → Int32 → Int32 → Int32 → Int32 → Int32 → HS → Prop} {X18 X18_2 : Nat → Int32 → Int32 → Int32 → Int32 → Int32 → Int32 → HS → Prop} {v0 : Nat} {v1 : Int32} {v2 : Int32} {v3 : Int32} {v4 : Int32} {v5 : Int32} {v6 : Int32} {S0 S : HS} (h : P_X11_tries_146 Q X3 X18 v0 v1 v2 v3 v4 v5 v6 S) (K : KQ5 S0 S) (hX3 : ∀ (u0 : Nat) (u1 : Int32) (u2 : Int32) (u3 : Int32) (u4 : Int32) (u5 : Int32) (u6 : HS), X3 u0 u1 u2 u3 u4 u5 u6 → KQ5 S0 u6 → X3_2 u0 u1 u2 u3 u4 u5 u6) (hX18 : ∀ (u0 : Nat) (u1 : Int32) (u2 : Int32) (u3 : Int32) (u4 : Int32) (u5 : Int32) (u6 : Int32) (u7 : HS), X18 u0 u1 u2 u3 u4 u5 u6 u7 → KQ5 S0 u7 → X18_2 u0 u1 u2 u3 u4 u5 u6 u7) : P_X11_tries_146 (fun T => Q T ∧ KQ5 S0 T) X3_2 X18_2 v0 v1 v2 v3 v4 v5 v6 S := by
  delta P_X11_tries_146 at h ⊢
  intro x2 e1
  have h := h x2 e1
  exact hX18 _ _ _ _ _ _ _ _ h K
set_option maxRecDepth 20000 in
set_option maxHeartbeats 1000000 in
theorem kqB_X11_tries_53 {Q : HS → Prop} {X3 X3_2 : Nat → Int32 → Int32 → Int32 → Int32 → Int32 → HS → Prop} {X18 X18_2 : Nat → Int32 → Int32 → Int32 → Int32 → Int32 → Int32 → HS → Prop} {X53 X53_2 : Nat → Int32 → Int32 → Int32 → Int32 → Int32 → Int32 → Int32 → HS → Prop} {v0 : Nat} {v1 : Int32} {v2 : Int32} {v3 : Int32} {v4 : Int32} {v5 : Int32} {v6 : Int32} {v7 : Int32} {S0 S : HS} (h : B_X11_tries_53 Q X3 X18 X53 v0 v1 v2 v3 v4 v5 v6 v7 S) (K : KQ5 S0 S) (hX3 : ∀ (u0 : Nat) (u1 : Int32) (u2 : Int32) (u3 : Int32) (u4 : Int32) (u5 : Int32) (u6 : HS), X3 u0 u1 u2 u3 u4 u5 u6 → KQ5 S0 u6 → X3_2 u0 u1 u2 u3 u4 u5 u6) (hX18 : ∀ (u0 : Nat) (u1 : Int32) (u2 : Int32) (u3 : Int32) (u4 : Int32) (u5 : Int32) (u6 : Int32) (u7 : HS), X18 u0 u1 u2 u3 u4 u5 u6 u7 → KQ5 S0 u7 → X18_2 u0 u1 u2 u3 u4 u5 u6 u7) (hX53 : ∀ (u0 : Nat) (u1 : Int32) (u2 : Int32) (u3 : Int32) (u4 : Int32) (u5 : Int32) (u6 : Int32) (u7 : Int32) (u8 : HS), X53 u0 u1 u2 u3 u4 u5 u6 u7 u8 → KQ5 S0 u8 → X53_2 u0 u1 u2 u3 u4 u5 u6 u7 u8) : B_X11_tries_53 (fun T => Q T ∧ KQ5 S0 T) X3_2 X18_2 X53_2 v0 v1 v2 v3 v4 v5 v6 v7 S := by
  delta B_X11_tries_53 at h ⊢
  obtain ⟨c1, h⟩ := h
  refine ⟨c1, ?_⟩
  have n2 := kq5_ne K c1
  obtain ⟨b3, e4, h⟩ := h
  refine ⟨b3, e4, ?_⟩
  obtain ⟨c5, h⟩ := h
  refine ⟨c5, ?_⟩
  have n6 := kq5_ne K c5
  obtain ⟨b7, e8, h⟩ := h
  refine ⟨b7, e8, ?_⟩
  obtain ⟨c9, h⟩ := h
  refine ⟨c9, ?_⟩
  have n10 := kq5_ne K c9
  obtain ⟨c11, h⟩ := h
  refine ⟨c11, ?_⟩
  intro x13 e12
  have h := h x13 e12
  refine ⟨?_, ?_⟩
  · intro c14
    have h := h.1 c14
    exact kq_X11_tries_146 h K hX3 hX18
  · intro c15
    have h := h.2 c15
    obtain ⟨b16, e17, h⟩ := h
    refine ⟨b16, e17, ?_⟩
    obtain ⟨c18, h⟩ := h
    refine ⟨c18, ?_⟩
    have n19 := kq5_ne K c18
    refine cm_X10_minutes (kq_X10_minutes h) h (fun x20 x21 hp h g22 => ?_)
    have h := h g22
    have K := kq5_tr K hp.2
    intro x24 e23
    have h := h x24 e23
    refine ⟨?_, ?_⟩
    · intro c25
      have h := h.1 c25
      exact kq_X11_tries_140 h K hX3 hX18 hX53
    · intro c26
      have h := h.2 c26
      refine cm_X11_spotOf (kq_X11_spotOf h) h (fun x27 x28 hp h g29 => ?_)
      have h := h g29
      have K := kq5_tr K hp.2
      obtain ⟨b30, e31, h⟩ := h
      refine ⟨b30, e31, ?_⟩
      obtain ⟨c32, h⟩ := h
      refine ⟨c32, ?_⟩
      have n33 := kq5_ne K c32
      refine cm_X10_ends (kq_X10_ends h) h (fun x34 x35 hp h g36 => ?_)
      have h := h g36
      have K := kq5_tr K hp.2
      refine cm_X11_spotOf (kq_X11_spotOf h) h (fun x37 x38 hp h g39 => ?_)
      have h := h g39
      have K := kq5_tr K hp.2
      refine cm_X11_meanOf (kq_X11_meanOf h) h (fun x40 x41 hp h g42 => ?_)
      have h := h g42
      have K := kq5_tr K hp.2
      refine cm_X11_takes (kq_X11_takes h) h (fun x43 hp h g44 => ?_)
      have h := h g44
      have K := kq5_tr K hp.2
      exact kq_X11_tries_140 h K hX3 hX18 hX53
theorem kq_X11_tries_53 {Q : HS → Prop} {X3 X3_2 : Nat → Int32 → Int32 → Int32 → Int32 → Int32 → HS → Prop} {X18 X18_2 : Nat → Int32 → Int32 → Int32 → Int32 → Int32 → Int32 → HS → Prop} {v0 : Nat} {v1 : Int32} {v2 : Int32} {v3 : Int32} {v4 : Int32} {v5 : Int32} {v6 : Int32} {v7 : Int32} {S0 S : HS} (h : P_X11_tries_53 Q X3 X18 v0 v1 v2 v3 v4 v5 v6 v7 S) (K : KQ5 S0 S) (hX3 : ∀ (u0 : Nat) (u1 : Int32) (u2 : Int32) (u3 : Int32) (u4 : Int32) (u5 : Int32) (u6 : HS), X3 u0 u1 u2 u3 u4 u5 u6 → KQ5 S0 u6 → X3_2 u0 u1 u2 u3 u4 u5 u6) (hX18 : ∀ (u0 : Nat) (u1 : Int32) (u2 : Int32) (u3 : Int32) (u4 : Int32) (u5 : Int32) (u6 : Int32) (u7 : HS), X18 u0 u1 u2 u3 u4 u5 u6 u7 → KQ5 S0 u7 → X18_2 u0 u1 u2 u3 u4 u5 u6 u7) : P_X11_tries_53 (fun T => Q T ∧ KQ5 S0 T) X3_2 X18_2 v0 v1 v2 v3 v4 v5 v6 v7 S := h (fun v0 v1 v2 v3 v4 v5 v6 v7 S => KQ5 S0 S → P_X11_tries_53 (fun T => Q T ∧ KQ5 S0 T) X3_2 X18_2 v0 v1 v2 v3 v4 v5 v6 v7 S) (fun v0 v1 v2 v3 v4 v5 v6 v7 S hB K => fd_X11_tries_53 (kqB_X11_tries_53 hB K hX3 hX18 (fun _ _ _ _ _ _ _ _ _ hx K => hx K))) K
set_option maxRecDepth 20000 in
set_option maxHeartbeats 1000000 in
theorem kqB_X11_tries_18 {Q : HS → Prop} {X3 X3_2 : Nat → Int32 → Int32 → Int32 → Int32 → Int32 → HS → Prop} {X18 X18_2 : Nat → Int32 → Int32 → Int32 → Int32 → Int32 → Int32 → HS → Prop} {v0 : Nat} {v1 : Int32} {v2 : Int32} {v3 : Int32} {v4 : Int32} {v5 : Int32} {v6 : Int32} {S0 S : HS} (h : B_X11_tries_18 Q X3 X18 v0 v1 v2 v3 v4 v5 v6 S) (K : KQ5 S0 S) (hX3 : ∀ (u0 : Nat) (u1 : Int32) (u2 : Int32) (u3 : Int32) (u4 : Int32) (u5 : Int32) (u6 : HS), X3 u0 u1 u2 u3 u4 u5 u6 → KQ5 S0 u6 → X3_2 u0 u1 u2 u3 u4 u5 u6) (hX18 : ∀ (u0 : Nat) (u1 : Int32) (u2 : Int32) (u3 : Int32) (u4 : Int32) (u5 : Int32) (u6 : Int32) (u7 : HS), X18 u0 u1 u2 u3 u4 u5 u6 u7 → KQ5 S0 u7 → X18_2 u0 u1 u2 u3 u4 u5 u6 u7) : B_X11_tries_18 (fun T => Q T ∧ KQ5 S0 T) X3_2 X18_2 v0 v1 v2 v3 v4 v5 v6 S := by
  delta B_X11_tries_18 at h ⊢
  refine ⟨?_, ?_⟩
  · intro c1
    have h := h.1 c1
    intro x3 e2
    have h := h x3 e2
    exact hX3 _ _ _ _ _ _ _ h K
  · intro c4
    have h := h.2 c4
    obtain ⟨c5, h⟩ := h
    refine ⟨c5, ?_⟩
    have n6 := kq5_ne K c5
    obtain ⟨b7, e8, h⟩ := h
    refine ⟨b7, e8, ?_⟩
    obtain ⟨c9, h⟩ := h
    refine ⟨c9, ?_⟩
    have n10 := kq5_ne K c9
    refine cm_X10_begins (kq_X10_begins h) h (fun x11 x12 hp h g13 => ?_)
    have h := h g13
    have K := kq5_tr K hp.2
    refine ⟨?_, ?_⟩
    · intro c14
      have h := h.1 c14
      obtain ⟨b15, e16, h⟩ := h
      refine ⟨b15, e16, ?_⟩
      obtain ⟨c17, h⟩ := h
      refine ⟨c17, ?_⟩
      have n18 := kq5_ne K c17
      obtain ⟨b19, e20, h⟩ := h
      refine ⟨b19, e20, ?_⟩
      obtain ⟨c21, h⟩ := h
      refine ⟨c21, ?_⟩
      have n22 := kq5_ne K c21
      obtain ⟨c23, h⟩ := h
      refine ⟨c23, ?_⟩
      intro x25 e24
      have h := h x25 e24
      exact kq_X11_tries_53 h K hX3 hX18
    · intro c26
      have h := h.2 c26
      exact kq_X11_tries_146 h K hX3 hX18
theorem kq_X11_tries_18 {Q : HS → Prop} {X3 X3_2 : Nat → Int32 → Int32 → Int32 → Int32 → Int32 → HS → Prop} {v0 : Nat} {v1 : Int32} {v2 : Int32} {v3 : Int32} {v4 : Int32} {v5 : Int32} {v6 : Int32} {S0 S : HS} (h : P_X11_tries_18 Q X3 v0 v1 v2 v3 v4 v5 v6 S) (K : KQ5 S0 S) (hX3 : ∀ (u0 : Nat) (u1 : Int32) (u2 : Int32) (u3 : Int32) (u4 : Int32) (u5 : Int32) (u6 : HS), X3 u0 u1 u2 u3 u4 u5 u6 → KQ5 S0 u6 → X3_2 u0 u1 u2 u3 u4 u5 u6) : P_X11_tries_18 (fun T => Q T ∧ KQ5 S0 T) X3_2 v0 v1 v2 v3 v4 v5 v6 S := h (fun v0 v1 v2 v3 v4 v5 v6 S => KQ5 S0 S → P_X11_tries_18 (fun T => Q T ∧ KQ5 S0 T) X3_2 v0 v1 v2 v3 v4 v5 v6 S) (fun v0 v1 v2 v3 v4 v5 v6 S hB K => fd_X11_tries_18 (kqB_X11_tries_18 hB K hX3 (fun _ _ _ _ _ _ _ _ hx K => hx K))) K
set_option maxRecDepth 20000 in
set_option maxHeartbeats 1000000 in
theorem kqB_X11_tries_3 {Q : HS → Prop} {X3 X3_2 : Nat → Int32 → Int32 → Int32 → Int32 → Int32 → HS → Prop} {v0 : Nat} {v1 : Int32} {v2 : Int32} {v3 : Int32} {v4 : Int32} {v5 : Int32} {S0 S : HS} (h : B_X11_tries_3 Q X3 v0 v1 v2 v3 v4 v5 S) (K : KQ5 S0 S) (hX3 : ∀ (u0 : Nat) (u1 : Int32) (u2 : Int32) (u3 : Int32) (u4 : Int32) (u5 : Int32) (u6 : HS), X3 u0 u1 u2 u3 u4 u5 u6 → KQ5 S0 u6 → X3_2 u0 u1 u2 u3 u4 u5 u6) : B_X11_tries_3 (fun T => Q T ∧ KQ5 S0 T) X3_2 v0 v1 v2 v3 v4 v5 S := by
  delta B_X11_tries_3 at h ⊢
  obtain ⟨c1, h⟩ := h
  refine ⟨c1, ?_⟩
  have n2 := kq5_ne K c1
  obtain ⟨b3, e4, h⟩ := h
  refine ⟨b3, e4, ?_⟩
  obtain ⟨c5, h⟩ := h
  refine ⟨c5, ?_⟩
  have n6 := kq5_ne K c5
  intro x8 e7
  have h := h x8 e7
  refine ⟨?_, ?_⟩
  · intro c9
    have h := h.1 c9
    refine cm_X11_canWait (kq_X11_canWait h) h (fun x10 x11 hp h g12 g13 => ?_)
    have h := h g12 g13
    have K := kq5_tr K hp.2
    refine ⟨?_, ?_⟩
    · intro c14
      have h := h.1 c14
      exact ⟨h, K⟩
    · intro c15
      have h := h.2 c15
      refine ⟨?_, ?_⟩
      · intro c16
        have h := h.1 c16
        exact ⟨h, K⟩
      · intro c17
        have h := h.2 c17
        refine cm_X11_spotOf (kq_X11_spotOf h) h (fun x18 x19 hp h g20 => ?_)
        have h := h g20
        have K := kq5_tr K hp.2
        refine cm_X11_spotOf (kq_X11_spotOf h) h (fun x21 x22 hp h g23 => ?_)
        have h := h g23
        have K := kq5_tr K hp.2
        refine cm_X11_waitsOf (kq_X11_waitsOf h) h (fun x24 x25 hp h g26 => ?_)
        have h := h g26
        have K := kq5_tr K hp.2
        refine cm_X11_takes (kq_X11_takes h) h (fun x27 hp h g28 => ?_)
        have h := h g28
        have K := kq5_tr K hp.2
        exact ⟨h, K⟩
  · intro c29
    have h := h.2 c29
    exact kq_X11_tries_18 h K hX3
theorem kq_X11_tries_3 {Q : HS → Prop} {v0 : Nat} {v1 : Int32} {v2 : Int32} {v3 : Int32} {v4 : Int32} {v5 : Int32} {S0 S : HS} (h : P_X11_tries_3 Q v0 v1 v2 v3 v4 v5 S) (K : KQ5 S0 S) : P_X11_tries_3 (fun T => Q T ∧ KQ5 S0 T) v0 v1 v2 v3 v4 v5 S := h (fun v0 v1 v2 v3 v4 v5 S => KQ5 S0 S → P_X11_tries_3 (fun T => Q T ∧ KQ5 S0 T) v0 v1 v2 v3 v4 v5 S) (fun v0 v1 v2 v3 v4 v5 S hB K => fd_X11_tries_3 (kqB_X11_tries_3 hB K (fun _ _ _ _ _ _ _ hx K => hx K))) K
set_option maxRecDepth 20000 in
set_option maxHeartbeats 1000000 in
theorem kq_X11_tries_0 {Q : HS → Prop} {v0 : Nat} {v1 : Int32} {v2 : Int32} {v3 : Int32} {v4 : Int32} {S0 S : HS} (h : P_X11_tries_0 Q v0 v1 v2 v3 v4 S) (K : KQ5 S0 S) : P_X11_tries_0 (fun T => Q T ∧ KQ5 S0 T) v0 v1 v2 v3 v4 S := by
  delta P_X11_tries_0 at h ⊢
  exact kq_X11_tries_3 h K
theorem kq_X11_tries {Q : HS → Prop} {v0 : Nat} {v1 : Int32} {v2 : Int32} {v3 : Int32} {v4 : Int32} {S : HS} (h : P_X11_tries v0 v1 v2 v3 v4 Q S) : P_X11_tries v0 v1 v2 v3 v4 (fun T => Q T ∧ KQ5 S T) S := kq_X11_tries_0 h (kq5_rf S)
set_option maxRecDepth 20000 in
set_option maxHeartbeats 1000000 in
theorem kq_X11_laysWays_85 {Q : HS → Prop} {X3 X3_2 : Nat → Int32 → Int32 → Int32 → Int32 → HS → Prop} {X11 X11_2 : Nat → Int32 → Int32 → Int32 → Int32 → Int32 → HS → Prop} {v0 : Nat} {v1 : Int32} {v2 : Int32} {v3 : Int32} {v4 : Int32} {v5 : Int32} {S0 S : HS} (h : P_X11_laysWays_85 Q X3 X11 v0 v1 v2 v3 v4 v5 S) (K : KQ5 S0 S) (hX3 : ∀ (u0 : Nat) (u1 : Int32) (u2 : Int32) (u3 : Int32) (u4 : Int32) (u5 : HS), X3 u0 u1 u2 u3 u4 u5 → KQ5 S0 u5 → X3_2 u0 u1 u2 u3 u4 u5) (hX11 : ∀ (u0 : Nat) (u1 : Int32) (u2 : Int32) (u3 : Int32) (u4 : Int32) (u5 : Int32) (u6 : HS), X11 u0 u1 u2 u3 u4 u5 u6 → KQ5 S0 u6 → X11_2 u0 u1 u2 u3 u4 u5 u6) : P_X11_laysWays_85 (fun T => Q T ∧ KQ5 S0 T) X3_2 X11_2 v0 v1 v2 v3 v4 v5 S := by
  delta P_X11_laysWays_85 at h ⊢
  intro x2 e1
  have h := h x2 e1
  exact hX11 _ _ _ _ _ _ _ h K
set_option maxRecDepth 20000 in
set_option maxHeartbeats 1000000 in
theorem kq_X11_laysWays_51 {Q : HS → Prop} {X3 X3_2 : Nat → Int32 → Int32 → Int32 → Int32 → HS → Prop} {X11 X11_2 : Nat → Int32 → Int32 → Int32 → Int32 → Int32 → HS → Prop} {v0 : Nat} {v1 : Int32} {v2 : Int32} {v3 : Int32} {v4 : Int32} {v5 : Int32} {v6 : Int32} {s0 : Nat} {s1 : Int32} {s2 : Int64} {S0 S : HS} (h : P_X11_laysWays_51 Q X3 X11 v0 v1 v2 v3 v4 v5 v6 s0 s1 s2 S) (K : KQ5 S0 S) (hX3 : ∀ (u0 : Nat) (u1 : Int32) (u2 : Int32) (u3 : Int32) (u4 : Int32) (u5 : HS), X3 u0 u1 u2 u3 u4 u5 → KQ5 S0 u5 → X3_2 u0 u1 u2 u3 u4 u5) (hX11 : ∀ (u0 : Nat) (u1 : Int32) (u2 : Int32) (u3 : Int32) (u4 : Int32) (u5 : Int32) (u6 : HS), X11 u0 u1 u2 u3 u4 u5 u6 → KQ5 S0 u6 → X11_2 u0 u1 u2 u3 u4 u5 u6) : P_X11_laysWays_51 (fun T => Q T ∧ KQ5 S0 T) X3_2 X11_2 v0 v1 v2 v3 v4 v5 v6 s0 s1 s2 S := by
  delta P_X11_laysWays_51 at h ⊢
  obtain ⟨c1, h⟩ := h
  refine ⟨c1, ?_⟩
  have n2 := kq5_ne K c1
  obtain ⟨c3, h⟩ := h
  refine ⟨c3, ?_⟩
  intro x5 e4
  have h := h x5 e4
  have K := kq5_J K e4
  obtain ⟨c6, h⟩ := h
  refine ⟨c6, ?_⟩
  have n7 := kq5_ne K c6
  obtain ⟨b8, e9, h⟩ := h
  refine ⟨b8, e9, ?_⟩
  obtain ⟨c10, h⟩ := h
  refine ⟨c10, ?_⟩
  have n11 := kq5_ne K c10
  obtain ⟨c12, h⟩ := h
  refine ⟨c12, ?_⟩
  intro x14 e13
  have h := h x14 e13
  have K := kq5_A K e13 n11 (by decide)
  obtain ⟨b15, e16, h⟩ := h
  refine ⟨b15, e16, ?_⟩
  obtain ⟨c17, h⟩ := h
  refine ⟨c17, ?_⟩
  have n18 := kq5_ne K c17
  obtain ⟨c19, h⟩ := h
  refine ⟨c19, ?_⟩
  intro x21 e20
  have h := h x21 e20
  have K := kq5_A K e20 n18 (by decide)
  refine ⟨?_, ?_⟩
  · intro c22
    have h := h.1 c22
    exact kq_X11_laysWays_85 h K hX3 hX11
  · intro c23
    have h := h.2 c23
    refine cm_X11_tries (kq_X11_tries h) h (fun x24 hp h g25 => ?_)
    have h := h g25
    have K := kq5_tr K hp.2
    exact kq_X11_laysWays_85 h K hX3 hX11
set_option maxRecDepth 20000 in
set_option maxHeartbeats 1000000 in
theorem kqB_X11_laysWays_11 {Q : HS → Prop} {X3 X3_2 : Nat → Int32 → Int32 → Int32 → Int32 → HS → Prop} {X11 X11_2 : Nat → Int32 → Int32 → Int32 → Int32 → Int32 → HS → Prop} {v0 : Nat} {v1 : Int32} {v2 : Int32} {v3 : Int32} {v4 : Int32} {v5 : Int32} {S0 S : HS} (h : B_X11_laysWays_11 Q X3 X11 v0 v1 v2 v3 v4 v5 S) (K : KQ5 S0 S) (hX3 : ∀ (u0 : Nat) (u1 : Int32) (u2 : Int32) (u3 : Int32) (u4 : Int32) (u5 : HS), X3 u0 u1 u2 u3 u4 u5 → KQ5 S0 u5 → X3_2 u0 u1 u2 u3 u4 u5) (hX11 : ∀ (u0 : Nat) (u1 : Int32) (u2 : Int32) (u3 : Int32) (u4 : Int32) (u5 : Int32) (u6 : HS), X11 u0 u1 u2 u3 u4 u5 u6 → KQ5 S0 u6 → X11_2 u0 u1 u2 u3 u4 u5 u6) : B_X11_laysWays_11 (fun T => Q T ∧ KQ5 S0 T) X3_2 X11_2 v0 v1 v2 v3 v4 v5 S := by
  delta B_X11_laysWays_11 at h ⊢
  obtain ⟨c1, h⟩ := h
  refine ⟨c1, ?_⟩
  have n2 := kq5_ne K c1
  obtain ⟨b3, e4, h⟩ := h
  refine ⟨b3, e4, ?_⟩
  obtain ⟨c5, h⟩ := h
  refine ⟨c5, ?_⟩
  have n6 := kq5_ne K c5
  intro x8 e7
  have h := h x8 e7
  refine ⟨?_, ?_⟩
  · intro c9
    have h := h.1 c9
    intro x11 e10
    have h := h x11 e10
    exact hX3 _ _ _ _ _ _ h K
  · intro c12
    have h := h.2 c12
    refine cm_X11_spotOf (kq_X11_spotOf h) h (fun x13 x14 hp h g15 => ?_)
    have h := h g15
    have K := kq5_tr K hp.2
    obtain ⟨b16, e17, h⟩ := h
    refine ⟨b16, e17, ?_⟩
    refine ⟨?_, ?_⟩
    · intro c18
      have h := h.1 c18
      exact kq_X11_laysWays_51 h K hX3 hX11
    · intro c19
      have h := h.2 c19
      exact kq_X11_laysWays_51 h K hX3 hX11
theorem kq_X11_laysWays_11 {Q : HS → Prop} {X3 X3_2 : Nat → Int32 → Int32 → Int32 → Int32 → HS → Prop} {v0 : Nat} {v1 : Int32} {v2 : Int32} {v3 : Int32} {v4 : Int32} {v5 : Int32} {S0 S : HS} (h : P_X11_laysWays_11 Q X3 v0 v1 v2 v3 v4 v5 S) (K : KQ5 S0 S) (hX3 : ∀ (u0 : Nat) (u1 : Int32) (u2 : Int32) (u3 : Int32) (u4 : Int32) (u5 : HS), X3 u0 u1 u2 u3 u4 u5 → KQ5 S0 u5 → X3_2 u0 u1 u2 u3 u4 u5) : P_X11_laysWays_11 (fun T => Q T ∧ KQ5 S0 T) X3_2 v0 v1 v2 v3 v4 v5 S := h (fun v0 v1 v2 v3 v4 v5 S => KQ5 S0 S → P_X11_laysWays_11 (fun T => Q T ∧ KQ5 S0 T) X3_2 v0 v1 v2 v3 v4 v5 S) (fun v0 v1 v2 v3 v4 v5 S hB K => fd_X11_laysWays_11 (kqB_X11_laysWays_11 hB K hX3 (fun _ _ _ _ _ _ _ hx K => hx K))) K
set_option maxRecDepth 20000 in
set_option maxHeartbeats 1000000 in
theorem kqB_X11_laysWays_3 {Q : HS → Prop} {X3 X3_2 : Nat → Int32 → Int32 → Int32 → Int32 → HS → Prop} {v0 : Nat} {v1 : Int32} {v2 : Int32} {v3 : Int32} {v4 : Int32} {S0 S : HS} (h : B_X11_laysWays_3 Q X3 v0 v1 v2 v3 v4 S) (K : KQ5 S0 S) (hX3 : ∀ (u0 : Nat) (u1 : Int32) (u2 : Int32) (u3 : Int32) (u4 : Int32) (u5 : HS), X3 u0 u1 u2 u3 u4 u5 → KQ5 S0 u5 → X3_2 u0 u1 u2 u3 u4 u5) : B_X11_laysWays_3 (fun T => Q T ∧ KQ5 S0 T) X3_2 v0 v1 v2 v3 v4 S := by
  delta B_X11_laysWays_3 at h ⊢
  refine ⟨?_, ?_⟩
  · intro c1
    have h := h.1 c1
    exact ⟨h, K⟩
  · intro c2
    have h := h.2 c2
    exact kq_X11_laysWays_11 h K hX3
theorem kq_X11_laysWays_3 {Q : HS → Prop} {v0 : Nat} {v1 : Int32} {v2 : Int32} {v3 : Int32} {v4 : Int32} {S0 S : HS} (h : P_X11_laysWays_3 Q v0 v1 v2 v3 v4 S) (K : KQ5 S0 S) : P_X11_laysWays_3 (fun T => Q T ∧ KQ5 S0 T) v0 v1 v2 v3 v4 S := h (fun v0 v1 v2 v3 v4 S => KQ5 S0 S → P_X11_laysWays_3 (fun T => Q T ∧ KQ5 S0 T) v0 v1 v2 v3 v4 S) (fun v0 v1 v2 v3 v4 S hB K => fd_X11_laysWays_3 (kqB_X11_laysWays_3 hB K (fun _ _ _ _ _ _ hx K => hx K))) K
set_option maxRecDepth 20000 in
set_option maxHeartbeats 1000000 in
theorem kq_X11_laysWays_0 {Q : HS → Prop} {v0 : Nat} {v1 : Int32} {v2 : Int32} {v3 : Int32} {S0 S : HS} (h : P_X11_laysWays_0 Q v0 v1 v2 v3 S) (K : KQ5 S0 S) : P_X11_laysWays_0 (fun T => Q T ∧ KQ5 S0 T) v0 v1 v2 v3 S := by
  delta P_X11_laysWays_0 at h ⊢
  exact kq_X11_laysWays_3 h K
theorem kq_X11_laysWays {Q : HS → Prop} {v0 : Nat} {v1 : Int32} {v2 : Int32} {v3 : Int32} {S : HS} (h : P_X11_laysWays v0 v1 v2 v3 Q S) : P_X11_laysWays v0 v1 v2 v3 (fun T => Q T ∧ KQ5 S T) S := kq_X11_laysWays_0 h (kq5_rf S)
set_option maxRecDepth 20000 in
set_option maxHeartbeats 1000000 in
theorem kq_X11_refusesWay_0 {Q : Int32 → HS → Prop} {v0 : Nat} {v1 : Int32} {v2 : Int32} {v3 : Int32} {v4 : Int32} {v5 : Int32} {S0 S : HS} (h : P_X11_refusesWay_0 Q v0 v1 v2 v3 v4 v5 S) (K : KQ5 S0 S) : P_X11_refusesWay_0 (fun r T => Q r T ∧ KQ5 S0 T) v0 v1 v2 v3 v4 v5 S := by
  delta P_X11_refusesWay_0 at h ⊢
  obtain ⟨c1, h⟩ := h
  refine ⟨c1, ?_⟩
  have n2 := kq5_ne K c1
  refine cm_X11_isWalker (kq_X11_isWalker h) h (fun x3 x4 hp h g5 g6 => ?_)
  have h := h g5 g6
  have K := kq5_tr K hp.2
  refine ⟨?_, ?_⟩
  · intro c7
    have h := h.1 c7
    exact ⟨h, K⟩
  · intro c8
    have h := h.2 c8
    refine cm_X11_isPlace (kq_X11_isPlace h) h (fun x9 x10 hp h g11 g12 => ?_)
    have h := h g11 g12
    have K := kq5_tr K hp.2
    refine ⟨?_, ?_⟩
    · intro c13
      have h := h.1 c13
      exact ⟨h, K⟩
    · intro c14
      have h := h.2 c14
      refine cm_X11_isPlace (kq_X11_isPlace h) h (fun x15 x16 hp h g17 g18 => ?_)
      have h := h g17 g18
      have K := kq5_tr K hp.2
      refine ⟨?_, ?_⟩
      · intro c19
        have h := h.1 c19
        refine cm_X11_in (kq_X11_in h) h (fun x20 x21 hp h g22 g23 => ?_)
        have h := h g22 g23
        have K := kq5_tr K hp.2
        refine ⟨?_, ?_⟩
        · intro c24
          have h := h.1 c24
          exact ⟨h, K⟩
        · intro c25
          have h := h.2 c25
          refine cm_X11_in (kq_X11_in h) h (fun x26 x27 hp h g28 g29 => ?_)
          have h := h g28 g29
          have K := kq5_tr K hp.2
          refine ⟨?_, ?_⟩
          · intro c30
            have h := h.1 c30
            refine cm_X11_laysWays (kq_X11_laysWays h) h (fun x31 hp h g32 => ?_)
            have h := h g32
            have K := kq5_tr K hp.2
            obtain ⟨b33, e34, h⟩ := h
            refine ⟨b33, e34, ?_⟩
            refine cm_X11_spotOf (kq_X11_spotOf h) h (fun x35 x36 hp h g37 => ?_)
            have h := h g37
            have K := kq5_tr K hp.2
            obtain ⟨c38, h⟩ := h
            refine ⟨c38, ?_⟩
            have n39 := kq5_ne K c38
            obtain ⟨c40, h⟩ := h
            refine ⟨c40, ?_⟩
            intro x42 e41
            have h := h x42 e41
            refine ⟨?_, ?_⟩
            · intro c43
              have h := h.1 c43
              exact ⟨h, K⟩
            · intro c44
              have h := h.2 c44
              exact ⟨h, K⟩
          · intro c45
            have h := h.2 c45
            exact ⟨h, K⟩
      · intro c46
        have h := h.2 c46
        exact ⟨h, K⟩
theorem kq_X11_refusesWay {Q : Int32 → HS → Prop} {v0 : Nat} {v1 : Int32} {v2 : Int32} {v3 : Int32} {v4 : Int32} {v5 : Int32} {S : HS} (h : P_X11_refusesWay v0 v1 v2 v3 v4 v5 Q S) : P_X11_refusesWay v0 v1 v2 v3 v4 v5 (fun r T => Q r T ∧ KQ5 S T) S := kq_X11_refusesWay_0 h (kq5_rf S)
set_option maxRecDepth 20000 in
set_option maxHeartbeats 1000000 in
theorem kq_X11_led_80 {Q : Int32 → HS → Prop} {X9 X9_2 : Nat → Int32 → Int32 → Int32 → HS → Prop} {v0 : Nat} {v1 : Int32} {v2 : Int32} {v3 : Int32} {S0 S : HS} (h : P_X11_led_80 Q X9 v0 v1 v2 v3 S) (K : KQ5 S0 S) (hX9 : ∀ (u0 : Nat) (u1 : Int32) (u2 : Int32) (u3 : Int32) (u4 : HS), X9 u0 u1 u2 u3 u4 → KQ5 S0 u4 → X9_2 u0 u1 u2 u3 u4) : P_X11_led_80 (fun r T => Q r T ∧ KQ5 S0 T) X9_2 v0 v1 v2 v3 S := by
  delta P_X11_led_80 at h ⊢
  intro x2 e1
  have h := h x2 e1
  exact hX9 _ _ _ _ _ h K
set_option maxRecDepth 20000 in
set_option maxHeartbeats 1000000 in
theorem kq_X11_led_70 {Q : Int32 → HS → Prop} {X9 X9_2 : Nat → Int32 → Int32 → Int32 → HS → Prop} {v0 : Nat} {v1 : Int32} {v2 : Int32} {v3 : Int32} {S0 S : HS} (h : P_X11_led_70 Q X9 v0 v1 v2 v3 S) (K : KQ5 S0 S) (hX9 : ∀ (u0 : Nat) (u1 : Int32) (u2 : Int32) (u3 : Int32) (u4 : HS), X9 u0 u1 u2 u3 u4 → KQ5 S0 u4 → X9_2 u0 u1 u2 u3 u4) : P_X11_led_70 (fun r T => Q r T ∧ KQ5 S0 T) X9_2 v0 v1 v2 v3 S := by
  delta P_X11_led_70 at h ⊢
  refine ⟨?_, ?_⟩
  · intro c1
    have h := h.1 c1
    intro x3 e2
    have h := h x3 e2
    exact kq_X11_led_80 h K hX9
  · intro c4
    have h := h.2 c4
    exact ⟨h, K⟩
set_option maxRecDepth 20000 in
set_option maxHeartbeats 1000000 in
theorem kqB_X11_led_9 {Q : Int32 → HS → Prop} {X9 X9_2 : Nat → Int32 → Int32 → Int32 → HS → Prop} {v0 : Nat} {v1 : Int32} {v2 : Int32} {v3 : Int32} {S0 S : HS} (h : B_X11_led_9 Q X9 v0 v1 v2 v3 S) (K : KQ5 S0 S) (hX9 : ∀ (u0 : Nat) (u1 : Int32) (u2 : Int32) (u3 : Int32) (u4 : HS), X9 u0 u1 u2 u3 u4 → KQ5 S0 u4 → X9_2 u0 u1 u2 u3 u4) : B_X11_led_9 (fun r T => Q r T ∧ KQ5 S0 T) X9_2 v0 v1 v2 v3 S := by
  delta B_X11_led_9 at h ⊢
  obtain ⟨c1, h⟩ := h
  refine ⟨c1, ?_⟩
  have n2 := kq5_ne K c1
  refine cm_X11_isDay (kq_X11_isDay h) h (fun x3 x4 hp h g5 g6 => ?_)
  have h := h g5 g6
  have K := kq5_tr K hp.2
  refine ⟨?_, ?_⟩
  · intro c7
    have h := h.1 c7
    intro x9 e8
    have h := h x9 e8
    have K := kq5_I K e8 n2 (by decide)
    exact ⟨h, K⟩
  · intro c10
    have h := h.2 c10
    obtain ⟨b11, e12, h⟩ := h
    refine ⟨b11, e12, ?_⟩
    obtain ⟨c13, h⟩ := h
    refine ⟨c13, ?_⟩
    have n14 := kq5_ne K c13
    intro x16 e15
    have h := h x16 e15
    refine ⟨?_, ?_⟩
    · intro c17
      have h := h.1 c17
      intro x19 e18
      have h := h x19 e18
      have K := kq5_I K e18 n2 (by decide)
      exact ⟨h, K⟩
    · intro c20
      have h := h.2 c20
      obtain ⟨b21, e22, h⟩ := h
      refine ⟨b21, e22, ?_⟩
      obtain ⟨c23, h⟩ := h
      refine ⟨c23, ?_⟩
      have n24 := kq5_ne K c23
      obtain ⟨b25, e26, h⟩ := h
      refine ⟨b25, e26, ?_⟩
      obtain ⟨c27, h⟩ := h
      refine ⟨c27, ?_⟩
      have n28 := kq5_ne K c27
      obtain ⟨c29, h⟩ := h
      refine ⟨c29, ?_⟩
      intro x31 e30
      have h := h x31 e30
      obtain ⟨b32, e33, h⟩ := h
      refine ⟨b32, e33, ?_⟩
      obtain ⟨c34, h⟩ := h
      refine ⟨c34, ?_⟩
      have n35 := kq5_ne K c34
      obtain ⟨c36, h⟩ := h
      refine ⟨c36, ?_⟩
      intro x38 e37
      have h := h x38 e37
      refine ⟨?_, ?_⟩
      · intro c39
        have h := h.1 c39
        exact kq_X11_led_70 h K hX9
      · intro c40
        have h := h.2 c40
        obtain ⟨b41, e42, h⟩ := h
        refine ⟨b41, e42, ?_⟩
        obtain ⟨c43, h⟩ := h
        refine ⟨c43, ?_⟩
        have n44 := kq5_ne K c43
        obtain ⟨b45, e46, h⟩ := h
        refine ⟨b45, e46, ?_⟩
        obtain ⟨c47, h⟩ := h
        refine ⟨c47, ?_⟩
        have n48 := kq5_ne K c47
        obtain ⟨c49, h⟩ := h
        refine ⟨c49, ?_⟩
        intro x51 e50
        have h := h x51 e50
        obtain ⟨b52, e53, h⟩ := h
        refine ⟨b52, e53, ?_⟩
        obtain ⟨c54, h⟩ := h
        refine ⟨c54, ?_⟩
        have n55 := kq5_ne K c54
        obtain ⟨c56, h⟩ := h
        refine ⟨c56, ?_⟩
        intro x58 e57
        have h := h x58 e57
        refine ⟨?_, ?_⟩
        · intro c59
          have h := h.1 c59
          exact kq_X11_led_70 h K hX9
        · intro c60
          have h := h.2 c60
          exact kq_X11_led_80 h K hX9
theorem kq_X11_led_9 {Q : Int32 → HS → Prop} {v0 : Nat} {v1 : Int32} {v2 : Int32} {v3 : Int32} {S0 S : HS} (h : P_X11_led_9 Q v0 v1 v2 v3 S) (K : KQ5 S0 S) : P_X11_led_9 (fun r T => Q r T ∧ KQ5 S0 T) v0 v1 v2 v3 S := h (fun v0 v1 v2 v3 S => KQ5 S0 S → P_X11_led_9 (fun r T => Q r T ∧ KQ5 S0 T) v0 v1 v2 v3 S) (fun v0 v1 v2 v3 S hB K => fd_X11_led_9 (kqB_X11_led_9 hB K (fun _ _ _ _ _ hx K => hx K))) K
set_option maxRecDepth 20000 in
set_option maxHeartbeats 1000000 in
theorem kq_X11_led_0 {Q : Int32 → HS → Prop} {v0 : Nat} {v1 : Int32} {S0 S : HS} (h : P_X11_led_0 Q v0 v1 S) (K : KQ5 S0 S) : P_X11_led_0 (fun r T => Q r T ∧ KQ5 S0 T) v0 v1 S := by
  delta P_X11_led_0 at h ⊢
  obtain ⟨c1, h⟩ := h
  refine ⟨c1, ?_⟩
  have n2 := kq5_ne K c1
  intro x4 e3
  have h := h x4 e3
  have K := kq5_I K e3 n2 (by decide)
  exact kq_X11_led_9 h K
theorem kq_X11_led {Q : Int32 → HS → Prop} {v0 : Nat} {v1 : Int32} {S : HS} (h : P_X11_led v0 v1 Q S) : P_X11_led v0 v1 (fun r T => Q r T ∧ KQ5 S T) S := kq_X11_led_0 h (kq5_rf S)
set_option maxRecDepth 20000 in
set_option maxHeartbeats 1000000 in
theorem kq_X11_names_0 {Q : HS → Prop} {v0 : Nat} {v1 : Int64} {v3 : Int32} {v4 : Int32} {S0 S : HS} (h : P_X11_names_0 Q v0 v1 v3 v4 S) (K : KQ5 S0 S) : P_X11_names_0 (fun T => Q T ∧ KQ5 S0 T) v0 v1 v3 v4 S := by
  delta P_X11_names_0 at h ⊢
  obtain ⟨c1, h⟩ := h
  refine ⟨c1, ?_⟩
  have n2 := kq5_ne K c1
  obtain ⟨b3, e4, h⟩ := h
  refine ⟨b3, e4, ?_⟩
  obtain ⟨c5, h⟩ := h
  refine ⟨c5, ?_⟩
  have n6 := kq5_ne K c5
  obtain ⟨b7, e8, h⟩ := h
  refine ⟨b7, e8, ?_⟩
  obtain ⟨b9, e10, h⟩ := h
  refine ⟨b9, e10, ?_⟩
  obtain ⟨c11, h⟩ := h
  refine ⟨c11, ?_⟩
  have n12 := kq5_ne K c11
  intro x14 e13
  have h := h x14 e13
  obtain ⟨c15, h⟩ := h
  refine ⟨c15, ?_⟩
  have n16 := kq5_ne K c15
  obtain ⟨c17, h⟩ := h
  refine ⟨c17, ?_⟩
  intro x19 e18
  have h := h x19 e18
  have K := kq5_J K e18
  obtain ⟨b20, e21, h⟩ := h
  refine ⟨b20, e21, ?_⟩
  obtain ⟨c22, h⟩ := h
  refine ⟨c22, ?_⟩
  have n23 := kq5_ne K c22
  obtain ⟨b24, e25, h⟩ := h
  refine ⟨b24, e25, ?_⟩
  obtain ⟨b26, e27, h⟩ := h
  refine ⟨b26, e27, ?_⟩
  obtain ⟨c28, h⟩ := h
  refine ⟨c28, ?_⟩
  have n29 := kq5_ne K c28
  intro x31 e30
  have h := h x31 e30
  obtain ⟨c32, h⟩ := h
  refine ⟨c32, ?_⟩
  have n33 := kq5_ne K c32
  obtain ⟨c34, h⟩ := h
  refine ⟨c34, ?_⟩
  intro x36 e35
  have h := h x36 e35
  have K := kq5_A K e35 n33 (by decide)
  obtain ⟨b37, e38, h⟩ := h
  refine ⟨b37, e38, ?_⟩
  obtain ⟨c39, h⟩ := h
  refine ⟨c39, ?_⟩
  have n40 := kq5_ne K c39
  obtain ⟨b41, e42, h⟩ := h
  refine ⟨b41, e42, ?_⟩
  obtain ⟨b43, e44, h⟩ := h
  refine ⟨b43, e44, ?_⟩
  obtain ⟨c45, h⟩ := h
  refine ⟨c45, ?_⟩
  have n46 := kq5_ne K c45
  intro x48 e47
  have h := h x48 e47
  obtain ⟨c49, h⟩ := h
  refine ⟨c49, ?_⟩
  have n50 := kq5_ne K c49
  obtain ⟨c51, h⟩ := h
  refine ⟨c51, ?_⟩
  intro x53 e52
  have h := h x53 e52
  have K := kq5_A K e52 n50 (by decide)
  obtain ⟨b54, e55, h⟩ := h
  refine ⟨b54, e55, ?_⟩
  obtain ⟨c56, h⟩ := h
  refine ⟨c56, ?_⟩
  have n57 := kq5_ne K c56
  intro x59 e58
  have h := h x59 e58
  intro x61 e60
  have h := h x61 e60
  intro x63 e62
  have h := h x63 e62
  have K := kq5_I K e62 n57 (by decide)
  exact ⟨h, K⟩
theorem kq_X11_names {Q : HS → Prop} {v0 : Nat} {v1 : Int64} {v3 : Int32} {v4 : Int32} {S : HS} (h : P_X11_names v0 v1 v3 v4 Q S) : P_X11_names v0 v1 v3 v4 (fun T => Q T ∧ KQ5 S T) S := kq_X11_names_0 h (kq5_rf S)
set_option maxRecDepth 20000 in
set_option maxHeartbeats 1000000 in
theorem kq_X11_needs_13 {Q : HS → Prop} {v0 : Nat} {S0 S : HS} (h : P_X11_needs_13 Q v0 S) (K : KQ5 S0 S) : P_X11_needs_13 (fun T => Q T ∧ KQ5 S0 T) v0 S := by
  delta P_X11_needs_13 at h ⊢
  obtain ⟨c1, h⟩ := h
  refine ⟨c1, ?_⟩
  have n2 := kq5_ne K c1
  refine cm_X11_goesOn (kq_X11_goesOn h) h (fun x3 hp h g4 => ?_)
  have h := h g4
  have K := kq5_tr K hp.2
  exact ⟨h, K⟩
set_option maxRecDepth 20000 in
set_option maxHeartbeats 1000000 in
theorem kq_X11_needs_0 {Q : HS → Prop} {v0 : Nat} {v1 : Nat} {S0 S : HS} (h : P_X11_needs_0 Q v0 v1 S) (K : KQ5 S0 S) : P_X11_needs_0 (fun T => Q T ∧ KQ5 S0 T) v0 v1 S := by
  delta P_X11_needs_0 at h ⊢
  obtain ⟨c1, h⟩ := h
  refine ⟨c1, ?_⟩
  have n2 := kq5_ne K c1
  refine cm_X11_isWord (kq_X11_isWord h) h (fun x3 x4 hp h g5 g6 => ?_)
  have h := h g5 g6
  have K := kq5_tr K hp.2
  refine ⟨?_, ?_⟩
  · intro c7
    have h := h.1 c7
    exact kq_X11_needs_13 h K
  · intro c8
    have h := h.2 c8
    refine cm_X11_flaw (kq_X11_flaw h) h (fun x9 hp h g10 => ?_)
    have h := h g10
    have K := kq5_tr K hp.2
    exact kq_X11_needs_13 h K
theorem kq_X11_needs {Q : HS → Prop} {v0 : Nat} {v1 : Nat} {S : HS} (h : P_X11_needs v0 v1 Q S) : P_X11_needs v0 v1 (fun T => Q T ∧ KQ5 S T) S := kq_X11_needs_0 h (kq5_rf S)
set_option maxRecDepth 20000 in
set_option maxHeartbeats 1000000 in
theorem kq_X11_readFresh_32 {Q : Int64 → HS → Prop} {v0 : Nat} {S0 S : HS} (h : P_X11_readFresh_32 Q v0 S) (K : KQ5 S0 S) : P_X11_readFresh_32 (fun r T => Q r T ∧ KQ5 S0 T) v0 S := by
  delta P_X11_readFresh_32 at h ⊢
  obtain ⟨c1, h⟩ := h
  refine ⟨c1, ?_⟩
  have n2 := kq5_ne K c1
  intro x4 e3
  have h := h x4 e3
  refine cm_X11_goesOn (kq_X11_goesOn h) h (fun x5 hp h g6 => ?_)
  have h := h g6
  have K := kq5_tr K hp.2
  exact ⟨h, K⟩
set_option maxRecDepth 20000 in
set_option maxHeartbeats 1000000 in
theorem kq_X11_readFresh_12 {Q : Int64 → HS → Prop} {v0 : Nat} {S0 S : HS} (h : P_X11_readFresh_12 Q v0 S) (K : KQ5 S0 S) : P_X11_readFresh_12 (fun r T => Q r T ∧ KQ5 S0 T) v0 S := by
  delta P_X11_readFresh_12 at h ⊢
  obtain ⟨c1, h⟩ := h
  refine ⟨c1, ?_⟩
  have n2 := kq5_ne K c1
  obtain ⟨b3, e4, h⟩ := h
  refine ⟨b3, e4, ?_⟩
  intro x6 e5
  have h := h x6 e5
  obtain ⟨c7, h⟩ := h
  refine ⟨c7, ?_⟩
  have n8 := kq5_ne K c7
  refine cm_X10_find (kq_X10_find h) h (fun x9 x10 hp h g11 => ?_)
  have h := h g11
  have K := kq5_tr K hp.2
  refine ⟨?_, ?_⟩
  · intro c12
    have h := h.1 c12
    exact kq_X11_readFresh_32 h K
  · intro c13
    have h := h.2 c13
    refine cm_X11_flaw (kq_X11_flaw h) h (fun x14 hp h g15 => ?_)
    have h := h g15
    have K := kq5_tr K hp.2
    exact kq_X11_readFresh_32 h K
set_option maxRecDepth 20000 in
set_option maxHeartbeats 1000000 in
theorem kq_X11_readFresh_0 {Q : Int64 → HS → Prop} {v0 : Nat} {S0 S : HS} (h : P_X11_readFresh_0 Q v0 S) (K : KQ5 S0 S) : P_X11_readFresh_0 (fun r T => Q r T ∧ KQ5 S0 T) v0 S := by
  delta P_X11_readFresh_0 at h ⊢
  obtain ⟨c1, h⟩ := h
  refine ⟨c1, ?_⟩
  have n2 := kq5_ne K c1
  refine cm_X11_isName (kq_X11_isName h) h (fun x3 x4 hp h g5 g6 => ?_)
  have h := h g5 g6
  have K := kq5_tr K hp.2
  refine ⟨?_, ?_⟩
  · intro c7
    have h := h.1 c7
    exact kq_X11_readFresh_12 h K
  · intro c8
    have h := h.2 c8
    refine cm_X11_flaw (kq_X11_flaw h) h (fun x9 hp h g10 => ?_)
    have h := h g10
    have K := kq5_tr K hp.2
    exact kq_X11_readFresh_12 h K
theorem kq_X11_readFresh {Q : Int64 → HS → Prop} {v0 : Nat} {S : HS} (h : P_X11_readFresh v0 Q S) : P_X11_readFresh v0 (fun r T => Q r T ∧ KQ5 S T) S := kq_X11_readFresh_0 h (kq5_rf S)
set_option maxRecDepth 20000 in
set_option maxHeartbeats 1000000 in
theorem kq_X11_readWhole_49 {Q : Int32 → HS → Prop} {v0 : Nat} {s0 : Int32} {S0 S : HS} (h : P_X11_readWhole_49 Q v0 s0 S) (K : KQ5 S0 S) : P_X11_readWhole_49 (fun r T => Q r T ∧ KQ5 S0 T) v0 s0 S := by
  delta P_X11_readWhole_49 at h ⊢
  obtain ⟨c1, h⟩ := h
  refine ⟨c1, ?_⟩
  have n2 := kq5_ne K c1
  refine cm_X11_goesOn (kq_X11_goesOn h) h (fun x3 hp h g4 => ?_)
  have h := h g4
  have K := kq5_tr K hp.2
  exact ⟨h, K⟩
set_option maxRecDepth 20000 in
set_option maxHeartbeats 1000000 in
theorem kq_X11_readWhole_33 {Q : Int32 → HS → Prop} {v0 : Nat} {v1 : Int32} {S0 S : HS} (h : P_X11_readWhole_33 Q v0 v1 S) (K : KQ5 S0 S) : P_X11_readWhole_33 (fun r T => Q r T ∧ KQ5 S0 T) v0 v1 S := by
  delta P_X11_readWhole_33 at h ⊢
  obtain ⟨c1, h⟩ := h
  refine ⟨c1, ?_⟩
  have n2 := kq5_ne K c1
  intro x4 e3
  have h := h x4 e3
  refine ⟨?_, ?_⟩
  · intro c5
    have h := h.1 c5
    intro x7 e6
    have h := h x7 e6
    exact kq_X11_readWhole_49 h K
  · intro c8
    have h := h.2 c8
    exact kq_X11_readWhole_49 h K
set_option maxRecDepth 20000 in
set_option maxHeartbeats 1000000 in
theorem kq_X11_readWhole_0 {Q : Int32 → HS → Prop} {v0 : Nat} {v1 : Int32} {v2 : Int32} {S0 S : HS} (h : P_X11_readWhole_0 Q v0 v1 v2 S) (K : KQ5 S0 S) : P_X11_readWhole_0 (fun r T => Q r T ∧ KQ5 S0 T) v0 v1 v2 S := by
  delta P_X11_readWhole_0 at h ⊢
  obtain ⟨c1, h⟩ := h
  refine ⟨c1, ?_⟩
  have n2 := kq5_ne K c1
  intro x4 e3
  have h := h x4 e3
  refine ⟨?_, ?_⟩
  · intro c5
    have h := h.1 c5
    intro x7 e6
    have h := h x7 e6
    refine cm_X11_in (kq_X11_in h) h (fun x8 x9 hp h g10 g11 => ?_)
    have h := h g10 g11
    have K := kq5_tr K hp.2
    refine ⟨?_, ?_⟩
    · intro c12
      have h := h.1 c12
      exact kq_X11_readWhole_33 h K
    · intro c13
      have h := h.2 c13
      refine cm_X11_flaw (kq_X11_flaw h) h (fun x14 hp h g15 => ?_)
      have h := h g15
      have K := kq5_tr K hp.2
      exact kq_X11_readWhole_33 h K
  · intro c16
    have h := h.2 c16
    refine cm_X11_flaw (kq_X11_flaw h) h (fun x17 hp h g18 => ?_)
    have h := h g18
    have K := kq5_tr K hp.2
    exact kq_X11_readWhole_33 h K
theorem kq_X11_readWhole {Q : Int32 → HS → Prop} {v0 : Nat} {v1 : Int32} {v2 : Int32} {S : HS} (h : P_X11_readWhole v0 v1 v2 Q S) : P_X11_readWhole v0 v1 v2 (fun r T => Q r T ∧ KQ5 S T) S := kq_X11_readWhole_0 h (kq5_rf S)
set_option maxRecDepth 20000 in
set_option maxHeartbeats 1000000 in
theorem kq_X11_readPlace_50 {Q : HS → Prop} {v0 : Nat} {v1 : Int64} {v3 : Int32} {s0 : Int32} {S0 S : HS} (h : P_X11_readPlace_50 Q v0 v1 v3 s0 S) (K : KQ5 S0 S) : P_X11_readPlace_50 (fun T => Q T ∧ KQ5 S0 T) v0 v1 v3 s0 S := by
  delta P_X11_readPlace_50 at h ⊢
  obtain ⟨c1, h⟩ := h
  refine ⟨c1, ?_⟩
  have n2 := kq5_ne K c1
  intro x4 e3
  have h := h x4 e3
  refine ⟨?_, ?_⟩
  · intro c5
    have h := h.1 c5
    obtain ⟨b6, e7, h⟩ := h
    refine ⟨b6, e7, ?_⟩
    obtain ⟨c8, h⟩ := h
    refine ⟨c8, ?_⟩
    have n9 := kq5_ne K c8
    intro x11 e10
    have h := h x11 e10
    refine cm_X11_names (kq_X11_names h) h (fun x12 hp h g13 => ?_)
    have h := h g13
    have K := kq5_tr K hp.2
    obtain ⟨b14, e15, h⟩ := h
    refine ⟨b14, e15, ?_⟩
    obtain ⟨c16, h⟩ := h
    refine ⟨c16, ?_⟩
    have n17 := kq5_ne K c16
    obtain ⟨b18, e19, h⟩ := h
    refine ⟨b18, e19, ?_⟩
    obtain ⟨b20, e21, h⟩ := h
    refine ⟨b20, e21, ?_⟩
    obtain ⟨c22, h⟩ := h
    refine ⟨c22, ?_⟩
    have n23 := kq5_ne K c22
    intro x25 e24
    have h := h x25 e24
    obtain ⟨c26, h⟩ := h
    refine ⟨c26, ?_⟩
    have n27 := kq5_ne K c26
    obtain ⟨c28, h⟩ := h
    refine ⟨c28, ?_⟩
    intro x30 e29
    have h := h x30 e29
    have K := kq5_A K e29 n27 (by decide)
    obtain ⟨b31, e32, h⟩ := h
    refine ⟨b31, e32, ?_⟩
    obtain ⟨c33, h⟩ := h
    refine ⟨c33, ?_⟩
    have n34 := kq5_ne K c33
    obtain ⟨b35, e36, h⟩ := h
    refine ⟨b35, e36, ?_⟩
    obtain ⟨b37, e38, h⟩ := h
    refine ⟨b37, e38, ?_⟩
    obtain ⟨c39, h⟩ := h
    refine ⟨c39, ?_⟩
    have n40 := kq5_ne K c39
    intro x42 e41
    have h := h x42 e41
    obtain ⟨c43, h⟩ := h
    refine ⟨c43, ?_⟩
    have n44 := kq5_ne K c43
    obtain ⟨c45, h⟩ := h
    refine ⟨c45, ?_⟩
    intro x47 e46
    have h := h x47 e46
    have K := kq5_A K e46 n44 (by decide)
    obtain ⟨b48, e49, h⟩ := h
    refine ⟨b48, e49, ?_⟩
    obtain ⟨c50, h⟩ := h
    refine ⟨c50, ?_⟩
    have n51 := kq5_ne K c50
    intro x53 e52
    have h := h x53 e52
    intro x55 e54
    have h := h x55 e54
    intro x57 e56
    have h := h x57 e56
    have K := kq5_I K e56 n51 (by decide)
    exact ⟨h, K⟩
  · intro c58
    have h := h.2 c58
    exact ⟨h, K⟩
set_option maxRecDepth 20000 in
set_option maxHeartbeats 1000000 in
theorem kq_X11_readPlace_48 {Q : HS → Prop} {v0 : Nat} {v1 : Int64} {v3 : Int32} {S0 S : HS} (h : P_X11_readPlace_48 Q v0 v1 v3 S) (K : KQ5 S0 S) : P_X11_readPlace_48 (fun T => Q T ∧ KQ5 S0 T) v0 v1 v3 S := by
  delta P_X11_readPlace_48 at h ⊢
  exact kq_X11_readPlace_50 h K
set_option maxRecDepth 20000 in
set_option maxHeartbeats 1000000 in
theorem kq_X11_readPlace_0 {Q : HS → Prop} {v0 : Nat} {S0 S : HS} (h : P_X11_readPlace_0 Q v0 S) (K : KQ5 S0 S) : P_X11_readPlace_0 (fun T => Q T ∧ KQ5 S0 T) v0 S := by
  delta P_X11_readPlace_0 at h ⊢
  obtain ⟨c1, h⟩ := h
  refine ⟨c1, ?_⟩
  have n2 := kq5_ne K c1
  obtain ⟨b3, e4, h⟩ := h
  refine ⟨b3, e4, ?_⟩
  obtain ⟨c5, h⟩ := h
  refine ⟨c5, ?_⟩
  have n6 := kq5_ne K c5
  intro x8 e7
  have h := h x8 e7
  refine cm_X11_begins (kq_X11_begins h) h (fun x9 hp h g10 => ?_)
  have h := h g10
  have K := kq5_tr K hp.2
  refine cm_X11_readFresh (kq_X11_readFresh h) h (fun x11 x12 hp h g13 => ?_)
  have h := h g13
  have K := kq5_tr K hp.2
  refine cm_X11_eatsWord (kq_X11_eatsWord h) h (fun x14 x15 hp h g16 g17 => ?_)
  have h := h g16 g17
  have K := kq5_tr K hp.2
  refine ⟨?_, ?_⟩
  · intro c18
    have h := h.1 c18
    exact kq_X11_readPlace_48 h K
  · intro c19
    have h := h.2 c19
    refine cm_X11_eatsWord (kq_X11_eatsWord h) h (fun x20 x21 hp h g22 g23 => ?_)
    have h := h g22 g23
    have K := kq5_tr K hp.2
    refine ⟨?_, ?_⟩
    · intro c24
      have h := h.1 c24
      exact kq_X11_readPlace_48 h K
    · intro c25
      have h := h.2 c25
      refine cm_X11_readWhole (kq_X11_readWhole h) h (fun x26 x27 hp h g28 => ?_)
      have h := h g28
      have K := kq5_tr K hp.2
      exact kq_X11_readPlace_50 h K
theorem kq_X11_readPlace {Q : HS → Prop} {v0 : Nat} {S : HS} (h : P_X11_readPlace v0 Q S) : P_X11_readPlace v0 (fun T => Q T ∧ KQ5 S T) S := kq_X11_readPlace_0 h (kq5_rf S)
set_option maxRecDepth 20000 in
set_option maxHeartbeats 1000000 in
theorem kq_X11_readPart_0 {Q : Int32 → HS → Prop} {v0 : Nat} {v1 : Nat} {v2 : Int32} {v3 : Int32} {S0 S : HS} (h : P_X11_readPart_0 Q v0 v1 v2 v3 S) (K : KQ5 S0 S) : P_X11_readPart_0 (fun r T => Q r T ∧ KQ5 S0 T) v0 v1 v2 v3 S := by
  delta P_X11_readPart_0 at h ⊢
  obtain ⟨c1, h⟩ := h
  refine ⟨c1, ?_⟩
  have n2 := kq5_ne K c1
  refine cm_X11_needs (kq_X11_needs h) h (fun x3 hp h g4 => ?_)
  have h := h g4
  have K := kq5_tr K hp.2
  refine cm_X11_readWhole (kq_X11_readWhole h) h (fun x5 x6 hp h g7 => ?_)
  have h := h g7
  have K := kq5_tr K hp.2
  exact ⟨h, K⟩
theorem kq_X11_readPart {Q : Int32 → HS → Prop} {v0 : Nat} {v1 : Nat} {v2 : Int32} {v3 : Int32} {S : HS} (h : P_X11_readPart v0 v1 v2 v3 Q S) : P_X11_readPart v0 v1 v2 v3 (fun r T => Q r T ∧ KQ5 S T) S := kq_X11_readPart_0 h (kq5_rf S)
set_option maxRecDepth 20000 in
set_option maxHeartbeats 1000000 in
theorem kq_X11_readSide_64 {Q : Int32 → HS → Prop} {v0 : Nat} {v1 : Int32} {S0 S : HS} (h : P_X11_readSide_64 Q v0 v1 S) (K : KQ5 S0 S) : P_X11_readSide_64 (fun r T => Q r T ∧ KQ5 S0 T) v0 v1 S := by
  delta P_X11_readSide_64 at h ⊢
  obtain ⟨c1, h⟩ := h
  refine ⟨c1, ?_⟩
  have n2 := kq5_ne K c1
  refine cm_X11_goesOn (kq_X11_goesOn h) h (fun x3 hp h g4 => ?_)
  have h := h g4
  have K := kq5_tr K hp.2
  exact ⟨h, K⟩
set_option maxRecDepth 20000 in
set_option maxHeartbeats 1000000 in
theorem kq_X11_readSide_53 {Q : Int32 → HS → Prop} {v0 : Nat} {s0 : Int32} {S0 S : HS} (h : P_X11_readSide_53 Q v0 s0 S) (K : KQ5 S0 S) : P_X11_readSide_53 (fun r T => Q r T ∧ KQ5 S0 T) v0 s0 S := by
  delta P_X11_readSide_53 at h ⊢
  refine ⟨?_, ?_⟩
  · intro c1
    have h := h.1 c1
    exact kq_X11_readSide_64 h K
  · intro c2
    have h := h.2 c2
    obtain ⟨c3, h⟩ := h
    refine ⟨c3, ?_⟩
    have n4 := kq5_ne K c3
    refine cm_X11_flaw (kq_X11_flaw h) h (fun x5 hp h g6 => ?_)
    have h := h g6
    have K := kq5_tr K hp.2
    exact kq_X11_readSide_64 h K
set_option maxRecDepth 20000 in
set_option maxHeartbeats 1000000 in
theorem kq_X11_readSide_0 {Q : Int32 → HS → Prop} {v0 : Nat} {S0 S : HS} (h : P_X11_readSide_0 Q v0 S) (K : KQ5 S0 S) : P_X11_readSide_0 (fun r T => Q r T ∧ KQ5 S0 T) v0 S := by
  delta P_X11_readSide_0 at h ⊢
  obtain ⟨c1, h⟩ := h
  refine ⟨c1, ?_⟩
  have n2 := kq5_ne K c1
  refine cm_X11_isWord (kq_X11_isWord h) h (fun x3 x4 hp h g5 g6 => ?_)
  have h := h g5 g6
  have K := kq5_tr K hp.2
  refine ⟨?_, ?_⟩
  · intro c7
    have h := h.1 c7
    refine cm_X11_isWord (kq_X11_isWord h) h (fun x8 x9 hp h g10 g11 => ?_)
    have h := h g10 g11
    have K := kq5_tr K hp.2
    refine ⟨?_, ?_⟩
    · intro c12
      have h := h.1 c12
      refine cm_X11_isWord (kq_X11_isWord h) h (fun x13 x14 hp h g15 g16 => ?_)
      have h := h g15 g16
      have K := kq5_tr K hp.2
      refine ⟨?_, ?_⟩
      · intro c17
        have h := h.1 c17
        refine cm_X11_isWord (kq_X11_isWord h) h (fun x18 x19 hp h g20 g21 => ?_)
        have h := h g20 g21
        have K := kq5_tr K hp.2
        refine ⟨?_, ?_⟩
        · intro c22
          have h := h.1 c22
          exact kq_X11_readSide_53 h K
        · intro c23
          have h := h.2 c23
          exact kq_X11_readSide_53 h K
      · intro c24
        have h := h.2 c24
        exact kq_X11_readSide_53 h K
    · intro c25
      have h := h.2 c25
      exact kq_X11_readSide_53 h K
  · intro c26
    have h := h.2 c26
    exact kq_X11_readSide_53 h K
theorem kq_X11_readSide {Q : Int32 → HS → Prop} {v0 : Nat} {S : HS} (h : P_X11_readSide v0 Q S) : P_X11_readSide v0 (fun r T => Q r T ∧ KQ5 S T) S := kq_X11_readSide_0 h (kq5_rf S)
set_option maxRecDepth 20000 in
set_option maxHeartbeats 1000000 in
theorem kq_X11_readRain_0 {Q : HS → Prop} {v0 : Nat} {S0 S : HS} (h : P_X11_readRain_0 Q v0 S) (K : KQ5 S0 S) : P_X11_readRain_0 (fun T => Q T ∧ KQ5 S0 T) v0 S := by
  delta P_X11_readRain_0 at h ⊢
  obtain ⟨c1, h⟩ := h
  refine ⟨c1, ?_⟩
  have n2 := kq5_ne K c1
  obtain ⟨b3, e4, h⟩ := h
  refine ⟨b3, e4, ?_⟩
  obtain ⟨c5, h⟩ := h
  refine ⟨c5, ?_⟩
  have n6 := kq5_ne K c5
  intro x8 e7
  have h := h x8 e7
  refine cm_X11_begins (kq_X11_begins h) h (fun x9 hp h g10 => ?_)
  have h := h g10
  have K := kq5_tr K hp.2
  refine cm_X11_readPart (kq_X11_readPart h) h (fun x11 x12 hp h g13 => ?_)
  have h := h g13
  have K := kq5_tr K hp.2
  refine cm_X11_readPart (kq_X11_readPart h) h (fun x14 x15 hp h g16 => ?_)
  have h := h g16
  have K := kq5_tr K hp.2
  refine cm_X11_needs (kq_X11_needs h) h (fun x17 hp h g18 => ?_)
  have h := h g18
  have K := kq5_tr K hp.2
  refine cm_X11_readSide (kq_X11_readSide h) h (fun x19 x20 hp h g21 => ?_)
  have h := h g21
  have K := kq5_tr K hp.2
  refine cm_X11_readWhole (kq_X11_readWhole h) h (fun x22 x23 hp h g24 => ?_)
  have h := h g24
  have K := kq5_tr K hp.2
  refine cm_X11_readPart (kq_X11_readPart h) h (fun x25 x26 hp h g27 => ?_)
  have h := h g27
  have K := kq5_tr K hp.2
  intro x29 e28
  have h := h x29 e28
  refine ⟨?_, ?_⟩
  · intro c30
    have h := h.1 c30
    obtain ⟨b31, e32, h⟩ := h
    refine ⟨b31, e32, ?_⟩
    obtain ⟨c33, h⟩ := h
    refine ⟨c33, ?_⟩
    have n34 := kq5_ne K c33
    obtain ⟨b35, e36, h⟩ := h
    refine ⟨b35, e36, ?_⟩
    obtain ⟨b37, e38, h⟩ := h
    refine ⟨b37, e38, ?_⟩
    obtain ⟨c39, h⟩ := h
    refine ⟨c39, ?_⟩
    have n40 := kq5_ne K c39
    intro x42 e41
    have h := h x42 e41
    obtain ⟨c43, h⟩ := h
    refine ⟨c43, ?_⟩
    have n44 := kq5_ne K c43
    obtain ⟨c45, h⟩ := h
    refine ⟨c45, ?_⟩
    intro x47 e46
    have h := h x47 e46
    have K := kq5_A K e46 n44 (by decide)
    obtain ⟨b48, e49, h⟩ := h
    refine ⟨b48, e49, ?_⟩
    obtain ⟨c50, h⟩ := h
    refine ⟨c50, ?_⟩
    have n51 := kq5_ne K c50
    obtain ⟨b52, e53, h⟩ := h
    refine ⟨b52, e53, ?_⟩
    obtain ⟨b54, e55, h⟩ := h
    refine ⟨b54, e55, ?_⟩
    obtain ⟨c56, h⟩ := h
    refine ⟨c56, ?_⟩
    have n57 := kq5_ne K c56
    intro x59 e58
    have h := h x59 e58
    obtain ⟨c60, h⟩ := h
    refine ⟨c60, ?_⟩
    have n61 := kq5_ne K c60
    obtain ⟨c62, h⟩ := h
    refine ⟨c62, ?_⟩
    intro x64 e63
    have h := h x64 e63
    have K := kq5_A K e63 n61 (by decide)
    obtain ⟨b65, e66, h⟩ := h
    refine ⟨b65, e66, ?_⟩
    obtain ⟨c67, h⟩ := h
    refine ⟨c67, ?_⟩
    have n68 := kq5_ne K c67
    obtain ⟨b69, e70, h⟩ := h
    refine ⟨b69, e70, ?_⟩
    obtain ⟨b71, e72, h⟩ := h
    refine ⟨b71, e72, ?_⟩
    obtain ⟨c73, h⟩ := h
    refine ⟨c73, ?_⟩
    have n74 := kq5_ne K c73
    intro x76 e75
    have h := h x76 e75
    obtain ⟨c77, h⟩ := h
    refine ⟨c77, ?_⟩
    have n78 := kq5_ne K c77
    obtain ⟨c79, h⟩ := h
    refine ⟨c79, ?_⟩
    intro x81 e80
    have h := h x81 e80
    have K := kq5_A K e80 n78 (by decide)
    obtain ⟨b82, e83, h⟩ := h
    refine ⟨b82, e83, ?_⟩
    obtain ⟨c84, h⟩ := h
    refine ⟨c84, ?_⟩
    have n85 := kq5_ne K c84
    obtain ⟨b86, e87, h⟩ := h
    refine ⟨b86, e87, ?_⟩
    obtain ⟨b88, e89, h⟩ := h
    refine ⟨b88, e89, ?_⟩
    obtain ⟨c90, h⟩ := h
    refine ⟨c90, ?_⟩
    have n91 := kq5_ne K c90
    intro x93 e92
    have h := h x93 e92
    obtain ⟨c94, h⟩ := h
    refine ⟨c94, ?_⟩
    have n95 := kq5_ne K c94
    obtain ⟨c96, h⟩ := h
    refine ⟨c96, ?_⟩
    intro x98 e97
    have h := h x98 e97
    have K := kq5_A K e97 n95 (by decide)
    obtain ⟨b99, e100, h⟩ := h
    refine ⟨b99, e100, ?_⟩
    obtain ⟨c101, h⟩ := h
    refine ⟨c101, ?_⟩
    have n102 := kq5_ne K c101
    obtain ⟨b103, e104, h⟩ := h
    refine ⟨b103, e104, ?_⟩
    obtain ⟨b105, e106, h⟩ := h
    refine ⟨b105, e106, ?_⟩
    obtain ⟨c107, h⟩ := h
    refine ⟨c107, ?_⟩
    have n108 := kq5_ne K c107
    intro x110 e109
    have h := h x110 e109
    obtain ⟨c111, h⟩ := h
    refine ⟨c111, ?_⟩
    have n112 := kq5_ne K c111
    obtain ⟨c113, h⟩ := h
    refine ⟨c113, ?_⟩
    intro x115 e114
    have h := h x115 e114
    have K := kq5_A K e114 n112 (by decide)
    obtain ⟨b116, e117, h⟩ := h
    refine ⟨b116, e117, ?_⟩
    obtain ⟨c118, h⟩ := h
    refine ⟨c118, ?_⟩
    have n119 := kq5_ne K c118
    intro x121 e120
    have h := h x121 e120
    intro x123 e122
    have h := h x123 e122
    intro x125 e124
    have h := h x125 e124
    have K := kq5_I K e124 n119 (by decide)
    exact ⟨h, K⟩
  · intro c126
    have h := h.2 c126
    exact ⟨h, K⟩
theorem kq_X11_readRain {Q : HS → Prop} {v0 : Nat} {S : HS} (h : P_X11_readRain v0 Q S) : P_X11_readRain v0 (fun T => Q T ∧ KQ5 S T) S := kq_X11_readRain_0 h (kq5_rf S)
set_option maxRecDepth 20000 in
set_option maxHeartbeats 1000000 in
theorem kq_X11_readRoad_85 {Q : HS → Prop} {v0 : Nat} {v1 : Int32} {v2 : Int32} {v3 : Int32} {v4 : Int32} {s0 : Int32} {S0 S : HS} (h : P_X11_readRoad_85 Q v0 v1 v2 v3 v4 s0 S) (K : KQ5 S0 S) : P_X11_readRoad_85 (fun T => Q T ∧ KQ5 S0 T) v0 v1 v2 v3 v4 s0 S := by
  delta P_X11_readRoad_85 at h ⊢
  obtain ⟨c1, h⟩ := h
  refine ⟨c1, ?_⟩
  have n2 := kq5_ne K c1
  intro x4 e3
  have h := h x4 e3
  refine ⟨?_, ?_⟩
  · intro c5
    have h := h.1 c5
    obtain ⟨b6, e7, h⟩ := h
    refine ⟨b6, e7, ?_⟩
    obtain ⟨c8, h⟩ := h
    refine ⟨c8, ?_⟩
    have n9 := kq5_ne K c8
    intro x11 e10
    have h := h x11 e10
    obtain ⟨b12, e13, h⟩ := h
    refine ⟨b12, e13, ?_⟩
    obtain ⟨c14, h⟩ := h
    refine ⟨c14, ?_⟩
    have n15 := kq5_ne K c14
    obtain ⟨b16, e17, h⟩ := h
    refine ⟨b16, e17, ?_⟩
    obtain ⟨c18, h⟩ := h
    refine ⟨c18, ?_⟩
    have n19 := kq5_ne K c18
    obtain ⟨c20, h⟩ := h
    refine ⟨c20, ?_⟩
    intro x22 e21
    have h := h x22 e21
    have K := kq5_A K e21 n19 (by decide)
    obtain ⟨b23, e24, h⟩ := h
    refine ⟨b23, e24, ?_⟩
    obtain ⟨c25, h⟩ := h
    refine ⟨c25, ?_⟩
    have n26 := kq5_ne K c25
    obtain ⟨b27, e28, h⟩ := h
    refine ⟨b27, e28, ?_⟩
    obtain ⟨c29, h⟩ := h
    refine ⟨c29, ?_⟩
    have n30 := kq5_ne K c29
    obtain ⟨c31, h⟩ := h
    refine ⟨c31, ?_⟩
    intro x33 e32
    have h := h x33 e32
    have K := kq5_A K e32 n30 (by decide)
    obtain ⟨b34, e35, h⟩ := h
    refine ⟨b34, e35, ?_⟩
    obtain ⟨c36, h⟩ := h
    refine ⟨c36, ?_⟩
    have n37 := kq5_ne K c36
    obtain ⟨b38, e39, h⟩ := h
    refine ⟨b38, e39, ?_⟩
    obtain ⟨c40, h⟩ := h
    refine ⟨c40, ?_⟩
    have n41 := kq5_ne K c40
    obtain ⟨c42, h⟩ := h
    refine ⟨c42, ?_⟩
    intro x44 e43
    have h := h x44 e43
    have K := kq5_A K e43 n41 (by decide)
    obtain ⟨b45, e46, h⟩ := h
    refine ⟨b45, e46, ?_⟩
    obtain ⟨c47, h⟩ := h
    refine ⟨c47, ?_⟩
    have n48 := kq5_ne K c47
    obtain ⟨b49, e50, h⟩ := h
    refine ⟨b49, e50, ?_⟩
    obtain ⟨c51, h⟩ := h
    refine ⟨c51, ?_⟩
    have n52 := kq5_ne K c51
    obtain ⟨c53, h⟩ := h
    refine ⟨c53, ?_⟩
    intro x55 e54
    have h := h x55 e54
    have K := kq5_A K e54 n52 (by decide)
    obtain ⟨b56, e57, h⟩ := h
    refine ⟨b56, e57, ?_⟩
    obtain ⟨c58, h⟩ := h
    refine ⟨c58, ?_⟩
    have n59 := kq5_ne K c58
    obtain ⟨b60, e61, h⟩ := h
    refine ⟨b60, e61, ?_⟩
    obtain ⟨c62, h⟩ := h
    refine ⟨c62, ?_⟩
    have n63 := kq5_ne K c62
    obtain ⟨c64, h⟩ := h
    refine ⟨c64, ?_⟩
    intro x66 e65
    have h := h x66 e65
    have K := kq5_A K e65 n63 (by decide)
    obtain ⟨b67, e68, h⟩ := h
    refine ⟨b67, e68, ?_⟩
    obtain ⟨c69, h⟩ := h
    refine ⟨c69, ?_⟩
    have n70 := kq5_ne K c69
    intro x72 e71
    have h := h x72 e71
    intro x74 e73
    have h := h x74 e73
    intro x76 e75
    have h := h x76 e75
    have K := kq5_I K e75 n70 (by decide)
    exact ⟨h, K⟩
  · intro c77
    have h := h.2 c77
    exact ⟨h, K⟩
set_option maxRecDepth 20000 in
set_option maxHeartbeats 1000000 in
theorem kq_X11_readRoad_62 {Q : HS → Prop} {v0 : Nat} {v1 : Int32} {v2 : Int32} {v3 : Int32} {v4 : Int32} {S0 S : HS} (h : P_X11_readRoad_62 Q v0 v1 v2 v3 v4 S) (K : KQ5 S0 S) : P_X11_readRoad_62 (fun T => Q T ∧ KQ5 S0 T) v0 v1 v2 v3 v4 S := by
  delta P_X11_readRoad_62 at h ⊢
  obtain ⟨c1, h⟩ := h
  refine ⟨c1, ?_⟩
  have n2 := kq5_ne K c1
  refine cm_X11_goesOn (kq_X11_goesOn h) h (fun x3 hp h g4 => ?_)
  have h := h g4
  have K := kq5_tr K hp.2
  refine cm_X11_eatsWord (kq_X11_eatsWord h) h (fun x5 x6 hp h g7 g8 => ?_)
  have h := h g7 g8
  have K := kq5_tr K hp.2
  refine ⟨?_, ?_⟩
  · intro c9
    have h := h.1 c9
    exact kq_X11_readRoad_85 h K
  · intro c10
    have h := h.2 c10
    refine cm_X11_readWhole (kq_X11_readWhole h) h (fun x11 x12 hp h g13 => ?_)
    have h := h g13
    have K := kq5_tr K hp.2
    exact kq_X11_readRoad_85 h K
set_option maxRecDepth 20000 in
set_option maxHeartbeats 1000000 in
theorem kq_X11_readRoad_0 {Q : HS → Prop} {v0 : Nat} {S0 S : HS} (h : P_X11_readRoad_0 Q v0 S) (K : KQ5 S0 S) : P_X11_readRoad_0 (fun T => Q T ∧ KQ5 S0 T) v0 S := by
  delta P_X11_readRoad_0 at h ⊢
  obtain ⟨c1, h⟩ := h
  refine ⟨c1, ?_⟩
  have n2 := kq5_ne K c1
  obtain ⟨b3, e4, h⟩ := h
  refine ⟨b3, e4, ?_⟩
  obtain ⟨c5, h⟩ := h
  refine ⟨c5, ?_⟩
  have n6 := kq5_ne K c5
  intro x8 e7
  have h := h x8 e7
  refine cm_X11_begins (kq_X11_begins h) h (fun x9 hp h g10 => ?_)
  have h := h g10
  have K := kq5_tr K hp.2
  refine cm_X11_known (kq_X11_known h) h (fun x11 x12 hp h g13 => ?_)
  have h := h g13
  have K := kq5_tr K hp.2
  refine cm_X11_goesOn (kq_X11_goesOn h) h (fun x14 hp h g15 => ?_)
  have h := h g15
  have K := kq5_tr K hp.2
  refine cm_X11_readSide (kq_X11_readSide h) h (fun x16 x17 hp h g18 => ?_)
  have h := h g18
  have K := kq5_tr K hp.2
  refine cm_X11_readWhole (kq_X11_readWhole h) h (fun x19 x20 hp h g21 => ?_)
  have h := h g21
  have K := kq5_tr K hp.2
  refine cm_X11_known (kq_X11_known h) h (fun x22 x23 hp h g24 => ?_)
  have h := h g24
  have K := kq5_tr K hp.2
  intro x26 e25
  have h := h x26 e25
  refine ⟨?_, ?_⟩
  · intro c27
    have h := h.1 c27
    exact kq_X11_readRoad_62 h K
  · intro c28
    have h := h.2 c28
    refine ⟨?_, ?_⟩
    · intro c29
      have h := h.1 c29
      exact kq_X11_readRoad_62 h K
    · intro c30
      have h := h.2 c30
      refine cm_X11_flaw (kq_X11_flaw h) h (fun x31 hp h g32 => ?_)
      have h := h g32
      have K := kq5_tr K hp.2
      exact kq_X11_readRoad_62 h K
theorem kq_X11_readRoad {Q : HS → Prop} {v0 : Nat} {S : HS} (h : P_X11_readRoad v0 Q S) : P_X11_readRoad v0 (fun T => Q T ∧ KQ5 S T) S := kq_X11_readRoad_0 h (kq5_rf S)
set_option maxRecDepth 20000 in
set_option maxHeartbeats 1000000 in
theorem kq_X11_readSeen_47 {Q : HS → Prop} {X24 X24_2 : Nat → Int32 → Int32 → HS → Prop} {v0 : Nat} {v1 : Int32} {v2 : Int32} {S0 S : HS} (h : P_X11_readSeen_47 Q X24 v0 v1 v2 S) (K : KQ5 S0 S) (hX24 : ∀ (u0 : Nat) (u1 : Int32) (u2 : Int32) (u3 : HS), X24 u0 u1 u2 u3 → KQ5 S0 u3 → X24_2 u0 u1 u2 u3) : P_X11_readSeen_47 (fun T => Q T ∧ KQ5 S0 T) X24_2 v0 v1 v2 S := by
  delta P_X11_readSeen_47 at h ⊢
  obtain ⟨c1, h⟩ := h
  refine ⟨c1, ?_⟩
  have n2 := kq5_ne K c1
  refine cm_X11_readWhole (kq_X11_readWhole h) h (fun x3 x4 hp h g5 => ?_)
  have h := h g5
  have K := kq5_tr K hp.2
  intro x7 e6
  have h := h x7 e6
  refine ⟨?_, ?_⟩
  · intro c8
    have h := h.1 c8
    obtain ⟨b9, e10, h⟩ := h
    refine ⟨b9, e10, ?_⟩
    obtain ⟨c11, h⟩ := h
    refine ⟨c11, ?_⟩
    have n12 := kq5_ne K c11
    obtain ⟨b13, e14, h⟩ := h
    refine ⟨b13, e14, ?_⟩
    obtain ⟨b15, e16, h⟩ := h
    refine ⟨b15, e16, ?_⟩
    obtain ⟨c17, h⟩ := h
    refine ⟨c17, ?_⟩
    have n18 := kq5_ne K c17
    intro x20 e19
    have h := h x20 e19
    obtain ⟨c21, h⟩ := h
    refine ⟨c21, ?_⟩
    have n22 := kq5_ne K c21
    obtain ⟨c23, h⟩ := h
    refine ⟨c23, ?_⟩
    intro x25 e24
    have h := h x25 e24
    have K := kq5_A K e24 n22 (by decide)
    intro x27 e26
    have h := h x27 e26
    exact hX24 _ _ _ _ h K
  · intro c28
    have h := h.2 c28
    exact ⟨h, K⟩
set_option maxRecDepth 20000 in
set_option maxHeartbeats 1000000 in
theorem kqB_X11_readSeen_24 {Q : HS → Prop} {X24 X24_2 : Nat → Int32 → Int32 → HS → Prop} {v0 : Nat} {v1 : Int32} {v2 : Int32} {S0 S : HS} (h : B_X11_readSeen_24 Q X24 v0 v1 v2 S) (K : KQ5 S0 S) (hX24 : ∀ (u0 : Nat) (u1 : Int32) (u2 : Int32) (u3 : HS), X24 u0 u1 u2 u3 → KQ5 S0 u3 → X24_2 u0 u1 u2 u3) : B_X11_readSeen_24 (fun T => Q T ∧ KQ5 S0 T) X24_2 v0 v1 v2 S := by
  delta B_X11_readSeen_24 at h ⊢
  refine ⟨?_, ?_⟩
  · intro c1
    have h := h.1 c1
    obtain ⟨c2, h⟩ := h
    refine ⟨c2, ?_⟩
    have n3 := kq5_ne K c2
    obtain ⟨b4, e5, h⟩ := h
    refine ⟨b4, e5, ?_⟩
    obtain ⟨c6, h⟩ := h
    refine ⟨c6, ?_⟩
    have n7 := kq5_ne K c6
    obtain ⟨b8, e9, h⟩ := h
    refine ⟨b8, e9, ?_⟩
    obtain ⟨b10, e11, h⟩ := h
    refine ⟨b10, e11, ?_⟩
    obtain ⟨c12, h⟩ := h
    refine ⟨c12, ?_⟩
    have n13 := kq5_ne K c12
    intro x15 e14
    have h := h x15 e14
    obtain ⟨c16, h⟩ := h
    refine ⟨c16, ?_⟩
    have n17 := kq5_ne K c16
    obtain ⟨c18, h⟩ := h
    refine ⟨c18, ?_⟩
    intro x20 e19
    have h := h x20 e19
    have K := kq5_A K e19 n17 (by decide)
    obtain ⟨b21, e22, h⟩ := h
    refine ⟨b21, e22, ?_⟩
    obtain ⟨c23, h⟩ := h
    refine ⟨c23, ?_⟩
    have n24 := kq5_ne K c23
    intro x26 e25
    have h := h x26 e25
    intro x28 e27
    have h := h x28 e27
    intro x30 e29
    have h := h x30 e29
    have K := kq5_I K e29 n24 (by decide)
    exact ⟨h, K⟩
  · intro c31
    have h := h.2 c31
    refine ⟨?_, ?_⟩
    · intro c32
      have h := h.1 c32
      exact kq_X11_readSeen_47 h K hX24
    · intro c33
      have h := h.2 c33
      obtain ⟨c34, h⟩ := h
      refine ⟨c34, ?_⟩
      have n35 := kq5_ne K c34
      refine cm_X11_eatsSign (kq_X11_eatsSign h) h (fun x36 x37 hp h g38 g39 => ?_)
      have h := h g38 g39
      have K := kq5_tr K hp.2
      refine ⟨?_, ?_⟩
      · intro c40
        have h := h.1 c40
        exact kq_X11_readSeen_47 h K hX24
      · intro c41
        have h := h.2 c41
        refine cm_X11_flaw (kq_X11_flaw h) h (fun x42 hp h g43 => ?_)
        have h := h g43
        have K := kq5_tr K hp.2
        exact kq_X11_readSeen_47 h K hX24
theorem kq_X11_readSeen_24 {Q : HS → Prop} {v0 : Nat} {v1 : Int32} {v2 : Int32} {S0 S : HS} (h : P_X11_readSeen_24 Q v0 v1 v2 S) (K : KQ5 S0 S) : P_X11_readSeen_24 (fun T => Q T ∧ KQ5 S0 T) v0 v1 v2 S := h (fun v0 v1 v2 S => KQ5 S0 S → P_X11_readSeen_24 (fun T => Q T ∧ KQ5 S0 T) v0 v1 v2 S) (fun v0 v1 v2 S hB K => fd_X11_readSeen_24 (kqB_X11_readSeen_24 hB K (fun _ _ _ _ hx K => hx K))) K
set_option maxRecDepth 20000 in
set_option maxHeartbeats 1000000 in
theorem kq_X11_readSeen_0 {Q : HS → Prop} {v0 : Nat} {S0 S : HS} (h : P_X11_readSeen_0 Q v0 S) (K : KQ5 S0 S) : P_X11_readSeen_0 (fun T => Q T ∧ KQ5 S0 T) v0 S := by
  delta P_X11_readSeen_0 at h ⊢
  obtain ⟨c1, h⟩ := h
  refine ⟨c1, ?_⟩
  have n2 := kq5_ne K c1
  obtain ⟨b3, e4, h⟩ := h
  refine ⟨b3, e4, ?_⟩
  obtain ⟨c5, h⟩ := h
  refine ⟨c5, ?_⟩
  have n6 := kq5_ne K c5
  intro x8 e7
  have h := h x8 e7
  refine cm_X11_begins (kq_X11_begins h) h (fun x9 hp h g10 => ?_)
  have h := h g10
  have K := kq5_tr K hp.2
  refine cm_X11_known (kq_X11_known h) h (fun x11 x12 hp h g13 => ?_)
  have h := h g13
  have K := kq5_tr K hp.2
  refine cm_X11_goesOn (kq_X11_goesOn h) h (fun x14 hp h g15 => ?_)
  have h := h g15
  have K := kq5_tr K hp.2
  exact kq_X11_readSeen_24 h K
theorem kq_X11_readSeen {Q : HS → Prop} {v0 : Nat} {S : HS} (h : P_X11_readSeen v0 Q S) : P_X11_readSeen v0 (fun T => Q T ∧ KQ5 S T) S := kq_X11_readSeen_0 h (kq5_rf S)
set_option maxRecDepth 20000 in
set_option maxHeartbeats 1000000 in
theorem kq_X11_readWalker_149 {Q : HS → Prop} {v0 : Nat} {v1 : Int64} {v3 : Int32} {v4 : Int32} {s0 : Int32} {S0 S : HS} (h : P_X11_readWalker_149 Q v0 v1 v3 v4 s0 S) (K : KQ5 S0 S) : P_X11_readWalker_149 (fun T => Q T ∧ KQ5 S0 T) v0 v1 v3 v4 s0 S := by
  delta P_X11_readWalker_149 at h ⊢
  obtain ⟨c1, h⟩ := h
  refine ⟨c1, ?_⟩
  have n2 := kq5_ne K c1
  refine cm_X11_readPart (kq_X11_readPart h) h (fun x3 x4 hp h g5 => ?_)
  have h := h g5
  have K := kq5_tr K hp.2
  refine cm_X11_readPart (kq_X11_readPart h) h (fun x6 x7 hp h g8 => ?_)
  have h := h g8
  have K := kq5_tr K hp.2
  refine cm_X11_readPart (kq_X11_readPart h) h (fun x9 x10 hp h g11 => ?_)
  have h := h g11
  have K := kq5_tr K hp.2
  refine cm_X11_readPart (kq_X11_readPart h) h (fun x12 x13 hp h g14 => ?_)
  have h := h g14
  have K := kq5_tr K hp.2
  refine cm_X11_readPart (kq_X11_readPart h) h (fun x15 x16 hp h g17 => ?_)
  have h := h g17
  have K := kq5_tr K hp.2
  intro x19 e18
  have h := h x19 e18
  refine ⟨?_, ?_⟩
  · intro c20
    have h := h.1 c20
    obtain ⟨b21, e22, h⟩ := h
    refine ⟨b21, e22, ?_⟩
    obtain ⟨c23, h⟩ := h
    refine ⟨c23, ?_⟩
    have n24 := kq5_ne K c23
    intro x26 e25
    have h := h x26 e25
    refine cm_X11_names (kq_X11_names h) h (fun x27 hp h g28 => ?_)
    have h := h g28
    have K := kq5_tr K hp.2
    obtain ⟨b29, e30, h⟩ := h
    refine ⟨b29, e30, ?_⟩
    obtain ⟨c31, h⟩ := h
    refine ⟨c31, ?_⟩
    have n32 := kq5_ne K c31
    obtain ⟨b33, e34, h⟩ := h
    refine ⟨b33, e34, ?_⟩
    obtain ⟨c35, h⟩ := h
    refine ⟨c35, ?_⟩
    have n36 := kq5_ne K c35
    obtain ⟨c37, h⟩ := h
    refine ⟨c37, ?_⟩
    intro x39 e38
    have h := h x39 e38
    have K := kq5_A K e38 n36 (by decide)
    obtain ⟨b40, e41, h⟩ := h
    refine ⟨b40, e41, ?_⟩
    obtain ⟨c42, h⟩ := h
    refine ⟨c42, ?_⟩
    have n43 := kq5_ne K c42
    obtain ⟨b44, e45, h⟩ := h
    refine ⟨b44, e45, ?_⟩
    obtain ⟨c46, h⟩ := h
    refine ⟨c46, ?_⟩
    have n47 := kq5_ne K c46
    obtain ⟨c48, h⟩ := h
    refine ⟨c48, ?_⟩
    intro x50 e49
    have h := h x50 e49
    have K := kq5_A K e49 n47 (by decide)
    obtain ⟨b51, e52, h⟩ := h
    refine ⟨b51, e52, ?_⟩
    obtain ⟨c53, h⟩ := h
    refine ⟨c53, ?_⟩
    have n54 := kq5_ne K c53
    obtain ⟨b55, e56, h⟩ := h
    refine ⟨b55, e56, ?_⟩
    obtain ⟨c57, h⟩ := h
    refine ⟨c57, ?_⟩
    have n58 := kq5_ne K c57
    intro x60 e59
    have h := h x60 e59
    obtain ⟨c61, h⟩ := h
    refine ⟨c61, ?_⟩
    intro x63 e62
    have h := h x63 e62
    have K := kq5_A K e62 n58 (by decide)
    obtain ⟨b64, e65, h⟩ := h
    refine ⟨b64, e65, ?_⟩
    obtain ⟨c66, h⟩ := h
    refine ⟨c66, ?_⟩
    have n67 := kq5_ne K c66
    obtain ⟨b68, e69, h⟩ := h
    refine ⟨b68, e69, ?_⟩
    obtain ⟨c70, h⟩ := h
    refine ⟨c70, ?_⟩
    have n71 := kq5_ne K c70
    intro x73 e72
    have h := h x73 e72
    obtain ⟨c74, h⟩ := h
    refine ⟨c74, ?_⟩
    intro x76 e75
    have h := h x76 e75
    have K := kq5_A K e75 n71 (by decide)
    obtain ⟨b77, e78, h⟩ := h
    refine ⟨b77, e78, ?_⟩
    obtain ⟨c79, h⟩ := h
    refine ⟨c79, ?_⟩
    have n80 := kq5_ne K c79
    obtain ⟨b81, e82, h⟩ := h
    refine ⟨b81, e82, ?_⟩
    obtain ⟨c83, h⟩ := h
    refine ⟨c83, ?_⟩
    have n84 := kq5_ne K c83
    intro x86 e85
    have h := h x86 e85
    obtain ⟨c87, h⟩ := h
    refine ⟨c87, ?_⟩
    intro x89 e88
    have h := h x89 e88
    have K := kq5_A K e88 n84 (by decide)
    obtain ⟨b90, e91, h⟩ := h
    refine ⟨b90, e91, ?_⟩
    obtain ⟨c92, h⟩ := h
    refine ⟨c92, ?_⟩
    have n93 := kq5_ne K c92
    obtain ⟨b94, e95, h⟩ := h
    refine ⟨b94, e95, ?_⟩
    obtain ⟨c96, h⟩ := h
    refine ⟨c96, ?_⟩
    have n97 := kq5_ne K c96
    obtain ⟨c98, h⟩ := h
    refine ⟨c98, ?_⟩
    intro x100 e99
    have h := h x100 e99
    have K := kq5_A K e99 n97 (by decide)
    obtain ⟨b101, e102, h⟩ := h
    refine ⟨b101, e102, ?_⟩
    obtain ⟨c103, h⟩ := h
    refine ⟨c103, ?_⟩
    have n104 := kq5_ne K c103
    obtain ⟨b105, e106, h⟩ := h
    refine ⟨b105, e106, ?_⟩
    obtain ⟨c107, h⟩ := h
    refine ⟨c107, ?_⟩
    have n108 := kq5_ne K c107
    obtain ⟨c109, h⟩ := h
    refine ⟨c109, ?_⟩
    intro x111 e110
    have h := h x111 e110
    have K := kq5_A K e110 n108 (by decide)
    obtain ⟨b112, e113, h⟩ := h
    refine ⟨b112, e113, ?_⟩
    obtain ⟨c114, h⟩ := h
    refine ⟨c114, ?_⟩
    have n115 := kq5_ne K c114
    intro x117 e116
    have h := h x117 e116
    intro x119 e118
    have h := h x119 e118
    intro x121 e120
    have h := h x121 e120
    have K := kq5_I K e120 n115 (by decide)
    exact ⟨h, K⟩
  · intro c122
    have h := h.2 c122
    exact ⟨h, K⟩
set_option maxRecDepth 20000 in
set_option maxHeartbeats 1000000 in
theorem kq_X11_readWalker_136 {Q : HS → Prop} {v0 : Nat} {v1 : Int64} {v3 : Int32} {s0 : Int32} {S0 S : HS} (h : P_X11_readWalker_136 Q v0 v1 v3 s0 S) (K : KQ5 S0 S) : P_X11_readWalker_136 (fun T => Q T ∧ KQ5 S0 T) v0 v1 v3 s0 S := by
  delta P_X11_readWalker_136 at h ⊢
  refine ⟨?_, ?_⟩
  · intro c1
    have h := h.1 c1
    exact kq_X11_readWalker_149 h K
  · intro c2
    have h := h.2 c2
    exact kq_X11_readWalker_149 h K
set_option maxRecDepth 20000 in
set_option maxHeartbeats 1000000 in
theorem kq_X11_readWalker_85 {Q : HS → Prop} {v0 : Nat} {v1 : Int64} {v3 : Int32} {S0 S : HS} (h : P_X11_readWalker_85 Q v0 v1 v3 S) (K : KQ5 S0 S) : P_X11_readWalker_85 (fun T => Q T ∧ KQ5 S0 T) v0 v1 v3 S := by
  delta P_X11_readWalker_85 at h ⊢
  obtain ⟨c1, h⟩ := h
  refine ⟨c1, ?_⟩
  have n2 := kq5_ne K c1
  refine cm_X11_goesOn (kq_X11_goesOn h) h (fun x3 hp h g4 => ?_)
  have h := h g4
  have K := kq5_tr K hp.2
  refine ⟨?_, ?_⟩
  · intro c5
    have h := h.1 c5
    refine ⟨?_, ?_⟩
    · intro c6
      have h := h.1 c6
      refine ⟨?_, ?_⟩
      · intro c7
        have h := h.1 c7
        exact kq_X11_readWalker_136 h K
      · intro c8
        have h := h.2 c8
        refine cm_X11_readWhole (kq_X11_readWhole h) h (fun x9 x10 hp h g11 => ?_)
        have h := h g11
        have K := kq5_tr K hp.2
        exact kq_X11_readWalker_136 h K
    · intro c12
      have h := h.2 c12
      refine cm_X11_readWhole (kq_X11_readWhole h) h (fun x13 x14 hp h g15 => ?_)
      have h := h g15
      have K := kq5_tr K hp.2
      exact kq_X11_readWalker_136 h K
  · intro c16
    have h := h.2 c16
    refine cm_X11_readWhole (kq_X11_readWhole h) h (fun x17 x18 hp h g19 => ?_)
    have h := h g19
    have K := kq5_tr K hp.2
    exact kq_X11_readWalker_136 h K
set_option maxRecDepth 20000 in
set_option maxHeartbeats 1000000 in
theorem kq_X11_readWalker_74 {Q : HS → Prop} {v0 : Nat} {v1 : Int64} {s0 : Int32} {S0 S : HS} (h : P_X11_readWalker_74 Q v0 v1 s0 S) (K : KQ5 S0 S) : P_X11_readWalker_74 (fun T => Q T ∧ KQ5 S0 T) v0 v1 s0 S := by
  delta P_X11_readWalker_74 at h ⊢
  refine ⟨?_, ?_⟩
  · intro c1
    have h := h.1 c1
    exact kq_X11_readWalker_85 h K
  · intro c2
    have h := h.2 c2
    obtain ⟨c3, h⟩ := h
    refine ⟨c3, ?_⟩
    have n4 := kq5_ne K c3
    refine cm_X11_flaw (kq_X11_flaw h) h (fun x5 hp h g6 => ?_)
    have h := h g6
    have K := kq5_tr K hp.2
    exact kq_X11_readWalker_85 h K
set_option maxRecDepth 20000 in
set_option maxHeartbeats 1000000 in
theorem kq_X11_readWalker_0 {Q : HS → Prop} {v0 : Nat} {S0 S : HS} (h : P_X11_readWalker_0 Q v0 S) (K : KQ5 S0 S) : P_X11_readWalker_0 (fun T => Q T ∧ KQ5 S0 T) v0 S := by
  delta P_X11_readWalker_0 at h ⊢
  obtain ⟨c1, h⟩ := h
  refine ⟨c1, ?_⟩
  have n2 := kq5_ne K c1
  obtain ⟨b3, e4, h⟩ := h
  refine ⟨b3, e4, ?_⟩
  obtain ⟨c5, h⟩ := h
  refine ⟨c5, ?_⟩
  have n6 := kq5_ne K c5
  intro x8 e7
  have h := h x8 e7
  refine cm_X11_begins (kq_X11_begins h) h (fun x9 hp h g10 => ?_)
  have h := h g10
  have K := kq5_tr K hp.2
  refine cm_X11_readFresh (kq_X11_readFresh h) h (fun x11 x12 hp h g13 => ?_)
  have h := h g13
  have K := kq5_tr K hp.2
  refine cm_X11_isWord (kq_X11_isWord h) h (fun x14 x15 hp h g16 g17 => ?_)
  have h := h g16 g17
  have K := kq5_tr K hp.2
  refine ⟨?_, ?_⟩
  · intro c18
    have h := h.1 c18
    refine cm_X11_isWord (kq_X11_isWord h) h (fun x19 x20 hp h g21 g22 => ?_)
    have h := h g21 g22
    have K := kq5_tr K hp.2
    refine ⟨?_, ?_⟩
    · intro c23
      have h := h.1 c23
      refine cm_X11_isWord (kq_X11_isWord h) h (fun x24 x25 hp h g26 g27 => ?_)
      have h := h g26 g27
      have K := kq5_tr K hp.2
      refine ⟨?_, ?_⟩
      · intro c28
        have h := h.1 c28
        refine cm_X11_isWord (kq_X11_isWord h) h (fun x29 x30 hp h g31 g32 => ?_)
        have h := h g31 g32
        have K := kq5_tr K hp.2
        refine ⟨?_, ?_⟩
        · intro c33
          have h := h.1 c33
          exact kq_X11_readWalker_74 h K
        · intro c34
          have h := h.2 c34
          exact kq_X11_readWalker_74 h K
      · intro c35
        have h := h.2 c35
        exact kq_X11_readWalker_74 h K
    · intro c36
      have h := h.2 c36
      exact kq_X11_readWalker_74 h K
  · intro c37
    have h := h.2 c37
    exact kq_X11_readWalker_74 h K
theorem kq_X11_readWalker {Q : HS → Prop} {v0 : Nat} {S : HS} (h : P_X11_readWalker v0 Q S) : P_X11_readWalker v0 (fun T => Q T ∧ KQ5 S T) S := kq_X11_readWalker_0 h (kq5_rf S)
set_option maxRecDepth 20000 in
set_option maxHeartbeats 1000000 in
theorem kq_X11_readWorld_15 {Q : HS → Prop} {v0 : Nat} {S0 S : HS} (h : P_X11_readWorld_15 Q v0 S) (K : KQ5 S0 S) : P_X11_readWorld_15 (fun T => Q T ∧ KQ5 S0 T) v0 S := by
  delta P_X11_readWorld_15 at h ⊢
  obtain ⟨c1, h⟩ := h
  refine ⟨c1, ?_⟩
  have n2 := kq5_ne K c1
  refine cm_X11_goesOn (kq_X11_goesOn h) h (fun x3 hp h g4 => ?_)
  have h := h g4
  have K := kq5_tr K hp.2
  refine cm_X11_readPart (kq_X11_readPart h) h (fun x5 x6 hp h g7 => ?_)
  have h := h g7
  have K := kq5_tr K hp.2
  intro x9 e8
  have h := h x9 e8
  refine ⟨?_, ?_⟩
  · intro c10
    have h := h.1 c10
    exact ⟨h, K⟩
  · intro c11
    have h := h.2 c11
    obtain ⟨b12, e13, h⟩ := h
    refine ⟨b12, e13, ?_⟩
    obtain ⟨c14, h⟩ := h
    refine ⟨c14, ?_⟩
    have n15 := kq5_ne K c14
    intro x17 e16
    have h := h x17 e16
    have K := kq5_I K e16 n15 (by decide)
    exact ⟨h, K⟩
set_option maxRecDepth 20000 in
set_option maxHeartbeats 1000000 in
theorem kq_X11_readWorld_0 {Q : HS → Prop} {v0 : Nat} {S0 S : HS} (h : P_X11_readWorld_0 Q v0 S) (K : KQ5 S0 S) : P_X11_readWorld_0 (fun T => Q T ∧ KQ5 S0 T) v0 S := by
  delta P_X11_readWorld_0 at h ⊢
  obtain ⟨c1, h⟩ := h
  refine ⟨c1, ?_⟩
  have n2 := kq5_ne K c1
  obtain ⟨b3, e4, h⟩ := h
  refine ⟨b3, e4, ?_⟩
  obtain ⟨c5, h⟩ := h
  refine ⟨c5, ?_⟩
  have n6 := kq5_ne K c5
  intro x8 e7
  have h := h x8 e7
  refine ⟨?_, ?_⟩
  · intro c9
    have h := h.1 c9
    exact kq_X11_readWorld_15 h K
  · intro c10
    have h := h.2 c10
    refine cm_X11_flaw (kq_X11_flaw h) h (fun x11 hp h g12 => ?_)
    have h := h g12
    have K := kq5_tr K hp.2
    exact kq_X11_readWorld_15 h K
theorem kq_X11_readWorld {Q : HS → Prop} {v0 : Nat} {S : HS} (h : P_X11_readWorld v0 Q S) : P_X11_readWorld v0 (fun T => Q T ∧ KQ5 S T) S := kq_X11_readWorld_0 h (kq5_rf S)
set_option maxRecDepth 20000 in
set_option maxHeartbeats 1000000 in
theorem kq_X11_readLine_0 {Q : HS → Prop} {v0 : Nat} {S0 S : HS} (h : P_X11_readLine_0 Q v0 S) (K : KQ5 S0 S) : P_X11_readLine_0 (fun T => Q T ∧ KQ5 S0 T) v0 S := by
  delta P_X11_readLine_0 at h ⊢
  obtain ⟨c1, h⟩ := h
  refine ⟨c1, ?_⟩
  have n2 := kq5_ne K c1
  refine cm_X11_isWord (kq_X11_isWord h) h (fun x3 x4 hp h g5 g6 => ?_)
  have h := h g5 g6
  have K := kq5_tr K hp.2
  refine ⟨?_, ?_⟩
  · intro c7
    have h := h.1 c7
    refine cm_X11_isWord (kq_X11_isWord h) h (fun x8 x9 hp h g10 g11 => ?_)
    have h := h g10 g11
    have K := kq5_tr K hp.2
    refine ⟨?_, ?_⟩
    · intro c12
      have h := h.1 c12
      refine cm_X11_isWord (kq_X11_isWord h) h (fun x13 x14 hp h g15 g16 => ?_)
      have h := h g15 g16
      have K := kq5_tr K hp.2
      refine ⟨?_, ?_⟩
      · intro c17
        have h := h.1 c17
        refine cm_X11_isWord (kq_X11_isWord h) h (fun x18 x19 hp h g20 g21 => ?_)
        have h := h g20 g21
        have K := kq5_tr K hp.2
        refine ⟨?_, ?_⟩
        · intro c22
          have h := h.1 c22
          refine cm_X11_isWord (kq_X11_isWord h) h (fun x23 x24 hp h g25 g26 => ?_)
          have h := h g25 g26
          have K := kq5_tr K hp.2
          refine ⟨?_, ?_⟩
          · intro c27
            have h := h.1 c27
            refine cm_X11_isWord (kq_X11_isWord h) h (fun x28 x29 hp h g30 g31 => ?_)
            have h := h g30 g31
            have K := kq5_tr K hp.2
            refine ⟨?_, ?_⟩
            · intro c32
              have h := h.1 c32
              refine cm_X11_flaw (kq_X11_flaw h) h (fun x33 hp h g34 => ?_)
              have h := h g34
              have K := kq5_tr K hp.2
              exact ⟨h, K⟩
            · intro c35
              have h := h.2 c35
              refine cm_X11_readSeen (kq_X11_readSeen h) h (fun x36 hp h g37 => ?_)
              have h := h g37
              have K := kq5_tr K hp.2
              exact ⟨h, K⟩
          · intro c38
            have h := h.2 c38
            refine cm_X11_readWalker (kq_X11_readWalker h) h (fun x39 hp h g40 => ?_)
            have h := h g40
            have K := kq5_tr K hp.2
            exact ⟨h, K⟩
        · intro c41
          have h := h.2 c41
          refine cm_X11_readRoad (kq_X11_readRoad h) h (fun x42 hp h g43 => ?_)
          have h := h g43
          have K := kq5_tr K hp.2
          exact ⟨h, K⟩
      · intro c44
        have h := h.2 c44
        refine cm_X11_readPlace (kq_X11_readPlace h) h (fun x45 hp h g46 => ?_)
        have h := h g46
        have K := kq5_tr K hp.2
        exact ⟨h, K⟩
    · intro c47
      have h := h.2 c47
      refine cm_X11_readRain (kq_X11_readRain h) h (fun x48 hp h g49 => ?_)
      have h := h g49
      have K := kq5_tr K hp.2
      exact ⟨h, K⟩
  · intro c50
    have h := h.2 c50
    refine cm_X11_readWorld (kq_X11_readWorld h) h (fun x51 hp h g52 => ?_)
    have h := h g52
    have K := kq5_tr K hp.2
    exact ⟨h, K⟩
theorem kq_X11_readLine {Q : HS → Prop} {v0 : Nat} {S : HS} (h : P_X11_readLine v0 Q S) : P_X11_readLine v0 (fun T => Q T ∧ KQ5 S T) S := kq_X11_readLine_0 h (kq5_rf S)
set_option maxRecDepth 20000 in
set_option maxHeartbeats 1000000 in
theorem kq_X11_readAll_63 {Q : HS → Prop} {v0 : Nat} {S0 S : HS} (h : P_X11_readAll_63 Q v0 S) (K : KQ5 S0 S) : P_X11_readAll_63 (fun T => Q T ∧ KQ5 S0 T) v0 S := by
  delta P_X11_readAll_63 at h ⊢
  obtain ⟨c1, h⟩ := h
  refine ⟨c1, ?_⟩
  have n2 := kq5_ne K c1
  refine cm_X11_flaw (kq_X11_flaw h) h (fun x3 hp h g4 => ?_)
  have h := h g4
  have K := kq5_tr K hp.2
  exact ⟨h, K⟩
set_option maxRecDepth 20000 in
set_option maxHeartbeats 1000000 in
theorem kq_X11_readAll_33 {Q : HS → Prop} {v0 : Nat} {S0 S : HS} (h : P_X11_readAll_33 Q v0 S) (K : KQ5 S0 S) : P_X11_readAll_33 (fun T => Q T ∧ KQ5 S0 T) v0 S := by
  delta P_X11_readAll_33 at h ⊢
  obtain ⟨c1, h⟩ := h
  refine ⟨c1, ?_⟩
  have n2 := kq5_ne K c1
  obtain ⟨b3, e4, h⟩ := h
  refine ⟨b3, e4, ?_⟩
  obtain ⟨c5, h⟩ := h
  refine ⟨c5, ?_⟩
  have n6 := kq5_ne K c5
  intro x8 e7
  have h := h x8 e7
  refine ⟨?_, ?_⟩
  · intro c9
    have h := h.1 c9
    exact kq_X11_readAll_63 h K
  · intro c10
    have h := h.2 c10
    obtain ⟨b11, e12, h⟩ := h
    refine ⟨b11, e12, ?_⟩
    obtain ⟨c13, h⟩ := h
    refine ⟨c13, ?_⟩
    have n14 := kq5_ne K c13
    intro x16 e15
    have h := h x16 e15
    refine ⟨?_, ?_⟩
    · intro c17
      have h := h.1 c17
      exact kq_X11_readAll_63 h K
    · intro c18
      have h := h.2 c18
      obtain ⟨b19, e20, h⟩ := h
      refine ⟨b19, e20, ?_⟩
      obtain ⟨c21, h⟩ := h
      refine ⟨c21, ?_⟩
      have n22 := kq5_ne K c21
      intro x24 e23
      have h := h x24 e23
      refine ⟨?_, ?_⟩
      · intro c25
        have h := h.1 c25
        exact ⟨h, K⟩
      · intro c26
        have h := h.2 c26
        exact kq_X11_readAll_63 h K
set_option maxRecDepth 20000 in
set_option maxHeartbeats 1000000 in
theorem kqB_X11_readAll_2 {Q : HS → Prop} {X2 X2_2 : Nat → Int32 → HS → Prop} {v0 : Nat} {v1 : Int32} {S0 S : HS} (h : B_X11_readAll_2 Q X2 v0 v1 S) (K : KQ5 S0 S) (hX2 : ∀ (u0 : Nat) (u1 : Int32) (u2 : HS), X2 u0 u1 u2 → KQ5 S0 u2 → X2_2 u0 u1 u2) : B_X11_readAll_2 (fun T => Q T ∧ KQ5 S0 T) X2_2 v0 v1 S := by
  delta B_X11_readAll_2 at h ⊢
  refine ⟨?_, ?_⟩
  · intro c1
    have h := h.1 c1
    obtain ⟨c2, h⟩ := h
    refine ⟨c2, ?_⟩
    have n3 := kq5_ne K c2
    intro x5 e4
    have h := h x5 e4
    refine ⟨?_, ?_⟩
    · intro c6
      have h := h.1 c6
      exact kq_X11_readAll_33 h K
    · intro c7
      have h := h.2 c7
      refine cm_X11_flaw (kq_X11_flaw h) h (fun x8 hp h g9 => ?_)
      have h := h g9
      have K := kq5_tr K hp.2
      exact kq_X11_readAll_33 h K
  · intro c10
    have h := h.2 c10
    obtain ⟨c11, h⟩ := h
    refine ⟨c11, ?_⟩
    have n12 := kq5_ne K c11
    refine cm_X11_readLine (kq_X11_readLine h) h (fun x13 hp h g14 => ?_)
    have h := h g14
    have K := kq5_tr K hp.2
    refine cm_X11_eatsSign (kq_X11_eatsSign h) h (fun x15 x16 hp h g17 g18 => ?_)
    have h := h g17 g18
    have K := kq5_tr K hp.2
    exact hX2 _ _ _ h K
theorem kq_X11_readAll_2 {Q : HS → Prop} {v0 : Nat} {v1 : Int32} {S0 S : HS} (h : P_X11_readAll_2 Q v0 v1 S) (K : KQ5 S0 S) : P_X11_readAll_2 (fun T => Q T ∧ KQ5 S0 T) v0 v1 S := h (fun v0 v1 S => KQ5 S0 S → P_X11_readAll_2 (fun T => Q T ∧ KQ5 S0 T) v0 v1 S) (fun v0 v1 S hB K => fd_X11_readAll_2 (kqB_X11_readAll_2 hB K (fun _ _ _ hx K => hx K))) K
set_option maxRecDepth 20000 in
set_option maxHeartbeats 1000000 in
theorem kq_X11_readAll_0 {Q : HS → Prop} {v0 : Nat} {S0 S : HS} (h : P_X11_readAll_0 Q v0 S) (K : KQ5 S0 S) : P_X11_readAll_0 (fun T => Q T ∧ KQ5 S0 T) v0 S := by
  delta P_X11_readAll_0 at h ⊢
  exact kq_X11_readAll_2 h K
theorem kq_X11_readAll {Q : HS → Prop} {v0 : Nat} {S : HS} (h : P_X11_readAll v0 Q S) : P_X11_readAll v0 (fun T => Q T ∧ KQ5 S T) S := kq_X11_readAll_0 h (kq5_rf S)
set_option maxRecDepth 20000 in
set_option maxHeartbeats 1000000 in
theorem kq_X11_size_0 {Q : Int32 → HS → Prop} {v0 : Nat} {v1 : Int32} {S0 S : HS} (h : P_X11_size_0 Q v0 v1 S) (K : KQ5 S0 S) : P_X11_size_0 (fun r T => Q r T ∧ KQ5 S0 T) v0 v1 S := by
  delta P_X11_size_0 at h ⊢
  obtain ⟨c1, h⟩ := h
  refine ⟨c1, ?_⟩
  have n2 := kq5_ne K c1
  intro x4 e3
  have h := h x4 e3
  have K := kq5_I K e3 n2 (by decide)
  refine ⟨?_, ?_⟩
  · intro c5
    have h := h.1 c5
    refine cm_X11_in (kq_X11_in h) h (fun x6 x7 hp h g8 g9 => ?_)
    have h := h g8 g9
    have K := kq5_tr K hp.2
    refine ⟨?_, ?_⟩
    · intro c10
      have h := h.1 c10
      refine ⟨?_, ?_⟩
      · intro c11
        have h := h.1 c11
        exact ⟨h, K⟩
      · intro x12 c13
        have h := h.2 x12 c13
        refine ⟨?_, ?_, ?_, ?_, ?_, ?_, ?_, ?_, ?_, ?_, ?_⟩
        · intro c14
          have h := h.1 c14
          intro x16 e15
          have h := h x16 e15
          exact ⟨h, K⟩
        · intro c17
          have h := h.2.1 c17
          obtain ⟨b18, e19, h⟩ := h
          refine ⟨b18, e19, ?_⟩
          obtain ⟨c20, h⟩ := h
          refine ⟨c20, ?_⟩
          have n21 := kq5_ne K c20
          intro x23 e22
          have h := h x23 e22
          exact ⟨h, K⟩
        · intro c24
          have h := h.2.2.1 c24
          obtain ⟨b25, e26, h⟩ := h
          refine ⟨b25, e26, ?_⟩
          obtain ⟨c27, h⟩ := h
          refine ⟨c27, ?_⟩
          have n28 := kq5_ne K c27
          intro x30 e29
          have h := h x30 e29
          exact ⟨h, K⟩
        · intro c31
          have h := h.2.2.2.1 c31
          obtain ⟨b32, e33, h⟩ := h
          refine ⟨b32, e33, ?_⟩
          obtain ⟨c34, h⟩ := h
          refine ⟨c34, ?_⟩
          have n35 := kq5_ne K c34
          intro x37 e36
          have h := h x37 e36
          exact ⟨h, K⟩
        · intro c38
          have h := h.2.2.2.2.1 c38
          obtain ⟨b39, e40, h⟩ := h
          refine ⟨b39, e40, ?_⟩
          obtain ⟨c41, h⟩ := h
          refine ⟨c41, ?_⟩
          have n42 := kq5_ne K c41
          intro x44 e43
          have h := h x44 e43
          exact ⟨h, K⟩
        · intro c45
          have h := h.2.2.2.2.2.1 c45
          obtain ⟨b46, e47, h⟩ := h
          refine ⟨b46, e47, ?_⟩
          obtain ⟨c48, h⟩ := h
          refine ⟨c48, ?_⟩
          have n49 := kq5_ne K c48
          intro x51 e50
          have h := h x51 e50
          exact ⟨h, K⟩
        · intro c52
          have h := h.2.2.2.2.2.2.1 c52
          obtain ⟨b53, e54, h⟩ := h
          refine ⟨b53, e54, ?_⟩
          obtain ⟨c55, h⟩ := h
          refine ⟨c55, ?_⟩
          have n56 := kq5_ne K c55
          intro x58 e57
          have h := h x58 e57
          exact ⟨h, K⟩
        · intro c59
          have h := h.2.2.2.2.2.2.2.1 c59
          intro x61 e60
          have h := h x61 e60
          exact ⟨h, K⟩
        · intro c62
          have h := h.2.2.2.2.2.2.2.2.1 c62
          refine cm_X11_isDay (kq_X11_isDay h) h (fun x63 x64 hp h g65 g66 => ?_)
          have h := h g65 g66
          have K := kq5_tr K hp.2
          refine ⟨?_, ?_⟩
          · intro c67
            have h := h.1 c67
            exact ⟨h, K⟩
          · intro c68
            have h := h.2 c68
            obtain ⟨b69, e70, h⟩ := h
            refine ⟨b69, e70, ?_⟩
            obtain ⟨c71, h⟩ := h
            refine ⟨c71, ?_⟩
            have n72 := kq5_ne K c71
            obtain ⟨c73, h⟩ := h
            refine ⟨c73, ?_⟩
            intro x75 e74
            have h := h x75 e74
            exact ⟨h, K⟩
        · intro c76
          have h := h.2.2.2.2.2.2.2.2.2.1 c76
          refine cm_X11_isDay (kq_X11_isDay h) h (fun x77 x78 hp h g79 g80 => ?_)
          have h := h g79 g80
          have K := kq5_tr K hp.2
          refine ⟨?_, ?_⟩
          · intro c81
            have h := h.1 c81
            exact ⟨h, K⟩
          · intro c82
            have h := h.2 c82
            obtain ⟨b83, e84, h⟩ := h
            refine ⟨b83, e84, ?_⟩
            obtain ⟨c85, h⟩ := h
            refine ⟨c85, ?_⟩
            have n86 := kq5_ne K c85
            obtain ⟨c87, h⟩ := h
            refine ⟨c87, ?_⟩
            intro x89 e88
            have h := h x89 e88
            exact ⟨h, K⟩
        · intro c90
          have h := h.2.2.2.2.2.2.2.2.2.2 c90
          intro x92 e91
          have h := h x92 e91
          exact ⟨h, K⟩
    · intro c93
      have h := h.2 c93
      exact ⟨h, K⟩
  · intro c94
    have h := h.2 c94
    intro x96 e95
    have h := h x96 e95
    exact ⟨h, K⟩
theorem kq_X11_size {Q : Int32 → HS → Prop} {v0 : Nat} {v1 : Int32} {S : HS} (h : P_X11_size v0 v1 Q S) : P_X11_size v0 v1 (fun r T => Q r T ∧ KQ5 S T) S := kq_X11_size_0 h (kq5_rf S)
set_option maxRecDepth 20000 in
set_option maxHeartbeats 1000000 in
theorem kq_X11_stepOf_117 {Q : Int32 → HS → Prop} {X9 X9_2 : Nat → Int32 → Int32 → Int32 → Int32 → HS → Prop} {v0 : Nat} {v4 : Int32} {v6 : Int32} {v7 : Int32} {s0 : Int32} {S0 S : HS} (h : P_X11_stepOf_117 Q X9 v0 v4 v6 v7 s0 S) (K : KQ5 S0 S) (hX9 : ∀ (u0 : Nat) (u1 : Int32) (u2 : Int32) (u3 : Int32) (u4 : Int32) (u5 : HS), X9 u0 u1 u2 u3 u4 u5 → KQ5 S0 u5 → X9_2 u0 u1 u2 u3 u4 u5) : P_X11_stepOf_117 (fun r T => Q r T ∧ KQ5 S0 T) X9_2 v0 v4 v6 v7 s0 S := by
  delta P_X11_stepOf_117 at h ⊢
  exact hX9 _ _ _ _ _ _ h K
set_option maxRecDepth 20000 in
set_option maxHeartbeats 1000000 in
theorem kq_X11_stepOf_82 {Q : Int32 → HS → Prop} {X9 X9_2 : Nat → Int32 → Int32 → Int32 → Int32 → HS → Prop} {v0 : Nat} {v4 : Int32} {v5 : Int32} {v7 : Int32} {v8 : Int32} {s0 : Int32} {s1 : Int32} {S0 S : HS} (h : P_X11_stepOf_82 Q X9 v0 v4 v5 v7 v8 s0 s1 S) (K : KQ5 S0 S) (hX9 : ∀ (u0 : Nat) (u1 : Int32) (u2 : Int32) (u3 : Int32) (u4 : Int32) (u5 : HS), X9 u0 u1 u2 u3 u4 u5 → KQ5 S0 u5 → X9_2 u0 u1 u2 u3 u4 u5) : P_X11_stepOf_82 (fun r T => Q r T ∧ KQ5 S0 T) X9_2 v0 v4 v5 v7 v8 s0 s1 S := by
  delta P_X11_stepOf_82 at h ⊢
  intro x2 e1
  have h := h x2 e1
  refine ⟨?_, ?_⟩
  · intro c3
    have h := h.1 c3
    obtain ⟨c4, h⟩ := h
    refine ⟨c4, ?_⟩
    have n5 := kq5_ne K c4
    obtain ⟨b6, e7, h⟩ := h
    refine ⟨b6, e7, ?_⟩
    intro x9 e8
    have h := h x9 e8
    intro x11 e10
    have h := h x11 e10
    intro x13 e12
    have h := h x13 e12
    obtain ⟨c14, h⟩ := h
    refine ⟨c14, ?_⟩
    have n15 := kq5_ne K c14
    refine cm_X10_ends (kq_X10_ends h) h (fun x16 x17 hp h g18 => ?_)
    have h := h g18
    have K := kq5_tr K hp.2
    exact kq_X11_stepOf_117 h K hX9
  · intro c19
    have h := h.2 c19
    exact kq_X11_stepOf_117 h K hX9
set_option maxRecDepth 20000 in
set_option maxHeartbeats 1000000 in
theorem kqB_X11_stepOf_9 {Q : Int32 → HS → Prop} {X9 X9_2 : Nat → Int32 → Int32 → Int32 → Int32 → HS → Prop} {v0 : Nat} {v4 : Int32} {v5 : Int32} {v6 : Int32} {v7 : Int32} {S0 S : HS} (h : B_X11_stepOf_9 Q X9 v0 v4 v5 v6 v7 S) (K : KQ5 S0 S) (hX9 : ∀ (u0 : Nat) (u1 : Int32) (u2 : Int32) (u3 : Int32) (u4 : Int32) (u5 : HS), X9 u0 u1 u2 u3 u4 u5 → KQ5 S0 u5 → X9_2 u0 u1 u2 u3 u4 u5) : B_X11_stepOf_9 (fun r T => Q r T ∧ KQ5 S0 T) X9_2 v0 v4 v5 v6 v7 S := by
  delta B_X11_stepOf_9 at h ⊢
  obtain ⟨c1, h⟩ := h
  refine ⟨c1, ?_⟩
  have n2 := kq5_ne K c1
  obtain ⟨b3, e4, h⟩ := h
  refine ⟨b3, e4, ?_⟩
  refine cm_X11_spotOf (kq_X11_spotOf h) h (fun x5 x6 hp h g7 => ?_)
  have h := h g7
  have K := kq5_tr K hp.2
  obtain ⟨c8, h⟩ := h
  refine ⟨c8, ?_⟩
  have n9 := kq5_ne K c8
  obtain ⟨c10, h⟩ := h
  refine ⟨c10, ?_⟩
  intro x12 e11
  have h := h x12 e11
  refine ⟨?_, ?_⟩
  · intro c13
    have h := h.1 c13
    refine ⟨?_, ?_⟩
    · intro c14
      have h := h.1 c14
      exact ⟨h, K⟩
    · intro c15
      have h := h.2 c15
      exact ⟨h, K⟩
  · intro c16
    have h := h.2 c16
    obtain ⟨b17, e18, h⟩ := h
    refine ⟨b17, e18, ?_⟩
    refine cm_X11_spotOf (kq_X11_spotOf h) h (fun x19 x20 hp h g21 => ?_)
    have h := h g21
    have K := kq5_tr K hp.2
    obtain ⟨c22, h⟩ := h
    refine ⟨c22, ?_⟩
    have n23 := kq5_ne K c22
    obtain ⟨c24, h⟩ := h
    refine ⟨c24, ?_⟩
    intro x26 e25
    have h := h x26 e25
    refine ⟨?_, ?_⟩
    · intro c27
      have h := h.1 c27
      intro x29 e28
      have h := h x29 e28
      refine ⟨?_, ?_⟩
      · intro c30
        have h := h.1 c30
        obtain ⟨b31, e32, h⟩ := h
        refine ⟨b31, e32, ?_⟩
        intro x34 e33
        have h := h x34 e33
        intro x36 e35
        have h := h x36 e35
        obtain ⟨c37, h⟩ := h
        refine ⟨c37, ?_⟩
        have n38 := kq5_ne K c37
        refine cm_X10_minutes (kq_X10_minutes h) h (fun x39 x40 hp h g41 => ?_)
        have h := h g41
        have K := kq5_tr K hp.2
        exact kq_X11_stepOf_82 h K hX9
      · intro c42
        have h := h.2 c42
        exact kq_X11_stepOf_82 h K hX9
    · intro c43
      have h := h.2 c43
      exact ⟨h, K⟩
theorem kq_X11_stepOf_9 {Q : Int32 → HS → Prop} {v0 : Nat} {v4 : Int32} {v5 : Int32} {v6 : Int32} {v7 : Int32} {S0 S : HS} (h : P_X11_stepOf_9 Q v0 v4 v5 v6 v7 S) (K : KQ5 S0 S) : P_X11_stepOf_9 (fun r T => Q r T ∧ KQ5 S0 T) v0 v4 v5 v6 v7 S := h (fun v0 v4 v5 v6 v7 S => KQ5 S0 S → P_X11_stepOf_9 (fun r T => Q r T ∧ KQ5 S0 T) v0 v4 v5 v6 v7 S) (fun v0 v4 v5 v6 v7 S hB K => fd_X11_stepOf_9 (kqB_X11_stepOf_9 hB K (fun _ _ _ _ _ _ hx K => hx K))) K
set_option maxRecDepth 20000 in
set_option maxHeartbeats 1000000 in
theorem kq_X11_stepOf_0 {Q : Int32 → HS → Prop} {v0 : Nat} {v2 : Int32} {v3 : Int32} {v4 : Int32} {S0 S : HS} (h : P_X11_stepOf_0 Q v0 v2 v3 v4 S) (K : KQ5 S0 S) : P_X11_stepOf_0 (fun r T => Q r T ∧ KQ5 S0 T) v0 v2 v3 v4 S := by
  delta P_X11_stepOf_0 at h ⊢
  exact kq_X11_stepOf_9 h K
theorem kq_X11_stepOf {Q : Int32 → HS → Prop} {v0 : Nat} {v1 : Int32} {v2 : Int32} {v3 : Int32} {v4 : Int32} {S : HS} (h : P_X11_stepOf v0 v1 v2 v3 v4 Q S) : P_X11_stepOf v0 v1 v2 v3 v4 (fun r T => Q r T ∧ KQ5 S T) S := kq_X11_stepOf_0 h (kq5_rf S)
set_option maxRecDepth 20000 in
set_option maxHeartbeats 1000000 in
theorem kq_X11_trouble_0 {Q : Int32 → HS → Prop} {v0 : Nat} {S0 S : HS} (h : P_X11_trouble_0 Q v0 S) (K : KQ5 S0 S) : P_X11_trouble_0 (fun r T => Q r T ∧ KQ5 S0 T) v0 S := by
  delta P_X11_trouble_0 at h ⊢
  obtain ⟨c1, h⟩ := h
  refine ⟨c1, ?_⟩
  have n2 := kq5_ne K c1
  intro x4 e3
  have h := h x4 e3
  have K := kq5_I K e3 n2 (by decide)
  intro x6 e5
  have h := h x6 e5
  exact ⟨h, K⟩
theorem kq_X11_trouble {Q : Int32 → HS → Prop} {v0 : Nat} {S : HS} (h : P_X11_trouble v0 Q S) : P_X11_trouble v0 (fun r T => Q r T ∧ KQ5 S T) S := kq_X11_trouble_0 h (kq5_rf S)
set_option maxRecDepth 20000 in
set_option maxHeartbeats 1000000 in
theorem kq_X11_where_0 {Q : Int32 → HS → Prop} {v0 : Nat} {S0 S : HS} (h : P_X11_where_0 Q v0 S) (K : KQ5 S0 S) : P_X11_where_0 (fun r T => Q r T ∧ KQ5 S0 T) v0 S := by
  delta P_X11_where_0 at h ⊢
  obtain ⟨c1, h⟩ := h
  refine ⟨c1, ?_⟩
  have n2 := kq5_ne K c1
  intro x4 e3
  have h := h x4 e3
  have K := kq5_I K e3 n2 (by decide)
  intro x6 e5
  have h := h x6 e5
  exact ⟨h, K⟩
theorem kq_X11_where {Q : Int32 → HS → Prop} {v0 : Nat} {S : HS} (h : P_X11_where v0 Q S) : P_X11_where v0 (fun r T => Q r T ∧ KQ5 S T) S := kq_X11_where_0 h (kq5_rf S)
set_option maxRecDepth 20000 in
set_option maxHeartbeats 1000000 in
theorem kq_X5_turnOf_17 {Q : Int32 → HS → Prop} {v2 : Nat} {s0 : Int32} {S0 S : HS} (h : P_X5_turnOf_17 Q v2 s0 S) (K : KQ5 S0 S) : P_X5_turnOf_17 (fun r T => Q r T ∧ KQ5 S0 T) v2 s0 S := by
  delta P_X5_turnOf_17 at h ⊢
  obtain ⟨c1, h⟩ := h
  refine ⟨c1, ?_⟩
  have n2 := kq5_ne K c1
  intro x4 e3
  have h := h x4 e3
  exact ⟨h, K⟩
set_option maxRecDepth 20000 in
set_option maxHeartbeats 1000000 in
theorem kq_X5_turnOf_0 {Q : Int32 → HS → Prop} {v0 : Nat} {v1 : Int32} {v2 : Nat} {S0 S : HS} (h : P_X5_turnOf_0 Q v0 v1 v2 S) (K : KQ5 S0 S) : P_X5_turnOf_0 (fun r T => Q r T ∧ KQ5 S0 T) v0 v1 v2 S := by
  delta P_X5_turnOf_0 at h ⊢
  refine ⟨?_, ?_⟩
  · intro c1
    have h := h.1 c1
    obtain ⟨c2, h⟩ := h
    refine ⟨c2, ?_⟩
    have n3 := kq5_ne K c2
    intro x5 e4
    have h := h x5 e4
    exact kq_X5_turnOf_17 h K
  · intro c6
    have h := h.2 c6
    obtain ⟨c7, h⟩ := h
    refine ⟨c7, ?_⟩
    have n8 := kq5_ne K c7
    intro x10 e9
    have h := h x10 e9
    exact kq_X5_turnOf_17 h K
theorem kq_X5_turnOf {Q : Int32 → HS → Prop} {v0 : Nat} {v1 : Int32} {v2 : Nat} {S : HS} (h : P_X5_turnOf v0 v1 v2 Q S) : P_X5_turnOf v0 v1 v2 (fun r T => Q r T ∧ KQ5 S T) S := kq_X5_turnOf_0 h (kq5_rf S)
set_option maxRecDepth 20000 in
set_option maxHeartbeats 1000000 in
theorem kq_X5_airAlong_0 {Q : Int32 → HS → Prop} {v0 : Nat} {v1 : Int32} {v2 : Nat} {S0 S : HS} (h : P_X5_airAlong_0 Q v0 v1 v2 S) (K : KQ5 S0 S) : P_X5_airAlong_0 (fun r T => Q r T ∧ KQ5 S0 T) v0 v1 v2 S := by
  delta P_X5_airAlong_0 at h ⊢
  obtain ⟨c1, h⟩ := h
  refine ⟨c1, ?_⟩
  have n2 := kq5_ne K c1
  refine cm_X5_turnOf (kq_X5_turnOf h) h (fun x3 x4 hp h g5 => ?_)
  have h := h g5
  have K := kq5_tr K hp.2
  refine ⟨?_, ?_⟩
  · intro c6
    have h := h.1 c6
    refine ⟨?_, ?_⟩
    · intro c7
      have h := h.1 c7
      exact ⟨h, K⟩
    · intro c8
      have h := h.2 c8
      obtain ⟨c9, h⟩ := h
      refine ⟨c9, ?_⟩
      have n10 := kq5_ne K c9
      intro x12 e11
      have h := h x12 e11
      exact ⟨h, K⟩
  · intro c13
    have h := h.2 c13
    obtain ⟨c14, h⟩ := h
    refine ⟨c14, ?_⟩
    have n15 := kq5_ne K c14
    intro x17 e16
    have h := h x17 e16
    exact ⟨h, K⟩
theorem kq_X5_airAlong {Q : Int32 → HS → Prop} {v0 : Nat} {v1 : Int32} {v2 : Nat} {S : HS} (h : P_X5_airAlong v0 v1 v2 Q S) : P_X5_airAlong v0 v1 v2 (fun r T => Q r T ∧ KQ5 S T) S := kq_X5_airAlong_0 h (kq5_rf S)
set_option maxRecDepth 20000 in
set_option maxHeartbeats 1000000 in
theorem kq_X1_lay_130 {Q : HS → Prop} {v0 : Nat} {v3 : Nat} {v7 : Int64} {v9 : Int32} {s0 : Nat} {s1 : Int32} {s2 : Int64} {S0 S : HS} (h : P_X1_lay_130 Q v0 v3 v7 v9 s0 s1 s2 S) (K : KQ5 S0 S) : P_X1_lay_130 (fun T => Q T ∧ KQ5 S0 T) v0 v3 v7 v9 s0 s1 s2 S := by
  delta P_X1_lay_130 at h ⊢
  obtain ⟨c1, h⟩ := h
  refine ⟨c1, ?_⟩
  have n2 := kq5_ne K c1
  obtain ⟨c3, h⟩ := h
  refine ⟨c3, ?_⟩
  intro x5 e4
  have h := h x5 e4
  have K := kq5_J K e4
  obtain ⟨c6, h⟩ := h
  refine ⟨c6, ?_⟩
  have n7 := kq5_ne K c6
  obtain ⟨b8, e9, h⟩ := h
  refine ⟨b8, e9, ?_⟩
  refine ⟨?_, ?_⟩
  · intro c10
    have h := h.1 c10
    obtain ⟨c11, h⟩ := h
    refine ⟨c11, ?_⟩
    have n12 := kq5_ne K c11
    obtain ⟨c13, h⟩ := h
    refine ⟨c13, ?_⟩
    intro x15 e14
    have h := h x15 e14
    have K := kq5_J K e14
    exact ⟨h, K⟩
  · intro c16
    have h := h.2 c16
    obtain ⟨c17, h⟩ := h
    refine ⟨c17, ?_⟩
    have n18 := kq5_ne K c17
    intro x20 e19
    have h := h x20 e19
    obtain ⟨c21, h⟩ := h
    refine ⟨c21, ?_⟩
    have n22 := kq5_ne K c21
    intro x24 e23
    have h := h x24 e23
    obtain ⟨c25, h⟩ := h
    refine ⟨c25, ?_⟩
    intro x27 e26
    have h := h x27 e26
    have K := kq5_J K e26
    exact ⟨h, K⟩
set_option maxRecDepth 20000 in
set_option maxHeartbeats 1000000 in
theorem kq_X1_lay_27 {Q : HS → Prop} {v0 : Nat} {v1 : Nat} {v2 : Int32} {v3 : Nat} {v4 : Int32} {s0 : Int64} {S0 S : HS} (h : P_X1_lay_27 Q v0 v1 v2 v3 v4 s0 S) (K : KQ5 S0 S) : P_X1_lay_27 (fun T => Q T ∧ KQ5 S0 T) v0 v1 v2 v3 v4 s0 S := by
  delta P_X1_lay_27 at h ⊢
  obtain ⟨c1, h⟩ := h
  refine ⟨c1, ?_⟩
  have n2 := kq5_ne K c1
  intro x4 e3
  have h := h x4 e3
  intro x6 e5
  have h := h x6 e5
  obtain ⟨c7, h⟩ := h
  refine ⟨c7, ?_⟩
  have n8 := kq5_ne K c7
  refine cm_X5_turnOf (kq_X5_turnOf h) h (fun x9 x10 hp h g11 => ?_)
  have h := h g11
  have K := kq5_tr K hp.2
  refine cm_X5_airAlong (kq_X5_airAlong h) h (fun x12 x13 hp h g14 => ?_)
  have h := h g14
  have K := kq5_tr K hp.2
  obtain ⟨c15, h⟩ := h
  refine ⟨c15, ?_⟩
  have n16 := kq5_ne K c15
  obtain ⟨b17, e18, h⟩ := h
  refine ⟨b17, e18, ?_⟩
  intro x20 e19
  have h := h x20 e19
  obtain ⟨c21, h⟩ := h
  refine ⟨c21, ?_⟩
  have n22 := kq5_ne K c21
  intro x24 e23
  have h := h x24 e23
  obtain ⟨c25, h⟩ := h
  refine ⟨c25, ?_⟩
  intro x27 e26
  have h := h x27 e26
  have K := kq5_J K e26
  obtain ⟨b28, e29, h⟩ := h
  refine ⟨b28, e29, ?_⟩
  intro x31 e30
  have h := h x31 e30
  obtain ⟨c32, h⟩ := h
  refine ⟨c32, ?_⟩
  have n33 := kq5_ne K c32
  intro x35 e34
  have h := h x35 e34
  obtain ⟨c36, h⟩ := h
  refine ⟨c36, ?_⟩
  intro x38 e37
  have h := h x38 e37
  have K := kq5_J K e37
  obtain ⟨b39, e40, h⟩ := h
  refine ⟨b39, e40, ?_⟩
  intro x42 e41
  have h := h x42 e41
  obtain ⟨c43, h⟩ := h
  refine ⟨c43, ?_⟩
  have n44 := kq5_ne K c43
  intro x46 e45
  have h := h x46 e45
  obtain ⟨c47, h⟩ := h
  refine ⟨c47, ?_⟩
  intro x49 e48
  have h := h x49 e48
  have K := kq5_J K e48
  obtain ⟨b50, e51, h⟩ := h
  refine ⟨b50, e51, ?_⟩
  refine ⟨?_, ?_⟩
  · intro c52
    have h := h.1 c52
    exact kq_X1_lay_130 h K
  · intro c53
    have h := h.2 c53
    intro x55 e54
    have h := h x55 e54
    exact kq_X1_lay_130 h K
set_option maxRecDepth 20000 in
set_option maxHeartbeats 1000000 in
theorem kq_X1_lay_0 {Q : HS → Prop} {v0 : Nat} {v1 : Nat} {v2 : Int32} {v3 : Nat} {v4 : Int32} {S0 S : HS} (h : P_X1_lay_0 Q v0 v1 v2 v3 v4 S) (K : KQ5 S0 S) : P_X1_lay_0 (fun T => Q T ∧ KQ5 S0 T) v0 v1 v2 v3 v4 S := by
  delta P_X1_lay_0 at h ⊢
  refine ⟨?_, ?_⟩
  · intro c1
    have h := h.1 c1
    exact kq_X1_lay_27 h K
  · intro c2
    have h := h.2 c2
    obtain ⟨c3, h⟩ := h
    refine ⟨c3, ?_⟩
    have n4 := kq5_ne K c3
    intro x6 e5
    have h := h x6 e5
    intro x8 e7
    have h := h x8 e7
    obtain ⟨c9, h⟩ := h
    refine ⟨c9, ?_⟩
    intro x11 e10
    have h := h x11 e10
    exact kq_X1_lay_27 h K
theorem kq_X1_lay {Q : HS → Prop} {v0 : Nat} {v1 : Nat} {v2 : Int32} {v3 : Nat} {v4 : Int32} {S : HS} (h : P_X1_lay v0 v1 v2 v3 v4 Q S) : P_X1_lay v0 v1 v2 v3 v4 (fun T => Q T ∧ KQ5 S T) S := kq_X1_lay_0 h (kq5_rf S)
set_option maxRecDepth 20000 in
set_option maxHeartbeats 1000000 in
theorem kq_X6_shield_0 {Q : Int32 → HS → Prop} {v0 : Nat} {S0 S : HS} (h : P_X6_shield_0 Q v0 S) (K : KQ5 S0 S) : P_X6_shield_0 (fun r T => Q r T ∧ KQ5 S0 T) v0 S := by
  delta P_X6_shield_0 at h ⊢
  obtain ⟨c1, h⟩ := h
  refine ⟨c1, ?_⟩
  have n2 := kq5_ne K c1
  intro x4 e3
  have h := h x4 e3
  refine ⟨?_, ?_⟩
  · intro c5
    have h := h.1 c5
    exact ⟨h, K⟩
  · intro c6
    have h := h.2 c6
    intro x8 e7
    have h := h x8 e7
    exact ⟨h, K⟩
theorem kq_X6_shield {Q : Int32 → HS → Prop} {v0 : Nat} {S : HS} (h : P_X6_shield v0 Q S) : P_X6_shield v0 (fun r T => Q r T ∧ KQ5 S T) S := kq_X6_shield_0 h (kq5_rf S)
set_option maxRecDepth 20000 in
set_option maxHeartbeats 1000000 in
theorem kq_X1_isForward_0 {Q : Int32 → HS → Prop} {v0 : Nat} {v1 : Nat} {S0 S : HS} (h : P_X1_isForward_0 Q v0 v1 S) (K : KQ5 S0 S) : P_X1_isForward_0 (fun r T => Q r T ∧ KQ5 S0 T) v0 v1 S := by
  delta P_X1_isForward_0 at h ⊢
  obtain ⟨c1, h⟩ := h
  refine ⟨c1, ?_⟩
  have n2 := kq5_ne K c1
  obtain ⟨b3, e4, h⟩ := h
  refine ⟨b3, e4, ?_⟩
  obtain ⟨c5, h⟩ := h
  refine ⟨c5, ?_⟩
  have n6 := kq5_ne K c5
  obtain ⟨c7, h⟩ := h
  refine ⟨c7, ?_⟩
  intro x9 e8
  have h := h x9 e8
  obtain ⟨c10, h⟩ := h
  refine ⟨c10, ?_⟩
  have n11 := kq5_ne K c10
  refine cm_X6_shield (kq_X6_shield h) h (fun x12 x13 hp h g14 => ?_)
  have h := h g14
  have K := kq5_tr K hp.2
  intro x16 e15
  have h := h x16 e15
  intro x18 e17
  have h := h x18 e17
  intro x20 e19
  have h := h x20 e19
  obtain ⟨b21, e22, h⟩ := h
  refine ⟨b21, e22, ?_⟩
  obtain ⟨c23, h⟩ := h
  refine ⟨c23, ?_⟩
  have n24 := kq5_ne K c23
  obtain ⟨c25, h⟩ := h
  refine ⟨c25, ?_⟩
  intro x27 e26
  have h := h x27 e26
  refine cm_X6_shield (kq_X6_shield h) h (fun x28 x29 hp h g30 => ?_)
  have h := h g30
  have K := kq5_tr K hp.2
  intro x32 e31
  have h := h x32 e31
  intro x34 e33
  have h := h x34 e33
  intro x36 e35
  have h := h x36 e35
  refine ⟨?_, ?_⟩
  · intro c37
    have h := h.1 c37
    exact ⟨h, K⟩
  · intro c38
    have h := h.2 c38
    exact ⟨h, K⟩
theorem kq_X1_isForward {Q : Int32 → HS → Prop} {v0 : Nat} {v1 : Nat} {S : HS} (h : P_X1_isForward v0 v1 Q S) : P_X1_isForward v0 v1 (fun r T => Q r T ∧ KQ5 S T) S := kq_X1_isForward_0 h (kq5_rf S)
set_option maxRecDepth 20000 in
set_option maxHeartbeats 1000000 in
theorem kq_X1_soak_35 {Q : Int64 → HS → Prop} {v0 : Nat} {v1 : Nat} {v2 : Int32} {v3 : Int32} {v5 : Int32} {s0 : Int32} {S0 S : HS} (h : P_X1_soak_35 Q v0 v1 v2 v3 v5 s0 S) (K : KQ5 S0 S) : P_X1_soak_35 (fun r T => Q r T ∧ KQ5 S0 T) v0 v1 v2 v3 v5 s0 S := by
  delta P_X1_soak_35 at h ⊢
  obtain ⟨c1, h⟩ := h
  refine ⟨c1, ?_⟩
  have n2 := kq5_ne K c1
  obtain ⟨b3, e4, h⟩ := h
  refine ⟨b3, e4, ?_⟩
  obtain ⟨b5, e6, h⟩ := h
  refine ⟨b5, e6, ?_⟩
  obtain ⟨c7, h⟩ := h
  refine ⟨c7, ?_⟩
  have n8 := kq5_ne K c7
  obtain ⟨c9, h⟩ := h
  refine ⟨c9, ?_⟩
  intro x11 e10
  have h := h x11 e10
  obtain ⟨c12, h⟩ := h
  refine ⟨c12, ?_⟩
  have n13 := kq5_ne K c12
  intro x15 e14
  have h := h x15 e14
  intro x17 e16
  have h := h x17 e16
  obtain ⟨c18, h⟩ := h
  refine ⟨c18, ?_⟩
  have n19 := kq5_ne K c18
  intro x21 e20
  have h := h x21 e20
  obtain ⟨c22, h⟩ := h
  refine ⟨c22, ?_⟩
  intro x24 e23
  have h := h x24 e23
  have K := kq5_J K e23
  obtain ⟨b25, e26, h⟩ := h
  refine ⟨b25, e26, ?_⟩
  obtain ⟨b27, e28, h⟩ := h
  refine ⟨b27, e28, ?_⟩
  obtain ⟨c29, h⟩ := h
  refine ⟨c29, ?_⟩
  have n30 := kq5_ne K c29
  obtain ⟨c31, h⟩ := h
  refine ⟨c31, ?_⟩
  intro x33 e32
  have h := h x33 e32
  intro x35 e34
  have h := h x35 e34
  intro x37 e36
  have h := h x37 e36
  obtain ⟨c38, h⟩ := h
  refine ⟨c38, ?_⟩
  have n39 := kq5_ne K c38
  intro x41 e40
  have h := h x41 e40
  obtain ⟨c42, h⟩ := h
  refine ⟨c42, ?_⟩
  intro x44 e43
  have h := h x44 e43
  have K := kq5_J K e43
  obtain ⟨b45, e46, h⟩ := h
  refine ⟨b45, e46, ?_⟩
  obtain ⟨b47, e48, h⟩ := h
  refine ⟨b47, e48, ?_⟩
  obtain ⟨c49, h⟩ := h
  refine ⟨c49, ?_⟩
  have n50 := kq5_ne K c49
  obtain ⟨c51, h⟩ := h
  refine ⟨c51, ?_⟩
  intro x53 e52
  have h := h x53 e52
  intro x55 e54
  have h := h x55 e54
  intro x57 e56
  have h := h x57 e56
  obtain ⟨c58, h⟩ := h
  refine ⟨c58, ?_⟩
  have n59 := kq5_ne K c58
  intro x61 e60
  have h := h x61 e60
  obtain ⟨c62, h⟩ := h
  refine ⟨c62, ?_⟩
  intro x64 e63
  have h := h x64 e63
  have K := kq5_J K e63
  obtain ⟨b65, e66, h⟩ := h
  refine ⟨b65, e66, ?_⟩
  obtain ⟨b67, e68, h⟩ := h
  refine ⟨b67, e68, ?_⟩
  obtain ⟨c69, h⟩ := h
  refine ⟨c69, ?_⟩
  have n70 := kq5_ne K c69
  obtain ⟨c71, h⟩ := h
  refine ⟨c71, ?_⟩
  intro x73 e72
  have h := h x73 e72
  intro x75 e74
  have h := h x75 e74
  obtain ⟨c76, h⟩ := h
  refine ⟨c76, ?_⟩
  have n77 := kq5_ne K c76
  intro x79 e78
  have h := h x79 e78
  obtain ⟨c80, h⟩ := h
  refine ⟨c80, ?_⟩
  intro x82 e81
  have h := h x82 e81
  have K := kq5_J K e81
  obtain ⟨b83, e84, h⟩ := h
  refine ⟨b83, e84, ?_⟩
  obtain ⟨b85, e86, h⟩ := h
  refine ⟨b85, e86, ?_⟩
  obtain ⟨c87, h⟩ := h
  refine ⟨c87, ?_⟩
  have n88 := kq5_ne K c87
  obtain ⟨c89, h⟩ := h
  refine ⟨c89, ?_⟩
  intro x91 e90
  have h := h x91 e90
  intro x93 e92
  have h := h x93 e92
  obtain ⟨c94, h⟩ := h
  refine ⟨c94, ?_⟩
  have n95 := kq5_ne K c94
  intro x97 e96
  have h := h x97 e96
  obtain ⟨c98, h⟩ := h
  refine ⟨c98, ?_⟩
  intro x100 e99
  have h := h x100 e99
  have K := kq5_J K e99
  obtain ⟨b101, e102, h⟩ := h
  refine ⟨b101, e102, ?_⟩
  obtain ⟨c103, h⟩ := h
  refine ⟨c103, ?_⟩
  have n104 := kq5_ne K c103
  obtain ⟨c105, h⟩ := h
  refine ⟨c105, ?_⟩
  intro x107 e106
  have h := h x107 e106
  obtain ⟨b108, e109, h⟩ := h
  refine ⟨b108, e109, ?_⟩
  obtain ⟨c110, h⟩ := h
  refine ⟨c110, ?_⟩
  have n111 := kq5_ne K c110
  obtain ⟨c112, h⟩ := h
  refine ⟨c112, ?_⟩
  intro x114 e113
  have h := h x114 e113
  obtain ⟨b115, e116, h⟩ := h
  refine ⟨b115, e116, ?_⟩
  obtain ⟨c117, h⟩ := h
  refine ⟨c117, ?_⟩
  have n118 := kq5_ne K c117
  obtain ⟨c119, h⟩ := h
  refine ⟨c119, ?_⟩
  intro x121 e120
  have h := h x121 e120
  obtain ⟨b122, e123, h⟩ := h
  refine ⟨b122, e123, ?_⟩
  obtain ⟨c124, h⟩ := h
  refine ⟨c124, ?_⟩
  have n125 := kq5_ne K c124
  obtain ⟨c126, h⟩ := h
  refine ⟨c126, ?_⟩
  intro x128 e127
  have h := h x128 e127
  obtain ⟨b129, e130, h⟩ := h
  refine ⟨b129, e130, ?_⟩
  obtain ⟨c131, h⟩ := h
  refine ⟨c131, ?_⟩
  have n132 := kq5_ne K c131
  obtain ⟨c133, h⟩ := h
  refine ⟨c133, ?_⟩
  intro x135 e134
  have h := h x135 e134
  exact ⟨h, K⟩
set_option maxRecDepth 20000 in
set_option maxHeartbeats 1000000 in
theorem kq_X1_soak_20 {Q : Int64 → HS → Prop} {v0 : Nat} {v1 : Nat} {v2 : Int32} {v3 : Int32} {v4 : Int32} {s0 : Int32} {S0 S : HS} (h : P_X1_soak_20 Q v0 v1 v2 v3 v4 s0 S) (K : KQ5 S0 S) : P_X1_soak_20 (fun r T => Q r T ∧ KQ5 S0 T) v0 v1 v2 v3 v4 s0 S := by
  delta P_X1_soak_20 at h ⊢
  refine ⟨?_, ?_⟩
  · intro c1
    have h := h.1 c1
    exact kq_X1_soak_35 h K
  · intro c2
    have h := h.2 c2
    obtain ⟨c3, h⟩ := h
    refine ⟨c3, ?_⟩
    have n4 := kq5_ne K c3
    refine cm_X6_shield (kq_X6_shield h) h (fun x5 x6 hp h g7 => ?_)
    have h := h g7
    have K := kq5_tr K hp.2
    exact kq_X1_soak_35 h K
set_option maxRecDepth 20000 in
set_option maxHeartbeats 1000000 in
theorem kq_X1_soak_0 {Q : Int64 → HS → Prop} {v0 : Nat} {v1 : Nat} {v2 : Int32} {v3 : Int32} {S0 S : HS} (h : P_X1_soak_0 Q v0 v1 v2 v3 S) (K : KQ5 S0 S) : P_X1_soak_0 (fun r T => Q r T ∧ KQ5 S0 T) v0 v1 v2 v3 S := by
  delta P_X1_soak_0 at h ⊢
  obtain ⟨c1, h⟩ := h
  refine ⟨c1, ?_⟩
  have n2 := kq5_ne K c1
  refine cm_X1_isForward (kq_X1_isForward h) h (fun x3 x4 hp h g5 g6 => ?_)
  have h := h g5 g6
  have K := kq5_tr K hp.2
  refine ⟨?_, ?_⟩
  · intro c7
    have h := h.1 c7
    obtain ⟨c8, h⟩ := h
    refine ⟨c8, ?_⟩
    have n9 := kq5_ne K c8
    refine cm_X6_shield (kq_X6_shield h) h (fun x10 x11 hp h g12 => ?_)
    have h := h g12
    have K := kq5_tr K hp.2
    exact kq_X1_soak_20 h K
  · intro c13
    have h := h.2 c13
    exact kq_X1_soak_20 h K
theorem kq_X1_soak {Q : Int64 → HS → Prop} {v0 : Nat} {v1 : Nat} {v2 : Int32} {v3 : Int32} {S : HS} (h : P_X1_soak v0 v1 v2 v3 Q S) : P_X1_soak v0 v1 v2 v3 (fun r T => Q r T ∧ KQ5 S T) S := kq_X1_soak_0 h (kq5_rf S)
set_option maxRecDepth 20000 in
set_option maxHeartbeats 1000000 in
theorem kq_X1_wetOf_0 {Q : Int64 → HS → Prop} {v0 : Nat} {v1 : Nat} {v2 : Nat} {v3 : Int32} {v4 : Nat} {v5 : Int32} {S0 S : HS} (h : P_X1_wetOf_0 Q v0 v1 v2 v3 v4 v5 S) (K : KQ5 S0 S) : P_X1_wetOf_0 (fun r T => Q r T ∧ KQ5 S0 T) v0 v1 v2 v3 v4 v5 S := by
  delta P_X1_wetOf_0 at h ⊢
  obtain ⟨c1, h⟩ := h
  refine ⟨c1, ?_⟩
  have n2 := kq5_ne K c1
  refine cm_X1_lay (kq_X1_lay h) h (fun x3 hp h g4 => ?_)
  have h := h g4
  have K := kq5_tr K hp.2
  refine cm_X1_soak (kq_X1_soak h) h (fun x5 x6 hp h g7 => ?_)
  have h := h g7
  have K := kq5_tr K hp.2
  exact ⟨h, K⟩
theorem kq_X1_wetOf {Q : Int64 → HS → Prop} {v0 : Nat} {v1 : Nat} {v2 : Nat} {v3 : Int32} {v4 : Nat} {v5 : Int32} {S : HS} (h : P_X1_wetOf v0 v1 v2 v3 v4 v5 Q S) : P_X1_wetOf v0 v1 v2 v3 v4 v5 (fun r T => Q r T ∧ KQ5 S T) S := kq_X1_wetOf_0 h (kq5_rf S)
set_option maxRecDepth 20000 in
set_option maxHeartbeats 1000000 in
theorem kq_X1_bestSpeed_55 {Q : Int32 → HS → Prop} {X17 X17_2 : Nat → Nat → Nat → Int32 → Nat → Int32 → Int64 → Int32 → HS → Prop} {v0 : Nat} {v1 : Nat} {v2 : Nat} {v3 : Int32} {v4 : Nat} {v5 : Int32} {v6 : Int64} {v8 : Int32} {S0 S : HS} (h : P_X1_bestSpeed_55 Q X17 v0 v1 v2 v3 v4 v5 v6 v8 S) (K : KQ5 S0 S) (hX17 : ∀ (u0 : Nat) (u1 : Nat) (u2 : Nat) (u3 : Int32) (u4 : Nat) (u5 : Int32) (u6 : Int64) (u7 : Int32) (u8 : HS), X17 u0 u1 u2 u3 u4 u5 u6 u7 u8 → KQ5 S0 u8 → X17_2 u0 u1 u2 u3 u4 u5 u6 u7 u8) : P_X1_bestSpeed_55 (fun r T => Q r T ∧ KQ5 S0 T) X17_2 v0 v1 v2 v3 v4 v5 v6 v8 S := by
  delta P_X1_bestSpeed_55 at h ⊢
  intro x2 e1
  have h := h x2 e1
  exact hX17 _ _ _ _ _ _ _ _ _ h K
set_option maxRecDepth 20000 in
set_option maxHeartbeats 1000000 in
theorem kqB_X1_bestSpeed_17 {Q : Int32 → HS → Prop} {X17 X17_2 : Nat → Nat → Nat → Int32 → Nat → Int32 → Int64 → Int32 → HS → Prop} {v0 : Nat} {v1 : Nat} {v2 : Nat} {v3 : Int32} {v4 : Nat} {v5 : Int32} {v6 : Int64} {v8 : Int32} {S0 S : HS} (h : B_X1_bestSpeed_17 Q X17 v0 v1 v2 v3 v4 v5 v6 v8 S) (K : KQ5 S0 S) (hX17 : ∀ (u0 : Nat) (u1 : Nat) (u2 : Nat) (u3 : Int32) (u4 : Nat) (u5 : Int32) (u6 : Int64) (u7 : Int32) (u8 : HS), X17 u0 u1 u2 u3 u4 u5 u6 u7 u8 → KQ5 S0 u8 → X17_2 u0 u1 u2 u3 u4 u5 u6 u7 u8) : B_X1_bestSpeed_17 (fun r T => Q r T ∧ KQ5 S0 T) X17_2 v0 v1 v2 v3 v4 v5 v6 v8 S := by
  delta B_X1_bestSpeed_17 at h ⊢
  obtain ⟨c1, h⟩ := h
  refine ⟨c1, ?_⟩
  have n2 := kq5_ne K c1
  intro x4 e3
  have h := h x4 e3
  refine ⟨?_, ?_⟩
  · intro c5
    have h := h.1 c5
    exact ⟨h, K⟩
  · intro c6
    have h := h.2 c6
    obtain ⟨c7, h⟩ := h
    refine ⟨c7, ?_⟩
    have n8 := kq5_ne K c7
    refine cm_X1_wetOf (kq_X1_wetOf h) h (fun x9 x10 hp h g11 => ?_)
    have h := h g11
    have K := kq5_tr K hp.2
    refine ⟨?_, ?_⟩
    · intro c12
      have h := h.1 c12
      exact kq_X1_bestSpeed_55 h K hX17
    · intro c13
      have h := h.2 c13
      exact kq_X1_bestSpeed_55 h K hX17
theorem kq_X1_bestSpeed_17 {Q : Int32 → HS → Prop} {v0 : Nat} {v1 : Nat} {v2 : Nat} {v3 : Int32} {v4 : Nat} {v5 : Int32} {v6 : Int64} {v8 : Int32} {S0 S : HS} (h : P_X1_bestSpeed_17 Q v0 v1 v2 v3 v4 v5 v6 v8 S) (K : KQ5 S0 S) : P_X1_bestSpeed_17 (fun r T => Q r T ∧ KQ5 S0 T) v0 v1 v2 v3 v4 v5 v6 v8 S := h (fun v0 v1 v2 v3 v4 v5 v6 v8 S => KQ5 S0 S → P_X1_bestSpeed_17 (fun r T => Q r T ∧ KQ5 S0 T) v0 v1 v2 v3 v4 v5 v6 v8 S) (fun v0 v1 v2 v3 v4 v5 v6 v8 S hB K => fd_X1_bestSpeed_17 (kqB_X1_bestSpeed_17 hB K (fun _ _ _ _ _ _ _ _ _ hx K => hx K))) K
set_option maxRecDepth 20000 in
set_option maxHeartbeats 1000000 in
theorem kq_X1_bestSpeed_0 {Q : Int32 → HS → Prop} {v0 : Nat} {v1 : Nat} {v2 : Nat} {v3 : Int32} {v4 : Nat} {S0 S : HS} (h : P_X1_bestSpeed_0 Q v0 v1 v2 v3 v4 S) (K : KQ5 S0 S) : P_X1_bestSpeed_0 (fun r T => Q r T ∧ KQ5 S0 T) v0 v1 v2 v3 v4 S := by
  delta P_X1_bestSpeed_0 at h ⊢
  obtain ⟨c1, h⟩ := h
  refine ⟨c1, ?_⟩
  have n2 := kq5_ne K c1
  intro x4 e3
  have h := h x4 e3
  intro x6 e5
  have h := h x6 e5
  exact kq_X1_bestSpeed_17 h K
theorem kq_X1_bestSpeed {Q : Int32 → HS → Prop} {v0 : Nat} {v1 : Nat} {v2 : Nat} {v3 : Int32} {v4 : Nat} {S : HS} (h : P_X1_bestSpeed v0 v1 v2 v3 v4 Q S) : P_X1_bestSpeed v0 v1 v2 v3 v4 (fun r T => Q r T ∧ KQ5 S T) S := kq_X1_bestSpeed_0 h (kq5_rf S)
set_option maxRecDepth 20000 in
set_option maxHeartbeats 1000000 in
theorem kq_X1_legsOf_0 {Q : Int32 → HS → Prop} {v0 : Nat} {S0 S : HS} (h : P_X1_legsOf_0 Q v0 S) (K : KQ5 S0 S) : P_X1_legsOf_0 (fun r T => Q r T ∧ KQ5 S0 T) v0 S := by
  delta P_X1_legsOf_0 at h ⊢
  obtain ⟨c1, h⟩ := h
  refine ⟨c1, ?_⟩
  have n2 := kq5_ne K c1
  intro x4 e3
  have h := h x4 e3
  intro x6 e5
  have h := h x6 e5
  exact ⟨h, K⟩
theorem kq_X1_legsOf {Q : Int32 → HS → Prop} {v0 : Nat} {S : HS} (h : P_X1_legsOf v0 Q S) : P_X1_legsOf v0 (fun r T => Q r T ∧ KQ5 S T) S := kq_X1_legsOf_0 h (kq5_rf S)
set_option maxRecDepth 20000 in
set_option maxHeartbeats 1000000 in
theorem kq_X6_canGo_0 {Q : Int32 → HS → Prop} {v0 : Nat} {v1 : Int32} {S0 S : HS} (h : P_X6_canGo_0 Q v0 v1 S) (K : KQ5 S0 S) : P_X6_canGo_0 (fun r T => Q r T ∧ KQ5 S0 T) v0 v1 S := by
  delta P_X6_canGo_0 at h ⊢
  obtain ⟨c1, h⟩ := h
  refine ⟨c1, ?_⟩
  have n2 := kq5_ne K c1
  intro x4 e3
  have h := h x4 e3
  refine ⟨?_, ?_⟩
  · intro c5
    have h := h.1 c5
    exact ⟨h, K⟩
  · intro c6
    have h := h.2 c6
    intro x8 e7
    have h := h x8 e7
    refine ⟨?_, ?_⟩
    · intro c9
      have h := h.1 c9
      exact ⟨h, K⟩
    · intro c10
      have h := h.2 c10
      refine ⟨?_, ?_⟩
      · intro c11
        have h := h.1 c11
        exact ⟨h, K⟩
      · intro c12
        have h := h.2 c12
        refine ⟨?_, ?_⟩
        · intro c13
          have h := h.1 c13
          exact ⟨h, K⟩
        · intro c14
          have h := h.2 c14
          exact ⟨h, K⟩
theorem kq_X6_canGo {Q : Int32 → HS → Prop} {v0 : Nat} {v1 : Int32} {S : HS} (h : P_X6_canGo v0 v1 Q S) : P_X6_canGo v0 v1 (fun r T => Q r T ∧ KQ5 S T) S := kq_X6_canGo_0 h (kq5_rf S)
set_option maxRecDepth 20000 in
set_option maxHeartbeats 1000000 in
theorem kq_X8_hasRoad_0 {Q : Int32 → HS → Prop} {v0 : Nat} {v1 : Int32} {S0 S : HS} (h : P_X8_hasRoad_0 Q v0 v1 S) (K : KQ5 S0 S) : P_X8_hasRoad_0 (fun r T => Q r T ∧ KQ5 S0 T) v0 v1 S := by
  delta P_X8_hasRoad_0 at h ⊢
  refine ⟨?_, ?_⟩
  · intro c1
    have h := h.1 c1
    exact ⟨h, K⟩
  · intro c2
    have h := h.2 c2
    obtain ⟨c3, h⟩ := h
    refine ⟨c3, ?_⟩
    have n4 := kq5_ne K c3
    intro x6 e5
    have h := h x6 e5
    refine ⟨?_, ?_⟩
    · intro c7
      have h := h.1 c7
      exact ⟨h, K⟩
    · intro c8
      have h := h.2 c8
      obtain ⟨b9, e10, h⟩ := h
      refine ⟨b9, e10, ?_⟩
      obtain ⟨c11, h⟩ := h
      refine ⟨c11, ?_⟩
      have n12 := kq5_ne K c11
      refine ⟨?_, ?_⟩
      · intro c13
        have h := h.1 c13
        exact ⟨h, K⟩
      · intro c14
        have h := h.2 c14
        exact ⟨h, K⟩
theorem kq_X8_hasRoad {Q : Int32 → HS → Prop} {v0 : Nat} {v1 : Int32} {S : HS} (h : P_X8_hasRoad v0 v1 Q S) : P_X8_hasRoad v0 v1 (fun r T => Q r T ∧ KQ5 S T) S := kq_X8_hasRoad_0 h (kq5_rf S)
set_option maxRecDepth 20000 in
set_option maxHeartbeats 1000000 in
theorem kq_X8_hasSeen_0 {Q : Int32 → HS → Prop} {v0 : Nat} {v1 : Int32} {S0 S : HS} (h : P_X8_hasSeen_0 Q v0 v1 S) (K : KQ5 S0 S) : P_X8_hasSeen_0 (fun r T => Q r T ∧ KQ5 S0 T) v0 v1 S := by
  delta P_X8_hasSeen_0 at h ⊢
  refine ⟨?_, ?_⟩
  · intro c1
    have h := h.1 c1
    exact ⟨h, K⟩
  · intro c2
    have h := h.2 c2
    obtain ⟨c3, h⟩ := h
    refine ⟨c3, ?_⟩
    have n4 := kq5_ne K c3
    intro x6 e5
    have h := h x6 e5
    refine ⟨?_, ?_⟩
    · intro c7
      have h := h.1 c7
      exact ⟨h, K⟩
    · intro c8
      have h := h.2 c8
      obtain ⟨b9, e10, h⟩ := h
      refine ⟨b9, e10, ?_⟩
      obtain ⟨c11, h⟩ := h
      refine ⟨c11, ?_⟩
      have n12 := kq5_ne K c11
      refine ⟨?_, ?_⟩
      · intro c13
        have h := h.1 c13
        exact ⟨h, K⟩
      · intro c14
        have h := h.2 c14
        exact ⟨h, K⟩
theorem kq_X8_hasSeen {Q : Int32 → HS → Prop} {v0 : Nat} {v1 : Int32} {S : HS} (h : P_X8_hasSeen v0 v1 Q S) : P_X8_hasSeen v0 v1 (fun r T => Q r T ∧ KQ5 S T) S := kq_X8_hasSeen_0 h (kq5_rf S)
set_option maxRecDepth 20000 in
set_option maxHeartbeats 1000000 in
theorem kq_X8_hasWalker_0 {Q : Int32 → HS → Prop} {v0 : Nat} {v1 : Int32} {S0 S : HS} (h : P_X8_hasWalker_0 Q v0 v1 S) (K : KQ5 S0 S) : P_X8_hasWalker_0 (fun r T => Q r T ∧ KQ5 S0 T) v0 v1 S := by
  delta P_X8_hasWalker_0 at h ⊢
  refine ⟨?_, ?_⟩
  · intro c1
    have h := h.1 c1
    exact ⟨h, K⟩
  · intro c2
    have h := h.2 c2
    obtain ⟨c3, h⟩ := h
    refine ⟨c3, ?_⟩
    have n4 := kq5_ne K c3
    intro x6 e5
    have h := h x6 e5
    refine ⟨?_, ?_⟩
    · intro c7
      have h := h.1 c7
      exact ⟨h, K⟩
    · intro c8
      have h := h.2 c8
      obtain ⟨b9, e10, h⟩ := h
      refine ⟨b9, e10, ?_⟩
      obtain ⟨c11, h⟩ := h
      refine ⟨c11, ?_⟩
      have n12 := kq5_ne K c11
      refine ⟨?_, ?_⟩
      · intro c13
        have h := h.1 c13
        exact ⟨h, K⟩
      · intro c14
        have h := h.2 c14
        exact ⟨h, K⟩
theorem kq_X8_hasWalker {Q : Int32 → HS → Prop} {v0 : Nat} {v1 : Int32} {S : HS} (h : P_X8_hasWalker v0 v1 Q S) : P_X8_hasWalker v0 v1 (fun r T => Q r T ∧ KQ5 S T) S := kq_X8_hasWalker_0 h (kq5_rf S)
set_option maxRecDepth 20000 in
set_option maxHeartbeats 1000000 in
theorem kqB_X1_fitCode_141 {Q : Int32 → HS → Prop} {X141 X141_2 : Nat → Nat → Int32 → Int32 → Int32 → Int32 → Int32 → HS → Prop} {v0 : Nat} {v1 : Nat} {v2 : Int32} {v4 : Int32} {v5 : Int32} {v6 : Int32} {v8 : Int32} {S0 S : HS} (h : B_X1_fitCode_141 Q X141 v0 v1 v2 v4 v5 v6 v8 S) (K : KQ5 S0 S) (hX141 : ∀ (u0 : Nat) (u1 : Nat) (u2 : Int32) (u3 : Int32) (u4 : Int32) (u5 : Int32) (u6 : Int32) (u7 : HS), X141 u0 u1 u2 u3 u4 u5 u6 u7 → KQ5 S0 u7 → X141_2 u0 u1 u2 u3 u4 u5 u6 u7) : B_X1_fitCode_141 (fun r T => Q r T ∧ KQ5 S0 T) X141_2 v0 v1 v2 v4 v5 v6 v8 S := by
  delta B_X1_fitCode_141 at h ⊢
  refine ⟨?_, ?_⟩
  · intro c1
    have h := h.1 c1
    intro x3 e2
    have h := h x3 e2
    intro x5 e4
    have h := h x5 e4
    exact ⟨h, K⟩
  · intro c6
    have h := h.2 c6
    obtain ⟨c7, h⟩ := h
    refine ⟨c7, ?_⟩
    have n8 := kq5_ne K c7
    obtain ⟨b9, e10, h⟩ := h
    refine ⟨b9, e10, ?_⟩
    obtain ⟨c11, h⟩ := h
    refine ⟨c11, ?_⟩
    have n12 := kq5_ne K c11
    obtain ⟨c13, h⟩ := h
    refine ⟨c13, ?_⟩
    intro x15 e14
    have h := h x15 e14
    obtain ⟨c16, h⟩ := h
    refine ⟨c16, ?_⟩
    have n17 := kq5_ne K c16
    obtain ⟨b18, e19, h⟩ := h
    refine ⟨b18, e19, ?_⟩
    obtain ⟨c20, h⟩ := h
    refine ⟨c20, ?_⟩
    have n21 := kq5_ne K c20
    intro x23 e22
    have h := h x23 e22
    obtain ⟨c24, h⟩ := h
    refine ⟨c24, ?_⟩
    intro x26 e25
    have h := h x26 e25
    refine ⟨?_, ?_⟩
    · intro c27
      have h := h.1 c27
      intro x29 e28
      have h := h x29 e28
      exact hX141 _ _ _ _ _ _ _ _ h K
    · intro c30
      have h := h.2 c30
      exact ⟨h, K⟩
theorem kq_X1_fitCode_141 {Q : Int32 → HS → Prop} {v0 : Nat} {v1 : Nat} {v2 : Int32} {v4 : Int32} {v5 : Int32} {v6 : Int32} {v8 : Int32} {S0 S : HS} (h : P_X1_fitCode_141 Q v0 v1 v2 v4 v5 v6 v8 S) (K : KQ5 S0 S) : P_X1_fitCode_141 (fun r T => Q r T ∧ KQ5 S0 T) v0 v1 v2 v4 v5 v6 v8 S := h (fun v0 v1 v2 v4 v5 v6 v8 S => KQ5 S0 S → P_X1_fitCode_141 (fun r T => Q r T ∧ KQ5 S0 T) v0 v1 v2 v4 v5 v6 v8 S) (fun v0 v1 v2 v4 v5 v6 v8 S hB K => fd_X1_fitCode_141 (kqB_X1_fitCode_141 hB K (fun _ _ _ _ _ _ _ _ hx K => hx K))) K
set_option maxRecDepth 20000 in
set_option maxHeartbeats 1000000 in
theorem kq_X1_fitCode_0 {Q : Int32 → HS → Prop} {v0 : Nat} {v1 : Nat} {v2 : Int32} {v3 : Int32} {S0 S : HS} (h : P_X1_fitCode_0 Q v0 v1 v2 v3 S) (K : KQ5 S0 S) : P_X1_fitCode_0 (fun r T => Q r T ∧ KQ5 S0 T) v0 v1 v2 v3 S := by
  delta P_X1_fitCode_0 at h ⊢
  refine ⟨?_, ?_⟩
  · intro c1
    have h := h.1 c1
    exact ⟨h, K⟩
  · intro c2
    have h := h.2 c2
    refine cm_X1_legsOf (kq_X1_legsOf h) h (fun x3 x4 hp h g5 => ?_)
    have h := h g5
    have K := kq5_tr K hp.2
    refine ⟨?_, ?_⟩
    · intro c6
      have h := h.1 c6
      exact ⟨h, K⟩
    · intro c7
      have h := h.2 c7
      obtain ⟨c8, h⟩ := h
      refine ⟨c8, ?_⟩
      have n9 := kq5_ne K c8
      refine cm_X8_hasSeen (kq_X8_hasSeen h) h (fun x10 x11 hp h g12 g13 => ?_)
      have h := h g12 g13
      have K := kq5_tr K hp.2
      refine ⟨?_, ?_⟩
      · intro c14
        have h := h.1 c14
        exact ⟨h, K⟩
      · intro c15
        have h := h.2 c15
        intro x17 e16
        have h := h x17 e16
        refine ⟨?_, ?_⟩
        · intro c18
          have h := h.1 c18
          intro x20 e19
          have h := h x20 e19
          intro x22 e21
          have h := h x22 e21
          intro x24 e23
          have h := h x24 e23
          intro x26 e25
          have h := h x26 e25
          obtain ⟨c27, h⟩ := h
          refine ⟨c27, ?_⟩
          intro x29 e28
          have h := h x29 e28
          intro x31 e30
          have h := h x31 e30
          intro x33 e32
          have h := h x33 e32
          obtain ⟨c34, h⟩ := h
          refine ⟨c34, ?_⟩
          intro x36 e35
          have h := h x36 e35
          obtain ⟨b37, e38, h⟩ := h
          refine ⟨b37, e38, ?_⟩
          obtain ⟨c39, h⟩ := h
          refine ⟨c39, ?_⟩
          have n40 := kq5_ne K c39
          obtain ⟨c41, h⟩ := h
          refine ⟨c41, ?_⟩
          intro x43 e42
          have h := h x43 e42
          refine cm_X8_hasWalker (kq_X8_hasWalker h) h (fun x44 x45 hp h g46 g47 => ?_)
          have h := h g46 g47
          have K := kq5_tr K hp.2
          refine ⟨?_, ?_⟩
          · intro c48
            have h := h.1 c48
            exact ⟨h, K⟩
          · intro c49
            have h := h.2 c49
            intro x51 e50
            have h := h x51 e50
            refine cm_X8_hasRoad (kq_X8_hasRoad h) h (fun x52 x53 hp h g54 g55 => ?_)
            have h := h g54 g55
            have K := kq5_tr K hp.2
            refine ⟨?_, ?_⟩
            · intro c56
              have h := h.1 c56
              exact ⟨h, K⟩
            · intro c57
              have h := h.2 c57
              obtain ⟨b58, e59, h⟩ := h
              refine ⟨b58, e59, ?_⟩
              obtain ⟨c60, h⟩ := h
              refine ⟨c60, ?_⟩
              have n61 := kq5_ne K c60
              obtain ⟨c62, h⟩ := h
              refine ⟨c62, ?_⟩
              obtain ⟨b63, e64, h⟩ := h
              refine ⟨b63, e64, ?_⟩
              obtain ⟨c65, h⟩ := h
              refine ⟨c65, ?_⟩
              have n66 := kq5_ne K c65
              refine cm_X6_canGo (kq_X6_canGo h) h (fun x67 x68 hp h g69 g70 => ?_)
              have h := h g69 g70
              have K := kq5_tr K hp.2
              refine ⟨?_, ?_⟩
              · intro c71
                have h := h.1 c71
                obtain ⟨b72, e73, h⟩ := h
                refine ⟨b72, e73, ?_⟩
                obtain ⟨c74, h⟩ := h
                refine ⟨c74, ?_⟩
                have n75 := kq5_ne K c74
                obtain ⟨c76, h⟩ := h
                refine ⟨c76, ?_⟩
                obtain ⟨b77, e78, h⟩ := h
                refine ⟨b77, e78, ?_⟩
                obtain ⟨b79, e80, h⟩ := h
                refine ⟨b79, e80, ?_⟩
                intro x82 e81
                have h := h x82 e81
                obtain ⟨c83, h⟩ := h
                refine ⟨c83, ?_⟩
                have n84 := kq5_ne K c83
                obtain ⟨c85, h⟩ := h
                refine ⟨c85, ?_⟩
                obtain ⟨b86, e87, h⟩ := h
                refine ⟨b86, e87, ?_⟩
                intro x89 e88
                have h := h x89 e88
                obtain ⟨b90, e91, h⟩ := h
                refine ⟨b90, e91, ?_⟩
                obtain ⟨c92, h⟩ := h
                refine ⟨c92, ?_⟩
                have n93 := kq5_ne K c92
                obtain ⟨c94, h⟩ := h
                refine ⟨c94, ?_⟩
                obtain ⟨b95, e96, h⟩ := h
                refine ⟨b95, e96, ?_⟩
                obtain ⟨c97, h⟩ := h
                refine ⟨c97, ?_⟩
                have n98 := kq5_ne K c97
                refine cm_X1_wetOf (kq_X1_wetOf h) h (fun x99 x100 hp h g101 => ?_)
                have h := h g101
                have K := kq5_tr K hp.2
                exact kq_X1_fitCode_141 h K
              · intro c102
                have h := h.2 c102
                exact ⟨h, K⟩
        · intro c103
          have h := h.2 c103
          exact ⟨h, K⟩
theorem kq_X1_fitCode {Q : Int32 → HS → Prop} {v0 : Nat} {v1 : Nat} {v2 : Int32} {v3 : Int32} {S : HS} (h : P_X1_fitCode v0 v1 v2 v3 Q S) : P_X1_fitCode v0 v1 v2 v3 (fun r T => Q r T ∧ KQ5 S T) S := kq_X1_fitCode_0 h (kq5_rf S)
set_option maxRecDepth 20000 in
set_option maxHeartbeats 1000000 in
theorem kq_X1_countFits_29 {Q : Int32 → HS → Prop} {X5 X5_2 : Nat → Nat → Int32 → Int32 → Int32 → HS → Prop} {v0 : Nat} {v1 : Nat} {v2 : Int32} {v3 : Int32} {v4 : Int32} {S0 S : HS} (h : P_X1_countFits_29 Q X5 v0 v1 v2 v3 v4 S) (K : KQ5 S0 S) (hX5 : ∀ (u0 : Nat) (u1 : Nat) (u2 : Int32) (u3 : Int32) (u4 : Int32) (u5 : HS), X5 u0 u1 u2 u3 u4 u5 → KQ5 S0 u5 → X5_2 u0 u1 u2 u3 u4 u5) : P_X1_countFits_29 (fun r T => Q r T ∧ KQ5 S0 T) X5_2 v0 v1 v2 v3 v4 S := by
  delta P_X1_countFits_29 at h ⊢
  intro x2 e1
  have h := h x2 e1
  exact hX5 _ _ _ _ _ _ h K
set_option maxRecDepth 20000 in
set_option maxHeartbeats 1000000 in
theorem kqB_X1_countFits_5 {Q : Int32 → HS → Prop} {X5 X5_2 : Nat → Nat → Int32 → Int32 → Int32 → HS → Prop} {v0 : Nat} {v1 : Nat} {v2 : Int32} {v3 : Int32} {v4 : Int32} {S0 S : HS} (h : B_X1_countFits_5 Q X5 v0 v1 v2 v3 v4 S) (K : KQ5 S0 S) (hX5 : ∀ (u0 : Nat) (u1 : Nat) (u2 : Int32) (u3 : Int32) (u4 : Int32) (u5 : HS), X5 u0 u1 u2 u3 u4 u5 → KQ5 S0 u5 → X5_2 u0 u1 u2 u3 u4 u5) : B_X1_countFits_5 (fun r T => Q r T ∧ KQ5 S0 T) X5_2 v0 v1 v2 v3 v4 S := by
  delta B_X1_countFits_5 at h ⊢
  refine cm_X1_legsOf (kq_X1_legsOf h) h (fun x1 x2 hp h g3 => ?_)
  have h := h g3
  have K := kq5_tr K hp.2
  refine ⟨?_, ?_⟩
  · intro c4
    have h := h.1 c4
    exact ⟨h, K⟩
  · intro c5
    have h := h.2 c5
    obtain ⟨c6, h⟩ := h
    refine ⟨c6, ?_⟩
    have n7 := kq5_ne K c6
    refine cm_X1_fitCode (kq_X1_fitCode h) h (fun x8 x9 hp h g10 => ?_)
    have h := h g10
    have K := kq5_tr K hp.2
    refine ⟨?_, ?_⟩
    · intro c11
      have h := h.1 c11
      exact kq_X1_countFits_29 h K hX5
    · intro c12
      have h := h.2 c12
      intro x14 e13
      have h := h x14 e13
      exact kq_X1_countFits_29 h K hX5
theorem kq_X1_countFits_5 {Q : Int32 → HS → Prop} {v0 : Nat} {v1 : Nat} {v2 : Int32} {v3 : Int32} {v4 : Int32} {S0 S : HS} (h : P_X1_countFits_5 Q v0 v1 v2 v3 v4 S) (K : KQ5 S0 S) : P_X1_countFits_5 (fun r T => Q r T ∧ KQ5 S0 T) v0 v1 v2 v3 v4 S := h (fun v0 v1 v2 v3 v4 S => KQ5 S0 S → P_X1_countFits_5 (fun r T => Q r T ∧ KQ5 S0 T) v0 v1 v2 v3 v4 S) (fun v0 v1 v2 v3 v4 S hB K => fd_X1_countFits_5 (kqB_X1_countFits_5 hB K (fun _ _ _ _ _ _ hx K => hx K))) K
set_option maxRecDepth 20000 in
set_option maxHeartbeats 1000000 in
theorem kq_X1_countFits_0 {Q : Int32 → HS → Prop} {v0 : Nat} {v1 : Nat} {v2 : Int32} {S0 S : HS} (h : P_X1_countFits_0 Q v0 v1 v2 S) (K : KQ5 S0 S) : P_X1_countFits_0 (fun r T => Q r T ∧ KQ5 S0 T) v0 v1 v2 S := by
  delta P_X1_countFits_0 at h ⊢
  exact kq_X1_countFits_5 h K
theorem kq_X1_countFits {Q : Int32 → HS → Prop} {v0 : Nat} {v1 : Nat} {v2 : Int32} {S : HS} (h : P_X1_countFits v0 v1 v2 Q S) : P_X1_countFits v0 v1 v2 (fun r T => Q r T ∧ KQ5 S T) S := kq_X1_countFits_0 h (kq5_rf S)
set_option maxRecDepth 20000 in
set_option maxHeartbeats 1000000 in
theorem kq_X1_findFit_48 {Q : Int32 → HS → Prop} {X6 X6_2 : Nat → Nat → Int32 → Int32 → Int32 → HS → Prop} {v0 : Nat} {v1 : Nat} {v2 : Int32} {v4 : Int32} {v5 : Int32} {S0 S : HS} (h : P_X1_findFit_48 Q X6 v0 v1 v2 v4 v5 S) (K : KQ5 S0 S) (hX6 : ∀ (u0 : Nat) (u1 : Nat) (u2 : Int32) (u3 : Int32) (u4 : Int32) (u5 : HS), X6 u0 u1 u2 u3 u4 u5 → KQ5 S0 u5 → X6_2 u0 u1 u2 u3 u4 u5) : P_X1_findFit_48 (fun r T => Q r T ∧ KQ5 S0 T) X6_2 v0 v1 v2 v4 v5 S := by
  delta P_X1_findFit_48 at h ⊢
  intro x2 e1
  have h := h x2 e1
  exact hX6 _ _ _ _ _ _ h K
set_option maxRecDepth 20000 in
set_option maxHeartbeats 1000000 in
theorem kq_X1_findFit_39 {Q : Int32 → HS → Prop} {X6 X6_2 : Nat → Nat → Int32 → Int32 → Int32 → HS → Prop} {v0 : Nat} {v1 : Nat} {v2 : Int32} {v4 : Int32} {v5 : Int32} {v6 : Int32} {S0 S : HS} (h : P_X1_findFit_39 Q X6 v0 v1 v2 v4 v5 v6 S) (K : KQ5 S0 S) (hX6 : ∀ (u0 : Nat) (u1 : Nat) (u2 : Int32) (u3 : Int32) (u4 : Int32) (u5 : HS), X6 u0 u1 u2 u3 u4 u5 → KQ5 S0 u5 → X6_2 u0 u1 u2 u3 u4 u5) : P_X1_findFit_39 (fun r T => Q r T ∧ KQ5 S0 T) X6_2 v0 v1 v2 v4 v5 v6 S := by
  delta P_X1_findFit_39 at h ⊢
  refine ⟨?_, ?_⟩
  · intro c1
    have h := h.1 c1
    exact kq_X1_findFit_48 h K hX6
  · intro c2
    have h := h.2 c2
    intro x4 e3
    have h := h x4 e3
    exact kq_X1_findFit_48 h K hX6
set_option maxRecDepth 20000 in
set_option maxHeartbeats 1000000 in
theorem kqB_X1_findFit_6 {Q : Int32 → HS → Prop} {X6 X6_2 : Nat → Nat → Int32 → Int32 → Int32 → HS → Prop} {v0 : Nat} {v1 : Nat} {v2 : Int32} {v4 : Int32} {v5 : Int32} {S0 S : HS} (h : B_X1_findFit_6 Q X6 v0 v1 v2 v4 v5 S) (K : KQ5 S0 S) (hX6 : ∀ (u0 : Nat) (u1 : Nat) (u2 : Int32) (u3 : Int32) (u4 : Int32) (u5 : HS), X6 u0 u1 u2 u3 u4 u5 → KQ5 S0 u5 → X6_2 u0 u1 u2 u3 u4 u5) : B_X1_findFit_6 (fun r T => Q r T ∧ KQ5 S0 T) X6_2 v0 v1 v2 v4 v5 S := by
  delta B_X1_findFit_6 at h ⊢
  refine cm_X1_legsOf (kq_X1_legsOf h) h (fun x1 x2 hp h g3 => ?_)
  have h := h g3
  have K := kq5_tr K hp.2
  refine ⟨?_, ?_⟩
  · intro c4
    have h := h.1 c4
    exact ⟨h, K⟩
  · intro c5
    have h := h.2 c5
    obtain ⟨c6, h⟩ := h
    refine ⟨c6, ?_⟩
    have n7 := kq5_ne K c6
    refine cm_X1_fitCode (kq_X1_fitCode h) h (fun x8 x9 hp h g10 => ?_)
    have h := h g10
    have K := kq5_tr K hp.2
    refine ⟨?_, ?_⟩
    · intro c11
      have h := h.1 c11
      exact kq_X1_findFit_39 h K hX6
    · intro c12
      have h := h.2 c12
      refine ⟨?_, ?_⟩
      · intro c13
        have h := h.1 c13
        exact kq_X1_findFit_39 h K hX6
      · intro c14
        have h := h.2 c14
        exact ⟨h, K⟩
theorem kq_X1_findFit_6 {Q : Int32 → HS → Prop} {v0 : Nat} {v1 : Nat} {v2 : Int32} {v4 : Int32} {v5 : Int32} {S0 S : HS} (h : P_X1_findFit_6 Q v0 v1 v2 v4 v5 S) (K : KQ5 S0 S) : P_X1_findFit_6 (fun r T => Q r T ∧ KQ5 S0 T) v0 v1 v2 v4 v5 S := h (fun v0 v1 v2 v4 v5 S => KQ5 S0 S → P_X1_findFit_6 (fun r T => Q r T ∧ KQ5 S0 T) v0 v1 v2 v4 v5 S) (fun v0 v1 v2 v4 v5 S hB K => fd_X1_findFit_6 (kqB_X1_findFit_6 hB K (fun _ _ _ _ _ _ hx K => hx K))) K
set_option maxRecDepth 20000 in
set_option maxHeartbeats 1000000 in
theorem kq_X1_findFit_0 {Q : Int32 → HS → Prop} {v0 : Nat} {v1 : Nat} {v2 : Int32} {v3 : Int32} {S0 S : HS} (h : P_X1_findFit_0 Q v0 v1 v2 v3 S) (K : KQ5 S0 S) : P_X1_findFit_0 (fun r T => Q r T ∧ KQ5 S0 T) v0 v1 v2 v3 S := by
  delta P_X1_findFit_0 at h ⊢
  exact kq_X1_findFit_6 h K
theorem kq_X1_findFit {Q : Int32 → HS → Prop} {v0 : Nat} {v1 : Nat} {v2 : Int32} {v3 : Int32} {S : HS} (h : P_X1_findFit v0 v1 v2 v3 Q S) : P_X1_findFit v0 v1 v2 v3 (fun r T => Q r T ∧ KQ5 S T) S := kq_X1_findFit_0 h (kq5_rf S)
set_option maxRecDepth 20000 in
set_option maxHeartbeats 1000000 in
theorem kq_X1_init_0 {Q : HS → Prop} {v0 : Nat} {S0 S : HS} (h : P_X1_init_0 Q v0 S) (K : KQ5 S0 S) : P_X1_init_0 (fun T => Q T ∧ KQ5 S0 T) v0 S := by
  delta P_X1_init_0 at h ⊢
  intro x2 e1
  have h := h x2 e1
  intro x4 e3
  have h := h x4 e3
  have K := kq5_W K e1 e3
  obtain ⟨c5, h⟩ := h
  refine ⟨c5, ?_⟩
  have n6 := kq5_ne K c5
  intro x8 e7
  have h := h x8 e7
  have K := kq5_R K e7
  intro x10 e9
  have h := h x10 e9
  intro x12 e11
  have h := h x12 e11
  have K := kq5_W K e9 e11
  intro x14 e13
  have h := h x14 e13
  have K := kq5_R K e13
  exact ⟨h, K⟩
theorem kq_X1_init {Q : HS → Prop} {v0 : Nat} {S : HS} (h : P_X1_init v0 Q S) : P_X1_init v0 (fun T => Q T ∧ KQ5 S T) S := kq_X1_init_0 h (kq5_rf S)
set_option maxRecDepth 20000 in
set_option maxHeartbeats 1000000 in
theorem kq_X1_leastWet_0 {Q : Int64 → HS → Prop} {v0 : Nat} {v1 : Nat} {v2 : Nat} {v3 : Int32} {v4 : Nat} {S0 S : HS} (h : P_X1_leastWet_0 Q v0 v1 v2 v3 v4 S) (K : KQ5 S0 S) : P_X1_leastWet_0 (fun r T => Q r T ∧ KQ5 S0 T) v0 v1 v2 v3 v4 S := by
  delta P_X1_leastWet_0 at h ⊢
  obtain ⟨c1, h⟩ := h
  refine ⟨c1, ?_⟩
  have n2 := kq5_ne K c1
  refine cm_X1_bestSpeed (kq_X1_bestSpeed h) h (fun x3 x4 hp h g5 => ?_)
  have h := h g5
  have K := kq5_tr K hp.2
  refine cm_X1_wetOf (kq_X1_wetOf h) h (fun x6 x7 hp h g8 => ?_)
  have h := h g8
  have K := kq5_tr K hp.2
  exact ⟨h, K⟩
theorem kq_X1_leastWet {Q : Int64 → HS → Prop} {v0 : Nat} {v1 : Nat} {v2 : Nat} {v3 : Int32} {v4 : Nat} {S : HS} (h : P_X1_leastWet v0 v1 v2 v3 v4 Q S) : P_X1_leastWet v0 v1 v2 v3 v4 (fun r T => Q r T ∧ KQ5 S T) S := kq_X1_leastWet_0 h (kq5_rf S)
set_option maxRecDepth 20000 in
set_option maxHeartbeats 1000000 in
theorem kq_X1_wetInLee_0 {Q : Int64 → HS → Prop} {v0 : Nat} {v1 : Nat} {v2 : Nat} {S0 S : HS} (h : P_X1_wetInLee_0 Q v0 v1 v2 S) (K : KQ5 S0 S) : P_X1_wetInLee_0 (fun r T => Q r T ∧ KQ5 S0 T) v0 v1 v2 S := by
  delta P_X1_wetInLee_0 at h ⊢
  obtain ⟨c1, h⟩ := h
  refine ⟨c1, ?_⟩
  have n2 := kq5_ne K c1
  intro x4 e3
  have h := h x4 e3
  obtain ⟨c5, h⟩ := h
  refine ⟨c5, ?_⟩
  have n6 := kq5_ne K c5
  refine cm_X1_soak (kq_X1_soak h) h (fun x7 x8 hp h g9 => ?_)
  have h := h g9
  have K := kq5_tr K hp.2
  obtain ⟨c10, h⟩ := h
  refine ⟨c10, ?_⟩
  have n11 := kq5_ne K c10
  intro x13 e12
  have h := h x13 e12
  refine cm_X1_soak (kq_X1_soak h) h (fun x14 x15 hp h g16 => ?_)
  have h := h g16
  have K := kq5_tr K hp.2
  exact ⟨h, K⟩
theorem kq_X1_wetInLee {Q : Int64 → HS → Prop} {v0 : Nat} {v1 : Nat} {v2 : Nat} {S : HS} (h : P_X1_wetInLee v0 v1 v2 Q S) : P_X1_wetInLee v0 v1 v2 (fun r T => Q r T ∧ KQ5 S T) S := kq_X1_wetInLee_0 h (kq5_rf S)
set_option maxRecDepth 20000 in
set_option maxHeartbeats 1000000 in
theorem kq_X1_worstSpeed_55 {Q : Int32 → HS → Prop} {X17 X17_2 : Nat → Nat → Nat → Int32 → Nat → Int32 → Int64 → Int32 → HS → Prop} {v0 : Nat} {v1 : Nat} {v2 : Nat} {v3 : Int32} {v4 : Nat} {v5 : Int32} {v6 : Int64} {v8 : Int32} {S0 S : HS} (h : P_X1_worstSpeed_55 Q X17 v0 v1 v2 v3 v4 v5 v6 v8 S) (K : KQ5 S0 S) (hX17 : ∀ (u0 : Nat) (u1 : Nat) (u2 : Nat) (u3 : Int32) (u4 : Nat) (u5 : Int32) (u6 : Int64) (u7 : Int32) (u8 : HS), X17 u0 u1 u2 u3 u4 u5 u6 u7 u8 → KQ5 S0 u8 → X17_2 u0 u1 u2 u3 u4 u5 u6 u7 u8) : P_X1_worstSpeed_55 (fun r T => Q r T ∧ KQ5 S0 T) X17_2 v0 v1 v2 v3 v4 v5 v6 v8 S := by
  delta P_X1_worstSpeed_55 at h ⊢
  intro x2 e1
  have h := h x2 e1
  exact hX17 _ _ _ _ _ _ _ _ _ h K
set_option maxRecDepth 20000 in
set_option maxHeartbeats 1000000 in
theorem kqB_X1_worstSpeed_17 {Q : Int32 → HS → Prop} {X17 X17_2 : Nat → Nat → Nat → Int32 → Nat → Int32 → Int64 → Int32 → HS → Prop} {v0 : Nat} {v1 : Nat} {v2 : Nat} {v3 : Int32} {v4 : Nat} {v5 : Int32} {v6 : Int64} {v8 : Int32} {S0 S : HS} (h : B_X1_worstSpeed_17 Q X17 v0 v1 v2 v3 v4 v5 v6 v8 S) (K : KQ5 S0 S) (hX17 : ∀ (u0 : Nat) (u1 : Nat) (u2 : Nat) (u3 : Int32) (u4 : Nat) (u5 : Int32) (u6 : Int64) (u7 : Int32) (u8 : HS), X17 u0 u1 u2 u3 u4 u5 u6 u7 u8 → KQ5 S0 u8 → X17_2 u0 u1 u2 u3 u4 u5 u6 u7 u8) : B_X1_worstSpeed_17 (fun r T => Q r T ∧ KQ5 S0 T) X17_2 v0 v1 v2 v3 v4 v5 v6 v8 S := by
  delta B_X1_worstSpeed_17 at h ⊢
  obtain ⟨c1, h⟩ := h
  refine ⟨c1, ?_⟩
  have n2 := kq5_ne K c1
  intro x4 e3
  have h := h x4 e3
  refine ⟨?_, ?_⟩
  · intro c5
    have h := h.1 c5
    exact ⟨h, K⟩
  · intro c6
    have h := h.2 c6
    obtain ⟨c7, h⟩ := h
    refine ⟨c7, ?_⟩
    have n8 := kq5_ne K c7
    refine cm_X1_wetOf (kq_X1_wetOf h) h (fun x9 x10 hp h g11 => ?_)
    have h := h g11
    have K := kq5_tr K hp.2
    refine ⟨?_, ?_⟩
    · intro c12
      have h := h.1 c12
      exact kq_X1_worstSpeed_55 h K hX17
    · intro c13
      have h := h.2 c13
      exact kq_X1_worstSpeed_55 h K hX17
theorem kq_X1_worstSpeed_17 {Q : Int32 → HS → Prop} {v0 : Nat} {v1 : Nat} {v2 : Nat} {v3 : Int32} {v4 : Nat} {v5 : Int32} {v6 : Int64} {v8 : Int32} {S0 S : HS} (h : P_X1_worstSpeed_17 Q v0 v1 v2 v3 v4 v5 v6 v8 S) (K : KQ5 S0 S) : P_X1_worstSpeed_17 (fun r T => Q r T ∧ KQ5 S0 T) v0 v1 v2 v3 v4 v5 v6 v8 S := h (fun v0 v1 v2 v3 v4 v5 v6 v8 S => KQ5 S0 S → P_X1_worstSpeed_17 (fun r T => Q r T ∧ KQ5 S0 T) v0 v1 v2 v3 v4 v5 v6 v8 S) (fun v0 v1 v2 v3 v4 v5 v6 v8 S hB K => fd_X1_worstSpeed_17 (kqB_X1_worstSpeed_17 hB K (fun _ _ _ _ _ _ _ _ _ hx K => hx K))) K
set_option maxRecDepth 20000 in
set_option maxHeartbeats 1000000 in
theorem kq_X1_worstSpeed_0 {Q : Int32 → HS → Prop} {v0 : Nat} {v1 : Nat} {v2 : Nat} {v3 : Int32} {v4 : Nat} {S0 S : HS} (h : P_X1_worstSpeed_0 Q v0 v1 v2 v3 v4 S) (K : KQ5 S0 S) : P_X1_worstSpeed_0 (fun r T => Q r T ∧ KQ5 S0 T) v0 v1 v2 v3 v4 S := by
  delta P_X1_worstSpeed_0 at h ⊢
  obtain ⟨c1, h⟩ := h
  refine ⟨c1, ?_⟩
  have n2 := kq5_ne K c1
  intro x4 e3
  have h := h x4 e3
  intro x6 e5
  have h := h x6 e5
  exact kq_X1_worstSpeed_17 h K
theorem kq_X1_worstSpeed {Q : Int32 → HS → Prop} {v0 : Nat} {v1 : Nat} {v2 : Nat} {v3 : Int32} {v4 : Nat} {S : HS} (h : P_X1_worstSpeed v0 v1 v2 v3 v4 Q S) : P_X1_worstSpeed v0 v1 v2 v3 v4 (fun r T => Q r T ∧ KQ5 S T) S := kq_X1_worstSpeed_0 h (kq5_rf S)
set_option maxRecDepth 20000 in
set_option maxHeartbeats 1000000 in
theorem kqB_X2_addFaces_2 {Q : HS → Prop} {X2 X2_2 : Nat → Nat → Int32 → HS → Prop} {v0 : Nat} {v1 : Nat} {v2 : Int32} {S0 S : HS} (h : B_X2_addFaces_2 Q X2 v0 v1 v2 S) (K : KQ5 S0 S) (hX2 : ∀ (u0 : Nat) (u1 : Nat) (u2 : Int32) (u3 : HS), X2 u0 u1 u2 u3 → KQ5 S0 u3 → X2_2 u0 u1 u2 u3) : B_X2_addFaces_2 (fun T => Q T ∧ KQ5 S0 T) X2_2 v0 v1 v2 S := by
  delta B_X2_addFaces_2 at h ⊢
  refine ⟨?_, ?_⟩
  · intro c1
    have h := h.1 c1
    exact ⟨h, K⟩
  · intro c2
    have h := h.2 c2
    obtain ⟨c3, h⟩ := h
    refine ⟨c3, ?_⟩
    have n4 := kq5_ne K c3
    refine ⟨?_, ?_⟩
    · intro c5
      have h := h.1 c5
      exact ⟨h, K⟩
    · intro c6
      have h := h.2 c6
      obtain ⟨c7, h⟩ := h
      refine ⟨c7, ?_⟩
      have n8 := kq5_ne K c7
      obtain ⟨b9, e10, h⟩ := h
      refine ⟨b9, e10, ?_⟩
      obtain ⟨c11, h⟩ := h
      refine ⟨c11, ?_⟩
      have n12 := kq5_ne K c11
      obtain ⟨c13, h⟩ := h
      refine ⟨c13, ?_⟩
      intro x15 e14
      have h := h x15 e14
      obtain ⟨c16, h⟩ := h
      refine ⟨c16, ?_⟩
      intro x18 e17
      have h := h x18 e17
      intro x20 e19
      have h := h x20 e19
      obtain ⟨c21, h⟩ := h
      refine ⟨c21, ?_⟩
      intro x23 e22
      have h := h x23 e22
      have K := kq5_J K e22
      intro x25 e24
      have h := h x25 e24
      exact hX2 _ _ _ _ h K
theorem kq_X2_addFaces_2 {Q : HS → Prop} {v0 : Nat} {v1 : Nat} {v2 : Int32} {S0 S : HS} (h : P_X2_addFaces_2 Q v0 v1 v2 S) (K : KQ5 S0 S) : P_X2_addFaces_2 (fun T => Q T ∧ KQ5 S0 T) v0 v1 v2 S := h (fun v0 v1 v2 S => KQ5 S0 S → P_X2_addFaces_2 (fun T => Q T ∧ KQ5 S0 T) v0 v1 v2 S) (fun v0 v1 v2 S hB K => fd_X2_addFaces_2 (kqB_X2_addFaces_2 hB K (fun _ _ _ _ hx K => hx K))) K
set_option maxRecDepth 20000 in
set_option maxHeartbeats 1000000 in
theorem kq_X2_addFaces_0 {Q : HS → Prop} {v0 : Nat} {v1 : Nat} {S0 S : HS} (h : P_X2_addFaces_0 Q v0 v1 S) (K : KQ5 S0 S) : P_X2_addFaces_0 (fun T => Q T ∧ KQ5 S0 T) v0 v1 S := by
  delta P_X2_addFaces_0 at h ⊢
  exact kq_X2_addFaces_2 h K
theorem kq_X2_addFaces {Q : HS → Prop} {v0 : Nat} {v1 : Nat} {S : HS} (h : P_X2_addFaces v0 v1 Q S) : P_X2_addFaces v0 v1 (fun T => Q T ∧ KQ5 S T) S := kq_X2_addFaces_0 h (kq5_rf S)
set_option maxRecDepth 20000 in
set_option maxHeartbeats 1000000 in
theorem kqB_X2_allGot_4 {Q : Int64 → HS → Prop} {X4 X4_2 : Nat → Int64 → Int32 → HS → Prop} {v0 : Nat} {v1 : Int64} {v3 : Int32} {S0 S : HS} (h : B_X2_allGot_4 Q X4 v0 v1 v3 S) (K : KQ5 S0 S) (hX4 : ∀ (u0 : Nat) (u1 : Int64) (u2 : Int32) (u3 : HS), X4 u0 u1 u2 u3 → KQ5 S0 u3 → X4_2 u0 u1 u2 u3) : B_X2_allGot_4 (fun r T => Q r T ∧ KQ5 S0 T) X4_2 v0 v1 v3 S := by
  delta B_X2_allGot_4 at h ⊢
  refine ⟨?_, ?_⟩
  · intro c1
    have h := h.1 c1
    exact ⟨h, K⟩
  · intro c2
    have h := h.2 c2
    obtain ⟨c3, h⟩ := h
    refine ⟨c3, ?_⟩
    have n4 := kq5_ne K c3
    obtain ⟨b5, e6, h⟩ := h
    refine ⟨b5, e6, ?_⟩
    obtain ⟨c7, h⟩ := h
    refine ⟨c7, ?_⟩
    have n8 := kq5_ne K c7
    obtain ⟨c9, h⟩ := h
    refine ⟨c9, ?_⟩
    intro x11 e10
    have h := h x11 e10
    intro x13 e12
    have h := h x13 e12
    intro x15 e14
    have h := h x15 e14
    exact hX4 _ _ _ _ h K
theorem kq_X2_allGot_4 {Q : Int64 → HS → Prop} {v0 : Nat} {v1 : Int64} {v3 : Int32} {S0 S : HS} (h : P_X2_allGot_4 Q v0 v1 v3 S) (K : KQ5 S0 S) : P_X2_allGot_4 (fun r T => Q r T ∧ KQ5 S0 T) v0 v1 v3 S := h (fun v0 v1 v3 S => KQ5 S0 S → P_X2_allGot_4 (fun r T => Q r T ∧ KQ5 S0 T) v0 v1 v3 S) (fun v0 v1 v3 S hB K => fd_X2_allGot_4 (kqB_X2_allGot_4 hB K (fun _ _ _ _ hx K => hx K))) K
set_option maxRecDepth 20000 in
set_option maxHeartbeats 1000000 in
theorem kq_X2_allGot_0 {Q : Int64 → HS → Prop} {v0 : Nat} {S0 S : HS} (h : P_X2_allGot_0 Q v0 S) (K : KQ5 S0 S) : P_X2_allGot_0 (fun r T => Q r T ∧ KQ5 S0 T) v0 S := by
  delta P_X2_allGot_0 at h ⊢
  exact kq_X2_allGot_4 h K
theorem kq_X2_allGot {Q : Int64 → HS → Prop} {v0 : Nat} {S : HS} (h : P_X2_allGot v0 Q S) : P_X2_allGot v0 (fun r T => Q r T ∧ KQ5 S T) S := kq_X2_allGot_0 h (kq5_rf S)
set_option maxRecDepth 20000 in
set_option maxHeartbeats 1000000 in
theorem kq_X3_init_0 {Q : HS → Prop} {v0 : Nat} {S0 S : HS} (h : P_X3_init_0 Q v0 S) (K : KQ5 S0 S) : P_X3_init_0 (fun T => Q T ∧ KQ5 S0 T) v0 S := by
  delta P_X3_init_0 at h ⊢
  exact ⟨h, K⟩
theorem kq_X3_init {Q : HS → Prop} {v0 : Nat} {S : HS} (h : P_X3_init v0 Q S) : P_X3_init v0 (fun T => Q T ∧ KQ5 S T) S := kq_X3_init_0 h (kq5_rf S)
set_option maxRecDepth 20000 in
set_option maxHeartbeats 1000000 in
theorem kq_X4_fail_0 {Q : Int32 → HS → Prop} {v0 : Nat} {v1 : Int32} {S0 S : HS} (h : P_X4_fail_0 Q v0 v1 S) (K : KQ5 S0 S) : P_X4_fail_0 (fun r T => Q r T ∧ KQ5 S0 T) v0 v1 S := by
  delta P_X4_fail_0 at h ⊢
  obtain ⟨c1, h⟩ := h
  refine ⟨c1, ?_⟩
  have n2 := kq5_ne K c1
  intro x4 e3
  have h := h x4 e3
  have K := kq5_I K e3 n2 (by decide)
  intro x6 e5
  have h := h x6 e5
  intro x8 e7
  have h := h x8 e7
  have K := kq5_I K e7 n2 (by decide)
  exact ⟨h, K⟩
theorem kq_X4_fail {Q : Int32 → HS → Prop} {v0 : Nat} {v1 : Int32} {S : HS} (h : P_X4_fail v0 v1 Q S) : P_X4_fail v0 v1 (fun r T => Q r T ∧ KQ5 S T) S := kq_X4_fail_0 h (kq5_rf S)
set_option maxRecDepth 20000 in
set_option maxHeartbeats 1000000 in
theorem kq_X4_sortAt_58 {Q : Int32 → HS → Prop} {v2 : Int32} {S0 S : HS} (h : P_X4_sortAt_58 Q v2 S) (K : KQ5 S0 S) : P_X4_sortAt_58 (fun r T => Q r T ∧ KQ5 S0 T) v2 S := by
  delta P_X4_sortAt_58 at h ⊢
  refine ⟨?_, ?_, ?_, ?_⟩
  · intro c1
    have h := h.1 c1
    exact ⟨h, K⟩
  · intro c2
    have h := h.2.1 c2
    exact ⟨h, K⟩
  · intro c3
    have h := h.2.2.1 c3
    exact ⟨h, K⟩
  · intro c4
    have h := h.2.2.2 c4
    exact ⟨h, K⟩
set_option maxRecDepth 20000 in
set_option maxHeartbeats 1000000 in
theorem kq_X4_sortAt_44 {Q : Int32 → HS → Prop} {v2 : Int32} {S0 S : HS} (h : P_X4_sortAt_44 Q v2 S) (K : KQ5 S0 S) : P_X4_sortAt_44 (fun r T => Q r T ∧ KQ5 S0 T) v2 S := by
  delta P_X4_sortAt_44 at h ⊢
  refine ⟨?_, ?_⟩
  · intro c1
    have h := h.1 c1
    exact kq_X4_sortAt_58 h K
  · intro c2
    have h := h.2 c2
    refine ⟨?_, ?_⟩
    · intro c3
      have h := h.1 c3
      exact kq_X4_sortAt_58 h K
    · intro c4
      have h := h.2 c4
      exact ⟨h, K⟩
set_option maxRecDepth 20000 in
set_option maxHeartbeats 1000000 in
theorem kq_X4_sortAt_0 {Q : Int32 → HS → Prop} {v0 : Nat} {v1 : Int32} {S0 S : HS} (h : P_X4_sortAt_0 Q v0 v1 S) (K : KQ5 S0 S) : P_X4_sortAt_0 (fun r T => Q r T ∧ KQ5 S0 T) v0 v1 S := by
  delta P_X4_sortAt_0 at h ⊢
  refine ⟨?_, ?_⟩
  · intro c1
    have h := h.1 c1
    exact ⟨h, K⟩
  · intro c2
    have h := h.2 c2
    obtain ⟨c3, h⟩ := h
    refine ⟨c3, ?_⟩
    have n4 := kq5_ne K c3
    intro x6 e5
    have h := h x6 e5
    refine ⟨?_, ?_⟩
    · intro c7
      have h := h.1 c7
      exact ⟨h, K⟩
    · intro c8
      have h := h.2 c8
      obtain ⟨b9, e10, h⟩ := h
      refine ⟨b9, e10, ?_⟩
      obtain ⟨c11, h⟩ := h
      refine ⟨c11, ?_⟩
      have n12 := kq5_ne K c11
      refine ⟨?_, ?_⟩
      · intro c13
        have h := h.1 c13
        obtain ⟨b14, e15, h⟩ := h
        refine ⟨b14, e15, ?_⟩
        obtain ⟨c16, h⟩ := h
        refine ⟨c16, ?_⟩
        have n17 := kq5_ne K c16
        obtain ⟨c18, h⟩ := h
        refine ⟨c18, ?_⟩
        intro x20 e19
        have h := h x20 e19
        refine ⟨?_, ?_⟩
        · intro c21
          have h := h.1 c21
          exact kq_X4_sortAt_44 h K
        · intro c22
          have h := h.2 c22
          refine ⟨?_, ?_⟩
          · intro c23
            have h := h.1 c23
            exact kq_X4_sortAt_44 h K
          · intro c24
            have h := h.2 c24
            exact ⟨h, K⟩
      · intro c25
        have h := h.2 c25
        exact ⟨h, K⟩
theorem kq_X4_sortAt {Q : Int32 → HS → Prop} {v0 : Nat} {v1 : Int32} {S : HS} (h : P_X4_sortAt v0 v1 Q S) : P_X4_sortAt v0 v1 (fun r T => Q r T ∧ KQ5 S T) S := kq_X4_sortAt_0 h (kq5_rf S)
set_option maxRecDepth 20000 in
set_option maxHeartbeats 1000000 in
theorem kq_X4_next_201 {Q : HS → Prop} {X118 X118_2 : Nat → Int32 → Int32 → Int32 → Int32 → HS → Prop} {v0 : Nat} {v1 : Int32} {v2 : Int32} {v3 : Int32} {v4 : Int32} {S0 S : HS} (h : P_X4_next_201 Q X118 v0 v1 v2 v3 v4 S) (K : KQ5 S0 S) (hX118 : ∀ (u0 : Nat) (u1 : Int32) (u2 : Int32) (u3 : Int32) (u4 : Int32) (u5 : HS), X118 u0 u1 u2 u3 u4 u5 → KQ5 S0 u5 → X118_2 u0 u1 u2 u3 u4 u5) : P_X4_next_201 (fun T => Q T ∧ KQ5 S0 T) X118_2 v0 v1 v2 v3 v4 S := by
  delta P_X4_next_201 at h ⊢
  obtain ⟨c1, h⟩ := h
  refine ⟨c1, ?_⟩
  have n2 := kq5_ne K c1
  intro x4 e3
  have h := h x4 e3
  intro x6 e5
  have h := h x6 e5
  intro x8 e7
  have h := h x8 e7
  have K := kq5_I K e7 n2 (by decide)
  intro x10 e9
  have h := h x10 e9
  exact hX118 _ _ _ _ _ _ h K
set_option maxRecDepth 20000 in
set_option maxHeartbeats 1000000 in
theorem kq_X4_next_195 {Q : HS → Prop} {X118 X118_2 : Nat → Int32 → Int32 → Int32 → Int32 → HS → Prop} {v0 : Nat} {v1 : Int32} {v2 : Int32} {v3 : Int32} {v4 : Int32} {s0 : Nat} {s1 : Int64} {s2 : Int32} {s3 : Int32} {S0 S : HS} (h : P_X4_next_195 Q X118 v0 v1 v2 v3 v4 s0 s1 s2 s3 S) (K : KQ5 S0 S) (hX118 : ∀ (u0 : Nat) (u1 : Int32) (u2 : Int32) (u3 : Int32) (u4 : Int32) (u5 : HS), X118 u0 u1 u2 u3 u4 u5 → KQ5 S0 u5 → X118_2 u0 u1 u2 u3 u4 u5) : P_X4_next_195 (fun T => Q T ∧ KQ5 S0 T) X118_2 v0 v1 v2 v3 v4 s0 s1 s2 s3 S := by
  delta P_X4_next_195 at h ⊢
  obtain ⟨c1, h⟩ := h
  refine ⟨c1, ?_⟩
  have n2 := kq5_ne K c1
  intro x4 e3
  have h := h x4 e3
  intro x6 e5
  have h := h x6 e5
  have K := kq5_J K e5
  exact kq_X4_next_201 h K hX118
set_option maxRecDepth 20000 in
set_option maxHeartbeats 1000000 in
theorem kq_X4_next_240 {Q : HS → Prop} {v0 : Nat} {v1 : Int32} {S0 S : HS} (h : P_X4_next_240 Q v0 v1 S) (K : KQ5 S0 S) : P_X4_next_240 (fun T => Q T ∧ KQ5 S0 T) v0 v1 S := by
  delta P_X4_next_240 at h ⊢
  refine ⟨?_, ?_⟩
  · intro c1
    have h := h.1 c1
    exact ⟨h, K⟩
  · intro c2
    have h := h.2 c2
    obtain ⟨c3, h⟩ := h
    refine ⟨c3, ?_⟩
    have n4 := kq5_ne K c3
    intro x6 e5
    have h := h x6 e5
    refine ⟨?_, ?_⟩
    · intro c7
      have h := h.1 c7
      exact ⟨h, K⟩
    · intro c8
      have h := h.2 c8
      intro x10 e9
      have h := h x10 e9
      intro x12 e11
      have h := h x12 e11
      intro x14 e13
      have h := h x14 e13
      have K := kq5_I K e13 n4 (by decide)
      exact ⟨h, K⟩
set_option maxRecDepth 20000 in
set_option maxHeartbeats 1000000 in
theorem kq_X4_next_217 {Q : HS → Prop} {v0 : Nat} {v1 : Int32} {v2 : Int32} {S0 S : HS} (h : P_X4_next_217 Q v0 v1 v2 S) (K : KQ5 S0 S) : P_X4_next_217 (fun T => Q T ∧ KQ5 S0 T) v0 v1 v2 S := by
  delta P_X4_next_217 at h ⊢
  refine ⟨?_, ?_⟩
  · intro c1
    have h := h.1 c1
    exact kq_X4_next_240 h K
  · intro c2
    have h := h.2 c2
    obtain ⟨c3, h⟩ := h
    refine ⟨c3, ?_⟩
    have n4 := kq5_ne K c3
    intro x6 e5
    have h := h x6 e5
    intro x8 e7
    have h := h x8 e7
    refine ⟨?_, ?_⟩
    · intro c9
      have h := h.1 c9
      exact kq_X4_next_240 h K
    · intro c10
      have h := h.2 c10
      intro x12 e11
      have h := h x12 e11
      have K := kq5_I K e11 n4 (by decide)
      exact kq_X4_next_240 h K
set_option maxRecDepth 20000 in
set_option maxHeartbeats 1000000 in
theorem kqB_X4_next_118 {Q : HS → Prop} {X118 X118_2 : Nat → Int32 → Int32 → Int32 → Int32 → HS → Prop} {v0 : Nat} {v1 : Int32} {v2 : Int32} {v3 : Int32} {v4 : Int32} {S0 S : HS} (h : B_X4_next_118 Q X118 v0 v1 v2 v3 v4 S) (K : KQ5 S0 S) (hX118 : ∀ (u0 : Nat) (u1 : Int32) (u2 : Int32) (u3 : Int32) (u4 : Int32) (u5 : HS), X118 u0 u1 u2 u3 u4 u5 → KQ5 S0 u5 → X118_2 u0 u1 u2 u3 u4 u5) : B_X4_next_118 (fun T => Q T ∧ KQ5 S0 T) X118_2 v0 v1 v2 v3 v4 S := by
  delta B_X4_next_118 at h ⊢
  refine ⟨?_, ?_⟩
  · intro c1
    have h := h.1 c1
    exact kq_X4_next_217 h K
  · intro c2
    have h := h.2 c2
    refine ⟨?_, ?_⟩
    · intro c3
      have h := h.1 c3
      exact kq_X4_next_217 h K
    · intro c4
      have h := h.2 c4
      obtain ⟨c5, h⟩ := h
      refine ⟨c5, ?_⟩
      have n6 := kq5_ne K c5
      intro x8 e7
      have h := h x8 e7
      refine cm_X4_sortAt (kq_X4_sortAt h) h (fun x9 x10 hp h g11 => ?_)
      have h := h g11
      have K := kq5_tr K hp.2
      intro x13 e12
      have h := h x13 e12
      refine ⟨?_, ?_⟩
      · intro c14
        have h := h.1 c14
        exact kq_X4_next_217 h K
      · intro c15
        have h := h.2 c15
        refine ⟨?_, ?_⟩
        · intro c16
          have h := h.1 c16
          exact kq_X4_next_201 h K hX118
        · intro c17
          have h := h.2 c17
          intro x19 e18
          have h := h x19 e18
          obtain ⟨b20, e21, h⟩ := h
          refine ⟨b20, e21, ?_⟩
          obtain ⟨c22, h⟩ := h
          refine ⟨c22, ?_⟩
          have n23 := kq5_ne K c22
          refine ⟨?_, ?_⟩
          · intro c24
            have h := h.1 c24
            exact kq_X4_next_201 h K hX118
          · intro c25
            have h := h.2 c25
            intro x27 e26
            have h := h x27 e26
            obtain ⟨b28, e29, h⟩ := h
            refine ⟨b28, e29, ?_⟩
            intro x31 e30
            have h := h x31 e30
            obtain ⟨c32, h⟩ := h
            refine ⟨c32, ?_⟩
            have n33 := kq5_ne K c32
            obtain ⟨c34, h⟩ := h
            refine ⟨c34, ?_⟩
            intro x36 e35
            have h := h x36 e35
            intro x38 e37
            have h := h x38 e37
            refine ⟨?_, ?_⟩
            · intro c39
              have h := h.1 c39
              exact kq_X4_next_195 h K hX118
            · intro c40
              have h := h.2 c40
              exact kq_X4_next_195 h K hX118
theorem kq_X4_next_118 {Q : HS → Prop} {v0 : Nat} {v1 : Int32} {v2 : Int32} {v3 : Int32} {v4 : Int32} {S0 S : HS} (h : P_X4_next_118 Q v0 v1 v2 v3 v4 S) (K : KQ5 S0 S) : P_X4_next_118 (fun T => Q T ∧ KQ5 S0 T) v0 v1 v2 v3 v4 S := h (fun v0 v1 v2 v3 v4 S => KQ5 S0 S → P_X4_next_118 (fun T => Q T ∧ KQ5 S0 T) v0 v1 v2 v3 v4 S) (fun v0 v1 v2 v3 v4 S hB K => fd_X4_next_118 (kqB_X4_next_118 hB K (fun _ _ _ _ _ _ hx K => hx K))) K
set_option maxRecDepth 20000 in
set_option maxHeartbeats 1000000 in
theorem kq_X4_next_114 {Q : HS → Prop} {v0 : Nat} {v1 : Int32} {v2 : Int32} {s0 : Int32} {S0 S : HS} (h : P_X4_next_114 Q v0 v1 v2 s0 S) (K : KQ5 S0 S) : P_X4_next_114 (fun T => Q T ∧ KQ5 S0 T) v0 v1 v2 s0 S := by
  delta P_X4_next_114 at h ⊢
  exact kq_X4_next_118 h K
set_option maxRecDepth 20000 in
set_option maxHeartbeats 1000000 in
theorem kq_X4_next_98 {Q : HS → Prop} {v0 : Nat} {v1 : Int32} {s0 : Int32} {S0 S : HS} (h : P_X4_next_98 Q v0 v1 s0 S) (K : KQ5 S0 S) : P_X4_next_98 (fun T => Q T ∧ KQ5 S0 T) v0 v1 s0 S := by
  delta P_X4_next_98 at h ⊢
  obtain ⟨c1, h⟩ := h
  refine ⟨c1, ?_⟩
  have n2 := kq5_ne K c1
  intro x4 e3
  have h := h x4 e3
  refine ⟨?_, ?_⟩
  · intro c5
    have h := h.1 c5
    exact kq_X4_next_114 h K
  · intro c6
    have h := h.2 c6
    exact kq_X4_next_114 h K
set_option maxRecDepth 20000 in
set_option maxHeartbeats 1000000 in
theorem kq_X4_next_83 {Q : HS → Prop} {v0 : Nat} {s0 : Int32} {S0 S : HS} (h : P_X4_next_83 Q v0 s0 S) (K : KQ5 S0 S) : P_X4_next_83 (fun T => Q T ∧ KQ5 S0 T) v0 s0 S := by
  delta P_X4_next_83 at h ⊢
  obtain ⟨c1, h⟩ := h
  refine ⟨c1, ?_⟩
  have n2 := kq5_ne K c1
  intro x4 e3
  have h := h x4 e3
  refine ⟨?_, ?_⟩
  · intro c5
    have h := h.1 c5
    exact kq_X4_next_98 h K
  · intro c6
    have h := h.2 c6
    exact kq_X4_next_98 h K
set_option maxRecDepth 20000 in
set_option maxHeartbeats 1000000 in
theorem kq_X4_next_78 {Q : HS → Prop} {v0 : Nat} {S0 S : HS} (h : P_X4_next_78 Q v0 S) (K : KQ5 S0 S) : P_X4_next_78 (fun T => Q T ∧ KQ5 S0 T) v0 S := by
  delta P_X4_next_78 at h ⊢
  exact kq_X4_next_83 h K
set_option maxRecDepth 20000 in
set_option maxHeartbeats 1000000 in
theorem kq_X4_next_37 {Q : HS → Prop} {v0 : Nat} {S0 S : HS} (h : P_X4_next_37 Q v0 S) (K : KQ5 S0 S) : P_X4_next_37 (fun T => Q T ∧ KQ5 S0 T) v0 S := by
  delta P_X4_next_37 at h ⊢
  obtain ⟨c1, h⟩ := h
  refine ⟨c1, ?_⟩
  have n2 := kq5_ne K c1
  intro x4 e3
  have h := h x4 e3
  intro x6 e5
  have h := h x6 e5
  have K := kq5_I K e5 n2 (by decide)
  intro x8 e7
  have h := h x8 e7
  refine cm_X4_sortAt (kq_X4_sortAt h) h (fun x9 x10 hp h g11 => ?_)
  have h := h g11
  have K := kq5_tr K hp.2
  intro x13 e12
  have h := h x13 e12
  have K := kq5_I K e12 n2 (by decide)
  intro x15 e14
  have h := h x15 e14
  have K := kq5_J K e14
  intro x17 e16
  have h := h x17 e16
  refine ⟨?_, ?_⟩
  · intro c18
    have h := h.1 c18
    exact kq_X4_next_78 h K
  · intro c19
    have h := h.2 c19
    intro x21 e20
    have h := h x21 e20
    refine ⟨?_, ?_⟩
    · intro c22
      have h := h.1 c22
      exact kq_X4_next_83 h K
    · intro c23
      have h := h.2 c23
      exact kq_X4_next_78 h K
set_option maxRecDepth 20000 in
set_option maxHeartbeats 1000000 in
theorem kqB_X4_next_2 {Q : HS → Prop} {X2 X2_2 : Nat → Int32 → HS → Prop} {v0 : Nat} {v1 : Int32} {S0 S : HS} (h : B_X4_next_2 Q X2 v0 v1 S) (K : KQ5 S0 S) (hX2 : ∀ (u0 : Nat) (u1 : Int32) (u2 : HS), X2 u0 u1 u2 → KQ5 S0 u2 → X2_2 u0 u1 u2) : B_X4_next_2 (fun T => Q T ∧ KQ5 S0 T) X2_2 v0 v1 S := by
  delta B_X4_next_2 at h ⊢
  refine ⟨?_, ?_⟩
  · intro c1
    have h := h.1 c1
    exact kq_X4_next_37 h K
  · intro c2
    have h := h.2 c2
    obtain ⟨c3, h⟩ := h
    refine ⟨c3, ?_⟩
    have n4 := kq5_ne K c3
    intro x6 e5
    have h := h x6 e5
    refine cm_X4_sortAt (kq_X4_sortAt h) h (fun x7 x8 hp h g9 => ?_)
    have h := h g9
    have K := kq5_tr K hp.2
    refine ⟨?_, ?_⟩
    · intro c10
      have h := h.1 c10
      exact kq_X4_next_37 h K
    · intro c11
      have h := h.2 c11
      intro x13 e12
      have h := h x13 e12
      intro x15 e14
      have h := h x15 e14
      intro x17 e16
      have h := h x17 e16
      have K := kq5_I K e16 n4 (by decide)
      intro x19 e18
      have h := h x19 e18
      exact hX2 _ _ _ h K
theorem kq_X4_next_2 {Q : HS → Prop} {v0 : Nat} {v1 : Int32} {S0 S : HS} (h : P_X4_next_2 Q v0 v1 S) (K : KQ5 S0 S) : P_X4_next_2 (fun T => Q T ∧ KQ5 S0 T) v0 v1 S := h (fun v0 v1 S => KQ5 S0 S → P_X4_next_2 (fun T => Q T ∧ KQ5 S0 T) v0 v1 S) (fun v0 v1 S hB K => fd_X4_next_2 (kqB_X4_next_2 hB K (fun _ _ _ hx K => hx K))) K
set_option maxRecDepth 20000 in
set_option maxHeartbeats 1000000 in
theorem kq_X4_next_0 {Q : HS → Prop} {v0 : Nat} {S0 S : HS} (h : P_X4_next_0 Q v0 S) (K : KQ5 S0 S) : P_X4_next_0 (fun T => Q T ∧ KQ5 S0 T) v0 S := by
  delta P_X4_next_0 at h ⊢
  exact kq_X4_next_2 h K
theorem kq_X4_next {Q : HS → Prop} {v0 : Nat} {S : HS} (h : P_X4_next v0 Q S) : P_X4_next v0 (fun T => Q T ∧ KQ5 S T) S := kq_X4_next_0 h (kq5_rf S)
end
section
set_option maxRecDepth 20000 in
set_option maxHeartbeats 1000000 in
theorem kq_X4_whole_34 {Q : Int32 → HS → Prop} {v0 : Nat} {S0 S : HS} (h : P_X4_whole_34 Q v0 S) (K : KQ5 S0 S) : P_X4_whole_34 (fun r T => Q r T ∧ KQ5 S0 T) v0 S := by
  delta P_X4_whole_34 at h ⊢
  obtain ⟨c1, h⟩ := h
  refine ⟨c1, ?_⟩
  have n2 := kq5_ne K c1
  refine cm_X4_fail (kq_X4_fail h) h (fun x3 x4 hp h g5 g6 => ?_)
  have h := h g5 g6
  have K := kq5_tr K hp.2
  obtain ⟨c7, h⟩ := h
  refine ⟨c7, ?_⟩
  exact ⟨h, K⟩
set_option maxRecDepth 20000 in
set_option maxHeartbeats 1000000 in
theorem kq_X4_whole_0 {Q : Int32 → HS → Prop} {v0 : Nat} {v1 : Int32} {v2 : Int32} {S0 S : HS} (h : P_X4_whole_0 Q v0 v1 v2 S) (K : KQ5 S0 S) : P_X4_whole_0 (fun r T => Q r T ∧ KQ5 S0 T) v0 v1 v2 S := by
  delta P_X4_whole_0 at h ⊢
  obtain ⟨c1, h⟩ := h
  refine ⟨c1, ?_⟩
  have n2 := kq5_ne K c1
  intro x4 e3
  have h := h x4 e3
  refine ⟨?_, ?_⟩
  · intro c5
    have h := h.1 c5
    intro x7 e6
    have h := h x7 e6
    refine ⟨?_, ?_⟩
    · intro c8
      have h := h.1 c8
      exact kq_X4_whole_34 h K
    · intro c9
      have h := h.2 c9
      intro x11 e10
      have h := h x11 e10
      refine ⟨?_, ?_⟩
      · intro c12
        have h := h.1 c12
        intro x14 e13
        have h := h x14 e13
        intro x16 e15
        have h := h x16 e15
        intro x18 e17
        have h := h x18 e17
        have K := kq5_I K e17 n2 (by decide)
        refine cm_X4_next (kq_X4_next h) h (fun x19 hp h g20 => ?_)
        have h := h g20
        have K := kq5_tr K hp.2
        exact ⟨h, K⟩
      · intro c21
        have h := h.2 c21
        exact kq_X4_whole_34 h K
  · intro c22
    have h := h.2 c22
    refine cm_X4_fail (kq_X4_fail h) h (fun x23 x24 hp h g25 g26 => ?_)
    have h := h g25 g26
    have K := kq5_tr K hp.2
    obtain ⟨c27, h⟩ := h
    refine ⟨c27, ?_⟩
    exact ⟨h, K⟩
theorem kq_X4_whole {Q : Int32 → HS → Prop} {v0 : Nat} {v1 : Int32} {v2 : Int32} {S : HS} (h : P_X4_whole v0 v1 v2 Q S) : P_X4_whole v0 v1 v2 (fun r T => Q r T ∧ KQ5 S T) S := kq_X4_whole_0 h (kq5_rf S)
set_option maxRecDepth 20000 in
set_option maxHeartbeats 1000000 in
theorem kqB_X4_is_15 {Q : Int32 → HS → Prop} {X15 X15_2 : Nat → Nat → Int64 → Int32 → HS → Prop} {v0 : Nat} {v1 : Nat} {v2 : Int64} {v4 : Int32} {S0 S : HS} (h : B_X4_is_15 Q X15 v0 v1 v2 v4 S) (K : KQ5 S0 S) (hX15 : ∀ (u0 : Nat) (u1 : Nat) (u2 : Int64) (u3 : Int32) (u4 : HS), X15 u0 u1 u2 u3 u4 → KQ5 S0 u4 → X15_2 u0 u1 u2 u3 u4) : B_X4_is_15 (fun r T => Q r T ∧ KQ5 S0 T) X15_2 v0 v1 v2 v4 S := by
  delta B_X4_is_15 at h ⊢
  obtain ⟨c1, h⟩ := h
  refine ⟨c1, ?_⟩
  intro x3 e2
  have h := h x3 e2
  refine ⟨?_, ?_⟩
  · intro c4
    have h := h.1 c4
    obtain ⟨c5, h⟩ := h
    refine ⟨c5, ?_⟩
    have n6 := kq5_ne K c5
    intro x8 e7
    have h := h x8 e7
    refine ⟨?_, ?_⟩
    · intro c9
      have h := h.1 c9
      exact ⟨h, K⟩
    · intro c10
      have h := h.2 c10
      exact ⟨h, K⟩
  · intro c11
    have h := h.2 c11
    obtain ⟨c12, h⟩ := h
    refine ⟨c12, ?_⟩
    obtain ⟨c13, h⟩ := h
    refine ⟨c13, ?_⟩
    intro x15 e14
    have h := h x15 e14
    intro x17 e16
    have h := h x17 e16
    intro x19 e18
    have h := h x19 e18
    exact hX15 _ _ _ _ _ h K
theorem kq_X4_is_15 {Q : Int32 → HS → Prop} {v0 : Nat} {v1 : Nat} {v2 : Int64} {v4 : Int32} {S0 S : HS} (h : P_X4_is_15 Q v0 v1 v2 v4 S) (K : KQ5 S0 S) : P_X4_is_15 (fun r T => Q r T ∧ KQ5 S0 T) v0 v1 v2 v4 S := h (fun v0 v1 v2 v4 S => KQ5 S0 S → P_X4_is_15 (fun r T => Q r T ∧ KQ5 S0 T) v0 v1 v2 v4 S) (fun v0 v1 v2 v4 S hB K => fd_X4_is_15 (kqB_X4_is_15 hB K (fun _ _ _ _ _ hx K => hx K))) K
set_option maxRecDepth 20000 in
set_option maxHeartbeats 1000000 in
theorem kq_X4_is_0 {Q : Int32 → HS → Prop} {v0 : Nat} {v1 : Nat} {S0 S : HS} (h : P_X4_is_0 Q v0 v1 S) (K : KQ5 S0 S) : P_X4_is_0 (fun r T => Q r T ∧ KQ5 S0 T) v0 v1 S := by
  delta P_X4_is_0 at h ⊢
  obtain ⟨c1, h⟩ := h
  refine ⟨c1, ?_⟩
  have n2 := kq5_ne K c1
  intro x4 e3
  have h := h x4 e3
  refine ⟨?_, ?_⟩
  · intro c5
    have h := h.1 c5
    exact kq_X4_is_15 h K
  · intro c6
    have h := h.2 c6
    exact ⟨h, K⟩
theorem kq_X4_is {Q : Int32 → HS → Prop} {v0 : Nat} {v1 : Nat} {S : HS} (h : P_X4_is v0 v1 Q S) : P_X4_is v0 v1 (fun r T => Q r T ∧ KQ5 S T) S := kq_X4_is_0 h (kq5_rf S)
set_option maxRecDepth 20000 in
set_option maxHeartbeats 1000000 in
theorem kq_X4_word_0 {Q : Int32 → HS → Prop} {v0 : Nat} {v1 : Nat} {S0 S : HS} (h : P_X4_word_0 Q v0 v1 S) (K : KQ5 S0 S) : P_X4_word_0 (fun r T => Q r T ∧ KQ5 S0 T) v0 v1 S := by
  delta P_X4_word_0 at h ⊢
  obtain ⟨c1, h⟩ := h
  refine ⟨c1, ?_⟩
  have n2 := kq5_ne K c1
  refine cm_X4_is (kq_X4_is h) h (fun x3 x4 hp h g5 g6 => ?_)
  have h := h g5 g6
  have K := kq5_tr K hp.2
  refine ⟨?_, ?_⟩
  · intro c7
    have h := h.1 c7
    refine cm_X4_next (kq_X4_next h) h (fun x8 hp h g9 => ?_)
    have h := h g9
    have K := kq5_tr K hp.2
    exact ⟨h, K⟩
  · intro c10
    have h := h.2 c10
    refine cm_X4_fail (kq_X4_fail h) h (fun x11 x12 hp h g13 g14 => ?_)
    have h := h g13 g14
    have K := kq5_tr K hp.2
    obtain ⟨c15, h⟩ := h
    refine ⟨c15, ?_⟩
    exact ⟨h, K⟩
theorem kq_X4_word {Q : Int32 → HS → Prop} {v0 : Nat} {v1 : Nat} {S : HS} (h : P_X4_word v0 v1 Q S) : P_X4_word v0 v1 (fun r T => Q r T ∧ KQ5 S T) S := kq_X4_word_0 h (kq5_rf S)
set_option maxRecDepth 20000 in
set_option maxHeartbeats 1000000 in
theorem kq_X4_wordAndWhole_0 {Q : Int32 → HS → Prop} {v0 : Nat} {v1 : Nat} {v2 : Int32} {v3 : Int32} {S0 S : HS} (h : P_X4_wordAndWhole_0 Q v0 v1 v2 v3 S) (K : KQ5 S0 S) : P_X4_wordAndWhole_0 (fun r T => Q r T ∧ KQ5 S0 T) v0 v1 v2 v3 S := by
  delta P_X4_wordAndWhole_0 at h ⊢
  obtain ⟨c1, h⟩ := h
  refine ⟨c1, ?_⟩
  have n2 := kq5_ne K c1
  refine cm_X4_word (kq_X4_word h) h (fun x3 x4 hp h g5 g6 => ?_)
  have h := h g5 g6
  have K := kq5_tr K hp.2
  refine ⟨?_, ?_⟩
  · intro c7
    have h := h.1 c7
    exact ⟨h, K⟩
  · intro c8
    have h := h.2 c8
    refine cm_X4_whole (kq_X4_whole h) h (fun x9 x10 hp h g11 g12 => ?_)
    have h := h g11 g12
    have K := kq5_tr K hp.2
    refine ⟨?_, ?_⟩
    · intro c13
      have h := h.1 c13
      exact ⟨h, K⟩
    · intro c14
      have h := h.2 c14
      exact ⟨h, K⟩
theorem kq_X4_wordAndWhole {Q : Int32 → HS → Prop} {v0 : Nat} {v1 : Nat} {v2 : Int32} {v3 : Int32} {S : HS} (h : P_X4_wordAndWhole v0 v1 v2 v3 Q S) : P_X4_wordAndWhole v0 v1 v2 v3 (fun r T => Q r T ∧ KQ5 S T) S := kq_X4_wordAndWhole_0 h (kq5_rf S)
set_option maxRecDepth 20000 in
set_option maxHeartbeats 1000000 in
theorem kq_X6_shape_16 {Q : HS → Prop} {v0 : Nat} {v1 : Int32} {v2 : Int32} {v3 : Int32} {s0 : Int32} {S0 S : HS} (h : P_X6_shape_16 Q v0 v1 v2 v3 s0 S) (K : KQ5 S0 S) : P_X6_shape_16 (fun T => Q T ∧ KQ5 S0 T) v0 v1 v2 v3 s0 S := by
  delta P_X6_shape_16 at h ⊢
  obtain ⟨c1, h⟩ := h
  refine ⟨c1, ?_⟩
  have n2 := kq5_ne K c1
  intro x4 e3
  have h := h x4 e3
  intro x6 e5
  have h := h x6 e5
  have K := kq5_I K e5 n2 (by decide)
  intro x8 e7
  have h := h x8 e7
  intro x10 e9
  have h := h x10 e9
  have K := kq5_I K e9 n2 (by decide)
  intro x12 e11
  have h := h x12 e11
  intro x14 e13
  have h := h x14 e13
  have K := kq5_I K e13 n2 (by decide)
  exact ⟨h, K⟩
set_option maxRecDepth 20000 in
set_option maxHeartbeats 1000000 in
theorem kq_X6_shape_0 {Q : HS → Prop} {v0 : Nat} {v1 : Int32} {v2 : Int32} {v3 : Int32} {S0 S : HS} (h : P_X6_shape_0 Q v0 v1 v2 v3 S) (K : KQ5 S0 S) : P_X6_shape_0 (fun T => Q T ∧ KQ5 S0 T) v0 v1 v2 v3 S := by
  delta P_X6_shape_0 at h ⊢
  obtain ⟨c1, h⟩ := h
  refine ⟨c1, ?_⟩
  have n2 := kq5_ne K c1
  intro x4 e3
  have h := h x4 e3
  refine ⟨?_, ?_⟩
  · intro c5
    have h := h.1 c5
    exact kq_X6_shape_16 h K
  · intro c6
    have h := h.2 c6
    intro x8 e7
    have h := h x8 e7
    exact kq_X6_shape_16 h K
theorem kq_X6_shape {Q : HS → Prop} {v0 : Nat} {v1 : Int32} {v2 : Int32} {v3 : Int32} {S : HS} (h : P_X6_shape v0 v1 v2 v3 Q S) : P_X6_shape v0 v1 v2 v3 (fun T => Q T ∧ KQ5 S T) S := kq_X6_shape_0 h (kq5_rf S)
set_option maxRecDepth 20000 in
set_option maxHeartbeats 1000000 in
theorem kq_X4_bodyOf_58 {Q : Int32 → HS → Prop} {v0 : Nat} {v1 : Nat} {v2 : Int32} {v3 : Int32} {s0 : Int32} {S0 S : HS} (h : P_X4_bodyOf_58 Q v0 v1 v2 v3 s0 S) (K : KQ5 S0 S) : P_X4_bodyOf_58 (fun r T => Q r T ∧ KQ5 S0 T) v0 v1 v2 v3 s0 S := by
  delta P_X4_bodyOf_58 at h ⊢
  obtain ⟨c1, h⟩ := h
  refine ⟨c1, ?_⟩
  have n2 := kq5_ne K c1
  refine cm_X4_wordAndWhole (kq_X4_wordAndWhole h) h (fun x3 x4 hp h g5 g6 => ?_)
  have h := h g5 g6
  have K := kq5_tr K hp.2
  refine ⟨?_, ?_⟩
  · intro c7
    have h := h.1 c7
    intro x9 e8
    have h := h x9 e8
    obtain ⟨c10, h⟩ := h
    refine ⟨c10, ?_⟩
    have n11 := kq5_ne K c10
    refine cm_X6_shape (kq_X6_shape h) h (fun x12 hp h g13 => ?_)
    have h := h g13
    have K := kq5_tr K hp.2
    exact ⟨h, K⟩
  · intro c14
    have h := h.2 c14
    exact ⟨h, K⟩
set_option maxRecDepth 20000 in
set_option maxHeartbeats 1000000 in
theorem kq_X4_bodyOf_0 {Q : Int32 → HS → Prop} {v0 : Nat} {v1 : Nat} {S0 S : HS} (h : P_X4_bodyOf_0 Q v0 v1 S) (K : KQ5 S0 S) : P_X4_bodyOf_0 (fun r T => Q r T ∧ KQ5 S0 T) v0 v1 S := by
  delta P_X4_bodyOf_0 at h ⊢
  obtain ⟨c1, h⟩ := h
  refine ⟨c1, ?_⟩
  have n2 := kq5_ne K c1
  refine cm_X4_wordAndWhole (kq_X4_wordAndWhole h) h (fun x3 x4 hp h g5 g6 => ?_)
  have h := h g5 g6
  have K := kq5_tr K hp.2
  refine ⟨?_, ?_⟩
  · intro c7
    have h := h.1 c7
    intro x9 e8
    have h := h x9 e8
    refine cm_X4_wordAndWhole (kq_X4_wordAndWhole h) h (fun x10 x11 hp h g12 g13 => ?_)
    have h := h g12 g13
    have K := kq5_tr K hp.2
    refine ⟨?_, ?_⟩
    · intro c14
      have h := h.1 c14
      intro x16 e15
      have h := h x16 e15
      obtain ⟨c17, h⟩ := h
      refine ⟨c17, ?_⟩
      have n18 := kq5_ne K c17
      intro x20 e19
      have h := h x20 e19
      refine ⟨?_, ?_⟩
      · intro c21
        have h := h.1 c21
        exact kq_X4_bodyOf_58 h K
      · intro c22
        have h := h.2 c22
        intro x24 e23
        have h := h x24 e23
        exact kq_X4_bodyOf_58 h K
    · intro c25
      have h := h.2 c25
      exact ⟨h, K⟩
  · intro c26
    have h := h.2 c26
    exact ⟨h, K⟩
theorem kq_X4_bodyOf {Q : Int32 → HS → Prop} {v0 : Nat} {v1 : Nat} {S : HS} (h : P_X4_bodyOf v0 v1 Q S) : P_X4_bodyOf v0 v1 (fun r T => Q r T ∧ KQ5 S T) S := kq_X4_bodyOf_0 h (kq5_rf S)
set_option maxRecDepth 20000 in
set_option maxHeartbeats 1000000 in
theorem kq_X4_canBeName_86 {Q : Int32 → HS → Prop} {v0 : Nat} {s0 : Int32} {S0 S : HS} (h : P_X4_canBeName_86 Q v0 s0 S) (K : KQ5 S0 S) : P_X4_canBeName_86 (fun r T => Q r T ∧ KQ5 S0 T) v0 s0 S := by
  delta P_X4_canBeName_86 at h ⊢
  obtain ⟨c1, h⟩ := h
  refine ⟨c1, ?_⟩
  have n2 := kq5_ne K c1
  intro x4 e3
  have h := h x4 e3
  refine ⟨?_, ?_⟩
  · intro c5
    have h := h.1 c5
    exact ⟨h, K⟩
  · intro c6
    have h := h.2 c6
    refine ⟨?_, ?_⟩
    · intro c7
      have h := h.1 c7
      exact ⟨h, K⟩
    · intro c8
      have h := h.2 c8
      exact ⟨h, K⟩
set_option maxRecDepth 20000 in
set_option maxHeartbeats 1000000 in
theorem kq_X4_canBeName_81 {Q : Int32 → HS → Prop} {v0 : Nat} {S0 S : HS} (h : P_X4_canBeName_81 Q v0 S) (K : KQ5 S0 S) : P_X4_canBeName_81 (fun r T => Q r T ∧ KQ5 S0 T) v0 S := by
  delta P_X4_canBeName_81 at h ⊢
  exact kq_X4_canBeName_86 h K
set_option maxRecDepth 20000 in
set_option maxHeartbeats 1000000 in
theorem kq_X4_canBeName_0 {Q : Int32 → HS → Prop} {v0 : Nat} {S0 S : HS} (h : P_X4_canBeName_0 Q v0 S) (K : KQ5 S0 S) : P_X4_canBeName_0 (fun r T => Q r T ∧ KQ5 S0 T) v0 S := by
  delta P_X4_canBeName_0 at h ⊢
  obtain ⟨c1, h⟩ := h
  refine ⟨c1, ?_⟩
  have n2 := kq5_ne K c1
  refine cm_X4_is (kq_X4_is h) h (fun x3 x4 hp h g5 g6 => ?_)
  have h := h g5 g6
  have K := kq5_tr K hp.2
  refine ⟨?_, ?_⟩
  · intro c7
    have h := h.1 c7
    exact kq_X4_canBeName_81 h K
  · intro c8
    have h := h.2 c8
    refine cm_X4_is (kq_X4_is h) h (fun x9 x10 hp h g11 g12 => ?_)
    have h := h g11 g12
    have K := kq5_tr K hp.2
    refine ⟨?_, ?_⟩
    · intro c13
      have h := h.1 c13
      exact kq_X4_canBeName_81 h K
    · intro c14
      have h := h.2 c14
      refine cm_X4_is (kq_X4_is h) h (fun x15 x16 hp h g17 g18 => ?_)
      have h := h g17 g18
      have K := kq5_tr K hp.2
      refine ⟨?_, ?_⟩
      · intro c19
        have h := h.1 c19
        exact kq_X4_canBeName_81 h K
      · intro c20
        have h := h.2 c20
        refine cm_X4_is (kq_X4_is h) h (fun x21 x22 hp h g23 g24 => ?_)
        have h := h g23 g24
        have K := kq5_tr K hp.2
        refine ⟨?_, ?_⟩
        · intro c25
          have h := h.1 c25
          exact kq_X4_canBeName_81 h K
        · intro c26
          have h := h.2 c26
          refine cm_X4_is (kq_X4_is h) h (fun x27 x28 hp h g29 g30 => ?_)
          have h := h g29 g30
          have K := kq5_tr K hp.2
          refine ⟨?_, ?_⟩
          · intro c31
            have h := h.1 c31
            exact kq_X4_canBeName_81 h K
          · intro c32
            have h := h.2 c32
            refine cm_X4_is (kq_X4_is h) h (fun x33 x34 hp h g35 g36 => ?_)
            have h := h g35 g36
            have K := kq5_tr K hp.2
            refine ⟨?_, ?_⟩
            · intro c37
              have h := h.1 c37
              exact kq_X4_canBeName_81 h K
            · intro c38
              have h := h.2 c38
              refine cm_X4_is (kq_X4_is h) h (fun x39 x40 hp h g41 g42 => ?_)
              have h := h g41 g42
              have K := kq5_tr K hp.2
              refine ⟨?_, ?_⟩
              · intro c43
                have h := h.1 c43
                exact kq_X4_canBeName_81 h K
              · intro c44
                have h := h.2 c44
                refine cm_X4_is (kq_X4_is h) h (fun x45 x46 hp h g47 g48 => ?_)
                have h := h g47 g48
                have K := kq5_tr K hp.2
                refine ⟨?_, ?_⟩
                · intro c49
                  have h := h.1 c49
                  exact kq_X4_canBeName_81 h K
                · intro c50
                  have h := h.2 c50
                  refine cm_X4_is (kq_X4_is h) h (fun x51 x52 hp h g53 g54 => ?_)
                  have h := h g53 g54
                  have K := kq5_tr K hp.2
                  refine ⟨?_, ?_⟩
                  · intro c55
                    have h := h.1 c55
                    exact kq_X4_canBeName_86 h K
                  · intro c56
                    have h := h.2 c56
                    exact kq_X4_canBeName_81 h K
theorem kq_X4_canBeName {Q : Int32 → HS → Prop} {v0 : Nat} {S : HS} (h : P_X4_canBeName v0 Q S) : P_X4_canBeName v0 (fun r T => Q r T ∧ KQ5 S T) S := kq_X4_canBeName_0 h (kq5_rf S)
set_option maxRecDepth 20000 in
set_option maxHeartbeats 1000000 in
theorem kq_X4_exchange_0 {Q : Nat → HS → Prop} {v0 : Nat} {v1 : Nat} {S0 S : HS} (h : P_X4_exchange_0 Q v0 v1 S) (K : KQ5 S0 S) : P_X4_exchange_0 (fun r T => Q r T ∧ KQ5 S0 T) v0 v1 S := by
  delta P_X4_exchange_0 at h ⊢
  obtain ⟨c1, h⟩ := h
  refine ⟨c1, ?_⟩
  have n2 := kq5_ne K c1
  obtain ⟨b3, e4, h⟩ := h
  refine ⟨b3, e4, ?_⟩
  intro x6 e5
  have h := h x6 e5
  have K := kq5_R K e5
  exact ⟨h, K⟩
theorem kq_X4_exchange {Q : Nat → HS → Prop} {v0 : Nat} {v1 : Nat} {S : HS} (h : P_X4_exchange v0 v1 Q S) : P_X4_exchange v0 v1 (fun r T => Q r T ∧ KQ5 S T) S := kq_X4_exchange_0 h (kq5_rf S)
set_option maxRecDepth 20000 in
set_option maxHeartbeats 1000000 in
theorem kqB_X4_findName_2 {Q : Int32 → HS → Prop} {X2 X2_2 : Nat → Int32 → HS → Prop} {v0 : Nat} {v1 : Int32} {S0 S : HS} (h : B_X4_findName_2 Q X2 v0 v1 S) (K : KQ5 S0 S) (hX2 : ∀ (u0 : Nat) (u1 : Int32) (u2 : HS), X2 u0 u1 u2 → KQ5 S0 u2 → X2_2 u0 u1 u2) : B_X4_findName_2 (fun r T => Q r T ∧ KQ5 S0 T) X2_2 v0 v1 S := by
  delta B_X4_findName_2 at h ⊢
  obtain ⟨c1, h⟩ := h
  refine ⟨c1, ?_⟩
  have n2 := kq5_ne K c1
  intro x4 e3
  have h := h x4 e3
  refine ⟨?_, ?_⟩
  · intro c5
    have h := h.1 c5
    exact ⟨h, K⟩
  · intro c6
    have h := h.2 c6
    refine ⟨?_, ?_⟩
    · intro c7
      have h := h.1 c7
      exact ⟨h, K⟩
    · intro c8
      have h := h.2 c8
      obtain ⟨b9, e10, h⟩ := h
      refine ⟨b9, e10, ?_⟩
      obtain ⟨c11, h⟩ := h
      refine ⟨c11, ?_⟩
      have n12 := kq5_ne K c11
      obtain ⟨c13, h⟩ := h
      refine ⟨c13, ?_⟩
      intro x15 e14
      have h := h x15 e14
      intro x17 e16
      have h := h x17 e16
      refine ⟨?_, ?_⟩
      · intro c18
        have h := h.1 c18
        intro x20 e19
        have h := h x20 e19
        exact hX2 _ _ _ h K
      · intro c21
        have h := h.2 c21
        obtain ⟨b22, e23, h⟩ := h
        refine ⟨b22, e23, ?_⟩
        obtain ⟨c24, h⟩ := h
        refine ⟨c24, ?_⟩
        have n25 := kq5_ne K c24
        obtain ⟨c26, h⟩ := h
        refine ⟨c26, ?_⟩
        intro x28 e27
        have h := h x28 e27
        exact ⟨h, K⟩
theorem kq_X4_findName_2 {Q : Int32 → HS → Prop} {v0 : Nat} {v1 : Int32} {S0 S : HS} (h : P_X4_findName_2 Q v0 v1 S) (K : KQ5 S0 S) : P_X4_findName_2 (fun r T => Q r T ∧ KQ5 S0 T) v0 v1 S := h (fun v0 v1 S => KQ5 S0 S → P_X4_findName_2 (fun r T => Q r T ∧ KQ5 S0 T) v0 v1 S) (fun v0 v1 S hB K => fd_X4_findName_2 (kqB_X4_findName_2 hB K (fun _ _ _ hx K => hx K))) K
set_option maxRecDepth 20000 in
set_option maxHeartbeats 1000000 in
theorem kq_X4_findName_0 {Q : Int32 → HS → Prop} {v0 : Nat} {S0 S : HS} (h : P_X4_findName_0 Q v0 S) (K : KQ5 S0 S) : P_X4_findName_0 (fun r T => Q r T ∧ KQ5 S0 T) v0 S := by
  delta P_X4_findName_0 at h ⊢
  exact kq_X4_findName_2 h K
theorem kq_X4_findName {Q : Int32 → HS → Prop} {v0 : Nat} {S : HS} (h : P_X4_findName v0 Q S) : P_X4_findName v0 (fun r T => Q r T ∧ KQ5 S T) S := kq_X4_findName_0 h (kq5_rf S)
set_option maxRecDepth 20000 in
set_option maxHeartbeats 1000000 in
theorem kq_X8_isTold_0 {Q : Int32 → HS → Prop} {v0 : Nat} {S0 S : HS} (h : P_X8_isTold_0 Q v0 S) (K : KQ5 S0 S) : P_X8_isTold_0 (fun r T => Q r T ∧ KQ5 S0 T) v0 S := by
  delta P_X8_isTold_0 at h ⊢
  obtain ⟨c1, h⟩ := h
  refine ⟨c1, ?_⟩
  have n2 := kq5_ne K c1
  intro x4 e3
  have h := h x4 e3
  refine ⟨?_, ?_⟩
  · intro c5
    have h := h.1 c5
    exact ⟨h, K⟩
  · intro c6
    have h := h.2 c6
    exact ⟨h, K⟩
theorem kq_X8_isTold {Q : Int32 → HS → Prop} {v0 : Nat} {S : HS} (h : P_X8_isTold v0 Q S) : P_X8_isTold v0 (fun r T => Q r T ∧ KQ5 S T) S := kq_X8_isTold_0 h (kq5_rf S)
set_option maxRecDepth 20000 in
set_option maxHeartbeats 1000000 in
theorem kq_X4_hasRoom_0 {Q : Int32 → HS → Prop} {v0 : Nat} {v1 : Int32} {v2 : Int32} {S0 S : HS} (h : P_X4_hasRoom_0 Q v0 v1 v2 S) (K : KQ5 S0 S) : P_X4_hasRoom_0 (fun r T => Q r T ∧ KQ5 S0 T) v0 v1 v2 S := by
  delta P_X4_hasRoom_0 at h ⊢
  obtain ⟨c1, h⟩ := h
  refine ⟨c1, ?_⟩
  have n2 := kq5_ne K c1
  obtain ⟨b3, e4, h⟩ := h
  refine ⟨b3, e4, ?_⟩
  obtain ⟨c5, h⟩ := h
  refine ⟨c5, ?_⟩
  have n6 := kq5_ne K c5
  refine cm_X8_isTold (kq_X8_isTold h) h (fun x7 x8 hp h g9 g10 => ?_)
  have h := h g9 g10
  have K := kq5_tr K hp.2
  refine ⟨?_, ?_⟩
  · intro c11
    have h := h.1 c11
    refine ⟨?_, ?_⟩
    · intro c12
      have h := h.1 c12
      refine cm_X4_next (kq_X4_next h) h (fun x13 hp h g14 => ?_)
      have h := h g14
      have K := kq5_tr K hp.2
      exact ⟨h, K⟩
    · intro c15
      have h := h.2 c15
      refine cm_X4_fail (kq_X4_fail h) h (fun x16 x17 hp h g18 g19 => ?_)
      have h := h g18 g19
      have K := kq5_tr K hp.2
      obtain ⟨c20, h⟩ := h
      refine ⟨c20, ?_⟩
      exact ⟨h, K⟩
  · intro c21
    have h := h.2 c21
    refine cm_X4_fail (kq_X4_fail h) h (fun x22 x23 hp h g24 g25 => ?_)
    have h := h g24 g25
    have K := kq5_tr K hp.2
    obtain ⟨c26, h⟩ := h
    refine ⟨c26, ?_⟩
    exact ⟨h, K⟩
theorem kq_X4_hasRoom {Q : Int32 → HS → Prop} {v0 : Nat} {v1 : Int32} {v2 : Int32} {S : HS} (h : P_X4_hasRoom v0 v1 v2 Q S) : P_X4_hasRoom v0 v1 v2 (fun r T => Q r T ∧ KQ5 S T) S := kq_X4_hasRoom_0 h (kq5_rf S)
set_option maxRecDepth 20000 in
set_option maxHeartbeats 1000000 in
theorem kq_X5_init_0 {Q : HS → Prop} {v0 : Nat} {S0 S : HS} (h : P_X5_init_0 Q v0 S) (K : KQ5 S0 S) : P_X5_init_0 (fun T => Q T ∧ KQ5 S0 T) v0 S := by
  delta P_X5_init_0 at h ⊢
  exact ⟨h, K⟩
theorem kq_X5_init {Q : HS → Prop} {v0 : Nat} {S : HS} (h : P_X5_init v0 Q S) : P_X5_init v0 (fun T => Q T ∧ KQ5 S T) S := kq_X5_init_0 h (kq5_rf S)
set_option maxRecDepth 20000 in
set_option maxHeartbeats 1000000 in
theorem kq_X6_init_0 {Q : HS → Prop} {v0 : Nat} {S0 S : HS} (h : P_X6_init_0 Q v0 S) (K : KQ5 S0 S) : P_X6_init_0 (fun T => Q T ∧ KQ5 S0 T) v0 S := by
  delta P_X6_init_0 at h ⊢
  exact ⟨h, K⟩
theorem kq_X6_init {Q : HS → Prop} {v0 : Nat} {S : HS} (h : P_X6_init v0 Q S) : P_X6_init v0 (fun T => Q T ∧ KQ5 S T) S := kq_X6_init_0 h (kq5_rf S)
set_option maxRecDepth 20000 in
set_option maxHeartbeats 1000000 in
theorem kqB_X8_init_115 {Q : HS → Prop} {X115 X115_2 : Nat → Int32 → Nat → Nat → HS → Prop} {v0 : Nat} {v1 : Int32} {kk : Nat} {nn : Nat} {S0 S : HS} (h : B_X8_init_115 Q X115 v0 v1 kk nn S) (K : KQ5 S0 S) (hX115 : ∀ (u0 : Nat) (u1 : Int32) (u2 : Nat) (u3 : Nat) (u4 : HS), X115 u0 u1 u2 u3 u4 → KQ5 S0 u4 → X115_2 u0 u1 u2 u3 u4) : B_X8_init_115 (fun T => Q T ∧ KQ5 S0 T) X115_2 v0 v1 kk nn S := by
  delta B_X8_init_115 at h ⊢
  obtain ⟨c1, h⟩ := h
  refine ⟨c1, ?_⟩
  have n2 := kq5_ne K c1
  obtain ⟨b3, e4, h⟩ := h
  refine ⟨b3, e4, ?_⟩
  obtain ⟨c5, h⟩ := h
  refine ⟨c5, ?_⟩
  have n6 := kq5_ne K c5
  refine ⟨?_, ?_⟩
  · intro c7
    have h := h.1 c7
    obtain ⟨c8, h⟩ := h
    refine ⟨c8, ?_⟩
    obtain ⟨c9, h⟩ := h
    refine ⟨c9, ?_⟩
    exact ⟨h, K⟩
  · intro c10
    have h := h.2 c10
    obtain ⟨b11, e12, h⟩ := h
    refine ⟨b11, e12, ?_⟩
    obtain ⟨c13, h⟩ := h
    refine ⟨c13, ?_⟩
    obtain ⟨c14, h⟩ := h
    refine ⟨c14, ?_⟩
    intro x16 e15
    have h := h x16 e15
    intro x18 e17
    have h := h x18 e17
    have K := kq5_W K e15 e17
    obtain ⟨c19, h⟩ := h
    refine ⟨c19, ?_⟩
    obtain ⟨c20, h⟩ := h
    refine ⟨c20, ?_⟩
    refine cm_X6_init (kq_X6_init h) h (fun x21 hp h g22 => ?_)
    have h := h g22
    have K := kq5_tr K hp.2
    obtain ⟨c23, h⟩ := h
    refine ⟨c23, ?_⟩
    have n24 := kq5_ne K c23
    obtain ⟨c25, h⟩ := h
    refine ⟨c25, ?_⟩
    intro x27 e26
    have h := h x27 e26
    have K := kq5_R K e26
    intro x29 e28
    have h := h x29 e28
    exact hX115 _ _ _ _ _ h K
theorem kq_X8_init_115 {Q : HS → Prop} {v0 : Nat} {v1 : Int32} {kk : Nat} {nn : Nat} {S0 S : HS} (h : P_X8_init_115 Q v0 v1 kk nn S) (K : KQ5 S0 S) : P_X8_init_115 (fun T => Q T ∧ KQ5 S0 T) v0 v1 kk nn S := h (fun v0 v1 kk nn S => KQ5 S0 S → P_X8_init_115 (fun T => Q T ∧ KQ5 S0 T) v0 v1 kk nn S) (fun v0 v1 kk nn S hB K => fd_X8_init_115 (kqB_X8_init_115 hB K (fun _ _ _ _ _ hx K => hx K))) K
set_option maxRecDepth 20000 in
set_option maxHeartbeats 1000000 in
theorem kqB_X8_init_85 {Q : HS → Prop} {X85 X85_2 : Nat → Int32 → Nat → Nat → HS → Prop} {v0 : Nat} {v1 : Int32} {kk : Nat} {nn : Nat} {S0 S : HS} (h : B_X8_init_85 Q X85 v0 v1 kk nn S) (K : KQ5 S0 S) (hX85 : ∀ (u0 : Nat) (u1 : Int32) (u2 : Nat) (u3 : Nat) (u4 : HS), X85 u0 u1 u2 u3 u4 → KQ5 S0 u4 → X85_2 u0 u1 u2 u3 u4) : B_X8_init_85 (fun T => Q T ∧ KQ5 S0 T) X85_2 v0 v1 kk nn S := by
  delta B_X8_init_85 at h ⊢
  obtain ⟨c1, h⟩ := h
  refine ⟨c1, ?_⟩
  have n2 := kq5_ne K c1
  obtain ⟨b3, e4, h⟩ := h
  refine ⟨b3, e4, ?_⟩
  obtain ⟨c5, h⟩ := h
  refine ⟨c5, ?_⟩
  have n6 := kq5_ne K c5
  refine ⟨?_, ?_⟩
  · intro c7
    have h := h.1 c7
    exact kq_X8_init_115 h K
  · intro c8
    have h := h.2 c8
    obtain ⟨b9, e10, h⟩ := h
    refine ⟨b9, e10, ?_⟩
    obtain ⟨c11, h⟩ := h
    refine ⟨c11, ?_⟩
    obtain ⟨c12, h⟩ := h
    refine ⟨c12, ?_⟩
    intro x14 e13
    have h := h x14 e13
    intro x16 e15
    have h := h x16 e15
    have K := kq5_W K e13 e15
    obtain ⟨c17, h⟩ := h
    refine ⟨c17, ?_⟩
    obtain ⟨c18, h⟩ := h
    refine ⟨c18, ?_⟩
    refine cm_X5_init (kq_X5_init h) h (fun x19 hp h g20 => ?_)
    have h := h g20
    have K := kq5_tr K hp.2
    obtain ⟨c21, h⟩ := h
    refine ⟨c21, ?_⟩
    have n22 := kq5_ne K c21
    obtain ⟨c23, h⟩ := h
    refine ⟨c23, ?_⟩
    intro x25 e24
    have h := h x25 e24
    have K := kq5_R K e24
    intro x27 e26
    have h := h x27 e26
    exact hX85 _ _ _ _ _ h K
theorem kq_X8_init_85 {Q : HS → Prop} {v0 : Nat} {v1 : Int32} {kk : Nat} {nn : Nat} {S0 S : HS} (h : P_X8_init_85 Q v0 v1 kk nn S) (K : KQ5 S0 S) : P_X8_init_85 (fun T => Q T ∧ KQ5 S0 T) v0 v1 kk nn S := h (fun v0 v1 kk nn S => KQ5 S0 S → P_X8_init_85 (fun T => Q T ∧ KQ5 S0 T) v0 v1 kk nn S) (fun v0 v1 kk nn S hB K => fd_X8_init_85 (kqB_X8_init_85 hB K (fun _ _ _ _ _ hx K => hx K))) K
set_option maxRecDepth 20000 in
set_option maxHeartbeats 1000000 in
theorem kqB_X8_init_55 {Q : HS → Prop} {X55 X55_2 : Nat → Int32 → Nat → Nat → HS → Prop} {v0 : Nat} {v1 : Int32} {kk : Nat} {nn : Nat} {S0 S : HS} (h : B_X8_init_55 Q X55 v0 v1 kk nn S) (K : KQ5 S0 S) (hX55 : ∀ (u0 : Nat) (u1 : Int32) (u2 : Nat) (u3 : Nat) (u4 : HS), X55 u0 u1 u2 u3 u4 → KQ5 S0 u4 → X55_2 u0 u1 u2 u3 u4) : B_X8_init_55 (fun T => Q T ∧ KQ5 S0 T) X55_2 v0 v1 kk nn S := by
  delta B_X8_init_55 at h ⊢
  obtain ⟨c1, h⟩ := h
  refine ⟨c1, ?_⟩
  have n2 := kq5_ne K c1
  obtain ⟨b3, e4, h⟩ := h
  refine ⟨b3, e4, ?_⟩
  obtain ⟨c5, h⟩ := h
  refine ⟨c5, ?_⟩
  have n6 := kq5_ne K c5
  refine ⟨?_, ?_⟩
  · intro c7
    have h := h.1 c7
    exact kq_X8_init_85 h K
  · intro c8
    have h := h.2 c8
    obtain ⟨b9, e10, h⟩ := h
    refine ⟨b9, e10, ?_⟩
    obtain ⟨c11, h⟩ := h
    refine ⟨c11, ?_⟩
    obtain ⟨c12, h⟩ := h
    refine ⟨c12, ?_⟩
    intro x14 e13
    have h := h x14 e13
    intro x16 e15
    have h := h x16 e15
    have K := kq5_W K e13 e15
    obtain ⟨c17, h⟩ := h
    refine ⟨c17, ?_⟩
    obtain ⟨c18, h⟩ := h
    refine ⟨c18, ?_⟩
    refine cm_X3_init (kq_X3_init h) h (fun x19 hp h g20 => ?_)
    have h := h g20
    have K := kq5_tr K hp.2
    obtain ⟨c21, h⟩ := h
    refine ⟨c21, ?_⟩
    have n22 := kq5_ne K c21
    obtain ⟨c23, h⟩ := h
    refine ⟨c23, ?_⟩
    intro x25 e24
    have h := h x25 e24
    have K := kq5_R K e24
    intro x27 e26
    have h := h x27 e26
    exact hX55 _ _ _ _ _ h K
theorem kq_X8_init_55 {Q : HS → Prop} {v0 : Nat} {v1 : Int32} {kk : Nat} {nn : Nat} {S0 S : HS} (h : P_X8_init_55 Q v0 v1 kk nn S) (K : KQ5 S0 S) : P_X8_init_55 (fun T => Q T ∧ KQ5 S0 T) v0 v1 kk nn S := h (fun v0 v1 kk nn S => KQ5 S0 S → P_X8_init_55 (fun T => Q T ∧ KQ5 S0 T) v0 v1 kk nn S) (fun v0 v1 kk nn S hB K => fd_X8_init_55 (kqB_X8_init_55 hB K (fun _ _ _ _ _ hx K => hx K))) K
set_option maxRecDepth 20000 in
set_option maxHeartbeats 1000000 in
theorem kq_X8_init_0 {Q : HS → Prop} {v0 : Nat} {kk : Nat} {nn : Nat} {S0 S : HS} (h : P_X8_init_0 Q v0 kk nn S) (K : KQ5 S0 S) : P_X8_init_0 (fun T => Q T ∧ KQ5 S0 T) v0 kk nn S := by
  delta P_X8_init_0 at h ⊢
  obtain ⟨c1, h⟩ := h
  refine ⟨c1, ?_⟩
  obtain ⟨c2, h⟩ := h
  refine ⟨c2, ?_⟩
  intro x4 e3
  have h := h x4 e3
  intro x6 e5
  have h := h x6 e5
  have K := kq5_W K e3 e5
  obtain ⟨c7, h⟩ := h
  refine ⟨c7, ?_⟩
  have n8 := kq5_ne K c7
  intro x10 e9
  have h := h x10 e9
  have K := kq5_R K e9
  obtain ⟨c11, h⟩ := h
  refine ⟨c11, ?_⟩
  obtain ⟨c12, h⟩ := h
  refine ⟨c12, ?_⟩
  intro x14 e13
  have h := h x14 e13
  intro x16 e15
  have h := h x16 e15
  have K := kq5_W K e13 e15
  intro x18 e17
  have h := h x18 e17
  have K := kq5_R K e17
  obtain ⟨c19, h⟩ := h
  refine ⟨c19, ?_⟩
  obtain ⟨c20, h⟩ := h
  refine ⟨c20, ?_⟩
  intro x22 e21
  have h := h x22 e21
  intro x24 e23
  have h := h x24 e23
  have K := kq5_W K e21 e23
  intro x26 e25
  have h := h x26 e25
  have K := kq5_R K e25
  obtain ⟨c27, h⟩ := h
  refine ⟨c27, ?_⟩
  obtain ⟨c28, h⟩ := h
  refine ⟨c28, ?_⟩
  intro x30 e29
  have h := h x30 e29
  intro x32 e31
  have h := h x32 e31
  have K := kq5_W K e29 e31
  intro x34 e33
  have h := h x34 e33
  have K := kq5_R K e33
  obtain ⟨c35, h⟩ := h
  refine ⟨c35, ?_⟩
  obtain ⟨c36, h⟩ := h
  refine ⟨c36, ?_⟩
  intro x38 e37
  have h := h x38 e37
  intro x40 e39
  have h := h x40 e39
  have K := kq5_W K e37 e39
  intro x42 e41
  have h := h x42 e41
  have K := kq5_R K e41
  obtain ⟨c43, h⟩ := h
  refine ⟨c43, ?_⟩
  obtain ⟨c44, h⟩ := h
  refine ⟨c44, ?_⟩
  intro x46 e45
  have h := h x46 e45
  intro x48 e47
  have h := h x48 e47
  have K := kq5_W K e45 e47
  intro x50 e49
  have h := h x50 e49
  have K := kq5_R K e49
  exact kq_X8_init_55 h K
theorem kq_X8_init {Q : HS → Prop} {v0 : Nat} {S : HS} (h : P_X8_init v0 Q S) : P_X8_init v0 (fun T => Q T ∧ KQ5 S T) S := kq_X8_init_0 h (kq5_rf S)
set_option maxRecDepth 20000 in
set_option maxHeartbeats 1000000 in
theorem kq_X4_init_0 {Q : HS → Prop} {v0 : Nat} {S0 S : HS} (h : P_X4_init_0 Q v0 S) (K : KQ5 S0 S) : P_X4_init_0 (fun T => Q T ∧ KQ5 S0 T) v0 S := by
  delta P_X4_init_0 at h ⊢
  intro x2 e1
  have h := h x2 e1
  intro x4 e3
  have h := h x4 e3
  have K := kq5_W K e1 e3
  obtain ⟨c5, h⟩ := h
  refine ⟨c5, ?_⟩
  have n6 := kq5_ne K c5
  intro x8 e7
  have h := h x8 e7
  have K := kq5_R K e7
  intro x10 e9
  have h := h x10 e9
  intro x12 e11
  have h := h x12 e11
  have K := kq5_W K e9 e11
  refine cm_X8_init (kq_X8_init h) h (fun x13 hp h g14 => ?_)
  have h := h g14
  have K := kq5_tr K hp.2
  intro x16 e15
  have h := h x16 e15
  have K := kq5_R K e15
  intro x18 e17
  have h := h x18 e17
  intro x20 e19
  have h := h x20 e19
  have K := kq5_W K e17 e19
  intro x22 e21
  have h := h x22 e21
  have K := kq5_R K e21
  intro x24 e23
  have h := h x24 e23
  intro x26 e25
  have h := h x26 e25
  have K := kq5_W K e23 e25
  intro x28 e27
  have h := h x28 e27
  have K := kq5_R K e27
  exact ⟨h, K⟩
theorem kq_X4_init {Q : HS → Prop} {v0 : Nat} {S : HS} (h : P_X4_init v0 Q S) : P_X4_init v0 (fun T => Q T ∧ KQ5 S T) S := kq_X4_init_0 h (kq5_rf S)
set_option maxRecDepth 20000 in
set_option maxHeartbeats 1000000 in
theorem kq_X4_kindOf_0 {Q : Int32 → HS → Prop} {v0 : Nat} {v1 : Nat} {S0 S : HS} (h : P_X4_kindOf_0 Q v0 v1 S) (K : KQ5 S0 S) : P_X4_kindOf_0 (fun r T => Q r T ∧ KQ5 S0 T) v0 v1 S := by
  delta P_X4_kindOf_0 at h ⊢
  obtain ⟨c1, h⟩ := h
  refine ⟨c1, ?_⟩
  have n2 := kq5_ne K c1
  intro x4 e3
  have h := h x4 e3
  have K := kq5_I K e3 n2 (by decide)
  refine cm_X4_is (kq_X4_is h) h (fun x5 x6 hp h g7 g8 => ?_)
  have h := h g7 g8
  have K := kq5_tr K hp.2
  refine ⟨?_, ?_⟩
  · intro c9
    have h := h.1 c9
    refine cm_X4_is (kq_X4_is h) h (fun x10 x11 hp h g12 g13 => ?_)
    have h := h g12 g13
    have K := kq5_tr K hp.2
    refine ⟨?_, ?_⟩
    · intro c14
      have h := h.1 c14
      refine cm_X4_is (kq_X4_is h) h (fun x15 x16 hp h g17 g18 => ?_)
      have h := h g17 g18
      have K := kq5_tr K hp.2
      refine ⟨?_, ?_⟩
      · intro c19
        have h := h.1 c19
        obtain ⟨c20, h⟩ := h
        refine ⟨c20, ?_⟩
        have n21 := kq5_ne K c20
        intro x23 e22
        have h := h x23 e22
        have K := kq5_I K e22 n21 (by decide)
        refine cm_X4_word (kq_X4_word h) h (fun x24 x25 hp h g26 g27 => ?_)
        have h := h g26 g27
        have K := kq5_tr K hp.2
        intro x29 e28
        have h := h x29 e28
        intro x31 e30
        have h := h x31 e30
        have K := kq5_I K e30 n21 (by decide)
        obtain ⟨c32, h⟩ := h
        refine ⟨c32, ?_⟩
        exact ⟨h, K⟩
      · intro c33
        have h := h.2 c33
        obtain ⟨c34, h⟩ := h
        refine ⟨c34, ?_⟩
        have n35 := kq5_ne K c34
        intro x37 e36
        have h := h x37 e36
        have K := kq5_I K e36 n35 (by decide)
        refine cm_X4_wordAndWhole (kq_X4_wordAndWhole h) h (fun x38 x39 hp h g40 g41 => ?_)
        have h := h g40 g41
        have K := kq5_tr K hp.2
        intro x43 e42
        have h := h x43 e42
        intro x45 e44
        have h := h x45 e44
        have K := kq5_I K e44 n35 (by decide)
        obtain ⟨c46, h⟩ := h
        refine ⟨c46, ?_⟩
        exact ⟨h, K⟩
    · intro c47
      have h := h.2 c47
      obtain ⟨c48, h⟩ := h
      refine ⟨c48, ?_⟩
      have n49 := kq5_ne K c48
      intro x51 e50
      have h := h x51 e50
      have K := kq5_I K e50 n49 (by decide)
      refine cm_X4_wordAndWhole (kq_X4_wordAndWhole h) h (fun x52 x53 hp h g54 g55 => ?_)
      have h := h g54 g55
      have K := kq5_tr K hp.2
      intro x57 e56
      have h := h x57 e56
      intro x59 e58
      have h := h x59 e58
      have K := kq5_I K e58 n49 (by decide)
      obtain ⟨c60, h⟩ := h
      refine ⟨c60, ?_⟩
      exact ⟨h, K⟩
  · intro c61
    have h := h.2 c61
    obtain ⟨c62, h⟩ := h
    refine ⟨c62, ?_⟩
    have n63 := kq5_ne K c62
    intro x65 e64
    have h := h x65 e64
    have K := kq5_I K e64 n63 (by decide)
    refine cm_X4_wordAndWhole (kq_X4_wordAndWhole h) h (fun x66 x67 hp h g68 g69 => ?_)
    have h := h g68 g69
    have K := kq5_tr K hp.2
    intro x71 e70
    have h := h x71 e70
    intro x73 e72
    have h := h x73 e72
    have K := kq5_I K e72 n63 (by decide)
    obtain ⟨c74, h⟩ := h
    refine ⟨c74, ?_⟩
    exact ⟨h, K⟩
theorem kq_X4_kindOf {Q : Int32 → HS → Prop} {v0 : Nat} {v1 : Nat} {S : HS} (h : P_X4_kindOf v0 v1 Q S) : P_X4_kindOf v0 v1 (fun r T => Q r T ∧ KQ5 S T) S := kq_X4_kindOf_0 h (kq5_rf S)
set_option maxRecDepth 20000 in
set_option maxHeartbeats 1000000 in
theorem kq_X4_newName_69 {Q : Int32 → HS → Prop} {v0 : Nat} {S0 S : HS} (h : P_X4_newName_69 Q v0 S) (K : KQ5 S0 S) : P_X4_newName_69 (fun r T => Q r T ∧ KQ5 S0 T) v0 S := by
  delta P_X4_newName_69 at h ⊢
  obtain ⟨c1, h⟩ := h
  refine ⟨c1, ?_⟩
  have n2 := kq5_ne K c1
  refine cm_X4_next (kq_X4_next h) h (fun x3 hp h g4 => ?_)
  have h := h g4
  have K := kq5_tr K hp.2
  exact ⟨h, K⟩
set_option maxRecDepth 20000 in
set_option maxHeartbeats 1000000 in
theorem kq_X4_newName_0 {Q : Int32 → HS → Prop} {v0 : Nat} {v1 : Int32} {S0 S : HS} (h : P_X4_newName_0 Q v0 v1 S) (K : KQ5 S0 S) : P_X4_newName_0 (fun r T => Q r T ∧ KQ5 S0 T) v0 v1 S := by
  delta P_X4_newName_0 at h ⊢
  obtain ⟨c1, h⟩ := h
  refine ⟨c1, ?_⟩
  have n2 := kq5_ne K c1
  refine cm_X4_canBeName (kq_X4_canBeName h) h (fun x3 x4 hp h g5 g6 => ?_)
  have h := h g5 g6
  have K := kq5_tr K hp.2
  refine ⟨?_, ?_⟩
  · intro c7
    have h := h.1 c7
    refine cm_X4_findName (kq_X4_findName h) h (fun x8 x9 hp h g10 => ?_)
    have h := h g10
    have K := kq5_tr K hp.2
    refine ⟨?_, ?_⟩
    · intro c11
      have h := h.1 c11
      intro x13 e12
      have h := h x13 e12
      refine ⟨?_, ?_⟩
      · intro c14
        have h := h.1 c14
        exact kq_X4_newName_69 h K
      · intro c15
        have h := h.2 c15
        obtain ⟨b16, e17, h⟩ := h
        refine ⟨b16, e17, ?_⟩
        intro x19 e18
        have h := h x19 e18
        intro x21 e20
        have h := h x21 e20
        obtain ⟨c22, h⟩ := h
        refine ⟨c22, ?_⟩
        have n23 := kq5_ne K c22
        obtain ⟨c24, h⟩ := h
        refine ⟨c24, ?_⟩
        intro x26 e25
        have h := h x26 e25
        have K := kq5_J K e25
        obtain ⟨b27, e28, h⟩ := h
        refine ⟨b27, e28, ?_⟩
        intro x30 e29
        have h := h x30 e29
        obtain ⟨c31, h⟩ := h
        refine ⟨c31, ?_⟩
        have n32 := kq5_ne K c31
        obtain ⟨c33, h⟩ := h
        refine ⟨c33, ?_⟩
        intro x35 e34
        have h := h x35 e34
        have K := kq5_A K e34 n32 (by decide)
        intro x37 e36
        have h := h x37 e36
        intro x39 e38
        have h := h x39 e38
        intro x41 e40
        have h := h x41 e40
        have K := kq5_I K e40 n2 (by decide)
        exact kq_X4_newName_69 h K
    · intro c42
      have h := h.2 c42
      refine cm_X4_fail (kq_X4_fail h) h (fun x43 x44 hp h g45 g46 => ?_)
      have h := h g45 g46
      have K := kq5_tr K hp.2
      obtain ⟨c47, h⟩ := h
      refine ⟨c47, ?_⟩
      exact ⟨h, K⟩
  · intro c48
    have h := h.2 c48
    refine cm_X4_fail (kq_X4_fail h) h (fun x49 x50 hp h g51 g52 => ?_)
    have h := h g51 g52
    have K := kq5_tr K hp.2
    obtain ⟨c53, h⟩ := h
    refine ⟨c53, ?_⟩
    exact ⟨h, K⟩
theorem kq_X4_newName {Q : Int32 → HS → Prop} {v0 : Nat} {v1 : Int32} {S : HS} (h : P_X4_newName v0 v1 Q S) : P_X4_newName v0 v1 (fun r T => Q r T ∧ KQ5 S T) S := kq_X4_newName_0 h (kq5_rf S)
set_option maxRecDepth 20000 in
set_option maxHeartbeats 1000000 in
theorem kq_X8_clear_0 {Q : HS → Prop} {v0 : Nat} {S0 S : HS} (h : P_X8_clear_0 Q v0 S) (K : KQ5 S0 S) : P_X8_clear_0 (fun T => Q T ∧ KQ5 S0 T) v0 S := by
  delta P_X8_clear_0 at h ⊢
  obtain ⟨c1, h⟩ := h
  refine ⟨c1, ?_⟩
  have n2 := kq5_ne K c1
  intro x4 e3
  have h := h x4 e3
  have K := kq5_I K e3 n2 (by decide)
  intro x6 e5
  have h := h x6 e5
  have K := kq5_I K e5 n2 (by decide)
  intro x8 e7
  have h := h x8 e7
  have K := kq5_I K e7 n2 (by decide)
  intro x10 e9
  have h := h x10 e9
  have K := kq5_I K e9 n2 (by decide)
  intro x12 e11
  have h := h x12 e11
  have K := kq5_I K e11 n2 (by decide)
  intro x14 e13
  have h := h x14 e13
  have K := kq5_I K e13 n2 (by decide)
  exact ⟨h, K⟩
theorem kq_X8_clear {Q : HS → Prop} {v0 : Nat} {S : HS} (h : P_X8_clear v0 Q S) : P_X8_clear v0 (fun T => Q T ∧ KQ5 S T) S := kq_X8_clear_0 h (kq5_rf S)
set_option maxRecDepth 20000 in
set_option maxHeartbeats 1000000 in
theorem kq_X4_open_0 {Q : HS → Prop} {v0 : Nat} {v1 : Nat} {v2 : Int32} {S0 S : HS} (h : P_X4_open_0 Q v0 v1 v2 S) (K : KQ5 S0 S) : P_X4_open_0 (fun T => Q T ∧ KQ5 S0 T) v0 v1 v2 S := by
  delta P_X4_open_0 at h ⊢
  obtain ⟨c1, h⟩ := h
  refine ⟨c1, ?_⟩
  have n2 := kq5_ne K c1
  intro x4 e3
  have h := h x4 e3
  have K := kq5_R K e3
  obtain ⟨c5, h⟩ := h
  refine ⟨c5, ?_⟩
  have n6 := kq5_ne K c5
  intro x8 e7
  have h := h x8 e7
  intro x10 e9
  have h := h x10 e9
  have K := kq5_I K e9 n2 (by decide)
  intro x12 e11
  have h := h x12 e11
  have K := kq5_I K e11 n2 (by decide)
  intro x14 e13
  have h := h x14 e13
  have K := kq5_I K e13 n2 (by decide)
  intro x16 e15
  have h := h x16 e15
  have K := kq5_I K e15 n2 (by decide)
  intro x18 e17
  have h := h x18 e17
  have K := kq5_I K e17 n2 (by decide)
  obtain ⟨b19, e20, h⟩ := h
  refine ⟨b19, e20, ?_⟩
  obtain ⟨c21, h⟩ := h
  refine ⟨c21, ?_⟩
  have n22 := kq5_ne K c21
  refine cm_X8_clear (kq_X8_clear h) h (fun x23 hp h g24 => ?_)
  have h := h g24
  have K := kq5_tr K hp.2
  refine cm_X4_next (kq_X4_next h) h (fun x25 hp h g26 => ?_)
  have h := h g26
  have K := kq5_tr K hp.2
  exact ⟨h, K⟩
theorem kq_X4_open {Q : HS → Prop} {v0 : Nat} {v1 : Nat} {v2 : Int32} {S : HS} (h : P_X4_open v0 v1 v2 Q S) : P_X4_open v0 v1 v2 (fun T => Q T ∧ KQ5 S T) S := kq_X4_open_0 h (kq5_rf S)
set_option maxRecDepth 20000 in
set_option maxHeartbeats 1000000 in
theorem kq_X4_placeBut_29 {Q : Int32 → HS → Prop} {v0 : Nat} {S0 S : HS} (h : P_X4_placeBut_29 Q v0 S) (K : KQ5 S0 S) : P_X4_placeBut_29 (fun r T => Q r T ∧ KQ5 S0 T) v0 S := by
  delta P_X4_placeBut_29 at h ⊢
  obtain ⟨c1, h⟩ := h
  refine ⟨c1, ?_⟩
  have n2 := kq5_ne K c1
  refine cm_X4_fail (kq_X4_fail h) h (fun x3 x4 hp h g5 g6 => ?_)
  have h := h g5 g6
  have K := kq5_tr K hp.2
  obtain ⟨c7, h⟩ := h
  refine ⟨c7, ?_⟩
  exact ⟨h, K⟩
set_option maxRecDepth 20000 in
set_option maxHeartbeats 1000000 in
theorem kq_X4_placeBut_0 {Q : Int32 → HS → Prop} {v0 : Nat} {v1 : Int32} {S0 S : HS} (h : P_X4_placeBut_0 Q v0 v1 S) (K : KQ5 S0 S) : P_X4_placeBut_0 (fun r T => Q r T ∧ KQ5 S0 T) v0 v1 S := by
  delta P_X4_placeBut_0 at h ⊢
  obtain ⟨c1, h⟩ := h
  refine ⟨c1, ?_⟩
  have n2 := kq5_ne K c1
  refine cm_X4_canBeName (kq_X4_canBeName h) h (fun x3 x4 hp h g5 g6 => ?_)
  have h := h g5 g6
  have K := kq5_tr K hp.2
  refine ⟨?_, ?_⟩
  · intro c7
    have h := h.1 c7
    refine cm_X4_findName (kq_X4_findName h) h (fun x8 x9 hp h g10 => ?_)
    have h := h g10
    have K := kq5_tr K hp.2
    refine ⟨?_, ?_⟩
    · intro c11
      have h := h.1 c11
      exact kq_X4_placeBut_29 h K
    · intro c12
      have h := h.2 c12
      refine ⟨?_, ?_⟩
      · intro c13
        have h := h.1 c13
        refine ⟨?_, ?_⟩
        · intro c14
          have h := h.1 c14
          intro x16 e15
          have h := h x16 e15
          have K := kq5_I K e15 n2 (by decide)
          refine cm_X4_next (kq_X4_next h) h (fun x17 hp h g18 => ?_)
          have h := h g18
          have K := kq5_tr K hp.2
          exact ⟨h, K⟩
        · intro c19
          have h := h.2 c19
          refine cm_X4_fail (kq_X4_fail h) h (fun x20 x21 hp h g22 g23 => ?_)
          have h := h g22 g23
          have K := kq5_tr K hp.2
          obtain ⟨c24, h⟩ := h
          refine ⟨c24, ?_⟩
          exact ⟨h, K⟩
      · intro c25
        have h := h.2 c25
        exact kq_X4_placeBut_29 h K
  · intro c26
    have h := h.2 c26
    refine cm_X4_fail (kq_X4_fail h) h (fun x27 x28 hp h g29 g30 => ?_)
    have h := h g29 g30
    have K := kq5_tr K hp.2
    obtain ⟨c31, h⟩ := h
    refine ⟨c31, ?_⟩
    exact ⟨h, K⟩
theorem kq_X4_placeBut {Q : Int32 → HS → Prop} {v0 : Nat} {v1 : Int32} {S : HS} (h : P_X4_placeBut v0 v1 Q S) : P_X4_placeBut v0 v1 (fun r T => Q r T ∧ KQ5 S T) S := kq_X4_placeBut_0 h (kq5_rf S)
set_option maxRecDepth 20000 in
set_option maxHeartbeats 1000000 in
theorem kq_X4_placeLine_64 {Q : Int32 → HS → Prop} {v0 : Nat} {v1 : Int32} {S0 S : HS} (h : P_X4_placeLine_64 Q v0 v1 S) (K : KQ5 S0 S) : P_X4_placeLine_64 (fun r T => Q r T ∧ KQ5 S0 T) v0 v1 S := by
  delta P_X4_placeLine_64 at h ⊢
  obtain ⟨c1, h⟩ := h
  refine ⟨c1, ?_⟩
  have n2 := kq5_ne K c1
  obtain ⟨b3, e4, h⟩ := h
  refine ⟨b3, e4, ?_⟩
  obtain ⟨c5, h⟩ := h
  refine ⟨c5, ?_⟩
  have n6 := kq5_ne K c5
  obtain ⟨b7, e8, h⟩ := h
  refine ⟨b7, e8, ?_⟩
  obtain ⟨b9, e10, h⟩ := h
  refine ⟨b9, e10, ?_⟩
  obtain ⟨c11, h⟩ := h
  refine ⟨c11, ?_⟩
  have n12 := kq5_ne K c11
  intro x14 e13
  have h := h x14 e13
  obtain ⟨c15, h⟩ := h
  refine ⟨c15, ?_⟩
  have n16 := kq5_ne K c15
  obtain ⟨c17, h⟩ := h
  refine ⟨c17, ?_⟩
  intro x19 e18
  have h := h x19 e18
  have K := kq5_A K e18 n16 (by decide)
  obtain ⟨b20, e21, h⟩ := h
  refine ⟨b20, e21, ?_⟩
  obtain ⟨c22, h⟩ := h
  refine ⟨c22, ?_⟩
  have n23 := kq5_ne K c22
  intro x25 e24
  have h := h x25 e24
  intro x27 e26
  have h := h x27 e26
  intro x29 e28
  have h := h x29 e28
  have K := kq5_I K e28 n23 (by decide)
  exact ⟨h, K⟩
set_option maxRecDepth 20000 in
set_option maxHeartbeats 1000000 in
theorem kq_X4_placeLine_0 {Q : Int32 → HS → Prop} {v0 : Nat} {S0 S : HS} (h : P_X4_placeLine_0 Q v0 S) (K : KQ5 S0 S) : P_X4_placeLine_0 (fun r T => Q r T ∧ KQ5 S0 T) v0 S := by
  delta P_X4_placeLine_0 at h ⊢
  obtain ⟨c1, h⟩ := h
  refine ⟨c1, ?_⟩
  have n2 := kq5_ne K c1
  obtain ⟨b3, e4, h⟩ := h
  refine ⟨b3, e4, ?_⟩
  obtain ⟨c5, h⟩ := h
  refine ⟨c5, ?_⟩
  have n6 := kq5_ne K c5
  intro x8 e7
  have h := h x8 e7
  refine cm_X4_newName (kq_X4_newName h) h (fun x9 x10 hp h g11 g12 => ?_)
  have h := h g11 g12
  have K := kq5_tr K hp.2
  refine ⟨?_, ?_⟩
  · intro c13
    have h := h.1 c13
    refine cm_X4_is (kq_X4_is h) h (fun x14 x15 hp h g16 g17 => ?_)
    have h := h g16 g17
    have K := kq5_tr K hp.2
    refine ⟨?_, ?_⟩
    · intro c18
      have h := h.1 c18
      refine cm_X4_is (kq_X4_is h) h (fun x19 x20 hp h g21 g22 => ?_)
      have h := h g21 g22
      have K := kq5_tr K hp.2
      refine ⟨?_, ?_⟩
      · intro c23
        have h := h.1 c23
        exact kq_X4_placeLine_64 h K
      · intro c24
        have h := h.2 c24
        refine cm_X4_wordAndWhole (kq_X4_wordAndWhole h) h (fun x25 x26 hp h g27 g28 => ?_)
        have h := h g27 g28
        have K := kq5_tr K hp.2
        refine ⟨?_, ?_⟩
        · intro c29
          have h := h.1 c29
          intro x31 e30
          have h := h x31 e30
          exact kq_X4_placeLine_64 h K
        · intro c32
          have h := h.2 c32
          exact ⟨h, K⟩
    · intro c33
      have h := h.2 c33
      refine cm_X4_next (kq_X4_next h) h (fun x34 hp h g35 => ?_)
      have h := h g35
      have K := kq5_tr K hp.2
      exact kq_X4_placeLine_64 h K
  · intro c36
    have h := h.2 c36
    exact ⟨h, K⟩
theorem kq_X4_placeLine {Q : Int32 → HS → Prop} {v0 : Nat} {S : HS} (h : P_X4_placeLine v0 Q S) : P_X4_placeLine v0 (fun r T => Q r T ∧ KQ5 S T) S := kq_X4_placeLine_0 h (kq5_rf S)
set_option maxRecDepth 20000 in
set_option maxHeartbeats 1000000 in
theorem kq_X4_side_74 {Q : Int32 → HS → Prop} {v0 : Nat} {S0 S : HS} (h : P_X4_side_74 Q v0 S) (K : KQ5 S0 S) : P_X4_side_74 (fun r T => Q r T ∧ KQ5 S0 T) v0 S := by
  delta P_X4_side_74 at h ⊢
  obtain ⟨c1, h⟩ := h
  refine ⟨c1, ?_⟩
  have n2 := kq5_ne K c1
  refine cm_X4_next (kq_X4_next h) h (fun x3 hp h g4 => ?_)
  have h := h g4
  have K := kq5_tr K hp.2
  exact ⟨h, K⟩
set_option maxRecDepth 20000 in
set_option maxHeartbeats 1000000 in
theorem kq_X4_side_0 {Q : Int32 → HS → Prop} {v0 : Nat} {S0 S : HS} (h : P_X4_side_0 Q v0 S) (K : KQ5 S0 S) : P_X4_side_0 (fun r T => Q r T ∧ KQ5 S0 T) v0 S := by
  delta P_X4_side_0 at h ⊢
  obtain ⟨c1, h⟩ := h
  refine ⟨c1, ?_⟩
  have n2 := kq5_ne K c1
  refine cm_X4_is (kq_X4_is h) h (fun x3 x4 hp h g5 g6 => ?_)
  have h := h g5 g6
  have K := kq5_tr K hp.2
  refine ⟨?_, ?_⟩
  · intro c7
    have h := h.1 c7
    refine cm_X4_is (kq_X4_is h) h (fun x8 x9 hp h g10 g11 => ?_)
    have h := h g10 g11
    have K := kq5_tr K hp.2
    refine ⟨?_, ?_⟩
    · intro c12
      have h := h.1 c12
      refine cm_X4_is (kq_X4_is h) h (fun x13 x14 hp h g15 g16 => ?_)
      have h := h g15 g16
      have K := kq5_tr K hp.2
      refine ⟨?_, ?_⟩
      · intro c17
        have h := h.1 c17
        refine cm_X4_is (kq_X4_is h) h (fun x18 x19 hp h g20 g21 => ?_)
        have h := h g20 g21
        have K := kq5_tr K hp.2
        refine ⟨?_, ?_⟩
        · intro c22
          have h := h.1 c22
          refine cm_X4_fail (kq_X4_fail h) h (fun x23 x24 hp h g25 g26 => ?_)
          have h := h g25 g26
          have K := kq5_tr K hp.2
          obtain ⟨c27, h⟩ := h
          refine ⟨c27, ?_⟩
          exact ⟨h, K⟩
        · intro c28
          have h := h.2 c28
          intro x30 e29
          have h := h x30 e29
          have K := kq5_I K e29 n2 (by decide)
          exact kq_X4_side_74 h K
      · intro c31
        have h := h.2 c31
        intro x33 e32
        have h := h x33 e32
        have K := kq5_I K e32 n2 (by decide)
        exact kq_X4_side_74 h K
    · intro c34
      have h := h.2 c34
      intro x36 e35
      have h := h x36 e35
      have K := kq5_I K e35 n2 (by decide)
      exact kq_X4_side_74 h K
  · intro c37
    have h := h.2 c37
    intro x39 e38
    have h := h x39 e38
    have K := kq5_I K e38 n2 (by decide)
    exact kq_X4_side_74 h K
theorem kq_X4_side {Q : Int32 → HS → Prop} {v0 : Nat} {S : HS} (h : P_X4_side v0 Q S) : P_X4_side v0 (fun r T => Q r T ∧ KQ5 S T) S := kq_X4_side_0 h (kq5_rf S)
set_option maxRecDepth 20000 in
set_option maxHeartbeats 1000000 in
theorem kq_X4_rainLine_0 {Q : Int32 → HS → Prop} {v0 : Nat} {S0 S : HS} (h : P_X4_rainLine_0 Q v0 S) (K : KQ5 S0 S) : P_X4_rainLine_0 (fun r T => Q r T ∧ KQ5 S0 T) v0 S := by
  delta P_X4_rainLine_0 at h ⊢
  obtain ⟨c1, h⟩ := h
  refine ⟨c1, ?_⟩
  have n2 := kq5_ne K c1
  obtain ⟨b3, e4, h⟩ := h
  refine ⟨b3, e4, ?_⟩
  obtain ⟨c5, h⟩ := h
  refine ⟨c5, ?_⟩
  have n6 := kq5_ne K c5
  obtain ⟨b7, e8, h⟩ := h
  refine ⟨b7, e8, ?_⟩
  obtain ⟨b9, e10, h⟩ := h
  refine ⟨b9, e10, ?_⟩
  obtain ⟨c11, h⟩ := h
  refine ⟨c11, ?_⟩
  have n12 := kq5_ne K c11
  intro x14 e13
  have h := h x14 e13
  obtain ⟨c15, h⟩ := h
  refine ⟨c15, ?_⟩
  have n16 := kq5_ne K c15
  obtain ⟨c17, h⟩ := h
  refine ⟨c17, ?_⟩
  obtain ⟨b18, e19, h⟩ := h
  refine ⟨b18, e19, ?_⟩
  refine cm_X4_wordAndWhole (kq_X4_wordAndWhole h) h (fun x20 x21 hp h g22 g23 => ?_)
  have h := h g22 g23
  have K := kq5_tr K hp.2
  refine ⟨?_, ?_⟩
  · intro c24
    have h := h.1 c24
    intro x26 e25
    have h := h x26 e25
    obtain ⟨c27, h⟩ := h
    refine ⟨c27, ?_⟩
    have n28 := kq5_ne K c27
    intro x30 e29
    have h := h x30 e29
    have K := kq5_I K e29 n28 (by decide)
    refine cm_X4_wordAndWhole (kq_X4_wordAndWhole h) h (fun x31 x32 hp h g33 g34 => ?_)
    have h := h g33 g34
    have K := kq5_tr K hp.2
    refine ⟨?_, ?_⟩
    · intro c35
      have h := h.1 c35
      intro x37 e36
      have h := h x37 e36
      intro x39 e38
      have h := h x39 e38
      have K := kq5_I K e38 n28 (by decide)
      refine cm_X4_word (kq_X4_word h) h (fun x40 x41 hp h g42 g43 => ?_)
      have h := h g42 g43
      have K := kq5_tr K hp.2
      refine ⟨?_, ?_⟩
      · intro c44
        have h := h.1 c44
        exact ⟨h, K⟩
      · intro c45
        have h := h.2 c45
        refine cm_X4_side (kq_X4_side h) h (fun x46 x47 hp h g48 g49 => ?_)
        have h := h g48 g49
        have K := kq5_tr K hp.2
        refine ⟨?_, ?_⟩
        · intro c50
          have h := h.1 c50
          intro x52 e51
          have h := h x52 e51
          intro x54 e53
          have h := h x54 e53
          have K := kq5_I K e53 n28 (by decide)
          refine cm_X4_whole (kq_X4_whole h) h (fun x55 x56 hp h g57 g58 => ?_)
          have h := h g57 g58
          have K := kq5_tr K hp.2
          refine ⟨?_, ?_⟩
          · intro c59
            have h := h.1 c59
            intro x61 e60
            have h := h x61 e60
            intro x63 e62
            have h := h x63 e62
            have K := kq5_I K e62 n28 (by decide)
            refine cm_X4_wordAndWhole (kq_X4_wordAndWhole h) h (fun x64 x65 hp h g66 g67 => ?_)
            have h := h g66 g67
            have K := kq5_tr K hp.2
            refine ⟨?_, ?_⟩
            · intro c68
              have h := h.1 c68
              intro x70 e69
              have h := h x70 e69
              intro x72 e71
              have h := h x72 e71
              have K := kq5_I K e71 n28 (by decide)
              obtain ⟨b73, e74, h⟩ := h
              refine ⟨b73, e74, ?_⟩
              obtain ⟨c75, h⟩ := h
              refine ⟨c75, ?_⟩
              have n76 := kq5_ne K c75
              intro x78 e77
              have h := h x78 e77
              intro x80 e79
              have h := h x80 e79
              intro x82 e81
              have h := h x82 e81
              have K := kq5_I K e81 n76 (by decide)
              exact ⟨h, K⟩
            · intro c83
              have h := h.2 c83
              exact ⟨h, K⟩
          · intro c84
            have h := h.2 c84
            exact ⟨h, K⟩
        · intro c85
          have h := h.2 c85
          exact ⟨h, K⟩
    · intro c86
      have h := h.2 c86
      exact ⟨h, K⟩
  · intro c87
    have h := h.2 c87
    exact ⟨h, K⟩
theorem kq_X4_rainLine {Q : Int32 → HS → Prop} {v0 : Nat} {S : HS} (h : P_X4_rainLine v0 Q S) : P_X4_rainLine v0 (fun r T => Q r T ∧ KQ5 S T) S := kq_X4_rainLine_0 h (kq5_rf S)
set_option maxRecDepth 20000 in
set_option maxHeartbeats 1000000 in
theorem kq_X4_roadLine_130 {Q : Int32 → HS → Prop} {v0 : Nat} {S0 S : HS} (h : P_X4_roadLine_130 Q v0 S) (K : KQ5 S0 S) : P_X4_roadLine_130 (fun r T => Q r T ∧ KQ5 S0 T) v0 S := by
  delta P_X4_roadLine_130 at h ⊢
  obtain ⟨c1, h⟩ := h
  refine ⟨c1, ?_⟩
  have n2 := kq5_ne K c1
  obtain ⟨b3, e4, h⟩ := h
  refine ⟨b3, e4, ?_⟩
  obtain ⟨c5, h⟩ := h
  refine ⟨c5, ?_⟩
  have n6 := kq5_ne K c5
  intro x8 e7
  have h := h x8 e7
  intro x10 e9
  have h := h x10 e9
  intro x12 e11
  have h := h x12 e11
  have K := kq5_I K e11 n6 (by decide)
  exact ⟨h, K⟩
set_option maxRecDepth 20000 in
set_option maxHeartbeats 1000000 in
theorem kq_X4_roadLine_0 {Q : Int32 → HS → Prop} {v0 : Nat} {S0 S : HS} (h : P_X4_roadLine_0 Q v0 S) (K : KQ5 S0 S) : P_X4_roadLine_0 (fun r T => Q r T ∧ KQ5 S0 T) v0 S := by
  delta P_X4_roadLine_0 at h ⊢
  obtain ⟨c1, h⟩ := h
  refine ⟨c1, ?_⟩
  have n2 := kq5_ne K c1
  obtain ⟨b3, e4, h⟩ := h
  refine ⟨b3, e4, ?_⟩
  obtain ⟨c5, h⟩ := h
  refine ⟨c5, ?_⟩
  have n6 := kq5_ne K c5
  obtain ⟨b7, e8, h⟩ := h
  refine ⟨b7, e8, ?_⟩
  obtain ⟨b9, e10, h⟩ := h
  refine ⟨b9, e10, ?_⟩
  obtain ⟨c11, h⟩ := h
  refine ⟨c11, ?_⟩
  have n12 := kq5_ne K c11
  intro x14 e13
  have h := h x14 e13
  obtain ⟨c15, h⟩ := h
  refine ⟨c15, ?_⟩
  have n16 := kq5_ne K c15
  obtain ⟨c17, h⟩ := h
  refine ⟨c17, ?_⟩
  obtain ⟨b18, e19, h⟩ := h
  refine ⟨b18, e19, ?_⟩
  refine cm_X4_placeBut (kq_X4_placeBut h) h (fun x20 x21 hp h g22 g23 => ?_)
  have h := h g22 g23
  have K := kq5_tr K hp.2
  refine ⟨?_, ?_⟩
  · intro c24
    have h := h.1 c24
    intro x26 e25
    have h := h x26 e25
    obtain ⟨c27, h⟩ := h
    refine ⟨c27, ?_⟩
    have n28 := kq5_ne K c27
    intro x30 e29
    have h := h x30 e29
    have K := kq5_I K e29 n28 (by decide)
    refine cm_X4_side (kq_X4_side h) h (fun x31 x32 hp h g33 g34 => ?_)
    have h := h g33 g34
    have K := kq5_tr K hp.2
    refine ⟨?_, ?_⟩
    · intro c35
      have h := h.1 c35
      intro x37 e36
      have h := h x37 e36
      intro x39 e38
      have h := h x39 e38
      have K := kq5_I K e38 n28 (by decide)
      refine cm_X4_whole (kq_X4_whole h) h (fun x40 x41 hp h g42 g43 => ?_)
      have h := h g42 g43
      have K := kq5_tr K hp.2
      refine ⟨?_, ?_⟩
      · intro c44
        have h := h.1 c44
        intro x46 e45
        have h := h x46 e45
        intro x48 e47
        have h := h x48 e47
        have K := kq5_I K e47 n28 (by decide)
        intro x50 e49
        have h := h x50 e49
        refine cm_X4_placeBut (kq_X4_placeBut h) h (fun x51 x52 hp h g53 g54 => ?_)
        have h := h g53 g54
        have K := kq5_tr K hp.2
        refine ⟨?_, ?_⟩
        · intro c55
          have h := h.1 c55
          intro x57 e56
          have h := h x57 e56
          intro x59 e58
          have h := h x59 e58
          have K := kq5_I K e58 n28 (by decide)
          intro x61 e60
          have h := h x61 e60
          have K := kq5_I K e60 n28 (by decide)
          refine cm_X4_is (kq_X4_is h) h (fun x62 x63 hp h g64 g65 => ?_)
          have h := h g64 g65
          have K := kq5_tr K hp.2
          refine ⟨?_, ?_⟩
          · intro c66
            have h := h.1 c66
            exact kq_X4_roadLine_130 h K
          · intro c67
            have h := h.2 c67
            intro x69 e68
            have h := h x69 e68
            refine cm_X4_wordAndWhole (kq_X4_wordAndWhole h) h (fun x70 x71 hp h g72 g73 => ?_)
            have h := h g72 g73
            have K := kq5_tr K hp.2
            refine ⟨?_, ?_⟩
            · intro c74
              have h := h.1 c74
              intro x76 e75
              have h := h x76 e75
              intro x78 e77
              have h := h x78 e77
              have K := kq5_I K e77 n28 (by decide)
              exact kq_X4_roadLine_130 h K
            · intro c79
              have h := h.2 c79
              exact ⟨h, K⟩
        · intro c80
          have h := h.2 c80
          exact ⟨h, K⟩
      · intro c81
        have h := h.2 c81
        exact ⟨h, K⟩
    · intro c82
      have h := h.2 c82
      exact ⟨h, K⟩
  · intro c83
    have h := h.2 c83
    exact ⟨h, K⟩
theorem kq_X4_roadLine {Q : Int32 → HS → Prop} {v0 : Nat} {S : HS} (h : P_X4_roadLine v0 Q S) : P_X4_roadLine v0 (fun r T => Q r T ∧ KQ5 S T) S := kq_X4_roadLine_0 h (kq5_rf S)
set_option maxRecDepth 20000 in
set_option maxHeartbeats 1000000 in
theorem kq_X4_sign_0 {Q : Int32 → HS → Prop} {v0 : Nat} {v1 : Int32} {S0 S : HS} (h : P_X4_sign_0 Q v0 v1 S) (K : KQ5 S0 S) : P_X4_sign_0 (fun r T => Q r T ∧ KQ5 S0 T) v0 v1 S := by
  delta P_X4_sign_0 at h ⊢
  obtain ⟨c1, h⟩ := h
  refine ⟨c1, ?_⟩
  have n2 := kq5_ne K c1
  intro x4 e3
  have h := h x4 e3
  refine ⟨?_, ?_⟩
  · intro c5
    have h := h.1 c5
    refine cm_X4_next (kq_X4_next h) h (fun x6 hp h g7 => ?_)
    have h := h g7
    have K := kq5_tr K hp.2
    exact ⟨h, K⟩
  · intro c8
    have h := h.2 c8
    refine cm_X4_fail (kq_X4_fail h) h (fun x9 x10 hp h g11 g12 => ?_)
    have h := h g11 g12
    have K := kq5_tr K hp.2
    obtain ⟨c13, h⟩ := h
    refine ⟨c13, ?_⟩
    exact ⟨h, K⟩
theorem kq_X4_sign {Q : Int32 → HS → Prop} {v0 : Nat} {v1 : Int32} {S : HS} (h : P_X4_sign v0 v1 Q S) : P_X4_sign v0 v1 (fun r T => Q r T ∧ KQ5 S T) S := kq_X4_sign_0 h (kq5_rf S)
set_option maxRecDepth 20000 in
set_option maxHeartbeats 1000000 in
theorem kq_X4_someWalker_0 {Q : Int32 → HS → Prop} {v0 : Nat} {S0 S : HS} (h : P_X4_someWalker_0 Q v0 S) (K : KQ5 S0 S) : P_X4_someWalker_0 (fun r T => Q r T ∧ KQ5 S0 T) v0 S := by
  delta P_X4_someWalker_0 at h ⊢
  obtain ⟨c1, h⟩ := h
  refine ⟨c1, ?_⟩
  have n2 := kq5_ne K c1
  refine cm_X4_canBeName (kq_X4_canBeName h) h (fun x3 x4 hp h g5 g6 => ?_)
  have h := h g5 g6
  have K := kq5_tr K hp.2
  refine ⟨?_, ?_⟩
  · intro c7
    have h := h.1 c7
    refine cm_X4_findName (kq_X4_findName h) h (fun x8 x9 hp h g10 => ?_)
    have h := h g10
    have K := kq5_tr K hp.2
    refine ⟨?_, ?_⟩
    · intro c11
      have h := h.1 c11
      intro x13 e12
      have h := h x13 e12
      intro x15 e14
      have h := h x15 e14
      have K := kq5_I K e14 n2 (by decide)
      refine cm_X4_next (kq_X4_next h) h (fun x16 hp h g17 => ?_)
      have h := h g17
      have K := kq5_tr K hp.2
      exact ⟨h, K⟩
    · intro c18
      have h := h.2 c18
      refine cm_X4_fail (kq_X4_fail h) h (fun x19 x20 hp h g21 g22 => ?_)
      have h := h g21 g22
      have K := kq5_tr K hp.2
      obtain ⟨c23, h⟩ := h
      refine ⟨c23, ?_⟩
      exact ⟨h, K⟩
  · intro c24
    have h := h.2 c24
    refine cm_X4_fail (kq_X4_fail h) h (fun x25 x26 hp h g27 g28 => ?_)
    have h := h g27 g28
    have K := kq5_tr K hp.2
    obtain ⟨c29, h⟩ := h
    refine ⟨c29, ?_⟩
    exact ⟨h, K⟩
theorem kq_X4_someWalker {Q : Int32 → HS → Prop} {v0 : Nat} {S : HS} (h : P_X4_someWalker v0 Q S) : P_X4_someWalker v0 (fun r T => Q r T ∧ KQ5 S T) S := kq_X4_someWalker_0 h (kq5_rf S)
set_option maxRecDepth 20000 in
set_option maxHeartbeats 1000000 in
theorem kq_X4_seenLine_47 {Q : Int32 → HS → Prop} {X30 X30_2 : Nat → Int32 → HS → Prop} {v0 : Nat} {v1 : Int32} {S0 S : HS} (h : P_X4_seenLine_47 Q X30 v0 v1 S) (K : KQ5 S0 S) (hX30 : ∀ (u0 : Nat) (u1 : Int32) (u2 : HS), X30 u0 u1 u2 → KQ5 S0 u2 → X30_2 u0 u1 u2) : P_X4_seenLine_47 (fun r T => Q r T ∧ KQ5 S0 T) X30_2 v0 v1 S := by
  delta P_X4_seenLine_47 at h ⊢
  obtain ⟨c1, h⟩ := h
  refine ⟨c1, ?_⟩
  have n2 := kq5_ne K c1
  refine cm_X4_whole (kq_X4_whole h) h (fun x3 x4 hp h g5 g6 => ?_)
  have h := h g5 g6
  have K := kq5_tr K hp.2
  refine ⟨?_, ?_⟩
  · intro c7
    have h := h.1 c7
    obtain ⟨b8, e9, h⟩ := h
    refine ⟨b8, e9, ?_⟩
    obtain ⟨c10, h⟩ := h
    refine ⟨c10, ?_⟩
    have n11 := kq5_ne K c10
    obtain ⟨b12, e13, h⟩ := h
    refine ⟨b12, e13, ?_⟩
    obtain ⟨b14, e15, h⟩ := h
    refine ⟨b14, e15, ?_⟩
    obtain ⟨c16, h⟩ := h
    refine ⟨c16, ?_⟩
    have n17 := kq5_ne K c16
    intro x19 e18
    have h := h x19 e18
    intro x21 e20
    have h := h x21 e20
    obtain ⟨c22, h⟩ := h
    refine ⟨c22, ?_⟩
    have n23 := kq5_ne K c22
    obtain ⟨c24, h⟩ := h
    refine ⟨c24, ?_⟩
    intro x26 e25
    have h := h x26 e25
    have K := kq5_A K e25 n23 (by decide)
    intro x28 e27
    have h := h x28 e27
    exact hX30 _ _ _ h K
  · intro c29
    have h := h.2 c29
    exact ⟨h, K⟩
set_option maxRecDepth 20000 in
set_option maxHeartbeats 1000000 in
theorem kqB_X4_seenLine_30 {Q : Int32 → HS → Prop} {X30 X30_2 : Nat → Int32 → HS → Prop} {v0 : Nat} {v1 : Int32} {S0 S : HS} (h : B_X4_seenLine_30 Q X30 v0 v1 S) (K : KQ5 S0 S) (hX30 : ∀ (u0 : Nat) (u1 : Int32) (u2 : HS), X30 u0 u1 u2 → KQ5 S0 u2 → X30_2 u0 u1 u2) : B_X4_seenLine_30 (fun r T => Q r T ∧ KQ5 S0 T) X30_2 v0 v1 S := by
  delta B_X4_seenLine_30 at h ⊢
  refine ⟨?_, ?_⟩
  · intro c1
    have h := h.1 c1
    obtain ⟨c2, h⟩ := h
    refine ⟨c2, ?_⟩
    have n3 := kq5_ne K c2
    obtain ⟨b4, e5, h⟩ := h
    refine ⟨b4, e5, ?_⟩
    obtain ⟨c6, h⟩ := h
    refine ⟨c6, ?_⟩
    have n7 := kq5_ne K c6
    intro x9 e8
    have h := h x9 e8
    intro x11 e10
    have h := h x11 e10
    intro x13 e12
    have h := h x13 e12
    have K := kq5_I K e12 n7 (by decide)
    exact ⟨h, K⟩
  · intro c14
    have h := h.2 c14
    refine ⟨?_, ?_⟩
    · intro c15
      have h := h.1 c15
      exact kq_X4_seenLine_47 h K hX30
    · intro c16
      have h := h.2 c16
      obtain ⟨c17, h⟩ := h
      refine ⟨c17, ?_⟩
      have n18 := kq5_ne K c17
      refine cm_X4_sign (kq_X4_sign h) h (fun x19 x20 hp h g21 g22 => ?_)
      have h := h g21 g22
      have K := kq5_tr K hp.2
      refine ⟨?_, ?_⟩
      · intro c23
        have h := h.1 c23
        exact ⟨h, K⟩
      · intro c24
        have h := h.2 c24
        exact kq_X4_seenLine_47 h K hX30
theorem kq_X4_seenLine_30 {Q : Int32 → HS → Prop} {v0 : Nat} {v1 : Int32} {S0 S : HS} (h : P_X4_seenLine_30 Q v0 v1 S) (K : KQ5 S0 S) : P_X4_seenLine_30 (fun r T => Q r T ∧ KQ5 S0 T) v0 v1 S := h (fun v0 v1 S => KQ5 S0 S → P_X4_seenLine_30 (fun r T => Q r T ∧ KQ5 S0 T) v0 v1 S) (fun v0 v1 S hB K => fd_X4_seenLine_30 (kqB_X4_seenLine_30 hB K (fun _ _ _ hx K => hx K))) K
set_option maxRecDepth 20000 in
set_option maxHeartbeats 1000000 in
theorem kq_X4_seenLine_0 {Q : Int32 → HS → Prop} {v0 : Nat} {S0 S : HS} (h : P_X4_seenLine_0 Q v0 S) (K : KQ5 S0 S) : P_X4_seenLine_0 (fun r T => Q r T ∧ KQ5 S0 T) v0 S := by
  delta P_X4_seenLine_0 at h ⊢
  obtain ⟨c1, h⟩ := h
  refine ⟨c1, ?_⟩
  have n2 := kq5_ne K c1
  refine cm_X4_someWalker (kq_X4_someWalker h) h (fun x3 x4 hp h g5 g6 => ?_)
  have h := h g5 g6
  have K := kq5_tr K hp.2
  refine ⟨?_, ?_⟩
  · intro c7
    have h := h.1 c7
    obtain ⟨b8, e9, h⟩ := h
    refine ⟨b8, e9, ?_⟩
    obtain ⟨c10, h⟩ := h
    refine ⟨c10, ?_⟩
    have n11 := kq5_ne K c10
    obtain ⟨b12, e13, h⟩ := h
    refine ⟨b12, e13, ?_⟩
    obtain ⟨b14, e15, h⟩ := h
    refine ⟨b14, e15, ?_⟩
    obtain ⟨c16, h⟩ := h
    refine ⟨c16, ?_⟩
    have n17 := kq5_ne K c16
    intro x19 e18
    have h := h x19 e18
    intro x21 e20
    have h := h x21 e20
    obtain ⟨c22, h⟩ := h
    refine ⟨c22, ?_⟩
    have n23 := kq5_ne K c22
    obtain ⟨c24, h⟩ := h
    refine ⟨c24, ?_⟩
    intro x26 e25
    have h := h x26 e25
    have K := kq5_A K e25 n23 (by decide)
    exact kq_X4_seenLine_30 h K
  · intro c27
    have h := h.2 c27
    exact ⟨h, K⟩
theorem kq_X4_seenLine {Q : Int32 → HS → Prop} {v0 : Nat} {S : HS} (h : P_X4_seenLine v0 Q S) : P_X4_seenLine v0 (fun r T => Q r T ∧ KQ5 S T) S := kq_X4_seenLine_0 h (kq5_rf S)
set_option maxRecDepth 20000 in
set_option maxHeartbeats 1000000 in
theorem kq_X4_walkerLine_0 {Q : Int32 → HS → Prop} {v0 : Nat} {S0 S : HS} (h : P_X4_walkerLine_0 Q v0 S) (K : KQ5 S0 S) : P_X4_walkerLine_0 (fun r T => Q r T ∧ KQ5 S0 T) v0 S := by
  delta P_X4_walkerLine_0 at h ⊢
  obtain ⟨c1, h⟩ := h
  refine ⟨c1, ?_⟩
  have n2 := kq5_ne K c1
  obtain ⟨b3, e4, h⟩ := h
  refine ⟨b3, e4, ?_⟩
  obtain ⟨c5, h⟩ := h
  refine ⟨c5, ?_⟩
  have n6 := kq5_ne K c5
  obtain ⟨b7, e8, h⟩ := h
  refine ⟨b7, e8, ?_⟩
  obtain ⟨b9, e10, h⟩ := h
  refine ⟨b9, e10, ?_⟩
  obtain ⟨c11, h⟩ := h
  refine ⟨c11, ?_⟩
  have n12 := kq5_ne K c11
  intro x14 e13
  have h := h x14 e13
  obtain ⟨c15, h⟩ := h
  refine ⟨c15, ?_⟩
  have n16 := kq5_ne K c15
  obtain ⟨c17, h⟩ := h
  refine ⟨c17, ?_⟩
  obtain ⟨b18, e19, h⟩ := h
  refine ⟨b18, e19, ?_⟩
  obtain ⟨b20, e21, h⟩ := h
  refine ⟨b20, e21, ?_⟩
  obtain ⟨c22, h⟩ := h
  refine ⟨c22, ?_⟩
  have n23 := kq5_ne K c22
  intro x25 e24
  have h := h x25 e24
  refine cm_X4_newName (kq_X4_newName h) h (fun x26 x27 hp h g28 g29 => ?_)
  have h := h g28 g29
  have K := kq5_tr K hp.2
  refine ⟨?_, ?_⟩
  · intro c30
    have h := h.1 c30
    exact ⟨h, K⟩
  · intro c31
    have h := h.2 c31
    refine cm_X4_kindOf (kq_X4_kindOf h) h (fun x32 x33 hp h g34 g35 => ?_)
    have h := h g34 g35
    have K := kq5_tr K hp.2
    refine ⟨?_, ?_⟩
    · intro c36
      have h := h.1 c36
      exact ⟨h, K⟩
    · intro c37
      have h := h.2 c37
      refine cm_X4_bodyOf (kq_X4_bodyOf h) h (fun x38 x39 hp h g40 g41 => ?_)
      have h := h g40 g41
      have K := kq5_tr K hp.2
      refine ⟨?_, ?_⟩
      · intro c42
        have h := h.1 c42
        refine cm_X4_wordAndWhole (kq_X4_wordAndWhole h) h (fun x43 x44 hp h g45 g46 => ?_)
        have h := h g45 g46
        have K := kq5_tr K hp.2
        refine ⟨?_, ?_⟩
        · intro c47
          have h := h.1 c47
          intro x49 e48
          have h := h x49 e48
          obtain ⟨c50, h⟩ := h
          refine ⟨c50, ?_⟩
          have n51 := kq5_ne K c50
          intro x53 e52
          have h := h x53 e52
          have K := kq5_I K e52 n51 (by decide)
          intro x55 e54
          have h := h x55 e54
          refine cm_X4_wordAndWhole (kq_X4_wordAndWhole h) h (fun x56 x57 hp h g58 g59 => ?_)
          have h := h g58 g59
          have K := kq5_tr K hp.2
          refine ⟨?_, ?_⟩
          · intro c60
            have h := h.1 c60
            intro x62 e61
            have h := h x62 e61
            intro x64 e63
            have h := h x64 e63
            have K := kq5_I K e63 n51 (by decide)
            obtain ⟨b65, e66, h⟩ := h
            refine ⟨b65, e66, ?_⟩
            obtain ⟨c67, h⟩ := h
            refine ⟨c67, ?_⟩
            have n68 := kq5_ne K c67
            intro x70 e69
            have h := h x70 e69
            intro x72 e71
            have h := h x72 e71
            intro x74 e73
            have h := h x74 e73
            have K := kq5_I K e73 n68 (by decide)
            exact ⟨h, K⟩
          · intro c75
            have h := h.2 c75
            exact ⟨h, K⟩
        · intro c76
          have h := h.2 c76
          exact ⟨h, K⟩
      · intro c77
        have h := h.2 c77
        exact ⟨h, K⟩
theorem kq_X4_walkerLine {Q : Int32 → HS → Prop} {v0 : Nat} {S : HS} (h : P_X4_walkerLine v0 Q S) : P_X4_walkerLine v0 (fun r T => Q r T ∧ KQ5 S T) S := kq_X4_walkerLine_0 h (kq5_rf S)
set_option maxRecDepth 20000 in
set_option maxHeartbeats 1000000 in
theorem kq_X4_worldLine_0 {Q : Int32 → HS → Prop} {v0 : Nat} {S0 S : HS} (h : P_X4_worldLine_0 Q v0 S) (K : KQ5 S0 S) : P_X4_worldLine_0 (fun r T => Q r T ∧ KQ5 S0 T) v0 S := by
  delta P_X4_worldLine_0 at h ⊢
  obtain ⟨c1, h⟩ := h
  refine ⟨c1, ?_⟩
  have n2 := kq5_ne K c1
  obtain ⟨b3, e4, h⟩ := h
  refine ⟨b3, e4, ?_⟩
  obtain ⟨c5, h⟩ := h
  refine ⟨c5, ?_⟩
  have n6 := kq5_ne K c5
  refine cm_X8_isTold (kq_X8_isTold h) h (fun x7 x8 hp h g9 g10 => ?_)
  have h := h g9 g10
  have K := kq5_tr K hp.2
  refine ⟨?_, ?_⟩
  · intro c11
    have h := h.1 c11
    refine cm_X4_next (kq_X4_next h) h (fun x12 hp h g13 => ?_)
    have h := h g13
    have K := kq5_tr K hp.2
    refine cm_X4_wordAndWhole (kq_X4_wordAndWhole h) h (fun x14 x15 hp h g16 g17 => ?_)
    have h := h g16 g17
    have K := kq5_tr K hp.2
    refine ⟨?_, ?_⟩
    · intro c18
      have h := h.1 c18
      obtain ⟨b19, e20, h⟩ := h
      refine ⟨b19, e20, ?_⟩
      intro x22 e21
      have h := h x22 e21
      obtain ⟨c23, h⟩ := h
      refine ⟨c23, ?_⟩
      have n24 := kq5_ne K c23
      intro x26 e25
      have h := h x26 e25
      have K := kq5_I K e25 n24 (by decide)
      exact ⟨h, K⟩
    · intro c27
      have h := h.2 c27
      exact ⟨h, K⟩
  · intro c28
    have h := h.2 c28
    refine cm_X4_fail (kq_X4_fail h) h (fun x29 x30 hp h g31 g32 => ?_)
    have h := h g31 g32
    have K := kq5_tr K hp.2
    obtain ⟨c33, h⟩ := h
    refine ⟨c33, ?_⟩
    exact ⟨h, K⟩
theorem kq_X4_worldLine {Q : Int32 → HS → Prop} {v0 : Nat} {S : HS} (h : P_X4_worldLine v0 Q S) : P_X4_worldLine v0 (fun r T => Q r T ∧ KQ5 S T) S := kq_X4_worldLine_0 h (kq5_rf S)
set_option maxRecDepth 20000 in
set_option maxHeartbeats 1000000 in
theorem kq_X4_read_280 {Q : Int32 → HS → Prop} {v0 : Nat} {S0 S : HS} (h : P_X4_read_280 Q v0 S) (K : KQ5 S0 S) : P_X4_read_280 (fun r T => Q r T ∧ KQ5 S0 T) v0 S := by
  delta P_X4_read_280 at h ⊢
  obtain ⟨c1, h⟩ := h
  refine ⟨c1, ?_⟩
  have n2 := kq5_ne K c1
  refine cm_X4_fail (kq_X4_fail h) h (fun x3 x4 hp h g5 g6 => ?_)
  have h := h g5 g6
  have K := kq5_tr K hp.2
  refine ⟨?_, ?_⟩
  · intro c7
    have h := h.1 c7
    exact ⟨h, K⟩
  · intro c8
    have h := h.2 c8
    exact ⟨h, K⟩
set_option maxRecDepth 20000 in
set_option maxHeartbeats 1000000 in
theorem kq_X4_read_295 {Q : Int32 → HS → Prop} {X8 X8_2 : Nat → Int32 → HS → Prop} {v0 : Nat} {v3 : Int32} {v4 : Int32} {S0 S : HS} (h : P_X4_read_295 Q X8 v0 v3 v4 S) (K : KQ5 S0 S) (hX8 : ∀ (u0 : Nat) (u1 : Int32) (u2 : HS), X8 u0 u1 u2 → KQ5 S0 u2 → X8_2 u0 u1 u2) : P_X4_read_295 (fun r T => Q r T ∧ KQ5 S0 T) X8_2 v0 v3 v4 S := by
  delta P_X4_read_295 at h ⊢
  refine ⟨?_, ?_⟩
  · intro c1
    have h := h.1 c1
    exact ⟨h, K⟩
  · intro c2
    have h := h.2 c2
    obtain ⟨c3, h⟩ := h
    refine ⟨c3, ?_⟩
    have n4 := kq5_ne K c3
    refine cm_X4_sign (kq_X4_sign h) h (fun x5 x6 hp h g7 g8 => ?_)
    have h := h g7 g8
    have K := kq5_tr K hp.2
    refine ⟨?_, ?_⟩
    · intro c9
      have h := h.1 c9
      intro x11 e10
      have h := h x11 e10
      exact hX8 _ _ _ h K
    · intro c12
      have h := h.2 c12
      exact ⟨h, K⟩
set_option maxRecDepth 20000 in
set_option maxHeartbeats 1000000 in
theorem kq_X4_read_248 {Q : Int32 → HS → Prop} {X8 X8_2 : Nat → Int32 → HS → Prop} {v0 : Nat} {v3 : Int32} {v4 : Int32} {S0 S : HS} (h : P_X4_read_248 Q X8 v0 v3 v4 S) (K : KQ5 S0 S) (hX8 : ∀ (u0 : Nat) (u1 : Int32) (u2 : HS), X8 u0 u1 u2 → KQ5 S0 u2 → X8_2 u0 u1 u2) : P_X4_read_248 (fun r T => Q r T ∧ KQ5 S0 T) X8_2 v0 v3 v4 S := by
  delta P_X4_read_248 at h ⊢
  refine ⟨?_, ?_⟩
  · intro c1
    have h := h.1 c1
    exact kq_X4_read_295 h K hX8
  · intro c2
    have h := h.2 c2
    obtain ⟨c3, h⟩ := h
    refine ⟨c3, ?_⟩
    have n4 := kq5_ne K c3
    intro x6 e5
    have h := h x6 e5
    refine ⟨?_, ?_⟩
    · intro c7
      have h := h.1 c7
      exact kq_X4_read_295 h K hX8
    · intro c8
      have h := h.2 c8
      obtain ⟨b9, e10, h⟩ := h
      refine ⟨b9, e10, ?_⟩
      obtain ⟨c11, h⟩ := h
      refine ⟨c11, ?_⟩
      have n12 := kq5_ne K c11
      intro x14 e13
      have h := h x14 e13
      refine ⟨?_, ?_⟩
      · intro c15
        have h := h.1 c15
        exact kq_X4_read_280 h K
      · intro c16
        have h := h.2 c16
        obtain ⟨b17, e18, h⟩ := h
        refine ⟨b17, e18, ?_⟩
        obtain ⟨c19, h⟩ := h
        refine ⟨c19, ?_⟩
        have n20 := kq5_ne K c19
        intro x22 e21
        have h := h x22 e21
        refine ⟨?_, ?_⟩
        · intro c23
          have h := h.1 c23
          exact ⟨h, K⟩
        · intro c24
          have h := h.2 c24
          exact kq_X4_read_280 h K
set_option maxRecDepth 20000 in
set_option maxHeartbeats 1000000 in
theorem kq_X4_read_70 {Q : Int32 → HS → Prop} {X8 X8_2 : Nat → Int32 → HS → Prop} {v0 : Nat} {v3 : Int32} {s0 : Int32} {S0 S : HS} (h : P_X4_read_70 Q X8 v0 v3 s0 S) (K : KQ5 S0 S) (hX8 : ∀ (u0 : Nat) (u1 : Int32) (u2 : HS), X8 u0 u1 u2 → KQ5 S0 u2 → X8_2 u0 u1 u2) : P_X4_read_70 (fun r T => Q r T ∧ KQ5 S0 T) X8_2 v0 v3 s0 S := by
  delta P_X4_read_70 at h ⊢
  exact kq_X4_read_248 h K hX8
set_option maxRecDepth 20000 in
set_option maxHeartbeats 1000000 in
theorem kq_X4_read_69 {Q : Int32 → HS → Prop} {X8 X8_2 : Nat → Int32 → HS → Prop} {v0 : Nat} {v3 : Int32} {S0 S : HS} (h : P_X4_read_69 Q X8 v0 v3 S) (K : KQ5 S0 S) (hX8 : ∀ (u0 : Nat) (u1 : Int32) (u2 : HS), X8 u0 u1 u2 → KQ5 S0 u2 → X8_2 u0 u1 u2) : P_X4_read_69 (fun r T => Q r T ∧ KQ5 S0 T) X8_2 v0 v3 S := by
  delta P_X4_read_69 at h ⊢
  exact kq_X4_read_70 h K hX8
set_option maxRecDepth 20000 in
set_option maxHeartbeats 1000000 in
theorem kq_X4_read_112 {Q : Int32 → HS → Prop} {X8 X8_2 : Nat → Int32 → HS → Prop} {v0 : Nat} {v3 : Int32} {s0 : Int32} {S0 S : HS} (h : P_X4_read_112 Q X8 v0 v3 s0 S) (K : KQ5 S0 S) (hX8 : ∀ (u0 : Nat) (u1 : Int32) (u2 : HS), X8 u0 u1 u2 → KQ5 S0 u2 → X8_2 u0 u1 u2) : P_X4_read_112 (fun r T => Q r T ∧ KQ5 S0 T) X8_2 v0 v3 s0 S := by
  delta P_X4_read_112 at h ⊢
  exact kq_X4_read_248 h K hX8
set_option maxRecDepth 20000 in
set_option maxHeartbeats 1000000 in
theorem kq_X4_read_111 {Q : Int32 → HS → Prop} {X8 X8_2 : Nat → Int32 → HS → Prop} {v0 : Nat} {v3 : Int32} {S0 S : HS} (h : P_X4_read_111 Q X8 v0 v3 S) (K : KQ5 S0 S) (hX8 : ∀ (u0 : Nat) (u1 : Int32) (u2 : HS), X8 u0 u1 u2 → KQ5 S0 u2 → X8_2 u0 u1 u2) : P_X4_read_111 (fun r T => Q r T ∧ KQ5 S0 T) X8_2 v0 v3 S := by
  delta P_X4_read_111 at h ⊢
  exact kq_X4_read_112 h K hX8
set_option maxRecDepth 20000 in
set_option maxHeartbeats 1000000 in
theorem kq_X4_read_154 {Q : Int32 → HS → Prop} {X8 X8_2 : Nat → Int32 → HS → Prop} {v0 : Nat} {v3 : Int32} {s0 : Int32} {S0 S : HS} (h : P_X4_read_154 Q X8 v0 v3 s0 S) (K : KQ5 S0 S) (hX8 : ∀ (u0 : Nat) (u1 : Int32) (u2 : HS), X8 u0 u1 u2 → KQ5 S0 u2 → X8_2 u0 u1 u2) : P_X4_read_154 (fun r T => Q r T ∧ KQ5 S0 T) X8_2 v0 v3 s0 S := by
  delta P_X4_read_154 at h ⊢
  exact kq_X4_read_248 h K hX8
set_option maxRecDepth 20000 in
set_option maxHeartbeats 1000000 in
theorem kq_X4_read_153 {Q : Int32 → HS → Prop} {X8 X8_2 : Nat → Int32 → HS → Prop} {v0 : Nat} {v3 : Int32} {S0 S : HS} (h : P_X4_read_153 Q X8 v0 v3 S) (K : KQ5 S0 S) (hX8 : ∀ (u0 : Nat) (u1 : Int32) (u2 : HS), X8 u0 u1 u2 → KQ5 S0 u2 → X8_2 u0 u1 u2) : P_X4_read_153 (fun r T => Q r T ∧ KQ5 S0 T) X8_2 v0 v3 S := by
  delta P_X4_read_153 at h ⊢
  exact kq_X4_read_154 h K hX8
set_option maxRecDepth 20000 in
set_option maxHeartbeats 1000000 in
theorem kq_X4_read_195 {Q : Int32 → HS → Prop} {X8 X8_2 : Nat → Int32 → HS → Prop} {v0 : Nat} {v3 : Int32} {s0 : Int32} {S0 S : HS} (h : P_X4_read_195 Q X8 v0 v3 s0 S) (K : KQ5 S0 S) (hX8 : ∀ (u0 : Nat) (u1 : Int32) (u2 : HS), X8 u0 u1 u2 → KQ5 S0 u2 → X8_2 u0 u1 u2) : P_X4_read_195 (fun r T => Q r T ∧ KQ5 S0 T) X8_2 v0 v3 s0 S := by
  delta P_X4_read_195 at h ⊢
  exact kq_X4_read_248 h K hX8
set_option maxRecDepth 20000 in
set_option maxHeartbeats 1000000 in
theorem kq_X4_read_194 {Q : Int32 → HS → Prop} {X8 X8_2 : Nat → Int32 → HS → Prop} {v0 : Nat} {v3 : Int32} {S0 S : HS} (h : P_X4_read_194 Q X8 v0 v3 S) (K : KQ5 S0 S) (hX8 : ∀ (u0 : Nat) (u1 : Int32) (u2 : HS), X8 u0 u1 u2 → KQ5 S0 u2 → X8_2 u0 u1 u2) : P_X4_read_194 (fun r T => Q r T ∧ KQ5 S0 T) X8_2 v0 v3 S := by
  delta P_X4_read_194 at h ⊢
  exact kq_X4_read_195 h K hX8
set_option maxRecDepth 20000 in
set_option maxHeartbeats 1000000 in
theorem kq_X4_read_236 {Q : Int32 → HS → Prop} {X8 X8_2 : Nat → Int32 → HS → Prop} {v0 : Nat} {v3 : Int32} {s0 : Int32} {S0 S : HS} (h : P_X4_read_236 Q X8 v0 v3 s0 S) (K : KQ5 S0 S) (hX8 : ∀ (u0 : Nat) (u1 : Int32) (u2 : HS), X8 u0 u1 u2 → KQ5 S0 u2 → X8_2 u0 u1 u2) : P_X4_read_236 (fun r T => Q r T ∧ KQ5 S0 T) X8_2 v0 v3 s0 S := by
  delta P_X4_read_236 at h ⊢
  exact kq_X4_read_248 h K hX8
set_option maxRecDepth 20000 in
set_option maxHeartbeats 1000000 in
theorem kq_X4_read_235 {Q : Int32 → HS → Prop} {X8 X8_2 : Nat → Int32 → HS → Prop} {v0 : Nat} {v3 : Int32} {S0 S : HS} (h : P_X4_read_235 Q X8 v0 v3 S) (K : KQ5 S0 S) (hX8 : ∀ (u0 : Nat) (u1 : Int32) (u2 : HS), X8 u0 u1 u2 → KQ5 S0 u2 → X8_2 u0 u1 u2) : P_X4_read_235 (fun r T => Q r T ∧ KQ5 S0 T) X8_2 v0 v3 S := by
  delta P_X4_read_235 at h ⊢
  exact kq_X4_read_236 h K hX8
set_option maxRecDepth 20000 in
set_option maxHeartbeats 1000000 in
theorem kqB_X4_read_8 {Q : Int32 → HS → Prop} {X8 X8_2 : Nat → Int32 → HS → Prop} {v0 : Nat} {v3 : Int32} {S0 S : HS} (h : B_X4_read_8 Q X8 v0 v3 S) (K : KQ5 S0 S) (hX8 : ∀ (u0 : Nat) (u1 : Int32) (u2 : HS), X8 u0 u1 u2 → KQ5 S0 u2 → X8_2 u0 u1 u2) : B_X4_read_8 (fun r T => Q r T ∧ KQ5 S0 T) X8_2 v0 v3 S := by
  delta B_X4_read_8 at h ⊢
  refine ⟨?_, ?_⟩
  · intro c1
    have h := h.1 c1
    obtain ⟨c2, h⟩ := h
    refine ⟨c2, ?_⟩
    have n3 := kq5_ne K c2
    refine cm_X4_fail (kq_X4_fail h) h (fun x4 x5 hp h g6 g7 => ?_)
    have h := h g6 g7
    have K := kq5_tr K hp.2
    obtain ⟨c8, h⟩ := h
    refine ⟨c8, ?_⟩
    exact ⟨h, K⟩
  · intro c9
    have h := h.2 c9
    obtain ⟨c10, h⟩ := h
    refine ⟨c10, ?_⟩
    have n11 := kq5_ne K c10
    refine cm_X4_is (kq_X4_is h) h (fun x12 x13 hp h g14 g15 => ?_)
    have h := h g14 g15
    have K := kq5_tr K hp.2
    refine ⟨?_, ?_⟩
    · intro c16
      have h := h.1 c16
      refine cm_X4_is (kq_X4_is h) h (fun x17 x18 hp h g19 g20 => ?_)
      have h := h g19 g20
      have K := kq5_tr K hp.2
      refine ⟨?_, ?_⟩
      · intro c21
        have h := h.1 c21
        refine cm_X4_is (kq_X4_is h) h (fun x22 x23 hp h g24 g25 => ?_)
        have h := h g24 g25
        have K := kq5_tr K hp.2
        refine ⟨?_, ?_⟩
        · intro c26
          have h := h.1 c26
          refine cm_X4_is (kq_X4_is h) h (fun x27 x28 hp h g29 g30 => ?_)
          have h := h g29 g30
          have K := kq5_tr K hp.2
          refine ⟨?_, ?_⟩
          · intro c31
            have h := h.1 c31
            refine cm_X4_is (kq_X4_is h) h (fun x32 x33 hp h g34 g35 => ?_)
            have h := h g34 g35
            have K := kq5_tr K hp.2
            refine ⟨?_, ?_⟩
            · intro c36
              have h := h.1 c36
              refine cm_X4_is (kq_X4_is h) h (fun x37 x38 hp h g39 g40 => ?_)
              have h := h g39 g40
              have K := kq5_tr K hp.2
              refine ⟨?_, ?_⟩
              · intro c41
                have h := h.1 c41
                refine cm_X4_fail (kq_X4_fail h) h (fun x42 x43 hp h g44 g45 => ?_)
                have h := h g44 g45
                have K := kq5_tr K hp.2
                exact kq_X4_read_248 h K hX8
              · intro c46
                have h := h.2 c46
                obtain ⟨b47, e48, h⟩ := h
                refine ⟨b47, e48, ?_⟩
                obtain ⟨c49, h⟩ := h
                refine ⟨c49, ?_⟩
                have n50 := kq5_ne K c49
                intro x52 e51
                have h := h x52 e51
                refine cm_X4_hasRoom (kq_X4_hasRoom h) h (fun x53 x54 hp h g55 g56 => ?_)
                have h := h g55 g56
                have K := kq5_tr K hp.2
                refine ⟨?_, ?_⟩
                · intro c57
                  have h := h.1 c57
                  exact kq_X4_read_235 h K hX8
                · intro c58
                  have h := h.2 c58
                  refine cm_X4_seenLine (kq_X4_seenLine h) h (fun x59 x60 hp h g61 g62 => ?_)
                  have h := h g61 g62
                  have K := kq5_tr K hp.2
                  refine ⟨?_, ?_⟩
                  · intro c63
                    have h := h.1 c63
                    exact kq_X4_read_235 h K hX8
                  · intro c64
                    have h := h.2 c64
                    exact kq_X4_read_236 h K hX8
            · intro c65
              have h := h.2 c65
              obtain ⟨b66, e67, h⟩ := h
              refine ⟨b66, e67, ?_⟩
              obtain ⟨c68, h⟩ := h
              refine ⟨c68, ?_⟩
              have n69 := kq5_ne K c68
              intro x71 e70
              have h := h x71 e70
              refine cm_X4_hasRoom (kq_X4_hasRoom h) h (fun x72 x73 hp h g74 g75 => ?_)
              have h := h g74 g75
              have K := kq5_tr K hp.2
              refine ⟨?_, ?_⟩
              · intro c76
                have h := h.1 c76
                exact kq_X4_read_194 h K hX8
              · intro c77
                have h := h.2 c77
                refine cm_X4_walkerLine (kq_X4_walkerLine h) h (fun x78 x79 hp h g80 g81 => ?_)
                have h := h g80 g81
                have K := kq5_tr K hp.2
                refine ⟨?_, ?_⟩
                · intro c82
                  have h := h.1 c82
                  exact kq_X4_read_194 h K hX8
                · intro c83
                  have h := h.2 c83
                  exact kq_X4_read_195 h K hX8
          · intro c84
            have h := h.2 c84
            obtain ⟨b85, e86, h⟩ := h
            refine ⟨b85, e86, ?_⟩
            obtain ⟨c87, h⟩ := h
            refine ⟨c87, ?_⟩
            have n88 := kq5_ne K c87
            intro x90 e89
            have h := h x90 e89
            refine cm_X4_hasRoom (kq_X4_hasRoom h) h (fun x91 x92 hp h g93 g94 => ?_)
            have h := h g93 g94
            have K := kq5_tr K hp.2
            refine ⟨?_, ?_⟩
            · intro c95
              have h := h.1 c95
              exact kq_X4_read_153 h K hX8
            · intro c96
              have h := h.2 c96
              refine cm_X4_roadLine (kq_X4_roadLine h) h (fun x97 x98 hp h g99 g100 => ?_)
              have h := h g99 g100
              have K := kq5_tr K hp.2
              refine ⟨?_, ?_⟩
              · intro c101
                have h := h.1 c101
                exact kq_X4_read_153 h K hX8
              · intro c102
                have h := h.2 c102
                exact kq_X4_read_154 h K hX8
        · intro c103
          have h := h.2 c103
          obtain ⟨b104, e105, h⟩ := h
          refine ⟨b104, e105, ?_⟩
          obtain ⟨c106, h⟩ := h
          refine ⟨c106, ?_⟩
          have n107 := kq5_ne K c106
          intro x109 e108
          have h := h x109 e108
          refine cm_X4_hasRoom (kq_X4_hasRoom h) h (fun x110 x111 hp h g112 g113 => ?_)
          have h := h g112 g113
          have K := kq5_tr K hp.2
          refine ⟨?_, ?_⟩
          · intro c114
            have h := h.1 c114
            exact kq_X4_read_111 h K hX8
          · intro c115
            have h := h.2 c115
            refine cm_X4_placeLine (kq_X4_placeLine h) h (fun x116 x117 hp h g118 g119 => ?_)
            have h := h g118 g119
            have K := kq5_tr K hp.2
            refine ⟨?_, ?_⟩
            · intro c120
              have h := h.1 c120
              exact kq_X4_read_111 h K hX8
            · intro c121
              have h := h.2 c121
              exact kq_X4_read_112 h K hX8
      · intro c122
        have h := h.2 c122
        obtain ⟨b123, e124, h⟩ := h
        refine ⟨b123, e124, ?_⟩
        obtain ⟨c125, h⟩ := h
        refine ⟨c125, ?_⟩
        have n126 := kq5_ne K c125
        intro x128 e127
        have h := h x128 e127
        refine cm_X4_hasRoom (kq_X4_hasRoom h) h (fun x129 x130 hp h g131 g132 => ?_)
        have h := h g131 g132
        have K := kq5_tr K hp.2
        refine ⟨?_, ?_⟩
        · intro c133
          have h := h.1 c133
          exact kq_X4_read_69 h K hX8
        · intro c134
          have h := h.2 c134
          refine cm_X4_rainLine (kq_X4_rainLine h) h (fun x135 x136 hp h g137 g138 => ?_)
          have h := h g137 g138
          have K := kq5_tr K hp.2
          refine ⟨?_, ?_⟩
          · intro c139
            have h := h.1 c139
            exact kq_X4_read_69 h K hX8
          · intro c140
            have h := h.2 c140
            exact kq_X4_read_70 h K hX8
    · intro c141
      have h := h.2 c141
      refine cm_X4_worldLine (kq_X4_worldLine h) h (fun x142 x143 hp h g144 g145 => ?_)
      have h := h g144 g145
      have K := kq5_tr K hp.2
      exact kq_X4_read_248 h K hX8
theorem kq_X4_read_8 {Q : Int32 → HS → Prop} {v0 : Nat} {v3 : Int32} {S0 S : HS} (h : P_X4_read_8 Q v0 v3 S) (K : KQ5 S0 S) : P_X4_read_8 (fun r T => Q r T ∧ KQ5 S0 T) v0 v3 S := h (fun v0 v3 S => KQ5 S0 S → P_X4_read_8 (fun r T => Q r T ∧ KQ5 S0 T) v0 v3 S) (fun v0 v3 S hB K => fd_X4_read_8 (kqB_X4_read_8 hB K (fun _ _ _ hx K => hx K))) K
set_option maxRecDepth 20000 in
set_option maxHeartbeats 1000000 in
theorem kq_X4_read_0 {Q : Int32 → HS → Prop} {v0 : Nat} {v1 : Nat} {v2 : Int32} {S0 S : HS} (h : P_X4_read_0 Q v0 v1 v2 S) (K : KQ5 S0 S) : P_X4_read_0 (fun r T => Q r T ∧ KQ5 S0 T) v0 v1 v2 S := by
  delta P_X4_read_0 at h ⊢
  obtain ⟨c1, h⟩ := h
  refine ⟨c1, ?_⟩
  have n2 := kq5_ne K c1
  refine cm_X4_open (kq_X4_open h) h (fun x3 hp h g4 => ?_)
  have h := h g4
  have K := kq5_tr K hp.2
  exact kq_X4_read_8 h K
theorem kq_X4_read {Q : Int32 → HS → Prop} {v0 : Nat} {v1 : Nat} {v2 : Int32} {S : HS} (h : P_X4_read v0 v1 v2 Q S) : P_X4_read v0 v1 v2 (fun r T => Q r T ∧ KQ5 S T) S := kq_X4_read_0 h (kq5_rf S)
set_option maxRecDepth 20000 in
set_option maxHeartbeats 1000000 in
theorem kq_X5_endOf_0 {Q : Int32 → HS → Prop} {v0 : Nat} {v1 : Int32} {S0 S : HS} (h : P_X5_endOf_0 Q v0 v1 S) (K : KQ5 S0 S) : P_X5_endOf_0 (fun r T => Q r T ∧ KQ5 S0 T) v0 v1 S := by
  delta P_X5_endOf_0 at h ⊢
  refine ⟨?_, ?_⟩
  · intro c1
    have h := h.1 c1
    obtain ⟨c2, h⟩ := h
    refine ⟨c2, ?_⟩
    have n3 := kq5_ne K c2
    intro x5 e4
    have h := h x5 e4
    exact ⟨h, K⟩
  · intro c6
    have h := h.2 c6
    obtain ⟨c7, h⟩ := h
    refine ⟨c7, ?_⟩
    have n8 := kq5_ne K c7
    intro x10 e9
    have h := h x10 e9
    exact ⟨h, K⟩
theorem kq_X5_endOf {Q : Int32 → HS → Prop} {v0 : Nat} {v1 : Int32} {S : HS} (h : P_X5_endOf v0 v1 Q S) : P_X5_endOf v0 v1 (fun r T => Q r T ∧ KQ5 S T) S := kq_X5_endOf_0 h (kq5_rf S)
set_option maxRecDepth 20000 in
set_option maxHeartbeats 1000000 in
theorem kq_X5_minutesAt_0 {Q : Int32 → HS → Prop} {v0 : Nat} {v1 : Int32} {S0 S : HS} (h : P_X5_minutesAt_0 Q v0 v1 S) (K : KQ5 S0 S) : P_X5_minutesAt_0 (fun r T => Q r T ∧ KQ5 S0 T) v0 v1 S := by
  delta P_X5_minutesAt_0 at h ⊢
  refine ⟨?_, ?_⟩
  · intro c1
    have h := h.1 c1
    exact ⟨h, K⟩
  · intro c2
    have h := h.2 c2
    obtain ⟨c3, h⟩ := h
    refine ⟨c3, ?_⟩
    have n4 := kq5_ne K c3
    intro x6 e5
    have h := h x6 e5
    obtain ⟨c7, h⟩ := h
    refine ⟨c7, ?_⟩
    intro x9 e8
    have h := h x9 e8
    exact ⟨h, K⟩
theorem kq_X5_minutesAt {Q : Int32 → HS → Prop} {v0 : Nat} {v1 : Int32} {S : HS} (h : P_X5_minutesAt v0 v1 Q S) : P_X5_minutesAt v0 v1 (fun r T => Q r T ∧ KQ5 S T) S := kq_X5_minutesAt_0 h (kq5_rf S)
set_option maxRecDepth 20000 in
set_option maxHeartbeats 1000000 in
theorem kq_X5_startOf_0 {Q : Int32 → HS → Prop} {v0 : Nat} {v1 : Int32} {S0 S : HS} (h : P_X5_startOf_0 Q v0 v1 S) (K : KQ5 S0 S) : P_X5_startOf_0 (fun r T => Q r T ∧ KQ5 S0 T) v0 v1 S := by
  delta P_X5_startOf_0 at h ⊢
  refine ⟨?_, ?_⟩
  · intro c1
    have h := h.1 c1
    obtain ⟨c2, h⟩ := h
    refine ⟨c2, ?_⟩
    have n3 := kq5_ne K c2
    intro x5 e4
    have h := h x5 e4
    exact ⟨h, K⟩
  · intro c6
    have h := h.2 c6
    obtain ⟨c7, h⟩ := h
    refine ⟨c7, ?_⟩
    have n8 := kq5_ne K c7
    intro x10 e9
    have h := h x10 e9
    exact ⟨h, K⟩
theorem kq_X5_startOf {Q : Int32 → HS → Prop} {v0 : Nat} {v1 : Int32} {S : HS} (h : P_X5_startOf v0 v1 Q S) : P_X5_startOf v0 v1 (fun r T => Q r T ∧ KQ5 S T) S := kq_X5_startOf_0 h (kq5_rf S)
set_option maxRecDepth 20000 in
set_option maxHeartbeats 1000000 in
theorem kq_X5_tell_0 {Q : Int32 → HS → Prop} {v0 : Nat} {v1 : Int32} {S0 S : HS} (h : P_X5_tell_0 Q v0 v1 S) (K : KQ5 S0 S) : P_X5_tell_0 (fun r T => Q r T ∧ KQ5 S0 T) v0 v1 S := by
  delta P_X5_tell_0 at h ⊢
  refine ⟨?_, ?_, ?_, ?_, ?_⟩
  · intro c1
    have h := h.1 c1
    obtain ⟨c2, h⟩ := h
    refine ⟨c2, ?_⟩
    have n3 := kq5_ne K c2
    intro x5 e4
    have h := h x5 e4
    exact ⟨h, K⟩
  · intro c6
    have h := h.2.1 c6
    obtain ⟨c7, h⟩ := h
    refine ⟨c7, ?_⟩
    have n8 := kq5_ne K c7
    intro x10 e9
    have h := h x10 e9
    exact ⟨h, K⟩
  · intro c11
    have h := h.2.2.1 c11
    obtain ⟨c12, h⟩ := h
    refine ⟨c12, ?_⟩
    have n13 := kq5_ne K c12
    intro x15 e14
    have h := h x15 e14
    exact ⟨h, K⟩
  · intro c16
    have h := h.2.2.2.1 c16
    obtain ⟨c17, h⟩ := h
    refine ⟨c17, ?_⟩
    have n18 := kq5_ne K c17
    intro x20 e19
    have h := h x20 e19
    exact ⟨h, K⟩
  · intro c21
    have h := h.2.2.2.2 c21
    obtain ⟨c22, h⟩ := h
    refine ⟨c22, ?_⟩
    have n23 := kq5_ne K c22
    intro x25 e24
    have h := h x25 e24
    exact ⟨h, K⟩
theorem kq_X5_tell {Q : Int32 → HS → Prop} {v0 : Nat} {v1 : Int32} {S : HS} (h : P_X5_tell v0 v1 Q S) : P_X5_tell v0 v1 (fun r T => Q r T ∧ KQ5 S T) S := kq_X5_tell_0 h (kq5_rf S)
set_option maxRecDepth 20000 in
set_option maxHeartbeats 1000000 in
theorem kq_X5_touches_0 {Q : Int32 → HS → Prop} {v0 : Nat} {v1 : Int32} {S0 S : HS} (h : P_X5_touches_0 Q v0 v1 S) (K : KQ5 S0 S) : P_X5_touches_0 (fun r T => Q r T ∧ KQ5 S0 T) v0 v1 S := by
  delta P_X5_touches_0 at h ⊢
  obtain ⟨c1, h⟩ := h
  refine ⟨c1, ?_⟩
  have n2 := kq5_ne K c1
  intro x4 e3
  have h := h x4 e3
  refine ⟨?_, ?_⟩
  · intro c5
    have h := h.1 c5
    exact ⟨h, K⟩
  · intro c6
    have h := h.2 c6
    intro x8 e7
    have h := h x8 e7
    refine ⟨?_, ?_⟩
    · intro c9
      have h := h.1 c9
      exact ⟨h, K⟩
    · intro c10
      have h := h.2 c10
      exact ⟨h, K⟩
theorem kq_X5_touches {Q : Int32 → HS → Prop} {v0 : Nat} {v1 : Int32} {S : HS} (h : P_X5_touches v0 v1 Q S) : P_X5_touches v0 v1 (fun r T => Q r T ∧ KQ5 S T) S := kq_X5_touches_0 h (kq5_rf S)
set_option maxRecDepth 20000 in
set_option maxHeartbeats 1000000 in
theorem kq_X6_tell_0 {Q : Int32 → HS → Prop} {v0 : Nat} {v1 : Int32} {S0 S : HS} (h : P_X6_tell_0 Q v0 v1 S) (K : KQ5 S0 S) : P_X6_tell_0 (fun r T => Q r T ∧ KQ5 S0 T) v0 v1 S := by
  delta P_X6_tell_0 at h ⊢
  refine ⟨?_, ?_, ?_, ?_, ?_, ?_, ?_⟩
  · intro c1
    have h := h.1 c1
    obtain ⟨c2, h⟩ := h
    refine ⟨c2, ?_⟩
    have n3 := kq5_ne K c2
    intro x5 e4
    have h := h x5 e4
    exact ⟨h, K⟩
  · intro c6
    have h := h.2.1 c6
    obtain ⟨c7, h⟩ := h
    refine ⟨c7, ?_⟩
    have n8 := kq5_ne K c7
    intro x10 e9
    have h := h x10 e9
    exact ⟨h, K⟩
  · intro c11
    have h := h.2.2.1 c11
    obtain ⟨c12, h⟩ := h
    refine ⟨c12, ?_⟩
    have n13 := kq5_ne K c12
    intro x15 e14
    have h := h x15 e14
    exact ⟨h, K⟩
  · intro c16
    have h := h.2.2.2.1 c16
    obtain ⟨c17, h⟩ := h
    refine ⟨c17, ?_⟩
    have n18 := kq5_ne K c17
    intro x20 e19
    have h := h x20 e19
    exact ⟨h, K⟩
  · intro c21
    have h := h.2.2.2.2.1 c21
    obtain ⟨c22, h⟩ := h
    refine ⟨c22, ?_⟩
    have n23 := kq5_ne K c22
    intro x25 e24
    have h := h x25 e24
    exact ⟨h, K⟩
  · intro c26
    have h := h.2.2.2.2.2.1 c26
    obtain ⟨c27, h⟩ := h
    refine ⟨c27, ?_⟩
    have n28 := kq5_ne K c27
    intro x30 e29
    have h := h x30 e29
    exact ⟨h, K⟩
  · intro c31
    have h := h.2.2.2.2.2.2 c31
    obtain ⟨c32, h⟩ := h
    refine ⟨c32, ?_⟩
    have n33 := kq5_ne K c32
    intro x35 e34
    have h := h x35 e34
    exact ⟨h, K⟩
theorem kq_X6_tell {Q : Int32 → HS → Prop} {v0 : Nat} {v1 : Int32} {S : HS} (h : P_X6_tell v0 v1 Q S) : P_X6_tell v0 v1 (fun r T => Q r T ∧ KQ5 S T) S := kq_X6_tell_0 h (kq5_rf S)
set_option maxRecDepth 20000 in
set_option maxHeartbeats 1000000 in
theorem kq_X7_addMove_0 {Q : HS → Prop} {v0 : Nat} {v1 : Int32} {v2 : Int32} {v3 : Int32} {v4 : Int64} {v6 : Int32} {S0 S : HS} (h : P_X7_addMove_0 Q v0 v1 v2 v3 v4 v6 S) (K : KQ5 S0 S) : P_X7_addMove_0 (fun T => Q T ∧ KQ5 S0 T) v0 v1 v2 v3 v4 v6 S := by
  delta P_X7_addMove_0 at h ⊢
  obtain ⟨c1, h⟩ := h
  refine ⟨c1, ?_⟩
  have n2 := kq5_ne K c1
  intro x4 e3
  have h := h x4 e3
  refine ⟨?_, ?_⟩
  · intro c5
    have h := h.1 c5
    exact ⟨h, K⟩
  · intro c6
    have h := h.2 c6
    intro x8 e7
    have h := h x8 e7
    refine ⟨?_, ?_⟩
    · intro c9
      have h := h.1 c9
      exact ⟨h, K⟩
    · intro c10
      have h := h.2 c10
      intro x12 e11
      have h := h x12 e11
      refine ⟨?_, ?_⟩
      · intro c13
        have h := h.1 c13
        obtain ⟨b14, e15, h⟩ := h
        refine ⟨b14, e15, ?_⟩
        intro x17 e16
        have h := h x17 e16
        obtain ⟨c18, h⟩ := h
        refine ⟨c18, ?_⟩
        have n19 := kq5_ne K c18
        intro x21 e20
        have h := h x21 e20
        obtain ⟨c22, h⟩ := h
        refine ⟨c22, ?_⟩
        intro x24 e23
        have h := h x24 e23
        have K := kq5_A K e23 n19 (by decide)
        obtain ⟨b25, e26, h⟩ := h
        refine ⟨b25, e26, ?_⟩
        intro x28 e27
        have h := h x28 e27
        obtain ⟨c29, h⟩ := h
        refine ⟨c29, ?_⟩
        have n30 := kq5_ne K c29
        intro x32 e31
        have h := h x32 e31
        obtain ⟨c33, h⟩ := h
        refine ⟨c33, ?_⟩
        intro x35 e34
        have h := h x35 e34
        have K := kq5_A K e34 n30 (by decide)
        obtain ⟨b36, e37, h⟩ := h
        refine ⟨b36, e37, ?_⟩
        intro x39 e38
        have h := h x39 e38
        obtain ⟨c40, h⟩ := h
        refine ⟨c40, ?_⟩
        have n41 := kq5_ne K c40
        obtain ⟨c42, h⟩ := h
        refine ⟨c42, ?_⟩
        intro x44 e43
        have h := h x44 e43
        have K := kq5_A K e43 n41 (by decide)
        obtain ⟨b45, e46, h⟩ := h
        refine ⟨b45, e46, ?_⟩
        intro x48 e47
        have h := h x48 e47
        obtain ⟨c49, h⟩ := h
        refine ⟨c49, ?_⟩
        have n50 := kq5_ne K c49
        intro x52 e51
        have h := h x52 e51
        obtain ⟨c53, h⟩ := h
        refine ⟨c53, ?_⟩
        intro x55 e54
        have h := h x55 e54
        have K := kq5_J K e54
        obtain ⟨b56, e57, h⟩ := h
        refine ⟨b56, e57, ?_⟩
        intro x59 e58
        have h := h x59 e58
        obtain ⟨c60, h⟩ := h
        refine ⟨c60, ?_⟩
        have n61 := kq5_ne K c60
        obtain ⟨c62, h⟩ := h
        refine ⟨c62, ?_⟩
        intro x64 e63
        have h := h x64 e63
        have K := kq5_A K e63 n61 (by decide)
        intro x66 e65
        have h := h x66 e65
        intro x68 e67
        have h := h x68 e67
        intro x70 e69
        have h := h x70 e69
        have K := kq5_I K e69 n2 (by decide)
        exact ⟨h, K⟩
      · intro c71
        have h := h.2 c71
        exact ⟨h, K⟩
theorem kq_X7_addMove {Q : HS → Prop} {v0 : Nat} {v1 : Int32} {v2 : Int32} {v3 : Int32} {v4 : Int64} {v6 : Int32} {S : HS} (h : P_X7_addMove v0 v1 v2 v3 v4 v6 Q S) : P_X7_addMove v0 v1 v2 v3 v4 v6 (fun T => Q T ∧ KQ5 S T) S := kq_X7_addMove_0 h (kq5_rf S)
set_option maxRecDepth 20000 in
set_option maxHeartbeats 1000000 in
theorem kq_X7_addLeg_82 {Q : HS → Prop} {v0 : Nat} {v1 : Nat} {v2 : Int32} {v4 : Int64} {v6 : Int32} {v7 : Int32} {S0 S : HS} (h : P_X7_addLeg_82 Q v0 v1 v2 v4 v6 v7 S) (K : KQ5 S0 S) : P_X7_addLeg_82 (fun T => Q T ∧ KQ5 S0 T) v0 v1 v2 v4 v6 v7 S := by
  delta P_X7_addLeg_82 at h ⊢
  obtain ⟨c1, h⟩ := h
  refine ⟨c1, ?_⟩
  have n2 := kq5_ne K c1
  refine cm_X5_startOf (kq_X5_startOf h) h (fun x3 x4 hp h g5 => ?_)
  have h := h g5
  have K := kq5_tr K hp.2
  refine cm_X5_endOf (kq_X5_endOf h) h (fun x6 x7 hp h g8 => ?_)
  have h := h g8
  have K := kq5_tr K hp.2
  obtain ⟨c9, h⟩ := h
  refine ⟨c9, ?_⟩
  have n10 := kq5_ne K c9
  refine cm_X7_addMove (kq_X7_addMove h) h (fun x11 hp h g12 => ?_)
  have h := h g12
  have K := kq5_tr K hp.2
  exact ⟨h, K⟩
set_option maxRecDepth 20000 in
set_option maxHeartbeats 1000000 in
theorem kq_X7_addLeg_0 {Q : HS → Prop} {v0 : Nat} {v1 : Nat} {v2 : Int32} {v3 : Int32} {v4 : Int64} {v6 : Int32} {S0 S : HS} (h : P_X7_addLeg_0 Q v0 v1 v2 v3 v4 v6 S) (K : KQ5 S0 S) : P_X7_addLeg_0 (fun T => Q T ∧ KQ5 S0 T) v0 v1 v2 v3 v4 v6 S := by
  delta P_X7_addLeg_0 at h ⊢
  obtain ⟨c1, h⟩ := h
  refine ⟨c1, ?_⟩
  have n2 := kq5_ne K c1
  refine cm_X5_minutesAt (kq_X5_minutesAt h) h (fun x3 x4 hp h g5 => ?_)
  have h := h g5
  have K := kq5_tr K hp.2
  obtain ⟨c6, h⟩ := h
  refine ⟨c6, ?_⟩
  have n7 := kq5_ne K c6
  intro x9 e8
  have h := h x9 e8
  intro x11 e10
  have h := h x11 e10
  refine ⟨?_, ?_⟩
  · intro c12
    have h := h.1 c12
    exact kq_X7_addLeg_82 h K
  · intro c13
    have h := h.2 c13
    refine ⟨?_, ?_⟩
    · intro c14
      have h := h.1 c14
      exact kq_X7_addLeg_82 h K
    · intro c15
      have h := h.2 c15
      obtain ⟨b16, e17, h⟩ := h
      refine ⟨b16, e17, ?_⟩
      obtain ⟨c18, h⟩ := h
      refine ⟨c18, ?_⟩
      have n19 := kq5_ne K c18
      obtain ⟨c20, h⟩ := h
      refine ⟨c20, ?_⟩
      intro x22 e21
      have h := h x22 e21
      intro x24 e23
      have h := h x24 e23
      intro x26 e25
      have h := h x26 e25
      refine ⟨?_, ?_⟩
      · intro c27
        have h := h.1 c27
        exact kq_X7_addLeg_82 h K
      · intro c28
        have h := h.2 c28
        obtain ⟨b29, e30, h⟩ := h
        refine ⟨b29, e30, ?_⟩
        obtain ⟨c31, h⟩ := h
        refine ⟨c31, ?_⟩
        have n32 := kq5_ne K c31
        obtain ⟨c33, h⟩ := h
        refine ⟨c33, ?_⟩
        intro x35 e34
        have h := h x35 e34
        refine ⟨?_, ?_⟩
        · intro c36
          have h := h.1 c36
          exact kq_X7_addLeg_82 h K
        · intro c37
          have h := h.2 c37
          obtain ⟨b38, e39, h⟩ := h
          refine ⟨b38, e39, ?_⟩
          obtain ⟨c40, h⟩ := h
          refine ⟨c40, ?_⟩
          have n41 := kq5_ne K c40
          obtain ⟨c42, h⟩ := h
          refine ⟨c42, ?_⟩
          intro x44 e43
          have h := h x44 e43
          refine ⟨?_, ?_⟩
          · intro c45
            have h := h.1 c45
            intro x47 e46
            have h := h x47 e46
            have K := kq5_I K e46 n7 (by decide)
            exact kq_X7_addLeg_82 h K
          · intro c48
            have h := h.2 c48
            exact ⟨h, K⟩
theorem kq_X7_addLeg {Q : HS → Prop} {v0 : Nat} {v1 : Nat} {v2 : Int32} {v3 : Int32} {v4 : Int64} {v6 : Int32} {S : HS} (h : P_X7_addLeg v0 v1 v2 v3 v4 v6 Q S) : P_X7_addLeg v0 v1 v2 v3 v4 v6 (fun T => Q T ∧ KQ5 S T) S := kq_X7_addLeg_0 h (kq5_rf S)
set_option maxRecDepth 20000 in
set_option maxHeartbeats 1000000 in
theorem kq_X7_keyOf_0 {Q : Int64 → HS → Prop} {v0 : Nat} {v1 : Int32} {v2 : Int32} {S0 S : HS} (h : P_X7_keyOf_0 Q v0 v1 v2 S) (K : KQ5 S0 S) : P_X7_keyOf_0 (fun r T => Q r T ∧ KQ5 S0 T) v0 v1 v2 S := by
  delta P_X7_keyOf_0 at h ⊢
  intro x2 e1
  have h := h x2 e1
  refine ⟨?_, ?_⟩
  · intro c3
    have h := h.1 c3
    exact ⟨h, K⟩
  · intro c4
    have h := h.2 c4
    obtain ⟨c5, h⟩ := h
    refine ⟨c5, ?_⟩
    have n6 := kq5_ne K c5
    obtain ⟨b7, e8, h⟩ := h
    refine ⟨b7, e8, ?_⟩
    obtain ⟨c9, h⟩ := h
    refine ⟨c9, ?_⟩
    have n10 := kq5_ne K c9
    refine ⟨?_, ?_⟩
    · intro c11
      have h := h.1 c11
      exact ⟨h, K⟩
    · intro c12
      have h := h.2 c12
      obtain ⟨b13, e14, h⟩ := h
      refine ⟨b13, e14, ?_⟩
      obtain ⟨c15, h⟩ := h
      refine ⟨c15, ?_⟩
      have n16 := kq5_ne K c15
      obtain ⟨c17, h⟩ := h
      refine ⟨c17, ?_⟩
      intro x19 e18
      have h := h x19 e18
      exact ⟨h, K⟩
theorem kq_X7_keyOf {Q : Int64 → HS → Prop} {v0 : Nat} {v1 : Int32} {v2 : Int32} {S : HS} (h : P_X7_keyOf v0 v1 v2 Q S) : P_X7_keyOf v0 v1 v2 (fun r T => Q r T ∧ KQ5 S T) S := kq_X7_keyOf_0 h (kq5_rf S)
set_option maxRecDepth 20000 in
set_option maxHeartbeats 1000000 in
theorem kq_X7_endFrom_0 {Q : Int32 → HS → Prop} {v0 : Nat} {v1 : Int32} {v2 : Int32} {S0 S : HS} (h : P_X7_endFrom_0 Q v0 v1 v2 S) (K : KQ5 S0 S) : P_X7_endFrom_0 (fun r T => Q r T ∧ KQ5 S0 T) v0 v1 v2 S := by
  delta P_X7_endFrom_0 at h ⊢
  obtain ⟨c1, h⟩ := h
  refine ⟨c1, ?_⟩
  have n2 := kq5_ne K c1
  refine cm_X7_keyOf (kq_X7_keyOf h) h (fun x3 x4 hp h g5 => ?_)
  have h := h g5
  have K := kq5_tr K hp.2
  intro x7 e6
  have h := h x7 e6
  exact ⟨h, K⟩
theorem kq_X7_endFrom {Q : Int32 → HS → Prop} {v0 : Nat} {v1 : Int32} {v2 : Int32} {S : HS} (h : P_X7_endFrom v0 v1 v2 Q S) : P_X7_endFrom v0 v1 v2 (fun r T => Q r T ∧ KQ5 S T) S := kq_X7_endFrom_0 h (kq5_rf S)
set_option maxRecDepth 20000 in
set_option maxHeartbeats 1000000 in
theorem kq_X7_forget_0 {Q : HS → Prop} {v0 : Nat} {S0 S : HS} (h : P_X7_forget_0 Q v0 S) (K : KQ5 S0 S) : P_X7_forget_0 (fun T => Q T ∧ KQ5 S0 T) v0 S := by
  delta P_X7_forget_0 at h ⊢
  obtain ⟨c1, h⟩ := h
  refine ⟨c1, ?_⟩
  have n2 := kq5_ne K c1
  intro x4 e3
  have h := h x4 e3
  have K := kq5_I K e3 n2 (by decide)
  exact ⟨h, K⟩
theorem kq_X7_forget {Q : HS → Prop} {v0 : Nat} {S : HS} (h : P_X7_forget v0 Q S) : P_X7_forget v0 (fun T => Q T ∧ KQ5 S T) S := kq_X7_forget_0 h (kq5_rf S)
set_option maxRecDepth 20000 in
set_option maxHeartbeats 1000000 in
theorem kq_X7_init_0 {Q : HS → Prop} {v0 : Nat} {S0 S : HS} (h : P_X7_init_0 Q v0 S) (K : KQ5 S0 S) : P_X7_init_0 (fun T => Q T ∧ KQ5 S0 T) v0 S := by
  delta P_X7_init_0 at h ⊢
  intro x2 e1
  have h := h x2 e1
  intro x4 e3
  have h := h x4 e3
  have K := kq5_W K e1 e3
  obtain ⟨c5, h⟩ := h
  refine ⟨c5, ?_⟩
  have n6 := kq5_ne K c5
  intro x8 e7
  have h := h x8 e7
  have K := kq5_R K e7
  intro x10 e9
  have h := h x10 e9
  intro x12 e11
  have h := h x12 e11
  have K := kq5_W K e9 e11
  intro x14 e13
  have h := h x14 e13
  have K := kq5_R K e13
  intro x16 e15
  have h := h x16 e15
  intro x18 e17
  have h := h x18 e17
  have K := kq5_W K e15 e17
  intro x20 e19
  have h := h x20 e19
  have K := kq5_R K e19
  intro x22 e21
  have h := h x22 e21
  intro x24 e23
  have h := h x24 e23
  have K := kq5_W K e21 e23
  intro x26 e25
  have h := h x26 e25
  have K := kq5_R K e25
  intro x28 e27
  have h := h x28 e27
  intro x30 e29
  have h := h x30 e29
  have K := kq5_W K e27 e29
  intro x32 e31
  have h := h x32 e31
  have K := kq5_R K e31
  intro x34 e33
  have h := h x34 e33
  intro x36 e35
  have h := h x36 e35
  have K := kq5_W K e33 e35
  intro x38 e37
  have h := h x38 e37
  have K := kq5_R K e37
  intro x40 e39
  have h := h x40 e39
  intro x42 e41
  have h := h x42 e41
  have K := kq5_W K e39 e41
  intro x44 e43
  have h := h x44 e43
  have K := kq5_R K e43
  intro x46 e45
  have h := h x46 e45
  intro x48 e47
  have h := h x48 e47
  have K := kq5_W K e45 e47
  intro x50 e49
  have h := h x50 e49
  have K := kq5_R K e49
  intro x52 e51
  have h := h x52 e51
  have K := kq5_I K e51 n6 (by decide)
  intro x54 e53
  have h := h x54 e53
  have K := kq5_I K e53 n6 (by decide)
  intro x56 e55
  have h := h x56 e55
  have K := kq5_I K e55 n6 (by decide)
  intro x58 e57
  have h := h x58 e57
  have K := kq5_I K e57 n6 (by decide)
  exact ⟨h, K⟩
theorem kq_X7_init {Q : HS → Prop} {v0 : Nat} {S : HS} (h : P_X7_init v0 Q S) : P_X7_init v0 (fun T => Q T ∧ KQ5 S T) S := kq_X7_init_0 h (kq5_rf S)
set_option maxRecDepth 20000 in
set_option maxHeartbeats 1000000 in
theorem kq_X7_isOpen_0 {Q : Int32 → HS → Prop} {v0 : Nat} {v1 : Int32} {v2 : Int32} {S0 S : HS} (h : P_X7_isOpen_0 Q v0 v1 v2 S) (K : KQ5 S0 S) : P_X7_isOpen_0 (fun r T => Q r T ∧ KQ5 S0 T) v0 v1 v2 S := by
  delta P_X7_isOpen_0 at h ⊢
  obtain ⟨c1, h⟩ := h
  refine ⟨c1, ?_⟩
  have n2 := kq5_ne K c1
  refine cm_X7_keyOf (kq_X7_keyOf h) h (fun x3 x4 hp h g5 => ?_)
  have h := h g5
  have K := kq5_tr K hp.2
  refine ⟨?_, ?_⟩
  · intro c6
    have h := h.1 c6
    exact ⟨h, K⟩
  · intro c7
    have h := h.2 c7
    exact ⟨h, K⟩
theorem kq_X7_isOpen {Q : Int32 → HS → Prop} {v0 : Nat} {v1 : Int32} {v2 : Int32} {S : HS} (h : P_X7_isOpen v0 v1 v2 Q S) : P_X7_isOpen v0 v1 v2 (fun r T => Q r T ∧ KQ5 S T) S := kq_X7_isOpen_0 h (kq5_rf S)
set_option maxRecDepth 20000 in
set_option maxHeartbeats 1000000 in
theorem kq_X7_makeRows_0 {Q : HS → Prop} {v0 : Nat} {S0 S : HS} (h : P_X7_makeRows_0 Q v0 S) (K : KQ5 S0 S) : P_X7_makeRows_0 (fun T => Q T ∧ KQ5 S0 T) v0 S := by
  delta P_X7_makeRows_0 at h ⊢
  intro x2 e1
  have h := h x2 e1
  intro x4 e3
  have h := h x4 e3
  have K := kq5_W K e1 e3
  obtain ⟨c5, h⟩ := h
  refine ⟨c5, ?_⟩
  have n6 := kq5_ne K c5
  intro x8 e7
  have h := h x8 e7
  have K := kq5_R K e7
  intro x10 e9
  have h := h x10 e9
  intro x12 e11
  have h := h x12 e11
  have K := kq5_W K e9 e11
  intro x14 e13
  have h := h x14 e13
  have K := kq5_R K e13
  intro x16 e15
  have h := h x16 e15
  intro x18 e17
  have h := h x18 e17
  have K := kq5_W K e15 e17
  intro x20 e19
  have h := h x20 e19
  have K := kq5_R K e19
  intro x22 e21
  have h := h x22 e21
  intro x24 e23
  have h := h x24 e23
  have K := kq5_W K e21 e23
  intro x26 e25
  have h := h x26 e25
  have K := kq5_R K e25
  intro x28 e27
  have h := h x28 e27
  intro x30 e29
  have h := h x30 e29
  have K := kq5_W K e27 e29
  intro x32 e31
  have h := h x32 e31
  have K := kq5_R K e31
  intro x34 e33
  have h := h x34 e33
  intro x36 e35
  have h := h x36 e35
  have K := kq5_W K e33 e35
  intro x38 e37
  have h := h x38 e37
  have K := kq5_R K e37
  intro x40 e39
  have h := h x40 e39
  intro x42 e41
  have h := h x42 e41
  have K := kq5_W K e39 e41
  intro x44 e43
  have h := h x44 e43
  have K := kq5_R K e43
  intro x46 e45
  have h := h x46 e45
  intro x48 e47
  have h := h x48 e47
  have K := kq5_W K e45 e47
  intro x50 e49
  have h := h x50 e49
  have K := kq5_R K e49
  exact ⟨h, K⟩
theorem kq_X7_makeRows {Q : HS → Prop} {v0 : Nat} {S : HS} (h : P_X7_makeRows v0 Q S) : P_X7_makeRows v0 (fun T => Q T ∧ KQ5 S T) S := kq_X7_makeRows_0 h (kq5_rf S)
set_option maxRecDepth 20000 in
set_option maxHeartbeats 1000000 in
theorem kq_X7_meanFrom_0 {Q : Int64 → HS → Prop} {v0 : Nat} {v1 : Int32} {v2 : Int32} {S0 S : HS} (h : P_X7_meanFrom_0 Q v0 v1 v2 S) (K : KQ5 S0 S) : P_X7_meanFrom_0 (fun r T => Q r T ∧ KQ5 S0 T) v0 v1 v2 S := by
  delta P_X7_meanFrom_0 at h ⊢
  obtain ⟨c1, h⟩ := h
  refine ⟨c1, ?_⟩
  have n2 := kq5_ne K c1
  refine cm_X7_keyOf (kq_X7_keyOf h) h (fun x3 x4 hp h g5 => ?_)
  have h := h g5
  have K := kq5_tr K hp.2
  intro x7 e6
  have h := h x7 e6
  exact ⟨h, K⟩
theorem kq_X7_meanFrom {Q : Int64 → HS → Prop} {v0 : Nat} {v1 : Int32} {v2 : Int32} {S : HS} (h : P_X7_meanFrom v0 v1 v2 Q S) : P_X7_meanFrom v0 v1 v2 (fun r T => Q r T ∧ KQ5 S T) S := kq_X7_meanFrom_0 h (kq5_rf S)
set_option maxRecDepth 20000 in
set_option maxHeartbeats 1000000 in
theorem kq_X8_hasPlace_0 {Q : Int32 → HS → Prop} {v0 : Nat} {v1 : Int32} {S0 S : HS} (h : P_X8_hasPlace_0 Q v0 v1 S) (K : KQ5 S0 S) : P_X8_hasPlace_0 (fun r T => Q r T ∧ KQ5 S0 T) v0 v1 S := by
  delta P_X8_hasPlace_0 at h ⊢
  refine ⟨?_, ?_⟩
  · intro c1
    have h := h.1 c1
    exact ⟨h, K⟩
  · intro c2
    have h := h.2 c2
    obtain ⟨c3, h⟩ := h
    refine ⟨c3, ?_⟩
    have n4 := kq5_ne K c3
    intro x6 e5
    have h := h x6 e5
    refine ⟨?_, ?_⟩
    · intro c7
      have h := h.1 c7
      exact ⟨h, K⟩
    · intro c8
      have h := h.2 c8
      obtain ⟨b9, e10, h⟩ := h
      refine ⟨b9, e10, ?_⟩
      obtain ⟨c11, h⟩ := h
      refine ⟨c11, ?_⟩
      have n12 := kq5_ne K c11
      refine ⟨?_, ?_⟩
      · intro c13
        have h := h.1 c13
        exact ⟨h, K⟩
      · intro c14
        have h := h.2 c14
        exact ⟨h, K⟩
theorem kq_X8_hasPlace {Q : Int32 → HS → Prop} {v0 : Nat} {v1 : Int32} {S : HS} (h : P_X8_hasPlace v0 v1 Q S) : P_X8_hasPlace v0 v1 (fun r T => Q r T ∧ KQ5 S T) S := kq_X8_hasPlace_0 h (kq5_rf S)
set_option maxRecDepth 20000 in
set_option maxHeartbeats 1000000 in
theorem kq_X8_canWait_0 {Q : Int32 → HS → Prop} {v0 : Nat} {v1 : Int32} {S0 S : HS} (h : P_X8_canWait_0 Q v0 v1 S) (K : KQ5 S0 S) : P_X8_canWait_0 (fun r T => Q r T ∧ KQ5 S0 T) v0 v1 S := by
  delta P_X8_canWait_0 at h ⊢
  obtain ⟨c1, h⟩ := h
  refine ⟨c1, ?_⟩
  have n2 := kq5_ne K c1
  refine cm_X8_hasPlace (kq_X8_hasPlace h) h (fun x3 x4 hp h g5 g6 => ?_)
  have h := h g5 g6
  have K := kq5_tr K hp.2
  refine ⟨?_, ?_⟩
  · intro c7
    have h := h.1 c7
    exact ⟨h, K⟩
  · intro c8
    have h := h.2 c8
    obtain ⟨b9, e10, h⟩ := h
    refine ⟨b9, e10, ?_⟩
    obtain ⟨c11, h⟩ := h
    refine ⟨c11, ?_⟩
    have n12 := kq5_ne K c11
    obtain ⟨c13, h⟩ := h
    refine ⟨c13, ?_⟩
    intro x15 e14
    have h := h x15 e14
    refine ⟨?_, ?_⟩
    · intro c16
      have h := h.1 c16
      exact ⟨h, K⟩
    · intro c17
      have h := h.2 c17
      exact ⟨h, K⟩
theorem kq_X8_canWait {Q : Int32 → HS → Prop} {v0 : Nat} {v1 : Int32} {S : HS} (h : P_X8_canWait v0 v1 Q S) : P_X8_canWait v0 v1 (fun r T => Q r T ∧ KQ5 S T) S := kq_X8_canWait_0 h (kq5_rf S)
set_option maxRecDepth 20000 in
set_option maxHeartbeats 1000000 in
theorem kq_X8_dripOn_0 {Q : Int32 → HS → Prop} {v0 : Nat} {v1 : Nat} {v2 : Int32} {S0 S : HS} (h : P_X8_dripOn_0 Q v0 v1 v2 S) (K : KQ5 S0 S) : P_X8_dripOn_0 (fun r T => Q r T ∧ KQ5 S0 T) v0 v1 v2 S := by
  delta P_X8_dripOn_0 at h ⊢
  obtain ⟨c1, h⟩ := h
  refine ⟨c1, ?_⟩
  have n2 := kq5_ne K c1
  refine cm_X8_canWait (kq_X8_canWait h) h (fun x3 x4 hp h g5 g6 => ?_)
  have h := h g5 g6
  have K := kq5_tr K hp.2
  refine ⟨?_, ?_⟩
  · intro c7
    have h := h.1 c7
    exact ⟨h, K⟩
  · intro c8
    have h := h.2 c8
    obtain ⟨b9, e10, h⟩ := h
    refine ⟨b9, e10, ?_⟩
    obtain ⟨c11, h⟩ := h
    refine ⟨c11, ?_⟩
    have n12 := kq5_ne K c11
    obtain ⟨c13, h⟩ := h
    refine ⟨c13, ?_⟩
    intro x15 e14
    have h := h x15 e14
    obtain ⟨c16, h⟩ := h
    refine ⟨c16, ?_⟩
    have n17 := kq5_ne K c16
    intro x19 e18
    have h := h x19 e18
    refine cm_X6_shield (kq_X6_shield h) h (fun x20 x21 hp h g22 => ?_)
    have h := h g22
    have K := kq5_tr K hp.2
    intro x24 e23
    have h := h x24 e23
    exact ⟨h, K⟩
theorem kq_X8_dripOn {Q : Int32 → HS → Prop} {v0 : Nat} {v1 : Nat} {v2 : Int32} {S : HS} (h : P_X8_dripOn v0 v1 v2 Q S) : P_X8_dripOn v0 v1 v2 (fun r T => Q r T ∧ KQ5 S T) S := kq_X8_dripOn_0 h (kq5_rf S)
set_option maxRecDepth 20000 in
set_option maxHeartbeats 1000000 in
theorem kq_X8_hasHour_0 {Q : Int32 → HS → Prop} {v0 : Nat} {v1 : Int32} {S0 S : HS} (h : P_X8_hasHour_0 Q v0 v1 S) (K : KQ5 S0 S) : P_X8_hasHour_0 (fun r T => Q r T ∧ KQ5 S0 T) v0 v1 S := by
  delta P_X8_hasHour_0 at h ⊢
  refine ⟨?_, ?_⟩
  · intro c1
    have h := h.1 c1
    exact ⟨h, K⟩
  · intro c2
    have h := h.2 c2
    obtain ⟨c3, h⟩ := h
    refine ⟨c3, ?_⟩
    have n4 := kq5_ne K c3
    intro x6 e5
    have h := h x6 e5
    refine ⟨?_, ?_⟩
    · intro c7
      have h := h.1 c7
      exact ⟨h, K⟩
    · intro c8
      have h := h.2 c8
      obtain ⟨b9, e10, h⟩ := h
      refine ⟨b9, e10, ?_⟩
      obtain ⟨c11, h⟩ := h
      refine ⟨c11, ?_⟩
      have n12 := kq5_ne K c11
      refine ⟨?_, ?_⟩
      · intro c13
        have h := h.1 c13
        exact ⟨h, K⟩
      · intro c14
        have h := h.2 c14
        exact ⟨h, K⟩
theorem kq_X8_hasHour {Q : Int32 → HS → Prop} {v0 : Nat} {v1 : Int32} {S : HS} (h : P_X8_hasHour v0 v1 Q S) : P_X8_hasHour v0 v1 (fun r T => Q r T ∧ KQ5 S T) S := kq_X8_hasHour_0 h (kq5_rf S)
set_option maxRecDepth 20000 in
set_option maxHeartbeats 1000000 in
theorem kq_X7_price_134 {Q : HS → Prop} {X51 X51_2 : Nat → Nat → Nat → Int32 → Nat → Int32 → Int32 → HS → Prop} {X86 X86_2 : Nat → Nat → Nat → Int32 → Nat → Int32 → Int32 → Nat → Int32 → Int32 → HS → Prop} {v0 : Nat} {v1 : Nat} {v2 : Nat} {v3 : Int32} {v4 : Nat} {v5 : Int32} {v6 : Int32} {v7 : Nat} {v8 : Int32} {v9 : Int32} {s0 : Int64} {S0 S : HS} (h : P_X7_price_134 Q X51 X86 v0 v1 v2 v3 v4 v5 v6 v7 v8 v9 s0 S) (K : KQ5 S0 S) (hX51 : ∀ (u0 : Nat) (u1 : Nat) (u2 : Nat) (u3 : Int32) (u4 : Nat) (u5 : Int32) (u6 : Int32) (u7 : HS), X51 u0 u1 u2 u3 u4 u5 u6 u7 → KQ5 S0 u7 → X51_2 u0 u1 u2 u3 u4 u5 u6 u7) (hX86 : ∀ (u0 : Nat) (u1 : Nat) (u2 : Nat) (u3 : Int32) (u4 : Nat) (u5 : Int32) (u6 : Int32) (u7 : Nat) (u8 : Int32) (u9 : Int32) (u10 : HS), X86 u0 u1 u2 u3 u4 u5 u6 u7 u8 u9 u10 → KQ5 S0 u10 → X86_2 u0 u1 u2 u3 u4 u5 u6 u7 u8 u9 u10) : P_X7_price_134 (fun T => Q T ∧ KQ5 S0 T) X51_2 X86_2 v0 v1 v2 v3 v4 v5 v6 v7 v8 v9 s0 S := by
  delta P_X7_price_134 at h ⊢
  intro x2 e1
  have h := h x2 e1
  obtain ⟨c3, h⟩ := h
  refine ⟨c3, ?_⟩
  have n4 := kq5_ne K c3
  refine cm_X7_addLeg (kq_X7_addLeg h) h (fun x5 hp h g6 => ?_)
  have h := h g6
  have K := kq5_tr K hp.2
  intro x8 e7
  have h := h x8 e7
  exact hX86 _ _ _ _ _ _ _ _ _ _ _ h K
set_option maxRecDepth 20000 in
set_option maxHeartbeats 1000000 in
theorem kqB_X7_price_86 {Q : HS → Prop} {X51 X51_2 : Nat → Nat → Nat → Int32 → Nat → Int32 → Int32 → HS → Prop} {X86 X86_2 : Nat → Nat → Nat → Int32 → Nat → Int32 → Int32 → Nat → Int32 → Int32 → HS → Prop} {v0 : Nat} {v1 : Nat} {v2 : Nat} {v3 : Int32} {v4 : Nat} {v5 : Int32} {v6 : Int32} {v7 : Nat} {v8 : Int32} {v9 : Int32} {S0 S : HS} (h : B_X7_price_86 Q X51 X86 v0 v1 v2 v3 v4 v5 v6 v7 v8 v9 S) (K : KQ5 S0 S) (hX51 : ∀ (u0 : Nat) (u1 : Nat) (u2 : Nat) (u3 : Int32) (u4 : Nat) (u5 : Int32) (u6 : Int32) (u7 : HS), X51 u0 u1 u2 u3 u4 u5 u6 u7 → KQ5 S0 u7 → X51_2 u0 u1 u2 u3 u4 u5 u6 u7) (hX86 : ∀ (u0 : Nat) (u1 : Nat) (u2 : Nat) (u3 : Int32) (u4 : Nat) (u5 : Int32) (u6 : Int32) (u7 : Nat) (u8 : Int32) (u9 : Int32) (u10 : HS), X86 u0 u1 u2 u3 u4 u5 u6 u7 u8 u9 u10 → KQ5 S0 u10 → X86_2 u0 u1 u2 u3 u4 u5 u6 u7 u8 u9 u10) : B_X7_price_86 (fun T => Q T ∧ KQ5 S0 T) X51_2 X86_2 v0 v1 v2 v3 v4 v5 v6 v7 v8 v9 S := by
  delta B_X7_price_86 at h ⊢
  obtain ⟨c1, h⟩ := h
  refine ⟨c1, ?_⟩
  have n2 := kq5_ne K c1
  intro x4 e3
  have h := h x4 e3
  refine ⟨?_, ?_⟩
  · intro c5
    have h := h.1 c5
    intro x7 e6
    have h := h x7 e6
    exact hX51 _ _ _ _ _ _ _ _ h K
  · intro c8
    have h := h.2 c8
    refine ⟨?_, ?_⟩
    · intro c9
      have h := h.1 c9
      obtain ⟨c10, h⟩ := h
      refine ⟨c10, ?_⟩
      have n11 := kq5_ne K c10
      obtain ⟨b12, e13, h⟩ := h
      refine ⟨b12, e13, ?_⟩
      obtain ⟨c14, h⟩ := h
      refine ⟨c14, ?_⟩
      have n15 := kq5_ne K c14
      obtain ⟨c16, h⟩ := h
      refine ⟨c16, ?_⟩
      obtain ⟨b17, e18, h⟩ := h
      refine ⟨b17, e18, ?_⟩
      obtain ⟨c19, h⟩ := h
      refine ⟨c19, ?_⟩
      have n20 := kq5_ne K c19
      refine cm_X1_wetOf (kq_X1_wetOf h) h (fun x21 x22 hp h g23 => ?_)
      have h := h g23
      have K := kq5_tr K hp.2
      obtain ⟨b24, e25, h⟩ := h
      refine ⟨b24, e25, ?_⟩
      obtain ⟨c26, h⟩ := h
      refine ⟨c26, ?_⟩
      have n27 := kq5_ne K c26
      obtain ⟨c28, h⟩ := h
      refine ⟨c28, ?_⟩
      obtain ⟨b29, e30, h⟩ := h
      refine ⟨b29, e30, ?_⟩
      obtain ⟨c31, h⟩ := h
      refine ⟨c31, ?_⟩
      have n32 := kq5_ne K c31
      intro x34 e33
      have h := h x34 e33
      exact kq_X7_price_134 h K hX51 hX86
    · intro c35
      have h := h.2 c35
      exact kq_X7_price_134 h K hX51 hX86
theorem kq_X7_price_86 {Q : HS → Prop} {X51 X51_2 : Nat → Nat → Nat → Int32 → Nat → Int32 → Int32 → HS → Prop} {v0 : Nat} {v1 : Nat} {v2 : Nat} {v3 : Int32} {v4 : Nat} {v5 : Int32} {v6 : Int32} {v7 : Nat} {v8 : Int32} {v9 : Int32} {S0 S : HS} (h : P_X7_price_86 Q X51 v0 v1 v2 v3 v4 v5 v6 v7 v8 v9 S) (K : KQ5 S0 S) (hX51 : ∀ (u0 : Nat) (u1 : Nat) (u2 : Nat) (u3 : Int32) (u4 : Nat) (u5 : Int32) (u6 : Int32) (u7 : HS), X51 u0 u1 u2 u3 u4 u5 u6 u7 → KQ5 S0 u7 → X51_2 u0 u1 u2 u3 u4 u5 u6 u7) : P_X7_price_86 (fun T => Q T ∧ KQ5 S0 T) X51_2 v0 v1 v2 v3 v4 v5 v6 v7 v8 v9 S := h (fun v0 v1 v2 v3 v4 v5 v6 v7 v8 v9 S => KQ5 S0 S → P_X7_price_86 (fun T => Q T ∧ KQ5 S0 T) X51_2 v0 v1 v2 v3 v4 v5 v6 v7 v8 v9 S) (fun v0 v1 v2 v3 v4 v5 v6 v7 v8 v9 S hB K => fd_X7_price_86 (kqB_X7_price_86 hB K hX51 (fun _ _ _ _ _ _ _ _ _ _ _ hx K => hx K))) K
set_option maxRecDepth 20000 in
set_option maxHeartbeats 1000000 in
theorem kq_X7_price_245 {Q : HS → Prop} {X179 X179_2 : Nat → Nat → Int32 → Nat → Int32 → Int32 → HS → Prop} {v0 : Nat} {v1 : Nat} {v3 : Int32} {v4 : Nat} {v5 : Int32} {v6 : Int32} {S0 S : HS} (h : P_X7_price_245 Q X179 v0 v1 v3 v4 v5 v6 S) (K : KQ5 S0 S) (hX179 : ∀ (u0 : Nat) (u1 : Nat) (u2 : Int32) (u3 : Nat) (u4 : Int32) (u5 : Int32) (u6 : HS), X179 u0 u1 u2 u3 u4 u5 u6 → KQ5 S0 u6 → X179_2 u0 u1 u2 u3 u4 u5 u6) : P_X7_price_245 (fun T => Q T ∧ KQ5 S0 T) X179_2 v0 v1 v3 v4 v5 v6 S := by
  delta P_X7_price_245 at h ⊢
  intro x2 e1
  have h := h x2 e1
  exact hX179 _ _ _ _ _ _ _ h K
set_option maxRecDepth 20000 in
set_option maxHeartbeats 1000000 in
theorem kq_X7_price_230 {Q : HS → Prop} {X179 X179_2 : Nat → Nat → Int32 → Nat → Int32 → Int32 → HS → Prop} {v0 : Nat} {v1 : Nat} {v3 : Int32} {v4 : Nat} {v5 : Int32} {v6 : Int32} {s0 : Int64} {S0 S : HS} (h : P_X7_price_230 Q X179 v0 v1 v3 v4 v5 v6 s0 S) (K : KQ5 S0 S) (hX179 : ∀ (u0 : Nat) (u1 : Nat) (u2 : Int32) (u3 : Nat) (u4 : Int32) (u5 : Int32) (u6 : HS), X179 u0 u1 u2 u3 u4 u5 u6 → KQ5 S0 u6 → X179_2 u0 u1 u2 u3 u4 u5 u6) : P_X7_price_230 (fun T => Q T ∧ KQ5 S0 T) X179_2 v0 v1 v3 v4 v5 v6 s0 S := by
  delta P_X7_price_230 at h ⊢
  obtain ⟨c1, h⟩ := h
  refine ⟨c1, ?_⟩
  have n2 := kq5_ne K c1
  refine cm_X7_addMove (kq_X7_addMove h) h (fun x3 hp h g4 => ?_)
  have h := h g4
  have K := kq5_tr K hp.2
  exact kq_X7_price_245 h K hX179
set_option maxRecDepth 20000 in
set_option maxHeartbeats 1000000 in
theorem kqB_X7_price_179 {Q : HS → Prop} {X179 X179_2 : Nat → Nat → Int32 → Nat → Int32 → Int32 → HS → Prop} {v0 : Nat} {v1 : Nat} {v3 : Int32} {v4 : Nat} {v5 : Int32} {v6 : Int32} {S0 S : HS} (h : B_X7_price_179 Q X179 v0 v1 v3 v4 v5 v6 S) (K : KQ5 S0 S) (hX179 : ∀ (u0 : Nat) (u1 : Nat) (u2 : Int32) (u3 : Nat) (u4 : Int32) (u5 : Int32) (u6 : HS), X179 u0 u1 u2 u3 u4 u5 u6 → KQ5 S0 u6 → X179_2 u0 u1 u2 u3 u4 u5 u6) : B_X7_price_179 (fun T => Q T ∧ KQ5 S0 T) X179_2 v0 v1 v3 v4 v5 v6 S := by
  delta B_X7_price_179 at h ⊢
  obtain ⟨c1, h⟩ := h
  refine ⟨c1, ?_⟩
  have n2 := kq5_ne K c1
  intro x4 e3
  have h := h x4 e3
  refine ⟨?_, ?_⟩
  · intro c5
    have h := h.1 c5
    exact ⟨h, K⟩
  · intro c6
    have h := h.2 c6
    refine cm_X8_canWait (kq_X8_canWait h) h (fun x7 x8 hp h g9 g10 => ?_)
    have h := h g9 g10
    have K := kq5_tr K hp.2
    refine ⟨?_, ?_⟩
    · intro c11
      have h := h.1 c11
      exact kq_X7_price_245 h K hX179
    · intro c12
      have h := h.2 c12
      refine ⟨?_, ?_⟩
      · intro c13
        have h := h.1 c13
        refine cm_X8_dripOn (kq_X8_dripOn h) h (fun x14 x15 hp h g16 => ?_)
        have h := h g16
        have K := kq5_tr K hp.2
        obtain ⟨b17, e18, h⟩ := h
        refine ⟨b17, e18, ?_⟩
        obtain ⟨c19, h⟩ := h
        refine ⟨c19, ?_⟩
        have n20 := kq5_ne K c19
        obtain ⟨c21, h⟩ := h
        refine ⟨c21, ?_⟩
        obtain ⟨b22, e23, h⟩ := h
        refine ⟨b22, e23, ?_⟩
        obtain ⟨c24, h⟩ := h
        refine ⟨c24, ?_⟩
        have n25 := kq5_ne K c24
        intro x27 e26
        have h := h x27 e26
        exact kq_X7_price_230 h K hX179
      · intro c28
        have h := h.2 c28
        exact kq_X7_price_230 h K hX179
theorem kq_X7_price_179 {Q : HS → Prop} {v0 : Nat} {v1 : Nat} {v3 : Int32} {v4 : Nat} {v5 : Int32} {v6 : Int32} {S0 S : HS} (h : P_X7_price_179 Q v0 v1 v3 v4 v5 v6 S) (K : KQ5 S0 S) : P_X7_price_179 (fun T => Q T ∧ KQ5 S0 T) v0 v1 v3 v4 v5 v6 S := h (fun v0 v1 v3 v4 v5 v6 S => KQ5 S0 S → P_X7_price_179 (fun T => Q T ∧ KQ5 S0 T) v0 v1 v3 v4 v5 v6 S) (fun v0 v1 v3 v4 v5 v6 S hB K => fd_X7_price_179 (kqB_X7_price_179 hB K (fun _ _ _ _ _ _ _ hx K => hx K))) K
set_option maxRecDepth 20000 in
set_option maxHeartbeats 1000000 in
theorem kqB_X7_price_51 {Q : HS → Prop} {X51 X51_2 : Nat → Nat → Nat → Int32 → Nat → Int32 → Int32 → HS → Prop} {v0 : Nat} {v1 : Nat} {v2 : Nat} {v3 : Int32} {v4 : Nat} {v5 : Int32} {v6 : Int32} {S0 S : HS} (h : B_X7_price_51 Q X51 v0 v1 v2 v3 v4 v5 v6 S) (K : KQ5 S0 S) (hX51 : ∀ (u0 : Nat) (u1 : Nat) (u2 : Nat) (u3 : Int32) (u4 : Nat) (u5 : Int32) (u6 : Int32) (u7 : HS), X51 u0 u1 u2 u3 u4 u5 u6 u7 → KQ5 S0 u7 → X51_2 u0 u1 u2 u3 u4 u5 u6 u7) : B_X7_price_51 (fun T => Q T ∧ KQ5 S0 T) X51_2 v0 v1 v2 v3 v4 v5 v6 S := by
  delta B_X7_price_51 at h ⊢
  obtain ⟨c1, h⟩ := h
  refine ⟨c1, ?_⟩
  have n2 := kq5_ne K c1
  intro x4 e3
  have h := h x4 e3
  refine ⟨?_, ?_⟩
  · intro c5
    have h := h.1 c5
    exact kq_X7_price_179 h K
  · intro c6
    have h := h.2 c6
    obtain ⟨b7, e8, h⟩ := h
    refine ⟨b7, e8, ?_⟩
    intro x10 e9
    have h := h x10 e9
    obtain ⟨c11, h⟩ := h
    refine ⟨c11, ?_⟩
    have n12 := kq5_ne K c11
    obtain ⟨c13, h⟩ := h
    refine ⟨c13, ?_⟩
    obtain ⟨b14, e15, h⟩ := h
    refine ⟨b14, e15, ?_⟩
    intro x17 e16
    have h := h x17 e16
    obtain ⟨c18, h⟩ := h
    refine ⟨c18, ?_⟩
    have n19 := kq5_ne K c18
    intro x21 e20
    have h := h x21 e20
    exact kq_X7_price_86 h K hX51
theorem kq_X7_price_51 {Q : HS → Prop} {v0 : Nat} {v1 : Nat} {v2 : Nat} {v3 : Int32} {v4 : Nat} {v5 : Int32} {v6 : Int32} {S0 S : HS} (h : P_X7_price_51 Q v0 v1 v2 v3 v4 v5 v6 S) (K : KQ5 S0 S) : P_X7_price_51 (fun T => Q T ∧ KQ5 S0 T) v0 v1 v2 v3 v4 v5 v6 S := h (fun v0 v1 v2 v3 v4 v5 v6 S => KQ5 S0 S → P_X7_price_51 (fun T => Q T ∧ KQ5 S0 T) v0 v1 v2 v3 v4 v5 v6 S) (fun v0 v1 v2 v3 v4 v5 v6 S hB K => fd_X7_price_51 (kqB_X7_price_51 hB K (fun _ _ _ _ _ _ _ _ hx K => hx K))) K
set_option maxRecDepth 20000 in
set_option maxHeartbeats 1000000 in
theorem kq_X7_price_46 {Q : HS → Prop} {v0 : Nat} {v1 : Nat} {v2 : Nat} {v3 : Int32} {v4 : Nat} {s0 : Int32} {S0 S : HS} (h : P_X7_price_46 Q v0 v1 v2 v3 v4 s0 S) (K : KQ5 S0 S) : P_X7_price_46 (fun T => Q T ∧ KQ5 S0 T) v0 v1 v2 v3 v4 s0 S := by
  delta P_X7_price_46 at h ⊢
  exact kq_X7_price_51 h K
set_option maxRecDepth 20000 in
set_option maxHeartbeats 1000000 in
theorem kq_X7_price_0 {Q : HS → Prop} {v0 : Nat} {v1 : Nat} {v2 : Nat} {v3 : Int32} {S0 S : HS} (h : P_X7_price_0 Q v0 v1 v2 v3 S) (K : KQ5 S0 S) : P_X7_price_0 (fun T => Q T ∧ KQ5 S0 T) v0 v1 v2 v3 S := by
  delta P_X7_price_0 at h ⊢
  obtain ⟨c1, h⟩ := h
  refine ⟨c1, ?_⟩
  have n2 := kq5_ne K c1
  intro x4 e3
  have h := h x4 e3
  have K := kq5_I K e3 n2 (by decide)
  intro x6 e5
  have h := h x6 e5
  have K := kq5_I K e5 n2 (by decide)
  intro x8 e7
  have h := h x8 e7
  obtain ⟨c9, h⟩ := h
  refine ⟨c9, ?_⟩
  have n10 := kq5_ne K c9
  refine cm_X8_hasWalker (kq_X8_hasWalker h) h (fun x11 x12 hp h g13 g14 => ?_)
  have h := h g13 g14
  have K := kq5_tr K hp.2
  refine ⟨?_, ?_⟩
  · intro c15
    have h := h.1 c15
    obtain ⟨b16, e17, h⟩ := h
    refine ⟨b16, e17, ?_⟩
    intro x19 e18
    have h := h x19 e18
    obtain ⟨c20, h⟩ := h
    refine ⟨c20, ?_⟩
    have n21 := kq5_ne K c20
    obtain ⟨c22, h⟩ := h
    refine ⟨c22, ?_⟩
    obtain ⟨b23, e24, h⟩ := h
    refine ⟨b23, e24, ?_⟩
    refine cm_X8_hasHour (kq_X8_hasHour h) h (fun x25 x26 hp h g27 g28 => ?_)
    have h := h g27 g28
    have K := kq5_tr K hp.2
    refine ⟨?_, ?_⟩
    · intro c29
      have h := h.1 c29
      exact kq_X7_price_46 h K
    · intro c30
      have h := h.2 c30
      exact kq_X7_price_46 h K
  · intro c31
    have h := h.2 c31
    exact ⟨h, K⟩
theorem kq_X7_price {Q : HS → Prop} {v0 : Nat} {v1 : Nat} {v2 : Nat} {v3 : Int32} {S : HS} (h : P_X7_price v0 v1 v2 v3 Q S) : P_X7_price v0 v1 v2 v3 (fun T => Q T ∧ KQ5 S T) S := kq_X7_price_0 h (kq5_rf S)
set_option maxRecDepth 20000 in
set_option maxHeartbeats 1000000 in
theorem kq_X7_reckonMinute_40 {Q : HS → Prop} {X2 X2_2 : Nat → Int32 → Int32 → Int32 → HS → Prop} {v0 : Nat} {v1 : Int32} {v2 : Int32} {v3 : Int32} {s0 : Nat} {s1 : Int32} {s2 : Int64} {S0 S : HS} (h : P_X7_reckonMinute_40 Q X2 v0 v1 v2 v3 s0 s1 s2 S) (K : KQ5 S0 S) (hX2 : ∀ (u0 : Nat) (u1 : Int32) (u2 : Int32) (u3 : Int32) (u4 : HS), X2 u0 u1 u2 u3 u4 → KQ5 S0 u4 → X2_2 u0 u1 u2 u3 u4) : P_X7_reckonMinute_40 (fun T => Q T ∧ KQ5 S0 T) X2_2 v0 v1 v2 v3 s0 s1 s2 S := by
  delta P_X7_reckonMinute_40 at h ⊢
  obtain ⟨c1, h⟩ := h
  refine ⟨c1, ?_⟩
  have n2 := kq5_ne K c1
  obtain ⟨c3, h⟩ := h
  refine ⟨c3, ?_⟩
  intro x5 e4
  have h := h x5 e4
  have K := kq5_J K e4
  obtain ⟨c6, h⟩ := h
  refine ⟨c6, ?_⟩
  have n7 := kq5_ne K c6
  obtain ⟨b8, e9, h⟩ := h
  refine ⟨b8, e9, ?_⟩
  obtain ⟨c10, h⟩ := h
  refine ⟨c10, ?_⟩
  have n11 := kq5_ne K c10
  obtain ⟨c12, h⟩ := h
  refine ⟨c12, ?_⟩
  intro x14 e13
  have h := h x14 e13
  have K := kq5_A K e13 n11 (by decide)
  intro x16 e15
  have h := h x16 e15
  exact hX2 _ _ _ _ _ h K
set_option maxRecDepth 20000 in
set_option maxHeartbeats 1000000 in
theorem kq_X7_reckonMinute_219 {Q : HS → Prop} {X62 X62_2 : Nat → Int32 → Int32 → HS → Prop} {v0 : Nat} {v2 : Int32} {v3 : Int32} {S0 S : HS} (h : P_X7_reckonMinute_219 Q X62 v0 v2 v3 S) (K : KQ5 S0 S) (hX62 : ∀ (u0 : Nat) (u1 : Int32) (u2 : Int32) (u3 : HS), X62 u0 u1 u2 u3 → KQ5 S0 u3 → X62_2 u0 u1 u2 u3) : P_X7_reckonMinute_219 (fun T => Q T ∧ KQ5 S0 T) X62_2 v0 v2 v3 S := by
  delta P_X7_reckonMinute_219 at h ⊢
  intro x2 e1
  have h := h x2 e1
  exact hX62 _ _ _ _ h K
set_option maxRecDepth 20000 in
set_option maxHeartbeats 1000000 in
theorem kq_X7_reckonMinute_117 {Q : HS → Prop} {X62 X62_2 : Nat → Int32 → Int32 → HS → Prop} {v0 : Nat} {v2 : Int32} {v3 : Int32} {v4 : Int32} {v5 : Int32} {s0 : Int32} {S0 S : HS} (h : P_X7_reckonMinute_117 Q X62 v0 v2 v3 v4 v5 s0 S) (K : KQ5 S0 S) (hX62 : ∀ (u0 : Nat) (u1 : Int32) (u2 : Int32) (u3 : HS), X62 u0 u1 u2 u3 → KQ5 S0 u3 → X62_2 u0 u1 u2 u3) : P_X7_reckonMinute_117 (fun T => Q T ∧ KQ5 S0 T) X62_2 v0 v2 v3 v4 v5 s0 S := by
  delta P_X7_reckonMinute_117 at h ⊢
  refine ⟨?_, ?_⟩
  · intro c1
    have h := h.1 c1
    exact kq_X7_reckonMinute_219 h K hX62
  · intro c2
    have h := h.2 c2
    refine ⟨?_, ?_⟩
    · intro c3
      have h := h.1 c3
      exact kq_X7_reckonMinute_219 h K hX62
    · intro c4
      have h := h.2 c4
      obtain ⟨c5, h⟩ := h
      refine ⟨c5, ?_⟩
      have n6 := kq5_ne K c5
      obtain ⟨b7, e8, h⟩ := h
      refine ⟨b7, e8, ?_⟩
      obtain ⟨c9, h⟩ := h
      refine ⟨c9, ?_⟩
      have n10 := kq5_ne K c9
      refine ⟨?_, ?_⟩
      · intro c11
        have h := h.1 c11
        exact kq_X7_reckonMinute_219 h K hX62
      · intro c12
        have h := h.2 c12
        refine ⟨?_, ?_⟩
        · intro c13
          have h := h.1 c13
          exact kq_X7_reckonMinute_219 h K hX62
        · intro c14
          have h := h.2 c14
          obtain ⟨b15, e16, h⟩ := h
          refine ⟨b15, e16, ?_⟩
          obtain ⟨c17, h⟩ := h
          refine ⟨c17, ?_⟩
          have n18 := kq5_ne K c17
          refine ⟨?_, ?_⟩
          · intro c19
            have h := h.1 c19
            exact kq_X7_reckonMinute_219 h K hX62
          · intro c20
            have h := h.2 c20
            obtain ⟨b21, e22, h⟩ := h
            refine ⟨b21, e22, ?_⟩
            obtain ⟨c23, h⟩ := h
            refine ⟨c23, ?_⟩
            have n24 := kq5_ne K c23
            obtain ⟨c25, h⟩ := h
            refine ⟨c25, ?_⟩
            intro x27 e26
            have h := h x27 e26
            refine ⟨?_, ?_⟩
            · intro c28
              have h := h.1 c28
              exact kq_X7_reckonMinute_219 h K hX62
            · intro c29
              have h := h.2 c29
              obtain ⟨b30, e31, h⟩ := h
              refine ⟨b30, e31, ?_⟩
              obtain ⟨c32, h⟩ := h
              refine ⟨c32, ?_⟩
              have n33 := kq5_ne K c32
              obtain ⟨c34, h⟩ := h
              refine ⟨c34, ?_⟩
              intro x36 e35
              have h := h x36 e35
              obtain ⟨b37, e38, h⟩ := h
              refine ⟨b37, e38, ?_⟩
              obtain ⟨c39, h⟩ := h
              refine ⟨c39, ?_⟩
              have n40 := kq5_ne K c39
              obtain ⟨c41, h⟩ := h
              refine ⟨c41, ?_⟩
              intro x43 e42
              have h := h x43 e42
              intro x45 e44
              have h := h x45 e44
              obtain ⟨b46, e47, h⟩ := h
              refine ⟨b46, e47, ?_⟩
              obtain ⟨c48, h⟩ := h
              refine ⟨c48, ?_⟩
              have n49 := kq5_ne K c48
              obtain ⟨c50, h⟩ := h
              refine ⟨c50, ?_⟩
              intro x52 e51
              have h := h x52 e51
              refine ⟨?_, ?_⟩
              · intro c53
                have h := h.1 c53
                exact kq_X7_reckonMinute_219 h K hX62
              · intro c54
                have h := h.2 c54
                obtain ⟨b55, e56, h⟩ := h
                refine ⟨b55, e56, ?_⟩
                obtain ⟨c57, h⟩ := h
                refine ⟨c57, ?_⟩
                have n58 := kq5_ne K c57
                obtain ⟨c59, h⟩ := h
                refine ⟨c59, ?_⟩
                intro x61 e60
                have h := h x61 e60
                have K := kq5_J K e60
                obtain ⟨b62, e63, h⟩ := h
                refine ⟨b62, e63, ?_⟩
                obtain ⟨b64, e65, h⟩ := h
                refine ⟨b64, e65, ?_⟩
                obtain ⟨c66, h⟩ := h
                refine ⟨c66, ?_⟩
                have n67 := kq5_ne K c66
                obtain ⟨c68, h⟩ := h
                refine ⟨c68, ?_⟩
                intro x70 e69
                have h := h x70 e69
                obtain ⟨c71, h⟩ := h
                refine ⟨c71, ?_⟩
                have n72 := kq5_ne K c71
                obtain ⟨c73, h⟩ := h
                refine ⟨c73, ?_⟩
                intro x75 e74
                have h := h x75 e74
                have K := kq5_A K e74 n72 (by decide)
                exact kq_X7_reckonMinute_219 h K hX62
set_option maxRecDepth 20000 in
set_option maxHeartbeats 1000000 in
theorem kqB_X7_reckonMinute_62 {Q : HS → Prop} {X62 X62_2 : Nat → Int32 → Int32 → HS → Prop} {v0 : Nat} {v2 : Int32} {v3 : Int32} {S0 S : HS} (h : B_X7_reckonMinute_62 Q X62 v0 v2 v3 S) (K : KQ5 S0 S) (hX62 : ∀ (u0 : Nat) (u1 : Int32) (u2 : Int32) (u3 : HS), X62 u0 u1 u2 u3 → KQ5 S0 u3 → X62_2 u0 u1 u2 u3) : B_X7_reckonMinute_62 (fun T => Q T ∧ KQ5 S0 T) X62_2 v0 v2 v3 S := by
  delta B_X7_reckonMinute_62 at h ⊢
  obtain ⟨c1, h⟩ := h
  refine ⟨c1, ?_⟩
  have n2 := kq5_ne K c1
  intro x4 e3
  have h := h x4 e3
  refine ⟨?_, ?_⟩
  · intro c5
    have h := h.1 c5
    exact ⟨h, K⟩
  · intro c6
    have h := h.2 c6
    refine ⟨?_, ?_⟩
    · intro c7
      have h := h.1 c7
      exact ⟨h, K⟩
    · intro c8
      have h := h.2 c8
      obtain ⟨b9, e10, h⟩ := h
      refine ⟨b9, e10, ?_⟩
      obtain ⟨c11, h⟩ := h
      refine ⟨c11, ?_⟩
      have n12 := kq5_ne K c11
      obtain ⟨c13, h⟩ := h
      refine ⟨c13, ?_⟩
      intro x15 e14
      have h := h x15 e14
      intro x17 e16
      have h := h x17 e16
      obtain ⟨b18, e19, h⟩ := h
      refine ⟨b18, e19, ?_⟩
      obtain ⟨c20, h⟩ := h
      refine ⟨c20, ?_⟩
      have n21 := kq5_ne K c20
      obtain ⟨c22, h⟩ := h
      refine ⟨c22, ?_⟩
      intro x24 e23
      have h := h x24 e23
      intro x26 e25
      have h := h x26 e25
      obtain ⟨b27, e28, h⟩ := h
      refine ⟨b27, e28, ?_⟩
      obtain ⟨c29, h⟩ := h
      refine ⟨c29, ?_⟩
      have n30 := kq5_ne K c29
      obtain ⟨c31, h⟩ := h
      refine ⟨c31, ?_⟩
      intro x33 e32
      have h := h x33 e32
      intro x35 e34
      have h := h x35 e34
      refine ⟨?_, ?_⟩
      · intro c36
        have h := h.1 c36
        exact kq_X7_reckonMinute_117 h K hX62
      · intro c37
        have h := h.2 c37
        exact kq_X7_reckonMinute_117 h K hX62
theorem kq_X7_reckonMinute_62 {Q : HS → Prop} {v0 : Nat} {v2 : Int32} {v3 : Int32} {S0 S : HS} (h : P_X7_reckonMinute_62 Q v0 v2 v3 S) (K : KQ5 S0 S) : P_X7_reckonMinute_62 (fun T => Q T ∧ KQ5 S0 T) v0 v2 v3 S := h (fun v0 v2 v3 S => KQ5 S0 S → P_X7_reckonMinute_62 (fun T => Q T ∧ KQ5 S0 T) v0 v2 v3 S) (fun v0 v2 v3 S hB K => fd_X7_reckonMinute_62 (kqB_X7_reckonMinute_62 hB K (fun _ _ _ _ hx K => hx K))) K
set_option maxRecDepth 20000 in
set_option maxHeartbeats 1000000 in
theorem kq_X7_reckonMinute_60 {Q : HS → Prop} {v0 : Nat} {v2 : Int32} {S0 S : HS} (h : P_X7_reckonMinute_60 Q v0 v2 S) (K : KQ5 S0 S) : P_X7_reckonMinute_60 (fun T => Q T ∧ KQ5 S0 T) v0 v2 S := by
  delta P_X7_reckonMinute_60 at h ⊢
  exact kq_X7_reckonMinute_62 h K
set_option maxRecDepth 20000 in
set_option maxHeartbeats 1000000 in
theorem kqB_X7_reckonMinute_2 {Q : HS → Prop} {X2 X2_2 : Nat → Int32 → Int32 → Int32 → HS → Prop} {v0 : Nat} {v1 : Int32} {v2 : Int32} {v3 : Int32} {S0 S : HS} (h : B_X7_reckonMinute_2 Q X2 v0 v1 v2 v3 S) (K : KQ5 S0 S) (hX2 : ∀ (u0 : Nat) (u1 : Int32) (u2 : Int32) (u3 : Int32) (u4 : HS), X2 u0 u1 u2 u3 u4 → KQ5 S0 u4 → X2_2 u0 u1 u2 u3 u4) : B_X7_reckonMinute_2 (fun T => Q T ∧ KQ5 S0 T) X2_2 v0 v1 v2 v3 S := by
  delta B_X7_reckonMinute_2 at h ⊢
  refine ⟨?_, ?_⟩
  · intro c1
    have h := h.1 c1
    exact kq_X7_reckonMinute_60 h K
  · intro c2
    have h := h.2 c2
    refine ⟨?_, ?_⟩
    · intro c3
      have h := h.1 c3
      exact kq_X7_reckonMinute_60 h K
    · intro c4
      have h := h.2 c4
      obtain ⟨c5, h⟩ := h
      refine ⟨c5, ?_⟩
      have n6 := kq5_ne K c5
      obtain ⟨b7, e8, h⟩ := h
      refine ⟨b7, e8, ?_⟩
      intro x10 e9
      have h := h x10 e9
      refine ⟨?_, ?_⟩
      · intro c11
        have h := h.1 c11
        exact kq_X7_reckonMinute_40 h K hX2
      · intro c12
        have h := h.2 c12
        exact kq_X7_reckonMinute_40 h K hX2
theorem kq_X7_reckonMinute_2 {Q : HS → Prop} {v0 : Nat} {v1 : Int32} {v2 : Int32} {v3 : Int32} {S0 S : HS} (h : P_X7_reckonMinute_2 Q v0 v1 v2 v3 S) (K : KQ5 S0 S) : P_X7_reckonMinute_2 (fun T => Q T ∧ KQ5 S0 T) v0 v1 v2 v3 S := h (fun v0 v1 v2 v3 S => KQ5 S0 S → P_X7_reckonMinute_2 (fun T => Q T ∧ KQ5 S0 T) v0 v1 v2 v3 S) (fun v0 v1 v2 v3 S hB K => fd_X7_reckonMinute_2 (kqB_X7_reckonMinute_2 hB K (fun _ _ _ _ _ hx K => hx K))) K
set_option maxRecDepth 20000 in
set_option maxHeartbeats 1000000 in
theorem kq_X7_reckonMinute_0 {Q : HS → Prop} {v0 : Nat} {v1 : Int32} {v2 : Int32} {S0 S : HS} (h : P_X7_reckonMinute_0 Q v0 v1 v2 S) (K : KQ5 S0 S) : P_X7_reckonMinute_0 (fun T => Q T ∧ KQ5 S0 T) v0 v1 v2 S := by
  delta P_X7_reckonMinute_0 at h ⊢
  exact kq_X7_reckonMinute_2 h K
theorem kq_X7_reckonMinute {Q : HS → Prop} {v0 : Nat} {v1 : Int32} {v2 : Int32} {S : HS} (h : P_X7_reckonMinute v0 v1 v2 Q S) : P_X7_reckonMinute v0 v1 v2 (fun T => Q T ∧ KQ5 S T) S := kq_X7_reckonMinute_0 h (kq5_rf S)
set_option maxRecDepth 20000 in
set_option maxHeartbeats 1000000 in
theorem kq_X8_hourOf_0 {Q : Int32 → HS → Prop} {v0 : Nat} {v1 : Int32} {S0 S : HS} (h : P_X8_hourOf_0 Q v0 v1 S) (K : KQ5 S0 S) : P_X8_hourOf_0 (fun r T => Q r T ∧ KQ5 S0 T) v0 v1 S := by
  delta P_X8_hourOf_0 at h ⊢
  obtain ⟨c1, h⟩ := h
  refine ⟨c1, ?_⟩
  have n2 := kq5_ne K c1
  intro x4 e3
  have h := h x4 e3
  refine ⟨?_, ?_⟩
  · intro c5
    have h := h.1 c5
    exact ⟨h, K⟩
  · intro c6
    have h := h.2 c6
    intro x8 e7
    have h := h x8 e7
    obtain ⟨c9, h⟩ := h
    refine ⟨c9, ?_⟩
    intro x11 e10
    have h := h x11 e10
    exact ⟨h, K⟩
theorem kq_X8_hourOf {Q : Int32 → HS → Prop} {v0 : Nat} {v1 : Int32} {S : HS} (h : P_X8_hourOf v0 v1 Q S) : P_X8_hourOf v0 v1 (fun r T => Q r T ∧ KQ5 S T) S := kq_X8_hourOf_0 h (kq5_rf S)
set_option maxRecDepth 20000 in
set_option maxHeartbeats 1000000 in
theorem kq_X7_reckon_120 {Q : HS → Prop} {X76 X76_2 : Nat → Nat → Nat → Int32 → Int32 → HS → Prop} {v0 : Nat} {v1 : Nat} {v2 : Nat} {v6 : Int32} {v7 : Int32} {S0 S : HS} (h : P_X7_reckon_120 Q X76 v0 v1 v2 v6 v7 S) (K : KQ5 S0 S) (hX76 : ∀ (u0 : Nat) (u1 : Nat) (u2 : Nat) (u3 : Int32) (u4 : Int32) (u5 : HS), X76 u0 u1 u2 u3 u4 u5 → KQ5 S0 u5 → X76_2 u0 u1 u2 u3 u4 u5) : P_X7_reckon_120 (fun T => Q T ∧ KQ5 S0 T) X76_2 v0 v1 v2 v6 v7 S := by
  delta P_X7_reckon_120 at h ⊢
  obtain ⟨c1, h⟩ := h
  refine ⟨c1, ?_⟩
  have n2 := kq5_ne K c1
  intro x4 e3
  have h := h x4 e3
  obtain ⟨c5, h⟩ := h
  refine ⟨c5, ?_⟩
  have n6 := kq5_ne K c5
  refine cm_X7_reckonMinute (kq_X7_reckonMinute h) h (fun x7 hp h g8 => ?_)
  have h := h g8
  have K := kq5_tr K hp.2
  intro x10 e9
  have h := h x10 e9
  have K := kq5_I K e9 n6 (by decide)
  intro x12 e11
  have h := h x12 e11
  exact hX76 _ _ _ _ _ _ h K
set_option maxRecDepth 20000 in
set_option maxHeartbeats 1000000 in
theorem kqB_X7_reckon_76 {Q : HS → Prop} {X76 X76_2 : Nat → Nat → Nat → Int32 → Int32 → HS → Prop} {v0 : Nat} {v1 : Nat} {v2 : Nat} {v6 : Int32} {v7 : Int32} {S0 S : HS} (h : B_X7_reckon_76 Q X76 v0 v1 v2 v6 v7 S) (K : KQ5 S0 S) (hX76 : ∀ (u0 : Nat) (u1 : Nat) (u2 : Nat) (u3 : Int32) (u4 : Int32) (u5 : HS), X76 u0 u1 u2 u3 u4 u5 → KQ5 S0 u5 → X76_2 u0 u1 u2 u3 u4 u5) : B_X7_reckon_76 (fun T => Q T ∧ KQ5 S0 T) X76_2 v0 v1 v2 v6 v7 S := by
  delta B_X7_reckon_76 at h ⊢
  refine ⟨?_, ?_⟩
  · intro c1
    have h := h.1 c1
    exact ⟨h, K⟩
  · intro c2
    have h := h.2 c2
    refine ⟨?_, ?_⟩
    · intro c3
      have h := h.1 c3
      exact ⟨h, K⟩
    · intro c4
      have h := h.2 c4
      obtain ⟨c5, h⟩ := h
      refine ⟨c5, ?_⟩
      have n6 := kq5_ne K c5
      refine cm_X8_hourOf (kq_X8_hourOf h) h (fun x7 x8 hp h g9 => ?_)
      have h := h g9
      have K := kq5_tr K hp.2
      intro x11 e10
      have h := h x11 e10
      intro x13 e12
      have h := h x13 e12
      obtain ⟨c14, h⟩ := h
      refine ⟨c14, ?_⟩
      have n15 := kq5_ne K c14
      intro x17 e16
      have h := h x17 e16
      refine ⟨?_, ?_⟩
      · intro c18
        have h := h.1 c18
        exact kq_X7_reckon_120 h K hX76
      · intro c19
        have h := h.2 c19
        refine cm_X7_price (kq_X7_price h) h (fun x20 hp h g21 => ?_)
        have h := h g21
        have K := kq5_tr K hp.2
        exact kq_X7_reckon_120 h K hX76
theorem kq_X7_reckon_76 {Q : HS → Prop} {v0 : Nat} {v1 : Nat} {v2 : Nat} {v6 : Int32} {v7 : Int32} {S0 S : HS} (h : P_X7_reckon_76 Q v0 v1 v2 v6 v7 S) (K : KQ5 S0 S) : P_X7_reckon_76 (fun T => Q T ∧ KQ5 S0 T) v0 v1 v2 v6 v7 S := h (fun v0 v1 v2 v6 v7 S => KQ5 S0 S → P_X7_reckon_76 (fun T => Q T ∧ KQ5 S0 T) v0 v1 v2 v6 v7 S) (fun v0 v1 v2 v6 v7 S hB K => fd_X7_reckon_76 (kqB_X7_reckon_76 hB K (fun _ _ _ _ _ _ hx K => hx K))) K
set_option maxRecDepth 20000 in
set_option maxHeartbeats 1000000 in
theorem kq_X7_reckon_68 {Q : HS → Prop} {v0 : Nat} {v1 : Nat} {v2 : Nat} {v6 : Int32} {S0 S : HS} (h : P_X7_reckon_68 Q v0 v1 v2 v6 S) (K : KQ5 S0 S) : P_X7_reckon_68 (fun T => Q T ∧ KQ5 S0 T) v0 v1 v2 v6 S := by
  delta P_X7_reckon_68 at h ⊢
  obtain ⟨c1, h⟩ := h
  refine ⟨c1, ?_⟩
  have n2 := kq5_ne K c1
  intro x4 e3
  have h := h x4 e3
  intro x6 e5
  have h := h x6 e5
  exact kq_X7_reckon_76 h K
set_option maxRecDepth 20000 in
set_option maxHeartbeats 1000000 in
theorem kq_X7_reckon_38 {Q : HS → Prop} {v0 : Nat} {v1 : Nat} {v2 : Nat} {v3 : Int32} {v4 : Int32} {v5 : Int32} {v6 : Int32} {S0 S : HS} (h : P_X7_reckon_38 Q v0 v1 v2 v3 v4 v5 v6 S) (K : KQ5 S0 S) : P_X7_reckon_38 (fun T => Q T ∧ KQ5 S0 T) v0 v1 v2 v3 v4 v5 v6 S := by
  delta P_X7_reckon_38 at h ⊢
  obtain ⟨c1, h⟩ := h
  refine ⟨c1, ?_⟩
  have n2 := kq5_ne K c1
  intro x4 e3
  have h := h x4 e3
  have K := kq5_I K e3 n2 (by decide)
  intro x6 e5
  have h := h x6 e5
  have K := kq5_I K e5 n2 (by decide)
  intro x8 e7
  have h := h x8 e7
  have K := kq5_I K e7 n2 (by decide)
  intro x10 e9
  have h := h x10 e9
  intro x12 e11
  have h := h x12 e11
  have K := kq5_I K e11 n2 (by decide)
  intro x14 e13
  have h := h x14 e13
  have K := kq5_I K e13 n2 (by decide)
  exact kq_X7_reckon_68 h K
set_option maxRecDepth 20000 in
set_option maxHeartbeats 1000000 in
theorem kq_X7_reckon_12 {Q : HS → Prop} {v0 : Nat} {v1 : Nat} {v2 : Nat} {v3 : Int32} {v4 : Int32} {v5 : Int32} {v6 : Int32} {S0 S : HS} (h : P_X7_reckon_12 Q v0 v1 v2 v3 v4 v5 v6 S) (K : KQ5 S0 S) : P_X7_reckon_12 (fun T => Q T ∧ KQ5 S0 T) v0 v1 v2 v3 v4 v5 v6 S := by
  delta P_X7_reckon_12 at h ⊢
  obtain ⟨c1, h⟩ := h
  refine ⟨c1, ?_⟩
  have n2 := kq5_ne K c1
  intro x4 e3
  have h := h x4 e3
  refine ⟨?_, ?_⟩
  · intro c5
    have h := h.1 c5
    exact kq_X7_reckon_38 h K
  · intro c6
    have h := h.2 c6
    intro x8 e7
    have h := h x8 e7
    refine ⟨?_, ?_⟩
    · intro c9
      have h := h.1 c9
      exact kq_X7_reckon_38 h K
    · intro c10
      have h := h.2 c10
      intro x12 e11
      have h := h x12 e11
      refine ⟨?_, ?_⟩
      · intro c13
        have h := h.1 c13
        exact kq_X7_reckon_68 h K
      · intro c14
        have h := h.2 c14
        exact kq_X7_reckon_38 h K
set_option maxRecDepth 20000 in
set_option maxHeartbeats 1000000 in
theorem kq_X7_reckon_0 {Q : HS → Prop} {v0 : Nat} {v1 : Nat} {v2 : Nat} {v3 : Int32} {v4 : Int32} {v5 : Int32} {v6 : Int32} {S0 S : HS} (h : P_X7_reckon_0 Q v0 v1 v2 v3 v4 v5 v6 S) (K : KQ5 S0 S) : P_X7_reckon_0 (fun T => Q T ∧ KQ5 S0 T) v0 v1 v2 v3 v4 v5 v6 S := by
  delta P_X7_reckon_0 at h ⊢
  obtain ⟨c1, h⟩ := h
  refine ⟨c1, ?_⟩
  have n2 := kq5_ne K c1
  obtain ⟨b3, e4, h⟩ := h
  refine ⟨b3, e4, ?_⟩
  obtain ⟨c5, h⟩ := h
  refine ⟨c5, ?_⟩
  have n6 := kq5_ne K c5
  refine ⟨?_, ?_⟩
  · intro c7
    have h := h.1 c7
    exact kq_X7_reckon_12 h K
  · intro c8
    have h := h.2 c8
    refine cm_X7_makeRows (kq_X7_makeRows h) h (fun x9 hp h g10 => ?_)
    have h := h g10
    have K := kq5_tr K hp.2
    exact kq_X7_reckon_12 h K
theorem kq_X7_reckon {Q : HS → Prop} {v0 : Nat} {v1 : Nat} {v2 : Nat} {v3 : Int32} {v4 : Int32} {v5 : Int32} {v6 : Int32} {S : HS} (h : P_X7_reckon v0 v1 v2 v3 v4 v5 v6 Q S) : P_X7_reckon v0 v1 v2 v3 v4 v5 v6 (fun T => Q T ∧ KQ5 S T) S := kq_X7_reckon_0 h (kq5_rf S)
set_option maxRecDepth 20000 in
set_option maxHeartbeats 1000000 in
theorem kq_X7_trace_143 {Q : Int32 → HS → Prop} {X9 X9_2 : Nat → Nat → Int32 → Int32 → Int32 → HS → Prop} {v0 : Nat} {v1 : Nat} {v4 : Int32} {v5 : Int32} {v6 : Int32} {S0 S : HS} (h : P_X7_trace_143 Q X9 v0 v1 v4 v5 v6 S) (K : KQ5 S0 S) (hX9 : ∀ (u0 : Nat) (u1 : Nat) (u2 : Int32) (u3 : Int32) (u4 : Int32) (u5 : HS), X9 u0 u1 u2 u3 u4 u5 → KQ5 S0 u5 → X9_2 u0 u1 u2 u3 u4 u5) : P_X7_trace_143 (fun r T => Q r T ∧ KQ5 S0 T) X9_2 v0 v1 v4 v5 v6 S := by
  delta P_X7_trace_143 at h ⊢
  intro x2 e1
  have h := h x2 e1
  exact hX9 _ _ _ _ _ _ h K
set_option maxRecDepth 20000 in
set_option maxHeartbeats 1000000 in
theorem kq_X7_trace_56 {Q : Int32 → HS → Prop} {X9 X9_2 : Nat → Nat → Int32 → Int32 → Int32 → HS → Prop} {v0 : Nat} {v1 : Nat} {v4 : Int32} {v5 : Int32} {v6 : Int32} {s0 : Int32} {S0 S : HS} (h : P_X7_trace_56 Q X9 v0 v1 v4 v5 v6 s0 S) (K : KQ5 S0 S) (hX9 : ∀ (u0 : Nat) (u1 : Nat) (u2 : Int32) (u3 : Int32) (u4 : Int32) (u5 : HS), X9 u0 u1 u2 u3 u4 u5 → KQ5 S0 u5 → X9_2 u0 u1 u2 u3 u4 u5) : P_X7_trace_56 (fun r T => Q r T ∧ KQ5 S0 T) X9_2 v0 v1 v4 v5 v6 s0 S := by
  delta P_X7_trace_56 at h ⊢
  refine ⟨?_, ?_⟩
  · intro c1
    have h := h.1 c1
    obtain ⟨c2, h⟩ := h
    refine ⟨c2, ?_⟩
    have n3 := kq5_ne K c2
    obtain ⟨b4, e5, h⟩ := h
    refine ⟨b4, e5, ?_⟩
    obtain ⟨c6, h⟩ := h
    refine ⟨c6, ?_⟩
    have n7 := kq5_ne K c6
    obtain ⟨c8, h⟩ := h
    refine ⟨c8, ?_⟩
    intro x10 e9
    have h := h x10 e9
    have K := kq5_A K e9 n7 (by decide)
    refine ⟨?_, ?_⟩
    · intro c11
      have h := h.1 c11
      intro x13 e12
      have h := h x13 e12
      obtain ⟨c14, h⟩ := h
      refine ⟨c14, ?_⟩
      have n15 := kq5_ne K c14
      refine cm_X8_hasRoad (kq_X8_hasRoad h) h (fun x16 x17 hp h g18 g19 => ?_)
      have h := h g18 g19
      have K := kq5_tr K hp.2
      refine ⟨?_, ?_⟩
      · intro c20
        have h := h.1 c20
        exact kq_X7_trace_143 h K hX9
      · intro c21
        have h := h.2 c21
        obtain ⟨b22, e23, h⟩ := h
        refine ⟨b22, e23, ?_⟩
        intro x25 e24
        have h := h x25 e24
        obtain ⟨c26, h⟩ := h
        refine ⟨c26, ?_⟩
        have n27 := kq5_ne K c26
        obtain ⟨c28, h⟩ := h
        refine ⟨c28, ?_⟩
        obtain ⟨b29, e30, h⟩ := h
        refine ⟨b29, e30, ?_⟩
        intro x32 e31
        have h := h x32 e31
        intro x34 e33
        have h := h x34 e33
        obtain ⟨c35, h⟩ := h
        refine ⟨c35, ?_⟩
        have n36 := kq5_ne K c35
        refine cm_X5_endOf (kq_X5_endOf h) h (fun x37 x38 hp h g39 => ?_)
        have h := h g39
        have K := kq5_tr K hp.2
        intro x41 e40
        have h := h x41 e40
        refine cm_X5_minutesAt (kq_X5_minutesAt h) h (fun x42 x43 hp h g44 => ?_)
        have h := h g44
        have K := kq5_tr K hp.2
        intro x46 e45
        have h := h x46 e45
        exact kq_X7_trace_143 h K hX9
    · intro c47
      have h := h.2 c47
      intro x49 e48
      have h := h x49 e48
      exact kq_X7_trace_143 h K hX9
  · intro c50
    have h := h.2 c50
    exact ⟨h, K⟩
set_option maxRecDepth 20000 in
set_option maxHeartbeats 1000000 in
theorem kq_X7_trace_55 {Q : Int32 → HS → Prop} {X9 X9_2 : Nat → Nat → Int32 → Int32 → Int32 → HS → Prop} {v0 : Nat} {v1 : Nat} {v4 : Int32} {v5 : Int32} {v6 : Int32} {S0 S : HS} (h : P_X7_trace_55 Q X9 v0 v1 v4 v5 v6 S) (K : KQ5 S0 S) (hX9 : ∀ (u0 : Nat) (u1 : Nat) (u2 : Int32) (u3 : Int32) (u4 : Int32) (u5 : HS), X9 u0 u1 u2 u3 u4 u5 → KQ5 S0 u5 → X9_2 u0 u1 u2 u3 u4 u5) : P_X7_trace_55 (fun r T => Q r T ∧ KQ5 S0 T) X9_2 v0 v1 v4 v5 v6 S := by
  delta P_X7_trace_55 at h ⊢
  exact kq_X7_trace_56 h K hX9
set_option maxRecDepth 20000 in
set_option maxHeartbeats 1000000 in
theorem kqB_X7_trace_9 {Q : Int32 → HS → Prop} {X9 X9_2 : Nat → Nat → Int32 → Int32 → Int32 → HS → Prop} {v0 : Nat} {v1 : Nat} {v4 : Int32} {v5 : Int32} {v6 : Int32} {S0 S : HS} (h : B_X7_trace_9 Q X9 v0 v1 v4 v5 v6 S) (K : KQ5 S0 S) (hX9 : ∀ (u0 : Nat) (u1 : Nat) (u2 : Int32) (u3 : Int32) (u4 : Int32) (u5 : HS), X9 u0 u1 u2 u3 u4 u5 → KQ5 S0 u5 → X9_2 u0 u1 u2 u3 u4 u5) : B_X7_trace_9 (fun r T => Q r T ∧ KQ5 S0 T) X9_2 v0 v1 v4 v5 v6 S := by
  delta B_X7_trace_9 at h ⊢
  obtain ⟨c1, h⟩ := h
  refine ⟨c1, ?_⟩
  have n2 := kq5_ne K c1
  obtain ⟨b3, e4, h⟩ := h
  refine ⟨b3, e4, ?_⟩
  obtain ⟨c5, h⟩ := h
  refine ⟨c5, ?_⟩
  have n6 := kq5_ne K c5
  refine ⟨?_, ?_⟩
  · intro c7
    have h := h.1 c7
    obtain ⟨b8, e9, h⟩ := h
    refine ⟨b8, e9, ?_⟩
    obtain ⟨c10, h⟩ := h
    refine ⟨c10, ?_⟩
    have n11 := kq5_ne K c10
    exact ⟨h, K⟩
  · intro c12
    have h := h.2 c12
    intro x14 e13
    have h := h x14 e13
    refine ⟨?_, ?_⟩
    · intro c15
      have h := h.1 c15
      exact kq_X7_trace_55 h K hX9
    · intro c16
      have h := h.2 c16
      obtain ⟨b17, e18, h⟩ := h
      refine ⟨b17, e18, ?_⟩
      obtain ⟨c19, h⟩ := h
      refine ⟨c19, ?_⟩
      have n20 := kq5_ne K c19
      refine ⟨?_, ?_⟩
      · intro c21
        have h := h.1 c21
        exact kq_X7_trace_55 h K hX9
      · intro c22
        have h := h.2 c22
        obtain ⟨b23, e24, h⟩ := h
        refine ⟨b23, e24, ?_⟩
        obtain ⟨c25, h⟩ := h
        refine ⟨c25, ?_⟩
        have n26 := kq5_ne K c25
        obtain ⟨c27, h⟩ := h
        refine ⟨c27, ?_⟩
        intro x29 e28
        have h := h x29 e28
        exact kq_X7_trace_56 h K hX9
theorem kq_X7_trace_9 {Q : Int32 → HS → Prop} {v0 : Nat} {v1 : Nat} {v4 : Int32} {v5 : Int32} {v6 : Int32} {S0 S : HS} (h : P_X7_trace_9 Q v0 v1 v4 v5 v6 S) (K : KQ5 S0 S) : P_X7_trace_9 (fun r T => Q r T ∧ KQ5 S0 T) v0 v1 v4 v5 v6 S := h (fun v0 v1 v4 v5 v6 S => KQ5 S0 S → P_X7_trace_9 (fun r T => Q r T ∧ KQ5 S0 T) v0 v1 v4 v5 v6 S) (fun v0 v1 v4 v5 v6 S hB K => fd_X7_trace_9 (kqB_X7_trace_9 hB K (fun _ _ _ _ _ _ hx K => hx K))) K
set_option maxRecDepth 20000 in
set_option maxHeartbeats 1000000 in
theorem kq_X7_trace_0 {Q : Int32 → HS → Prop} {v0 : Nat} {v1 : Nat} {v2 : Int32} {v3 : Int32} {S0 S : HS} (h : P_X7_trace_0 Q v0 v1 v2 v3 S) (K : KQ5 S0 S) : P_X7_trace_0 (fun r T => Q r T ∧ KQ5 S0 T) v0 v1 v2 v3 S := by
  delta P_X7_trace_0 at h ⊢
  exact kq_X7_trace_9 h K
theorem kq_X7_trace {Q : Int32 → HS → Prop} {v0 : Nat} {v1 : Nat} {v2 : Int32} {v3 : Int32} {S : HS} (h : P_X7_trace v0 v1 v2 v3 Q S) : P_X7_trace v0 v1 v2 v3 (fun r T => Q r T ∧ KQ5 S T) S := kq_X7_trace_0 h (kq5_rf S)
set_option maxRecDepth 20000 in
set_option maxHeartbeats 1000000 in
theorem kq_X9_isWay_0 {Q : Int32 → HS → Prop} {v0 : Int32} {S0 S : HS} (h : P_X9_isWay_0 Q v0 S) (K : KQ5 S0 S) : P_X9_isWay_0 (fun r T => Q r T ∧ KQ5 S0 T) v0 S := by
  delta P_X9_isWay_0 at h ⊢
  refine ⟨?_, ?_⟩
  · intro c1
    have h := h.1 c1
    exact ⟨h, K⟩
  · intro c2
    have h := h.2 c2
    refine ⟨?_, ?_⟩
    · intro c3
      have h := h.1 c3
      exact ⟨h, K⟩
    · intro c4
      have h := h.2 c4
      exact ⟨h, K⟩
theorem kq_X9_isWay {Q : Int32 → HS → Prop} {v0 : Int32} {S : HS} (h : P_X9_isWay v0 Q S) : P_X9_isWay v0 (fun r T => Q r T ∧ KQ5 S T) S := kq_X9_isWay_0 h (kq5_rf S)
set_option maxRecDepth 20000 in
set_option maxHeartbeats 1000000 in
theorem kq_X9_tripTrouble_46 {Q : Int32 → HS → Prop} {s0 : Int32} {S0 S : HS} (h : P_X9_tripTrouble_46 Q s0 S) (K : KQ5 S0 S) : P_X9_tripTrouble_46 (fun r T => Q r T ∧ KQ5 S0 T) s0 S := by
  delta P_X9_tripTrouble_46 at h ⊢
  refine ⟨?_, ?_⟩
  · intro c1
    have h := h.1 c1
    exact ⟨h, K⟩
  · intro c2
    have h := h.2 c2
    exact ⟨h, K⟩
set_option maxRecDepth 20000 in
set_option maxHeartbeats 1000000 in
theorem kq_X9_tripTrouble_45 {Q : Int32 → HS → Prop} {S0 S : HS} (h : P_X9_tripTrouble_45 Q S) (K : KQ5 S0 S) : P_X9_tripTrouble_45 (fun r T => Q r T ∧ KQ5 S0 T) S := by
  delta P_X9_tripTrouble_45 at h ⊢
  exact kq_X9_tripTrouble_46 h K
set_option maxRecDepth 20000 in
set_option maxHeartbeats 1000000 in
theorem kq_X9_tripTrouble_0 {Q : Int32 → HS → Prop} {v0 : Nat} {v1 : Int32} {v2 : Int32} {v3 : Int32} {v4 : Int32} {S0 S : HS} (h : P_X9_tripTrouble_0 Q v0 v1 v2 v3 v4 S) (K : KQ5 S0 S) : P_X9_tripTrouble_0 (fun r T => Q r T ∧ KQ5 S0 T) v0 v1 v2 v3 v4 S := by
  delta P_X9_tripTrouble_0 at h ⊢
  obtain ⟨c1, h⟩ := h
  refine ⟨c1, ?_⟩
  have n2 := kq5_ne K c1
  obtain ⟨b3, e4, h⟩ := h
  refine ⟨b3, e4, ?_⟩
  obtain ⟨c5, h⟩ := h
  refine ⟨c5, ?_⟩
  have n6 := kq5_ne K c5
  refine cm_X8_hasWalker (kq_X8_hasWalker h) h (fun x7 x8 hp h g9 g10 => ?_)
  have h := h g9 g10
  have K := kq5_tr K hp.2
  refine ⟨?_, ?_⟩
  · intro c11
    have h := h.1 c11
    exact kq_X9_tripTrouble_45 h K
  · intro c12
    have h := h.2 c12
    obtain ⟨b13, e14, h⟩ := h
    refine ⟨b13, e14, ?_⟩
    obtain ⟨c15, h⟩ := h
    refine ⟨c15, ?_⟩
    have n16 := kq5_ne K c15
    refine cm_X8_hasRoad (kq_X8_hasRoad h) h (fun x17 x18 hp h g19 g20 => ?_)
    have h := h g19 g20
    have K := kq5_tr K hp.2
    refine ⟨?_, ?_⟩
    · intro c21
      have h := h.1 c21
      exact kq_X9_tripTrouble_45 h K
    · intro c22
      have h := h.2 c22
      refine cm_X9_isWay (kq_X9_isWay h) h (fun x23 x24 hp h g25 g26 => ?_)
      have h := h g25 g26
      have K := kq5_tr K hp.2
      refine ⟨?_, ?_⟩
      · intro c27
        have h := h.1 c27
        exact kq_X9_tripTrouble_45 h K
      · intro c28
        have h := h.2 c28
        obtain ⟨b29, e30, h⟩ := h
        refine ⟨b29, e30, ?_⟩
        obtain ⟨c31, h⟩ := h
        refine ⟨c31, ?_⟩
        have n32 := kq5_ne K c31
        refine cm_X8_hasHour (kq_X8_hasHour h) h (fun x33 x34 hp h g35 g36 => ?_)
        have h := h g35 g36
        have K := kq5_tr K hp.2
        refine ⟨?_, ?_⟩
        · intro c37
          have h := h.1 c37
          exact kq_X9_tripTrouble_45 h K
        · intro c38
          have h := h.2 c38
          exact kq_X9_tripTrouble_46 h K
theorem kq_X9_tripTrouble {Q : Int32 → HS → Prop} {v0 : Nat} {v1 : Int32} {v2 : Int32} {v3 : Int32} {v4 : Int32} {S : HS} (h : P_X9_tripTrouble v0 v1 v2 v3 v4 Q S) : P_X9_tripTrouble v0 v1 v2 v3 v4 (fun r T => Q r T ∧ KQ5 S T) S := kq_X9_tripTrouble_0 h (kq5_rf S)
set_option maxRecDepth 20000 in
set_option maxHeartbeats 1000000 in
theorem kq_X9_coatParts_0 {Q : Int64 → HS → Prop} {v0 : Nat} {S0 S : HS} (h : P_X9_coatParts_0 Q v0 S) (K : KQ5 S0 S) : P_X9_coatParts_0 (fun r T => Q r T ∧ KQ5 S0 T) v0 S := by
  delta P_X9_coatParts_0 at h ⊢
  obtain ⟨c1, h⟩ := h
  refine ⟨c1, ?_⟩
  have n2 := kq5_ne K c1
  intro x4 e3
  have h := h x4 e3
  refine ⟨?_, ?_⟩
  · intro c5
    have h := h.1 c5
    exact ⟨h, K⟩
  · intro c6
    have h := h.2 c6
    intro x8 e7
    have h := h x8 e7
    exact ⟨h, K⟩
theorem kq_X9_coatParts {Q : Int64 → HS → Prop} {v0 : Nat} {S : HS} (h : P_X9_coatParts v0 Q S) : P_X9_coatParts v0 (fun r T => Q r T ∧ KQ5 S T) S := kq_X9_coatParts_0 h (kq5_rf S)
set_option maxRecDepth 20000 in
set_option maxHeartbeats 1000000 in
theorem kqB_X9_commonDivisor_9 {Q : Int64 → HS → Prop} {X9 X9_2 : Int64 → Int64 → Int32 → HS → Prop} {v4 : Int64} {v6 : Int64} {v8 : Int32} {S0 S : HS} (h : B_X9_commonDivisor_9 Q X9 v4 v6 v8 S) (K : KQ5 S0 S) (hX9 : ∀ (u0 : Int64) (u1 : Int64) (u2 : Int32) (u3 : HS), X9 u0 u1 u2 u3 → KQ5 S0 u3 → X9_2 u0 u1 u2 u3) : B_X9_commonDivisor_9 (fun r T => Q r T ∧ KQ5 S0 T) X9_2 v4 v6 v8 S := by
  delta B_X9_commonDivisor_9 at h ⊢
  refine ⟨?_, ?_⟩
  · intro c1
    have h := h.1 c1
    exact ⟨h, K⟩
  · intro c2
    have h := h.2 c2
    refine ⟨?_, ?_⟩
    · intro c3
      have h := h.1 c3
      exact ⟨h, K⟩
    · intro c4
      have h := h.2 c4
      obtain ⟨c5, h⟩ := h
      refine ⟨c5, ?_⟩
      intro x7 e6
      have h := h x7 e6
      intro x9 e8
      have h := h x9 e8
      exact hX9 _ _ _ _ h K
theorem kq_X9_commonDivisor_9 {Q : Int64 → HS → Prop} {v4 : Int64} {v6 : Int64} {v8 : Int32} {S0 S : HS} (h : P_X9_commonDivisor_9 Q v4 v6 v8 S) (K : KQ5 S0 S) : P_X9_commonDivisor_9 (fun r T => Q r T ∧ KQ5 S0 T) v4 v6 v8 S := h (fun v4 v6 v8 S => KQ5 S0 S → P_X9_commonDivisor_9 (fun r T => Q r T ∧ KQ5 S0 T) v4 v6 v8 S) (fun v4 v6 v8 S hB K => fd_X9_commonDivisor_9 (kqB_X9_commonDivisor_9 hB K (fun _ _ _ _ hx K => hx K))) K
set_option maxRecDepth 20000 in
set_option maxHeartbeats 1000000 in
theorem kq_X9_commonDivisor_0 {Q : Int64 → HS → Prop} {v0 : Int64} {v2 : Int64} {S0 S : HS} (h : P_X9_commonDivisor_0 Q v0 v2 S) (K : KQ5 S0 S) : P_X9_commonDivisor_0 (fun r T => Q r T ∧ KQ5 S0 T) v0 v2 S := by
  delta P_X9_commonDivisor_0 at h ⊢
  exact kq_X9_commonDivisor_9 h K
theorem kq_X9_commonDivisor {Q : Int64 → HS → Prop} {v0 : Int64} {v2 : Int64} {S : HS} (h : P_X9_commonDivisor v0 v2 Q S) : P_X9_commonDivisor v0 v2 (fun r T => Q r T ∧ KQ5 S T) S := kq_X9_commonDivisor_0 h (kq5_rf S)
end
section
set_option maxRecDepth 20000 in
set_option maxHeartbeats 1000000 in
theorem kq_X9_fraction_0 {Q : Int64 → HS → Prop} {v0 : Int64} {v2 : Int64} {v4 : Int32} {S0 S : HS} (h : P_X9_fraction_0 Q v0 v2 v4 S) (K : KQ5 S0 S) : P_X9_fraction_0 (fun r T => Q r T ∧ KQ5 S0 T) v0 v2 v4 S := by
  delta P_X9_fraction_0 at h ⊢
  refine cm_X9_commonDivisor (kq_X9_commonDivisor h) h (fun x1 x2 hp h g3 => ?_)
  have h := h g3
  have K := kq5_tr K hp.2
  refine ⟨?_, ?_⟩
  · intro c4
    have h := h.1 c4
    refine ⟨?_, ?_⟩
    · intro c5
      have h := h.1 c5
      obtain ⟨c6, h⟩ := h
      refine ⟨c6, ?_⟩
      intro x8 e7
      have h := h x8 e7
      exact ⟨h, K⟩
    · intro c9
      have h := h.2 c9
      obtain ⟨c10, h⟩ := h
      refine ⟨c10, ?_⟩
      intro x12 e11
      have h := h x12 e11
      exact ⟨h, K⟩
  · intro c13
    have h := h.2 c13
    refine ⟨?_, ?_⟩
    · intro c14
      have h := h.1 c14
      exact ⟨h, K⟩
    · intro c15
      have h := h.2 c15
      exact ⟨h, K⟩
theorem kq_X9_fraction {Q : Int64 → HS → Prop} {v0 : Int64} {v2 : Int64} {v4 : Int32} {S : HS} (h : P_X9_fraction v0 v2 v4 Q S) : P_X9_fraction v0 v2 v4 (fun r T => Q r T ∧ KQ5 S T) S := kq_X9_fraction_0 h (kq5_rf S)
set_option maxRecDepth 20000 in
set_option maxHeartbeats 1000000 in
theorem kq_X9_isFace_0 {Q : Int32 → HS → Prop} {v0 : Int32} {S0 S : HS} (h : P_X9_isFace_0 Q v0 S) (K : KQ5 S0 S) : P_X9_isFace_0 (fun r T => Q r T ∧ KQ5 S0 T) v0 S := by
  delta P_X9_isFace_0 at h ⊢
  refine ⟨?_, ?_⟩
  · intro c1
    have h := h.1 c1
    exact ⟨h, K⟩
  · intro c2
    have h := h.2 c2
    refine ⟨?_, ?_⟩
    · intro c3
      have h := h.1 c3
      exact ⟨h, K⟩
    · intro c4
      have h := h.2 c4
      exact ⟨h, K⟩
theorem kq_X9_isFace {Q : Int32 → HS → Prop} {v0 : Int32} {S : HS} (h : P_X9_isFace v0 Q S) : P_X9_isFace v0 (fun r T => Q r T ∧ KQ5 S T) S := kq_X9_isFace_0 h (kq5_rf S)
set_option maxRecDepth 20000 in
set_option maxHeartbeats 1000000 in
theorem kq_X9_legTrouble_0 {Q : Int32 → HS → Prop} {v0 : Nat} {v1 : Int32} {v2 : Int32} {v3 : Int32} {v4 : Int32} {v5 : Int32} {S0 S : HS} (h : P_X9_legTrouble_0 Q v0 v1 v2 v3 v4 v5 S) (K : KQ5 S0 S) : P_X9_legTrouble_0 (fun r T => Q r T ∧ KQ5 S0 T) v0 v1 v2 v3 v4 v5 S := by
  delta P_X9_legTrouble_0 at h ⊢
  obtain ⟨c1, h⟩ := h
  refine ⟨c1, ?_⟩
  have n2 := kq5_ne K c1
  refine cm_X9_tripTrouble (kq_X9_tripTrouble h) h (fun x3 x4 hp h g5 => ?_)
  have h := h g5
  have K := kq5_tr K hp.2
  refine ⟨?_, ?_⟩
  · intro c6
    have h := h.1 c6
    obtain ⟨b7, e8, h⟩ := h
    refine ⟨b7, e8, ?_⟩
    obtain ⟨c9, h⟩ := h
    refine ⟨c9, ?_⟩
    have n10 := kq5_ne K c9
    obtain ⟨b11, e12, h⟩ := h
    refine ⟨b11, e12, ?_⟩
    obtain ⟨c13, h⟩ := h
    refine ⟨c13, ?_⟩
    have n14 := kq5_ne K c13
    obtain ⟨c15, h⟩ := h
    refine ⟨c15, ?_⟩
    obtain ⟨b16, e17, h⟩ := h
    refine ⟨b16, e17, ?_⟩
    obtain ⟨c18, h⟩ := h
    refine ⟨c18, ?_⟩
    have n19 := kq5_ne K c18
    refine cm_X6_canGo (kq_X6_canGo h) h (fun x20 x21 hp h g22 g23 => ?_)
    have h := h g22 g23
    have K := kq5_tr K hp.2
    refine ⟨?_, ?_⟩
    · intro c24
      have h := h.1 c24
      exact ⟨h, K⟩
    · intro c25
      have h := h.2 c25
      exact ⟨h, K⟩
  · intro c26
    have h := h.2 c26
    exact ⟨h, K⟩
theorem kq_X9_legTrouble {Q : Int32 → HS → Prop} {v0 : Nat} {v1 : Int32} {v2 : Int32} {v3 : Int32} {v4 : Int32} {v5 : Int32} {S : HS} (h : P_X9_legTrouble v0 v1 v2 v3 v4 v5 Q S) : P_X9_legTrouble v0 v1 v2 v3 v4 v5 (fun r T => Q r T ∧ KQ5 S T) S := kq_X9_legTrouble_0 h (kq5_rf S)
set_option maxRecDepth 20000 in
set_option maxHeartbeats 1000000 in
theorem kq_X9_fault_0 {Q : Int32 → HS → Prop} {v0 : Nat} {S0 S : HS} (h : P_X9_fault_0 Q v0 S) (K : KQ5 S0 S) : P_X9_fault_0 (fun r T => Q r T ∧ KQ5 S0 T) v0 S := by
  delta P_X9_fault_0 at h ⊢
  obtain ⟨c1, h⟩ := h
  refine ⟨c1, ?_⟩
  have n2 := kq5_ne K c1
  intro x4 e3
  have h := h x4 e3
  exact ⟨h, K⟩
theorem kq_X9_fault {Q : Int32 → HS → Prop} {v0 : Nat} {S : HS} (h : P_X9_fault v0 Q S) : P_X9_fault v0 (fun r T => Q r T ∧ KQ5 S T) S := kq_X9_fault_0 h (kq5_rf S)
set_option maxRecDepth 20000 in
set_option maxHeartbeats 1000000 in
theorem kq_X9_putBytes_49 {Q : HS → Prop} {X3 X3_2 : Nat → Int32 → Int32 → HS → Prop} {v0 : Nat} {v1 : Int32} {v2 : Int32} {S0 S : HS} (h : P_X9_putBytes_49 Q X3 v0 v1 v2 S) (K : KQ5 S0 S) (hX3 : ∀ (u0 : Nat) (u1 : Int32) (u2 : Int32) (u3 : HS), X3 u0 u1 u2 u3 → KQ5 S0 u3 → X3_2 u0 u1 u2 u3) : P_X9_putBytes_49 (fun T => Q T ∧ KQ5 S0 T) X3_2 v0 v1 v2 S := by
  delta P_X9_putBytes_49 at h ⊢
  intro x2 e1
  have h := h x2 e1
  exact hX3 _ _ _ _ h K
set_option maxRecDepth 20000 in
set_option maxHeartbeats 1000000 in
theorem kqB_X9_putBytes_3 {Q : HS → Prop} {X3 X3_2 : Nat → Int32 → Int32 → HS → Prop} {v0 : Nat} {v1 : Int32} {v2 : Int32} {S0 S : HS} (h : B_X9_putBytes_3 Q X3 v0 v1 v2 S) (K : KQ5 S0 S) (hX3 : ∀ (u0 : Nat) (u1 : Int32) (u2 : Int32) (u3 : HS), X3 u0 u1 u2 u3 → KQ5 S0 u3 → X3_2 u0 u1 u2 u3) : B_X9_putBytes_3 (fun T => Q T ∧ KQ5 S0 T) X3_2 v0 v1 v2 S := by
  delta B_X9_putBytes_3 at h ⊢
  refine ⟨?_, ?_⟩
  · intro c1
    have h := h.1 c1
    exact ⟨h, K⟩
  · intro c2
    have h := h.2 c2
    obtain ⟨c3, h⟩ := h
    refine ⟨c3, ?_⟩
    have n4 := kq5_ne K c3
    intro x6 e5
    have h := h x6 e5
    refine ⟨?_, ?_⟩
    · intro c7
      have h := h.1 c7
      exact kq_X9_putBytes_49 h K hX3
    · intro c8
      have h := h.2 c8
      intro x10 e9
      have h := h x10 e9
      obtain ⟨b11, e12, h⟩ := h
      refine ⟨b11, e12, ?_⟩
      obtain ⟨c13, h⟩ := h
      refine ⟨c13, ?_⟩
      have n14 := kq5_ne K c13
      refine ⟨?_, ?_⟩
      · intro c15
        have h := h.1 c15
        exact kq_X9_putBytes_49 h K hX3
      · intro c16
        have h := h.2 c16
        obtain ⟨b17, e18, h⟩ := h
        refine ⟨b17, e18, ?_⟩
        intro x20 e19
        have h := h x20 e19
        obtain ⟨c21, h⟩ := h
        refine ⟨c21, ?_⟩
        have n22 := kq5_ne K c21
        intro x24 e23
        have h := h x24 e23
        obtain ⟨c25, h⟩ := h
        refine ⟨c25, ?_⟩
        intro x27 e26
        have h := h x27 e26
        have K := kq5_A K e26 n22 (by decide)
        intro x29 e28
        have h := h x29 e28
        intro x31 e30
        have h := h x31 e30
        intro x33 e32
        have h := h x33 e32
        have K := kq5_I K e32 n4 (by decide)
        exact kq_X9_putBytes_49 h K hX3
theorem kq_X9_putBytes_3 {Q : HS → Prop} {v0 : Nat} {v1 : Int32} {v2 : Int32} {S0 S : HS} (h : P_X9_putBytes_3 Q v0 v1 v2 S) (K : KQ5 S0 S) : P_X9_putBytes_3 (fun T => Q T ∧ KQ5 S0 T) v0 v1 v2 S := h (fun v0 v1 v2 S => KQ5 S0 S → P_X9_putBytes_3 (fun T => Q T ∧ KQ5 S0 T) v0 v1 v2 S) (fun v0 v1 v2 S hB K => fd_X9_putBytes_3 (kqB_X9_putBytes_3 hB K (fun _ _ _ _ hx K => hx K))) K
set_option maxRecDepth 20000 in
set_option maxHeartbeats 1000000 in
theorem kq_X9_putBytes_0 {Q : HS → Prop} {v0 : Nat} {v1 : Int32} {S0 S : HS} (h : P_X9_putBytes_0 Q v0 v1 S) (K : KQ5 S0 S) : P_X9_putBytes_0 (fun T => Q T ∧ KQ5 S0 T) v0 v1 S := by
  delta P_X9_putBytes_0 at h ⊢
  exact kq_X9_putBytes_3 h K
theorem kq_X9_putBytes {Q : HS → Prop} {v0 : Nat} {v1 : Int32} {S : HS} (h : P_X9_putBytes v0 v1 Q S) : P_X9_putBytes v0 v1 (fun T => Q T ∧ KQ5 S T) S := kq_X9_putBytes_0 h (kq5_rf S)
set_option maxRecDepth 20000 in
set_option maxHeartbeats 1000000 in
theorem kq_X9_feed_0 {Q : Int32 → HS → Prop} {v0 : Nat} {v1 : Int32} {v2 : Int32} {v3 : Int32} {v4 : Int32} {v5 : Int32} {S0 S : HS} (h : P_X9_feed_0 Q v0 v1 v2 v3 v4 v5 S) (K : KQ5 S0 S) : P_X9_feed_0 (fun r T => Q r T ∧ KQ5 S0 T) v0 v1 v2 v3 v4 v5 S := by
  delta P_X9_feed_0 at h ⊢
  obtain ⟨c1, h⟩ := h
  refine ⟨c1, ?_⟩
  have n2 := kq5_ne K c1
  intro x4 e3
  have h := h x4 e3
  refine ⟨?_, ?_⟩
  · intro c5
    have h := h.1 c5
    refine cm_X9_putBytes (kq_X9_putBytes h) h (fun x6 hp h g7 => ?_)
    have h := h g7
    have K := kq5_tr K hp.2
    refine cm_X9_putBytes (kq_X9_putBytes h) h (fun x8 hp h g9 => ?_)
    have h := h g9
    have K := kq5_tr K hp.2
    refine cm_X9_putBytes (kq_X9_putBytes h) h (fun x10 hp h g11 => ?_)
    have h := h g11
    have K := kq5_tr K hp.2
    refine cm_X9_putBytes (kq_X9_putBytes h) h (fun x12 hp h g13 => ?_)
    have h := h g13
    have K := kq5_tr K hp.2
    refine cm_X9_putBytes (kq_X9_putBytes h) h (fun x14 hp h g15 => ?_)
    have h := h g15
    have K := kq5_tr K hp.2
    intro x17 e16
    have h := h x17 e16
    exact ⟨h, K⟩
  · intro c18
    have h := h.2 c18
    exact ⟨h, K⟩
theorem kq_X9_feed {Q : Int32 → HS → Prop} {v0 : Nat} {v1 : Int32} {v2 : Int32} {v3 : Int32} {v4 : Int32} {v5 : Int32} {S : HS} (h : P_X9_feed v0 v1 v2 v3 v4 v5 Q S) : P_X9_feed v0 v1 v2 v3 v4 v5 (fun r T => Q r T ∧ KQ5 S T) S := kq_X9_feed_0 h (kq5_rf S)
set_option maxRecDepth 20000 in
set_option maxHeartbeats 1000000 in
theorem kq_X9_leeTrouble_0 {Q : Int32 → HS → Prop} {v0 : Nat} {v1 : Int32} {v2 : Int32} {v3 : Int32} {v4 : Int32} {v5 : Int32} {v6 : Int32} {S0 S : HS} (h : P_X9_leeTrouble_0 Q v0 v1 v2 v3 v4 v5 v6 S) (K : KQ5 S0 S) : P_X9_leeTrouble_0 (fun r T => Q r T ∧ KQ5 S0 T) v0 v1 v2 v3 v4 v5 v6 S := by
  delta P_X9_leeTrouble_0 at h ⊢
  refine ⟨?_, ?_⟩
  · intro c1
    have h := h.1 c1
    exact ⟨h, K⟩
  · intro c2
    have h := h.2 c2
    obtain ⟨c3, h⟩ := h
    refine ⟨c3, ?_⟩
    have n4 := kq5_ne K c3
    obtain ⟨b5, e6, h⟩ := h
    refine ⟨b5, e6, ?_⟩
    obtain ⟨c7, h⟩ := h
    refine ⟨c7, ?_⟩
    have n8 := kq5_ne K c7
    refine cm_X8_hasWalker (kq_X8_hasWalker h) h (fun x9 x10 hp h g11 g12 => ?_)
    have h := h g11 g12
    have K := kq5_tr K hp.2
    refine ⟨?_, ?_⟩
    · intro c13
      have h := h.1 c13
      exact ⟨h, K⟩
    · intro c14
      have h := h.2 c14
      obtain ⟨b15, e16, h⟩ := h
      refine ⟨b15, e16, ?_⟩
      obtain ⟨c17, h⟩ := h
      refine ⟨c17, ?_⟩
      have n18 := kq5_ne K c17
      refine cm_X8_hasWalker (kq_X8_hasWalker h) h (fun x19 x20 hp h g21 g22 => ?_)
      have h := h g21 g22
      have K := kq5_tr K hp.2
      refine ⟨?_, ?_⟩
      · intro c23
        have h := h.1 c23
        refine cm_X9_legTrouble (kq_X9_legTrouble h) h (fun x24 x25 hp h g26 => ?_)
        have h := h g26
        have K := kq5_tr K hp.2
        refine ⟨?_, ?_⟩
        · intro c27
          have h := h.1 c27
          obtain ⟨b28, e29, h⟩ := h
          refine ⟨b28, e29, ?_⟩
          obtain ⟨c30, h⟩ := h
          refine ⟨c30, ?_⟩
          have n31 := kq5_ne K c30
          obtain ⟨b32, e33, h⟩ := h
          refine ⟨b32, e33, ?_⟩
          obtain ⟨c34, h⟩ := h
          refine ⟨c34, ?_⟩
          have n35 := kq5_ne K c34
          obtain ⟨c36, h⟩ := h
          refine ⟨c36, ?_⟩
          obtain ⟨b37, e38, h⟩ := h
          refine ⟨b37, e38, ?_⟩
          obtain ⟨c39, h⟩ := h
          refine ⟨c39, ?_⟩
          have n40 := kq5_ne K c39
          refine cm_X6_canGo (kq_X6_canGo h) h (fun x41 x42 hp h g43 g44 => ?_)
          have h := h g43 g44
          have K := kq5_tr K hp.2
          refine ⟨?_, ?_⟩
          · intro c45
            have h := h.1 c45
            exact ⟨h, K⟩
          · intro c46
            have h := h.2 c46
            exact ⟨h, K⟩
        · intro c47
          have h := h.2 c47
          exact ⟨h, K⟩
      · intro c48
        have h := h.2 c48
        exact ⟨h, K⟩
theorem kq_X9_leeTrouble {Q : Int32 → HS → Prop} {v0 : Nat} {v1 : Int32} {v2 : Int32} {v3 : Int32} {v4 : Int32} {v5 : Int32} {v6 : Int32} {S : HS} (h : P_X9_leeTrouble v0 v1 v2 v3 v4 v5 v6 Q S) : P_X9_leeTrouble v0 v1 v2 v3 v4 v5 v6 (fun r T => Q r T ∧ KQ5 S T) S := kq_X9_leeTrouble_0 h (kq5_rf S)
set_option maxRecDepth 20000 in
set_option maxHeartbeats 1000000 in
theorem kq_X9_init_0 {Q : HS → Prop} {v0 : Nat} {S0 S : HS} (h : P_X9_init_0 Q v0 S) (K : KQ5 S0 S) : P_X9_init_0 (fun T => Q T ∧ KQ5 S0 T) v0 S := by
  delta P_X9_init_0 at h ⊢
  intro x2 e1
  have h := h x2 e1
  intro x4 e3
  have h := h x4 e3
  have K := kq5_W K e1 e3
  obtain ⟨c5, h⟩ := h
  refine ⟨c5, ?_⟩
  have n6 := kq5_ne K c5
  intro x8 e7
  have h := h x8 e7
  have K := kq5_R K e7
  intro x10 e9
  have h := h x10 e9
  intro x12 e11
  have h := h x12 e11
  have K := kq5_W K e9 e11
  refine cm_X8_init (kq_X8_init h) h (fun x13 hp h g14 => ?_)
  have h := h g14
  have K := kq5_tr K hp.2
  intro x16 e15
  have h := h x16 e15
  have K := kq5_R K e15
  intro x18 e17
  have h := h x18 e17
  intro x20 e19
  have h := h x20 e19
  have K := kq5_W K e17 e19
  refine cm_X4_init (kq_X4_init h) h (fun x21 hp h g22 => ?_)
  have h := h g22
  have K := kq5_tr K hp.2
  intro x24 e23
  have h := h x24 e23
  have K := kq5_R K e23
  intro x26 e25
  have h := h x26 e25
  intro x28 e27
  have h := h x28 e27
  have K := kq5_W K e25 e27
  refine cm_X1_init (kq_X1_init h) h (fun x29 hp h g30 => ?_)
  have h := h g30
  have K := kq5_tr K hp.2
  intro x32 e31
  have h := h x32 e31
  have K := kq5_R K e31
  intro x34 e33
  have h := h x34 e33
  intro x36 e35
  have h := h x36 e35
  have K := kq5_W K e33 e35
  refine cm_X7_init (kq_X7_init h) h (fun x37 hp h g38 => ?_)
  have h := h g38
  have K := kq5_tr K hp.2
  intro x40 e39
  have h := h x40 e39
  have K := kq5_R K e39
  intro x42 e41
  have h := h x42 e41
  intro x44 e43
  have h := h x44 e43
  have K := kq5_W K e41 e43
  refine cm_X0_init (kq_X0_init h) h (fun x45 hp h g46 => ?_)
  have h := h g46
  have K := kq5_tr K hp.2
  intro x48 e47
  have h := h x48 e47
  have K := kq5_R K e47
  exact ⟨h, K⟩
theorem kq_X9_init {Q : HS → Prop} {v0 : Nat} {S : HS} (h : P_X9_init v0 Q S) : P_X9_init v0 (fun T => Q T ∧ KQ5 S T) S := kq_X9_init_0 h (kq5_rf S)
set_option maxRecDepth 20000 in
set_option maxHeartbeats 1000000 in
theorem kq_X9_isTill_0 {Q : Int32 → HS → Prop} {v0 : Int32} {S0 S : HS} (h : P_X9_isTill_0 Q v0 S) (K : KQ5 S0 S) : P_X9_isTill_0 (fun r T => Q r T ∧ KQ5 S0 T) v0 S := by
  delta P_X9_isTill_0 at h ⊢
  refine ⟨?_, ?_⟩
  · intro c1
    have h := h.1 c1
    exact ⟨h, K⟩
  · intro c2
    have h := h.2 c2
    refine ⟨?_, ?_⟩
    · intro c3
      have h := h.1 c3
      exact ⟨h, K⟩
    · intro c4
      have h := h.2 c4
      exact ⟨h, K⟩
theorem kq_X9_isTill {Q : Int32 → HS → Prop} {v0 : Int32} {S : HS} (h : P_X9_isTill v0 Q S) : P_X9_isTill v0 (fun r T => Q r T ∧ KQ5 S T) S := kq_X9_isTill_0 h (kq5_rf S)
set_option maxRecDepth 20000 in
set_option maxHeartbeats 1000000 in
theorem kq_X9_placesTrouble_38 {Q : Int32 → HS → Prop} {s0 : Int32} {S0 S : HS} (h : P_X9_placesTrouble_38 Q s0 S) (K : KQ5 S0 S) : P_X9_placesTrouble_38 (fun r T => Q r T ∧ KQ5 S0 T) s0 S := by
  delta P_X9_placesTrouble_38 at h ⊢
  refine ⟨?_, ?_⟩
  · intro c1
    have h := h.1 c1
    exact ⟨h, K⟩
  · intro c2
    have h := h.2 c2
    exact ⟨h, K⟩
set_option maxRecDepth 20000 in
set_option maxHeartbeats 1000000 in
theorem kq_X9_placesTrouble_37 {Q : Int32 → HS → Prop} {S0 S : HS} (h : P_X9_placesTrouble_37 Q S) (K : KQ5 S0 S) : P_X9_placesTrouble_37 (fun r T => Q r T ∧ KQ5 S0 T) S := by
  delta P_X9_placesTrouble_37 at h ⊢
  exact kq_X9_placesTrouble_38 h K
set_option maxRecDepth 20000 in
set_option maxHeartbeats 1000000 in
theorem kq_X9_placesTrouble_0 {Q : Int32 → HS → Prop} {v0 : Nat} {v1 : Int32} {v2 : Int32} {v3 : Int32} {S0 S : HS} (h : P_X9_placesTrouble_0 Q v0 v1 v2 v3 S) (K : KQ5 S0 S) : P_X9_placesTrouble_0 (fun r T => Q r T ∧ KQ5 S0 T) v0 v1 v2 v3 S := by
  delta P_X9_placesTrouble_0 at h ⊢
  obtain ⟨c1, h⟩ := h
  refine ⟨c1, ?_⟩
  have n2 := kq5_ne K c1
  obtain ⟨b3, e4, h⟩ := h
  refine ⟨b3, e4, ?_⟩
  obtain ⟨c5, h⟩ := h
  refine ⟨c5, ?_⟩
  have n6 := kq5_ne K c5
  refine cm_X8_hasWalker (kq_X8_hasWalker h) h (fun x7 x8 hp h g9 g10 => ?_)
  have h := h g9 g10
  have K := kq5_tr K hp.2
  refine ⟨?_, ?_⟩
  · intro c11
    have h := h.1 c11
    exact kq_X9_placesTrouble_37 h K
  · intro c12
    have h := h.2 c12
    obtain ⟨b13, e14, h⟩ := h
    refine ⟨b13, e14, ?_⟩
    obtain ⟨c15, h⟩ := h
    refine ⟨c15, ?_⟩
    have n16 := kq5_ne K c15
    refine cm_X8_hasPlace (kq_X8_hasPlace h) h (fun x17 x18 hp h g19 g20 => ?_)
    have h := h g19 g20
    have K := kq5_tr K hp.2
    refine ⟨?_, ?_⟩
    · intro c21
      have h := h.1 c21
      exact kq_X9_placesTrouble_37 h K
    · intro c22
      have h := h.2 c22
      obtain ⟨b23, e24, h⟩ := h
      refine ⟨b23, e24, ?_⟩
      obtain ⟨c25, h⟩ := h
      refine ⟨c25, ?_⟩
      have n26 := kq5_ne K c25
      refine cm_X8_hasPlace (kq_X8_hasPlace h) h (fun x27 x28 hp h g29 g30 => ?_)
      have h := h g29 g30
      have K := kq5_tr K hp.2
      refine ⟨?_, ?_⟩
      · intro c31
        have h := h.1 c31
        exact kq_X9_placesTrouble_37 h K
      · intro c32
        have h := h.2 c32
        exact kq_X9_placesTrouble_38 h K
theorem kq_X9_placesTrouble {Q : Int32 → HS → Prop} {v0 : Nat} {v1 : Int32} {v2 : Int32} {v3 : Int32} {S : HS} (h : P_X9_placesTrouble v0 v1 v2 v3 Q S) : P_X9_placesTrouble v0 v1 v2 v3 (fun r T => Q r T ∧ KQ5 S T) S := kq_X9_placesTrouble_0 h (kq5_rf S)
set_option maxRecDepth 20000 in
set_option maxHeartbeats 1000000 in
theorem kq_X9_wayTrouble_0 {Q : Int32 → HS → Prop} {v0 : Nat} {v1 : Int32} {v2 : Int32} {v3 : Int32} {v4 : Int32} {v5 : Int32} {S0 S : HS} (h : P_X9_wayTrouble_0 Q v0 v1 v2 v3 v4 v5 S) (K : KQ5 S0 S) : P_X9_wayTrouble_0 (fun r T => Q r T ∧ KQ5 S0 T) v0 v1 v2 v3 v4 v5 S := by
  delta P_X9_wayTrouble_0 at h ⊢
  obtain ⟨c1, h⟩ := h
  refine ⟨c1, ?_⟩
  have n2 := kq5_ne K c1
  refine cm_X9_placesTrouble (kq_X9_placesTrouble h) h (fun x3 x4 hp h g5 => ?_)
  have h := h g5
  have K := kq5_tr K hp.2
  refine ⟨?_, ?_⟩
  · intro c6
    have h := h.1 c6
    refine cm_X9_isTill (kq_X9_isTill h) h (fun x7 x8 hp h g9 g10 => ?_)
    have h := h g9 g10
    have K := kq5_tr K hp.2
    refine ⟨?_, ?_⟩
    · intro c11
      have h := h.1 c11
      exact ⟨h, K⟩
    · intro c12
      have h := h.2 c12
      refine ⟨?_, ?_⟩
      · intro c13
        have h := h.1 c13
        exact ⟨h, K⟩
      · intro c14
        have h := h.2 c14
        refine ⟨?_, ?_⟩
        · intro c15
          have h := h.1 c15
          obtain ⟨b16, e17, h⟩ := h
          refine ⟨b16, e17, ?_⟩
          obtain ⟨b18, e19, h⟩ := h
          refine ⟨b18, e19, ?_⟩
          obtain ⟨b20, e21, h⟩ := h
          refine ⟨b20, e21, ?_⟩
          obtain ⟨c22, h⟩ := h
          refine ⟨c22, ?_⟩
          have n23 := kq5_ne K c22
          refine cm_X7_reckon (kq_X7_reckon h) h (fun x24 hp h g25 => ?_)
          have h := h g25
          have K := kq5_tr K hp.2
          obtain ⟨b26, e27, h⟩ := h
          refine ⟨b26, e27, ?_⟩
          obtain ⟨c28, h⟩ := h
          refine ⟨c28, ?_⟩
          have n29 := kq5_ne K c28
          refine cm_X7_isOpen (kq_X7_isOpen h) h (fun x30 x31 hp h g32 g33 => ?_)
          have h := h g32 g33
          have K := kq5_tr K hp.2
          refine ⟨?_, ?_⟩
          · intro c34
            have h := h.1 c34
            exact ⟨h, K⟩
          · intro c35
            have h := h.2 c35
            exact ⟨h, K⟩
        · intro c36
          have h := h.2 c36
          exact ⟨h, K⟩
  · intro c37
    have h := h.2 c37
    exact ⟨h, K⟩
theorem kq_X9_wayTrouble {Q : Int32 → HS → Prop} {v0 : Nat} {v1 : Int32} {v2 : Int32} {v3 : Int32} {v4 : Int32} {v5 : Int32} {S : HS} (h : P_X9_wayTrouble v0 v1 v2 v3 v4 v5 Q S) : P_X9_wayTrouble v0 v1 v2 v3 v4 v5 (fun r T => Q r T ∧ KQ5 S T) S := kq_X9_wayTrouble_0 h (kq5_rf S)
set_option maxRecDepth 20000 in
set_option maxHeartbeats 1000000 in
theorem kq_X9_size_0 {Q : Int32 → HS → Prop} {v0 : Nat} {v1 : Int32} {S0 S : HS} (h : P_X9_size_0 Q v0 v1 S) (K : KQ5 S0 S) : P_X9_size_0 (fun r T => Q r T ∧ KQ5 S0 T) v0 v1 S := by
  delta P_X9_size_0 at h ⊢
  refine ⟨?_, ?_, ?_, ?_, ?_, ?_, ?_, ?_, ?_, ?_, ?_, ?_, ?_⟩
  · intro c1
    have h := h.1 c1
    exact ⟨h, K⟩
  · intro c2
    have h := h.2.1 c2
    obtain ⟨c3, h⟩ := h
    refine ⟨c3, ?_⟩
    have n4 := kq5_ne K c3
    obtain ⟨b5, e6, h⟩ := h
    refine ⟨b5, e6, ?_⟩
    obtain ⟨c7, h⟩ := h
    refine ⟨c7, ?_⟩
    have n8 := kq5_ne K c7
    intro x10 e9
    have h := h x10 e9
    exact ⟨h, K⟩
  · intro c11
    have h := h.2.2.1 c11
    obtain ⟨c12, h⟩ := h
    refine ⟨c12, ?_⟩
    have n13 := kq5_ne K c12
    obtain ⟨b14, e15, h⟩ := h
    refine ⟨b14, e15, ?_⟩
    obtain ⟨c16, h⟩ := h
    refine ⟨c16, ?_⟩
    have n17 := kq5_ne K c16
    intro x19 e18
    have h := h x19 e18
    exact ⟨h, K⟩
  · intro c20
    have h := h.2.2.2.1 c20
    obtain ⟨c21, h⟩ := h
    refine ⟨c21, ?_⟩
    have n22 := kq5_ne K c21
    obtain ⟨b23, e24, h⟩ := h
    refine ⟨b23, e24, ?_⟩
    obtain ⟨c25, h⟩ := h
    refine ⟨c25, ?_⟩
    have n26 := kq5_ne K c25
    intro x28 e27
    have h := h x28 e27
    exact ⟨h, K⟩
  · intro c29
    have h := h.2.2.2.2.1 c29
    obtain ⟨c30, h⟩ := h
    refine ⟨c30, ?_⟩
    have n31 := kq5_ne K c30
    obtain ⟨b32, e33, h⟩ := h
    refine ⟨b32, e33, ?_⟩
    obtain ⟨c34, h⟩ := h
    refine ⟨c34, ?_⟩
    have n35 := kq5_ne K c34
    intro x37 e36
    have h := h x37 e36
    exact ⟨h, K⟩
  · intro c38
    have h := h.2.2.2.2.2.1 c38
    obtain ⟨c39, h⟩ := h
    refine ⟨c39, ?_⟩
    have n40 := kq5_ne K c39
    obtain ⟨b41, e42, h⟩ := h
    refine ⟨b41, e42, ?_⟩
    obtain ⟨c43, h⟩ := h
    refine ⟨c43, ?_⟩
    have n44 := kq5_ne K c43
    intro x46 e45
    have h := h x46 e45
    exact ⟨h, K⟩
  · intro c47
    have h := h.2.2.2.2.2.2.1 c47
    obtain ⟨c48, h⟩ := h
    refine ⟨c48, ?_⟩
    have n49 := kq5_ne K c48
    obtain ⟨b50, e51, h⟩ := h
    refine ⟨b50, e51, ?_⟩
    obtain ⟨c52, h⟩ := h
    refine ⟨c52, ?_⟩
    have n53 := kq5_ne K c52
    intro x55 e54
    have h := h x55 e54
    exact ⟨h, K⟩
  · intro c56
    have h := h.2.2.2.2.2.2.2.1 c56
    obtain ⟨c57, h⟩ := h
    refine ⟨c57, ?_⟩
    have n58 := kq5_ne K c57
    obtain ⟨b59, e60, h⟩ := h
    refine ⟨b59, e60, ?_⟩
    obtain ⟨c61, h⟩ := h
    refine ⟨c61, ?_⟩
    have n62 := kq5_ne K c61
    refine cm_X0_isOn (kq_X0_isOn h) h (fun x63 x64 hp h g65 g66 => ?_)
    have h := h g65 g66
    have K := kq5_tr K hp.2
    refine ⟨?_, ?_⟩
    · intro c67
      have h := h.1 c67
      exact ⟨h, K⟩
    · intro c68
      have h := h.2 c68
      obtain ⟨b69, e70, h⟩ := h
      refine ⟨b69, e70, ?_⟩
      obtain ⟨c71, h⟩ := h
      refine ⟨c71, ?_⟩
      have n72 := kq5_ne K c71
      intro x74 e73
      have h := h x74 e73
      exact ⟨h, K⟩
  · intro c75
    have h := h.2.2.2.2.2.2.2.2.1 c75
    obtain ⟨c76, h⟩ := h
    refine ⟨c76, ?_⟩
    have n77 := kq5_ne K c76
    obtain ⟨b78, e79, h⟩ := h
    refine ⟨b78, e79, ?_⟩
    obtain ⟨c80, h⟩ := h
    refine ⟨c80, ?_⟩
    have n81 := kq5_ne K c80
    refine cm_X0_isOn (kq_X0_isOn h) h (fun x82 x83 hp h g84 g85 => ?_)
    have h := h g84 g85
    have K := kq5_tr K hp.2
    refine ⟨?_, ?_⟩
    · intro c86
      have h := h.1 c86
      exact ⟨h, K⟩
    · intro c87
      have h := h.2 c87
      obtain ⟨b88, e89, h⟩ := h
      refine ⟨b88, e89, ?_⟩
      obtain ⟨c90, h⟩ := h
      refine ⟨c90, ?_⟩
      have n91 := kq5_ne K c90
      obtain ⟨b92, e93, h⟩ := h
      refine ⟨b92, e93, ?_⟩
      obtain ⟨c94, h⟩ := h
      refine ⟨c94, ?_⟩
      have n95 := kq5_ne K c94
      intro x97 e96
      have h := h x97 e96
      exact ⟨h, K⟩
  · intro c98
    have h := h.2.2.2.2.2.2.2.2.2.1 c98
    obtain ⟨c99, h⟩ := h
    refine ⟨c99, ?_⟩
    have n100 := kq5_ne K c99
    obtain ⟨b101, e102, h⟩ := h
    refine ⟨b101, e102, ?_⟩
    obtain ⟨c103, h⟩ := h
    refine ⟨c103, ?_⟩
    have n104 := kq5_ne K c103
    refine cm_X0_isOn (kq_X0_isOn h) h (fun x105 x106 hp h g107 g108 => ?_)
    have h := h g107 g108
    have K := kq5_tr K hp.2
    refine ⟨?_, ?_⟩
    · intro c109
      have h := h.1 c109
      exact ⟨h, K⟩
    · intro c110
      have h := h.2 c110
      obtain ⟨b111, e112, h⟩ := h
      refine ⟨b111, e112, ?_⟩
      obtain ⟨c113, h⟩ := h
      refine ⟨c113, ?_⟩
      have n114 := kq5_ne K c113
      obtain ⟨b115, e116, h⟩ := h
      refine ⟨b115, e116, ?_⟩
      obtain ⟨c117, h⟩ := h
      refine ⟨c117, ?_⟩
      have n118 := kq5_ne K c117
      intro x120 e119
      have h := h x120 e119
      exact ⟨h, K⟩
  · intro c121
    have h := h.2.2.2.2.2.2.2.2.2.2.1 c121
    obtain ⟨c122, h⟩ := h
    refine ⟨c122, ?_⟩
    have n123 := kq5_ne K c122
    obtain ⟨b124, e125, h⟩ := h
    refine ⟨b124, e125, ?_⟩
    obtain ⟨c126, h⟩ := h
    refine ⟨c126, ?_⟩
    have n127 := kq5_ne K c126
    intro x129 e128
    have h := h x129 e128
    exact ⟨h, K⟩
  · intro c130
    have h := h.2.2.2.2.2.2.2.2.2.2.2.1 c130
    obtain ⟨c131, h⟩ := h
    refine ⟨c131, ?_⟩
    have n132 := kq5_ne K c131
    obtain ⟨b133, e134, h⟩ := h
    refine ⟨b133, e134, ?_⟩
    obtain ⟨c135, h⟩ := h
    refine ⟨c135, ?_⟩
    have n136 := kq5_ne K c135
    intro x138 e137
    have h := h x138 e137
    exact ⟨h, K⟩
  · intro c139
    have h := h.2.2.2.2.2.2.2.2.2.2.2.2 c139
    obtain ⟨c140, h⟩ := h
    refine ⟨c140, ?_⟩
    have n141 := kq5_ne K c140
    intro x143 e142
    have h := h x143 e142
    exact ⟨h, K⟩
theorem kq_X9_size {Q : Int32 → HS → Prop} {v0 : Nat} {v1 : Int32} {S : HS} (h : P_X9_size v0 v1 Q S) : P_X9_size v0 v1 (fun r T => Q r T ∧ KQ5 S T) S := kq_X9_size_0 h (kq5_rf S)
set_option maxRecDepth 20000 in
set_option maxHeartbeats 1000000 in
theorem kq_X9_stayTrouble_0 {Q : Int32 → HS → Prop} {v0 : Nat} {v1 : Int32} {S0 S : HS} (h : P_X9_stayTrouble_0 Q v0 v1 S) (K : KQ5 S0 S) : P_X9_stayTrouble_0 (fun r T => Q r T ∧ KQ5 S0 T) v0 v1 S := by
  delta P_X9_stayTrouble_0 at h ⊢
  obtain ⟨c1, h⟩ := h
  refine ⟨c1, ?_⟩
  have n2 := kq5_ne K c1
  obtain ⟨b3, e4, h⟩ := h
  refine ⟨b3, e4, ?_⟩
  obtain ⟨c5, h⟩ := h
  refine ⟨c5, ?_⟩
  have n6 := kq5_ne K c5
  refine cm_X0_isOn (kq_X0_isOn h) h (fun x7 x8 hp h g9 g10 => ?_)
  have h := h g9 g10
  have K := kq5_tr K hp.2
  refine ⟨?_, ?_⟩
  · intro c11
    have h := h.1 c11
    exact ⟨h, K⟩
  · intro c12
    have h := h.2 c12
    obtain ⟨b13, e14, h⟩ := h
    refine ⟨b13, e14, ?_⟩
    obtain ⟨b15, e16, h⟩ := h
    refine ⟨b15, e16, ?_⟩
    obtain ⟨c17, h⟩ := h
    refine ⟨c17, ?_⟩
    have n18 := kq5_ne K c17
    intro x20 e19
    have h := h x20 e19
    obtain ⟨c21, h⟩ := h
    refine ⟨c21, ?_⟩
    have n22 := kq5_ne K c21
    refine cm_X8_hasWalker (kq_X8_hasWalker h) h (fun x23 x24 hp h g25 g26 => ?_)
    have h := h g25 g26
    have K := kq5_tr K hp.2
    refine ⟨?_, ?_⟩
    · intro c27
      have h := h.1 c27
      refine ⟨?_, ?_⟩
      · intro c28
        have h := h.1 c28
        exact ⟨h, K⟩
      · intro c29
        have h := h.2 c29
        refine ⟨?_, ?_⟩
        · intro c30
          have h := h.1 c30
          obtain ⟨b31, e32, h⟩ := h
          refine ⟨b31, e32, ?_⟩
          obtain ⟨b33, e34, h⟩ := h
          refine ⟨b33, e34, ?_⟩
          obtain ⟨c35, h⟩ := h
          refine ⟨c35, ?_⟩
          have n36 := kq5_ne K c35
          obtain ⟨b37, e38, h⟩ := h
          refine ⟨b37, e38, ?_⟩
          obtain ⟨c39, h⟩ := h
          refine ⟨c39, ?_⟩
          have n40 := kq5_ne K c39
          intro x42 e41
          have h := h x42 e41
          obtain ⟨c43, h⟩ := h
          refine ⟨c43, ?_⟩
          have n44 := kq5_ne K c43
          refine cm_X8_canWait (kq_X8_canWait h) h (fun x45 x46 hp h g47 g48 => ?_)
          have h := h g47 g48
          have K := kq5_tr K hp.2
          refine ⟨?_, ?_⟩
          · intro c49
            have h := h.1 c49
            obtain ⟨b50, e51, h⟩ := h
            refine ⟨b50, e51, ?_⟩
            obtain ⟨c52, h⟩ := h
            refine ⟨c52, ?_⟩
            have n53 := kq5_ne K c52
            obtain ⟨b54, e55, h⟩ := h
            refine ⟨b54, e55, ?_⟩
            obtain ⟨c56, h⟩ := h
            refine ⟨c56, ?_⟩
            have n57 := kq5_ne K c56
            intro x59 e58
            have h := h x59 e58
            refine ⟨?_, ?_⟩
            · intro c60
              have h := h.1 c60
              exact ⟨h, K⟩
            · intro c61
              have h := h.2 c61
              exact ⟨h, K⟩
          · intro c62
            have h := h.2 c62
            exact ⟨h, K⟩
        · intro c63
          have h := h.2 c63
          exact ⟨h, K⟩
    · intro c64
      have h := h.2 c64
      exact ⟨h, K⟩
theorem kq_X9_stayTrouble {Q : Int32 → HS → Prop} {v0 : Nat} {v1 : Int32} {S : HS} (h : P_X9_stayTrouble v0 v1 Q S) : P_X9_stayTrouble v0 v1 (fun r T => Q r T ∧ KQ5 S T) S := kq_X9_stayTrouble_0 h (kq5_rf S)
set_option maxRecDepth 20000 in
set_option maxHeartbeats 1000000 in
theorem kq_X9_trouble_0 {Q : Int32 → HS → Prop} {v0 : Nat} {S0 S : HS} (h : P_X9_trouble_0 Q v0 S) (K : KQ5 S0 S) : P_X9_trouble_0 (fun r T => Q r T ∧ KQ5 S0 T) v0 S := by
  delta P_X9_trouble_0 at h ⊢
  obtain ⟨c1, h⟩ := h
  refine ⟨c1, ?_⟩
  have n2 := kq5_ne K c1
  intro x4 e3
  have h := h x4 e3
  exact ⟨h, K⟩
theorem kq_X9_trouble {Q : Int32 → HS → Prop} {v0 : Nat} {S : HS} (h : P_X9_trouble v0 Q S) : P_X9_trouble v0 (fun r T => Q r T ∧ KQ5 S T) S := kq_X9_trouble_0 h (kq5_rf S)
set_option maxRecDepth 20000 in
set_option maxHeartbeats 1000000 in
theorem kq_X9_where_0 {Q : Int32 → HS → Prop} {v0 : Nat} {S0 S : HS} (h : P_X9_where_0 Q v0 S) (K : KQ5 S0 S) : P_X9_where_0 (fun r T => Q r T ∧ KQ5 S0 T) v0 S := by
  delta P_X9_where_0 at h ⊢
  obtain ⟨c1, h⟩ := h
  refine ⟨c1, ?_⟩
  have n2 := kq5_ne K c1
  intro x4 e3
  have h := h x4 e3
  refine ⟨?_, ?_⟩
  · intro c5
    have h := h.1 c5
    exact ⟨h, K⟩
  · intro c6
    have h := h.2 c6
    intro x8 e7
    have h := h x8 e7
    exact ⟨h, K⟩
theorem kq_X9_where {Q : Int32 → HS → Prop} {v0 : Nat} {S : HS} (h : P_X9_where v0 Q S) : P_X9_where v0 (fun r T => Q r T ∧ KQ5 S T) S := kq_X9_where_0 h (kq5_rf S)
end
section
/-! trouble: the numbers, as pure functions; what sets them -/
theorem dc_T {α : Type} {a b : α} : dc True a b = a := dc_y trivial
theorem dc_F {α : Type} {a b : α} : dc False a b = b := dc_n (fun z => z)
noncomputable def whface (A : AS) (G : GC) (v1 v2 v3 v4 v5 v6 : Int32) : Int32 := dc (fcOK v6) (lgN A G v1 v2 v3 v4 v5) 1
noncomputable def whair (A : AS) (v1 v2 v3 : Int32) : Int32 := dc (¬ v1 < 0 ∧ v1 < nI (aR A)) (dc (v2 = 0 ∨ v2 = 1) (dc (¬ v3 < 0 ∧ v3 < nI (aHs A)) 0 1) 1) 1
noncomputable def whminutes (A : AS) (G : GC) (v1 v2 v3 : Int32) : Int32 := dc (¬ v1 < 0 ∧ v1 < nI (aW A)) (dc (¬ v2 < 0 ∧ v2 < nI (aR A)) (dc (spOK G v1 v3) 0 2) 1) 1
noncomputable def whdriest (A : AS) (v1 v2 v3 : Int32) : Int32 := dc (dyOK A v1 v2 v3) (dc (aHs A = 0) 6 0) 1
noncomputable def whfits (A : AS) (v1 : Int32) : Int32 := dc (¬ v1 < 0 ∧ v1 < nI (aS A)) 0 1
noncomputable def whlies (A : AS) : Int32 := dc (0 < aH A) 0 1
noncomputable def whday (A : AS) (v1 v2 v3 v4 : Int32) : Int32 := dc (¬ v1 < 0 ∧ v1 < nI (aW A)) (dc (¬ v2 < 0 ∧ v2 < nI (aP A)) (dc (v3 < 0 ∨ 400 < v3) 2 (dc (v4 < 0 ∨ 65536 < v4) 2 0)) 1) 1
noncomputable def whgot (D : DY) (v1 : Int32) : Int32 := dc (onD D) (dc (fcOK v1) 0 1) 1
noncomputable def whon (D : DY) : Int32 := dc (onD D) 0 1
noncomputable def whwalker (A : AS) (v1 v2 : Int32) : Int32 := dc (¬ v1 < 0 ∧ v1 < nI (aW A)) (dc (v2 < 0 ∨ 6 < v2) 1 0) 1
noncomputable def whroad (A : AS) (v1 v2 : Int32) : Int32 := dc (¬ v1 < 0 ∧ v1 < nI (aR A)) (dc (v2 < 0 ∨ 4 < v2) 1 0) 1
section C80
variable {m : Nat} {A : AS} {G : GC} {D : DY} {S T : HS} {x v1 v2 v3 v4 v5 v6 : Int32} {n : Nat} {a b : Int64} {l : Int32} {P X : Prop} {Q : Int32 → HS → Prop} {QJ : Int64 → HS → Prop}
theorem lg_le0 (h : lgN A G v1 v2 v3 v4 v5 ≤ 0) : lgN A G v1 v2 v3 v4 v5 = 0 := by
  rcases lgN_3 (A := A) (G := G) (v1 := v1) (v2 := v2) (v3 := v3) (v4 := v4) (v5 := v5) with q | q | q
  · exact q
  all_goals
    rw [q] at h
    exact absurd h (by decide)
theorem le_le0 (h : leN A G v1 v2 v3 v4 v5 v6 ≤ 0) : leN A G v1 v2 v3 v4 v5 v6 = 0 := by
  unfold leN at h ⊢
  by_cases c : ¬ v1 = v2 ∧ (¬ v2 < 0 ∧ v2 < nI (aW A))
  · rw [dc_y c] at h ⊢
    by_cases d : lgN A G v1 v3 v4 v5 v6 = 0
    · rw [dc_y d] at h ⊢
      by_cases e : spOK G v2 v6
      · rw [dc_y e]
      · rw [dc_n e] at h
        exact absurd h (by decide)
    · rw [dc_n d] at h ⊢
      exact lg_le0 h
  · rw [dc_n c] at h
    exact absurd h (by decide)
theorem lt37 (h : v4 < 65537) : ¬ (65536 : Int32) < v4 := fun z => by
  have a := lt_i h
  have b := lt_i z
  have e1 : (65537 : Int32).toInt = 65537 := by decide
  have e2 : (65536 : Int32).toInt = 65536 := by decide
  omega
theorem nlt37 (h : ¬ v4 < 65537) : (65536 : Int32) < v4 := by
  have a := nlt_i h
  have e1 : (65537 : Int32).toInt = 65537 := by decide
  have e2 : (65536 : Int32).toInt = 65536 := by decide
  exact Int32.lt_iff_toInt_lt.mpr (by omega)
theorem ans_hm (hx : ans (X ∧ P) x) (hp : P → X) : ans P x := hx.elim (fun z => Or.inl ⟨z.1.2, z.2⟩) (fun z => Or.inr ⟨fun p => z.1 ⟨hp p, p⟩, z.2⟩)
theorem ans_if {P' : Prop} (hx : ans P x) (h : P ↔ P') : ans P' x := hx.elim (fun z => Or.inl ⟨h.mp z.1, z.2⟩) (fun z => Or.inr ⟨fun p => z.1 (h.mpr p), z.2⟩)
theorem hm_of (hm : HM m A G S) (h0 : A00.1 = A00.1) {v : Int32} {f : AS → Nat} (z0 : f A00 = 0) (p : ¬ v < 0 ∧ v < nI (f A)) : ∃ rd, WRm m rd A G S := hm.elim (fun z => absurd (zero_n (by rw [z.2]; exact z0) p) id) id
theorem sq_X11_isWalker (hm : HM m A G S) (h : P_X11_isWalker m v1 Q S) : P_X11_isWalker m v1 (fun x T => Q x T ∧ S = T ∧ ans (¬ v1 < 0 ∧ v1 < nI (aW A)) x) S := cm_X11_isWalker (sp_X11_isWalker hm h) h (fun x T hp hq => ⟨hq, hp.2.1, ans_hm hp.2.2 (hm_of (f := aW) hm rfl rfl)⟩)
theorem sq_X11_isRoad (hm : HM m A G S) (h : P_X11_isRoad m v1 Q S) : P_X11_isRoad m v1 (fun x T => Q x T ∧ S = T ∧ ans (¬ v1 < 0 ∧ v1 < nI (aR A)) x) S := cm_X11_isRoad (sp_X11_isRoad hm h) h (fun x T hp hq => ⟨hq, hp.2.1, ans_hm hp.2.2 (hm_of (f := aR) hm rfl rfl)⟩)
theorem sq_X11_isHour (hm : HM m A G S) (h : P_X11_isHour m v1 Q S) : P_X11_isHour m v1 (fun x T => Q x T ∧ S = T ∧ ans (¬ v1 < 0 ∧ v1 < nI (aHs A)) x) S := cm_X11_isHour (sp_X11_isHour hm h) h (fun x T hp hq => ⟨hq, hp.2.1, ans_hm hp.2.2 (hm_of (f := aHs) hm rfl rfl)⟩)
theorem sq_X11_isPlace (hm : HM m A G S) (h : P_X11_isPlace m v1 Q S) : P_X11_isPlace m v1 (fun x T => Q x T ∧ S = T ∧ ans (¬ v1 < 0 ∧ v1 < nI (aP A)) x) S := cm_X11_isPlace (sm_X11_isPlace hm h) h (fun x T hp hq => ⟨hq, hp.2.1, ans_hm hp.2.2 (hm_of (f := aP) hm rfl rfl)⟩)
theorem sq_X11_isSeen (hm : HM m A G S) (h : P_X11_isSeen m v1 Q S) : P_X11_isSeen m v1 (fun x T => Q x T ∧ S = T ∧ ans (¬ v1 < 0 ∧ v1 < nI (aS A)) x) S := cm_X11_isSeen (sp_X11_isSeen hm h) h (fun x T hp hq => ⟨hq, hp.2.1, ans_hm hp.2.2 (hm_of (f := aS) hm rfl rfl)⟩)
theorem sq_X11_way (h : P_X11_in v1 0 1 Q S) : P_X11_in v1 0 1 (fun x T => Q x T ∧ S = T ∧ ans (v1 = 0 ∨ v1 = 1) x) S := cm_X11_in (sp_X11_in h) h (fun x T hp hq => ⟨hq, hp.2.1, ans_if hp.2.2 way_in⟩)
theorem sq_X11_face (h : P_X11_in v1 0 4 Q S) : P_X11_in v1 0 4 (fun x T => Q x T ∧ S = T ∧ ans (fcOK v1) x) S := sp_X11_in h
theorem tld_0 {S1 : HS} (td : Tld m A S) (e : S1 = sI S m 0 0) : Tld m A S1 := by
  rw [e]
  exact td
theorem told_n (hm : HM m A G S) (e : fR S m 3 = none) : ¬ 0 < aH A := by
  rcases hm with ⟨-, hA⟩ | ⟨rd, hr⟩
  · rw [hA]
    exact fun z => absurd z (Nat.lt_irrefl 0)
  · cases hr.1.symm.trans e
theorem told_y {a : Nat} (td : Tld m A S) (e : fR S m 3 = some a) : 0 < aH A := td.elim (fun z => by cases z.symm.trans e) id
theorem tq_X11_good (h : P_X11_good m v1 Q S) : P_X11_good m v1 (fun x T => Q x T ∧ fI T m 1 = 0) S := cm_X11_good (sp_X11_good h) h (fun x T hp hq => ⟨hq, hp.2.2.2.1⟩)
theorem tq_X11_refused (h : P_X11_refused m v1 Q S) : P_X11_refused m v1 (fun x T => Q x T ∧ fI T m 1 = v1) S := cm_X11_refused (sp_X11_refused h) h (fun x T hp hq => ⟨hq, hp.2.2.2.1⟩)
theorem tq_X11_granted (h : P_X11_granted m Q S) : P_X11_granted m (fun x T => Q x T ∧ fI T m 1 = 0) S := by
  delta P_X11_granted P_X11_granted_0
  obtain ⟨o, h⟩ := h
  exact ⟨o, cm_X11_good (tq_X11_good h) h (fun x T hp h g => ⟨h g, hp.2⟩)⟩
theorem tq_X11_denied (h : P_X11_denied m v1 Q S) : P_X11_denied m v1 (fun x T => Q x T ∧ fI T m 1 = v1) S := by
  delta P_X11_denied P_X11_denied_0
  obtain ⟨o, h⟩ := h
  exact ⟨o, cm_X11_refused (tq_X11_refused h) h (fun x T hp h g => ⟨h g, hp.2⟩)⟩
theorem tq_X11_lost (h : P_X11_lost m v1 Q S) : P_X11_lost m v1 (fun x T => Q x T ∧ fI T m 1 = v1) S := by
  delta P_X11_lost P_X11_lost_0
  obtain ⟨o, h⟩ := h
  exact ⟨o, cm_X11_refused (tq_X11_refused h) h (fun x T hp h g => ⟨h g, hp.2⟩)⟩
theorem tq_X11_told (h : P_X11_told m a b l QJ S) : P_X11_told m a b l (fun x T => QJ x T ∧ fI T m 1 = 0) S := by
  delta P_X11_told P_X11_told_0
  obtain ⟨o, h⟩ := h
  refine ⟨o, ?_⟩
  refine cm_X11_good (tq_X11_good h) h (fun x S1 hp h g => ?_)
  have h := h g
  have z := hp.2
  intro X hX
  refine h (fun v1 v3 v5 v6 v8 T => S1 = T → X v1 v3 v5 v6 v8 T) ?_ rfl
  rintro v1 v3 v5 v6 v8 T h rfl
  apply hX
  exact ⟨fun c => ⟨fun c1 => ⟨((h.1 c).1 c1).1, fun x ex => ⟨((h.1 c).1 c1).2 x ex, z⟩⟩, fun c1 => ⟨((h.1 c).2 c1).1, fun x ex => ⟨((h.1 c).2 c1).2 x ex, z⟩⟩⟩, fun c => ⟨(h.2 c).1, fun x ex => (h.2 c).2 x ex rfl⟩⟩
end C80
section C80c
variable {c : Nat} {S T : HS} {v : Int32} {Q : Int32 → HS → Prop}
theorem tq_X9_refuse (h : P_X9_refuse c v Q S) : P_X9_refuse c v (fun x T => Q x T ∧ fI T c 9 = v) S := cm_X9_refuse (sp_X9_refuse h) h (fun x T hp hq => ⟨hq, by rw [hp.2.2]; exact u2_self _ _ _ _⟩)
theorem tq_X9_grant (h : P_X9_grant c v Q S) : P_X9_grant c v (fun x T => Q x T ∧ fI T c 9 = 0) S := cm_X9_grant (sp_X9_grant h) h (fun x T hp hq => ⟨hq, by rw [hp.2.2]; exact u2_self _ _ _ _⟩)
theorem tq_X9_refusedBy (h : P_X9_refusedBy c v Q S) : P_X9_refusedBy c v (fun x T => Q x T ∧ fI T c 9 = v) S := cm_X9_refusedBy (sp_X9_refusedBy h) h (fun x T hp hq => ⟨hq, by rw [hp.2.1]; exact u2_self _ _ _ _⟩)
end C80c
section C80d
variable {c dy : Nat} {A : AS} {G : GC} {D : DY} {S T : HS} {x v : Int32} {Q : Int32 → HS → Prop}
theorem sq_X0_isOn (cd : CDd dy D S) (h : P_X0_isOn dy Q S) : P_X0_isOn dy (fun x T => Q x T ∧ S = T ∧ ans (onD D) x) S := sd_X0_isOn cd h
theorem cd_w (cd : CDd dy D S) : fI S dy 0 = dW D := by
  obtain ⟨_, _, _, _, _, _, cv⟩ := cd
  exact cv.1
theorem dw_in (db : DBd A D) (on : onD D) (e : dW D = x) : ¬ x < 0 ∧ x < nI (aW A) := by
  rw [← e]
  exact (db_on db on).1
end C80d
/-! trouble: minutes, driest, fit, step, off, go, stay, undo, mark, back -/
def rl (k x t : Int32) : Prop := (x = -1 ∧ t = k) ∨ (¬ x = -1 ∧ t = 0)
def rbq (k x t : Int32) : Prop := (x = 1 ∧ t = 0) ∨ (x = 0 ∧ t = k)
theorem rl_dc {k x y t : Int32} (h : rl k x t) (e : x = y) : t = dc (y = -1) k 0 := by
  subst e
  rcases h with ⟨a, b⟩ | ⟨a, b⟩
  · rw [dc_y a, b]
  · rw [dc_n a, b]
theorem rb_dc {k x t : Int32} {P : Prop} (h : rbq k x t) (a : ans P x) : t = dc P 0 k := by
  rcases h with ⟨e, b⟩ | ⟨e, b⟩
  · rw [dc_y (an1 a (by rw [e]; decide)), b]
  · rw [dc_n (an0 a e), b]
noncomputable def whfit (A : AS) (G : GC) (v1 v2 : Int32) : Int32 := dc (tellfit A G v1 v2 = -1) 1 0
noncomputable def whstep (A : AS) (G : GC) (v1 v2 v3 v4 v5 v6 : Int32) : Int32 := dc (wyN A G v1 v2 v3 v4 v5 = 0) (dc (tellstep A G v1 v2 v3 v4 v5 v6 = -1) 1 0) (wyN A G v1 v2 v3 v4 v5)
noncomputable def whoff (A : AS) (G : GC) (v1 v2 v3 v4 : Int32) : Int32 := dc (wyOK A v1 v2 v3) (dc (¬ (v4 < 0 ∨ (400 : Int32) < v4)) (dc (telloff A G v1 v2 v3 v4 = -1) 6 0) 2) 1
noncomputable def whgo (A : AS) (G : GC) (D : DY) (v1 v2 v3 : Int32) : Int32 := dc (onD D ∧ (¬ v1 < 0 ∧ v1 < nI (aR A)) ∧ (v2 = 0 ∨ v2 = 1)) (dc (spOK G (dW D) v3) (dc (goB G v1 v2 = (dN D).1) (dc ((dN D).2.1 + goM G v1 v3 ≤ 999) 0 3) 5) 2) 1
noncomputable def whstay (A : AS) (G : GC) (D : DY) (n : Int32) : Int32 := dc (onD D) (dc (¬ (n < 1 ∨ 60 < n)) (dc (cwO A G (dN D).1) (dc ((dN D).2.1 + n ≤ 999) 0 3) 5) 2) 1
noncomputable def whundo (D : DY) : Int32 := dc (0 < dU D) 0 6
noncomputable def whmark (D : DY) : Int32 := dc (onD D) (dc (dK D < 3) 0 3) 1
noncomputable def whback (D : DY) (v : Int32) : Int32 := dc (¬ v < 0 ∧ v < nI (dK D)) 0 1
section C81
variable {c m dy : Nat} {A : AS} {G : GC} {D : DY} {S T : HS} {x v v1 v2 v3 v4 v5 v6 s0 : Int32} {Q : Int32 → HS → Prop}
theorem rq_X9_refuse (h : P_X9_refuse c v Q S) : P_X9_refuse c v (fun x T => Q x T ∧ x = -1 ∧ fI T c 9 = v) S := cm_X9_refuse (sp_X9_refuse h) h (fun x T hp hq => ⟨hq, hp.2.1, by rw [hp.2.2]; exact u2_self _ _ _ _⟩)
theorem rq_X9_grant (h : P_X9_grant c v Q S) : P_X9_grant c v (fun x T => Q x T ∧ x = v ∧ fI T c 9 = 0) S := cm_X9_grant (sp_X9_grant h) h (fun x T hp hq => ⟨hq, hp.2.1, by rw [hp.2.2]; exact u2_self _ _ _ _⟩)
theorem rq_X9_refusedBy (h : P_X9_refusedBy c v Q S) : P_X9_refusedBy c v (fun x T => Q x T ∧ ans (¬ v = 0) x ∧ fI T c 9 = v) S := cm_X9_refusedBy (sp_X9_refusedBy h) h (fun x T hp hq => ⟨hq, hp.2.2, by rw [hp.2.1]; exact u2_self _ _ _ _⟩)
theorem rq_X11_refused (h : P_X11_refused m v Q S) : P_X11_refused m v (fun x T => Q x T ∧ x = -1 ∧ fI T m 1 = v) S := cm_X11_refused (sp_X11_refused h) h (fun x T hp hq => ⟨hq, hp.2.1, hp.2.2.2.1⟩)
theorem rq_X11_good (h : P_X11_good m v Q S) : P_X11_good m v (fun x T => Q x T ∧ x = v ∧ fI T m 1 = 0) S := cm_X11_good (sp_X11_good h) h (fun x T hp hq => ⟨hq, hp.2.1, hp.2.2.2.1⟩)
theorem rq_X11_granted (h : P_X11_granted m Q S) : P_X11_granted m (fun x T => Q x T ∧ x = 1 ∧ fI T m 1 = 0) S := by
  delta P_X11_granted P_X11_granted_0
  obtain ⟨o1, h⟩ := h
  exact ⟨o1, cm_X11_good (sp_X11_good h) h (fun x U hp h g => ⟨h g, rfl, hp.2.2.2.1⟩)⟩
theorem rq_X11_denied (h : P_X11_denied m v Q S) : P_X11_denied m v (fun x T => Q x T ∧ x = 0 ∧ fI T m 1 = v) S := by
  delta P_X11_denied P_X11_denied_0
  obtain ⟨o1, h⟩ := h
  exact ⟨o1, cm_X11_refused (sp_X11_refused h) h (fun x U hp h g => ⟨h g, rfl, hp.2.2.2.1⟩)⟩
theorem rq_X9_fit (h : P_X9_fit c v1 v2 Q S) : P_X9_fit c v1 v2 (fun x T => Q x T ∧ rl 1 x (fI T c 9)) S := by
  have no : ∀ T, P_X9_fit_15 Q c T → P_X9_fit_15 (fun x T => Q x T ∧ rl 1 x (fI T c 9)) c T := fun T h => by
    delta P_X9_fit_15
    obtain ⟨o, h⟩ := h
    exact ⟨o, cm_X9_refuse (rq_X9_refuse h) h (fun x U hp h g => ⟨h g, Or.inl hp.2⟩)⟩
  delta P_X9_fit P_X9_fit_0
  obtain ⟨oc, a1, e1, o1, h⟩ := h
  refine ⟨oc, a1, e1, o1, ?_⟩
  refine cm_X8_hasSeen h h (fun x4 S2 _ h g b => ?_)
  have h := h g b
  refine ⟨fun c0 => no _ (h.1 c0), fun c0 => ?_⟩
  have h := h.2 c0
  refine ⟨fun c1 => ?_, fun c1 => no _ (h.2 c1)⟩
  obtain ⟨a7, e7, a8, e8, o8, h⟩ := h.1 c1
  refine ⟨a7, e7, a8, e8, o8, ?_⟩
  refine cm_X1_findFit h h (fun x11 S9 _ h g => ?_)
  have h := h g
  exact ⟨fun c2 => cm_X9_grant (rq_X9_grant (h.1 c2)) (h.1 c2) (fun x T hp h g => ⟨h g, Or.inr ⟨fun z => c2 (hp.2.1.symm.trans z), hp.2.2⟩⟩), fun c2 => cm_X9_refuse (rq_X9_refuse (h.2 c2)) (h.2 c2) (fun x T hp h g => ⟨h g, Or.inl hp.2⟩)⟩
theorem rq_fit27 (h : P_X11_fit_27 Q m s0 S) : P_X11_fit_27 (fun x T => Q x T ∧ rl 1 x (fI T m 1)) m s0 S := by
  delta P_X11_fit_27
  refine ⟨fun c => ?_, fun c => ?_⟩
  · obtain ⟨o, h⟩ := h.1 c
    exact ⟨o, cm_X11_good (rq_X11_good h) h (fun x T hp h g => ⟨h g, Or.inr ⟨fun z => c (hp.2.1.symm.trans z), hp.2.2⟩⟩)⟩
  · obtain ⟨o, h⟩ := h.2 c
    exact ⟨o, cm_X11_refused (rq_X11_refused h) h (fun x T hp h g => ⟨h g, Or.inl hp.2⟩)⟩
theorem rq_X11_fit (h : P_X11_fit m v1 v2 Q S) : P_X11_fit m v1 v2 (fun x T => Q x T ∧ rl 1 x (fI T m 1)) S := by
  have no : ∀ T, P_X11_fit_26 Q m T → P_X11_fit_26 (fun x T => Q x T ∧ rl 1 x (fI T m 1)) m T := fun T h => rq_fit27 (s0 := -1) h
  delta P_X11_fit P_X11_fit_0
  obtain ⟨om, h⟩ := h
  refine ⟨om, fun S1 s1 => ?_⟩
  have h := h S1 s1
  refine cm_X11_isSeen h h (fun x4 S2 _ h g b => ?_)
  have h := h g b
  refine ⟨fun c0 => no _ (h.1 c0), fun c0 => ?_⟩
  have h := h.2 c0
  refine ⟨fun c1 => no _ (h.1 c1), fun c1 => ?_⟩
  have h := h.2 c1
  exact cm_X11_fitOf h h (fun x9 S7 _ h g => rq_fit27 (h g))
theorem wm1 (h : ¬ ((¬ v1 < 0 ∧ v1 < nI (aW A)) ∧ (¬ v2 < 0 ∧ v2 < nI (aR A)))) : whminutes A G v1 v2 v3 = 1 := by
  unfold whminutes
  by_cases a : (¬ v1 < 0 ∧ v1 < nI (aW A))
  · rw [dc_y a, dc_n (fun z => h ⟨a, z⟩)]
  · rw [dc_n a]
theorem uq_X9_minutes {r w1 w2 : Nat} (hI : IV S) (J : CJ c r w1 w2 S) (hc : Cnt w1 A S) (ct : CtB w1 A G S S) (ab : ABd A) (gb : GBd A G) (h : P_X9_minutes c v1 v2 v3 Q S) : P_X9_minutes c v1 v2 v3 (fun x T => Q x T ∧ fI T c 9 = whminutes A G v1 v2 v3) S := by
  have o1 := J.2.2.2.2.2.1
  have no : ∀ T, ¬ ((¬ v1 < 0 ∧ v1 < nI (aW A)) ∧ (¬ v2 < 0 ∧ v2 < nI (aR A))) → P_X9_minutes_22 Q c T → P_X9_minutes_22 (fun x T => Q x T ∧ fI T c 9 = whminutes A G v1 v2 v3) c T := fun T n h => by
    delta P_X9_minutes_22
    obtain ⟨o, h⟩ := h
    exact ⟨o, cm_X9_refuse (rq_X9_refuse h) h (fun x U hp h g => ⟨h g, hp.2.2.trans (wm1 n).symm⟩)⟩
  delta P_X9_minutes P_X9_minutes_0
  obtain ⟨o2, a1, e1, o3, h⟩ := h
  cases J.1.symm.trans e1
  refine ⟨o2, _, e1, o3, ?_⟩
  refine cm_X8_hasWalker (sp_X8_hasWalker hI o1 ab hc h) h (fun x4 S2 hp h g b => ?_)
  have h := h g b
  obtain ⟨-, hS, hx⟩ := hp
  subst hS
  refine ⟨fun c1 => no _ (fun z => an0 hx c1 z.1) (h.1 c1), fun c1 => ?_⟩
  have hx := an1 hx c1
  obtain ⟨a6, e6, o6, h⟩ := h.2 c1
  cases J.1.symm.trans e6
  refine ⟨_, e6, o6, ?_⟩
  refine cm_X8_hasRoad (sp_X8_hasRoad hI o1 ab hc h) h (fun x9 S7 hp h g b => ?_)
  have h := h g b
  obtain ⟨-, hS, hx2⟩ := hp
  subst hS
  refine Iff.mp and_comm ⟨fun c2 => no _ (fun z => an0 hx2 c2 z.2) (h.2 c2), fun c2 => ?_⟩
  have hx2 := an1 hx2 c2
  obtain ⟨a11, e11, o11, a12, e12, o12, o13, a14, e14, o14, h⟩ := h.1 c2
  cases J.1.symm.trans e11
  refine ⟨_, e11, o11, _, e12, o12, o13, _, e14, o14, ?_⟩
  have hv1 := ix_lt (by have := ab.2.2.2.2.1; omega) hx
  obtain ⟨o, eo, ho⟩ := ct.2.2.2.1 a12 e12 v1.toNatClampNeg hv1
  cases eo.symm.trans e14
  have hb := gb.2.2.2 _ hv1
  have w5 := ho 5 (by decide)
  have w6 := ho 6 (by decide)
  refine cm_X6_canGo (sp_X6_canGo (by rw [w5]; exact hb.2.2.2.2.2.1.1) (by rw [w6]; exact hb.2.2.2.2.2.2.2) h) h (fun x17 S15 hp h g b => ?_)
  have h := h g b
  obtain ⟨-, hS, hx3⟩ := hp
  subst hS
  rw [w5, w6] at hx3
  replace hx3 : ans (spOK G v1 v3) x17 := hx3
  refine Iff.mp and_comm ⟨fun c3 => ?_, fun c3 => ?_⟩
  · have h := h.2 c3
    exact cm_X9_refuse (rq_X9_refuse h) h (fun x U hp h g => ⟨h g, hp.2.2.trans (by unfold whminutes; rw [dc_y hx, dc_y hx2, dc_n (an0 hx3 c3)])⟩)
  obtain ⟨a19, e19, o19, a20, e20, o20, o21, a22, e22, o22, h⟩ := h.1 c3
  refine ⟨a19, e19, o19, a20, e20, o20, o21, a22, e22, o22, ?_⟩
  refine cm_X5_minutesAt h h (fun x25 S23 _ h g => ?_)
  have h := h g
  exact cm_X9_grant (rq_X9_grant h) h (fun x U hp h g => ⟨h g, hp.2.2.trans (by unfold whminutes; rw [dc_y hx, dc_y hx2, dc_y (an1 hx3 c3)])⟩)
theorem uq_X11_minutes (hI : IV S) (hm : HM m A G S) (ab : ABd A) (h : P_X11_minutes m v1 v2 v3 Q S) : P_X11_minutes m v1 v2 v3 (fun x T => Q x T ∧ fI T m 1 = whminutes A G v1 v2 v3) S := by
  have no : ∀ T, ¬ ((¬ v1 < 0 ∧ v1 < nI (aW A)) ∧ (¬ v2 < 0 ∧ v2 < nI (aR A))) → P_X11_minutes_21 Q m T → P_X11_minutes_21 (fun x T => Q x T ∧ fI T m 1 = whminutes A G v1 v2 v3) m T := fun T n h => by
    delta P_X11_minutes_21
    obtain ⟨o, h⟩ := h
    exact ⟨o, cm_X11_refused (rq_X11_refused h) h (fun x U hp h g => ⟨h g, hp.2.2.trans (wm1 n).symm⟩)⟩
  delta P_X11_minutes P_X11_minutes_0
  obtain ⟨o2, h⟩ := h
  refine ⟨o2, fun S1 eS1 => ?_⟩
  have h := h S1 eS1
  have hm1 := hm_0 hm o2 eS1
  refine cm_X11_isWalker (sq_X11_isWalker hm1 h) h (fun x4 S2 hp h g b => ?_)
  have h := h g b
  obtain ⟨-, hS, hx⟩ := hp
  subst hS
  refine ⟨fun c1 => no _ (fun z => an0 hx c1 z.1) (h.1 c1), fun c1 => ?_⟩
  have h := h.2 c1
  have hx := an1 hx c1
  refine cm_X11_isRoad (sq_X11_isRoad hm1 h) h (fun x8 S6 hp h g b => ?_)
  have h := h g b
  obtain ⟨-, hS, hx2⟩ := hp
  subst hS
  refine Iff.mp and_comm ⟨fun c2 => no _ (fun z => an0 hx2 c2 z.2) (h.2 c2), fun c2 => ?_⟩
  have h := h.1 c2
  have hx2 := an1 hx2 c2
  obtain ⟨rd, hr⟩ := hm_of (f := aW) hm1 rfl rfl hx
  have o10 : ob S rd 10 := by
    have := hr.2.1
    rw [eS1] at this
    exact this
  have fr : fR S1 = fR S := by rw [eS1]; rfl
  obtain ⟨b24, q24, -⟩ := hI.1 (10, 24, 13, 4) (by decide) rd o10
  obtain ⟨b25, q25, -⟩ := hI.1 (10, 25, 13, 4) (by decide) rd o10
  rw [← fr] at q24 q25
  have hv1 := ix_lt (by have := ab.2.2.2.2.1; omega) hx
  have c24 := hr.2.2.2.1 24 b24 (by decide) (by decide) q24 v1.toNatClampNeg hv1
  have c25 := hr.2.2.2.1 25 b25 (by decide) (by decide) q25 v1.toNatClampNeg hv1
  refine cm_X11_isSpeed (sp_X11_isSpeed hr.1 q24 q25 h) h (fun x12 S10 hp h g b => ?_)
  have h := h g b
  obtain ⟨-, hS, hx3⟩ := hp
  subst hS
  rw [c24, c25] at hx3
  replace hx3 : ans (spOK G v1 v3) x12 := hx3
  refine ⟨fun c3 => ?_, fun c3 => ?_⟩
  · have h := h.1 c3
    exact cm_X11_refused (rq_X11_refused h) h (fun x U hp h g => ⟨h g, hp.2.2.trans (by unfold whminutes; rw [dc_y hx, dc_y hx2, dc_n (an0 hx3 c3)])⟩)
  obtain ⟨a17, e17, o17, h⟩ := h.2 c3
  refine ⟨a17, e17, o17, ?_⟩
  refine cm_X10_minutes h h (fun x20 S18 _ h g => ?_)
  have h := h g
  exact cm_X11_good (rq_X11_good h) h (fun x U hp h g => ⟨h g, hp.2.2.trans (by unfold whminutes; rw [dc_y hx, dc_y hx2, dc_y (an1 hx3 c3)])⟩)
theorem rq_X9_undo (h : P_X9_undo c Q S) : P_X9_undo c (fun x T => Q x T ∧ rbq 6 x (fI T c 9)) S := by
  delta P_X9_undo P_X9_undo_0
  obtain ⟨o1, a1, e1, o2, h⟩ := h
  refine ⟨o1, a1, e1, o2, ?_⟩
  refine cm_X0_takeBack h h (fun x4 S2 _ h g b => ?_)
  have h := h g b
  refine ⟨fun cc => ?_, fun cc => ?_⟩
  · obtain ⟨o3, h⟩ := h.1 cc
    refine ⟨o3, cm_X9_refusedBy (rq_X9_refusedBy h) h (fun x3 S1 hp h g b => ?_)⟩
    have h := h g b
    exact ⟨fun q => ⟨h.1 q, Or.inr ⟨rfl, hp.2.2⟩⟩, fun q => absurd (by decide : ¬ (6 : Int32) = 0) (an0 hp.2.1 q)⟩
  · obtain ⟨o3, h⟩ := h.2 cc
    refine ⟨o3, cm_X9_refusedBy (rq_X9_refusedBy h) h (fun x3 S1 hp h g b => ?_)⟩
    have h := h g b
    exact ⟨fun q => absurd rfl (an1 hp.2.1 q), fun q => ⟨h.2 q, Or.inl ⟨rfl, hp.2.2⟩⟩⟩
theorem rq_X9_back (h : P_X9_back c v Q S) : P_X9_back c v (fun x T => Q x T ∧ rbq 1 x (fI T c 9)) S := by
  delta P_X9_back P_X9_back_0
  obtain ⟨o1, a1, e1, o2, h⟩ := h
  refine ⟨o1, a1, e1, o2, ?_⟩
  refine cm_X0_returnTo h h (fun x4 S2 _ h g b => ?_)
  have h := h g b
  refine ⟨fun cc => ?_, fun cc => ?_⟩
  · obtain ⟨o3, h⟩ := h.1 cc
    refine ⟨o3, cm_X9_refusedBy (rq_X9_refusedBy h) h (fun x3 S1 hp h g b => ?_)⟩
    have h := h g b
    exact ⟨fun q => ⟨h.1 q, Or.inr ⟨rfl, hp.2.2⟩⟩, fun q => absurd (by decide : ¬ (1 : Int32) = 0) (an0 hp.2.1 q)⟩
  · obtain ⟨o3, h⟩ := h.2 cc
    refine ⟨o3, cm_X9_refusedBy (rq_X9_refusedBy h) h (fun x3 S1 hp h g b => ?_)⟩
    have h := h g b
    exact ⟨fun q => absurd rfl (an1 hp.2.1 q), fun q => ⟨h.2 q, Or.inl ⟨rfl, hp.2.2⟩⟩⟩
theorem uq_X9_mark (e6 : fR S c 6 = some dy) (cd : CDd dy D S) (h : P_X9_mark c Q S) : P_X9_mark c (fun x T => Q x T ∧ fI T c 9 = dc (onD D) (dc (x = -1) 3 0) 1) S := by
  delta P_X9_mark P_X9_mark_0
  obtain ⟨o1, a1, e1, o2, h⟩ := h
  cases e6.symm.trans e1
  refine ⟨o1, _, e1, o2, ?_⟩
  refine cm_X0_isOn (sq_X0_isOn cd h) h (fun x4 S2 hp h g b => ?_)
  have h := h g b
  obtain ⟨-, hS, hx⟩ := hp
  subst hS
  refine Iff.mp and_comm ⟨fun cc => ?_, fun cc => ?_⟩
  · have h := h.2 cc
    exact cm_X9_refuse (rq_X9_refuse h) h (fun x U hp h g => ⟨h g, hp.2.2.trans (dc_n (an0 hx cc)).symm⟩)
  · have on : onD D := an1 hx cc
    obtain ⟨a6, e6', o6, h⟩ := h.1 cc
    refine ⟨a6, e6', o6, ?_⟩
    refine cm_X0_setMark h h (fun x9 S7 _ h g => ?_)
    have h := h g
    refine ⟨fun c2 => ?_, fun c2 => ?_⟩
    · have h := h.1 c2
      exact cm_X9_grant (rq_X9_grant h) h (fun x U hp h g => ⟨h g, by rw [dc_y on]; exact rl_dc (Or.inr ⟨fun z => c2 (hp.2.1.symm.trans z), hp.2.2⟩) rfl⟩)
    · have h := h.2 c2
      exact cm_X9_refuse (rq_X9_refuse h) h (fun x U hp h g => ⟨h g, by rw [dc_y on]; exact rl_dc (Or.inl hp.2) rfl⟩)
theorem wh_mark (e : x = tellmark D) (k3 : dK D ≤ 3) (h : v = dc (onD D) (dc (x = -1) 3 0) 1) : v = whmark D := by
  rw [h]
  unfold whmark
  by_cases on : onD D
  · rw [dc_y on, dc_y on]
    unfold tellmark at e
    rw [dc_y on] at e
    by_cases k : dK D < 3
    · rw [if_pos k] at e
      rw [dc_y k, dc_n (fun z => nI_nm1 (by omega) (e.symm.trans z))]
    · rw [if_neg k] at e
      rw [dc_n k, dc_y e]
  · rw [dc_n on, dc_n on]
end C81
end
