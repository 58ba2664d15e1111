set_option maxRecDepth 20000 in
set_option maxHeartbeats 1000000 in
theorem kxB_X9_commonDivisor_9 {Q : Int64 → HS → Prop} {X9 X9_2 : Int64 → Int64 → Int32 → HS → Prop} {v4 : Int64} {v6 : Int64} {v8 : Int32} {S0 S : HS} (h : B_X9_commonDivisor_9 Q X9 v4 v6 v8 S) (K : K8 S0 S) (hX9 : ∀ (u0 : Int64) (u1 : Int64) (u2 : Int32) (u3 : HS), X9 u0 u1 u2 u3 → K8 S0 u3 → X9_2 u0 u1 u2 u3) : B_X9_commonDivisor_9 (fun r T => Q r T ∧ K8 S0 T) X9_2 v4 v6 v8 S := by
  delta B_X9_commonDivisor_9 at h ⊢
  refine ⟨?_, ?_⟩
  · intro c1
    have h := h.1 c1
    exact ⟨h, K⟩
  · intro c2
    have h := h.2 c2
    refine ⟨?_, ?_⟩
    · intro c3
      have h := h.1 c3
      exact ⟨h, K⟩
    · intro c4
      have h := h.2 c4
      obtain ⟨c5, h⟩ := h
      refine ⟨c5, ?_⟩
      intro x7 e6
      have h := h x7 e6
      intro x9 e8
      have h := h x9 e8
      exact hX9 _ _ _ _ h K
theorem kx_X9_commonDivisor_9 {Q : Int64 → HS → Prop} {v4 : Int64} {v6 : Int64} {v8 : Int32} {S0 S : HS} (h : P_X9_commonDivisor_9 Q v4 v6 v8 S) (K : K8 S0 S) : P_X9_commonDivisor_9 (fun r T => Q r T ∧ K8 S0 T) v4 v6 v8 S := h (fun v4 v6 v8 S => K8 S0 S → P_X9_commonDivisor_9 (fun r T => Q r T ∧ K8 S0 T) v4 v6 v8 S) (fun v4 v6 v8 S hB K => fd_X9_commonDivisor_9 (kxB_X9_commonDivisor_9 hB K (fun _ _ _ _ hx K => hx K))) K
set_option maxRecDepth 20000 in
set_option maxHeartbeats 1000000 in
theorem kx_X9_commonDivisor_0 {Q : Int64 → HS → Prop} {v0 : Int64} {v2 : Int64} {S0 S : HS} (h : P_X9_commonDivisor_0 Q v0 v2 S) (K : K8 S0 S) : P_X9_commonDivisor_0 (fun r T => Q r T ∧ K8 S0 T) v0 v2 S := by
  delta P_X9_commonDivisor_0 at h ⊢
  exact kx_X9_commonDivisor_9 h K
theorem kx_X9_commonDivisor {Q : Int64 → HS → Prop} {v0 : Int64} {v2 : Int64} {S : HS} (h : P_X9_commonDivisor v0 v2 Q S) : P_X9_commonDivisor v0 v2 (fun r T => Q r T ∧ K8 S T) S := kx_X9_commonDivisor_0 h (k8_rf S)
set_option maxRecDepth 20000 in
set_option maxHeartbeats 1000000 in
theorem kx_X9_refuse_0 {Q : Int32 → HS → Prop} {v0 : Nat} {v1 : Int32} {S0 S : HS} (h : P_X9_refuse_0 Q v0 v1 S) (K : K8 S0 S) : P_X9_refuse_0 (fun r T => Q r T ∧ K8 S0 T) v0 v1 S := by
  delta P_X9_refuse_0 at h ⊢
  obtain ⟨c1, h⟩ := h
  refine ⟨c1, ?_⟩
  have n2 := k8_nk K c1 (by decide)
  intro x4 e3
  have h := h x4 e3
  have K := k8_I K e3 n2
  exact ⟨h, K⟩
theorem kx_X9_refuse {Q : Int32 → HS → Prop} {v0 : Nat} {v1 : Int32} {S : HS} (h : P_X9_refuse v0 v1 Q S) : P_X9_refuse v0 v1 (fun r T => Q r T ∧ K8 S T) S := kx_X9_refuse_0 h (k8_rf S)
set_option maxRecDepth 20000 in
set_option maxHeartbeats 1000000 in
theorem kx_X9_day_22 {Q : Int32 → HS → Prop} {v0 : Nat} {S0 S : HS} (h : P_X9_day_22 Q v0 S) (K : K8 S0 S) : P_X9_day_22 (fun r T => Q r T ∧ K8 S0 T) v0 S := by
  delta P_X9_day_22 at h ⊢
  obtain ⟨c1, h⟩ := h
  refine ⟨c1, ?_⟩
  have n2 := k8_nk K c1 (by decide)
  refine cm_X9_refuse (kx_X9_refuse h) h (fun x3 x4 p6 h g5 => ?_)
  have h := h g5
  have K := k8_tr K p6.2
  exact ⟨h, K⟩
set_option maxRecDepth 20000 in
set_option maxHeartbeats 1000000 in
theorem kx_X9_day_52 {Q : Int32 → HS → Prop} {v0 : Nat} {S0 S : HS} (h : P_X9_day_52 Q v0 S) (K : K8 S0 S) : P_X9_day_52 (fun r T => Q r T ∧ K8 S0 T) v0 S := by
  delta P_X9_day_52 at h ⊢
  obtain ⟨c1, h⟩ := h
  refine ⟨c1, ?_⟩
  have n2 := k8_nk K c1 (by decide)
  refine cm_X9_refuse (kx_X9_refuse h) h (fun x3 x4 p6 h g5 => ?_)
  have h := h g5
  have K := k8_tr K p6.2
  exact ⟨h, K⟩
set_option maxRecDepth 20000 in
set_option maxHeartbeats 1000000 in
theorem kx_X9_day_0 {Q : Int32 → HS → Prop} {v0 : Nat} {v1 : Int32} {v2 : Int32} {v3 : Int32} {v4 : Int32} {S0 S : HS} (h : P_X9_day_0 Q v0 v1 v2 v3 v4 S) (K : K8 S0 S) : P_X9_day_0 (fun r T => Q r T ∧ K8 S0 T) v0 v1 v2 v3 v4 S := by
  delta P_X9_day_0 at h ⊢
  obtain ⟨c1, h⟩ := h
  refine ⟨c1, ?_⟩
  have n2 := k8_nk K c1 (by decide)
  obtain ⟨b3, e4, h⟩ := h
  refine ⟨b3, e4, ?_⟩
  obtain ⟨c5, h⟩ := h
  refine ⟨c5, ?_⟩
  have n6 := k8_nk K c5 (by decide)
  have o7 := c5
  refine cm_X8_hasWalker (kx_X8_hasWalker h) h (fun x8 x9 p12 h g10 g11 => ?_)
  have h := h g10 g11
  have K := k8_tr K p12.2
  have o7 := gr_ob p12.2.1 o7
  refine ⟨?_, ?_⟩
  · intro c13
    have h := h.1 c13
    exact kx_X9_day_22 h K
  · intro c14
    have h := h.2 c14
    obtain ⟨b15, e16, h⟩ := h
    refine ⟨b15, e16, ?_⟩
    obtain ⟨c17, h⟩ := h
    refine ⟨c17, ?_⟩
    have n18 := k8_nk K c17 (by decide)
    have o19 := c17
    refine cm_X8_hasPlace (kx_X8_hasPlace h) h (fun x20 x21 p24 h g22 g23 => ?_)
    have h := h g22 g23
    have K := k8_tr K p24.2
    have o7 := gr_ob p24.2.1 o7
    have o19 := gr_ob p24.2.1 o19
    refine ⟨?_, ?_⟩
    · intro c25
      have h := h.1 c25
      refine ⟨?_, ?_⟩
      · intro c26
        have h := h.1 c26
        exact kx_X9_day_52 h K
      · intro c27
        have h := h.2 c27
        refine ⟨?_, ?_⟩
        · intro c28
          have h := h.1 c28
          exact kx_X9_day_52 h K
        · intro c29
          have h := h.2 c29
          refine ⟨?_, ?_⟩
          · intro c30
            have h := h.1 c30
            exact kx_X9_day_52 h K
          · intro c31
            have h := h.2 c31
            refine ⟨?_, ?_⟩
            · intro c32
              have h := h.1 c32
              obtain ⟨b33, e34, h⟩ := h
              refine ⟨b33, e34, ?_⟩
              obtain ⟨c35, h⟩ := h
              refine ⟨c35, ?_⟩
              have n36 := k8_nk K c35 (by decide)
              refine cm_X0_begin (kx_X0_begin h) h (fun x37 p39 h g38 => ?_)
              have h := h g38
              have K := k8_tr K p39.2
              have o7 := gr_ob p39.2.1 o7
              have o19 := gr_ob p39.2.1 o19
              obtain ⟨b40, e41, h⟩ := h
              refine ⟨b40, e41, ?_⟩
              obtain ⟨b42, e43, h⟩ := h
              refine ⟨b42, e43, ?_⟩
              obtain ⟨c44, h⟩ := h
              refine ⟨c44, ?_⟩
              have n45 := k8_nk K c44 (by decide)
              refine cm_X0_draw (kx_X0_draw h) h (fun x46 p48 h g47 => ?_)
              have h := h g47
              have K := k8_tr K p48.2
              have o7 := gr_ob p48.2.1 o7
              have o19 := gr_ob p48.2.1 o19
              obtain ⟨b49, e50, h⟩ := h
              refine ⟨b49, e50, ?_⟩
              obtain ⟨c51, h⟩ := h
              refine ⟨c51, ?_⟩
              have n52 := k8_nk K c51 (by decide)
              intro x54 e53
              have h := h x54 e53
              refine cm_X9_grant (kx_X9_grant h) h (fun x55 x56 p58 h g57 => ?_)
              have h := h g57
              have K := k8_tr K p58.2
              have o7 := gr_ob p58.2.1 o7
              have o19 := gr_ob p58.2.1 o19
              exact ⟨h, K⟩
            · intro c59
              have h := h.2 c59
              exact kx_X9_day_52 h K
    · intro c60
      have h := h.2 c60
      exact kx_X9_day_22 h K
theorem kx_X9_day {Q : Int32 → HS → Prop} {v0 : Nat} {v1 : Int32} {v2 : Int32} {v3 : Int32} {v4 : Int32} {S : HS} (h : P_X9_day v0 v1 v2 v3 v4 Q S) : P_X9_day v0 v1 v2 v3 v4 (fun r T => Q r T ∧ K8 S T) S := kx_X9_day_0 h (k8_rf S)
set_option maxRecDepth 20000 in
set_option maxHeartbeats 1000000 in
theorem kx_X9_driest_29 {Q : Int32 → HS → Prop} {v0 : Nat} {S0 S : HS} (h : P_X9_driest_29 Q v0 S) (K : K8 S0 S) : P_X9_driest_29 (fun r T => Q r T ∧ K8 S0 T) v0 S := by
  delta P_X9_driest_29 at h ⊢
  obtain ⟨c1, h⟩ := h
  refine ⟨c1, ?_⟩
  have n2 := k8_nk K c1 (by decide)
  refine cm_X9_refuse (kx_X9_refuse h) h (fun x3 x4 p6 h g5 => ?_)
  have h := h g5
  have K := k8_tr K p6.2
  exact ⟨h, K⟩
set_option maxRecDepth 20000 in
set_option maxHeartbeats 1000000 in
theorem kx_X9_driest_140 {Q : Int32 → HS → Prop} {X63 X63_2 : Nat → Int32 → Int32 → Int32 → Int32 → Int64 → Int32 → HS → Prop} {v0 : Nat} {v1 : Int32} {v2 : Int32} {v3 : Int32} {v4 : Int32} {v5 : Int64} {v7 : Int32} {S0 S : HS} (h : P_X9_driest_140 Q X63 v0 v1 v2 v3 v4 v5 v7 S) (K : K8 S0 S) (hX63 : ∀ (u0 : Nat) (u1 : Int32) (u2 : Int32) (u3 : Int32) (u4 : Int32) (u5 : Int64) (u6 : Int32) (u7 : HS), X63 u0 u1 u2 u3 u4 u5 u6 u7 → K8 S0 u7 → X63_2 u0 u1 u2 u3 u4 u5 u6 u7) : P_X9_driest_140 (fun r T => Q r T ∧ K8 S0 T) X63_2 v0 v1 v2 v3 v4 v5 v7 S := by
  delta P_X9_driest_140 at h ⊢
  intro x2 e1
  have h := h x2 e1
  exact hX63 _ _ _ _ _ _ _ _ h K
set_option maxRecDepth 20000 in
set_option maxHeartbeats 1000000 in
theorem kxB_X9_driest_63 {Q : Int32 → HS → Prop} {X63 X63_2 : Nat → Int32 → Int32 → Int32 → Int32 → Int64 → Int32 → HS → Prop} {v0 : Nat} {v1 : Int32} {v2 : Int32} {v3 : Int32} {v4 : Int32} {v5 : Int64} {v7 : Int32} {S0 S : HS} (h : B_X9_driest_63 Q X63 v0 v1 v2 v3 v4 v5 v7 S) (K : K8 S0 S) (hX63 : ∀ (u0 : Nat) (u1 : Int32) (u2 : Int32) (u3 : Int32) (u4 : Int32) (u5 : Int64) (u6 : Int32) (u7 : HS), X63 u0 u1 u2 u3 u4 u5 u6 u7 → K8 S0 u7 → X63_2 u0 u1 u2 u3 u4 u5 u6 u7) : B_X9_driest_63 (fun r T => Q r T ∧ K8 S0 T) X63_2 v0 v1 v2 v3 v4 v5 v7 S := by
  delta B_X9_driest_63 at h ⊢
  obtain ⟨c1, h⟩ := h
  refine ⟨c1, ?_⟩
  have n2 := k8_nk K c1 (by decide)
  obtain ⟨b3, e4, h⟩ := h
  refine ⟨b3, e4, ?_⟩
  obtain ⟨c5, h⟩ := h
  refine ⟨c5, ?_⟩
  have n6 := k8_nk K c5 (by decide)
  have o7 := c5
  intro x9 e8
  have h := h x9 e8
  refine ⟨?_, ?_⟩
  · intro c10
    have h := h.1 c10
    refine cm_X9_grant (kx_X9_grant h) h (fun x11 x12 p14 h g13 => ?_)
    have h := h g13
    have K := k8_tr K p14.2
    have o7 := gr_ob p14.2.1 o7
    exact ⟨h, K⟩
  · intro c15
    have h := h.2 c15
    obtain ⟨b16, e17, h⟩ := h
    refine ⟨b16, e17, ?_⟩
    obtain ⟨c18, h⟩ := h
    refine ⟨c18, ?_⟩
    have n19 := k8_nk K c18 (by decide)
    have o20 := c18
    obtain ⟨b21, e22, h⟩ := h
    refine ⟨b21, e22, ?_⟩
    obtain ⟨c23, h⟩ := h
    refine ⟨c23, ?_⟩
    have n24 := k8_nk K c23 (by decide)
    obtain ⟨c25, h⟩ := h
    refine ⟨c25, ?_⟩
    obtain ⟨b26, e27, h⟩ := h
    refine ⟨b26, e27, ?_⟩
    obtain ⟨b28, e29, h⟩ := h
    refine ⟨b28, e29, ?_⟩
    obtain ⟨b30, e31, h⟩ := h
    refine ⟨b30, e31, ?_⟩
    obtain ⟨c32, h⟩ := h
    refine ⟨c32, ?_⟩
    have n33 := k8_nk K c32 (by decide)
    have o34 := c32
    obtain ⟨b35, e36, h⟩ := h
    refine ⟨b35, e36, ?_⟩
    obtain ⟨c37, h⟩ := h
    refine ⟨c37, ?_⟩
    have n38 := k8_nk K c37 (by decide)
    obtain ⟨c39, h⟩ := h
    refine ⟨c39, ?_⟩
    obtain ⟨b40, e41, h⟩ := h
    refine ⟨b40, e41, ?_⟩
    obtain ⟨b42, e43, h⟩ := h
    refine ⟨b42, e43, ?_⟩
    obtain ⟨c44, h⟩ := h
    refine ⟨c44, ?_⟩
    have n45 := k8_nk K c44 (by decide)
    have o46 := c44
    obtain ⟨b47, e48, h⟩ := h
    refine ⟨b47, e48, ?_⟩
    obtain ⟨c49, h⟩ := h
    refine ⟨c49, ?_⟩
    have n50 := k8_nk K c49 (by decide)
    obtain ⟨c51, h⟩ := h
    refine ⟨c51, ?_⟩
    obtain ⟨b52, e53, h⟩ := h
    refine ⟨b52, e53, ?_⟩
    obtain ⟨c54, h⟩ := h
    refine ⟨c54, ?_⟩
    have n55 := k8_nk K c54 (by decide)
    refine cm_X1_leastWet (kx_X1_leastWet h) h (fun x56 x57 p59 h g58 => ?_)
    have h := h g58
    have K := k8_tr K p59.2
    have o7 := gr_ob p59.2.1 o7
    have o20 := gr_ob p59.2.1 o20
    have o34 := gr_ob p59.2.1 o34
    have o46 := gr_ob p59.2.1 o46
    obtain ⟨c60, h⟩ := h
    refine ⟨c60, ?_⟩
    have n61 := k8_nk K c60 (by decide)
    intro x63 e62
    have h := h x63 e62
    intro x65 e64
    have h := h x65 e64
    refine ⟨?_, ?_⟩
    · intro c66
      have h := h.1 c66
      exact kx_X9_driest_140 h K hX63
    · intro c67
      have h := h.2 c67
      exact kx_X9_driest_140 h K hX63
theorem kx_X9_driest_63 {Q : Int32 → HS → Prop} {v0 : Nat} {v1 : Int32} {v2 : Int32} {v3 : Int32} {v4 : Int32} {v5 : Int64} {v7 : Int32} {S0 S : HS} (h : P_X9_driest_63 Q v0 v1 v2 v3 v4 v5 v7 S) (K : K8 S0 S) : P_X9_driest_63 (fun r T => Q r T ∧ K8 S0 T) v0 v1 v2 v3 v4 v5 v7 S := h (fun v0 v1 v2 v3 v4 v5 v7 S => K8 S0 S → P_X9_driest_63 (fun r T => Q r T ∧ K8 S0 T) v0 v1 v2 v3 v4 v5 v7 S) (fun v0 v1 v2 v3 v4 v5 v7 S hB K => fd_X9_driest_63 (kxB_X9_driest_63 hB K (fun _ _ _ _ _ _ _ _ hx K => hx K))) K
set_option maxRecDepth 20000 in
set_option maxHeartbeats 1000000 in
theorem kx_X9_driest_0 {Q : Int32 → HS → Prop} {v0 : Nat} {v1 : Int32} {v2 : Int32} {v3 : Int32} {S0 S : HS} (h : P_X9_driest_0 Q v0 v1 v2 v3 S) (K : K8 S0 S) : P_X9_driest_0 (fun r T => Q r T ∧ K8 S0 T) v0 v1 v2 v3 S := by
  delta P_X9_driest_0 at h ⊢
  obtain ⟨c1, h⟩ := h
  refine ⟨c1, ?_⟩
  have n2 := k8_nk K c1 (by decide)
  obtain ⟨b3, e4, h⟩ := h
  refine ⟨b3, e4, ?_⟩
  obtain ⟨c5, h⟩ := h
  refine ⟨c5, ?_⟩
  have n6 := k8_nk K c5 (by decide)
  have o7 := c5
  refine cm_X8_hasWalker (kx_X8_hasWalker h) h (fun x8 x9 p12 h g10 g11 => ?_)
  have h := h g10 g11
  have K := k8_tr K p12.2
  have o7 := gr_ob p12.2.1 o7
  refine ⟨?_, ?_⟩
  · intro c13
    have h := h.1 c13
    exact kx_X9_driest_29 h K
  · intro c14
    have h := h.2 c14
    obtain ⟨b15, e16, h⟩ := h
    refine ⟨b15, e16, ?_⟩
    obtain ⟨c17, h⟩ := h
    refine ⟨c17, ?_⟩
    have n18 := k8_nk K c17 (by decide)
    have o19 := c17
    refine cm_X8_hasRoad (kx_X8_hasRoad h) h (fun x20 x21 p24 h g22 g23 => ?_)
    have h := h g22 g23
    have K := k8_tr K p24.2
    have o7 := gr_ob p24.2.1 o7
    have o19 := gr_ob p24.2.1 o19
    refine ⟨?_, ?_⟩
    · intro c25
      have h := h.1 c25
      exact kx_X9_driest_29 h K
    · intro c26
      have h := h.2 c26
      refine cm_X9_isWay (kx_X9_isWay h) h (fun x27 x28 p31 h g29 g30 => ?_)
      have h := h g29 g30
      have K := k8_tr K p31.2
      have o7 := gr_ob p31.2.1 o7
      have o19 := gr_ob p31.2.1 o19
      refine ⟨?_, ?_⟩
      · intro c32
        have h := h.1 c32
        obtain ⟨b33, e34, h⟩ := h
        refine ⟨b33, e34, ?_⟩
        obtain ⟨c35, h⟩ := h
        refine ⟨c35, ?_⟩
        have n36 := k8_nk K c35 (by decide)
        have o37 := c35
        intro x39 e38
        have h := h x39 e38
        refine ⟨?_, ?_⟩
        · intro c40
          have h := h.1 c40
          exact kx_X9_driest_63 h K
        · intro c41
          have h := h.2 c41
          refine cm_X9_refuse (kx_X9_refuse h) h (fun x42 x43 p45 h g44 => ?_)
          have h := h g44
          have K := k8_tr K p45.2
          have o7 := gr_ob p45.2.1 o7
          have o19 := gr_ob p45.2.1 o19
          have o37 := gr_ob p45.2.1 o37
          exact ⟨h, K⟩
      · intro c46
        have h := h.2 c46
        exact kx_X9_driest_29 h K
theorem kx_X9_driest {Q : Int32 → HS → Prop} {v0 : Nat} {v1 : Int32} {v2 : Int32} {v3 : Int32} {S : HS} (h : P_X9_driest v0 v1 v2 v3 Q S) : P_X9_driest v0 v1 v2 v3 (fun r T => Q r T ∧ K8 S T) S := kx_X9_driest_0 h (k8_rf S)
set_option maxRecDepth 20000 in
set_option maxHeartbeats 1000000 in
theorem kx_X9_even_0 {Q : Int32 → HS → Prop} {v0 : Nat} {v1 : Int32} {v2 : Int32} {v3 : Int32} {v4 : Int32} {S0 S : HS} (h : P_X9_even_0 Q v0 v1 v2 v3 v4 S) (K : K8 S0 S) : P_X9_even_0 (fun r T => Q r T ∧ K8 S0 T) v0 v1 v2 v3 v4 S := by
  delta P_X9_even_0 at h ⊢
  obtain ⟨c1, h⟩ := h
  refine ⟨c1, ?_⟩
  have n2 := k8_nk K c1 (by decide)
  refine cm_X9_tripTrouble (kx_X9_tripTrouble h) h (fun x3 x4 p6 h g5 => ?_)
  have h := h g5
  have K := k8_tr K p6.2
  refine cm_X9_refusedBy (kx_X9_refusedBy h) h (fun x7 x8 p11 h g9 g10 => ?_)
  have h := h g9 g10
  have K := k8_tr K p11.2
  refine ⟨?_, ?_⟩
  · intro c12
    have h := h.1 c12
    obtain ⟨b13, e14, h⟩ := h
    refine ⟨b13, e14, ?_⟩
    obtain ⟨c15, h⟩ := h
    refine ⟨c15, ?_⟩
    have n16 := k8_nk K c15 (by decide)
    have o17 := c15
    obtain ⟨b18, e19, h⟩ := h
    refine ⟨b18, e19, ?_⟩
    obtain ⟨c20, h⟩ := h
    refine ⟨c20, ?_⟩
    have n21 := k8_nk K c20 (by decide)
    obtain ⟨c22, h⟩ := h
    refine ⟨c22, ?_⟩
    obtain ⟨b23, e24, h⟩ := h
    refine ⟨b23, e24, ?_⟩
    obtain ⟨b25, e26, h⟩ := h
    refine ⟨b25, e26, ?_⟩
    obtain ⟨b27, e28, h⟩ := h
    refine ⟨b27, e28, ?_⟩
    obtain ⟨c29, h⟩ := h
    refine ⟨c29, ?_⟩
    have n30 := k8_nk K c29 (by decide)
    have o31 := c29
    obtain ⟨b32, e33, h⟩ := h
    refine ⟨b32, e33, ?_⟩
    obtain ⟨c34, h⟩ := h
    refine ⟨c34, ?_⟩
    have n35 := k8_nk K c34 (by decide)
    obtain ⟨c36, h⟩ := h
    refine ⟨c36, ?_⟩
    obtain ⟨b37, e38, h⟩ := h
    refine ⟨b37, e38, ?_⟩
    obtain ⟨b39, e40, h⟩ := h
    refine ⟨b39, e40, ?_⟩
    obtain ⟨c41, h⟩ := h
    refine ⟨c41, ?_⟩
    have n42 := k8_nk K c41 (by decide)
    have o43 := c41
    obtain ⟨b44, e45, h⟩ := h
    refine ⟨b44, e45, ?_⟩
    obtain ⟨c46, h⟩ := h
    refine ⟨c46, ?_⟩
    have n47 := k8_nk K c46 (by decide)
    obtain ⟨c48, h⟩ := h
    refine ⟨c48, ?_⟩
    obtain ⟨b49, e50, h⟩ := h
    refine ⟨b49, e50, ?_⟩
    obtain ⟨c51, h⟩ := h
    refine ⟨c51, ?_⟩
    have n52 := k8_nk K c51 (by decide)
    refine cm_X1_worstSpeed (kx_X1_worstSpeed h) h (fun x53 x54 p56 h g55 => ?_)
    have h := h g55
    have K := k8_tr K p56.2
    have o17 := gr_ob p56.2.1 o17
    have o31 := gr_ob p56.2.1 o31
    have o43 := gr_ob p56.2.1 o43
    obtain ⟨b57, e58, h⟩ := h
    refine ⟨b57, e58, ?_⟩
    obtain ⟨b59, e60, h⟩ := h
    refine ⟨b59, e60, ?_⟩
    obtain ⟨c61, h⟩ := h
    refine ⟨c61, ?_⟩
    have n62 := k8_nk K c61 (by decide)
    have o63 := c61
    obtain ⟨b64, e65, h⟩ := h
    refine ⟨b64, e65, ?_⟩
    obtain ⟨c66, h⟩ := h
    refine ⟨c66, ?_⟩
    have n67 := k8_nk K c66 (by decide)
    obtain ⟨c68, h⟩ := h
    refine ⟨c68, ?_⟩
    obtain ⟨b69, e70, h⟩ := h
    refine ⟨b69, e70, ?_⟩
    obtain ⟨b71, e72, h⟩ := h
    refine ⟨b71, e72, ?_⟩
    obtain ⟨c73, h⟩ := h
    refine ⟨c73, ?_⟩
    have n74 := k8_nk K c73 (by decide)
    have o75 := c73
    obtain ⟨b76, e77, h⟩ := h
    refine ⟨b76, e77, ?_⟩
    obtain ⟨c78, h⟩ := h
    refine ⟨c78, ?_⟩
    have n79 := k8_nk K c78 (by decide)
    obtain ⟨c80, h⟩ := h
    refine ⟨c80, ?_⟩
    obtain ⟨b81, e82, h⟩ := h
    refine ⟨b81, e82, ?_⟩
    obtain ⟨c83, h⟩ := h
    refine ⟨c83, ?_⟩
    have n84 := k8_nk K c83 (by decide)
    refine cm_X1_leastWet (kx_X1_leastWet h) h (fun x85 x86 p88 h g87 => ?_)
    have h := h g87
    have K := k8_tr K p88.2
    have o17 := gr_ob p88.2.1 o17
    have o31 := gr_ob p88.2.1 o31
    have o43 := gr_ob p88.2.1 o43
    have o63 := gr_ob p88.2.1 o63
    have o75 := gr_ob p88.2.1 o75
    obtain ⟨b89, e90, h⟩ := h
    refine ⟨b89, e90, ?_⟩
    obtain ⟨b91, e92, h⟩ := h
    refine ⟨b91, e92, ?_⟩
    obtain ⟨c93, h⟩ := h
    refine ⟨c93, ?_⟩
    have n94 := k8_nk K c93 (by decide)
    have o95 := c93
    obtain ⟨b96, e97, h⟩ := h
    refine ⟨b96, e97, ?_⟩
    obtain ⟨c98, h⟩ := h
    refine ⟨c98, ?_⟩
    have n99 := k8_nk K c98 (by decide)
    obtain ⟨c100, h⟩ := h
    refine ⟨c100, ?_⟩
    obtain ⟨b101, e102, h⟩ := h
    refine ⟨b101, e102, ?_⟩
    obtain ⟨b103, e104, h⟩ := h
    refine ⟨b103, e104, ?_⟩
    obtain ⟨c105, h⟩ := h
    refine ⟨c105, ?_⟩
    have n106 := k8_nk K c105 (by decide)
    have o107 := c105
    obtain ⟨b108, e109, h⟩ := h
    refine ⟨b108, e109, ?_⟩
    obtain ⟨c110, h⟩ := h
    refine ⟨c110, ?_⟩
    have n111 := k8_nk K c110 (by decide)
    obtain ⟨c112, h⟩ := h
    refine ⟨c112, ?_⟩
    obtain ⟨b113, e114, h⟩ := h
    refine ⟨b113, e114, ?_⟩
    obtain ⟨c115, h⟩ := h
    refine ⟨c115, ?_⟩
    have n116 := k8_nk K c115 (by decide)
    refine cm_X1_wetOf (kx_X1_wetOf h) h (fun x117 x118 p120 h g119 => ?_)
    have h := h g119
    have K := k8_tr K p120.2
    have o17 := gr_ob p120.2.1 o17
    have o31 := gr_ob p120.2.1 o31
    have o43 := gr_ob p120.2.1 o43
    have o63 := gr_ob p120.2.1 o63
    have o75 := gr_ob p120.2.1 o75
    have o95 := gr_ob p120.2.1 o95
    have o107 := gr_ob p120.2.1 o107
    refine ⟨?_, ?_⟩
    · intro c121
      have h := h.1 c121
      exact ⟨h, K⟩
    · intro c122
      have h := h.2 c122
      exact ⟨h, K⟩
  · intro c123
    have h := h.2 c123
    exact ⟨h, K⟩
theorem kx_X9_even {Q : Int32 → HS → Prop} {v0 : Nat} {v1 : Int32} {v2 : Int32} {v3 : Int32} {v4 : Int32} {S : HS} (h : P_X9_even v0 v1 v2 v3 v4 Q S) : P_X9_even v0 v1 v2 v3 v4 (fun r T => Q r T ∧ K8 S T) S := kx_X9_even_0 h (k8_rf S)
set_option maxRecDepth 20000 in
set_option maxHeartbeats 1000000 in
theorem kx_X9_fraction_0 {Q : Int64 → HS → Prop} {v0 : Int64} {v2 : Int64} {v4 : Int32} {S0 S : HS} (h : P_X9_fraction_0 Q v0 v2 v4 S) (K : K8 S0 S) : P_X9_fraction_0 (fun r T => Q r T ∧ K8 S0 T) v0 v2 v4 S := by
  delta P_X9_fraction_0 at h ⊢
  refine cm_X9_commonDivisor (kx_X9_commonDivisor h) h (fun x1 x2 p4 h g3 => ?_)
  have h := h g3
  have K := k8_tr K p4.2
  refine ⟨?_, ?_⟩
  · intro c5
    have h := h.1 c5
    refine ⟨?_, ?_⟩
    · intro c6
      have h := h.1 c6
      obtain ⟨c7, h⟩ := h
      refine ⟨c7, ?_⟩
      intro x9 e8
      have h := h x9 e8
      exact ⟨h, K⟩
    · intro c10
      have h := h.2 c10
      obtain ⟨c11, h⟩ := h
      refine ⟨c11, ?_⟩
      intro x13 e12
      have h := h x13 e12
      exact ⟨h, K⟩
  · intro c14
    have h := h.2 c14
    refine ⟨?_, ?_⟩
    · intro c15
      have h := h.1 c15
      exact ⟨h, K⟩
    · intro c16
      have h := h.2 c16
      exact ⟨h, K⟩
theorem kx_X9_fraction {Q : Int64 → HS → Prop} {v0 : Int64} {v2 : Int64} {v4 : Int32} {S : HS} (h : P_X9_fraction v0 v2 v4 Q S) : P_X9_fraction v0 v2 v4 (fun r T => Q r T ∧ K8 S T) S := kx_X9_fraction_0 h (k8_rf S)
set_option maxRecDepth 20000 in
set_option maxHeartbeats 1000000 in
theorem kx_X9_isFace_0 {Q : Int32 → HS → Prop} {v0 : Int32} {S0 S : HS} (h : P_X9_isFace_0 Q v0 S) (K : K8 S0 S) : P_X9_isFace_0 (fun r T => Q r T ∧ K8 S0 T) v0 S := by
  delta P_X9_isFace_0 at h ⊢
  refine ⟨?_, ?_⟩
  · intro c1
    have h := h.1 c1
    exact ⟨h, K⟩
  · intro c2
    have h := h.2 c2
    refine ⟨?_, ?_⟩
    · intro c3
      have h := h.1 c3
      exact ⟨h, K⟩
    · intro c4
      have h := h.2 c4
      exact ⟨h, K⟩
theorem kx_X9_isFace {Q : Int32 → HS → Prop} {v0 : Int32} {S : HS} (h : P_X9_isFace v0 Q S) : P_X9_isFace v0 (fun r T => Q r T ∧ K8 S T) S := kx_X9_isFace_0 h (k8_rf S)
set_option maxRecDepth 20000 in
set_option maxHeartbeats 1000000 in
theorem kx_X9_legTrouble_0 {Q : Int32 → HS → Prop} {v0 : Nat} {v1 : Int32} {v2 : Int32} {v3 : Int32} {v4 : Int32} {v5 : Int32} {S0 S : HS} (h : P_X9_legTrouble_0 Q v0 v1 v2 v3 v4 v5 S) (K : K8 S0 S) : P_X9_legTrouble_0 (fun r T => Q r T ∧ K8 S0 T) v0 v1 v2 v3 v4 v5 S := by
  delta P_X9_legTrouble_0 at h ⊢
  obtain ⟨c1, h⟩ := h
  refine ⟨c1, ?_⟩
  have n2 := k8_nk K c1 (by decide)
  refine cm_X9_tripTrouble (kx_X9_tripTrouble h) h (fun x3 x4 p6 h g5 => ?_)
  have h := h g5
  have K := k8_tr K p6.2
  refine ⟨?_, ?_⟩
  · intro c7
    have h := h.1 c7
    obtain ⟨b8, e9, h⟩ := h
    refine ⟨b8, e9, ?_⟩
    obtain ⟨c10, h⟩ := h
    refine ⟨c10, ?_⟩
    have n11 := k8_nk K c10 (by decide)
    have o12 := c10
    obtain ⟨b13, e14, h⟩ := h
    refine ⟨b13, e14, ?_⟩
    obtain ⟨c15, h⟩ := h
    refine ⟨c15, ?_⟩
    have n16 := k8_nk K c15 (by decide)
    obtain ⟨c17, h⟩ := h
    refine ⟨c17, ?_⟩
    obtain ⟨b18, e19, h⟩ := h
    refine ⟨b18, e19, ?_⟩
    obtain ⟨c20, h⟩ := h
    refine ⟨c20, ?_⟩
    have n21 := k8_nk K c20 (by decide)
    refine cm_X6_canGo (kx_X6_canGo h) h (fun x22 x23 p26 h g24 g25 => ?_)
    have h := h g24 g25
    have K := k8_tr K p26.2
    have o12 := gr_ob p26.2.1 o12
    refine ⟨?_, ?_⟩
    · intro c27
      have h := h.1 c27
      exact ⟨h, K⟩
    · intro c28
      have h := h.2 c28
      exact ⟨h, K⟩
  · intro c29
    have h := h.2 c29
    exact ⟨h, K⟩
theorem kx_X9_legTrouble {Q : Int32 → HS → Prop} {v0 : Nat} {v1 : Int32} {v2 : Int32} {v3 : Int32} {v4 : Int32} {v5 : Int32} {S : HS} (h : P_X9_legTrouble v0 v1 v2 v3 v4 v5 Q S) : P_X9_legTrouble v0 v1 v2 v3 v4 v5 (fun r T => Q r T ∧ K8 S T) S := kx_X9_legTrouble_0 h (k8_rf S)
set_option maxRecDepth 20000 in
set_option maxHeartbeats 1000000 in
theorem kx_X9_face_23 {Q : Int64 → HS → Prop} {v0 : Nat} {v1 : Int32} {v2 : Int32} {v3 : Int32} {v4 : Int32} {v5 : Int32} {v6 : Int32} {v7 : Int32} {s0 : Int32} {S0 S : HS} (h : P_X9_face_23 Q v0 v1 v2 v3 v4 v5 v6 v7 s0 S) (K : K8 S0 S) : P_X9_face_23 (fun r T => Q r T ∧ K8 S0 T) v0 v1 v2 v3 v4 v5 v6 v7 s0 S := by
  delta P_X9_face_23 at h ⊢
  obtain ⟨c1, h⟩ := h
  refine ⟨c1, ?_⟩
  have n2 := k8_nk K c1 (by decide)
  refine cm_X9_refusedBy (kx_X9_refusedBy h) h (fun x3 x4 p7 h g5 g6 => ?_)
  have h := h g5 g6
  have K := k8_tr K p7.2
  refine ⟨?_, ?_⟩
  · intro c8
    have h := h.1 c8
    obtain ⟨b9, e10, h⟩ := h
    refine ⟨b9, e10, ?_⟩
    obtain ⟨b11, e12, h⟩ := h
    refine ⟨b11, e12, ?_⟩
    obtain ⟨c13, h⟩ := h
    refine ⟨c13, ?_⟩
    have n14 := k8_nk K c13 (by decide)
    have o15 := c13
    obtain ⟨b16, e17, h⟩ := h
    refine ⟨b16, e17, ?_⟩
    obtain ⟨c18, h⟩ := h
    refine ⟨c18, ?_⟩
    have n19 := k8_nk K c18 (by decide)
    obtain ⟨c20, h⟩ := h
    refine ⟨c20, ?_⟩
    obtain ⟨b21, e22, h⟩ := h
    refine ⟨b21, e22, ?_⟩
    obtain ⟨b23, e24, h⟩ := h
    refine ⟨b23, e24, ?_⟩
    obtain ⟨c25, h⟩ := h
    refine ⟨c25, ?_⟩
    have n26 := k8_nk K c25 (by decide)
    have o27 := c25
    obtain ⟨b28, e29, h⟩ := h
    refine ⟨b28, e29, ?_⟩
    obtain ⟨c30, h⟩ := h
    refine ⟨c30, ?_⟩
    have n31 := k8_nk K c30 (by decide)
    obtain ⟨c32, h⟩ := h
    refine ⟨c32, ?_⟩
    obtain ⟨b33, e34, h⟩ := h
    refine ⟨b33, e34, ?_⟩
    obtain ⟨b35, e36, h⟩ := h
    refine ⟨b35, e36, ?_⟩
    obtain ⟨c37, h⟩ := h
    refine ⟨c37, ?_⟩
    have n38 := k8_nk K c37 (by decide)
    have o39 := c37
    obtain ⟨b40, e41, h⟩ := h
    refine ⟨b40, e41, ?_⟩
    obtain ⟨c42, h⟩ := h
    refine ⟨c42, ?_⟩
    have n43 := k8_nk K c42 (by decide)
    obtain ⟨c44, h⟩ := h
    refine ⟨c44, ?_⟩
    obtain ⟨b45, e46, h⟩ := h
    refine ⟨b45, e46, ?_⟩
    obtain ⟨c47, h⟩ := h
    refine ⟨c47, ?_⟩
    have n48 := k8_nk K c47 (by decide)
    refine cm_X1_wetOf (kx_X1_wetOf h) h (fun x49 x50 p52 h g51 => ?_)
    have h := h g51
    have K := k8_tr K p52.2
    have o15 := gr_ob p52.2.1 o15
    have o27 := gr_ob p52.2.1 o27
    have o39 := gr_ob p52.2.1 o39
    obtain ⟨b53, e54, h⟩ := h
    refine ⟨b53, e54, ?_⟩
    obtain ⟨c55, h⟩ := h
    refine ⟨c55, ?_⟩
    have n56 := k8_nk K c55 (by decide)
    obtain ⟨b57, e58, h⟩ := h
    refine ⟨b57, e58, ?_⟩
    obtain ⟨c59, h⟩ := h
    refine ⟨c59, ?_⟩
    have n60 := k8_nk K c59 (by decide)
    obtain ⟨c61, h⟩ := h
    refine ⟨c61, ?_⟩
    intro x63 e62
    have h := h x63 e62
    refine cm_X9_fraction (kx_X9_fraction h) h (fun x64 x65 p67 h g66 => ?_)
    have h := h g66
    have K := k8_tr K p67.2
    have o15 := gr_ob p67.2.1 o15
    have o27 := gr_ob p67.2.1 o27
    have o39 := gr_ob p67.2.1 o39
    exact ⟨h, K⟩
  · intro c68
    have h := h.2 c68
    exact ⟨h, K⟩
set_option maxRecDepth 20000 in
set_option maxHeartbeats 1000000 in
theorem kx_X9_face_0 {Q : Int64 → HS → Prop} {v0 : Nat} {v1 : Int32} {v2 : Int32} {v3 : Int32} {v4 : Int32} {v5 : Int32} {v6 : Int32} {v7 : Int32} {S0 S : HS} (h : P_X9_face_0 Q v0 v1 v2 v3 v4 v5 v6 v7 S) (K : K8 S0 S) : P_X9_face_0 (fun r T => Q r T ∧ K8 S0 T) v0 v1 v2 v3 v4 v5 v6 v7 S := by
  delta P_X9_face_0 at h ⊢
  refine cm_X9_isFace (kx_X9_isFace h) h (fun x1 x2 p5 h g3 g4 => ?_)
  have h := h g3 g4
  have K := k8_tr K p5.2
  refine ⟨?_, ?_⟩
  · intro c6
    have h := h.1 c6
    exact kx_X9_face_23 h K
  · intro c7
    have h := h.2 c7
    obtain ⟨c8, h⟩ := h
    refine ⟨c8, ?_⟩
    have n9 := k8_nk K c8 (by decide)
    refine cm_X9_legTrouble (kx_X9_legTrouble h) h (fun x10 x11 p13 h g12 => ?_)
    have h := h g12
    have K := k8_tr K p13.2
    exact kx_X9_face_23 h K
theorem kx_X9_face {Q : Int64 → HS → Prop} {v0 : Nat} {v1 : Int32} {v2 : Int32} {v3 : Int32} {v4 : Int32} {v5 : Int32} {v6 : Int32} {v7 : Int32} {S : HS} (h : P_X9_face v0 v1 v2 v3 v4 v5 v6 v7 Q S) : P_X9_face v0 v1 v2 v3 v4 v5 v6 v7 (fun r T => Q r T ∧ K8 S T) S := kx_X9_face_0 h (k8_rf S)
set_option maxRecDepth 20000 in
set_option maxHeartbeats 1000000 in
theorem kx_X9_fault_0 {Q : Int32 → HS → Prop} {v0 : Nat} {S0 S : HS} (h : P_X9_fault_0 Q v0 S) (K : K8 S0 S) : P_X9_fault_0 (fun r T => Q r T ∧ K8 S0 T) v0 S := by
  delta P_X9_fault_0 at h ⊢
  obtain ⟨c1, h⟩ := h
  refine ⟨c1, ?_⟩
  have n2 := k8_nk K c1 (by decide)
  intro x4 e3
  have h := h x4 e3
  exact ⟨h, K⟩
theorem kx_X9_fault {Q : Int32 → HS → Prop} {v0 : Nat} {S : HS} (h : P_X9_fault v0 Q S) : P_X9_fault v0 (fun r T => Q r T ∧ K8 S T) S := kx_X9_fault_0 h (k8_rf S)
set_option maxRecDepth 20000 in
set_option maxHeartbeats 1000000 in
theorem kx_X9_putBytes_49 {Q : HS → Prop} {X3 X3_2 : Nat → Int32 → Int32 → HS → Prop} {v0 : Nat} {v1 : Int32} {v2 : Int32} {S0 S : HS} (h : P_X9_putBytes_49 Q X3 v0 v1 v2 S) (K : K8 S0 S) (hX3 : ∀ (u0 : Nat) (u1 : Int32) (u2 : Int32) (u3 : HS), X3 u0 u1 u2 u3 → K8 S0 u3 → X3_2 u0 u1 u2 u3) : P_X9_putBytes_49 (fun T => Q T ∧ K8 S0 T) X3_2 v0 v1 v2 S := by
  delta P_X9_putBytes_49 at h ⊢
  intro x2 e1
  have h := h x2 e1
  exact hX3 _ _ _ _ h K
set_option maxRecDepth 20000 in
set_option maxHeartbeats 1000000 in
theorem kxB_X9_putBytes_3 {Q : HS → Prop} {X3 X3_2 : Nat → Int32 → Int32 → HS → Prop} {v0 : Nat} {v1 : Int32} {v2 : Int32} {S0 S : HS} (h : B_X9_putBytes_3 Q X3 v0 v1 v2 S) (K : K8 S0 S) (hX3 : ∀ (u0 : Nat) (u1 : Int32) (u2 : Int32) (u3 : HS), X3 u0 u1 u2 u3 → K8 S0 u3 → X3_2 u0 u1 u2 u3) : B_X9_putBytes_3 (fun T => Q T ∧ K8 S0 T) X3_2 v0 v1 v2 S := by
  delta B_X9_putBytes_3 at h ⊢
  refine ⟨?_, ?_⟩
  · intro c1
    have h := h.1 c1
    exact ⟨h, K⟩
  · intro c2
    have h := h.2 c2
    obtain ⟨c3, h⟩ := h
    refine ⟨c3, ?_⟩
    have n4 := k8_nk K c3 (by decide)
    intro x6 e5
    have h := h x6 e5
    refine ⟨?_, ?_⟩
    · intro c7
      have h := h.1 c7
      exact kx_X9_putBytes_49 h K hX3
    · intro c8
      have h := h.2 c8
      intro x10 e9
      have h := h x10 e9
      obtain ⟨b11, e12, h⟩ := h
      refine ⟨b11, e12, ?_⟩
      obtain ⟨c13, h⟩ := h
      refine ⟨c13, ?_⟩
      have n14 := k8_nk K c13 (by decide)
      refine ⟨?_, ?_⟩
      · intro c15
        have h := h.1 c15
        exact kx_X9_putBytes_49 h K hX3
      · intro c16
        have h := h.2 c16
        obtain ⟨b17, e18, h⟩ := h
        refine ⟨b17, e18, ?_⟩
        intro x20 e19
        have h := h x20 e19
        obtain ⟨c21, h⟩ := h
        refine ⟨c21, ?_⟩
        have n22 := k8_nk K c21 (by decide)
        intro x24 e23
        have h := h x24 e23
        obtain ⟨c25, h⟩ := h
        refine ⟨c25, ?_⟩
        intro x27 e26
        have h := h x27 e26
        have K := k8_I K e26 n22
        intro x29 e28
        have h := h x29 e28
        intro x31 e30
        have h := h x31 e30
        intro x33 e32
        have h := h x33 e32
        have K := k8_I K e32 n4
        exact kx_X9_putBytes_49 h K hX3
theorem kx_X9_putBytes_3 {Q : HS → Prop} {v0 : Nat} {v1 : Int32} {v2 : Int32} {S0 S : HS} (h : P_X9_putBytes_3 Q v0 v1 v2 S) (K : K8 S0 S) : P_X9_putBytes_3 (fun T => Q T ∧ K8 S0 T) v0 v1 v2 S := h (fun v0 v1 v2 S => K8 S0 S → P_X9_putBytes_3 (fun T => Q T ∧ K8 S0 T) v0 v1 v2 S) (fun v0 v1 v2 S hB K => fd_X9_putBytes_3 (kxB_X9_putBytes_3 hB K (fun _ _ _ _ hx K => hx K))) K
set_option maxRecDepth 20000 in
set_option maxHeartbeats 1000000 in
theorem kx_X9_putBytes_0 {Q : HS → Prop} {v0 : Nat} {v1 : Int32} {S0 S : HS} (h : P_X9_putBytes_0 Q v0 v1 S) (K : K8 S0 S) : P_X9_putBytes_0 (fun T => Q T ∧ K8 S0 T) v0 v1 S := by
  delta P_X9_putBytes_0 at h ⊢
  exact kx_X9_putBytes_3 h K
theorem kx_X9_putBytes {Q : HS → Prop} {v0 : Nat} {v1 : Int32} {S : HS} (h : P_X9_putBytes v0 v1 Q S) : P_X9_putBytes v0 v1 (fun T => Q T ∧ K8 S T) S := kx_X9_putBytes_0 h (k8_rf S)
set_option maxRecDepth 20000 in
set_option maxHeartbeats 1000000 in
theorem kx_X9_feed_0 {Q : Int32 → HS → Prop} {v0 : Nat} {v1 : Int32} {v2 : Int32} {v3 : Int32} {v4 : Int32} {v5 : Int32} {S0 S : HS} (h : P_X9_feed_0 Q v0 v1 v2 v3 v4 v5 S) (K : K8 S0 S) : P_X9_feed_0 (fun r T => Q r T ∧ K8 S0 T) v0 v1 v2 v3 v4 v5 S := by
  delta P_X9_feed_0 at h ⊢
  obtain ⟨c1, h⟩ := h
  refine ⟨c1, ?_⟩
  have n2 := k8_nk K c1 (by decide)
  intro x4 e3
  have h := h x4 e3
  refine ⟨?_, ?_⟩
  · intro c5
    have h := h.1 c5
    refine cm_X9_putBytes (kx_X9_putBytes h) h (fun x6 p8 h g7 => ?_)
    have h := h g7
    have K := k8_tr K p8.2
    refine cm_X9_putBytes (kx_X9_putBytes h) h (fun x9 p11 h g10 => ?_)
    have h := h g10
    have K := k8_tr K p11.2
    refine cm_X9_putBytes (kx_X9_putBytes h) h (fun x12 p14 h g13 => ?_)
    have h := h g13
    have K := k8_tr K p14.2
    refine cm_X9_putBytes (kx_X9_putBytes h) h (fun x15 p17 h g16 => ?_)
    have h := h g16
    have K := k8_tr K p17.2
    refine cm_X9_putBytes (kx_X9_putBytes h) h (fun x18 p20 h g19 => ?_)
    have h := h g19
    have K := k8_tr K p20.2
    intro x22 e21
    have h := h x22 e21
    exact ⟨h, K⟩
  · intro c23
    have h := h.2 c23
    exact ⟨h, K⟩
theorem kx_X9_feed {Q : Int32 → HS → Prop} {v0 : Nat} {v1 : Int32} {v2 : Int32} {v3 : Int32} {v4 : Int32} {v5 : Int32} {S : HS} (h : P_X9_feed v0 v1 v2 v3 v4 v5 Q S) : P_X9_feed v0 v1 v2 v3 v4 v5 (fun r T => Q r T ∧ K8 S T) S := kx_X9_feed_0 h (k8_rf S)
set_option maxRecDepth 20000 in
set_option maxHeartbeats 1000000 in
theorem kx_X9_leeTrouble_0 {Q : Int32 → HS → Prop} {v0 : Nat} {v1 : Int32} {v2 : Int32} {v3 : Int32} {v4 : Int32} {v5 : Int32} {v6 : Int32} {S0 S : HS} (h : P_X9_leeTrouble_0 Q v0 v1 v2 v3 v4 v5 v6 S) (K : K8 S0 S) : P_X9_leeTrouble_0 (fun r T => Q r T ∧ K8 S0 T) v0 v1 v2 v3 v4 v5 v6 S := by
  delta P_X9_leeTrouble_0 at h ⊢
  refine ⟨?_, ?_⟩
  · intro c1
    have h := h.1 c1
    exact ⟨h, K⟩
  · intro c2
    have h := h.2 c2
    obtain ⟨c3, h⟩ := h
    refine ⟨c3, ?_⟩
    have n4 := k8_nk K c3 (by decide)
    obtain ⟨b5, e6, h⟩ := h
    refine ⟨b5, e6, ?_⟩
    obtain ⟨c7, h⟩ := h
    refine ⟨c7, ?_⟩
    have n8 := k8_nk K c7 (by decide)
    have o9 := c7
    refine cm_X8_hasWalker (kx_X8_hasWalker h) h (fun x10 x11 p14 h g12 g13 => ?_)
    have h := h g12 g13
    have K := k8_tr K p14.2
    have o9 := gr_ob p14.2.1 o9
    refine ⟨?_, ?_⟩
    · intro c15
      have h := h.1 c15
      exact ⟨h, K⟩
    · intro c16
      have h := h.2 c16
      obtain ⟨b17, e18, h⟩ := h
      refine ⟨b17, e18, ?_⟩
      obtain ⟨c19, h⟩ := h
      refine ⟨c19, ?_⟩
      have n20 := k8_nk K c19 (by decide)
      have o21 := c19
      refine cm_X8_hasWalker (kx_X8_hasWalker h) h (fun x22 x23 p26 h g24 g25 => ?_)
      have h := h g24 g25
      have K := k8_tr K p26.2
      have o9 := gr_ob p26.2.1 o9
      have o21 := gr_ob p26.2.1 o21
      refine ⟨?_, ?_⟩
      · intro c27
        have h := h.1 c27
        refine cm_X9_legTrouble (kx_X9_legTrouble h) h (fun x28 x29 p31 h g30 => ?_)
        have h := h g30
        have K := k8_tr K p31.2
        have o9 := gr_ob p31.2.1 o9
        have o21 := gr_ob p31.2.1 o21
        refine ⟨?_, ?_⟩
        · intro c32
          have h := h.1 c32
          obtain ⟨b33, e34, h⟩ := h
          refine ⟨b33, e34, ?_⟩
          obtain ⟨c35, h⟩ := h
          refine ⟨c35, ?_⟩
          have n36 := k8_nk K c35 (by decide)
          have o37 := c35
          obtain ⟨b38, e39, h⟩ := h
          refine ⟨b38, e39, ?_⟩
          obtain ⟨c40, h⟩ := h
          refine ⟨c40, ?_⟩
          have n41 := k8_nk K c40 (by decide)
          obtain ⟨c42, h⟩ := h
          refine ⟨c42, ?_⟩
          obtain ⟨b43, e44, h⟩ := h
          refine ⟨b43, e44, ?_⟩
          obtain ⟨c45, h⟩ := h
          refine ⟨c45, ?_⟩
          have n46 := k8_nk K c45 (by decide)
          refine cm_X6_canGo (kx_X6_canGo h) h (fun x47 x48 p51 h g49 g50 => ?_)
          have h := h g49 g50
          have K := k8_tr K p51.2
          have o9 := gr_ob p51.2.1 o9
          have o21 := gr_ob p51.2.1 o21
          have o37 := gr_ob p51.2.1 o37
          refine ⟨?_, ?_⟩
          · intro c52
            have h := h.1 c52
            exact ⟨h, K⟩
          · intro c53
            have h := h.2 c53
            exact ⟨h, K⟩
        · intro c54
          have h := h.2 c54
          exact ⟨h, K⟩
      · intro c55
        have h := h.2 c55
        exact ⟨h, K⟩
theorem kx_X9_leeTrouble {Q : Int32 → HS → Prop} {v0 : Nat} {v1 : Int32} {v2 : Int32} {v3 : Int32} {v4 : Int32} {v5 : Int32} {v6 : Int32} {S : HS} (h : P_X9_leeTrouble v0 v1 v2 v3 v4 v5 v6 Q S) : P_X9_leeTrouble v0 v1 v2 v3 v4 v5 v6 (fun r T => Q r T ∧ K8 S T) S := kx_X9_leeTrouble_0 h (k8_rf S)
set_option maxRecDepth 20000 in
set_option maxHeartbeats 1000000 in
theorem kx_X9_first_0 {Q : Int32 → HS → Prop} {v0 : Nat} {v1 : Int32} {v2 : Int32} {v3 : Int32} {v4 : Int32} {v5 : Int32} {v6 : Int32} {S0 S : HS} (h : P_X9_first_0 Q v0 v1 v2 v3 v4 v5 v6 S) (K : K8 S0 S) : P_X9_first_0 (fun r T => Q r T ∧ K8 S0 T) v0 v1 v2 v3 v4 v5 v6 S := by
  delta P_X9_first_0 at h ⊢
  obtain ⟨c1, h⟩ := h
  refine ⟨c1, ?_⟩
  have n2 := k8_nk K c1 (by decide)
  refine cm_X9_leeTrouble (kx_X9_leeTrouble h) h (fun x3 x4 p6 h g5 => ?_)
  have h := h g5
  have K := k8_tr K p6.2
  refine cm_X9_refusedBy (kx_X9_refusedBy h) h (fun x7 x8 p11 h g9 g10 => ?_)
  have h := h g9 g10
  have K := k8_tr K p11.2
  refine ⟨?_, ?_⟩
  · intro c12
    have h := h.1 c12
    obtain ⟨b13, e14, h⟩ := h
    refine ⟨b13, e14, ?_⟩
    obtain ⟨b15, e16, h⟩ := h
    refine ⟨b15, e16, ?_⟩
    obtain ⟨c17, h⟩ := h
    refine ⟨c17, ?_⟩
    have n18 := k8_nk K c17 (by decide)
    have o19 := c17
    obtain ⟨b20, e21, h⟩ := h
    refine ⟨b20, e21, ?_⟩
    obtain ⟨c22, h⟩ := h
    refine ⟨c22, ?_⟩
    have n23 := k8_nk K c22 (by decide)
    obtain ⟨c24, h⟩ := h
    refine ⟨c24, ?_⟩
    obtain ⟨b25, e26, h⟩ := h
    refine ⟨b25, e26, ?_⟩
    obtain ⟨b27, e28, h⟩ := h
    refine ⟨b27, e28, ?_⟩
    obtain ⟨c29, h⟩ := h
    refine ⟨c29, ?_⟩
    have n30 := k8_nk K c29 (by decide)
    have o31 := c29
    obtain ⟨b32, e33, h⟩ := h
    refine ⟨b32, e33, ?_⟩
    obtain ⟨c34, h⟩ := h
    refine ⟨c34, ?_⟩
    have n35 := k8_nk K c34 (by decide)
    obtain ⟨c36, h⟩ := h
    refine ⟨c36, ?_⟩
    obtain ⟨b37, e38, h⟩ := h
    refine ⟨b37, e38, ?_⟩
    obtain ⟨c39, h⟩ := h
    refine ⟨c39, ?_⟩
    have n40 := k8_nk K c39 (by decide)
    refine cm_X1_lay (kx_X1_lay h) h (fun x41 p43 h g42 => ?_)
    have h := h g42
    have K := k8_tr K p43.2
    have o19 := gr_ob p43.2.1 o19
    have o31 := gr_ob p43.2.1 o31
    obtain ⟨b44, e45, h⟩ := h
    refine ⟨b44, e45, ?_⟩
    obtain ⟨b46, e47, h⟩ := h
    refine ⟨b46, e47, ?_⟩
    obtain ⟨c48, h⟩ := h
    refine ⟨c48, ?_⟩
    have n49 := k8_nk K c48 (by decide)
    have o50 := c48
    obtain ⟨b51, e52, h⟩ := h
    refine ⟨b51, e52, ?_⟩
    obtain ⟨c53, h⟩ := h
    refine ⟨c53, ?_⟩
    have n54 := k8_nk K c53 (by decide)
    obtain ⟨c55, h⟩ := h
    refine ⟨c55, ?_⟩
    obtain ⟨b56, e57, h⟩ := h
    refine ⟨b56, e57, ?_⟩
    obtain ⟨b58, e59, h⟩ := h
    refine ⟨b58, e59, ?_⟩
    obtain ⟨c60, h⟩ := h
    refine ⟨c60, ?_⟩
    have n61 := k8_nk K c60 (by decide)
    have o62 := c60
    obtain ⟨b63, e64, h⟩ := h
    refine ⟨b63, e64, ?_⟩
    obtain ⟨c65, h⟩ := h
    refine ⟨c65, ?_⟩
    have n66 := k8_nk K c65 (by decide)
    obtain ⟨c67, h⟩ := h
    refine ⟨c67, ?_⟩
    obtain ⟨b68, e69, h⟩ := h
    refine ⟨b68, e69, ?_⟩
    obtain ⟨c70, h⟩ := h
    refine ⟨c70, ?_⟩
    have n71 := k8_nk K c70 (by decide)
    refine cm_X1_wetInLee (kx_X1_wetInLee h) h (fun x72 x73 p75 h g74 => ?_)
    have h := h g74
    have K := k8_tr K p75.2
    have o19 := gr_ob p75.2.1 o19
    have o31 := gr_ob p75.2.1 o31
    have o50 := gr_ob p75.2.1 o50
    have o62 := gr_ob p75.2.1 o62
    obtain ⟨b76, e77, h⟩ := h
    refine ⟨b76, e77, ?_⟩
    obtain ⟨b78, e79, h⟩ := h
    refine ⟨b78, e79, ?_⟩
    obtain ⟨c80, h⟩ := h
    refine ⟨c80, ?_⟩
    have n81 := k8_nk K c80 (by decide)
    have o82 := c80
    obtain ⟨b83, e84, h⟩ := h
    refine ⟨b83, e84, ?_⟩
    obtain ⟨c85, h⟩ := h
    refine ⟨c85, ?_⟩
    have n86 := k8_nk K c85 (by decide)
    obtain ⟨c87, h⟩ := h
    refine ⟨c87, ?_⟩
    obtain ⟨b88, e89, h⟩ := h
    refine ⟨b88, e89, ?_⟩
    obtain ⟨b90, e91, h⟩ := h
    refine ⟨b90, e91, ?_⟩
    obtain ⟨c92, h⟩ := h
    refine ⟨c92, ?_⟩
    have n93 := k8_nk K c92 (by decide)
    have o94 := c92
    obtain ⟨b95, e96, h⟩ := h
    refine ⟨b95, e96, ?_⟩
    obtain ⟨c97, h⟩ := h
    refine ⟨c97, ?_⟩
    have n98 := k8_nk K c97 (by decide)
    obtain ⟨c99, h⟩ := h
    refine ⟨c99, ?_⟩
    obtain ⟨b100, e101, h⟩ := h
    refine ⟨b100, e101, ?_⟩
    obtain ⟨c102, h⟩ := h
    refine ⟨c102, ?_⟩
    have n103 := k8_nk K c102 (by decide)
    refine cm_X1_wetInLee (kx_X1_wetInLee h) h (fun x104 x105 p107 h g106 => ?_)
    have h := h g106
    have K := k8_tr K p107.2
    have o19 := gr_ob p107.2.1 o19
    have o31 := gr_ob p107.2.1 o31
    have o50 := gr_ob p107.2.1 o50
    have o62 := gr_ob p107.2.1 o62
    have o82 := gr_ob p107.2.1 o82
    have o94 := gr_ob p107.2.1 o94
    refine ⟨?_, ?_⟩
    · intro c108
      have h := h.1 c108
      refine ⟨?_, ?_⟩
      · intro c109
        have h := h.1 c109
        exact ⟨h, K⟩
      · intro c110
        have h := h.2 c110
        exact ⟨h, K⟩
    · intro c111
      have h := h.2 c111
      exact ⟨h, K⟩
  · intro c112
    have h := h.2 c112
    exact ⟨h, K⟩
theorem kx_X9_first {Q : Int32 → HS → Prop} {v0 : Nat} {v1 : Int32} {v2 : Int32} {v3 : Int32} {v4 : Int32} {v5 : Int32} {v6 : Int32} {S : HS} (h : P_X9_first v0 v1 v2 v3 v4 v5 v6 Q S) : P_X9_first v0 v1 v2 v3 v4 v5 v6 (fun r T => Q r T ∧ K8 S T) S := kx_X9_first_0 h (k8_rf S)
set_option maxRecDepth 20000 in
set_option maxHeartbeats 1000000 in
theorem kx_X9_fit_15 {Q : Int32 → HS → Prop} {v0 : Nat} {S0 S : HS} (h : P_X9_fit_15 Q v0 S) (K : K8 S0 S) : P_X9_fit_15 (fun r T => Q r T ∧ K8 S0 T) v0 S := by
  delta P_X9_fit_15 at h ⊢
  obtain ⟨c1, h⟩ := h
  refine ⟨c1, ?_⟩
  have n2 := k8_nk K c1 (by decide)
  refine cm_X9_refuse (kx_X9_refuse h) h (fun x3 x4 p6 h g5 => ?_)
  have h := h g5
  have K := k8_tr K p6.2
  exact ⟨h, K⟩
set_option maxRecDepth 20000 in
set_option maxHeartbeats 1000000 in
theorem kx_X9_fit_0 {Q : Int32 → HS → Prop} {v0 : Nat} {v1 : Int32} {v2 : Int32} {S0 S : HS} (h : P_X9_fit_0 Q v0 v1 v2 S) (K : K8 S0 S) : P_X9_fit_0 (fun r T => Q r T ∧ K8 S0 T) v0 v1 v2 S := by
  delta P_X9_fit_0 at h ⊢
  obtain ⟨c1, h⟩ := h
  refine ⟨c1, ?_⟩
  have n2 := k8_nk K c1 (by decide)
  obtain ⟨b3, e4, h⟩ := h
  refine ⟨b3, e4, ?_⟩
  obtain ⟨c5, h⟩ := h
  refine ⟨c5, ?_⟩
  have n6 := k8_nk K c5 (by decide)
  have o7 := c5
  refine cm_X8_hasSeen (kx_X8_hasSeen h) h (fun x8 x9 p12 h g10 g11 => ?_)
  have h := h g10 g11
  have K := k8_tr K p12.2
  have o7 := gr_ob p12.2.1 o7
  refine ⟨?_, ?_⟩
  · intro c13
    have h := h.1 c13
    exact kx_X9_fit_15 h K
  · intro c14
    have h := h.2 c14
    refine ⟨?_, ?_⟩
    · intro c15
      have h := h.1 c15
      obtain ⟨b16, e17, h⟩ := h
      refine ⟨b16, e17, ?_⟩
      obtain ⟨b18, e19, h⟩ := h
      refine ⟨b18, e19, ?_⟩
      obtain ⟨c20, h⟩ := h
      refine ⟨c20, ?_⟩
      have n21 := k8_nk K c20 (by decide)
      refine cm_X1_findFit (kx_X1_findFit h) h (fun x22 x23 p25 h g24 => ?_)
      have h := h g24
      have K := k8_tr K p25.2
      have o7 := gr_ob p25.2.1 o7
      refine ⟨?_, ?_⟩
      · intro c26
        have h := h.1 c26
        refine cm_X9_grant (kx_X9_grant h) h (fun x27 x28 p30 h g29 => ?_)
        have h := h g29
        have K := k8_tr K p30.2
        have o7 := gr_ob p30.2.1 o7
        exact ⟨h, K⟩
      · intro c31
        have h := h.2 c31
        refine cm_X9_refuse (kx_X9_refuse h) h (fun x32 x33 p35 h g34 => ?_)
        have h := h g34
        have K := k8_tr K p35.2
        have o7 := gr_ob p35.2.1 o7
        exact ⟨h, K⟩
    · intro c36
      have h := h.2 c36
      exact kx_X9_fit_15 h K
theorem kx_X9_fit {Q : Int32 → HS → Prop} {v0 : Nat} {v1 : Int32} {v2 : Int32} {S : HS} (h : P_X9_fit v0 v1 v2 Q S) : P_X9_fit v0 v1 v2 (fun r T => Q r T ∧ K8 S T) S := kx_X9_fit_0 h (k8_rf S)
set_option maxRecDepth 20000 in
set_option maxHeartbeats 1000000 in
theorem kx_X9_fits_0 {Q : Int32 → HS → Prop} {v0 : Nat} {v1 : Int32} {S0 S : HS} (h : P_X9_fits_0 Q v0 v1 S) (K : K8 S0 S) : P_X9_fits_0 (fun r T => Q r T ∧ K8 S0 T) v0 v1 S := by
  delta P_X9_fits_0 at h ⊢
  obtain ⟨c1, h⟩ := h
  refine ⟨c1, ?_⟩
  have n2 := k8_nk K c1 (by decide)
  obtain ⟨b3, e4, h⟩ := h
  refine ⟨b3, e4, ?_⟩
  obtain ⟨c5, h⟩ := h
  refine ⟨c5, ?_⟩
  have n6 := k8_nk K c5 (by decide)
  have o7 := c5
  refine cm_X8_hasSeen (kx_X8_hasSeen h) h (fun x8 x9 p12 h g10 g11 => ?_)
  have h := h g10 g11
  have K := k8_tr K p12.2
  have o7 := gr_ob p12.2.1 o7
  refine ⟨?_, ?_⟩
  · intro c13
    have h := h.1 c13
    obtain ⟨b14, e15, h⟩ := h
    refine ⟨b14, e15, ?_⟩
    obtain ⟨b16, e17, h⟩ := h
    refine ⟨b16, e17, ?_⟩
    obtain ⟨c18, h⟩ := h
    refine ⟨c18, ?_⟩
    have n19 := k8_nk K c18 (by decide)
    refine cm_X1_countFits (kx_X1_countFits h) h (fun x20 x21 p23 h g22 => ?_)
    have h := h g22
    have K := k8_tr K p23.2
    have o7 := gr_ob p23.2.1 o7
    refine cm_X9_grant (kx_X9_grant h) h (fun x24 x25 p27 h g26 => ?_)
    have h := h g26
    have K := k8_tr K p27.2
    have o7 := gr_ob p27.2.1 o7
    exact ⟨h, K⟩
  · intro c28
    have h := h.2 c28
    refine cm_X9_refuse (kx_X9_refuse h) h (fun x29 x30 p32 h g31 => ?_)
    have h := h g31
    have K := k8_tr K p32.2
    have o7 := gr_ob p32.2.1 o7
    exact ⟨h, K⟩
theorem kx_X9_fits {Q : Int32 → HS → Prop} {v0 : Nat} {v1 : Int32} {S : HS} (h : P_X9_fits v0 v1 Q S) : P_X9_fits v0 v1 (fun r T => Q r T ∧ K8 S T) S := kx_X9_fits_0 h (k8_rf S)
set_option maxRecDepth 20000 in
set_option maxHeartbeats 1000000 in
theorem kx_X9_go_45 {Q : Int32 → HS → Prop} {v0 : Nat} {S0 S : HS} (h : P_X9_go_45 Q v0 S) (K : K8 S0 S) : P_X9_go_45 (fun r T => Q r T ∧ K8 S0 T) v0 S := by
  delta P_X9_go_45 at h ⊢
  obtain ⟨c1, h⟩ := h
  refine ⟨c1, ?_⟩
  have n2 := k8_nk K c1 (by decide)
  refine cm_X9_refuse (kx_X9_refuse h) h (fun x3 x4 p6 h g5 => ?_)
  have h := h g5
  have K := k8_tr K p6.2
  exact ⟨h, K⟩
set_option maxRecDepth 20000 in
set_option maxHeartbeats 1000000 in
theorem kx_X9_go_243 {Q : Int32 → HS → Prop} {v0 : Nat} {v2 : Int32} {v5 : Nat} {v6 : Int32} {S0 S : HS} (h : P_X9_go_243 Q v0 v2 v5 v6 S) (K : K8 S0 S) : P_X9_go_243 (fun r T => Q r T ∧ K8 S0 T) v0 v2 v5 v6 S := by
  delta P_X9_go_243 at h ⊢
  obtain ⟨c1, h⟩ := h
  refine ⟨c1, ?_⟩
  have n2 := k8_nk K c1 (by decide)
  obtain ⟨b3, e4, h⟩ := h
  refine ⟨b3, e4, ?_⟩
  obtain ⟨c5, h⟩ := h
  refine ⟨c5, ?_⟩
  have n6 := k8_nk K c5 (by decide)
  obtain ⟨b7, e8, h⟩ := h
  refine ⟨b7, e8, ?_⟩
  obtain ⟨c9, h⟩ := h
  refine ⟨c9, ?_⟩
  have n10 := k8_nk K c9 (by decide)
  refine cm_X5_endOf (kx_X5_endOf h) h (fun x11 x12 p14 h g13 => ?_)
  have h := h g13
  have K := k8_tr K p14.2
  obtain ⟨c15, h⟩ := h
  refine ⟨c15, ?_⟩
  have n16 := k8_nk K c15 (by decide)
  intro x18 e17
  have h := h x18 e17
  have K := k8_I K e17 n16
  obtain ⟨b19, e20, h⟩ := h
  refine ⟨b19, e20, ?_⟩
  obtain ⟨c21, h⟩ := h
  refine ⟨c21, ?_⟩
  have n22 := k8_nk K c21 (by decide)
  obtain ⟨b23, e24, h⟩ := h
  refine ⟨b23, e24, ?_⟩
  obtain ⟨c25, h⟩ := h
  refine ⟨c25, ?_⟩
  have n26 := k8_nk K c25 (by decide)
  intro x28 e27
  have h := h x28 e27
  have K := k8_I K e27 n26
  refine cm_X9_grant (kx_X9_grant h) h (fun x29 x30 p32 h g31 => ?_)
  have h := h g31
  have K := k8_tr K p32.2
  exact ⟨h, K⟩
set_option maxRecDepth 20000 in
set_option maxHeartbeats 1000000 in
theorem kx_X9_go_0 {Q : Int32 → HS → Prop} {v0 : Nat} {v1 : Int32} {v2 : Int32} {v3 : Int32} {S0 S : HS} (h : P_X9_go_0 Q v0 v1 v2 v3 S) (K : K8 S0 S) : P_X9_go_0 (fun r T => Q r T ∧ K8 S0 T) v0 v1 v2 v3 S := by
  delta P_X9_go_0 at h ⊢
  obtain ⟨c1, h⟩ := h
  refine ⟨c1, ?_⟩
  have n2 := k8_nk K c1 (by decide)
  obtain ⟨b3, e4, h⟩ := h
  refine ⟨b3, e4, ?_⟩
  obtain ⟨c5, h⟩ := h
  refine ⟨c5, ?_⟩
  have n6 := k8_nk K c5 (by decide)
  refine cm_X0_isOn (kx_X0_isOn h) h (fun x7 x8 p11 h g9 g10 => ?_)
  have h := h g9 g10
  have K := k8_tr K p11.2
  refine ⟨?_, ?_⟩
  · intro c12
    have h := h.1 c12
    exact kx_X9_go_45 h K
  · intro c13
    have h := h.2 c13
    obtain ⟨b14, e15, h⟩ := h
    refine ⟨b14, e15, ?_⟩
    obtain ⟨b16, e17, h⟩ := h
    refine ⟨b16, e17, ?_⟩
    obtain ⟨c18, h⟩ := h
    refine ⟨c18, ?_⟩
    have n19 := k8_nk K c18 (by decide)
    intro x21 e20
    have h := h x21 e20
    obtain ⟨c22, h⟩ := h
    refine ⟨c22, ?_⟩
    have n23 := k8_nk K c22 (by decide)
    have o24 := c22
    refine cm_X8_hasWalker (kx_X8_hasWalker h) h (fun x25 x26 p29 h g27 g28 => ?_)
    have h := h g27 g28
    have K := k8_tr K p29.2
    have o24 := gr_ob p29.2.1 o24
    refine ⟨?_, ?_⟩
    · intro c30
      have h := h.1 c30
      exact kx_X9_go_45 h K
    · intro c31
      have h := h.2 c31
      obtain ⟨b32, e33, h⟩ := h
      refine ⟨b32, e33, ?_⟩
      obtain ⟨c34, h⟩ := h
      refine ⟨c34, ?_⟩
      have n35 := k8_nk K c34 (by decide)
      have o36 := c34
      refine cm_X8_hasRoad (kx_X8_hasRoad h) h (fun x37 x38 p41 h g39 g40 => ?_)
      have h := h g39 g40
      have K := k8_tr K p41.2
      have o24 := gr_ob p41.2.1 o24
      have o36 := gr_ob p41.2.1 o36
      refine ⟨?_, ?_⟩
      · intro c42
        have h := h.1 c42
        exact kx_X9_go_45 h K
      · intro c43
        have h := h.2 c43
        refine cm_X9_isWay (kx_X9_isWay h) h (fun x44 x45 p48 h g46 g47 => ?_)
        have h := h g46 g47
        have K := k8_tr K p48.2
        have o24 := gr_ob p48.2.1 o24
        have o36 := gr_ob p48.2.1 o36
        refine ⟨?_, ?_⟩
        · intro c49
          have h := h.1 c49
          obtain ⟨b50, e51, h⟩ := h
          refine ⟨b50, e51, ?_⟩
          obtain ⟨c52, h⟩ := h
          refine ⟨c52, ?_⟩
          have n53 := k8_nk K c52 (by decide)
          have o54 := c52
          obtain ⟨b55, e56, h⟩ := h
          refine ⟨b55, e56, ?_⟩
          obtain ⟨b57, e58, h⟩ := h
          refine ⟨b57, e58, ?_⟩
          obtain ⟨c59, h⟩ := h
          refine ⟨c59, ?_⟩
          have n60 := k8_nk K c59 (by decide)
          intro x62 e61
          have h := h x62 e61
          obtain ⟨c63, h⟩ := h
          refine ⟨c63, ?_⟩
          have n64 := k8_nk K c63 (by decide)
          obtain ⟨c65, h⟩ := h
          refine ⟨c65, ?_⟩
          obtain ⟨b66, e67, h⟩ := h
          refine ⟨b66, e67, ?_⟩
          obtain ⟨b68, e69, h⟩ := h
          refine ⟨b68, e69, ?_⟩
          obtain ⟨c70, h⟩ := h
          refine ⟨c70, ?_⟩
          have n71 := k8_nk K c70 (by decide)
          have o72 := c70
          obtain ⟨b73, e74, h⟩ := h
          refine ⟨b73, e74, ?_⟩
          obtain ⟨c75, h⟩ := h
          refine ⟨c75, ?_⟩
          have n76 := k8_nk K c75 (by decide)
          obtain ⟨c77, h⟩ := h
          refine ⟨c77, ?_⟩
          obtain ⟨b78, e79, h⟩ := h
          refine ⟨b78, e79, ?_⟩
          obtain ⟨c80, h⟩ := h
          refine ⟨c80, ?_⟩
          have n81 := k8_nk K c80 (by decide)
          refine cm_X6_canGo (kx_X6_canGo h) h (fun x82 x83 p86 h g84 g85 => ?_)
          have h := h g84 g85
          have K := k8_tr K p86.2
          have o24 := gr_ob p86.2.1 o24
          have o36 := gr_ob p86.2.1 o36
          have o54 := gr_ob p86.2.1 o54
          have o72 := gr_ob p86.2.1 o72
          refine ⟨?_, ?_⟩
          · intro c87
            have h := h.1 c87
            obtain ⟨c88, h⟩ := h
            refine ⟨c88, ?_⟩
            have n89 := k8_nk K c88 (by decide)
            refine cm_X5_startOf (kx_X5_startOf h) h (fun x90 x91 p93 h g92 => ?_)
            have h := h g92
            have K := k8_tr K p93.2
            have o24 := gr_ob p93.2.1 o24
            have o36 := gr_ob p93.2.1 o36
            have o54 := gr_ob p93.2.1 o54
            have o72 := gr_ob p93.2.1 o72
            obtain ⟨b94, e95, h⟩ := h
            refine ⟨b94, e95, ?_⟩
            obtain ⟨c96, h⟩ := h
            refine ⟨c96, ?_⟩
            have n97 := k8_nk K c96 (by decide)
            obtain ⟨b98, e99, h⟩ := h
            refine ⟨b98, e99, ?_⟩
            obtain ⟨c100, h⟩ := h
            refine ⟨c100, ?_⟩
            have n101 := k8_nk K c100 (by decide)
            intro x103 e102
            have h := h x103 e102
            refine ⟨?_, ?_⟩
            · intro c104
              have h := h.1 c104
              obtain ⟨b105, e106, h⟩ := h
              refine ⟨b105, e106, ?_⟩
              obtain ⟨c107, h⟩ := h
              refine ⟨c107, ?_⟩
              have n108 := k8_nk K c107 (by decide)
              obtain ⟨b109, e110, h⟩ := h
              refine ⟨b109, e110, ?_⟩
              obtain ⟨c111, h⟩ := h
              refine ⟨c111, ?_⟩
              have n112 := k8_nk K c111 (by decide)
              intro x114 e113
              have h := h x114 e113
              refine cm_X5_minutesAt (kx_X5_minutesAt h) h (fun x115 x116 p118 h g117 => ?_)
              have h := h g117
              have K := k8_tr K p118.2
              have o24 := gr_ob p118.2.1 o24
              have o36 := gr_ob p118.2.1 o36
              have o54 := gr_ob p118.2.1 o54
              have o72 := gr_ob p118.2.1 o72
              intro x120 e119
              have h := h x120 e119
              refine ⟨?_, ?_⟩
              · intro c121
                have h := h.1 c121
                obtain ⟨b122, e123, h⟩ := h
                refine ⟨b122, e123, ?_⟩
                obtain ⟨c124, h⟩ := h
                refine ⟨c124, ?_⟩
                have n125 := k8_nk K c124 (by decide)
                refine cm_X0_keepForUndo (kx_X0_keepForUndo h) h (fun x126 p128 h g127 => ?_)
                have h := h g127
                have K := k8_tr K p128.2
                have o24 := gr_ob p128.2.1 o24
                have o36 := gr_ob p128.2.1 o36
                have o54 := gr_ob p128.2.1 o54
                have o72 := gr_ob p128.2.1 o72
                obtain ⟨b129, e130, h⟩ := h
                refine ⟨b129, e130, ?_⟩
                obtain ⟨b131, e132, h⟩ := h
                refine ⟨b131, e132, ?_⟩
                obtain ⟨c133, h⟩ := h
                refine ⟨c133, ?_⟩
                have n134 := k8_nk K c133 (by decide)
                obtain ⟨b135, e136, h⟩ := h
                refine ⟨b135, e136, ?_⟩
                obtain ⟨c137, h⟩ := h
                refine ⟨c137, ?_⟩
                have n138 := k8_nk K c137 (by decide)
                intro x140 e139
                have h := h x140 e139
                obtain ⟨c141, h⟩ := h
                refine ⟨c141, ?_⟩
                have n142 := k8_nk K c141 (by decide)
                have o143 := c141
                refine cm_X8_hourOf (kx_X8_hourOf h) h (fun x144 x145 p147 h g146 => ?_)
                have h := h g146
                have K := k8_tr K p147.2
                have o24 := gr_ob p147.2.1 o24
                have o36 := gr_ob p147.2.1 o36
                have o54 := gr_ob p147.2.1 o54
                have o72 := gr_ob p147.2.1 o72
                have o143 := gr_ob p147.2.1 o143
                obtain ⟨b148, e149, h⟩ := h
                refine ⟨b148, e149, ?_⟩
                obtain ⟨c150, h⟩ := h
                refine ⟨c150, ?_⟩
                have n151 := k8_nk K c150 (by decide)
                have o152 := c150
                refine cm_X8_hasHour (kx_X8_hasHour h) h (fun x153 x154 p157 h g155 g156 => ?_)
                have h := h g155 g156
                have K := k8_tr K p157.2
                have o24 := gr_ob p157.2.1 o24
                have o36 := gr_ob p157.2.1 o36
                have o54 := gr_ob p157.2.1 o54
                have o72 := gr_ob p157.2.1 o72
                have o143 := gr_ob p157.2.1 o143
                have o152 := gr_ob p157.2.1 o152
                refine ⟨?_, ?_⟩
                · intro c158
                  have h := h.1 c158
                  exact kx_X9_go_243 h K
                · intro c159
                  have h := h.2 c159
                  obtain ⟨b160, e161, h⟩ := h
                  refine ⟨b160, e161, ?_⟩
                  obtain ⟨c162, h⟩ := h
                  refine ⟨c162, ?_⟩
                  have n163 := k8_nk K c162 (by decide)
                  refine cm_X0_rainsIn (kx_X0_rainsIn h) h (fun x164 x165 p168 h g166 g167 => ?_)
                  have h := h g166 g167
                  have K := k8_tr K p168.2
                  have o24 := gr_ob p168.2.1 o24
                  have o36 := gr_ob p168.2.1 o36
                  have o54 := gr_ob p168.2.1 o54
                  have o72 := gr_ob p168.2.1 o72
                  have o143 := gr_ob p168.2.1 o143
                  have o152 := gr_ob p168.2.1 o152
                  refine ⟨?_, ?_⟩
                  · intro c169
                    have h := h.1 c169
                    exact kx_X9_go_243 h K
                  · intro c170
                    have h := h.2 c170
                    obtain ⟨b171, e172, h⟩ := h
                    refine ⟨b171, e172, ?_⟩
                    obtain ⟨b173, e174, h⟩ := h
                    refine ⟨b173, e174, ?_⟩
                    obtain ⟨c175, h⟩ := h
                    refine ⟨c175, ?_⟩
                    have n176 := k8_nk K c175 (by decide)
                    have o177 := c175
                    obtain ⟨b178, e179, h⟩ := h
                    refine ⟨b178, e179, ?_⟩
                    obtain ⟨c180, h⟩ := h
                    refine ⟨c180, ?_⟩
                    have n181 := k8_nk K c180 (by decide)
                    obtain ⟨c182, h⟩ := h
                    refine ⟨c182, ?_⟩
                    obtain ⟨b183, e184, h⟩ := h
                    refine ⟨b183, e184, ?_⟩
                    obtain ⟨c185, h⟩ := h
                    refine ⟨c185, ?_⟩
                    have n186 := k8_nk K c185 (by decide)
                    refine cm_X1_wetOf (kx_X1_wetOf h) h (fun x187 x188 p190 h g189 => ?_)
                    have h := h g189
                    have K := k8_tr K p190.2
                    have o24 := gr_ob p190.2.1 o24
                    have o36 := gr_ob p190.2.1 o36
                    have o54 := gr_ob p190.2.1 o54
                    have o72 := gr_ob p190.2.1 o72
                    have o143 := gr_ob p190.2.1 o143
                    have o152 := gr_ob p190.2.1 o152
                    have o177 := gr_ob p190.2.1 o177
                    obtain ⟨b191, e192, h⟩ := h
                    refine ⟨b191, e192, ?_⟩
                    obtain ⟨c193, h⟩ := h
                    refine ⟨c193, ?_⟩
                    have n194 := k8_nk K c193 (by decide)
                    obtain ⟨b195, e196, h⟩ := h
                    refine ⟨b195, e196, ?_⟩
                    obtain ⟨b197, e198, h⟩ := h
                    refine ⟨b197, e198, ?_⟩
                    obtain ⟨c199, h⟩ := h
                    refine ⟨c199, ?_⟩
                    have n200 := k8_nk K c199 (by decide)
                    obtain ⟨b201, e202, h⟩ := h
                    refine ⟨b201, e202, ?_⟩
                    obtain ⟨c203, h⟩ := h
                    refine ⟨c203, ?_⟩
                    have n204 := k8_nk K c203 (by decide)
                    refine cm_X2_addFaces (kx_X2_addFaces h) h (fun x205 p207 h g206 => ?_)
                    have h := h g206
                    have K := k8_tr K p207.2
                    have o24 := gr_ob p207.2.1 o24
                    have o36 := gr_ob p207.2.1 o36
                    have o54 := gr_ob p207.2.1 o54
                    have o72 := gr_ob p207.2.1 o72
                    have o143 := gr_ob p207.2.1 o143
                    have o152 := gr_ob p207.2.1 o152
                    have o177 := gr_ob p207.2.1 o177
                    exact kx_X9_go_243 h K
              · intro c208
                have h := h.2 c208
                refine cm_X9_refuse (kx_X9_refuse h) h (fun x209 x210 p212 h g211 => ?_)
                have h := h g211
                have K := k8_tr K p212.2
                have o24 := gr_ob p212.2.1 o24
                have o36 := gr_ob p212.2.1 o36
                have o54 := gr_ob p212.2.1 o54
                have o72 := gr_ob p212.2.1 o72
                exact ⟨h, K⟩
            · intro c213
              have h := h.2 c213
              refine cm_X9_refuse (kx_X9_refuse h) h (fun x214 x215 p217 h g216 => ?_)
              have h := h g216
              have K := k8_tr K p217.2
              have o24 := gr_ob p217.2.1 o24
              have o36 := gr_ob p217.2.1 o36
              have o54 := gr_ob p217.2.1 o54
              have o72 := gr_ob p217.2.1 o72
              exact ⟨h, K⟩
          · intro c218
            have h := h.2 c218
            refine cm_X9_refuse (kx_X9_refuse h) h (fun x219 x220 p222 h g221 => ?_)
            have h := h g221
            have K := k8_tr K p222.2
            have o24 := gr_ob p222.2.1 o24
            have o36 := gr_ob p222.2.1 o36
            have o54 := gr_ob p222.2.1 o54
            have o72 := gr_ob p222.2.1 o72
            exact ⟨h, K⟩
        · intro c223
          have h := h.2 c223
          exact kx_X9_go_45 h K
theorem kx_X9_go {Q : Int32 → HS → Prop} {v0 : Nat} {v1 : Int32} {v2 : Int32} {v3 : Int32} {S : HS} (h : P_X9_go v0 v1 v2 v3 Q S) : P_X9_go v0 v1 v2 v3 (fun r T => Q r T ∧ K8 S T) S := kx_X9_go_0 h (k8_rf S)
set_option maxRecDepth 20000 in
set_option maxHeartbeats 1000000 in
theorem kx_X9_got_17 {Q : Int64 → HS → Prop} {v0 : Nat} {S0 S : HS} (h : P_X9_got_17 Q v0 S) (K : K8 S0 S) : P_X9_got_17 (fun r T => Q r T ∧ K8 S0 T) v0 S := by
  delta P_X9_got_17 at h ⊢
  obtain ⟨c1, h⟩ := h
  refine ⟨c1, ?_⟩
  have n2 := k8_nk K c1 (by decide)
  refine cm_X9_refuse (kx_X9_refuse h) h (fun x3 x4 p6 h g5 => ?_)
  have h := h g5
  have K := k8_tr K p6.2
  exact ⟨h, K⟩
set_option maxRecDepth 20000 in
set_option maxHeartbeats 1000000 in
theorem kx_X9_got_0 {Q : Int64 → HS → Prop} {v0 : Nat} {v1 : Int32} {v2 : Int32} {S0 S : HS} (h : P_X9_got_0 Q v0 v1 v2 S) (K : K8 S0 S) : P_X9_got_0 (fun r T => Q r T ∧ K8 S0 T) v0 v1 v2 S := by
  delta P_X9_got_0 at h ⊢
  obtain ⟨c1, h⟩ := h
  refine ⟨c1, ?_⟩
  have n2 := k8_nk K c1 (by decide)
  obtain ⟨b3, e4, h⟩ := h
  refine ⟨b3, e4, ?_⟩
  obtain ⟨c5, h⟩ := h
  refine ⟨c5, ?_⟩
  have n6 := k8_nk K c5 (by decide)
  refine cm_X0_isOn (kx_X0_isOn h) h (fun x7 x8 p11 h g9 g10 => ?_)
  have h := h g9 g10
  have K := k8_tr K p11.2
  refine ⟨?_, ?_⟩
  · intro c12
    have h := h.1 c12
    exact kx_X9_got_17 h K
  · intro c13
    have h := h.2 c13
    refine cm_X9_isFace (kx_X9_isFace h) h (fun x14 x15 p18 h g16 g17 => ?_)
    have h := h g16 g17
    have K := k8_tr K p18.2
    refine ⟨?_, ?_⟩
    · intro c19
      have h := h.1 c19
      intro x21 e20
      have h := h x21 e20
      have K := k8_I K e20 n2
      obtain ⟨b22, e23, h⟩ := h
      refine ⟨b22, e23, ?_⟩
      obtain ⟨c24, h⟩ := h
      refine ⟨c24, ?_⟩
      have n25 := k8_nk K c24 (by decide)
      obtain ⟨b26, e27, h⟩ := h
      refine ⟨b26, e27, ?_⟩
      obtain ⟨c28, h⟩ := h
      refine ⟨c28, ?_⟩
      have n29 := k8_nk K c28 (by decide)
      obtain ⟨b30, e31, h⟩ := h
      refine ⟨b30, e31, ?_⟩
      obtain ⟨c32, h⟩ := h
      refine ⟨c32, ?_⟩
      have n33 := k8_nk K c32 (by decide)
      obtain ⟨c34, h⟩ := h
      refine ⟨c34, ?_⟩
      intro x36 e35
      have h := h x36 e35
      refine cm_X9_fraction (kx_X9_fraction h) h (fun x37 x38 p40 h g39 => ?_)
      have h := h g39
      have K := k8_tr K p40.2
      exact ⟨h, K⟩
    · intro c41
      have h := h.2 c41
      exact kx_X9_got_17 h K
theorem kx_X9_got {Q : Int64 → HS → Prop} {v0 : Nat} {v1 : Int32} {v2 : Int32} {S : HS} (h : P_X9_got v0 v1 v2 Q S) : P_X9_got v0 v1 v2 (fun r T => Q r T ∧ K8 S T) S := kx_X9_got_0 h (k8_rf S)
set_option maxRecDepth 20000 in
set_option maxHeartbeats 1000000 in
theorem kx_X9_held_0 {Q : Int32 → HS → Prop} {v0 : Nat} {v1 : Int32} {v2 : Int32} {v3 : Int32} {v4 : Int32} {v5 : Int32} {S0 S : HS} (h : P_X9_held_0 Q v0 v1 v2 v3 v4 v5 S) (K : K8 S0 S) : P_X9_held_0 (fun r T => Q r T ∧ K8 S0 T) v0 v1 v2 v3 v4 v5 S := by
  delta P_X9_held_0 at h ⊢
  obtain ⟨c1, h⟩ := h
  refine ⟨c1, ?_⟩
  have n2 := k8_nk K c1 (by decide)
  refine cm_X9_legTrouble (kx_X9_legTrouble h) h (fun x3 x4 p6 h g5 => ?_)
  have h := h g5
  have K := k8_tr K p6.2
  refine cm_X9_refusedBy (kx_X9_refusedBy h) h (fun x7 x8 p11 h g9 g10 => ?_)
  have h := h g9 g10
  have K := k8_tr K p11.2
  refine ⟨?_, ?_⟩
  · intro c12
    have h := h.1 c12
    obtain ⟨b13, e14, h⟩ := h
    refine ⟨b13, e14, ?_⟩
    obtain ⟨c15, h⟩ := h
    refine ⟨c15, ?_⟩
    have n16 := k8_nk K c15 (by decide)
    have o17 := c15
    obtain ⟨b18, e19, h⟩ := h
    refine ⟨b18, e19, ?_⟩
    obtain ⟨c20, h⟩ := h
    refine ⟨c20, ?_⟩
    have n21 := k8_nk K c20 (by decide)
    obtain ⟨c22, h⟩ := h
    refine ⟨c22, ?_⟩
    obtain ⟨b23, e24, h⟩ := h
    refine ⟨b23, e24, ?_⟩
    obtain ⟨c25, h⟩ := h
    refine ⟨c25, ?_⟩
    have n26 := k8_nk K c25 (by decide)
    intro x28 e27
    have h := h x28 e27
    refine ⟨?_, ?_⟩
    · intro c29
      have h := h.1 c29
      obtain ⟨b30, e31, h⟩ := h
      refine ⟨b30, e31, ?_⟩
      obtain ⟨b32, e33, h⟩ := h
      refine ⟨b32, e33, ?_⟩
      obtain ⟨c34, h⟩ := h
      refine ⟨c34, ?_⟩
      have n35 := k8_nk K c34 (by decide)
      have o36 := c34
      obtain ⟨b37, e38, h⟩ := h
      refine ⟨b37, e38, ?_⟩
      obtain ⟨c39, h⟩ := h
      refine ⟨c39, ?_⟩
      have n40 := k8_nk K c39 (by decide)
      obtain ⟨c41, h⟩ := h
      refine ⟨c41, ?_⟩
      obtain ⟨b42, e43, h⟩ := h
      refine ⟨b42, e43, ?_⟩
      obtain ⟨b44, e45, h⟩ := h
      refine ⟨b44, e45, ?_⟩
      obtain ⟨c46, h⟩ := h
      refine ⟨c46, ?_⟩
      have n47 := k8_nk K c46 (by decide)
      have o48 := c46
      obtain ⟨b49, e50, h⟩ := h
      refine ⟨b49, e50, ?_⟩
      obtain ⟨c51, h⟩ := h
      refine ⟨c51, ?_⟩
      have n52 := k8_nk K c51 (by decide)
      obtain ⟨c53, h⟩ := h
      refine ⟨c53, ?_⟩
      obtain ⟨b54, e55, h⟩ := h
      refine ⟨b54, e55, ?_⟩
      obtain ⟨c56, h⟩ := h
      refine ⟨c56, ?_⟩
      have n57 := k8_nk K c56 (by decide)
      refine cm_X1_lay (kx_X1_lay h) h (fun x58 p60 h g59 => ?_)
      have h := h g59
      have K := k8_tr K p60.2
      have o17 := gr_ob p60.2.1 o17
      have o36 := gr_ob p60.2.1 o36
      have o48 := gr_ob p60.2.1 o48
      obtain ⟨b61, e62, h⟩ := h
      refine ⟨b61, e62, ?_⟩
      obtain ⟨b63, e64, h⟩ := h
      refine ⟨b63, e64, ?_⟩
      obtain ⟨c65, h⟩ := h
      refine ⟨c65, ?_⟩
      have n66 := k8_nk K c65 (by decide)
      have o67 := c65
      obtain ⟨b68, e69, h⟩ := h
      refine ⟨b68, e69, ?_⟩
      obtain ⟨c70, h⟩ := h
      refine ⟨c70, ?_⟩
      have n71 := k8_nk K c70 (by decide)
      obtain ⟨c72, h⟩ := h
      refine ⟨c72, ?_⟩
      obtain ⟨b73, e74, h⟩ := h
      refine ⟨b73, e74, ?_⟩
      obtain ⟨c75, h⟩ := h
      refine ⟨c75, ?_⟩
      have n76 := k8_nk K c75 (by decide)
      refine cm_X1_isForward (kx_X1_isForward h) h (fun x77 x78 p81 h g79 g80 => ?_)
      have h := h g79 g80
      have K := k8_tr K p81.2
      have o17 := gr_ob p81.2.1 o17
      have o36 := gr_ob p81.2.1 o36
      have o48 := gr_ob p81.2.1 o48
      have o67 := gr_ob p81.2.1 o67
      refine ⟨?_, ?_⟩
      · intro c82
        have h := h.1 c82
        exact ⟨h, K⟩
      · intro c83
        have h := h.2 c83
        exact ⟨h, K⟩
    · intro c84
      have h := h.2 c84
      exact ⟨h, K⟩
  · intro c85
    have h := h.2 c85
    exact ⟨h, K⟩
theorem kx_X9_held {Q : Int32 → HS → Prop} {v0 : Nat} {v1 : Int32} {v2 : Int32} {v3 : Int32} {v4 : Int32} {v5 : Int32} {S : HS} (h : P_X9_held v0 v1 v2 v3 v4 v5 Q S) : P_X9_held v0 v1 v2 v3 v4 v5 (fun r T => Q r T ∧ K8 S T) S := kx_X9_held_0 h (k8_rf S)
set_option maxRecDepth 20000 in
set_option maxHeartbeats 1000000 in
theorem kx_X9_isTill_0 {Q : Int32 → HS → Prop} {v0 : Int32} {S0 S : HS} (h : P_X9_isTill_0 Q v0 S) (K : K8 S0 S) : P_X9_isTill_0 (fun r T => Q r T ∧ K8 S0 T) v0 S := by
  delta P_X9_isTill_0 at h ⊢
  refine ⟨?_, ?_⟩
  · intro c1
    have h := h.1 c1
    exact ⟨h, K⟩
  · intro c2
    have h := h.2 c2
    refine ⟨?_, ?_⟩
    · intro c3
      have h := h.1 c3
      exact ⟨h, K⟩
    · intro c4
      have h := h.2 c4
      exact ⟨h, K⟩
theorem kx_X9_isTill {Q : Int32 → HS → Prop} {v0 : Int32} {S : HS} (h : P_X9_isTill v0 Q S) : P_X9_isTill v0 (fun r T => Q r T ∧ K8 S T) S := kx_X9_isTill_0 h (k8_rf S)
set_option maxRecDepth 20000 in
set_option maxHeartbeats 1000000 in
theorem kx_X9_placesTrouble_38 {Q : Int32 → HS → Prop} {s0 : Int32} {S0 S : HS} (h : P_X9_placesTrouble_38 Q s0 S) (K : K8 S0 S) : P_X9_placesTrouble_38 (fun r T => Q r T ∧ K8 S0 T) s0 S := by
  delta P_X9_placesTrouble_38 at h ⊢
  refine ⟨?_, ?_⟩
  · intro c1
    have h := h.1 c1
    exact ⟨h, K⟩
  · intro c2
    have h := h.2 c2
    exact ⟨h, K⟩
set_option maxRecDepth 20000 in
set_option maxHeartbeats 1000000 in
theorem kx_X9_placesTrouble_37 {Q : Int32 → HS → Prop} {S0 S : HS} (h : P_X9_placesTrouble_37 Q S) (K : K8 S0 S) : P_X9_placesTrouble_37 (fun r T => Q r T ∧ K8 S0 T) S := by
  delta P_X9_placesTrouble_37 at h ⊢
  exact kx_X9_placesTrouble_38 h K
set_option maxRecDepth 20000 in
set_option maxHeartbeats 1000000 in
theorem kx_X9_placesTrouble_0 {Q : Int32 → HS → Prop} {v0 : Nat} {v1 : Int32} {v2 : Int32} {v3 : Int32} {S0 S : HS} (h : P_X9_placesTrouble_0 Q v0 v1 v2 v3 S) (K : K8 S0 S) : P_X9_placesTrouble_0 (fun r T => Q r T ∧ K8 S0 T) v0 v1 v2 v3 S := by
  delta P_X9_placesTrouble_0 at h ⊢
  obtain ⟨c1, h⟩ := h
  refine ⟨c1, ?_⟩
  have n2 := k8_nk K c1 (by decide)
  obtain ⟨b3, e4, h⟩ := h
  refine ⟨b3, e4, ?_⟩
  obtain ⟨c5, h⟩ := h
  refine ⟨c5, ?_⟩
  have n6 := k8_nk K c5 (by decide)
  have o7 := c5
  refine cm_X8_hasWalker (kx_X8_hasWalker h) h (fun x8 x9 p12 h g10 g11 => ?_)
  have h := h g10 g11
  have K := k8_tr K p12.2
  have o7 := gr_ob p12.2.1 o7
  refine ⟨?_, ?_⟩
  · intro c13
    have h := h.1 c13
    exact kx_X9_placesTrouble_37 h K
  · intro c14
    have h := h.2 c14
    obtain ⟨b15, e16, h⟩ := h
    refine ⟨b15, e16, ?_⟩
    obtain ⟨c17, h⟩ := h
    refine ⟨c17, ?_⟩
    have n18 := k8_nk K c17 (by decide)
    have o19 := c17
    refine cm_X8_hasPlace (kx_X8_hasPlace h) h (fun x20 x21 p24 h g22 g23 => ?_)
    have h := h g22 g23
    have K := k8_tr K p24.2
    have o7 := gr_ob p24.2.1 o7
    have o19 := gr_ob p24.2.1 o19
    refine ⟨?_, ?_⟩
    · intro c25
      have h := h.1 c25
      exact kx_X9_placesTrouble_37 h K
    · intro c26
      have h := h.2 c26
      obtain ⟨b27, e28, h⟩ := h
      refine ⟨b27, e28, ?_⟩
      obtain ⟨c29, h⟩ := h
      refine ⟨c29, ?_⟩
      have n30 := k8_nk K c29 (by decide)
      have o31 := c29
      refine cm_X8_hasPlace (kx_X8_hasPlace h) h (fun x32 x33 p36 h g34 g35 => ?_)
      have h := h g34 g35
      have K := k8_tr K p36.2
      have o7 := gr_ob p36.2.1 o7
      have o19 := gr_ob p36.2.1 o19
      have o31 := gr_ob p36.2.1 o31
      refine ⟨?_, ?_⟩
      · intro c37
        have h := h.1 c37
        exact kx_X9_placesTrouble_37 h K
      · intro c38
        have h := h.2 c38
        exact kx_X9_placesTrouble_38 h K
theorem kx_X9_placesTrouble {Q : Int32 → HS → Prop} {v0 : Nat} {v1 : Int32} {v2 : Int32} {v3 : Int32} {S : HS} (h : P_X9_placesTrouble v0 v1 v2 v3 Q S) : P_X9_placesTrouble v0 v1 v2 v3 (fun r T => Q r T ∧ K8 S T) S := kx_X9_placesTrouble_0 h (k8_rf S)
set_option maxRecDepth 20000 in
set_option maxHeartbeats 1000000 in
theorem kx_X9_wayTrouble_0 {Q : Int32 → HS → Prop} {v0 : Nat} {v1 : Int32} {v2 : Int32} {v3 : Int32} {v4 : Int32} {v5 : Int32} {S0 S : HS} (h : P_X9_wayTrouble_0 Q v0 v1 v2 v3 v4 v5 S) (K : K8 S0 S) : P_X9_wayTrouble_0 (fun r T => Q r T ∧ K8 S0 T) v0 v1 v2 v3 v4 v5 S := by
  delta P_X9_wayTrouble_0 at h ⊢
  obtain ⟨c1, h⟩ := h
  refine ⟨c1, ?_⟩
  have n2 := k8_nk K c1 (by decide)
  refine cm_X9_placesTrouble (kx_X9_placesTrouble h) h (fun x3 x4 p6 h g5 => ?_)
  have h := h g5
  have K := k8_tr K p6.2
  refine ⟨?_, ?_⟩
  · intro c7
    have h := h.1 c7
    refine cm_X9_isTill (kx_X9_isTill h) h (fun x8 x9 p12 h g10 g11 => ?_)
    have h := h g10 g11
    have K := k8_tr K p12.2
    refine ⟨?_, ?_⟩
    · intro c13
      have h := h.1 c13
      exact ⟨h, K⟩
    · intro c14
      have h := h.2 c14
      refine ⟨?_, ?_⟩
      · intro c15
        have h := h.1 c15
        exact ⟨h, K⟩
      · intro c16
        have h := h.2 c16
        refine ⟨?_, ?_⟩
        · intro c17
          have h := h.1 c17
          obtain ⟨b18, e19, h⟩ := h
          refine ⟨b18, e19, ?_⟩
          obtain ⟨b20, e21, h⟩ := h
          refine ⟨b20, e21, ?_⟩
          obtain ⟨b22, e23, h⟩ := h
          refine ⟨b22, e23, ?_⟩
          obtain ⟨c24, h⟩ := h
          refine ⟨c24, ?_⟩
          have n25 := k8_nk K c24 (by decide)
          have o26 := c24
          refine cm_X7_reckon (kx_X7_reckon h) h (fun x27 p29 h g28 => ?_)
          have h := h g28
          have K := k8_tr K p29.2
          have o26 := gr_ob p29.2.1 o26
          obtain ⟨b30, e31, h⟩ := h
          refine ⟨b30, e31, ?_⟩
          obtain ⟨c32, h⟩ := h
          refine ⟨c32, ?_⟩
          have n33 := k8_nk K c32 (by decide)
          have o34 := c32
          refine cm_X7_isOpen (kx_X7_isOpen h) h (fun x35 x36 p39 h g37 g38 => ?_)
          have h := h g37 g38
          have K := k8_tr K p39.2
          have o26 := gr_ob p39.2.1 o26
          have o34 := gr_ob p39.2.1 o34
          refine ⟨?_, ?_⟩
          · intro c40
            have h := h.1 c40
            exact ⟨h, K⟩
          · intro c41
            have h := h.2 c41
            exact ⟨h, K⟩
        · intro c42
          have h := h.2 c42
          exact ⟨h, K⟩
  · intro c43
    have h := h.2 c43
    exact ⟨h, K⟩
theorem kx_X9_wayTrouble {Q : Int32 → HS → Prop} {v0 : Nat} {v1 : Int32} {v2 : Int32} {v3 : Int32} {v4 : Int32} {v5 : Int32} {S : HS} (h : P_X9_wayTrouble v0 v1 v2 v3 v4 v5 Q S) : P_X9_wayTrouble v0 v1 v2 v3 v4 v5 (fun r T => Q r T ∧ K8 S T) S := kx_X9_wayTrouble_0 h (k8_rf S)
set_option maxRecDepth 20000 in
set_option maxHeartbeats 1000000 in
theorem kx_X9_least_0 {Q : Int64 → HS → Prop} {v0 : Nat} {v1 : Int32} {v2 : Int32} {v3 : Int32} {v4 : Int32} {v5 : Int32} {v6 : Int32} {S0 S : HS} (h : P_X9_least_0 Q v0 v1 v2 v3 v4 v5 v6 S) (K : K8 S0 S) : P_X9_least_0 (fun r T => Q r T ∧ K8 S0 T) v0 v1 v2 v3 v4 v5 v6 S := by
  delta P_X9_least_0 at h ⊢
  obtain ⟨c1, h⟩ := h
  refine ⟨c1, ?_⟩
  have n2 := k8_nk K c1 (by decide)
  refine cm_X9_wayTrouble (kx_X9_wayTrouble h) h (fun x3 x4 p6 h g5 => ?_)
  have h := h g5
  have K := k8_tr K p6.2
  refine cm_X9_refusedBy (kx_X9_refusedBy h) h (fun x7 x8 p11 h g9 g10 => ?_)
  have h := h g9 g10
  have K := k8_tr K p11.2
  refine ⟨?_, ?_⟩
  · intro c12
    have h := h.1 c12
    obtain ⟨b13, e14, h⟩ := h
    refine ⟨b13, e14, ?_⟩
    obtain ⟨c15, h⟩ := h
    refine ⟨c15, ?_⟩
    have n16 := k8_nk K c15 (by decide)
    have o17 := c15
    refine cm_X7_meanFrom (kx_X7_meanFrom h) h (fun x18 x19 p21 h g20 => ?_)
    have h := h g20
    have K := k8_tr K p21.2
    have o17 := gr_ob p21.2.1 o17
    refine cm_X9_fraction (kx_X9_fraction h) h (fun x22 x23 p25 h g24 => ?_)
    have h := h g24
    have K := k8_tr K p25.2
    have o17 := gr_ob p25.2.1 o17
    exact ⟨h, K⟩
  · intro c26
    have h := h.2 c26
    exact ⟨h, K⟩
theorem kx_X9_least {Q : Int64 → HS → Prop} {v0 : Nat} {v1 : Int32} {v2 : Int32} {v3 : Int32} {v4 : Int32} {v5 : Int32} {v6 : Int32} {S : HS} (h : P_X9_least v0 v1 v2 v3 v4 v5 v6 Q S) : P_X9_least v0 v1 v2 v3 v4 v5 v6 (fun r T => Q r T ∧ K8 S T) S := kx_X9_least_0 h (k8_rf S)
set_option maxRecDepth 20000 in
set_option maxHeartbeats 1000000 in
theorem kx_X9_lee_0 {Q : Int64 → HS → Prop} {v0 : Nat} {v1 : Int32} {v2 : Int32} {v3 : Int32} {v4 : Int32} {v5 : Int32} {v6 : Int32} {v7 : Int32} {S0 S : HS} (h : P_X9_lee_0 Q v0 v1 v2 v3 v4 v5 v6 v7 S) (K : K8 S0 S) : P_X9_lee_0 (fun r T => Q r T ∧ K8 S0 T) v0 v1 v2 v3 v4 v5 v6 v7 S := by
  delta P_X9_lee_0 at h ⊢
  obtain ⟨c1, h⟩ := h
  refine ⟨c1, ?_⟩
  have n2 := k8_nk K c1 (by decide)
  refine cm_X9_leeTrouble (kx_X9_leeTrouble h) h (fun x3 x4 p6 h g5 => ?_)
  have h := h g5
  have K := k8_tr K p6.2
  refine cm_X9_refusedBy (kx_X9_refusedBy h) h (fun x7 x8 p11 h g9 g10 => ?_)
  have h := h g9 g10
  have K := k8_tr K p11.2
  refine ⟨?_, ?_⟩
  · intro c12
    have h := h.1 c12
    obtain ⟨b13, e14, h⟩ := h
    refine ⟨b13, e14, ?_⟩
    obtain ⟨b15, e16, h⟩ := h
    refine ⟨b15, e16, ?_⟩
    obtain ⟨c17, h⟩ := h
    refine ⟨c17, ?_⟩
    have n18 := k8_nk K c17 (by decide)
    have o19 := c17
    obtain ⟨b20, e21, h⟩ := h
    refine ⟨b20, e21, ?_⟩
    obtain ⟨c22, h⟩ := h
    refine ⟨c22, ?_⟩
    have n23 := k8_nk K c22 (by decide)
    obtain ⟨c24, h⟩ := h
    refine ⟨c24, ?_⟩
    obtain ⟨b25, e26, h⟩ := h
    refine ⟨b25, e26, ?_⟩
    obtain ⟨b27, e28, h⟩ := h
    refine ⟨b27, e28, ?_⟩
    obtain ⟨c29, h⟩ := h
    refine ⟨c29, ?_⟩
    have n30 := k8_nk K c29 (by decide)
    have o31 := c29
    obtain ⟨b32, e33, h⟩ := h
    refine ⟨b32, e33, ?_⟩
    obtain ⟨c34, h⟩ := h
    refine ⟨c34, ?_⟩
    have n35 := k8_nk K c34 (by decide)
    obtain ⟨c36, h⟩ := h
    refine ⟨c36, ?_⟩
    obtain ⟨b37, e38, h⟩ := h
    refine ⟨b37, e38, ?_⟩
    obtain ⟨c39, h⟩ := h
    refine ⟨c39, ?_⟩
    have n40 := k8_nk K c39 (by decide)
    refine cm_X1_lay (kx_X1_lay h) h (fun x41 p43 h g42 => ?_)
    have h := h g42
    have K := k8_tr K p43.2
    have o19 := gr_ob p43.2.1 o19
    have o31 := gr_ob p43.2.1 o31
    obtain ⟨b44, e45, h⟩ := h
    refine ⟨b44, e45, ?_⟩
    obtain ⟨b46, e47, h⟩ := h
    refine ⟨b46, e47, ?_⟩
    obtain ⟨c48, h⟩ := h
    refine ⟨c48, ?_⟩
    have n49 := k8_nk K c48 (by decide)
    have o50 := c48
    obtain ⟨b51, e52, h⟩ := h
    refine ⟨b51, e52, ?_⟩
    obtain ⟨c53, h⟩ := h
    refine ⟨c53, ?_⟩
    have n54 := k8_nk K c53 (by decide)
    obtain ⟨c55, h⟩ := h
    refine ⟨c55, ?_⟩
    obtain ⟨b56, e57, h⟩ := h
    refine ⟨b56, e57, ?_⟩
    obtain ⟨b58, e59, h⟩ := h
    refine ⟨b58, e59, ?_⟩
    obtain ⟨c60, h⟩ := h
    refine ⟨c60, ?_⟩
    have n61 := k8_nk K c60 (by decide)
    have o62 := c60
    obtain ⟨b63, e64, h⟩ := h
    refine ⟨b63, e64, ?_⟩
    obtain ⟨c65, h⟩ := h
    refine ⟨c65, ?_⟩
    have n66 := k8_nk K c65 (by decide)
    obtain ⟨c67, h⟩ := h
    refine ⟨c67, ?_⟩
    obtain ⟨b68, e69, h⟩ := h
    refine ⟨b68, e69, ?_⟩
    obtain ⟨c70, h⟩ := h
    refine ⟨c70, ?_⟩
    have n71 := k8_nk K c70 (by decide)
    refine cm_X1_wetInLee (kx_X1_wetInLee h) h (fun x72 x73 p75 h g74 => ?_)
    have h := h g74
    have K := k8_tr K p75.2
    have o19 := gr_ob p75.2.1 o19
    have o31 := gr_ob p75.2.1 o31
    have o50 := gr_ob p75.2.1 o50
    have o62 := gr_ob p75.2.1 o62
    refine cm_X9_fraction (kx_X9_fraction h) h (fun x76 x77 p79 h g78 => ?_)
    have h := h g78
    have K := k8_tr K p79.2
    have o19 := gr_ob p79.2.1 o19
    have o31 := gr_ob p79.2.1 o31
    have o50 := gr_ob p79.2.1 o50
    have o62 := gr_ob p79.2.1 o62
    exact ⟨h, K⟩
  · intro c80
    have h := h.2 c80
    exact ⟨h, K⟩
theorem kx_X9_lee {Q : Int64 → HS → Prop} {v0 : Nat} {v1 : Int32} {v2 : Int32} {v3 : Int32} {v4 : Int32} {v5 : Int32} {v6 : Int32} {v7 : Int32} {S : HS} (h : P_X9_lee v0 v1 v2 v3 v4 v5 v6 v7 Q S) : P_X9_lee v0 v1 v2 v3 v4 v5 v6 v7 (fun r T => Q r T ∧ K8 S T) S := kx_X9_lee_0 h (k8_rf S)
set_option maxRecDepth 20000 in
set_option maxHeartbeats 1000000 in
theorem kx_X9_lies_54 {Q : Int32 → HS → Prop} {X20 X20_2 : Nat → Int32 → Int32 → HS → Prop} {v0 : Nat} {v1 : Int32} {v2 : Int32} {S0 S : HS} (h : P_X9_lies_54 Q X20 v0 v1 v2 S) (K : K8 S0 S) (hX20 : ∀ (u0 : Nat) (u1 : Int32) (u2 : Int32) (u3 : HS), X20 u0 u1 u2 u3 → K8 S0 u3 → X20_2 u0 u1 u2 u3) : P_X9_lies_54 (fun r T => Q r T ∧ K8 S0 T) X20_2 v0 v1 v2 S := by
  delta P_X9_lies_54 at h ⊢
  intro x2 e1
  have h := h x2 e1
  exact hX20 _ _ _ _ h K
set_option maxRecDepth 20000 in
set_option maxHeartbeats 1000000 in
theorem kxB_X9_lies_20 {Q : Int32 → HS → Prop} {X20 X20_2 : Nat → Int32 → Int32 → HS → Prop} {v0 : Nat} {v1 : Int32} {v2 : Int32} {S0 S : HS} (h : B_X9_lies_20 Q X20 v0 v1 v2 S) (K : K8 S0 S) (hX20 : ∀ (u0 : Nat) (u1 : Int32) (u2 : Int32) (u3 : HS), X20 u0 u1 u2 u3 → K8 S0 u3 → X20_2 u0 u1 u2 u3) : B_X9_lies_20 (fun r T => Q r T ∧ K8 S0 T) X20_2 v0 v1 v2 S := by
  delta B_X9_lies_20 at h ⊢
  obtain ⟨c1, h⟩ := h
  refine ⟨c1, ?_⟩
  have n2 := k8_nk K c1 (by decide)
  obtain ⟨b3, e4, h⟩ := h
  refine ⟨b3, e4, ?_⟩
  obtain ⟨c5, h⟩ := h
  refine ⟨c5, ?_⟩
  have n6 := k8_nk K c5 (by decide)
  have o7 := c5
  intro x9 e8
  have h := h x9 e8
  refine ⟨?_, ?_⟩
  · intro c10
    have h := h.1 c10
    refine cm_X9_grant (kx_X9_grant h) h (fun x11 x12 p14 h g13 => ?_)
    have h := h g13
    have K := k8_tr K p14.2
    have o7 := gr_ob p14.2.1 o7
    exact ⟨h, K⟩
  · intro c15
    have h := h.2 c15
    obtain ⟨b16, e17, h⟩ := h
    refine ⟨b16, e17, ?_⟩
    obtain ⟨b18, e19, h⟩ := h
    refine ⟨b18, e19, ?_⟩
    obtain ⟨c20, h⟩ := h
    refine ⟨c20, ?_⟩
    have n21 := k8_nk K c20 (by decide)
    refine cm_X1_findFit (kx_X1_findFit h) h (fun x22 x23 p25 h g24 => ?_)
    have h := h g24
    have K := k8_tr K p25.2
    have o7 := gr_ob p25.2.1 o7
    refine ⟨?_, ?_⟩
    · intro c26
      have h := h.1 c26
      exact kx_X9_lies_54 h K hX20
    · intro c27
      have h := h.2 c27
      intro x29 e28
      have h := h x29 e28
      exact kx_X9_lies_54 h K hX20
theorem kx_X9_lies_20 {Q : Int32 → HS → Prop} {v0 : Nat} {v1 : Int32} {v2 : Int32} {S0 S : HS} (h : P_X9_lies_20 Q v0 v1 v2 S) (K : K8 S0 S) : P_X9_lies_20 (fun r T => Q r T ∧ K8 S0 T) v0 v1 v2 S := h (fun v0 v1 v2 S => K8 S0 S → P_X9_lies_20 (fun r T => Q r T ∧ K8 S0 T) v0 v1 v2 S) (fun v0 v1 v2 S hB K => fd_X9_lies_20 (kxB_X9_lies_20 hB K (fun _ _ _ _ hx K => hx K))) K
set_option maxRecDepth 20000 in
set_option maxHeartbeats 1000000 in
theorem kx_X9_lies_0 {Q : Int32 → HS → Prop} {v0 : Nat} {S0 S : HS} (h : P_X9_lies_0 Q v0 S) (K : K8 S0 S) : P_X9_lies_0 (fun r T => Q r T ∧ K8 S0 T) v0 S := by
  delta P_X9_lies_0 at h ⊢
  obtain ⟨c1, h⟩ := h
  refine ⟨c1, ?_⟩
  have n2 := k8_nk K c1 (by decide)
  obtain ⟨b3, e4, h⟩ := h
  refine ⟨b3, e4, ?_⟩
  obtain ⟨c5, h⟩ := h
  refine ⟨c5, ?_⟩
  have n6 := k8_nk K c5 (by decide)
  have o7 := c5
  refine cm_X8_isTold (kx_X8_isTold h) h (fun x8 x9 p12 h g10 g11 => ?_)
  have h := h g10 g11
  have K := k8_tr K p12.2
  have o7 := gr_ob p12.2.1 o7
  refine ⟨?_, ?_⟩
  · intro c13
    have h := h.1 c13
    exact kx_X9_lies_20 h K
  · intro c14
    have h := h.2 c14
    refine cm_X9_refuse (kx_X9_refuse h) h (fun x15 x16 p18 h g17 => ?_)
    have h := h g17
    have K := k8_tr K p18.2
    have o7 := gr_ob p18.2.1 o7
    exact ⟨h, K⟩
theorem kx_X9_lies {Q : Int32 → HS → Prop} {v0 : Nat} {S : HS} (h : P_X9_lies v0 Q S) : P_X9_lies v0 (fun r T => Q r T ∧ K8 S T) S := kx_X9_lies_0 h (k8_rf S)
set_option maxRecDepth 20000 in
set_option maxHeartbeats 1000000 in
theorem kx_X9_mark_0 {Q : Int32 → HS → Prop} {v0 : Nat} {S0 S : HS} (h : P_X9_mark_0 Q v0 S) (K : K8 S0 S) : P_X9_mark_0 (fun r T => Q r T ∧ K8 S0 T) v0 S := by
  delta P_X9_mark_0 at h ⊢
  obtain ⟨c1, h⟩ := h
  refine ⟨c1, ?_⟩
  have n2 := k8_nk K c1 (by decide)
  obtain ⟨b3, e4, h⟩ := h
  refine ⟨b3, e4, ?_⟩
  obtain ⟨c5, h⟩ := h
  refine ⟨c5, ?_⟩
  have n6 := k8_nk K c5 (by decide)
  refine cm_X0_isOn (kx_X0_isOn h) h (fun x7 x8 p11 h g9 g10 => ?_)
  have h := h g9 g10
  have K := k8_tr K p11.2
  refine ⟨?_, ?_⟩
  · intro c12
    have h := h.1 c12
    obtain ⟨b13, e14, h⟩ := h
    refine ⟨b13, e14, ?_⟩
    obtain ⟨c15, h⟩ := h
    refine ⟨c15, ?_⟩
    have n16 := k8_nk K c15 (by decide)
    refine cm_X0_setMark (kx_X0_setMark h) h (fun x17 x18 p20 h g19 => ?_)
    have h := h g19
    have K := k8_tr K p20.2
    refine ⟨?_, ?_⟩
    · intro c21
      have h := h.1 c21
      refine cm_X9_grant (kx_X9_grant h) h (fun x22 x23 p25 h g24 => ?_)
      have h := h g24
      have K := k8_tr K p25.2
      exact ⟨h, K⟩
    · intro c26
      have h := h.2 c26
      refine cm_X9_refuse (kx_X9_refuse h) h (fun x27 x28 p30 h g29 => ?_)
      have h := h g29
      have K := k8_tr K p30.2
      exact ⟨h, K⟩
  · intro c31
    have h := h.2 c31
    refine cm_X9_refuse (kx_X9_refuse h) h (fun x32 x33 p35 h g34 => ?_)
    have h := h g34
    have K := k8_tr K p35.2
    exact ⟨h, K⟩
theorem kx_X9_mark {Q : Int32 → HS → Prop} {v0 : Nat} {S : HS} (h : P_X9_mark v0 Q S) : P_X9_mark v0 (fun r T => Q r T ∧ K8 S T) S := kx_X9_mark_0 h (k8_rf S)
set_option maxRecDepth 20000 in
set_option maxHeartbeats 1000000 in
theorem kx_X9_mean_0 {Q : Int64 → HS → Prop} {v0 : Nat} {v1 : Int32} {v2 : Int32} {v3 : Int32} {v4 : Int32} {v5 : Int32} {v6 : Int32} {S0 S : HS} (h : P_X9_mean_0 Q v0 v1 v2 v3 v4 v5 v6 S) (K : K8 S0 S) : P_X9_mean_0 (fun r T => Q r T ∧ K8 S0 T) v0 v1 v2 v3 v4 v5 v6 S := by
  delta P_X9_mean_0 at h ⊢
  obtain ⟨c1, h⟩ := h
  refine ⟨c1, ?_⟩
  have n2 := k8_nk K c1 (by decide)
  refine cm_X9_legTrouble (kx_X9_legTrouble h) h (fun x3 x4 p6 h g5 => ?_)
  have h := h g5
  have K := k8_tr K p6.2
  refine cm_X9_refusedBy (kx_X9_refusedBy h) h (fun x7 x8 p11 h g9 g10 => ?_)
  have h := h g9 g10
  have K := k8_tr K p11.2
  refine ⟨?_, ?_⟩
  · intro c12
    have h := h.1 c12
    obtain ⟨b13, e14, h⟩ := h
    refine ⟨b13, e14, ?_⟩
    obtain ⟨b15, e16, h⟩ := h
    refine ⟨b15, e16, ?_⟩
    obtain ⟨c17, h⟩ := h
    refine ⟨c17, ?_⟩
    have n18 := k8_nk K c17 (by decide)
    have o19 := c17
    obtain ⟨b20, e21, h⟩ := h
    refine ⟨b20, e21, ?_⟩
    obtain ⟨c22, h⟩ := h
    refine ⟨c22, ?_⟩
    have n23 := k8_nk K c22 (by decide)
    obtain ⟨c24, h⟩ := h
    refine ⟨c24, ?_⟩
    obtain ⟨b25, e26, h⟩ := h
    refine ⟨b25, e26, ?_⟩
    obtain ⟨b27, e28, h⟩ := h
    refine ⟨b27, e28, ?_⟩
    obtain ⟨c29, h⟩ := h
    refine ⟨c29, ?_⟩
    have n30 := k8_nk K c29 (by decide)
    have o31 := c29
    obtain ⟨b32, e33, h⟩ := h
    refine ⟨b32, e33, ?_⟩
    obtain ⟨c34, h⟩ := h
    refine ⟨c34, ?_⟩
    have n35 := k8_nk K c34 (by decide)
    obtain ⟨c36, h⟩ := h
    refine ⟨c36, ?_⟩
    obtain ⟨b37, e38, h⟩ := h
    refine ⟨b37, e38, ?_⟩
    obtain ⟨b39, e40, h⟩ := h
    refine ⟨b39, e40, ?_⟩
    obtain ⟨c41, h⟩ := h
    refine ⟨c41, ?_⟩
    have n42 := k8_nk K c41 (by decide)
    have o43 := c41
    obtain ⟨b44, e45, h⟩ := h
    refine ⟨b44, e45, ?_⟩
    obtain ⟨c46, h⟩ := h
    refine ⟨c46, ?_⟩
    have n47 := k8_nk K c46 (by decide)
    obtain ⟨c48, h⟩ := h
    refine ⟨c48, ?_⟩
    obtain ⟨b49, e50, h⟩ := h
    refine ⟨b49, e50, ?_⟩
    obtain ⟨c51, h⟩ := h
    refine ⟨c51, ?_⟩
    have n52 := k8_nk K c51 (by decide)
    refine cm_X1_wetOf (kx_X1_wetOf h) h (fun x53 x54 p56 h g55 => ?_)
    have h := h g55
    have K := k8_tr K p56.2
    have o19 := gr_ob p56.2.1 o19
    have o31 := gr_ob p56.2.1 o31
    have o43 := gr_ob p56.2.1 o43
    obtain ⟨b57, e58, h⟩ := h
    refine ⟨b57, e58, ?_⟩
    obtain ⟨c59, h⟩ := h
    refine ⟨c59, ?_⟩
    have n60 := k8_nk K c59 (by decide)
    have o61 := c59
    obtain ⟨b62, e63, h⟩ := h
    refine ⟨b62, e63, ?_⟩
    obtain ⟨c64, h⟩ := h
    refine ⟨c64, ?_⟩
    have n65 := k8_nk K c64 (by decide)
    obtain ⟨c66, h⟩ := h
    refine ⟨c66, ?_⟩
    obtain ⟨b67, e68, h⟩ := h
    refine ⟨b67, e68, ?_⟩
    obtain ⟨c69, h⟩ := h
    refine ⟨c69, ?_⟩
    have n70 := k8_nk K c69 (by decide)
    intro x72 e71
    have h := h x72 e71
    refine cm_X9_fraction (kx_X9_fraction h) h (fun x73 x74 p76 h g75 => ?_)
    have h := h g75
    have K := k8_tr K p76.2
    have o19 := gr_ob p76.2.1 o19
    have o31 := gr_ob p76.2.1 o31
    have o43 := gr_ob p76.2.1 o43
    have o61 := gr_ob p76.2.1 o61
    exact ⟨h, K⟩
  · intro c77
    have h := h.2 c77
    exact ⟨h, K⟩
theorem kx_X9_mean {Q : Int64 → HS → Prop} {v0 : Nat} {v1 : Int32} {v2 : Int32} {v3 : Int32} {v4 : Int32} {v5 : Int32} {v6 : Int32} {S : HS} (h : P_X9_mean v0 v1 v2 v3 v4 v5 v6 Q S) : P_X9_mean v0 v1 v2 v3 v4 v5 v6 (fun r T => Q r T ∧ K8 S T) S := kx_X9_mean_0 h (k8_rf S)
set_option maxRecDepth 20000 in
set_option maxHeartbeats 1000000 in
theorem kx_X9_minutes_22 {Q : Int32 → HS → Prop} {v0 : Nat} {S0 S : HS} (h : P_X9_minutes_22 Q v0 S) (K : K8 S0 S) : P_X9_minutes_22 (fun r T => Q r T ∧ K8 S0 T) v0 S := by
  delta P_X9_minutes_22 at h ⊢
  obtain ⟨c1, h⟩ := h
  refine ⟨c1, ?_⟩
  have n2 := k8_nk K c1 (by decide)
  refine cm_X9_refuse (kx_X9_refuse h) h (fun x3 x4 p6 h g5 => ?_)
  have h := h g5
  have K := k8_tr K p6.2
  exact ⟨h, K⟩
set_option maxRecDepth 20000 in
set_option maxHeartbeats 1000000 in
theorem kx_X9_minutes_0 {Q : Int32 → HS → Prop} {v0 : Nat} {v1 : Int32} {v2 : Int32} {v3 : Int32} {S0 S : HS} (h : P_X9_minutes_0 Q v0 v1 v2 v3 S) (K : K8 S0 S) : P_X9_minutes_0 (fun r T => Q r T ∧ K8 S0 T) v0 v1 v2 v3 S := by
  delta P_X9_minutes_0 at h ⊢
  obtain ⟨c1, h⟩ := h
  refine ⟨c1, ?_⟩
  have n2 := k8_nk K c1 (by decide)
  obtain ⟨b3, e4, h⟩ := h
  refine ⟨b3, e4, ?_⟩
  obtain ⟨c5, h⟩ := h
  refine ⟨c5, ?_⟩
  have n6 := k8_nk K c5 (by decide)
  have o7 := c5
  refine cm_X8_hasWalker (kx_X8_hasWalker h) h (fun x8 x9 p12 h g10 g11 => ?_)
  have h := h g10 g11
  have K := k8_tr K p12.2
  have o7 := gr_ob p12.2.1 o7
  refine ⟨?_, ?_⟩
  · intro c13
    have h := h.1 c13
    exact kx_X9_minutes_22 h K
  · intro c14
    have h := h.2 c14
    obtain ⟨b15, e16, h⟩ := h
    refine ⟨b15, e16, ?_⟩
    obtain ⟨c17, h⟩ := h
    refine ⟨c17, ?_⟩
    have n18 := k8_nk K c17 (by decide)
    have o19 := c17
    refine cm_X8_hasRoad (kx_X8_hasRoad h) h (fun x20 x21 p24 h g22 g23 => ?_)
    have h := h g22 g23
    have K := k8_tr K p24.2
    have o7 := gr_ob p24.2.1 o7
    have o19 := gr_ob p24.2.1 o19
    refine ⟨?_, ?_⟩
    · intro c25
      have h := h.1 c25
      obtain ⟨b26, e27, h⟩ := h
      refine ⟨b26, e27, ?_⟩
      obtain ⟨c28, h⟩ := h
      refine ⟨c28, ?_⟩
      have n29 := k8_nk K c28 (by decide)
      have o30 := c28
      obtain ⟨b31, e32, h⟩ := h
      refine ⟨b31, e32, ?_⟩
      obtain ⟨c33, h⟩ := h
      refine ⟨c33, ?_⟩
      have n34 := k8_nk K c33 (by decide)
      obtain ⟨c35, h⟩ := h
      refine ⟨c35, ?_⟩
      obtain ⟨b36, e37, h⟩ := h
      refine ⟨b36, e37, ?_⟩
      obtain ⟨c38, h⟩ := h
      refine ⟨c38, ?_⟩
      have n39 := k8_nk K c38 (by decide)
      refine cm_X6_canGo (kx_X6_canGo h) h (fun x40 x41 p44 h g42 g43 => ?_)
      have h := h g42 g43
      have K := k8_tr K p44.2
      have o7 := gr_ob p44.2.1 o7
      have o19 := gr_ob p44.2.1 o19
      have o30 := gr_ob p44.2.1 o30
      refine ⟨?_, ?_⟩
      · intro c45
        have h := h.1 c45
        obtain ⟨b46, e47, h⟩ := h
        refine ⟨b46, e47, ?_⟩
        obtain ⟨c48, h⟩ := h
        refine ⟨c48, ?_⟩
        have n49 := k8_nk K c48 (by decide)
        have o50 := c48
        obtain ⟨b51, e52, h⟩ := h
        refine ⟨b51, e52, ?_⟩
        obtain ⟨c53, h⟩ := h
        refine ⟨c53, ?_⟩
        have n54 := k8_nk K c53 (by decide)
        obtain ⟨c55, h⟩ := h
        refine ⟨c55, ?_⟩
        obtain ⟨b56, e57, h⟩ := h
        refine ⟨b56, e57, ?_⟩
        obtain ⟨c58, h⟩ := h
        refine ⟨c58, ?_⟩
        have n59 := k8_nk K c58 (by decide)
        refine cm_X5_minutesAt (kx_X5_minutesAt h) h (fun x60 x61 p63 h g62 => ?_)
        have h := h g62
        have K := k8_tr K p63.2
        have o7 := gr_ob p63.2.1 o7
        have o19 := gr_ob p63.2.1 o19
        have o30 := gr_ob p63.2.1 o30
        have o50 := gr_ob p63.2.1 o50
        refine cm_X9_grant (kx_X9_grant h) h (fun x64 x65 p67 h g66 => ?_)
        have h := h g66
        have K := k8_tr K p67.2
        have o7 := gr_ob p67.2.1 o7
        have o19 := gr_ob p67.2.1 o19
        have o30 := gr_ob p67.2.1 o30
        have o50 := gr_ob p67.2.1 o50
        exact ⟨h, K⟩
      · intro c68
        have h := h.2 c68
        refine cm_X9_refuse (kx_X9_refuse h) h (fun x69 x70 p72 h g71 => ?_)
        have h := h g71
        have K := k8_tr K p72.2
        have o7 := gr_ob p72.2.1 o7
        have o19 := gr_ob p72.2.1 o19
        have o30 := gr_ob p72.2.1 o30
        exact ⟨h, K⟩
    · intro c73
      have h := h.2 c73
      exact kx_X9_minutes_22 h K
theorem kx_X9_minutes {Q : Int32 → HS → Prop} {v0 : Nat} {v1 : Int32} {v2 : Int32} {v3 : Int32} {S : HS} (h : P_X9_minutes v0 v1 v2 v3 Q S) : P_X9_minutes v0 v1 v2 v3 (fun r T => Q r T ∧ K8 S T) S := kx_X9_minutes_0 h (k8_rf S)
set_option maxRecDepth 20000 in
set_option maxHeartbeats 1000000 in
theorem kx_X9_off_128 {Q : Int32 → HS → Prop} {X62 X62_2 : Nat → Int32 → Int32 → Int32 → Int32 → HS → Prop} {v0 : Nat} {v2 : Int32} {v4 : Int32} {v6 : Int32} {v7 : Int32} {S0 S : HS} (h : P_X9_off_128 Q X62 v0 v2 v4 v6 v7 S) (K : K8 S0 S) (hX62 : ∀ (u0 : Nat) (u1 : Int32) (u2 : Int32) (u3 : Int32) (u4 : Int32) (u5 : HS), X62 u0 u1 u2 u3 u4 u5 → K8 S0 u5 → X62_2 u0 u1 u2 u3 u4 u5) : P_X9_off_128 (fun r T => Q r T ∧ K8 S0 T) X62_2 v0 v2 v4 v6 v7 S := by
  delta P_X9_off_128 at h ⊢
  intro x2 e1
  have h := h x2 e1
  exact hX62 _ _ _ _ _ _ h K
set_option maxRecDepth 20000 in
set_option maxHeartbeats 1000000 in
theorem kx_X9_off_104 {Q : Int32 → HS → Prop} {X62 X62_2 : Nat → Int32 → Int32 → Int32 → Int32 → HS → Prop} {v0 : Nat} {v2 : Int32} {v4 : Int32} {v6 : Int32} {v7 : Int32} {s0 : Int32} {S0 S : HS} (h : P_X9_off_104 Q X62 v0 v2 v4 v6 v7 s0 S) (K : K8 S0 S) (hX62 : ∀ (u0 : Nat) (u1 : Int32) (u2 : Int32) (u3 : Int32) (u4 : Int32) (u5 : HS), X62 u0 u1 u2 u3 u4 u5 → K8 S0 u5 → X62_2 u0 u1 u2 u3 u4 u5) : P_X9_off_104 (fun r T => Q r T ∧ K8 S0 T) X62_2 v0 v2 v4 v6 v7 s0 S := by
  delta P_X9_off_104 at h ⊢
  obtain ⟨c1, h⟩ := h
  refine ⟨c1, ?_⟩
  have n2 := k8_nk K c1 (by decide)
  obtain ⟨b3, e4, h⟩ := h
  refine ⟨b3, e4, ?_⟩
  obtain ⟨c5, h⟩ := h
  refine ⟨c5, ?_⟩
  have n6 := k8_nk K c5 (by decide)
  have o7 := c5
  refine cm_X7_isOpen (kx_X7_isOpen h) h (fun x8 x9 p12 h g10 g11 => ?_)
  have h := h g10 g11
  have K := k8_tr K p12.2
  have o7 := gr_ob p12.2.1 o7
  refine ⟨?_, ?_⟩
  · intro c13
    have h := h.1 c13
    exact kx_X9_off_128 h K hX62
  · intro c14
    have h := h.2 c14
    refine ⟨?_, ?_⟩
    · intro c15
      have h := h.1 c15
      exact kx_X9_off_128 h K hX62
    · intro c16
      have h := h.2 c16
      exact kx_X9_off_128 h K hX62
set_option maxRecDepth 20000 in
set_option maxHeartbeats 1000000 in
theorem kx_X9_off_99 {Q : Int32 → HS → Prop} {X62 X62_2 : Nat → Int32 → Int32 → Int32 → Int32 → HS → Prop} {v0 : Nat} {v2 : Int32} {v4 : Int32} {v6 : Int32} {v7 : Int32} {S0 S : HS} (h : P_X9_off_99 Q X62 v0 v2 v4 v6 v7 S) (K : K8 S0 S) (hX62 : ∀ (u0 : Nat) (u1 : Int32) (u2 : Int32) (u3 : Int32) (u4 : Int32) (u5 : HS), X62 u0 u1 u2 u3 u4 u5 → K8 S0 u5 → X62_2 u0 u1 u2 u3 u4 u5) : P_X9_off_99 (fun r T => Q r T ∧ K8 S0 T) X62_2 v0 v2 v4 v6 v7 S := by
  delta P_X9_off_99 at h ⊢
  exact kx_X9_off_104 h K hX62
set_option maxRecDepth 20000 in
set_option maxHeartbeats 1000000 in
theorem kxB_X9_off_62 {Q : Int32 → HS → Prop} {X62 X62_2 : Nat → Int32 → Int32 → Int32 → Int32 → HS → Prop} {v0 : Nat} {v2 : Int32} {v4 : Int32} {v6 : Int32} {v7 : Int32} {S0 S : HS} (h : B_X9_off_62 Q X62 v0 v2 v4 v6 v7 S) (K : K8 S0 S) (hX62 : ∀ (u0 : Nat) (u1 : Int32) (u2 : Int32) (u3 : Int32) (u4 : Int32) (u5 : HS), X62 u0 u1 u2 u3 u4 u5 → K8 S0 u5 → X62_2 u0 u1 u2 u3 u4 u5) : B_X9_off_62 (fun r T => Q r T ∧ K8 S0 T) X62_2 v0 v2 v4 v6 v7 S := by
  delta B_X9_off_62 at h ⊢
  refine ⟨?_, ?_⟩
  · intro c1
    have h := h.1 c1
    refine ⟨?_, ?_⟩
    · intro c2
      have h := h.1 c2
      exact ⟨h, K⟩
    · intro c3
      have h := h.2 c3
      obtain ⟨c4, h⟩ := h
      refine ⟨c4, ?_⟩
      have n5 := k8_nk K c4 (by decide)
      refine cm_X9_refuse (kx_X9_refuse h) h (fun x6 x7 p9 h g8 => ?_)
      have h := h g8
      have K := k8_tr K p9.2
      exact ⟨h, K⟩
  · intro c10
    have h := h.2 c10
    refine ⟨?_, ?_⟩
    · intro c11
      have h := h.1 c11
      exact kx_X9_off_99 h K hX62
    · intro c12
      have h := h.2 c12
      obtain ⟨c13, h⟩ := h
      refine ⟨c13, ?_⟩
      have n14 := k8_nk K c13 (by decide)
      obtain ⟨b15, e16, h⟩ := h
      refine ⟨b15, e16, ?_⟩
      obtain ⟨c17, h⟩ := h
      refine ⟨c17, ?_⟩
      have n18 := k8_nk K c17 (by decide)
      have o19 := c17
      refine cm_X7_meanFrom (kx_X7_meanFrom h) h (fun x20 x21 p23 h g22 => ?_)
      have h := h g22
      have K := k8_tr K p23.2
      have o19 := gr_ob p23.2.1 o19
      obtain ⟨b24, e25, h⟩ := h
      refine ⟨b24, e25, ?_⟩
      obtain ⟨c26, h⟩ := h
      refine ⟨c26, ?_⟩
      have n27 := k8_nk K c26 (by decide)
      have o28 := c26
      refine cm_X7_meanFrom (kx_X7_meanFrom h) h (fun x29 x30 p32 h g31 => ?_)
      have h := h g31
      have K := k8_tr K p32.2
      have o19 := gr_ob p32.2.1 o19
      have o28 := gr_ob p32.2.1 o28
      refine ⟨?_, ?_⟩
      · intro c33
        have h := h.1 c33
        exact kx_X9_off_104 h K hX62
      · intro c34
        have h := h.2 c34
        exact kx_X9_off_99 h K hX62
theorem kx_X9_off_62 {Q : Int32 → HS → Prop} {v0 : Nat} {v2 : Int32} {v4 : Int32} {v6 : Int32} {v7 : Int32} {S0 S : HS} (h : P_X9_off_62 Q v0 v2 v4 v6 v7 S) (K : K8 S0 S) : P_X9_off_62 (fun r T => Q r T ∧ K8 S0 T) v0 v2 v4 v6 v7 S := h (fun v0 v2 v4 v6 v7 S => K8 S0 S → P_X9_off_62 (fun r T => Q r T ∧ K8 S0 T) v0 v2 v4 v6 v7 S) (fun v0 v2 v4 v6 v7 S hB K => fd_X9_off_62 (kxB_X9_off_62 hB K (fun _ _ _ _ _ _ hx K => hx K))) K
set_option maxRecDepth 20000 in
set_option maxHeartbeats 1000000 in
theorem kx_X9_off_25 {Q : Int32 → HS → Prop} {v0 : Nat} {v1 : Int32} {v2 : Int32} {v3 : Int32} {v4 : Int32} {v5 : Int32} {S0 S : HS} (h : P_X9_off_25 Q v0 v1 v2 v3 v4 v5 S) (K : K8 S0 S) : P_X9_off_25 (fun r T => Q r T ∧ K8 S0 T) v0 v1 v2 v3 v4 v5 S := by
  delta P_X9_off_25 at h ⊢
  obtain ⟨c1, h⟩ := h
  refine ⟨c1, ?_⟩
  have n2 := k8_nk K c1 (by decide)
  refine cm_X9_refusedBy (kx_X9_refusedBy h) h (fun x3 x4 p7 h g5 g6 => ?_)
  have h := h g5 g6
  have K := k8_tr K p7.2
  refine ⟨?_, ?_⟩
  · intro c8
    have h := h.1 c8
    obtain ⟨b9, e10, h⟩ := h
    refine ⟨b9, e10, ?_⟩
    obtain ⟨b11, e12, h⟩ := h
    refine ⟨b11, e12, ?_⟩
    obtain ⟨b13, e14, h⟩ := h
    refine ⟨b13, e14, ?_⟩
    obtain ⟨c15, h⟩ := h
    refine ⟨c15, ?_⟩
    have n16 := k8_nk K c15 (by decide)
    have o17 := c15
    refine cm_X7_reckon (kx_X7_reckon h) h (fun x18 p20 h g19 => ?_)
    have h := h g19
    have K := k8_tr K p20.2
    have o17 := gr_ob p20.2.1 o17
    exact kx_X9_off_62 h K
  · intro c21
    have h := h.2 c21
    exact ⟨h, K⟩
set_option maxRecDepth 20000 in
set_option maxHeartbeats 1000000 in
theorem kx_X9_off_0 {Q : Int32 → HS → Prop} {v0 : Nat} {v1 : Int32} {v2 : Int32} {v3 : Int32} {v4 : Int32} {S0 S : HS} (h : P_X9_off_0 Q v0 v1 v2 v3 v4 S) (K : K8 S0 S) : P_X9_off_0 (fun r T => Q r T ∧ K8 S0 T) v0 v1 v2 v3 v4 S := by
  delta P_X9_off_0 at h ⊢
  obtain ⟨c1, h⟩ := h
  refine ⟨c1, ?_⟩
  have n2 := k8_nk K c1 (by decide)
  refine cm_X9_placesTrouble (kx_X9_placesTrouble h) h (fun x3 x4 p6 h g5 => ?_)
  have h := h g5
  have K := k8_tr K p6.2
  refine ⟨?_, ?_⟩
  · intro c7
    have h := h.1 c7
    exact kx_X9_off_25 h K
  · intro c8
    have h := h.2 c8
    refine cm_X9_isTill (kx_X9_isTill h) h (fun x9 x10 p13 h g11 g12 => ?_)
    have h := h g11 g12
    have K := k8_tr K p13.2
    refine ⟨?_, ?_⟩
    · intro c14
      have h := h.1 c14
      exact kx_X9_off_25 h K
    · intro c15
      have h := h.2 c15
      exact kx_X9_off_25 h K
theorem kx_X9_off {Q : Int32 → HS → Prop} {v0 : Nat} {v1 : Int32} {v2 : Int32} {v3 : Int32} {v4 : Int32} {S : HS} (h : P_X9_off v0 v1 v2 v3 v4 Q S) : P_X9_off v0 v1 v2 v3 v4 (fun r T => Q r T ∧ K8 S T) S := kx_X9_off_0 h (k8_rf S)
set_option maxRecDepth 20000 in
set_option maxHeartbeats 1000000 in
theorem kx_X9_road_20 {Q : Int32 → HS → Prop} {v0 : Nat} {S0 S : HS} (h : P_X9_road_20 Q v0 S) (K : K8 S0 S) : P_X9_road_20 (fun r T => Q r T ∧ K8 S0 T) v0 S := by
  delta P_X9_road_20 at h ⊢
  obtain ⟨c1, h⟩ := h
  refine ⟨c1, ?_⟩
  have n2 := k8_nk K c1 (by decide)
  refine cm_X9_refuse (kx_X9_refuse h) h (fun x3 x4 p6 h g5 => ?_)
  have h := h g5
  have K := k8_tr K p6.2
  exact ⟨h, K⟩
set_option maxRecDepth 20000 in
set_option maxHeartbeats 1000000 in
theorem kx_X9_road_0 {Q : Int32 → HS → Prop} {v0 : Nat} {v1 : Int32} {v2 : Int32} {S0 S : HS} (h : P_X9_road_0 Q v0 v1 v2 S) (K : K8 S0 S) : P_X9_road_0 (fun r T => Q r T ∧ K8 S0 T) v0 v1 v2 S := by
  delta P_X9_road_0 at h ⊢
  obtain ⟨c1, h⟩ := h
  refine ⟨c1, ?_⟩
  have n2 := k8_nk K c1 (by decide)
  obtain ⟨b3, e4, h⟩ := h
  refine ⟨b3, e4, ?_⟩
  obtain ⟨c5, h⟩ := h
  refine ⟨c5, ?_⟩
  have n6 := k8_nk K c5 (by decide)
  have o7 := c5
  refine cm_X8_hasRoad (kx_X8_hasRoad h) h (fun x8 x9 p12 h g10 g11 => ?_)
  have h := h g10 g11
  have K := k8_tr K p12.2
  have o7 := gr_ob p12.2.1 o7
  refine ⟨?_, ?_⟩
  · intro c13
    have h := h.1 c13
    exact kx_X9_road_20 h K
  · intro c14
    have h := h.2 c14
    refine ⟨?_, ?_⟩
    · intro c15
      have h := h.1 c15
      exact kx_X9_road_20 h K
    · intro c16
      have h := h.2 c16
      refine ⟨?_, ?_⟩
      · intro c17
        have h := h.1 c17
        obtain ⟨b18, e19, h⟩ := h
        refine ⟨b18, e19, ?_⟩
        obtain ⟨c20, h⟩ := h
        refine ⟨c20, ?_⟩
        have n21 := k8_nk K c20 (by decide)
        have o22 := c20
        obtain ⟨b23, e24, h⟩ := h
        refine ⟨b23, e24, ?_⟩
        obtain ⟨c25, h⟩ := h
        refine ⟨c25, ?_⟩
        have n26 := k8_nk K c25 (by decide)
        obtain ⟨c27, h⟩ := h
        refine ⟨c27, ?_⟩
        obtain ⟨b28, e29, h⟩ := h
        refine ⟨b28, e29, ?_⟩
        obtain ⟨c30, h⟩ := h
        refine ⟨c30, ?_⟩
        have n31 := k8_nk K c30 (by decide)
        refine cm_X5_tell (kx_X5_tell h) h (fun x32 x33 p35 h g34 => ?_)
        have h := h g34
        have K := k8_tr K p35.2
        have o7 := gr_ob p35.2.1 o7
        have o22 := gr_ob p35.2.1 o22
        refine cm_X9_grant (kx_X9_grant h) h (fun x36 x37 p39 h g38 => ?_)
        have h := h g38
        have K := k8_tr K p39.2
        have o7 := gr_ob p39.2.1 o7
        have o22 := gr_ob p39.2.1 o22
        exact ⟨h, K⟩
      · intro c40
        have h := h.2 c40
        exact kx_X9_road_20 h K
theorem kx_X9_road {Q : Int32 → HS → Prop} {v0 : Nat} {v1 : Int32} {v2 : Int32} {S : HS} (h : P_X9_road v0 v1 v2 Q S) : P_X9_road v0 v1 v2 (fun r T => Q r T ∧ K8 S T) S := kx_X9_road_0 h (k8_rf S)
set_option maxRecDepth 20000 in
set_option maxHeartbeats 1000000 in
theorem kx_X9_round_0 {Q : Int64 → HS → Prop} {v0 : Nat} {v1 : Int32} {v2 : Int32} {v3 : Int32} {v4 : Int32} {S0 S : HS} (h : P_X9_round_0 Q v0 v1 v2 v3 v4 S) (K : K8 S0 S) : P_X9_round_0 (fun r T => Q r T ∧ K8 S0 T) v0 v1 v2 v3 v4 S := by
  delta P_X9_round_0 at h ⊢
  obtain ⟨c1, h⟩ := h
  refine ⟨c1, ?_⟩
  have n2 := k8_nk K c1 (by decide)
  refine cm_X9_tripTrouble (kx_X9_tripTrouble h) h (fun x3 x4 p6 h g5 => ?_)
  have h := h g5
  have K := k8_tr K p6.2
  refine cm_X9_refusedBy (kx_X9_refusedBy h) h (fun x7 x8 p11 h g9 g10 => ?_)
  have h := h g9 g10
  have K := k8_tr K p11.2
  refine ⟨?_, ?_⟩
  · intro c12
    have h := h.1 c12
    obtain ⟨b13, e14, h⟩ := h
    refine ⟨b13, e14, ?_⟩
    obtain ⟨b15, e16, h⟩ := h
    refine ⟨b15, e16, ?_⟩
    obtain ⟨c17, h⟩ := h
    refine ⟨c17, ?_⟩
    have n18 := k8_nk K c17 (by decide)
    have o19 := c17
    obtain ⟨b20, e21, h⟩ := h
    refine ⟨b20, e21, ?_⟩
    obtain ⟨c22, h⟩ := h
    refine ⟨c22, ?_⟩
    have n23 := k8_nk K c22 (by decide)
    obtain ⟨c24, h⟩ := h
    refine ⟨c24, ?_⟩
    obtain ⟨b25, e26, h⟩ := h
    refine ⟨b25, e26, ?_⟩
    obtain ⟨b27, e28, h⟩ := h
    refine ⟨b27, e28, ?_⟩
    obtain ⟨c29, h⟩ := h
    refine ⟨c29, ?_⟩
    have n30 := k8_nk K c29 (by decide)
    have o31 := c29
    obtain ⟨b32, e33, h⟩ := h
    refine ⟨b32, e33, ?_⟩
    obtain ⟨c34, h⟩ := h
    refine ⟨c34, ?_⟩
    have n35 := k8_nk K c34 (by decide)
    obtain ⟨c36, h⟩ := h
    refine ⟨c36, ?_⟩
    obtain ⟨b37, e38, h⟩ := h
    refine ⟨b37, e38, ?_⟩
    obtain ⟨b39, e40, h⟩ := h
    refine ⟨b39, e40, ?_⟩
    obtain ⟨c41, h⟩ := h
    refine ⟨c41, ?_⟩
    have n42 := k8_nk K c41 (by decide)
    have o43 := c41
    obtain ⟨b44, e45, h⟩ := h
    refine ⟨b44, e45, ?_⟩
    obtain ⟨c46, h⟩ := h
    refine ⟨c46, ?_⟩
    have n47 := k8_nk K c46 (by decide)
    obtain ⟨c48, h⟩ := h
    refine ⟨c48, ?_⟩
    obtain ⟨b49, e50, h⟩ := h
    refine ⟨b49, e50, ?_⟩
    obtain ⟨c51, h⟩ := h
    refine ⟨c51, ?_⟩
    have n52 := k8_nk K c51 (by decide)
    refine cm_X1_leastWet (kx_X1_leastWet h) h (fun x53 x54 p56 h g55 => ?_)
    have h := h g55
    have K := k8_tr K p56.2
    have o19 := gr_ob p56.2.1 o19
    have o31 := gr_ob p56.2.1 o31
    have o43 := gr_ob p56.2.1 o43
    obtain ⟨b57, e58, h⟩ := h
    refine ⟨b57, e58, ?_⟩
    obtain ⟨b59, e60, h⟩ := h
    refine ⟨b59, e60, ?_⟩
    obtain ⟨c61, h⟩ := h
    refine ⟨c61, ?_⟩
    have n62 := k8_nk K c61 (by decide)
    have o63 := c61
    obtain ⟨b64, e65, h⟩ := h
    refine ⟨b64, e65, ?_⟩
    obtain ⟨c66, h⟩ := h
    refine ⟨c66, ?_⟩
    have n67 := k8_nk K c66 (by decide)
    obtain ⟨c68, h⟩ := h
    refine ⟨c68, ?_⟩
    obtain ⟨b69, e70, h⟩ := h
    refine ⟨b69, e70, ?_⟩
    obtain ⟨b71, e72, h⟩ := h
    refine ⟨b71, e72, ?_⟩
    obtain ⟨c73, h⟩ := h
    refine ⟨c73, ?_⟩
    have n74 := k8_nk K c73 (by decide)
    have o75 := c73
    obtain ⟨b76, e77, h⟩ := h
    refine ⟨b76, e77, ?_⟩
    obtain ⟨c78, h⟩ := h
    refine ⟨c78, ?_⟩
    have n79 := k8_nk K c78 (by decide)
    obtain ⟨c80, h⟩ := h
    refine ⟨c80, ?_⟩
    obtain ⟨b81, e82, h⟩ := h
    refine ⟨b81, e82, ?_⟩
    obtain ⟨b83, e84, h⟩ := h
    refine ⟨b83, e84, ?_⟩
    obtain ⟨c85, h⟩ := h
    refine ⟨c85, ?_⟩
    have n86 := k8_nk K c85 (by decide)
    have o87 := c85
    obtain ⟨b88, e89, h⟩ := h
    refine ⟨b88, e89, ?_⟩
    obtain ⟨c90, h⟩ := h
    refine ⟨c90, ?_⟩
    have n91 := k8_nk K c90 (by decide)
    obtain ⟨c92, h⟩ := h
    refine ⟨c92, ?_⟩
    obtain ⟨b93, e94, h⟩ := h
    refine ⟨b93, e94, ?_⟩
    obtain ⟨c95, h⟩ := h
    refine ⟨c95, ?_⟩
    have n96 := k8_nk K c95 (by decide)
    refine cm_X1_leastWet (kx_X1_leastWet h) h (fun x97 x98 p100 h g99 => ?_)
    have h := h g99
    have K := k8_tr K p100.2
    have o19 := gr_ob p100.2.1 o19
    have o31 := gr_ob p100.2.1 o31
    have o43 := gr_ob p100.2.1 o43
    have o63 := gr_ob p100.2.1 o63
    have o75 := gr_ob p100.2.1 o75
    have o87 := gr_ob p100.2.1 o87
    refine cm_X9_fraction (kx_X9_fraction h) h (fun x101 x102 p104 h g103 => ?_)
    have h := h g103
    have K := k8_tr K p104.2
    have o19 := gr_ob p104.2.1 o19
    have o31 := gr_ob p104.2.1 o31
    have o43 := gr_ob p104.2.1 o43
    have o63 := gr_ob p104.2.1 o63
    have o75 := gr_ob p104.2.1 o75
    have o87 := gr_ob p104.2.1 o87
    exact ⟨h, K⟩
  · intro c105
    have h := h.2 c105
    exact ⟨h, K⟩
theorem kx_X9_round {Q : Int64 → HS → Prop} {v0 : Nat} {v1 : Int32} {v2 : Int32} {v3 : Int32} {v4 : Int32} {S : HS} (h : P_X9_round v0 v1 v2 v3 v4 Q S) : P_X9_round v0 v1 v2 v3 v4 (fun r T => Q r T ∧ K8 S T) S := kx_X9_round_0 h (k8_rf S)
set_option maxRecDepth 20000 in
set_option maxHeartbeats 1000000 in
theorem kx_X9_saves_0 {Q : Int64 → HS → Prop} {v0 : Nat} {v1 : Int32} {v2 : Int32} {v3 : Int32} {v4 : Int32} {v5 : Int32} {S0 S : HS} (h : P_X9_saves_0 Q v0 v1 v2 v3 v4 v5 S) (K : K8 S0 S) : P_X9_saves_0 (fun r T => Q r T ∧ K8 S0 T) v0 v1 v2 v3 v4 v5 S := by
  delta P_X9_saves_0 at h ⊢
  obtain ⟨c1, h⟩ := h
  refine ⟨c1, ?_⟩
  have n2 := k8_nk K c1 (by decide)
  refine cm_X9_tripTrouble (kx_X9_tripTrouble h) h (fun x3 x4 p6 h g5 => ?_)
  have h := h g5
  have K := k8_tr K p6.2
  refine cm_X9_refusedBy (kx_X9_refusedBy h) h (fun x7 x8 p11 h g9 g10 => ?_)
  have h := h g9 g10
  have K := k8_tr K p11.2
  refine ⟨?_, ?_⟩
  · intro c12
    have h := h.1 c12
    obtain ⟨b13, e14, h⟩ := h
    refine ⟨b13, e14, ?_⟩
    obtain ⟨c15, h⟩ := h
    refine ⟨c15, ?_⟩
    have n16 := k8_nk K c15 (by decide)
    have o17 := c15
    obtain ⟨b18, e19, h⟩ := h
    refine ⟨b18, e19, ?_⟩
    obtain ⟨c20, h⟩ := h
    refine ⟨c20, ?_⟩
    have n21 := k8_nk K c20 (by decide)
    obtain ⟨c22, h⟩ := h
    refine ⟨c22, ?_⟩
    obtain ⟨b23, e24, h⟩ := h
    refine ⟨b23, e24, ?_⟩
    obtain ⟨b25, e26, h⟩ := h
    refine ⟨b25, e26, ?_⟩
    obtain ⟨b27, e28, h⟩ := h
    refine ⟨b27, e28, ?_⟩
    obtain ⟨c29, h⟩ := h
    refine ⟨c29, ?_⟩
    have n30 := k8_nk K c29 (by decide)
    have o31 := c29
    obtain ⟨b32, e33, h⟩ := h
    refine ⟨b32, e33, ?_⟩
    obtain ⟨c34, h⟩ := h
    refine ⟨c34, ?_⟩
    have n35 := k8_nk K c34 (by decide)
    obtain ⟨c36, h⟩ := h
    refine ⟨c36, ?_⟩
    obtain ⟨b37, e38, h⟩ := h
    refine ⟨b37, e38, ?_⟩
    obtain ⟨b39, e40, h⟩ := h
    refine ⟨b39, e40, ?_⟩
    obtain ⟨c41, h⟩ := h
    refine ⟨c41, ?_⟩
    have n42 := k8_nk K c41 (by decide)
    have o43 := c41
    obtain ⟨b44, e45, h⟩ := h
    refine ⟨b44, e45, ?_⟩
    obtain ⟨c46, h⟩ := h
    refine ⟨c46, ?_⟩
    have n47 := k8_nk K c46 (by decide)
    obtain ⟨c48, h⟩ := h
    refine ⟨c48, ?_⟩
    obtain ⟨b49, e50, h⟩ := h
    refine ⟨b49, e50, ?_⟩
    obtain ⟨c51, h⟩ := h
    refine ⟨c51, ?_⟩
    have n52 := k8_nk K c51 (by decide)
    intro x54 e53
    have h := h x54 e53
    obtain ⟨c55, h⟩ := h
    refine ⟨c55, ?_⟩
    have n56 := k8_nk K c55 (by decide)
    refine cm_X1_wetOf (kx_X1_wetOf h) h (fun x57 x58 p60 h g59 => ?_)
    have h := h g59
    have K := k8_tr K p60.2
    have o17 := gr_ob p60.2.1 o17
    have o31 := gr_ob p60.2.1 o31
    have o43 := gr_ob p60.2.1 o43
    obtain ⟨b61, e62, h⟩ := h
    refine ⟨b61, e62, ?_⟩
    obtain ⟨b63, e64, h⟩ := h
    refine ⟨b63, e64, ?_⟩
    obtain ⟨c65, h⟩ := h
    refine ⟨c65, ?_⟩
    have n66 := k8_nk K c65 (by decide)
    have o67 := c65
    obtain ⟨b68, e69, h⟩ := h
    refine ⟨b68, e69, ?_⟩
    obtain ⟨c70, h⟩ := h
    refine ⟨c70, ?_⟩
    have n71 := k8_nk K c70 (by decide)
    obtain ⟨c72, h⟩ := h
    refine ⟨c72, ?_⟩
    obtain ⟨b73, e74, h⟩ := h
    refine ⟨b73, e74, ?_⟩
    obtain ⟨b75, e76, h⟩ := h
    refine ⟨b75, e76, ?_⟩
    obtain ⟨c77, h⟩ := h
    refine ⟨c77, ?_⟩
    have n78 := k8_nk K c77 (by decide)
    have o79 := c77
    obtain ⟨b80, e81, h⟩ := h
    refine ⟨b80, e81, ?_⟩
    obtain ⟨c82, h⟩ := h
    refine ⟨c82, ?_⟩
    have n83 := k8_nk K c82 (by decide)
    obtain ⟨c84, h⟩ := h
    refine ⟨c84, ?_⟩
    obtain ⟨b85, e86, h⟩ := h
    refine ⟨b85, e86, ?_⟩
    obtain ⟨c87, h⟩ := h
    refine ⟨c87, ?_⟩
    have n88 := k8_nk K c87 (by decide)
    refine cm_X1_leastWet (kx_X1_leastWet h) h (fun x89 x90 p92 h g91 => ?_)
    have h := h g91
    have K := k8_tr K p92.2
    have o17 := gr_ob p92.2.1 o17
    have o31 := gr_ob p92.2.1 o31
    have o43 := gr_ob p92.2.1 o43
    have o67 := gr_ob p92.2.1 o67
    have o79 := gr_ob p92.2.1 o79
    refine cm_X9_fraction (kx_X9_fraction h) h (fun x93 x94 p96 h g95 => ?_)
    have h := h g95
    have K := k8_tr K p96.2
    have o17 := gr_ob p96.2.1 o17
    have o31 := gr_ob p96.2.1 o31
    have o43 := gr_ob p96.2.1 o43
    have o67 := gr_ob p96.2.1 o67
    have o79 := gr_ob p96.2.1 o79
    exact ⟨h, K⟩
  · intro c97
    have h := h.2 c97
    exact ⟨h, K⟩
theorem kx_X9_saves {Q : Int64 → HS → Prop} {v0 : Nat} {v1 : Int32} {v2 : Int32} {v3 : Int32} {v4 : Int32} {v5 : Int32} {S : HS} (h : P_X9_saves v0 v1 v2 v3 v4 v5 Q S) : P_X9_saves v0 v1 v2 v3 v4 v5 (fun r T => Q r T ∧ K8 S T) S := kx_X9_saves_0 h (k8_rf S)
set_option maxRecDepth 20000 in
set_option maxHeartbeats 1000000 in
theorem kx_X9_size_0 {Q : Int32 → HS → Prop} {v0 : Nat} {v1 : Int32} {S0 S : HS} (h : P_X9_size_0 Q v0 v1 S) (K : K8 S0 S) : P_X9_size_0 (fun r T => Q r T ∧ K8 S0 T) v0 v1 S := by
  delta P_X9_size_0 at h ⊢
  refine ⟨?_, ?_, ?_, ?_, ?_, ?_, ?_, ?_, ?_, ?_, ?_, ?_, ?_⟩
  · intro c1
    have h := h.1 c1
    exact ⟨h, K⟩
  · intro c2
    have h := h.2.1 c2
    obtain ⟨c3, h⟩ := h
    refine ⟨c3, ?_⟩
    have n4 := k8_nk K c3 (by decide)
    obtain ⟨b5, e6, h⟩ := h
    refine ⟨b5, e6, ?_⟩
    obtain ⟨c7, h⟩ := h
    refine ⟨c7, ?_⟩
    have n8 := k8_nk K c7 (by decide)
    have o9 := c7
    intro x11 e10
    have h := h x11 e10
    exact ⟨h, K⟩
  · intro c12
    have h := h.2.2.1 c12
    obtain ⟨c13, h⟩ := h
    refine ⟨c13, ?_⟩
    have n14 := k8_nk K c13 (by decide)
    obtain ⟨b15, e16, h⟩ := h
    refine ⟨b15, e16, ?_⟩
    obtain ⟨c17, h⟩ := h
    refine ⟨c17, ?_⟩
    have n18 := k8_nk K c17 (by decide)
    have o19 := c17
    intro x21 e20
    have h := h x21 e20
    exact ⟨h, K⟩
  · intro c22
    have h := h.2.2.2.1 c22
    obtain ⟨c23, h⟩ := h
    refine ⟨c23, ?_⟩
    have n24 := k8_nk K c23 (by decide)
    obtain ⟨b25, e26, h⟩ := h
    refine ⟨b25, e26, ?_⟩
    obtain ⟨c27, h⟩ := h
    refine ⟨c27, ?_⟩
    have n28 := k8_nk K c27 (by decide)
    have o29 := c27
    intro x31 e30
    have h := h x31 e30
    exact ⟨h, K⟩
  · intro c32
    have h := h.2.2.2.2.1 c32
    obtain ⟨c33, h⟩ := h
    refine ⟨c33, ?_⟩
    have n34 := k8_nk K c33 (by decide)
    obtain ⟨b35, e36, h⟩ := h
    refine ⟨b35, e36, ?_⟩
    obtain ⟨c37, h⟩ := h
    refine ⟨c37, ?_⟩
    have n38 := k8_nk K c37 (by decide)
    have o39 := c37
    intro x41 e40
    have h := h x41 e40
    exact ⟨h, K⟩
  · intro c42
    have h := h.2.2.2.2.2.1 c42
    obtain ⟨c43, h⟩ := h
    refine ⟨c43, ?_⟩
    have n44 := k8_nk K c43 (by decide)
    obtain ⟨b45, e46, h⟩ := h
    refine ⟨b45, e46, ?_⟩
    obtain ⟨c47, h⟩ := h
    refine ⟨c47, ?_⟩
    have n48 := k8_nk K c47 (by decide)
    have o49 := c47
    intro x51 e50
    have h := h x51 e50
    exact ⟨h, K⟩
  · intro c52
    have h := h.2.2.2.2.2.2.1 c52
    obtain ⟨c53, h⟩ := h
    refine ⟨c53, ?_⟩
    have n54 := k8_nk K c53 (by decide)
    obtain ⟨b55, e56, h⟩ := h
    refine ⟨b55, e56, ?_⟩
    obtain ⟨c57, h⟩ := h
    refine ⟨c57, ?_⟩
    have n58 := k8_nk K c57 (by decide)
    have o59 := c57
    intro x61 e60
    have h := h x61 e60
    exact ⟨h, K⟩
  · intro c62
    have h := h.2.2.2.2.2.2.2.1 c62
    obtain ⟨c63, h⟩ := h
    refine ⟨c63, ?_⟩
    have n64 := k8_nk K c63 (by decide)
    obtain ⟨b65, e66, h⟩ := h
    refine ⟨b65, e66, ?_⟩
    obtain ⟨c67, h⟩ := h
    refine ⟨c67, ?_⟩
    have n68 := k8_nk K c67 (by decide)
    refine cm_X0_isOn (kx_X0_isOn h) h (fun x69 x70 p73 h g71 g72 => ?_)
    have h := h g71 g72
    have K := k8_tr K p73.2
    refine ⟨?_, ?_⟩
    · intro c74
      have h := h.1 c74
      exact ⟨h, K⟩
    · intro c75
      have h := h.2 c75
      obtain ⟨b76, e77, h⟩ := h
      refine ⟨b76, e77, ?_⟩
      obtain ⟨c78, h⟩ := h
      refine ⟨c78, ?_⟩
      have n79 := k8_nk K c78 (by decide)
      intro x81 e80
      have h := h x81 e80
      exact ⟨h, K⟩
  · intro c82
    have h := h.2.2.2.2.2.2.2.2.1 c82
    obtain ⟨c83, h⟩ := h
    refine ⟨c83, ?_⟩
    have n84 := k8_nk K c83 (by decide)
    obtain ⟨b85, e86, h⟩ := h
    refine ⟨b85, e86, ?_⟩
    obtain ⟨c87, h⟩ := h
    refine ⟨c87, ?_⟩
    have n88 := k8_nk K c87 (by decide)
    refine cm_X0_isOn (kx_X0_isOn h) h (fun x89 x90 p93 h g91 g92 => ?_)
    have h := h g91 g92
    have K := k8_tr K p93.2
    refine ⟨?_, ?_⟩
    · intro c94
      have h := h.1 c94
      exact ⟨h, K⟩
    · intro c95
      have h := h.2 c95
      obtain ⟨b96, e97, h⟩ := h
      refine ⟨b96, e97, ?_⟩
      obtain ⟨c98, h⟩ := h
      refine ⟨c98, ?_⟩
      have n99 := k8_nk K c98 (by decide)
      obtain ⟨b100, e101, h⟩ := h
      refine ⟨b100, e101, ?_⟩
      obtain ⟨c102, h⟩ := h
      refine ⟨c102, ?_⟩
      have n103 := k8_nk K c102 (by decide)
      intro x105 e104
      have h := h x105 e104
      exact ⟨h, K⟩
  · intro c106
    have h := h.2.2.2.2.2.2.2.2.2.1 c106
    obtain ⟨c107, h⟩ := h
    refine ⟨c107, ?_⟩
    have n108 := k8_nk K c107 (by decide)
    obtain ⟨b109, e110, h⟩ := h
    refine ⟨b109, e110, ?_⟩
    obtain ⟨c111, h⟩ := h
    refine ⟨c111, ?_⟩
    have n112 := k8_nk K c111 (by decide)
    refine cm_X0_isOn (kx_X0_isOn h) h (fun x113 x114 p117 h g115 g116 => ?_)
    have h := h g115 g116
    have K := k8_tr K p117.2
    refine ⟨?_, ?_⟩
    · intro c118
      have h := h.1 c118
      exact ⟨h, K⟩
    · intro c119
      have h := h.2 c119
      obtain ⟨b120, e121, h⟩ := h
      refine ⟨b120, e121, ?_⟩
      obtain ⟨c122, h⟩ := h
      refine ⟨c122, ?_⟩
      have n123 := k8_nk K c122 (by decide)
      obtain ⟨b124, e125, h⟩ := h
      refine ⟨b124, e125, ?_⟩
      obtain ⟨c126, h⟩ := h
      refine ⟨c126, ?_⟩
      have n127 := k8_nk K c126 (by decide)
      intro x129 e128
      have h := h x129 e128
      exact ⟨h, K⟩
  · intro c130
    have h := h.2.2.2.2.2.2.2.2.2.2.1 c130
    obtain ⟨c131, h⟩ := h
    refine ⟨c131, ?_⟩
    have n132 := k8_nk K c131 (by decide)
    obtain ⟨b133, e134, h⟩ := h
    refine ⟨b133, e134, ?_⟩
    obtain ⟨c135, h⟩ := h
    refine ⟨c135, ?_⟩
    have n136 := k8_nk K c135 (by decide)
    intro x138 e137
    have h := h x138 e137
    exact ⟨h, K⟩
  · intro c139
    have h := h.2.2.2.2.2.2.2.2.2.2.2.1 c139
    obtain ⟨c140, h⟩ := h
    refine ⟨c140, ?_⟩
    have n141 := k8_nk K c140 (by decide)
    obtain ⟨b142, e143, h⟩ := h
    refine ⟨b142, e143, ?_⟩
    obtain ⟨c144, h⟩ := h
    refine ⟨c144, ?_⟩
    have n145 := k8_nk K c144 (by decide)
    intro x147 e146
    have h := h x147 e146
    exact ⟨h, K⟩
  · intro c148
    have h := h.2.2.2.2.2.2.2.2.2.2.2.2 c148
    obtain ⟨c149, h⟩ := h
    refine ⟨c149, ?_⟩
    have n150 := k8_nk K c149 (by decide)
    intro x152 e151
    have h := h x152 e151
    exact ⟨h, K⟩
theorem kx_X9_size {Q : Int32 → HS → Prop} {v0 : Nat} {v1 : Int32} {S : HS} (h : P_X9_size v0 v1 Q S) : P_X9_size v0 v1 (fun r T => Q r T ∧ K8 S T) S := kx_X9_size_0 h (k8_rf S)
set_option maxRecDepth 20000 in
set_option maxHeartbeats 1000000 in
theorem kx_X9_soaked_27 {Q : Int32 → HS → Prop} {v0 : Nat} {S0 S : HS} (h : P_X9_soaked_27 Q v0 S) (K : K8 S0 S) : P_X9_soaked_27 (fun r T => Q r T ∧ K8 S0 T) v0 S := by
  delta P_X9_soaked_27 at h ⊢
  obtain ⟨c1, h⟩ := h
  refine ⟨c1, ?_⟩
  have n2 := k8_nk K c1 (by decide)
  refine cm_X9_refuse (kx_X9_refuse h) h (fun x3 x4 p6 h g5 => ?_)
  have h := h g5
  have K := k8_tr K p6.2
  exact ⟨h, K⟩
set_option maxRecDepth 20000 in
set_option maxHeartbeats 1000000 in
theorem kx_X9_soaked_88 {Q : Int32 → HS → Prop} {s0 : Nat} {s1 : Int32} {S0 S : HS} (h : P_X9_soaked_88 Q s0 s1 S) (K : K8 S0 S) : P_X9_soaked_88 (fun r T => Q r T ∧ K8 S0 T) s0 s1 S := by
  delta P_X9_soaked_88 at h ⊢
  obtain ⟨c1, h⟩ := h
  refine ⟨c1, ?_⟩
  have n2 := k8_nk K c1 (by decide)
  refine cm_X9_grant (kx_X9_grant h) h (fun x3 x4 p6 h g5 => ?_)
  have h := h g5
  have K := k8_tr K p6.2
  exact ⟨h, K⟩
set_option maxRecDepth 20000 in
set_option maxHeartbeats 1000000 in
theorem kx_X9_soaked_0 {Q : Int32 → HS → Prop} {v0 : Nat} {S0 S : HS} (h : P_X9_soaked_0 Q v0 S) (K : K8 S0 S) : P_X9_soaked_0 (fun r T => Q r T ∧ K8 S0 T) v0 S := by
  delta P_X9_soaked_0 at h ⊢
  obtain ⟨c1, h⟩ := h
  refine ⟨c1, ?_⟩
  have n2 := k8_nk K c1 (by decide)
  obtain ⟨b3, e4, h⟩ := h
  refine ⟨b3, e4, ?_⟩
  obtain ⟨c5, h⟩ := h
  refine ⟨c5, ?_⟩
  have n6 := k8_nk K c5 (by decide)
  refine cm_X0_isOn (kx_X0_isOn h) h (fun x7 x8 p11 h g9 g10 => ?_)
  have h := h g9 g10
  have K := k8_tr K p11.2
  refine ⟨?_, ?_⟩
  · intro c12
    have h := h.1 c12
    exact kx_X9_soaked_27 h K
  · intro c13
    have h := h.2 c13
    obtain ⟨b14, e15, h⟩ := h
    refine ⟨b14, e15, ?_⟩
    obtain ⟨b16, e17, h⟩ := h
    refine ⟨b16, e17, ?_⟩
    obtain ⟨c18, h⟩ := h
    refine ⟨c18, ?_⟩
    have n19 := k8_nk K c18 (by decide)
    intro x21 e20
    have h := h x21 e20
    obtain ⟨c22, h⟩ := h
    refine ⟨c22, ?_⟩
    have n23 := k8_nk K c22 (by decide)
    have o24 := c22
    refine cm_X8_hasWalker (kx_X8_hasWalker h) h (fun x25 x26 p29 h g27 g28 => ?_)
    have h := h g27 g28
    have K := k8_tr K p29.2
    have o24 := gr_ob p29.2.1 o24
    refine ⟨?_, ?_⟩
    · intro c30
      have h := h.1 c30
      obtain ⟨b31, e32, h⟩ := h
      refine ⟨b31, e32, ?_⟩
      obtain ⟨c33, h⟩ := h
      refine ⟨c33, ?_⟩
      have n34 := k8_nk K c33 (by decide)
      have o35 := c33
      obtain ⟨b36, e37, h⟩ := h
      refine ⟨b36, e37, ?_⟩
      obtain ⟨b38, e39, h⟩ := h
      refine ⟨b38, e39, ?_⟩
      obtain ⟨c40, h⟩ := h
      refine ⟨c40, ?_⟩
      have n41 := k8_nk K c40 (by decide)
      intro x43 e42
      have h := h x43 e42
      obtain ⟨c44, h⟩ := h
      refine ⟨c44, ?_⟩
      have n45 := k8_nk K c44 (by decide)
      obtain ⟨c46, h⟩ := h
      refine ⟨c46, ?_⟩
      obtain ⟨b47, e48, h⟩ := h
      refine ⟨b47, e48, ?_⟩
      obtain ⟨c49, h⟩ := h
      refine ⟨c49, ?_⟩
      have n50 := k8_nk K c49 (by decide)
      intro x52 e51
      have h := h x52 e51
      refine ⟨?_, ?_⟩
      · intro c53
        have h := h.1 c53
        obtain ⟨b54, e55, h⟩ := h
        refine ⟨b54, e55, ?_⟩
        obtain ⟨c56, h⟩ := h
        refine ⟨c56, ?_⟩
        have n57 := k8_nk K c56 (by decide)
        obtain ⟨b58, e59, h⟩ := h
        refine ⟨b58, e59, ?_⟩
        obtain ⟨c60, h⟩ := h
        refine ⟨c60, ?_⟩
        have n61 := k8_nk K c60 (by decide)
        refine cm_X2_allGot (kx_X2_allGot h) h (fun x62 x63 p65 h g64 => ?_)
        have h := h g64
        have K := k8_tr K p65.2
        have o24 := gr_ob p65.2.1 o24
        have o35 := gr_ob p65.2.1 o35
        refine cm_X9_coatParts (kx_X9_coatParts h) h (fun x66 x67 p69 h g68 => ?_)
        have h := h g68
        have K := k8_tr K p69.2
        have o24 := gr_ob p69.2.1 o24
        have o35 := gr_ob p69.2.1 o35
        refine ⟨?_, ?_⟩
        · intro c70
          have h := h.1 c70
          exact kx_X9_soaked_88 h K
        · intro c71
          have h := h.2 c71
          exact kx_X9_soaked_88 h K
      · intro c72
        have h := h.2 c72
        refine cm_X9_grant (kx_X9_grant h) h (fun x73 x74 p76 h g75 => ?_)
        have h := h g75
        have K := k8_tr K p76.2
        have o24 := gr_ob p76.2.1 o24
        have o35 := gr_ob p76.2.1 o35
        exact ⟨h, K⟩
    · intro c77
      have h := h.2 c77
      exact kx_X9_soaked_27 h K
theorem kx_X9_soaked {Q : Int32 → HS → Prop} {v0 : Nat} {S : HS} (h : P_X9_soaked v0 Q S) : P_X9_soaked v0 (fun r T => Q r T ∧ K8 S T) S := kx_X9_soaked_0 h (k8_rf S)
set_option maxRecDepth 20000 in
set_option maxHeartbeats 1000000 in
theorem kx_X9_stayTrouble_0 {Q : Int32 → HS → Prop} {v0 : Nat} {v1 : Int32} {S0 S : HS} (h : P_X9_stayTrouble_0 Q v0 v1 S) (K : K8 S0 S) : P_X9_stayTrouble_0 (fun r T => Q r T ∧ K8 S0 T) v0 v1 S := by
  delta P_X9_stayTrouble_0 at h ⊢
  obtain ⟨c1, h⟩ := h
  refine ⟨c1, ?_⟩
  have n2 := k8_nk K c1 (by decide)
  obtain ⟨b3, e4, h⟩ := h
  refine ⟨b3, e4, ?_⟩
  obtain ⟨c5, h⟩ := h
  refine ⟨c5, ?_⟩
  have n6 := k8_nk K c5 (by decide)
  refine cm_X0_isOn (kx_X0_isOn h) h (fun x7 x8 p11 h g9 g10 => ?_)
  have h := h g9 g10
  have K := k8_tr K p11.2
  refine ⟨?_, ?_⟩
  · intro c12
    have h := h.1 c12
    exact ⟨h, K⟩
  · intro c13
    have h := h.2 c13
    obtain ⟨b14, e15, h⟩ := h
    refine ⟨b14, e15, ?_⟩
    obtain ⟨b16, e17, h⟩ := h
    refine ⟨b16, e17, ?_⟩
    obtain ⟨c18, h⟩ := h
    refine ⟨c18, ?_⟩
    have n19 := k8_nk K c18 (by decide)
    intro x21 e20
    have h := h x21 e20
    obtain ⟨c22, h⟩ := h
    refine ⟨c22, ?_⟩
    have n23 := k8_nk K c22 (by decide)
    have o24 := c22
    refine cm_X8_hasWalker (kx_X8_hasWalker h) h (fun x25 x26 p29 h g27 g28 => ?_)
    have h := h g27 g28
    have K := k8_tr K p29.2
    have o24 := gr_ob p29.2.1 o24
    refine ⟨?_, ?_⟩
    · intro c30
      have h := h.1 c30
      refine ⟨?_, ?_⟩
      · intro c31
        have h := h.1 c31
        exact ⟨h, K⟩
      · intro c32
        have h := h.2 c32
        refine ⟨?_, ?_⟩
        · intro c33
          have h := h.1 c33
          obtain ⟨b34, e35, h⟩ := h
          refine ⟨b34, e35, ?_⟩
          obtain ⟨b36, e37, h⟩ := h
          refine ⟨b36, e37, ?_⟩
          obtain ⟨c38, h⟩ := h
          refine ⟨c38, ?_⟩
          have n39 := k8_nk K c38 (by decide)
          obtain ⟨b40, e41, h⟩ := h
          refine ⟨b40, e41, ?_⟩
          obtain ⟨c42, h⟩ := h
          refine ⟨c42, ?_⟩
          have n43 := k8_nk K c42 (by decide)
          intro x45 e44
          have h := h x45 e44
          obtain ⟨c46, h⟩ := h
          refine ⟨c46, ?_⟩
          have n47 := k8_nk K c46 (by decide)
          have o48 := c46
          refine cm_X8_canWait (kx_X8_canWait h) h (fun x49 x50 p53 h g51 g52 => ?_)
          have h := h g51 g52
          have K := k8_tr K p53.2
          have o24 := gr_ob p53.2.1 o24
          have o48 := gr_ob p53.2.1 o48
          refine ⟨?_, ?_⟩
          · intro c54
            have h := h.1 c54
            obtain ⟨b55, e56, h⟩ := h
            refine ⟨b55, e56, ?_⟩
            obtain ⟨c57, h⟩ := h
            refine ⟨c57, ?_⟩
            have n58 := k8_nk K c57 (by decide)
            obtain ⟨b59, e60, h⟩ := h
            refine ⟨b59, e60, ?_⟩
            obtain ⟨c61, h⟩ := h
            refine ⟨c61, ?_⟩
            have n62 := k8_nk K c61 (by decide)
            intro x64 e63
            have h := h x64 e63
            refine ⟨?_, ?_⟩
            · intro c65
              have h := h.1 c65
              exact ⟨h, K⟩
            · intro c66
              have h := h.2 c66
              exact ⟨h, K⟩
          · intro c67
            have h := h.2 c67
            exact ⟨h, K⟩
        · intro c68
          have h := h.2 c68
          exact ⟨h, K⟩
    · intro c69
      have h := h.2 c69
      exact ⟨h, K⟩
theorem kx_X9_stayTrouble {Q : Int32 → HS → Prop} {v0 : Nat} {v1 : Int32} {S : HS} (h : P_X9_stayTrouble v0 v1 Q S) : P_X9_stayTrouble v0 v1 (fun r T => Q r T ∧ K8 S T) S := kx_X9_stayTrouble_0 h (k8_rf S)
set_option maxRecDepth 20000 in
set_option maxHeartbeats 1000000 in
theorem kx_X9_stay_111 {Q : Int32 → HS → Prop} {X58 X58_2 : Nat → Int32 → Int64 → Int32 → HS → Prop} {v0 : Nat} {v1 : Int32} {v2 : Int64} {v4 : Int32} {S0 S : HS} (h : P_X9_stay_111 Q X58 v0 v1 v2 v4 S) (K : K8 S0 S) (hX58 : ∀ (u0 : Nat) (u1 : Int32) (u2 : Int64) (u3 : Int32) (u4 : HS), X58 u0 u1 u2 u3 u4 → K8 S0 u4 → X58_2 u0 u1 u2 u3 u4) : P_X9_stay_111 (fun r T => Q r T ∧ K8 S0 T) X58_2 v0 v1 v2 v4 S := by
  delta P_X9_stay_111 at h ⊢
  obtain ⟨c1, h⟩ := h
  refine ⟨c1, ?_⟩
  have n2 := k8_nk K c1 (by decide)
  obtain ⟨b3, e4, h⟩ := h
  refine ⟨b3, e4, ?_⟩
  obtain ⟨c5, h⟩ := h
  refine ⟨c5, ?_⟩
  have n6 := k8_nk K c5 (by decide)
  obtain ⟨b7, e8, h⟩ := h
  refine ⟨b7, e8, ?_⟩
  obtain ⟨c9, h⟩ := h
  refine ⟨c9, ?_⟩
  have n10 := k8_nk K c9 (by decide)
  intro x12 e11
  have h := h x12 e11
  intro x14 e13
  have h := h x14 e13
  intro x16 e15
  have h := h x16 e15
  have K := k8_I K e15 n10
  intro x18 e17
  have h := h x18 e17
  exact hX58 _ _ _ _ _ h K
set_option maxRecDepth 20000 in
set_option maxHeartbeats 1000000 in
theorem kxB_X9_stay_58 {Q : Int32 → HS → Prop} {X58 X58_2 : Nat → Int32 → Int64 → Int32 → HS → Prop} {v0 : Nat} {v1 : Int32} {v2 : Int64} {v4 : Int32} {S0 S : HS} (h : B_X9_stay_58 Q X58 v0 v1 v2 v4 S) (K : K8 S0 S) (hX58 : ∀ (u0 : Nat) (u1 : Int32) (u2 : Int64) (u3 : Int32) (u4 : HS), X58 u0 u1 u2 u3 u4 → K8 S0 u4 → X58_2 u0 u1 u2 u3 u4) : B_X9_stay_58 (fun r T => Q r T ∧ K8 S0 T) X58_2 v0 v1 v2 v4 S := by
  delta B_X9_stay_58 at h ⊢
  refine ⟨?_, ?_⟩
  · intro c1
    have h := h.1 c1
    exact ⟨h, K⟩
  · intro c2
    have h := h.2 c2
    obtain ⟨c3, h⟩ := h
    refine ⟨c3, ?_⟩
    have n4 := k8_nk K c3 (by decide)
    obtain ⟨b5, e6, h⟩ := h
    refine ⟨b5, e6, ?_⟩
    obtain ⟨b7, e8, h⟩ := h
    refine ⟨b7, e8, ?_⟩
    obtain ⟨b9, e10, h⟩ := h
    refine ⟨b9, e10, ?_⟩
    obtain ⟨c11, h⟩ := h
    refine ⟨c11, ?_⟩
    have n12 := k8_nk K c11 (by decide)
    obtain ⟨b13, e14, h⟩ := h
    refine ⟨b13, e14, ?_⟩
    obtain ⟨c15, h⟩ := h
    refine ⟨c15, ?_⟩
    have n16 := k8_nk K c15 (by decide)
    intro x18 e17
    have h := h x18 e17
    obtain ⟨c19, h⟩ := h
    refine ⟨c19, ?_⟩
    have n20 := k8_nk K c19 (by decide)
    have o21 := c19
    refine cm_X8_hourOf (kx_X8_hourOf h) h (fun x22 x23 p25 h g24 => ?_)
    have h := h g24
    have K := k8_tr K p25.2
    have o21 := gr_ob p25.2.1 o21
    obtain ⟨c26, h⟩ := h
    refine ⟨c26, ?_⟩
    have n27 := k8_nk K c26 (by decide)
    refine cm_X0_rainsIn (kx_X0_rainsIn h) h (fun x28 x29 p32 h g30 g31 => ?_)
    have h := h g30 g31
    have K := k8_tr K p32.2
    have o21 := gr_ob p32.2.1 o21
    refine ⟨?_, ?_⟩
    · intro c33
      have h := h.1 c33
      exact kx_X9_stay_111 h K hX58
    · intro c34
      have h := h.2 c34
      obtain ⟨b35, e36, h⟩ := h
      refine ⟨b35, e36, ?_⟩
      obtain ⟨c37, h⟩ := h
      refine ⟨c37, ?_⟩
      have n38 := k8_nk K c37 (by decide)
      obtain ⟨b39, e40, h⟩ := h
      refine ⟨b39, e40, ?_⟩
      obtain ⟨c41, h⟩ := h
      refine ⟨c41, ?_⟩
      have n42 := k8_nk K c41 (by decide)
      obtain ⟨b43, e44, h⟩ := h
      refine ⟨b43, e44, ?_⟩
      obtain ⟨c45, h⟩ := h
      refine ⟨c45, ?_⟩
      have n46 := k8_nk K c45 (by decide)
      obtain ⟨c47, h⟩ := h
      refine ⟨c47, ?_⟩
      intro x49 e48
      have h := h x49 e48
      intro x51 e50
      have h := h x51 e50
      obtain ⟨c52, h⟩ := h
      refine ⟨c52, ?_⟩
      intro x54 e53
      have h := h x54 e53
      have K := k8_J K e53
      have o21 := ob_wJ o21 e53
      exact kx_X9_stay_111 h K hX58
theorem kx_X9_stay_58 {Q : Int32 → HS → Prop} {v0 : Nat} {v1 : Int32} {v2 : Int64} {v4 : Int32} {S0 S : HS} (h : P_X9_stay_58 Q v0 v1 v2 v4 S) (K : K8 S0 S) : P_X9_stay_58 (fun r T => Q r T ∧ K8 S0 T) v0 v1 v2 v4 S := h (fun v0 v1 v2 v4 S => K8 S0 S → P_X9_stay_58 (fun r T => Q r T ∧ K8 S0 T) v0 v1 v2 v4 S) (fun v0 v1 v2 v4 S hB K => fd_X9_stay_58 (kxB_X9_stay_58 hB K (fun _ _ _ _ _ hx K => hx K))) K
set_option maxRecDepth 20000 in
set_option maxHeartbeats 1000000 in
theorem kx_X9_stay_0 {Q : Int32 → HS → Prop} {v0 : Nat} {v1 : Int32} {S0 S : HS} (h : P_X9_stay_0 Q v0 v1 S) (K : K8 S0 S) : P_X9_stay_0 (fun r T => Q r T ∧ K8 S0 T) v0 v1 S := by
  delta P_X9_stay_0 at h ⊢
  obtain ⟨c1, h⟩ := h
  refine ⟨c1, ?_⟩
  have n2 := k8_nk K c1 (by decide)
  refine cm_X9_stayTrouble (kx_X9_stayTrouble h) h (fun x3 x4 p6 h g5 => ?_)
  have h := h g5
  have K := k8_tr K p6.2
  refine cm_X9_refusedBy (kx_X9_refusedBy h) h (fun x7 x8 p11 h g9 g10 => ?_)
  have h := h g9 g10
  have K := k8_tr K p11.2
  refine ⟨?_, ?_⟩
  · intro c12
    have h := h.1 c12
    obtain ⟨b13, e14, h⟩ := h
    refine ⟨b13, e14, ?_⟩
    obtain ⟨c15, h⟩ := h
    refine ⟨c15, ?_⟩
    have n16 := k8_nk K c15 (by decide)
    refine cm_X0_keepForUndo (kx_X0_keepForUndo h) h (fun x17 p19 h g18 => ?_)
    have h := h g18
    have K := k8_tr K p19.2
    obtain ⟨b20, e21, h⟩ := h
    refine ⟨b20, e21, ?_⟩
    obtain ⟨b22, e23, h⟩ := h
    refine ⟨b22, e23, ?_⟩
    obtain ⟨c24, h⟩ := h
    refine ⟨c24, ?_⟩
    have n25 := k8_nk K c24 (by decide)
    have o26 := c24
    obtain ⟨b27, e28, h⟩ := h
    refine ⟨b27, e28, ?_⟩
    obtain ⟨b29, e30, h⟩ := h
    refine ⟨b29, e30, ?_⟩
    obtain ⟨c31, h⟩ := h
    refine ⟨c31, ?_⟩
    have n32 := k8_nk K c31 (by decide)
    intro x34 e33
    have h := h x34 e33
    obtain ⟨c35, h⟩ := h
    refine ⟨c35, ?_⟩
    have n36 := k8_nk K c35 (by decide)
    obtain ⟨c37, h⟩ := h
    refine ⟨c37, ?_⟩
    obtain ⟨b38, e39, h⟩ := h
    refine ⟨b38, e39, ?_⟩
    obtain ⟨b40, e41, h⟩ := h
    refine ⟨b40, e41, ?_⟩
    obtain ⟨c42, h⟩ := h
    refine ⟨c42, ?_⟩
    have n43 := k8_nk K c42 (by decide)
    obtain ⟨b44, e45, h⟩ := h
    refine ⟨b44, e45, ?_⟩
    obtain ⟨c46, h⟩ := h
    refine ⟨c46, ?_⟩
    have n47 := k8_nk K c46 (by decide)
    intro x49 e48
    have h := h x49 e48
    obtain ⟨c50, h⟩ := h
    refine ⟨c50, ?_⟩
    have n51 := k8_nk K c50 (by decide)
    have o52 := c50
    refine cm_X8_dripOn (kx_X8_dripOn h) h (fun x53 x54 p56 h g55 => ?_)
    have h := h g55
    have K := k8_tr K p56.2
    have o26 := gr_ob p56.2.1 o26
    have o52 := gr_ob p56.2.1 o52
    intro x58 e57
    have h := h x58 e57
    exact kx_X9_stay_58 h K
  · intro c59
    have h := h.2 c59
    exact ⟨h, K⟩
theorem kx_X9_stay {Q : Int32 → HS → Prop} {v0 : Nat} {v1 : Int32} {S : HS} (h : P_X9_stay v0 v1 Q S) : P_X9_stay v0 v1 (fun r T => Q r T ∧ K8 S T) S := kx_X9_stay_0 h (k8_rf S)
set_option maxRecDepth 20000 in
set_option maxHeartbeats 1000000 in
theorem kx_X9_step_61 {Q : Int32 → HS → Prop} {v0 : Nat} {S0 S : HS} (h : P_X9_step_61 Q v0 S) (K : K8 S0 S) : P_X9_step_61 (fun r T => Q r T ∧ K8 S0 T) v0 S := by
  delta P_X9_step_61 at h ⊢
  obtain ⟨c1, h⟩ := h
  refine ⟨c1, ?_⟩
  have n2 := k8_nk K c1 (by decide)
  refine cm_X9_refuse (kx_X9_refuse h) h (fun x3 x4 p6 h g5 => ?_)
  have h := h g5
  have K := k8_tr K p6.2
  exact ⟨h, K⟩
set_option maxRecDepth 20000 in
set_option maxHeartbeats 1000000 in
theorem kx_X9_step_0 {Q : Int32 → HS → Prop} {v0 : Nat} {v1 : Int32} {v2 : Int32} {v3 : Int32} {v4 : Int32} {v5 : Int32} {v6 : Int32} {S0 S : HS} (h : P_X9_step_0 Q v0 v1 v2 v3 v4 v5 v6 S) (K : K8 S0 S) : P_X9_step_0 (fun r T => Q r T ∧ K8 S0 T) v0 v1 v2 v3 v4 v5 v6 S := by
  delta P_X9_step_0 at h ⊢
  obtain ⟨c1, h⟩ := h
  refine ⟨c1, ?_⟩
  have n2 := k8_nk K c1 (by decide)
  refine cm_X9_wayTrouble (kx_X9_wayTrouble h) h (fun x3 x4 p6 h g5 => ?_)
  have h := h g5
  have K := k8_tr K p6.2
  refine cm_X9_refusedBy (kx_X9_refusedBy h) h (fun x7 x8 p11 h g9 g10 => ?_)
  have h := h g9 g10
  have K := k8_tr K p11.2
  refine ⟨?_, ?_⟩
  · intro c12
    have h := h.1 c12
    obtain ⟨b13, e14, h⟩ := h
    refine ⟨b13, e14, ?_⟩
    obtain ⟨b15, e16, h⟩ := h
    refine ⟨b15, e16, ?_⟩
    obtain ⟨c17, h⟩ := h
    refine ⟨c17, ?_⟩
    have n18 := k8_nk K c17 (by decide)
    have o19 := c17
    refine cm_X7_trace (kx_X7_trace h) h (fun x20 x21 p23 h g22 => ?_)
    have h := h g22
    have K := k8_tr K p23.2
    have o19 := gr_ob p23.2.1 o19
    refine ⟨?_, ?_⟩
    · intro c24
      have h := h.1 c24
      exact kx_X9_step_61 h K
    · intro c25
      have h := h.2 c25
      refine ⟨?_, ?_⟩
      · intro c26
        have h := h.1 c26
        exact kx_X9_step_61 h K
      · intro c27
        have h := h.2 c27
        obtain ⟨b28, e29, h⟩ := h
        refine ⟨b28, e29, ?_⟩
        obtain ⟨c30, h⟩ := h
        refine ⟨c30, ?_⟩
        have n31 := k8_nk K c30 (by decide)
        have o32 := c30
        obtain ⟨b33, e34, h⟩ := h
        refine ⟨b33, e34, ?_⟩
        have n35 := k8_nr K e34 o32 (by decide)
        obtain ⟨c36, h⟩ := h
        refine ⟨c36, ?_⟩
        refine ⟨?_, ?_⟩
        · intro c37
          have h := h.1 c37
          obtain ⟨b38, e39, h⟩ := h
          refine ⟨b38, e39, ?_⟩
          obtain ⟨c40, h⟩ := h
          refine ⟨c40, ?_⟩
          have n41 := k8_nk K c40 (by decide)
          have o42 := c40
          obtain ⟨b43, e44, h⟩ := h
          refine ⟨b43, e44, ?_⟩
          have n45 := k8_nr K e44 o42 (by decide)
          obtain ⟨c46, h⟩ := h
          refine ⟨c46, ?_⟩
          obtain ⟨c47, h⟩ := h
          refine ⟨c47, ?_⟩
          intro x49 e48
          have h := h x49 e48
          exact ⟨h, K⟩
        · intro c50
          have h := h.2 c50
          exact kx_X9_step_61 h K
  · intro c51
    have h := h.2 c51
    exact ⟨h, K⟩
theorem kx_X9_step {Q : Int32 → HS → Prop} {v0 : Nat} {v1 : Int32} {v2 : Int32} {v3 : Int32} {v4 : Int32} {v5 : Int32} {v6 : Int32} {S : HS} (h : P_X9_step v0 v1 v2 v3 v4 v5 v6 Q S) : P_X9_step v0 v1 v2 v3 v4 v5 v6 (fun r T => Q r T ∧ K8 S T) S := kx_X9_step_0 h (k8_rf S)
set_option maxRecDepth 20000 in
set_option maxHeartbeats 1000000 in
theorem kx_X9_steps_0 {Q : Int32 → HS → Prop} {v0 : Nat} {v1 : Int32} {v2 : Int32} {v3 : Int32} {v4 : Int32} {v5 : Int32} {S0 S : HS} (h : P_X9_steps_0 Q v0 v1 v2 v3 v4 v5 S) (K : K8 S0 S) : P_X9_steps_0 (fun r T => Q r T ∧ K8 S0 T) v0 v1 v2 v3 v4 v5 S := by
  delta P_X9_steps_0 at h ⊢
  obtain ⟨c1, h⟩ := h
  refine ⟨c1, ?_⟩
  have n2 := k8_nk K c1 (by decide)
  refine cm_X9_wayTrouble (kx_X9_wayTrouble h) h (fun x3 x4 p6 h g5 => ?_)
  have h := h g5
  have K := k8_tr K p6.2
  refine cm_X9_refusedBy (kx_X9_refusedBy h) h (fun x7 x8 p11 h g9 g10 => ?_)
  have h := h g9 g10
  have K := k8_tr K p11.2
  refine ⟨?_, ?_⟩
  · intro c12
    have h := h.1 c12
    obtain ⟨b13, e14, h⟩ := h
    refine ⟨b13, e14, ?_⟩
    obtain ⟨b15, e16, h⟩ := h
    refine ⟨b15, e16, ?_⟩
    obtain ⟨c17, h⟩ := h
    refine ⟨c17, ?_⟩
    have n18 := k8_nk K c17 (by decide)
    have o19 := c17
    refine cm_X7_trace (kx_X7_trace h) h (fun x20 x21 p23 h g22 => ?_)
    have h := h g22
    have K := k8_tr K p23.2
    have o19 := gr_ob p23.2.1 o19
    exact ⟨h, K⟩
  · intro c24
    have h := h.2 c24
    exact ⟨h, K⟩
theorem kx_X9_steps {Q : Int32 → HS → Prop} {v0 : Nat} {v1 : Int32} {v2 : Int32} {v3 : Int32} {v4 : Int32} {v5 : Int32} {S : HS} (h : P_X9_steps v0 v1 v2 v3 v4 v5 Q S) : P_X9_steps v0 v1 v2 v3 v4 v5 (fun r T => Q r T ∧ K8 S T) S := kx_X9_steps_0 h (k8_rf S)
set_option maxRecDepth 20000 in
set_option maxHeartbeats 1000000 in
theorem kx_X9_there_0 {Q : Int32 → HS → Prop} {v0 : Nat} {v1 : Int32} {v2 : Int32} {v3 : Int32} {v4 : Int32} {v5 : Int32} {S0 S : HS} (h : P_X9_there_0 Q v0 v1 v2 v3 v4 v5 S) (K : K8 S0 S) : P_X9_there_0 (fun r T => Q r T ∧ K8 S0 T) v0 v1 v2 v3 v4 v5 S := by
  delta P_X9_there_0 at h ⊢
  obtain ⟨c1, h⟩ := h
  refine ⟨c1, ?_⟩
  have n2 := k8_nk K c1 (by decide)
  refine cm_X9_wayTrouble (kx_X9_wayTrouble h) h (fun x3 x4 p6 h g5 => ?_)
  have h := h g5
  have K := k8_tr K p6.2
  refine cm_X9_refusedBy (kx_X9_refusedBy h) h (fun x7 x8 p11 h g9 g10 => ?_)
  have h := h g9 g10
  have K := k8_tr K p11.2
  refine ⟨?_, ?_⟩
  · intro c12
    have h := h.1 c12
    obtain ⟨b13, e14, h⟩ := h
    refine ⟨b13, e14, ?_⟩
    obtain ⟨c15, h⟩ := h
    refine ⟨c15, ?_⟩
    have n16 := k8_nk K c15 (by decide)
    have o17 := c15
    refine cm_X7_endFrom (kx_X7_endFrom h) h (fun x18 x19 p21 h g20 => ?_)
    have h := h g20
    have K := k8_tr K p21.2
    have o17 := gr_ob p21.2.1 o17
    exact ⟨h, K⟩
  · intro c22
    have h := h.2 c22
    exact ⟨h, K⟩
theorem kx_X9_there {Q : Int32 → HS → Prop} {v0 : Nat} {v1 : Int32} {v2 : Int32} {v3 : Int32} {v4 : Int32} {v5 : Int32} {S : HS} (h : P_X9_there v0 v1 v2 v3 v4 v5 Q S) : P_X9_there v0 v1 v2 v3 v4 v5 (fun r T => Q r T ∧ K8 S T) S := kx_X9_there_0 h (k8_rf S)
set_option maxRecDepth 20000 in
set_option maxHeartbeats 1000000 in
theorem kx_X9_trouble_0 {Q : Int32 → HS → Prop} {v0 : Nat} {S0 S : HS} (h : P_X9_trouble_0 Q v0 S) (K : K8 S0 S) : P_X9_trouble_0 (fun r T => Q r T ∧ K8 S0 T) v0 S := by
  delta P_X9_trouble_0 at h ⊢
  obtain ⟨c1, h⟩ := h
  refine ⟨c1, ?_⟩
  have n2 := k8_nk K c1 (by decide)
  intro x4 e3
  have h := h x4 e3
  exact ⟨h, K⟩
theorem kx_X9_trouble {Q : Int32 → HS → Prop} {v0 : Nat} {S : HS} (h : P_X9_trouble v0 Q S) : P_X9_trouble v0 (fun r T => Q r T ∧ K8 S T) S := kx_X9_trouble_0 h (k8_rf S)
set_option maxRecDepth 20000 in
set_option maxHeartbeats 1000000 in
theorem kx_X9_undo_17 {Q : Int32 → HS → Prop} {s0 : Nat} {s1 : Int32} {S0 S : HS} (h : P_X9_undo_17 Q s0 s1 S) (K : K8 S0 S) : P_X9_undo_17 (fun r T => Q r T ∧ K8 S0 T) s0 s1 S := by
  delta P_X9_undo_17 at h ⊢
  obtain ⟨c1, h⟩ := h
  refine ⟨c1, ?_⟩
  have n2 := k8_nk K c1 (by decide)
  refine cm_X9_refusedBy (kx_X9_refusedBy h) h (fun x3 x4 p7 h g5 g6 => ?_)
  have h := h g5 g6
  have K := k8_tr K p7.2
  refine ⟨?_, ?_⟩
  · intro c8
    have h := h.1 c8
    exact ⟨h, K⟩
  · intro c9
    have h := h.2 c9
    exact ⟨h, K⟩
set_option maxRecDepth 20000 in
set_option maxHeartbeats 1000000 in
theorem kx_X9_undo_0 {Q : Int32 → HS → Prop} {v0 : Nat} {S0 S : HS} (h : P_X9_undo_0 Q v0 S) (K : K8 S0 S) : P_X9_undo_0 (fun r T => Q r T ∧ K8 S0 T) v0 S := by
  delta P_X9_undo_0 at h ⊢
  obtain ⟨c1, h⟩ := h
  refine ⟨c1, ?_⟩
  have n2 := k8_nk K c1 (by decide)
  obtain ⟨b3, e4, h⟩ := h
  refine ⟨b3, e4, ?_⟩
  obtain ⟨c5, h⟩ := h
  refine ⟨c5, ?_⟩
  have n6 := k8_nk K c5 (by decide)
  refine cm_X0_takeBack (kx_X0_takeBack h) h (fun x7 x8 p11 h g9 g10 => ?_)
  have h := h g9 g10
  have K := k8_tr K p11.2
  refine ⟨?_, ?_⟩
  · intro c12
    have h := h.1 c12
    exact kx_X9_undo_17 h K
  · intro c13
    have h := h.2 c13
    exact kx_X9_undo_17 h K
theorem kx_X9_undo {Q : Int32 → HS → Prop} {v0 : Nat} {S : HS} (h : P_X9_undo v0 Q S) : P_X9_undo v0 (fun r T => Q r T ∧ K8 S T) S := kx_X9_undo_0 h (k8_rf S)
set_option maxRecDepth 20000 in
set_option maxHeartbeats 1000000 in
theorem kx_X9_walker_21 {Q : Int32 → HS → Prop} {v0 : Nat} {S0 S : HS} (h : P_X9_walker_21 Q v0 S) (K : K8 S0 S) : P_X9_walker_21 (fun r T => Q r T ∧ K8 S0 T) v0 S := by
  delta P_X9_walker_21 at h ⊢
  obtain ⟨c1, h⟩ := h
  refine ⟨c1, ?_⟩
  have n2 := k8_nk K c1 (by decide)
  refine cm_X9_refuse (kx_X9_refuse h) h (fun x3 x4 p6 h g5 => ?_)
  have h := h g5
  have K := k8_tr K p6.2
  exact ⟨h, K⟩
set_option maxRecDepth 20000 in
set_option maxHeartbeats 1000000 in
theorem kx_X9_walker_0 {Q : Int32 → HS → Prop} {v0 : Nat} {v1 : Int32} {v2 : Int32} {S0 S : HS} (h : P_X9_walker_0 Q v0 v1 v2 S) (K : K8 S0 S) : P_X9_walker_0 (fun r T => Q r T ∧ K8 S0 T) v0 v1 v2 S := by
  delta P_X9_walker_0 at h ⊢
  obtain ⟨c1, h⟩ := h
  refine ⟨c1, ?_⟩
  have n2 := k8_nk K c1 (by decide)
  obtain ⟨b3, e4, h⟩ := h
  refine ⟨b3, e4, ?_⟩
  obtain ⟨c5, h⟩ := h
  refine ⟨c5, ?_⟩
  have n6 := k8_nk K c5 (by decide)
  have o7 := c5
  refine cm_X8_hasWalker (kx_X8_hasWalker h) h (fun x8 x9 p12 h g10 g11 => ?_)
  have h := h g10 g11
  have K := k8_tr K p12.2
  have o7 := gr_ob p12.2.1 o7
  refine ⟨?_, ?_⟩
  · intro c13
    have h := h.1 c13
    exact kx_X9_walker_21 h K
  · intro c14
    have h := h.2 c14
    refine ⟨?_, ?_⟩
    · intro c15
      have h := h.1 c15
      exact kx_X9_walker_21 h K
    · intro c16
      have h := h.2 c16
      refine ⟨?_, ?_⟩
      · intro c17
        have h := h.1 c17
        obtain ⟨b18, e19, h⟩ := h
        refine ⟨b18, e19, ?_⟩
        obtain ⟨c20, h⟩ := h
        refine ⟨c20, ?_⟩
        have n21 := k8_nk K c20 (by decide)
        have o22 := c20
        obtain ⟨b23, e24, h⟩ := h
        refine ⟨b23, e24, ?_⟩
        obtain ⟨c25, h⟩ := h
        refine ⟨c25, ?_⟩
        have n26 := k8_nk K c25 (by decide)
        obtain ⟨c27, h⟩ := h
        refine ⟨c27, ?_⟩
        obtain ⟨b28, e29, h⟩ := h
        refine ⟨b28, e29, ?_⟩
        obtain ⟨c30, h⟩ := h
        refine ⟨c30, ?_⟩
        have n31 := k8_nk K c30 (by decide)
        refine cm_X6_tell (kx_X6_tell h) h (fun x32 x33 p35 h g34 => ?_)
        have h := h g34
        have K := k8_tr K p35.2
        have o7 := gr_ob p35.2.1 o7
        have o22 := gr_ob p35.2.1 o22
        refine cm_X9_grant (kx_X9_grant h) h (fun x36 x37 p39 h g38 => ?_)
        have h := h g38
        have K := k8_tr K p39.2
        have o7 := gr_ob p39.2.1 o7
        have o22 := gr_ob p39.2.1 o22
        exact ⟨h, K⟩
      · intro c40
        have h := h.2 c40
        exact kx_X9_walker_21 h K
theorem kx_X9_walker {Q : Int32 → HS → Prop} {v0 : Nat} {v1 : Int32} {v2 : Int32} {S : HS} (h : P_X9_walker v0 v1 v2 Q S) : P_X9_walker v0 v1 v2 (fun r T => Q r T ∧ K8 S T) S := kx_X9_walker_0 h (k8_rf S)
set_option maxRecDepth 20000 in
set_option maxHeartbeats 1000000 in
theorem kx_X9_wet_0 {Q : Int64 → HS → Prop} {v0 : Nat} {v1 : Int32} {v2 : Int32} {v3 : Int32} {v4 : Int32} {v5 : Int32} {v6 : Int32} {S0 S : HS} (h : P_X9_wet_0 Q v0 v1 v2 v3 v4 v5 v6 S) (K : K8 S0 S) : P_X9_wet_0 (fun r T => Q r T ∧ K8 S0 T) v0 v1 v2 v3 v4 v5 v6 S := by
  delta P_X9_wet_0 at h ⊢
  obtain ⟨c1, h⟩ := h
  refine ⟨c1, ?_⟩
  have n2 := k8_nk K c1 (by decide)
  refine cm_X9_legTrouble (kx_X9_legTrouble h) h (fun x3 x4 p6 h g5 => ?_)
  have h := h g5
  have K := k8_tr K p6.2
  refine cm_X9_refusedBy (kx_X9_refusedBy h) h (fun x7 x8 p11 h g9 g10 => ?_)
  have h := h g9 g10
  have K := k8_tr K p11.2
  refine ⟨?_, ?_⟩
  · intro c12
    have h := h.1 c12
    obtain ⟨b13, e14, h⟩ := h
    refine ⟨b13, e14, ?_⟩
    obtain ⟨b15, e16, h⟩ := h
    refine ⟨b15, e16, ?_⟩
    obtain ⟨c17, h⟩ := h
    refine ⟨c17, ?_⟩
    have n18 := k8_nk K c17 (by decide)
    have o19 := c17
    obtain ⟨b20, e21, h⟩ := h
    refine ⟨b20, e21, ?_⟩
    obtain ⟨c22, h⟩ := h
    refine ⟨c22, ?_⟩
    have n23 := k8_nk K c22 (by decide)
    obtain ⟨c24, h⟩ := h
    refine ⟨c24, ?_⟩
    obtain ⟨b25, e26, h⟩ := h
    refine ⟨b25, e26, ?_⟩
    obtain ⟨b27, e28, h⟩ := h
    refine ⟨b27, e28, ?_⟩
    obtain ⟨c29, h⟩ := h
    refine ⟨c29, ?_⟩
    have n30 := k8_nk K c29 (by decide)
    have o31 := c29
    obtain ⟨b32, e33, h⟩ := h
    refine ⟨b32, e33, ?_⟩
    obtain ⟨c34, h⟩ := h
    refine ⟨c34, ?_⟩
    have n35 := k8_nk K c34 (by decide)
    obtain ⟨c36, h⟩ := h
    refine ⟨c36, ?_⟩
    obtain ⟨b37, e38, h⟩ := h
    refine ⟨b37, e38, ?_⟩
    obtain ⟨b39, e40, h⟩ := h
    refine ⟨b39, e40, ?_⟩
    obtain ⟨c41, h⟩ := h
    refine ⟨c41, ?_⟩
    have n42 := k8_nk K c41 (by decide)
    have o43 := c41
    obtain ⟨b44, e45, h⟩ := h
    refine ⟨b44, e45, ?_⟩
    obtain ⟨c46, h⟩ := h
    refine ⟨c46, ?_⟩
    have n47 := k8_nk K c46 (by decide)
    obtain ⟨c48, h⟩ := h
    refine ⟨c48, ?_⟩
    obtain ⟨b49, e50, h⟩ := h
    refine ⟨b49, e50, ?_⟩
    obtain ⟨c51, h⟩ := h
    refine ⟨c51, ?_⟩
    have n52 := k8_nk K c51 (by decide)
    refine cm_X1_wetOf (kx_X1_wetOf h) h (fun x53 x54 p56 h g55 => ?_)
    have h := h g55
    have K := k8_tr K p56.2
    have o19 := gr_ob p56.2.1 o19
    have o31 := gr_ob p56.2.1 o31
    have o43 := gr_ob p56.2.1 o43
    refine cm_X9_fraction (kx_X9_fraction h) h (fun x57 x58 p60 h g59 => ?_)
    have h := h g59
    have K := k8_tr K p60.2
    have o19 := gr_ob p60.2.1 o19
    have o31 := gr_ob p60.2.1 o31
    have o43 := gr_ob p60.2.1 o43
    exact ⟨h, K⟩
  · intro c61
    have h := h.2 c61
    exact ⟨h, K⟩
theorem kx_X9_wet {Q : Int64 → HS → Prop} {v0 : Nat} {v1 : Int32} {v2 : Int32} {v3 : Int32} {v4 : Int32} {v5 : Int32} {v6 : Int32} {S : HS} (h : P_X9_wet v0 v1 v2 v3 v4 v5 v6 Q S) : P_X9_wet v0 v1 v2 v3 v4 v5 v6 (fun r T => Q r T ∧ K8 S T) S := kx_X9_wet_0 h (k8_rf S)
set_option maxRecDepth 20000 in
set_option maxHeartbeats 1000000 in
theorem kx_X9_wetness_27 {Q : Int64 → HS → Prop} {v0 : Nat} {S0 S : HS} (h : P_X9_wetness_27 Q v0 S) (K : K8 S0 S) : P_X9_wetness_27 (fun r T => Q r T ∧ K8 S0 T) v0 S := by
  delta P_X9_wetness_27 at h ⊢
  obtain ⟨c1, h⟩ := h
  refine ⟨c1, ?_⟩
  have n2 := k8_nk K c1 (by decide)
  refine cm_X9_refuse (kx_X9_refuse h) h (fun x3 x4 p6 h g5 => ?_)
  have h := h g5
  have K := k8_tr K p6.2
  exact ⟨h, K⟩
set_option maxRecDepth 20000 in
set_option maxHeartbeats 1000000 in
theorem kx_X9_wetness_0 {Q : Int64 → HS → Prop} {v0 : Nat} {v1 : Int32} {S0 S : HS} (h : P_X9_wetness_0 Q v0 v1 S) (K : K8 S0 S) : P_X9_wetness_0 (fun r T => Q r T ∧ K8 S0 T) v0 v1 S := by
  delta P_X9_wetness_0 at h ⊢
  obtain ⟨c1, h⟩ := h
  refine ⟨c1, ?_⟩
  have n2 := k8_nk K c1 (by decide)
  obtain ⟨b3, e4, h⟩ := h
  refine ⟨b3, e4, ?_⟩
  obtain ⟨c5, h⟩ := h
  refine ⟨c5, ?_⟩
  have n6 := k8_nk K c5 (by decide)
  refine cm_X0_isOn (kx_X0_isOn h) h (fun x7 x8 p11 h g9 g10 => ?_)
  have h := h g9 g10
  have K := k8_tr K p11.2
  refine ⟨?_, ?_⟩
  · intro c12
    have h := h.1 c12
    exact kx_X9_wetness_27 h K
  · intro c13
    have h := h.2 c13
    obtain ⟨b14, e15, h⟩ := h
    refine ⟨b14, e15, ?_⟩
    obtain ⟨b16, e17, h⟩ := h
    refine ⟨b16, e17, ?_⟩
    obtain ⟨c18, h⟩ := h
    refine ⟨c18, ?_⟩
    have n19 := k8_nk K c18 (by decide)
    intro x21 e20
    have h := h x21 e20
    obtain ⟨c22, h⟩ := h
    refine ⟨c22, ?_⟩
    have n23 := k8_nk K c22 (by decide)
    have o24 := c22
    refine cm_X8_hasWalker (kx_X8_hasWalker h) h (fun x25 x26 p29 h g27 g28 => ?_)
    have h := h g27 g28
    have K := k8_tr K p29.2
    have o24 := gr_ob p29.2.1 o24
    refine ⟨?_, ?_⟩
    · intro c30
      have h := h.1 c30
      intro x32 e31
      have h := h x32 e31
      have K := k8_I K e31 n2
      have o24 := ob_wI o24 e31
      obtain ⟨b33, e34, h⟩ := h
      refine ⟨b33, e34, ?_⟩
      obtain ⟨c35, h⟩ := h
      refine ⟨c35, ?_⟩
      have n36 := k8_nk K c35 (by decide)
      obtain ⟨b37, e38, h⟩ := h
      refine ⟨b37, e38, ?_⟩
      obtain ⟨c39, h⟩ := h
      refine ⟨c39, ?_⟩
      have n40 := k8_nk K c39 (by decide)
      refine cm_X2_allGot (kx_X2_allGot h) h (fun x41 x42 p44 h g43 => ?_)
      have h := h g43
      have K := k8_tr K p44.2
      have o24 := gr_ob p44.2.1 o24
      obtain ⟨b45, e46, h⟩ := h
      refine ⟨b45, e46, ?_⟩
      obtain ⟨c47, h⟩ := h
      refine ⟨c47, ?_⟩
      have n48 := k8_nk K c47 (by decide)
      have o49 := c47
      obtain ⟨b50, e51, h⟩ := h
      refine ⟨b50, e51, ?_⟩
      obtain ⟨b52, e53, h⟩ := h
      refine ⟨b52, e53, ?_⟩
      obtain ⟨c54, h⟩ := h
      refine ⟨c54, ?_⟩
      have n55 := k8_nk K c54 (by decide)
      intro x57 e56
      have h := h x57 e56
      obtain ⟨c58, h⟩ := h
      refine ⟨c58, ?_⟩
      have n59 := k8_nk K c58 (by decide)
      obtain ⟨c60, h⟩ := h
      refine ⟨c60, ?_⟩
      obtain ⟨b61, e62, h⟩ := h
      refine ⟨b61, e62, ?_⟩
      refine cm_X9_coatParts (kx_X9_coatParts h) h (fun x63 x64 p66 h g65 => ?_)
      have h := h g65
      have K := k8_tr K p66.2
      have o24 := gr_ob p66.2.1 o24
      have o49 := gr_ob p66.2.1 o49
      intro x68 e67
      have h := h x68 e67
      intro x70 e69
      have h := h x70 e69
      refine cm_X9_fraction (kx_X9_fraction h) h (fun x71 x72 p74 h g73 => ?_)
      have h := h g73
      have K := k8_tr K p74.2
      have o24 := gr_ob p74.2.1 o24
      have o49 := gr_ob p74.2.1 o49
      exact ⟨h, K⟩
    · intro c75
      have h := h.2 c75
      exact kx_X9_wetness_27 h K
theorem kx_X9_wetness {Q : Int64 → HS → Prop} {v0 : Nat} {v1 : Int32} {S : HS} (h : P_X9_wetness v0 v1 Q S) : P_X9_wetness v0 v1 (fun r T => Q r T ∧ K8 S T) S := kx_X9_wetness_0 h (k8_rf S)
set_option maxRecDepth 20000 in
set_option maxHeartbeats 1000000 in
theorem kx_X9_where_0 {Q : Int32 → HS → Prop} {v0 : Nat} {S0 S : HS} (h : P_X9_where_0 Q v0 S) (K : K8 S0 S) : P_X9_where_0 (fun r T => Q r T ∧ K8 S0 T) v0 S := by
  delta P_X9_where_0 at h ⊢
  obtain ⟨c1, h⟩ := h
  refine ⟨c1, ?_⟩
  have n2 := k8_nk K c1 (by decide)
  intro x4 e3
  have h := h x4 e3
  refine ⟨?_, ?_⟩
  · intro c5
    have h := h.1 c5
    exact ⟨h, K⟩
  · intro c6
    have h := h.2 c6
    intro x8 e7
    have h := h x8 e7
    exact ⟨h, K⟩
theorem kx_X9_where {Q : Int32 → HS → Prop} {v0 : Nat} {S : HS} (h : P_X9_where v0 Q S) : P_X9_where v0 (fun r T => Q r T ∧ K8 S T) S := kx_X9_where_0 h (k8_rf S)
set_option maxRecDepth 20000 in
set_option maxHeartbeats 1000000 in
theorem kx_X9_world_12 {Q : Int32 → HS → Prop} {v0 : Nat} {S0 S : HS} (h : P_X9_world_12 Q v0 S) (K : K8 S0 S) : P_X9_world_12 (fun r T => Q r T ∧ K8 S0 T) v0 S := by
  delta P_X9_world_12 at h ⊢
  obtain ⟨c1, h⟩ := h
  refine ⟨c1, ?_⟩
  have n2 := k8_nk K c1 (by decide)
  refine cm_X9_refuse (kx_X9_refuse h) h (fun x3 x4 p6 h g5 => ?_)
  have h := h g5
  have K := k8_tr K p6.2
  exact ⟨h, K⟩
set_option maxRecDepth 20000 in
set_option maxHeartbeats 1000000 in
theorem kx_X9_world_0 {Q : Int32 → HS → Prop} {v0 : Nat} {v1 : Int32} {S0 S : HS} (h : P_X9_world_0 Q v0 v1 S) (K : K8 S0 S) : P_X9_world_0 (fun r T => Q r T ∧ K8 S0 T) v0 v1 S := by
  delta P_X9_world_0 at h ⊢
  refine ⟨?_, ?_⟩
  · intro c1
    have h := h.1 c1
    exact kx_X9_world_12 h K
  · intro c2
    have h := h.2 c2
    obtain ⟨c3, h⟩ := h
    refine ⟨c3, ?_⟩
    have n4 := k8_nk K c3 (by decide)
    have o5 := c3
    intro x7 e6
    have h := h x7 e6
    refine ⟨?_, ?_⟩
    · intro c8
      have h := h.1 c8
      obtain ⟨b9, e10, h⟩ := h
      refine ⟨b9, e10, ?_⟩
      obtain ⟨b11, e12, h⟩ := h
      refine ⟨b11, e12, ?_⟩
      obtain ⟨c13, h⟩ := h
      refine ⟨c13, ?_⟩
      have n14 := k8_nk K c13 (by decide)
      have o15 := c13
      refine cm_X4_read (kx_X4_read h) h (fun x16 x17 p20 h g18 g19 => ?_)
      have h := h g18 g19
      have K := k8_tr K p20.2
      have o5 := gr_ob p20.2.1 o5
      have o15 := gr_ob p20.2.1 o15
      intro x22 e21
      have h := h x22 e21
      have K := k8_I K e21 n4
      have o5 := ob_wI o5 e21
      have o15 := ob_wI o15 e21
      obtain ⟨b23, e24, h⟩ := h
      refine ⟨b23, e24, ?_⟩
      obtain ⟨c25, h⟩ := h
      refine ⟨c25, ?_⟩
      have n26 := k8_nk K c25 (by decide)
      have o27 := c25
      intro x29 e28
      have h := h x29 e28
      intro x31 e30
      have h := h x31 e30
      have K := k8_I K e30 n4
      have o5 := ob_wI o5 e30
      have o15 := ob_wI o15 e30
      have o27 := ob_wI o27 e30
      obtain ⟨b32, e33, h⟩ := h
      refine ⟨b32, e33, ?_⟩
      obtain ⟨c34, h⟩ := h
      refine ⟨c34, ?_⟩
      have n35 := k8_nk K c34 (by decide)
      have o36 := c34
      intro x38 e37
      have h := h x38 e37
      intro x40 e39
      have h := h x40 e39
      have K := k8_I K e39 n4
      have o5 := ob_wI o5 e39
      have o15 := ob_wI o15 e39
      have o27 := ob_wI o27 e39
      have o36 := ob_wI o36 e39
      refine ⟨?_, ?_⟩
      · intro c41
        have h := h.1 c41
        obtain ⟨b42, e43, h⟩ := h
        refine ⟨b42, e43, ?_⟩
        obtain ⟨b44, e45, h⟩ := h
        refine ⟨b44, e45, ?_⟩
        obtain ⟨c46, h⟩ := h
        refine ⟨c46, ?_⟩
        have n47 := k8_nk K c46 (by decide)
        have o48 := c46
        refine cm_X4_exchange (kx_X4_exchange h) h (fun x49 x50 p52 h g51 => ?_)
        have h := h g51
        have K := k8_tr K p52.2
        have o5 := gr_ob p52.2.1 o5
        have o15 := gr_ob p52.2.1 o15
        have o27 := gr_ob p52.2.1 o27
        have o36 := gr_ob p52.2.1 o36
        have o48 := gr_ob p52.2.1 o48
        intro x54 e53
        have h := h x54 e53
        have K := k8_R K e53 o5 (by decide) (by decide)
        have o5 := ob_wR o5 e53
        have o15 := ob_wR o15 e53
        have o27 := ob_wR o27 e53
        have o36 := ob_wR o36 e53
        have o48 := ob_wR o48 e53
        obtain ⟨b55, e56, h⟩ := h
        refine ⟨b55, e56, ?_⟩
        obtain ⟨c57, h⟩ := h
        refine ⟨c57, ?_⟩
        have n58 := k8_nk K c57 (by decide)
        have o59 := c57
        refine cm_X7_forget (kx_X7_forget h) h (fun x60 p62 h g61 => ?_)
        have h := h g61
        have K := k8_tr K p62.2
        have o5 := gr_ob p62.2.1 o5
        have o15 := gr_ob p62.2.1 o15
        have o27 := gr_ob p62.2.1 o27
        have o36 := gr_ob p62.2.1 o36
        have o48 := gr_ob p62.2.1 o48
        have o59 := gr_ob p62.2.1 o59
        obtain ⟨b63, e64, h⟩ := h
        refine ⟨b63, e64, ?_⟩
        obtain ⟨c65, h⟩ := h
        refine ⟨c65, ?_⟩
        have n66 := k8_nk K c65 (by decide)
        refine cm_X0_end (kx_X0_end h) h (fun x67 p69 h g68 => ?_)
        have h := h g68
        have K := k8_tr K p69.2
        have o5 := gr_ob p69.2.1 o5
        have o15 := gr_ob p69.2.1 o15
        have o27 := gr_ob p69.2.1 o27
        have o36 := gr_ob p69.2.1 o36
        have o48 := gr_ob p69.2.1 o48
        have o59 := gr_ob p69.2.1 o59
        obtain ⟨b70, e71, h⟩ := h
        refine ⟨b70, e71, ?_⟩
        obtain ⟨c72, h⟩ := h
        refine ⟨c72, ?_⟩
        have n73 := k8_nk K c72 (by decide)
        have o74 := c72
        intro x76 e75
        have h := h x76 e75
        refine cm_X9_grant (kx_X9_grant h) h (fun x77 x78 p80 h g79 => ?_)
        have h := h g79
        have K := k8_tr K p80.2
        have o5 := gr_ob p80.2.1 o5
        have o15 := gr_ob p80.2.1 o15
        have o27 := gr_ob p80.2.1 o27
        have o36 := gr_ob p80.2.1 o36
        have o48 := gr_ob p80.2.1 o48
        have o59 := gr_ob p80.2.1 o59
        have o74 := gr_ob p80.2.1 o74
        exact ⟨h, K⟩
      · intro c81
        have h := h.2 c81
        refine cm_X9_refuse (kx_X9_refuse h) h (fun x82 x83 p85 h g84 => ?_)
        have h := h g84
        have K := k8_tr K p85.2
        have o5 := gr_ob p85.2.1 o5
        have o15 := gr_ob p85.2.1 o15
        have o27 := gr_ob p85.2.1 o27
        have o36 := gr_ob p85.2.1 o36
        exact ⟨h, K⟩
    · intro c86
      have h := h.2 c86
      exact kx_X9_world_12 h K
theorem kx_X9_world {Q : Int32 → HS → Prop} {v0 : Nat} {v1 : Int32} {S : HS} (h : P_X9_world v0 v1 Q S) : P_X9_world v0 v1 (fun r T => Q r T ∧ K8 S T) S := kx_X9_world_0 h (k8_rf S)
set_option maxRecDepth 20000 in
set_option maxHeartbeats 1000000 in
theorem kx_X9_worst_0 {Q : Int32 → HS → Prop} {v0 : Nat} {v1 : Int32} {v2 : Int32} {v3 : Int32} {v4 : Int32} {S0 S : HS} (h : P_X9_worst_0 Q v0 v1 v2 v3 v4 S) (K : K8 S0 S) : P_X9_worst_0 (fun r T => Q r T ∧ K8 S0 T) v0 v1 v2 v3 v4 S := by
  delta P_X9_worst_0 at h ⊢
  obtain ⟨c1, h⟩ := h
  refine ⟨c1, ?_⟩
  have n2 := k8_nk K c1 (by decide)
  refine cm_X9_tripTrouble (kx_X9_tripTrouble h) h (fun x3 x4 p6 h g5 => ?_)
  have h := h g5
  have K := k8_tr K p6.2
  refine cm_X9_refusedBy (kx_X9_refusedBy h) h (fun x7 x8 p11 h g9 g10 => ?_)
  have h := h g9 g10
  have K := k8_tr K p11.2
  refine ⟨?_, ?_⟩
  · intro c12
    have h := h.1 c12
    obtain ⟨b13, e14, h⟩ := h
    refine ⟨b13, e14, ?_⟩
    obtain ⟨b15, e16, h⟩ := h
    refine ⟨b15, e16, ?_⟩
    obtain ⟨c17, h⟩ := h
    refine ⟨c17, ?_⟩
    have n18 := k8_nk K c17 (by decide)
    have o19 := c17
    obtain ⟨b20, e21, h⟩ := h
    refine ⟨b20, e21, ?_⟩
    obtain ⟨c22, h⟩ := h
    refine ⟨c22, ?_⟩
    have n23 := k8_nk K c22 (by decide)
    obtain ⟨c24, h⟩ := h
    refine ⟨c24, ?_⟩
    obtain ⟨b25, e26, h⟩ := h
    refine ⟨b25, e26, ?_⟩
    obtain ⟨b27, e28, h⟩ := h
    refine ⟨b27, e28, ?_⟩
    obtain ⟨c29, h⟩ := h
    refine ⟨c29, ?_⟩
    have n30 := k8_nk K c29 (by decide)
    have o31 := c29
    obtain ⟨b32, e33, h⟩ := h
    refine ⟨b32, e33, ?_⟩
    obtain ⟨c34, h⟩ := h
    refine ⟨c34, ?_⟩
    have n35 := k8_nk K c34 (by decide)
    obtain ⟨c36, h⟩ := h
    refine ⟨c36, ?_⟩
    obtain ⟨b37, e38, h⟩ := h
    refine ⟨b37, e38, ?_⟩
    obtain ⟨b39, e40, h⟩ := h
    refine ⟨b39, e40, ?_⟩
    obtain ⟨c41, h⟩ := h
    refine ⟨c41, ?_⟩
    have n42 := k8_nk K c41 (by decide)
    have o43 := c41
    obtain ⟨b44, e45, h⟩ := h
    refine ⟨b44, e45, ?_⟩
    obtain ⟨c46, h⟩ := h
    refine ⟨c46, ?_⟩
    have n47 := k8_nk K c46 (by decide)
    obtain ⟨c48, h⟩ := h
    refine ⟨c48, ?_⟩
    obtain ⟨b49, e50, h⟩ := h
    refine ⟨b49, e50, ?_⟩
    obtain ⟨c51, h⟩ := h
    refine ⟨c51, ?_⟩
    have n52 := k8_nk K c51 (by decide)
    refine cm_X1_worstSpeed (kx_X1_worstSpeed h) h (fun x53 x54 p56 h g55 => ?_)
    have h := h g55
    have K := k8_tr K p56.2
    have o19 := gr_ob p56.2.1 o19
    have o31 := gr_ob p56.2.1 o31
    have o43 := gr_ob p56.2.1 o43
    exact ⟨h, K⟩
  · intro c57
    have h := h.2 c57
    exact ⟨h, K⟩
theorem kx_X9_worst {Q : Int32 → HS → Prop} {v0 : Nat} {v1 : Int32} {v2 : Int32} {v3 : Int32} {v4 : Int32} {S : HS} (h : P_X9_worst v0 v1 v2 v3 v4 Q S) : P_X9_worst v0 v1 v2 v3 v4 (fun r T => Q r T ∧ K8 S T) S := kx_X9_worst_0 h (k8_rf S)
