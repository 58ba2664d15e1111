section
set_option maxRecDepth 20000 in
set_option maxHeartbeats 1000000 in
theorem kx_X11_road_22 {Q : Int32 → HS → Prop} {v0 : Nat} {S0 S : HS} (h : P_X11_road_22 Q v0 S) (K : K8 S0 S) : P_X11_road_22 (fun r T => Q r T ∧ K8 S0 T) v0 S := by
  delta P_X11_road_22 at h ⊢
  obtain ⟨c1, h⟩ := h
  refine ⟨c1, ?_⟩
  have n2 := k8_nk K c1 (by decide)
  have o3 := c1
  refine cm_X11_refused (kx_X11_refused h) h (fun x4 x5 p7 h g6 => ?_)
  have h := h g6
  have K := k8_tr K p7.2
  have o3 := gr_ob p7.2.1 o3
  exact ⟨h, K⟩
set_option maxRecDepth 20000 in
set_option maxHeartbeats 1000000 in
theorem kx_X11_road_0 {Q : Int32 → HS → Prop} {v0 : Nat} {v1 : Int32} {v2 : Int32} {S0 S : HS} (h : P_X11_road_0 Q v0 v1 v2 S) (K : K8 S0 S) : P_X11_road_0 (fun r T => Q r T ∧ K8 S0 T) v0 v1 v2 S := by
  delta P_X11_road_0 at h ⊢
  obtain ⟨c1, h⟩ := h
  refine ⟨c1, ?_⟩
  have n2 := k8_nk K c1 (by decide)
  have o3 := c1
  intro x5 e4
  have h := h x5 e4
  have K := k8_I K e4 n2
  have o3 := ob_wI o3 e4
  refine cm_X11_isRoad (kx_X11_isRoad h) h (fun x6 x7 p10 h g8 g9 => ?_)
  have h := h g8 g9
  have K := k8_tr K p10.2
  have o3 := gr_ob p10.2.1 o3
  refine ⟨?_, ?_⟩
  · intro c11
    have h := h.1 c11
    exact kx_X11_road_22 h K
  · intro c12
    have h := h.2 c12
    refine cm_X11_in (kx_X11_in h) h (fun x13 x14 p17 h g15 g16 => ?_)
    have h := h g15 g16
    have K := k8_tr K p17.2
    have o3 := gr_ob p17.2.1 o3
    refine ⟨?_, ?_⟩
    · intro c18
      have h := h.1 c18
      refine ⟨?_, ?_, ?_, ?_, ?_⟩
      · intro c19
        have h := h.1 c19
        obtain ⟨b20, e21, h⟩ := h
        refine ⟨b20, e21, ?_⟩
        obtain ⟨c22, h⟩ := h
        refine ⟨c22, ?_⟩
        have n23 := k8_nk K c22 (by decide)
        obtain ⟨b24, e25, h⟩ := h
        refine ⟨b24, e25, ?_⟩
        obtain ⟨c26, h⟩ := h
        refine ⟨c26, ?_⟩
        obtain ⟨c27, h⟩ := h
        refine ⟨c27, ?_⟩
        intro x29 e28
        have h := h x29 e28
        refine cm_X11_good (kx_X11_good h) h (fun x30 x31 p33 h g32 => ?_)
        have h := h g32
        have K := k8_tr K p33.2
        have o3 := gr_ob p33.2.1 o3
        exact ⟨h, K⟩
      · intro c34
        have h := h.2.1 c34
        obtain ⟨b35, e36, h⟩ := h
        refine ⟨b35, e36, ?_⟩
        obtain ⟨c37, h⟩ := h
        refine ⟨c37, ?_⟩
        have n38 := k8_nk K c37 (by decide)
        obtain ⟨b39, e40, h⟩ := h
        refine ⟨b39, e40, ?_⟩
        obtain ⟨c41, h⟩ := h
        refine ⟨c41, ?_⟩
        obtain ⟨c42, h⟩ := h
        refine ⟨c42, ?_⟩
        intro x44 e43
        have h := h x44 e43
        refine cm_X11_good (kx_X11_good h) h (fun x45 x46 p48 h g47 => ?_)
        have h := h g47
        have K := k8_tr K p48.2
        have o3 := gr_ob p48.2.1 o3
        exact ⟨h, K⟩
      · intro c49
        have h := h.2.2.1 c49
        obtain ⟨b50, e51, h⟩ := h
        refine ⟨b50, e51, ?_⟩
        obtain ⟨c52, h⟩ := h
        refine ⟨c52, ?_⟩
        have n53 := k8_nk K c52 (by decide)
        obtain ⟨b54, e55, h⟩ := h
        refine ⟨b54, e55, ?_⟩
        obtain ⟨c56, h⟩ := h
        refine ⟨c56, ?_⟩
        obtain ⟨c57, h⟩ := h
        refine ⟨c57, ?_⟩
        intro x59 e58
        have h := h x59 e58
        refine cm_X11_good (kx_X11_good h) h (fun x60 x61 p63 h g62 => ?_)
        have h := h g62
        have K := k8_tr K p63.2
        have o3 := gr_ob p63.2.1 o3
        exact ⟨h, K⟩
      · intro c64
        have h := h.2.2.2.1 c64
        obtain ⟨b65, e66, h⟩ := h
        refine ⟨b65, e66, ?_⟩
        obtain ⟨c67, h⟩ := h
        refine ⟨c67, ?_⟩
        have n68 := k8_nk K c67 (by decide)
        obtain ⟨b69, e70, h⟩ := h
        refine ⟨b69, e70, ?_⟩
        obtain ⟨c71, h⟩ := h
        refine ⟨c71, ?_⟩
        obtain ⟨c72, h⟩ := h
        refine ⟨c72, ?_⟩
        intro x74 e73
        have h := h x74 e73
        refine cm_X11_good (kx_X11_good h) h (fun x75 x76 p78 h g77 => ?_)
        have h := h g77
        have K := k8_tr K p78.2
        have o3 := gr_ob p78.2.1 o3
        exact ⟨h, K⟩
      · intro c79
        have h := h.2.2.2.2 c79
        obtain ⟨b80, e81, h⟩ := h
        refine ⟨b80, e81, ?_⟩
        obtain ⟨c82, h⟩ := h
        refine ⟨c82, ?_⟩
        have n83 := k8_nk K c82 (by decide)
        obtain ⟨b84, e85, h⟩ := h
        refine ⟨b84, e85, ?_⟩
        obtain ⟨c86, h⟩ := h
        refine ⟨c86, ?_⟩
        obtain ⟨c87, h⟩ := h
        refine ⟨c87, ?_⟩
        intro x89 e88
        have h := h x89 e88
        refine cm_X11_good (kx_X11_good h) h (fun x90 x91 p93 h g92 => ?_)
        have h := h g92
        have K := k8_tr K p93.2
        have o3 := gr_ob p93.2.1 o3
        exact ⟨h, K⟩
    · intro c94
      have h := h.2 c94
      exact kx_X11_road_22 h K
theorem kx_X11_road {Q : Int32 → HS → Prop} {v0 : Nat} {v1 : Int32} {v2 : Int32} {S : HS} (h : P_X11_road v0 v1 v2 Q S) : P_X11_road v0 v1 v2 (fun r T => Q r T ∧ K8 S T) S := kx_X11_road_0 h (k8_rf S)
set_option maxRecDepth 20000 in
set_option maxHeartbeats 1000000 in
theorem kx_X11_round_29 {Q : Int64 → HS → Prop} {v0 : Nat} {S0 S : HS} (h : P_X11_round_29 Q v0 S) (K : K8 S0 S) : P_X11_round_29 (fun r T => Q r T ∧ K8 S0 T) v0 S := by
  delta P_X11_round_29 at h ⊢
  obtain ⟨c1, h⟩ := h
  refine ⟨c1, ?_⟩
  have n2 := k8_nk K c1 (by decide)
  have o3 := c1
  refine cm_X11_refused (kx_X11_refused h) h (fun x4 x5 p7 h g6 => ?_)
  have h := h g6
  have K := k8_tr K p7.2
  have o3 := gr_ob p7.2.1 o3
  exact ⟨h, K⟩
set_option maxRecDepth 20000 in
set_option maxHeartbeats 1000000 in
theorem kx_X11_round_0 {Q : Int64 → HS → Prop} {v0 : Nat} {v1 : Int32} {v2 : Int32} {v3 : Int32} {v4 : Int32} {S0 S : HS} (h : P_X11_round_0 Q v0 v1 v2 v3 v4 S) (K : K8 S0 S) : P_X11_round_0 (fun r T => Q r T ∧ K8 S0 T) v0 v1 v2 v3 v4 S := by
  delta P_X11_round_0 at h ⊢
  obtain ⟨c1, h⟩ := h
  refine ⟨c1, ?_⟩
  have n2 := k8_nk K c1 (by decide)
  have o3 := c1
  intro x5 e4
  have h := h x5 e4
  have K := k8_I K e4 n2
  have o3 := ob_wI o3 e4
  refine cm_X11_isWalker (kx_X11_isWalker h) h (fun x6 x7 p10 h g8 g9 => ?_)
  have h := h g8 g9
  have K := k8_tr K p10.2
  have o3 := gr_ob p10.2.1 o3
  refine ⟨?_, ?_⟩
  · intro c11
    have h := h.1 c11
    exact kx_X11_round_29 h K
  · intro c12
    have h := h.2 c12
    refine cm_X11_isRoad (kx_X11_isRoad h) h (fun x13 x14 p17 h g15 g16 => ?_)
    have h := h g15 g16
    have K := k8_tr K p17.2
    have o3 := gr_ob p17.2.1 o3
    refine ⟨?_, ?_⟩
    · intro c18
      have h := h.1 c18
      exact kx_X11_round_29 h K
    · intro c19
      have h := h.2 c19
      refine cm_X11_isHour (kx_X11_isHour h) h (fun x20 x21 p24 h g22 g23 => ?_)
      have h := h g22 g23
      have K := k8_tr K p24.2
      have o3 := gr_ob p24.2.1 o3
      refine ⟨?_, ?_⟩
      · intro c25
        have h := h.1 c25
        refine cm_X11_wetAtBest (kx_X11_wetAtBest h) h (fun x26 x27 p29 h g28 => ?_)
        have h := h g28
        have K := k8_tr K p29.2
        have o3 := gr_ob p29.2.1 o3
        refine cm_X11_wetAtBest (kx_X11_wetAtBest h) h (fun x30 x31 p33 h g32 => ?_)
        have h := h g32
        have K := k8_tr K p33.2
        have o3 := gr_ob p33.2.1 o3
        refine cm_X11_told (kx_X11_told h) h (fun x34 x35 p37 h g36 => ?_)
        have h := h g36
        have K := k8_tr K p37.2
        have o3 := gr_ob p37.2.1 o3
        exact ⟨h, K⟩
      · intro c38
        have h := h.2 c38
        exact kx_X11_round_29 h K
theorem kx_X11_round {Q : Int64 → HS → Prop} {v0 : Nat} {v1 : Int32} {v2 : Int32} {v3 : Int32} {v4 : Int32} {S : HS} (h : P_X11_round v0 v1 v2 v3 v4 Q S) : P_X11_round v0 v1 v2 v3 v4 (fun r T => Q r T ∧ K8 S T) S := kx_X11_round_0 h (k8_rf S)
set_option maxRecDepth 20000 in
set_option maxHeartbeats 1000000 in
theorem kx_X11_saves_39 {Q : Int64 → HS → Prop} {v0 : Nat} {S0 S : HS} (h : P_X11_saves_39 Q v0 S) (K : K8 S0 S) : P_X11_saves_39 (fun r T => Q r T ∧ K8 S0 T) v0 S := by
  delta P_X11_saves_39 at h ⊢
  obtain ⟨c1, h⟩ := h
  refine ⟨c1, ?_⟩
  have n2 := k8_nk K c1 (by decide)
  have o3 := c1
  refine cm_X11_refused (kx_X11_refused h) h (fun x4 x5 p7 h g6 => ?_)
  have h := h g6
  have K := k8_tr K p7.2
  have o3 := gr_ob p7.2.1 o3
  exact ⟨h, K⟩
set_option maxRecDepth 20000 in
set_option maxHeartbeats 1000000 in
theorem kx_X11_saves_0 {Q : Int64 → HS → Prop} {v0 : Nat} {v1 : Int32} {v2 : Int32} {v3 : Int32} {v4 : Int32} {v5 : Int32} {S0 S : HS} (h : P_X11_saves_0 Q v0 v1 v2 v3 v4 v5 S) (K : K8 S0 S) : P_X11_saves_0 (fun r T => Q r T ∧ K8 S0 T) v0 v1 v2 v3 v4 v5 S := by
  delta P_X11_saves_0 at h ⊢
  obtain ⟨c1, h⟩ := h
  refine ⟨c1, ?_⟩
  have n2 := k8_nk K c1 (by decide)
  have o3 := c1
  intro x5 e4
  have h := h x5 e4
  have K := k8_I K e4 n2
  have o3 := ob_wI o3 e4
  refine cm_X11_isWalker (kx_X11_isWalker h) h (fun x6 x7 p10 h g8 g9 => ?_)
  have h := h g8 g9
  have K := k8_tr K p10.2
  have o3 := gr_ob p10.2.1 o3
  refine ⟨?_, ?_⟩
  · intro c11
    have h := h.1 c11
    exact kx_X11_saves_39 h K
  · intro c12
    have h := h.2 c12
    refine cm_X11_isRoad (kx_X11_isRoad h) h (fun x13 x14 p17 h g15 g16 => ?_)
    have h := h g15 g16
    have K := k8_tr K p17.2
    have o3 := gr_ob p17.2.1 o3
    refine ⟨?_, ?_⟩
    · intro c18
      have h := h.1 c18
      exact kx_X11_saves_39 h K
    · intro c19
      have h := h.2 c19
      refine cm_X11_in (kx_X11_in h) h (fun x20 x21 p24 h g22 g23 => ?_)
      have h := h g22 g23
      have K := k8_tr K p24.2
      have o3 := gr_ob p24.2.1 o3
      refine ⟨?_, ?_⟩
      · intro c25
        have h := h.1 c25
        exact kx_X11_saves_39 h K
      · intro c26
        have h := h.2 c26
        refine cm_X11_isHour (kx_X11_isHour h) h (fun x27 x28 p31 h g29 g30 => ?_)
        have h := h g29 g30
        have K := k8_tr K p31.2
        have o3 := gr_ob p31.2.1 o3
        refine ⟨?_, ?_⟩
        · intro c32
          have h := h.1 c32
          obtain ⟨b33, e34, h⟩ := h
          refine ⟨b33, e34, ?_⟩
          obtain ⟨c35, h⟩ := h
          refine ⟨c35, ?_⟩
          have n36 := k8_nk K c35 (by decide)
          obtain ⟨b37, e38, h⟩ := h
          refine ⟨b37, e38, ?_⟩
          obtain ⟨c39, h⟩ := h
          refine ⟨c39, ?_⟩
          obtain ⟨c40, h⟩ := h
          refine ⟨c40, ?_⟩
          intro x42 e41
          have h := h x42 e41
          refine cm_X11_wetOf (kx_X11_wetOf h) h (fun x43 x44 p46 h g45 => ?_)
          have h := h g45
          have K := k8_tr K p46.2
          have o3 := gr_ob p46.2.1 o3
          refine cm_X11_bestOf (kx_X11_bestOf h) h (fun x47 x48 p50 h g49 => ?_)
          have h := h g49
          have K := k8_tr K p50.2
          have o3 := gr_ob p50.2.1 o3
          refine cm_X11_wetOf (kx_X11_wetOf h) h (fun x51 x52 p54 h g53 => ?_)
          have h := h g53
          have K := k8_tr K p54.2
          have o3 := gr_ob p54.2.1 o3
          refine cm_X11_told (kx_X11_told h) h (fun x55 x56 p58 h g57 => ?_)
          have h := h g57
          have K := k8_tr K p58.2
          have o3 := gr_ob p58.2.1 o3
          exact ⟨h, K⟩
        · intro c59
          have h := h.2 c59
          exact kx_X11_saves_39 h K
theorem kx_X11_saves {Q : Int64 → HS → Prop} {v0 : Nat} {v1 : Int32} {v2 : Int32} {v3 : Int32} {v4 : Int32} {v5 : Int32} {S : HS} (h : P_X11_saves v0 v1 v2 v3 v4 v5 Q S) : P_X11_saves v0 v1 v2 v3 v4 v5 (fun r T => Q r T ∧ K8 S T) S := kx_X11_saves_0 h (k8_rf S)
set_option maxRecDepth 20000 in
set_option maxHeartbeats 1000000 in
theorem kx_X11_size_0 {Q : Int32 → HS → Prop} {v0 : Nat} {v1 : Int32} {S0 S : HS} (h : P_X11_size_0 Q v0 v1 S) (K : K8 S0 S) : P_X11_size_0 (fun r T => Q r T ∧ K8 S0 T) v0 v1 S := by
  delta P_X11_size_0 at h ⊢
  obtain ⟨c1, h⟩ := h
  refine ⟨c1, ?_⟩
  have n2 := k8_nk K c1 (by decide)
  have o3 := c1
  intro x5 e4
  have h := h x5 e4
  have K := k8_I K e4 n2
  have o3 := ob_wI o3 e4
  refine ⟨?_, ?_⟩
  · intro c6
    have h := h.1 c6
    refine cm_X11_in (kx_X11_in h) h (fun x7 x8 p11 h g9 g10 => ?_)
    have h := h g9 g10
    have K := k8_tr K p11.2
    have o3 := gr_ob p11.2.1 o3
    refine ⟨?_, ?_⟩
    · intro c12
      have h := h.1 c12
      refine ⟨?_, ?_⟩
      · intro c13
        have h := h.1 c13
        exact ⟨h, K⟩
      · intro x14 c15
        have h := h.2 x14 c15
        refine ⟨?_, ?_, ?_, ?_, ?_, ?_, ?_, ?_, ?_, ?_, ?_⟩
        · intro c16
          have h := h.1 c16
          intro x18 e17
          have h := h x18 e17
          exact ⟨h, K⟩
        · intro c19
          have h := h.2.1 c19
          obtain ⟨b20, e21, h⟩ := h
          refine ⟨b20, e21, ?_⟩
          obtain ⟨c22, h⟩ := h
          refine ⟨c22, ?_⟩
          have n23 := k8_nk K c22 (by decide)
          intro x25 e24
          have h := h x25 e24
          exact ⟨h, K⟩
        · intro c26
          have h := h.2.2.1 c26
          obtain ⟨b27, e28, h⟩ := h
          refine ⟨b27, e28, ?_⟩
          obtain ⟨c29, h⟩ := h
          refine ⟨c29, ?_⟩
          have n30 := k8_nk K c29 (by decide)
          intro x32 e31
          have h := h x32 e31
          exact ⟨h, K⟩
        · intro c33
          have h := h.2.2.2.1 c33
          obtain ⟨b34, e35, h⟩ := h
          refine ⟨b34, e35, ?_⟩
          obtain ⟨c36, h⟩ := h
          refine ⟨c36, ?_⟩
          have n37 := k8_nk K c36 (by decide)
          intro x39 e38
          have h := h x39 e38
          exact ⟨h, K⟩
        · intro c40
          have h := h.2.2.2.2.1 c40
          obtain ⟨b41, e42, h⟩ := h
          refine ⟨b41, e42, ?_⟩
          obtain ⟨c43, h⟩ := h
          refine ⟨c43, ?_⟩
          have n44 := k8_nk K c43 (by decide)
          intro x46 e45
          have h := h x46 e45
          exact ⟨h, K⟩
        · intro c47
          have h := h.2.2.2.2.2.1 c47
          obtain ⟨b48, e49, h⟩ := h
          refine ⟨b48, e49, ?_⟩
          obtain ⟨c50, h⟩ := h
          refine ⟨c50, ?_⟩
          have n51 := k8_nk K c50 (by decide)
          intro x53 e52
          have h := h x53 e52
          exact ⟨h, K⟩
        · intro c54
          have h := h.2.2.2.2.2.2.1 c54
          obtain ⟨b55, e56, h⟩ := h
          refine ⟨b55, e56, ?_⟩
          obtain ⟨c57, h⟩ := h
          refine ⟨c57, ?_⟩
          have n58 := k8_nk K c57 (by decide)
          intro x60 e59
          have h := h x60 e59
          exact ⟨h, K⟩
        · intro c61
          have h := h.2.2.2.2.2.2.2.1 c61
          intro x63 e62
          have h := h x63 e62
          exact ⟨h, K⟩
        · intro c64
          have h := h.2.2.2.2.2.2.2.2.1 c64
          refine cm_X11_isDay (kx_X11_isDay h) h (fun x65 x66 p69 h g67 g68 => ?_)
          have h := h g67 g68
          have K := k8_tr K p69.2
          have o3 := gr_ob p69.2.1 o3
          refine ⟨?_, ?_⟩
          · intro c70
            have h := h.1 c70
            exact ⟨h, K⟩
          · intro c71
            have h := h.2 c71
            obtain ⟨b72, e73, h⟩ := h
            refine ⟨b72, e73, ?_⟩
            obtain ⟨c74, h⟩ := h
            refine ⟨c74, ?_⟩
            have n75 := k8_nk K c74 (by decide)
            obtain ⟨c76, h⟩ := h
            refine ⟨c76, ?_⟩
            intro x78 e77
            have h := h x78 e77
            exact ⟨h, K⟩
        · intro c79
          have h := h.2.2.2.2.2.2.2.2.2.1 c79
          refine cm_X11_isDay (kx_X11_isDay h) h (fun x80 x81 p84 h g82 g83 => ?_)
          have h := h g82 g83
          have K := k8_tr K p84.2
          have o3 := gr_ob p84.2.1 o3
          refine ⟨?_, ?_⟩
          · intro c85
            have h := h.1 c85
            exact ⟨h, K⟩
          · intro c86
            have h := h.2 c86
            obtain ⟨b87, e88, h⟩ := h
            refine ⟨b87, e88, ?_⟩
            obtain ⟨c89, h⟩ := h
            refine ⟨c89, ?_⟩
            have n90 := k8_nk K c89 (by decide)
            obtain ⟨c91, h⟩ := h
            refine ⟨c91, ?_⟩
            intro x93 e92
            have h := h x93 e92
            exact ⟨h, K⟩
        · intro c94
          have h := h.2.2.2.2.2.2.2.2.2.2 c94
          intro x96 e95
          have h := h x96 e95
          exact ⟨h, K⟩
    · intro c97
      have h := h.2 c97
      exact ⟨h, K⟩
  · intro c98
    have h := h.2 c98
    intro x100 e99
    have h := h x100 e99
    exact ⟨h, K⟩
theorem kx_X11_size {Q : Int32 → HS → Prop} {v0 : Nat} {v1 : Int32} {S : HS} (h : P_X11_size v0 v1 Q S) : P_X11_size v0 v1 (fun r T => Q r T ∧ K8 S T) S := kx_X11_size_0 h (k8_rf S)
set_option maxRecDepth 20000 in
set_option maxHeartbeats 1000000 in
theorem kx_X11_soaked_57 {Q : Int32 → HS → Prop} {s0 : Nat} {s1 : Int32} {S0 S : HS} (h : P_X11_soaked_57 Q s0 s1 S) (K : K8 S0 S) : P_X11_soaked_57 (fun r T => Q r T ∧ K8 S0 T) s0 s1 S := by
  delta P_X11_soaked_57 at h ⊢
  obtain ⟨c1, h⟩ := h
  refine ⟨c1, ?_⟩
  have n2 := k8_nk K c1 (by decide)
  have o3 := c1
  refine cm_X11_good (kx_X11_good h) h (fun x4 x5 p7 h g6 => ?_)
  have h := h g6
  have K := k8_tr K p7.2
  have o3 := gr_ob p7.2.1 o3
  exact ⟨h, K⟩
set_option maxRecDepth 20000 in
set_option maxHeartbeats 1000000 in
theorem kx_X11_soaked_0 {Q : Int32 → HS → Prop} {v0 : Nat} {S0 S : HS} (h : P_X11_soaked_0 Q v0 S) (K : K8 S0 S) : P_X11_soaked_0 (fun r T => Q r T ∧ K8 S0 T) v0 S := by
  delta P_X11_soaked_0 at h ⊢
  obtain ⟨c1, h⟩ := h
  refine ⟨c1, ?_⟩
  have n2 := k8_nk K c1 (by decide)
  have o3 := c1
  intro x5 e4
  have h := h x5 e4
  have K := k8_I K e4 n2
  have o3 := ob_wI o3 e4
  refine cm_X11_isDay (kx_X11_isDay h) h (fun x6 x7 p10 h g8 g9 => ?_)
  have h := h g8 g9
  have K := k8_tr K p10.2
  have o3 := gr_ob p10.2.1 o3
  refine ⟨?_, ?_⟩
  · intro c11
    have h := h.1 c11
    obtain ⟨b12, e13, h⟩ := h
    refine ⟨b12, e13, ?_⟩
    obtain ⟨c14, h⟩ := h
    refine ⟨c14, ?_⟩
    have n15 := k8_nk K c14 (by decide)
    obtain ⟨b16, e17, h⟩ := h
    refine ⟨b16, e17, ?_⟩
    intro x19 e18
    have h := h x19 e18
    obtain ⟨c20, h⟩ := h
    refine ⟨c20, ?_⟩
    obtain ⟨c21, h⟩ := h
    refine ⟨c21, ?_⟩
    intro x23 e22
    have h := h x23 e22
    refine ⟨?_, ?_⟩
    · intro c24
      have h := h.1 c24
      refine cm_X11_gotInAll (kx_X11_gotInAll h) h (fun x25 x26 p28 h g27 => ?_)
      have h := h g27
      have K := k8_tr K p28.2
      have o3 := gr_ob p28.2.1 o3
      refine cm_X11_holds (kx_X11_holds h) h (fun x29 x30 p32 h g31 => ?_)
      have h := h g31
      have K := k8_tr K p32.2
      have o3 := gr_ob p32.2.1 o3
      refine ⟨?_, ?_⟩
      · intro c33
        have h := h.1 c33
        exact kx_X11_soaked_57 h K
      · intro c34
        have h := h.2 c34
        exact kx_X11_soaked_57 h K
    · intro c35
      have h := h.2 c35
      exact kx_X11_soaked_57 h K
  · intro c36
    have h := h.2 c36
    refine cm_X11_refused (kx_X11_refused h) h (fun x37 x38 p40 h g39 => ?_)
    have h := h g39
    have K := k8_tr K p40.2
    have o3 := gr_ob p40.2.1 o3
    exact ⟨h, K⟩
theorem kx_X11_soaked {Q : Int32 → HS → Prop} {v0 : Nat} {S : HS} (h : P_X11_soaked v0 Q S) : P_X11_soaked v0 (fun r T => Q r T ∧ K8 S T) S := kx_X11_soaked_0 h (k8_rf S)
set_option maxRecDepth 20000 in
set_option maxHeartbeats 1000000 in
theorem kx_X11_stay_133 {Q : Int32 → HS → Prop} {X84 X84_2 : Nat → Int32 → Int32 → Int32 → HS → Prop} {v0 : Nat} {v1 : Int32} {v2 : Int32} {v3 : Int32} {S0 S : HS} (h : P_X11_stay_133 Q X84 v0 v1 v2 v3 S) (K : K8 S0 S) (hX84 : ∀ (u0 : Nat) (u1 : Int32) (u2 : Int32) (u3 : Int32) (u4 : HS), X84 u0 u1 u2 u3 u4 → K8 S0 u4 → X84_2 u0 u1 u2 u3 u4) : P_X11_stay_133 (fun r T => Q r T ∧ K8 S0 T) X84_2 v0 v1 v2 v3 S := by
  delta P_X11_stay_133 at h ⊢
  obtain ⟨c1, h⟩ := h
  refine ⟨c1, ?_⟩
  have n2 := k8_nk K c1 (by decide)
  have o3 := c1
  obtain ⟨b4, e5, h⟩ := h
  refine ⟨b4, e5, ?_⟩
  obtain ⟨c6, h⟩ := h
  refine ⟨c6, ?_⟩
  have n7 := k8_nk K c6 (by decide)
  obtain ⟨c8, h⟩ := h
  refine ⟨c8, ?_⟩
  intro x10 e9
  have h := h x10 e9
  intro x12 e11
  have h := h x12 e11
  obtain ⟨c13, h⟩ := h
  refine ⟨c13, ?_⟩
  intro x15 e14
  have h := h x15 e14
  have K := k8_J K e14
  have o3 := ob_wJ o3 e14
  intro x17 e16
  have h := h x17 e16
  exact hX84 _ _ _ _ _ h K
set_option maxRecDepth 20000 in
set_option maxHeartbeats 1000000 in
theorem kxB_X11_stay_84 {Q : Int32 → HS → Prop} {X84 X84_2 : Nat → Int32 → Int32 → Int32 → HS → Prop} {v0 : Nat} {v1 : Int32} {v2 : Int32} {v3 : Int32} {S0 S : HS} (h : B_X11_stay_84 Q X84 v0 v1 v2 v3 S) (K : K8 S0 S) (hX84 : ∀ (u0 : Nat) (u1 : Int32) (u2 : Int32) (u3 : Int32) (u4 : HS), X84 u0 u1 u2 u3 u4 → K8 S0 u4 → X84_2 u0 u1 u2 u3 u4) : B_X11_stay_84 (fun r T => Q r T ∧ K8 S0 T) X84_2 v0 v1 v2 v3 S := by
  delta B_X11_stay_84 at h ⊢
  refine ⟨?_, ?_⟩
  · intro c1
    have h := h.1 c1
    obtain ⟨c2, h⟩ := h
    refine ⟨c2, ?_⟩
    have n3 := k8_nk K c2 (by decide)
    have o4 := c2
    refine cm_X11_granted (kx_X11_granted h) h (fun x5 x6 p9 h g7 g8 => ?_)
    have h := h g7 g8
    have K := k8_tr K p9.2
    have o4 := gr_ob p9.2.1 o4
    obtain ⟨c10, h⟩ := h
    refine ⟨c10, ?_⟩
    exact ⟨h, K⟩
  · intro c11
    have h := h.2 c11
    obtain ⟨c12, h⟩ := h
    refine ⟨c12, ?_⟩
    have n13 := k8_nk K c12 (by decide)
    have o14 := c12
    obtain ⟨b15, e16, h⟩ := h
    refine ⟨b15, e16, ?_⟩
    obtain ⟨c17, h⟩ := h
    refine ⟨c17, ?_⟩
    have n18 := k8_nk K c17 (by decide)
    obtain ⟨b19, e20, h⟩ := h
    refine ⟨b19, e20, ?_⟩
    obtain ⟨c21, h⟩ := h
    refine ⟨c21, ?_⟩
    obtain ⟨c22, h⟩ := h
    refine ⟨c22, ?_⟩
    intro x24 e23
    have h := h x24 e23
    refine ⟨?_, ?_⟩
    · intro c25
      have h := h.1 c25
      exact kx_X11_stay_133 h K hX84
    · intro c26
      have h := h.2 c26
      obtain ⟨b27, e28, h⟩ := h
      refine ⟨b27, e28, ?_⟩
      obtain ⟨c29, h⟩ := h
      refine ⟨c29, ?_⟩
      have n30 := k8_nk K c29 (by decide)
      obtain ⟨c31, h⟩ := h
      refine ⟨c31, ?_⟩
      intro x33 e32
      have h := h x33 e32
      refine cm_X11_rainsIn (kx_X11_rainsIn h) h (fun x34 x35 p38 h g36 g37 => ?_)
      have h := h g36 g37
      have K := k8_tr K p38.2
      have o14 := gr_ob p38.2.1 o14
      refine ⟨?_, ?_⟩
      · intro c39
        have h := h.1 c39
        exact kx_X11_stay_133 h K hX84
      · intro c40
        have h := h.2 c40
        obtain ⟨b41, e42, h⟩ := h
        refine ⟨b41, e42, ?_⟩
        obtain ⟨c43, h⟩ := h
        refine ⟨c43, ?_⟩
        have n44 := k8_nk K c43 (by decide)
        obtain ⟨c45, h⟩ := h
        refine ⟨c45, ?_⟩
        intro x47 e46
        have h := h x47 e46
        intro x49 e48
        have h := h x49 e48
        refine cm_X11_drips (kx_X11_drips h) h (fun x50 x51 p53 h g52 => ?_)
        have h := h g52
        have K := k8_tr K p53.2
        have o14 := gr_ob p53.2.1 o14
        intro x55 e54
        have h := h x55 e54
        obtain ⟨c56, h⟩ := h
        refine ⟨c56, ?_⟩
        intro x58 e57
        have h := h x58 e57
        have K := k8_J K e57
        have o14 := ob_wJ o14 e57
        exact kx_X11_stay_133 h K hX84
theorem kx_X11_stay_84 {Q : Int32 → HS → Prop} {v0 : Nat} {v1 : Int32} {v2 : Int32} {v3 : Int32} {S0 S : HS} (h : P_X11_stay_84 Q v0 v1 v2 v3 S) (K : K8 S0 S) : P_X11_stay_84 (fun r T => Q r T ∧ K8 S0 T) v0 v1 v2 v3 S := h (fun v0 v1 v2 v3 S => K8 S0 S → P_X11_stay_84 (fun r T => Q r T ∧ K8 S0 T) v0 v1 v2 v3 S) (fun v0 v1 v2 v3 S hB K => fd_X11_stay_84 (kxB_X11_stay_84 hB K (fun _ _ _ _ _ hx K => hx K))) K
set_option maxRecDepth 20000 in
set_option maxHeartbeats 1000000 in
theorem kx_X11_stay_0 {Q : Int32 → HS → Prop} {v0 : Nat} {v1 : Int32} {S0 S : HS} (h : P_X11_stay_0 Q v0 v1 S) (K : K8 S0 S) : P_X11_stay_0 (fun r T => Q r T ∧ K8 S0 T) v0 v1 S := by
  delta P_X11_stay_0 at h ⊢
  obtain ⟨c1, h⟩ := h
  refine ⟨c1, ?_⟩
  have n2 := k8_nk K c1 (by decide)
  have o3 := c1
  intro x5 e4
  have h := h x5 e4
  have K := k8_I K e4 n2
  have o3 := ob_wI o3 e4
  refine cm_X11_isDay (kx_X11_isDay h) h (fun x6 x7 p10 h g8 g9 => ?_)
  have h := h g8 g9
  have K := k8_tr K p10.2
  have o3 := gr_ob p10.2.1 o3
  refine ⟨?_, ?_⟩
  · intro c11
    have h := h.1 c11
    refine cm_X11_in (kx_X11_in h) h (fun x12 x13 p16 h g14 g15 => ?_)
    have h := h g14 g15
    have K := k8_tr K p16.2
    have o3 := gr_ob p16.2.1 o3
    refine ⟨?_, ?_⟩
    · intro c17
      have h := h.1 c17
      obtain ⟨b18, e19, h⟩ := h
      refine ⟨b18, e19, ?_⟩
      obtain ⟨c20, h⟩ := h
      refine ⟨c20, ?_⟩
      have n21 := k8_nk K c20 (by decide)
      obtain ⟨c22, h⟩ := h
      refine ⟨c22, ?_⟩
      intro x24 e23
      have h := h x24 e23
      intro x26 e25
      have h := h x26 e25
      refine cm_X11_canWait (kx_X11_canWait h) h (fun x27 x28 p31 h g29 g30 => ?_)
      have h := h g29 g30
      have K := k8_tr K p31.2
      have o3 := gr_ob p31.2.1 o3
      refine ⟨?_, ?_⟩
      · intro c32
        have h := h.1 c32
        obtain ⟨b33, e34, h⟩ := h
        refine ⟨b33, e34, ?_⟩
        obtain ⟨c35, h⟩ := h
        refine ⟨c35, ?_⟩
        have n36 := k8_nk K c35 (by decide)
        obtain ⟨c37, h⟩ := h
        refine ⟨c37, ?_⟩
        intro x39 e38
        have h := h x39 e38
        refine ⟨?_, ?_⟩
        · intro c40
          have h := h.1 c40
          refine cm_X11_keeps (kx_X11_keeps h) h (fun x41 p43 h g42 => ?_)
          have h := h g42
          have K := k8_tr K p43.2
          have o3 := gr_ob p43.2.1 o3
          exact kx_X11_stay_84 h K
        · intro c44
          have h := h.2 c44
          refine cm_X11_denied (kx_X11_denied h) h (fun x45 x46 p49 h g47 g48 => ?_)
          have h := h g47 g48
          have K := k8_tr K p49.2
          have o3 := gr_ob p49.2.1 o3
          obtain ⟨c50, h⟩ := h
          refine ⟨c50, ?_⟩
          exact ⟨h, K⟩
      · intro c51
        have h := h.2 c51
        refine cm_X11_denied (kx_X11_denied h) h (fun x52 x53 p56 h g54 g55 => ?_)
        have h := h g54 g55
        have K := k8_tr K p56.2
        have o3 := gr_ob p56.2.1 o3
        obtain ⟨c57, h⟩ := h
        refine ⟨c57, ?_⟩
        exact ⟨h, K⟩
    · intro c58
      have h := h.2 c58
      refine cm_X11_denied (kx_X11_denied h) h (fun x59 x60 p63 h g61 g62 => ?_)
      have h := h g61 g62
      have K := k8_tr K p63.2
      have o3 := gr_ob p63.2.1 o3
      obtain ⟨c64, h⟩ := h
      refine ⟨c64, ?_⟩
      exact ⟨h, K⟩
  · intro c65
    have h := h.2 c65
    refine cm_X11_denied (kx_X11_denied h) h (fun x66 x67 p70 h g68 g69 => ?_)
    have h := h g68 g69
    have K := k8_tr K p70.2
    have o3 := gr_ob p70.2.1 o3
    obtain ⟨c71, h⟩ := h
    refine ⟨c71, ?_⟩
    exact ⟨h, K⟩
theorem kx_X11_stay {Q : Int32 → HS → Prop} {v0 : Nat} {v1 : Int32} {S : HS} (h : P_X11_stay v0 v1 Q S) : P_X11_stay v0 v1 (fun r T => Q r T ∧ K8 S T) S := kx_X11_stay_0 h (k8_rf S)
set_option maxRecDepth 20000 in
set_option maxHeartbeats 1000000 in
theorem kx_X11_stepOf_117 {Q : Int32 → HS → Prop} {X9 X9_2 : Nat → Int32 → Int32 → Int32 → Int32 → HS → Prop} {v0 : Nat} {v4 : Int32} {v6 : Int32} {v7 : Int32} {s0 : Int32} {S0 S : HS} (h : P_X11_stepOf_117 Q X9 v0 v4 v6 v7 s0 S) (K : K8 S0 S) (hX9 : ∀ (u0 : Nat) (u1 : Int32) (u2 : Int32) (u3 : Int32) (u4 : Int32) (u5 : HS), X9 u0 u1 u2 u3 u4 u5 → K8 S0 u5 → X9_2 u0 u1 u2 u3 u4 u5) : P_X11_stepOf_117 (fun r T => Q r T ∧ K8 S0 T) X9_2 v0 v4 v6 v7 s0 S := by
  delta P_X11_stepOf_117 at h ⊢
  exact hX9 _ _ _ _ _ _ h K
set_option maxRecDepth 20000 in
set_option maxHeartbeats 1000000 in
theorem kx_X11_stepOf_82 {Q : Int32 → HS → Prop} {X9 X9_2 : Nat → Int32 → Int32 → Int32 → Int32 → HS → Prop} {v0 : Nat} {v4 : Int32} {v5 : Int32} {v7 : Int32} {v8 : Int32} {s0 : Int32} {s1 : Int32} {S0 S : HS} (h : P_X11_stepOf_82 Q X9 v0 v4 v5 v7 v8 s0 s1 S) (K : K8 S0 S) (hX9 : ∀ (u0 : Nat) (u1 : Int32) (u2 : Int32) (u3 : Int32) (u4 : Int32) (u5 : HS), X9 u0 u1 u2 u3 u4 u5 → K8 S0 u5 → X9_2 u0 u1 u2 u3 u4 u5) : P_X11_stepOf_82 (fun r T => Q r T ∧ K8 S0 T) X9_2 v0 v4 v5 v7 v8 s0 s1 S := by
  delta P_X11_stepOf_82 at h ⊢
  intro x2 e1
  have h := h x2 e1
  refine ⟨?_, ?_⟩
  · intro c3
    have h := h.1 c3
    obtain ⟨c4, h⟩ := h
    refine ⟨c4, ?_⟩
    have n5 := k8_nk K c4 (by decide)
    have o6 := c4
    obtain ⟨b7, e8, h⟩ := h
    refine ⟨b7, e8, ?_⟩
    intro x10 e9
    have h := h x10 e9
    intro x12 e11
    have h := h x12 e11
    intro x14 e13
    have h := h x14 e13
    obtain ⟨c15, h⟩ := h
    refine ⟨c15, ?_⟩
    have n16 := k8_nk K c15 (by decide)
    refine cm_X10_ends (kx_X10_ends h) h (fun x17 x18 p20 h g19 => ?_)
    have h := h g19
    have K := k8_tr K p20.2
    have o6 := gr_ob p20.2.1 o6
    exact kx_X11_stepOf_117 h K hX9
  · intro c21
    have h := h.2 c21
    exact kx_X11_stepOf_117 h K hX9
set_option maxRecDepth 20000 in
set_option maxHeartbeats 1000000 in
theorem kxB_X11_stepOf_9 {Q : Int32 → HS → Prop} {X9 X9_2 : Nat → Int32 → Int32 → Int32 → Int32 → HS → Prop} {v0 : Nat} {v4 : Int32} {v5 : Int32} {v6 : Int32} {v7 : Int32} {S0 S : HS} (h : B_X11_stepOf_9 Q X9 v0 v4 v5 v6 v7 S) (K : K8 S0 S) (hX9 : ∀ (u0 : Nat) (u1 : Int32) (u2 : Int32) (u3 : Int32) (u4 : Int32) (u5 : HS), X9 u0 u1 u2 u3 u4 u5 → K8 S0 u5 → X9_2 u0 u1 u2 u3 u4 u5) : B_X11_stepOf_9 (fun r T => Q r T ∧ K8 S0 T) X9_2 v0 v4 v5 v6 v7 S := by
  delta B_X11_stepOf_9 at h ⊢
  obtain ⟨c1, h⟩ := h
  refine ⟨c1, ?_⟩
  have n2 := k8_nk K c1 (by decide)
  have o3 := c1
  obtain ⟨b4, e5, h⟩ := h
  refine ⟨b4, e5, ?_⟩
  have n6 := k8_nr K e5 o3 (by decide)
  refine cm_X11_spotOf (kx_X11_spotOf h) h (fun x7 x8 p10 h g9 => ?_)
  have h := h g9
  have K := k8_tr K p10.2
  have o3 := gr_ob p10.2.1 o3
  obtain ⟨c11, h⟩ := h
  refine ⟨c11, ?_⟩
  obtain ⟨c12, h⟩ := h
  refine ⟨c12, ?_⟩
  intro x14 e13
  have h := h x14 e13
  refine ⟨?_, ?_⟩
  · intro c15
    have h := h.1 c15
    refine ⟨?_, ?_⟩
    · intro c16
      have h := h.1 c16
      exact ⟨h, K⟩
    · intro c17
      have h := h.2 c17
      exact ⟨h, K⟩
  · intro c18
    have h := h.2 c18
    obtain ⟨b19, e20, h⟩ := h
    refine ⟨b19, e20, ?_⟩
    have n21 := k8_nr K e20 o3 (by decide)
    refine cm_X11_spotOf (kx_X11_spotOf h) h (fun x22 x23 p25 h g24 => ?_)
    have h := h g24
    have K := k8_tr K p25.2
    have o3 := gr_ob p25.2.1 o3
    obtain ⟨c26, h⟩ := h
    refine ⟨c26, ?_⟩
    obtain ⟨c27, h⟩ := h
    refine ⟨c27, ?_⟩
    intro x29 e28
    have h := h x29 e28
    refine ⟨?_, ?_⟩
    · intro c30
      have h := h.1 c30
      intro x32 e31
      have h := h x32 e31
      refine ⟨?_, ?_⟩
      · intro c33
        have h := h.1 c33
        obtain ⟨b34, e35, h⟩ := h
        refine ⟨b34, e35, ?_⟩
        intro x37 e36
        have h := h x37 e36
        intro x39 e38
        have h := h x39 e38
        obtain ⟨c40, h⟩ := h
        refine ⟨c40, ?_⟩
        have n41 := k8_nk K c40 (by decide)
        refine cm_X10_minutes (kx_X10_minutes h) h (fun x42 x43 p45 h g44 => ?_)
        have h := h g44
        have K := k8_tr K p45.2
        have o3 := gr_ob p45.2.1 o3
        exact kx_X11_stepOf_82 h K hX9
      · intro c46
        have h := h.2 c46
        exact kx_X11_stepOf_82 h K hX9
    · intro c47
      have h := h.2 c47
      exact ⟨h, K⟩
theorem kx_X11_stepOf_9 {Q : Int32 → HS → Prop} {v0 : Nat} {v4 : Int32} {v5 : Int32} {v6 : Int32} {v7 : Int32} {S0 S : HS} (h : P_X11_stepOf_9 Q v0 v4 v5 v6 v7 S) (K : K8 S0 S) : P_X11_stepOf_9 (fun r T => Q r T ∧ K8 S0 T) v0 v4 v5 v6 v7 S := h (fun v0 v4 v5 v6 v7 S => K8 S0 S → P_X11_stepOf_9 (fun r T => Q r T ∧ K8 S0 T) v0 v4 v5 v6 v7 S) (fun v0 v4 v5 v6 v7 S hB K => fd_X11_stepOf_9 (kxB_X11_stepOf_9 hB K (fun _ _ _ _ _ _ hx K => hx K))) K
set_option maxRecDepth 20000 in
set_option maxHeartbeats 1000000 in
theorem kx_X11_stepOf_0 {Q : Int32 → HS → Prop} {v0 : Nat} {v2 : Int32} {v3 : Int32} {v4 : Int32} {S0 S : HS} (h : P_X11_stepOf_0 Q v0 v2 v3 v4 S) (K : K8 S0 S) : P_X11_stepOf_0 (fun r T => Q r T ∧ K8 S0 T) v0 v2 v3 v4 S := by
  delta P_X11_stepOf_0 at h ⊢
  exact kx_X11_stepOf_9 h K
theorem kx_X11_stepOf {Q : Int32 → HS → Prop} {v0 : Nat} {v1 : Int32} {v2 : Int32} {v3 : Int32} {v4 : Int32} {S : HS} (h : P_X11_stepOf v0 v1 v2 v3 v4 Q S) : P_X11_stepOf v0 v1 v2 v3 v4 (fun r T => Q r T ∧ K8 S T) S := kx_X11_stepOf_0 h (k8_rf S)
set_option maxRecDepth 20000 in
set_option maxHeartbeats 1000000 in
theorem kx_X11_step_49 {Q : Int32 → HS → Prop} {v0 : Nat} {s0 : Int32} {S0 S : HS} (h : P_X11_step_49 Q v0 s0 S) (K : K8 S0 S) : P_X11_step_49 (fun r T => Q r T ∧ K8 S0 T) v0 s0 S := by
  delta P_X11_step_49 at h ⊢
  refine ⟨?_, ?_⟩
  · intro c1
    have h := h.1 c1
    obtain ⟨c2, h⟩ := h
    refine ⟨c2, ?_⟩
    have n3 := k8_nk K c2 (by decide)
    have o4 := c2
    refine cm_X11_good (kx_X11_good h) h (fun x5 x6 p8 h g7 => ?_)
    have h := h g7
    have K := k8_tr K p8.2
    have o4 := gr_ob p8.2.1 o4
    exact ⟨h, K⟩
  · intro c9
    have h := h.2 c9
    obtain ⟨c10, h⟩ := h
    refine ⟨c10, ?_⟩
    have n11 := k8_nk K c10 (by decide)
    have o12 := c10
    refine cm_X11_refused (kx_X11_refused h) h (fun x13 x14 p16 h g15 => ?_)
    have h := h g15
    have K := k8_tr K p16.2
    have o12 := gr_ob p16.2.1 o12
    exact ⟨h, K⟩
set_option maxRecDepth 20000 in
set_option maxHeartbeats 1000000 in
theorem kx_X11_step_0 {Q : Int32 → HS → Prop} {v0 : Nat} {v1 : Int32} {v2 : Int32} {v3 : Int32} {v4 : Int32} {v5 : Int32} {v6 : Int32} {S0 S : HS} (h : P_X11_step_0 Q v0 v1 v2 v3 v4 v5 v6 S) (K : K8 S0 S) : P_X11_step_0 (fun r T => Q r T ∧ K8 S0 T) v0 v1 v2 v3 v4 v5 v6 S := by
  delta P_X11_step_0 at h ⊢
  obtain ⟨c1, h⟩ := h
  refine ⟨c1, ?_⟩
  have n2 := k8_nk K c1 (by decide)
  have o3 := c1
  intro x5 e4
  have h := h x5 e4
  have K := k8_I K e4 n2
  have o3 := ob_wI o3 e4
  refine cm_X11_refusesWay (kx_X11_refusesWay h) h (fun x6 x7 p9 h g8 => ?_)
  have h := h g8
  have K := k8_tr K p9.2
  have o3 := gr_ob p9.2.1 o3
  refine ⟨?_, ?_⟩
  · intro c10
    have h := h.1 c10
    refine ⟨?_, ?_⟩
    · intro c11
      have h := h.1 c11
      refine cm_X11_stepOf (kx_X11_stepOf h) h (fun x12 x13 p15 h g14 => ?_)
      have h := h g14
      have K := k8_tr K p15.2
      have o3 := gr_ob p15.2.1 o3
      exact kx_X11_step_49 h K
    · intro c16
      have h := h.2 c16
      exact kx_X11_step_49 h K
  · intro c17
    have h := h.2 c17
    refine cm_X11_refused (kx_X11_refused h) h (fun x18 x19 p21 h g20 => ?_)
    have h := h g20
    have K := k8_tr K p21.2
    have o3 := gr_ob p21.2.1 o3
    exact ⟨h, K⟩
theorem kx_X11_step {Q : Int32 → HS → Prop} {v0 : Nat} {v1 : Int32} {v2 : Int32} {v3 : Int32} {v4 : Int32} {v5 : Int32} {v6 : Int32} {S : HS} (h : P_X11_step v0 v1 v2 v3 v4 v5 v6 Q S) : P_X11_step v0 v1 v2 v3 v4 v5 v6 (fun r T => Q r T ∧ K8 S T) S := kx_X11_step_0 h (k8_rf S)
set_option maxRecDepth 20000 in
set_option maxHeartbeats 1000000 in
theorem kx_X11_steps_0 {Q : Int32 → HS → Prop} {v0 : Nat} {v1 : Int32} {v2 : Int32} {v3 : Int32} {v4 : Int32} {v5 : Int32} {S0 S : HS} (h : P_X11_steps_0 Q v0 v1 v2 v3 v4 v5 S) (K : K8 S0 S) : P_X11_steps_0 (fun r T => Q r T ∧ K8 S0 T) v0 v1 v2 v3 v4 v5 S := by
  delta P_X11_steps_0 at h ⊢
  obtain ⟨c1, h⟩ := h
  refine ⟨c1, ?_⟩
  have n2 := k8_nk K c1 (by decide)
  have o3 := c1
  intro x5 e4
  have h := h x5 e4
  have K := k8_I K e4 n2
  have o3 := ob_wI o3 e4
  refine cm_X11_refusesWay (kx_X11_refusesWay h) h (fun x6 x7 p9 h g8 => ?_)
  have h := h g8
  have K := k8_tr K p9.2
  have o3 := gr_ob p9.2.1 o3
  refine ⟨?_, ?_⟩
  · intro c10
    have h := h.1 c10
    refine cm_X11_stepOf (kx_X11_stepOf h) h (fun x11 x12 p14 h g13 => ?_)
    have h := h g13
    have K := k8_tr K p14.2
    have o3 := gr_ob p14.2.1 o3
    refine cm_X11_good (kx_X11_good h) h (fun x15 x16 p18 h g17 => ?_)
    have h := h g17
    have K := k8_tr K p18.2
    have o3 := gr_ob p18.2.1 o3
    exact ⟨h, K⟩
  · intro c19
    have h := h.2 c19
    refine cm_X11_refused (kx_X11_refused h) h (fun x20 x21 p23 h g22 => ?_)
    have h := h g22
    have K := k8_tr K p23.2
    have o3 := gr_ob p23.2.1 o3
    exact ⟨h, K⟩
theorem kx_X11_steps {Q : Int32 → HS → Prop} {v0 : Nat} {v1 : Int32} {v2 : Int32} {v3 : Int32} {v4 : Int32} {v5 : Int32} {S : HS} (h : P_X11_steps v0 v1 v2 v3 v4 v5 Q S) : P_X11_steps v0 v1 v2 v3 v4 v5 (fun r T => Q r T ∧ K8 S T) S := kx_X11_steps_0 h (k8_rf S)
set_option maxRecDepth 20000 in
set_option maxHeartbeats 1000000 in
theorem kx_X11_there_0 {Q : Int32 → HS → Prop} {v0 : Nat} {v1 : Int32} {v2 : Int32} {v3 : Int32} {v4 : Int32} {v5 : Int32} {S0 S : HS} (h : P_X11_there_0 Q v0 v1 v2 v3 v4 v5 S) (K : K8 S0 S) : P_X11_there_0 (fun r T => Q r T ∧ K8 S0 T) v0 v1 v2 v3 v4 v5 S := by
  delta P_X11_there_0 at h ⊢
  obtain ⟨c1, h⟩ := h
  refine ⟨c1, ?_⟩
  have n2 := k8_nk K c1 (by decide)
  have o3 := c1
  intro x5 e4
  have h := h x5 e4
  have K := k8_I K e4 n2
  have o3 := ob_wI o3 e4
  refine cm_X11_refusesWay (kx_X11_refusesWay h) h (fun x6 x7 p9 h g8 => ?_)
  have h := h g8
  have K := k8_tr K p9.2
  have o3 := gr_ob p9.2.1 o3
  refine ⟨?_, ?_⟩
  · intro c10
    have h := h.1 c10
    obtain ⟨b11, e12, h⟩ := h
    refine ⟨b11, e12, ?_⟩
    have n13 := k8_nr K e12 o3 (by decide)
    refine cm_X11_spotOf (kx_X11_spotOf h) h (fun x14 x15 p17 h g16 => ?_)
    have h := h g16
    have K := k8_tr K p17.2
    have o3 := gr_ob p17.2.1 o3
    obtain ⟨c18, h⟩ := h
    refine ⟨c18, ?_⟩
    obtain ⟨c19, h⟩ := h
    refine ⟨c19, ?_⟩
    intro x21 e20
    have h := h x21 e20
    refine cm_X11_good (kx_X11_good h) h (fun x22 x23 p25 h g24 => ?_)
    have h := h g24
    have K := k8_tr K p25.2
    have o3 := gr_ob p25.2.1 o3
    exact ⟨h, K⟩
  · intro c26
    have h := h.2 c26
    refine cm_X11_refused (kx_X11_refused h) h (fun x27 x28 p30 h g29 => ?_)
    have h := h g29
    have K := k8_tr K p30.2
    have o3 := gr_ob p30.2.1 o3
    exact ⟨h, K⟩
theorem kx_X11_there {Q : Int32 → HS → Prop} {v0 : Nat} {v1 : Int32} {v2 : Int32} {v3 : Int32} {v4 : Int32} {v5 : Int32} {S : HS} (h : P_X11_there v0 v1 v2 v3 v4 v5 Q S) : P_X11_there v0 v1 v2 v3 v4 v5 (fun r T => Q r T ∧ K8 S T) S := kx_X11_there_0 h (k8_rf S)
set_option maxRecDepth 20000 in
set_option maxHeartbeats 1000000 in
theorem kx_X11_trouble_0 {Q : Int32 → HS → Prop} {v0 : Nat} {S0 S : HS} (h : P_X11_trouble_0 Q v0 S) (K : K8 S0 S) : P_X11_trouble_0 (fun r T => Q r T ∧ K8 S0 T) v0 S := by
  delta P_X11_trouble_0 at h ⊢
  obtain ⟨c1, h⟩ := h
  refine ⟨c1, ?_⟩
  have n2 := k8_nk K c1 (by decide)
  have o3 := c1
  intro x5 e4
  have h := h x5 e4
  have K := k8_I K e4 n2
  have o3 := ob_wI o3 e4
  intro x7 e6
  have h := h x7 e6
  exact ⟨h, K⟩
theorem kx_X11_trouble {Q : Int32 → HS → Prop} {v0 : Nat} {S : HS} (h : P_X11_trouble v0 Q S) : P_X11_trouble v0 (fun r T => Q r T ∧ K8 S T) S := kx_X11_trouble_0 h (k8_rf S)
set_option maxRecDepth 20000 in
set_option maxHeartbeats 1000000 in
theorem kx_X11_undo_19 {Q : Int32 → HS → Prop} {v0 : Nat} {S0 S : HS} (h : P_X11_undo_19 Q v0 S) (K : K8 S0 S) : P_X11_undo_19 (fun r T => Q r T ∧ K8 S0 T) v0 S := by
  delta P_X11_undo_19 at h ⊢
  obtain ⟨c1, h⟩ := h
  refine ⟨c1, ?_⟩
  have n2 := k8_nk K c1 (by decide)
  have o3 := c1
  refine cm_X11_denied (kx_X11_denied h) h (fun x4 x5 p8 h g6 g7 => ?_)
  have h := h g6 g7
  have K := k8_tr K p8.2
  have o3 := gr_ob p8.2.1 o3
  obtain ⟨c9, h⟩ := h
  refine ⟨c9, ?_⟩
  exact ⟨h, K⟩
set_option maxRecDepth 20000 in
set_option maxHeartbeats 1000000 in
theorem kxB_X11_undo_38 {Q : Int32 → HS → Prop} {X38 X38_2 : Nat → Int32 → HS → Prop} {v0 : Nat} {v1 : Int32} {S0 S : HS} (h : B_X11_undo_38 Q X38 v0 v1 S) (K : K8 S0 S) (hX38 : ∀ (u0 : Nat) (u1 : Int32) (u2 : HS), X38 u0 u1 u2 → K8 S0 u2 → X38_2 u0 u1 u2) : B_X11_undo_38 (fun r T => Q r T ∧ K8 S0 T) X38_2 v0 v1 S := by
  delta B_X11_undo_38 at h ⊢
  refine ⟨?_, ?_⟩
  · intro c1
    have h := h.1 c1
    obtain ⟨c2, h⟩ := h
    refine ⟨c2, ?_⟩
    have n3 := k8_nk K c2 (by decide)
    have o4 := c2
    refine cm_X11_granted (kx_X11_granted h) h (fun x5 x6 p9 h g7 g8 => ?_)
    have h := h g7 g8
    have K := k8_tr K p9.2
    have o4 := gr_ob p9.2.1 o4
    obtain ⟨c10, h⟩ := h
    refine ⟨c10, ?_⟩
    exact ⟨h, K⟩
  · intro c11
    have h := h.2 c11
    obtain ⟨c12, h⟩ := h
    refine ⟨c12, ?_⟩
    have n13 := k8_nk K c12 (by decide)
    have o14 := c12
    obtain ⟨b15, e16, h⟩ := h
    refine ⟨b15, e16, ?_⟩
    obtain ⟨b17, e18, h⟩ := h
    refine ⟨b17, e18, ?_⟩
    intro x20 e19
    have h := h x20 e19
    obtain ⟨c21, h⟩ := h
    refine ⟨c21, ?_⟩
    have n22 := k8_nk K c21 (by decide)
    intro x24 e23
    have h := h x24 e23
    obtain ⟨c25, h⟩ := h
    refine ⟨c25, ?_⟩
    intro x27 e26
    have h := h x27 e26
    obtain ⟨c28, h⟩ := h
    refine ⟨c28, ?_⟩
    have n29 := k8_nk K c28 (by decide)
    obtain ⟨c30, h⟩ := h
    refine ⟨c30, ?_⟩
    intro x32 e31
    have h := h x32 e31
    have K := k8_J K e31
    have o14 := ob_wJ o14 e31
    intro x34 e33
    have h := h x34 e33
    exact hX38 _ _ _ h K
theorem kx_X11_undo_38 {Q : Int32 → HS → Prop} {v0 : Nat} {v1 : Int32} {S0 S : HS} (h : P_X11_undo_38 Q v0 v1 S) (K : K8 S0 S) : P_X11_undo_38 (fun r T => Q r T ∧ K8 S0 T) v0 v1 S := h (fun v0 v1 S => K8 S0 S → P_X11_undo_38 (fun r T => Q r T ∧ K8 S0 T) v0 v1 S) (fun v0 v1 S hB K => fd_X11_undo_38 (kxB_X11_undo_38 hB K (fun _ _ _ hx K => hx K))) K
set_option maxRecDepth 20000 in
set_option maxHeartbeats 1000000 in
theorem kx_X11_undo_0 {Q : Int32 → HS → Prop} {v0 : Nat} {S0 S : HS} (h : P_X11_undo_0 Q v0 S) (K : K8 S0 S) : P_X11_undo_0 (fun r T => Q r T ∧ K8 S0 T) v0 S := by
  delta P_X11_undo_0 at h ⊢
  obtain ⟨c1, h⟩ := h
  refine ⟨c1, ?_⟩
  have n2 := k8_nk K c1 (by decide)
  have o3 := c1
  intro x5 e4
  have h := h x5 e4
  have K := k8_I K e4 n2
  have o3 := ob_wI o3 e4
  refine cm_X11_isDay (kx_X11_isDay h) h (fun x6 x7 p10 h g8 g9 => ?_)
  have h := h g8 g9
  have K := k8_tr K p10.2
  have o3 := gr_ob p10.2.1 o3
  refine ⟨?_, ?_⟩
  · intro c11
    have h := h.1 c11
    exact kx_X11_undo_19 h K
  · intro c12
    have h := h.2 c12
    intro x14 e13
    have h := h x14 e13
    refine ⟨?_, ?_⟩
    · intro c15
      have h := h.1 c15
      intro x17 e16
      have h := h x17 e16
      intro x19 e18
      have h := h x19 e18
      intro x21 e20
      have h := h x21 e20
      have K := k8_I K e20 n2
      have o3 := ob_wI o3 e20
      exact kx_X11_undo_38 h K
    · intro c22
      have h := h.2 c22
      exact kx_X11_undo_19 h K
theorem kx_X11_undo {Q : Int32 → HS → Prop} {v0 : Nat} {S : HS} (h : P_X11_undo v0 Q S) : P_X11_undo v0 (fun r T => Q r T ∧ K8 S T) S := kx_X11_undo_0 h (k8_rf S)
set_option maxRecDepth 20000 in
set_option maxHeartbeats 1000000 in
theorem kx_X11_walker_23 {Q : Int32 → HS → Prop} {v0 : Nat} {S0 S : HS} (h : P_X11_walker_23 Q v0 S) (K : K8 S0 S) : P_X11_walker_23 (fun r T => Q r T ∧ K8 S0 T) v0 S := by
  delta P_X11_walker_23 at h ⊢
  obtain ⟨c1, h⟩ := h
  refine ⟨c1, ?_⟩
  have n2 := k8_nk K c1 (by decide)
  have o3 := c1
  refine cm_X11_refused (kx_X11_refused h) h (fun x4 x5 p7 h g6 => ?_)
  have h := h g6
  have K := k8_tr K p7.2
  have o3 := gr_ob p7.2.1 o3
  exact ⟨h, K⟩
set_option maxRecDepth 20000 in
set_option maxHeartbeats 1000000 in
theorem kx_X11_walker_0 {Q : Int32 → HS → Prop} {v0 : Nat} {v1 : Int32} {v2 : Int32} {S0 S : HS} (h : P_X11_walker_0 Q v0 v1 v2 S) (K : K8 S0 S) : P_X11_walker_0 (fun r T => Q r T ∧ K8 S0 T) v0 v1 v2 S := by
  delta P_X11_walker_0 at h ⊢
  obtain ⟨c1, h⟩ := h
  refine ⟨c1, ?_⟩
  have n2 := k8_nk K c1 (by decide)
  have o3 := c1
  intro x5 e4
  have h := h x5 e4
  have K := k8_I K e4 n2
  have o3 := ob_wI o3 e4
  refine cm_X11_isWalker (kx_X11_isWalker h) h (fun x6 x7 p10 h g8 g9 => ?_)
  have h := h g8 g9
  have K := k8_tr K p10.2
  have o3 := gr_ob p10.2.1 o3
  refine ⟨?_, ?_⟩
  · intro c11
    have h := h.1 c11
    exact kx_X11_walker_23 h K
  · intro c12
    have h := h.2 c12
    refine cm_X11_in (kx_X11_in h) h (fun x13 x14 p17 h g15 g16 => ?_)
    have h := h g15 g16
    have K := k8_tr K p17.2
    have o3 := gr_ob p17.2.1 o3
    refine ⟨?_, ?_⟩
    · intro c18
      have h := h.1 c18
      refine ⟨?_, ?_, ?_, ?_, ?_, ?_, ?_⟩
      · intro c19
        have h := h.1 c19
        obtain ⟨b20, e21, h⟩ := h
        refine ⟨b20, e21, ?_⟩
        obtain ⟨c22, h⟩ := h
        refine ⟨c22, ?_⟩
        have n23 := k8_nk K c22 (by decide)
        obtain ⟨b24, e25, h⟩ := h
        refine ⟨b24, e25, ?_⟩
        obtain ⟨c26, h⟩ := h
        refine ⟨c26, ?_⟩
        obtain ⟨c27, h⟩ := h
        refine ⟨c27, ?_⟩
        intro x29 e28
        have h := h x29 e28
        refine cm_X11_good (kx_X11_good h) h (fun x30 x31 p33 h g32 => ?_)
        have h := h g32
        have K := k8_tr K p33.2
        have o3 := gr_ob p33.2.1 o3
        exact ⟨h, K⟩
      · intro c34
        have h := h.2.1 c34
        obtain ⟨b35, e36, h⟩ := h
        refine ⟨b35, e36, ?_⟩
        obtain ⟨c37, h⟩ := h
        refine ⟨c37, ?_⟩
        have n38 := k8_nk K c37 (by decide)
        obtain ⟨b39, e40, h⟩ := h
        refine ⟨b39, e40, ?_⟩
        obtain ⟨c41, h⟩ := h
        refine ⟨c41, ?_⟩
        obtain ⟨c42, h⟩ := h
        refine ⟨c42, ?_⟩
        intro x44 e43
        have h := h x44 e43
        refine cm_X11_good (kx_X11_good h) h (fun x45 x46 p48 h g47 => ?_)
        have h := h g47
        have K := k8_tr K p48.2
        have o3 := gr_ob p48.2.1 o3
        exact ⟨h, K⟩
      · intro c49
        have h := h.2.2.1 c49
        obtain ⟨b50, e51, h⟩ := h
        refine ⟨b50, e51, ?_⟩
        obtain ⟨c52, h⟩ := h
        refine ⟨c52, ?_⟩
        have n53 := k8_nk K c52 (by decide)
        obtain ⟨b54, e55, h⟩ := h
        refine ⟨b54, e55, ?_⟩
        obtain ⟨c56, h⟩ := h
        refine ⟨c56, ?_⟩
        obtain ⟨c57, h⟩ := h
        refine ⟨c57, ?_⟩
        intro x59 e58
        have h := h x59 e58
        refine cm_X11_good (kx_X11_good h) h (fun x60 x61 p63 h g62 => ?_)
        have h := h g62
        have K := k8_tr K p63.2
        have o3 := gr_ob p63.2.1 o3
        exact ⟨h, K⟩
      · intro c64
        have h := h.2.2.2.1 c64
        obtain ⟨b65, e66, h⟩ := h
        refine ⟨b65, e66, ?_⟩
        obtain ⟨c67, h⟩ := h
        refine ⟨c67, ?_⟩
        have n68 := k8_nk K c67 (by decide)
        obtain ⟨b69, e70, h⟩ := h
        refine ⟨b69, e70, ?_⟩
        obtain ⟨c71, h⟩ := h
        refine ⟨c71, ?_⟩
        obtain ⟨c72, h⟩ := h
        refine ⟨c72, ?_⟩
        intro x74 e73
        have h := h x74 e73
        refine cm_X11_good (kx_X11_good h) h (fun x75 x76 p78 h g77 => ?_)
        have h := h g77
        have K := k8_tr K p78.2
        have o3 := gr_ob p78.2.1 o3
        exact ⟨h, K⟩
      · intro c79
        have h := h.2.2.2.2.1 c79
        obtain ⟨b80, e81, h⟩ := h
        refine ⟨b80, e81, ?_⟩
        obtain ⟨c82, h⟩ := h
        refine ⟨c82, ?_⟩
        have n83 := k8_nk K c82 (by decide)
        obtain ⟨b84, e85, h⟩ := h
        refine ⟨b84, e85, ?_⟩
        obtain ⟨c86, h⟩ := h
        refine ⟨c86, ?_⟩
        obtain ⟨c87, h⟩ := h
        refine ⟨c87, ?_⟩
        intro x89 e88
        have h := h x89 e88
        refine cm_X11_good (kx_X11_good h) h (fun x90 x91 p93 h g92 => ?_)
        have h := h g92
        have K := k8_tr K p93.2
        have o3 := gr_ob p93.2.1 o3
        exact ⟨h, K⟩
      · intro c94
        have h := h.2.2.2.2.2.1 c94
        obtain ⟨b95, e96, h⟩ := h
        refine ⟨b95, e96, ?_⟩
        obtain ⟨c97, h⟩ := h
        refine ⟨c97, ?_⟩
        have n98 := k8_nk K c97 (by decide)
        obtain ⟨b99, e100, h⟩ := h
        refine ⟨b99, e100, ?_⟩
        obtain ⟨c101, h⟩ := h
        refine ⟨c101, ?_⟩
        obtain ⟨c102, h⟩ := h
        refine ⟨c102, ?_⟩
        intro x104 e103
        have h := h x104 e103
        refine cm_X11_good (kx_X11_good h) h (fun x105 x106 p108 h g107 => ?_)
        have h := h g107
        have K := k8_tr K p108.2
        have o3 := gr_ob p108.2.1 o3
        exact ⟨h, K⟩
      · intro c109
        have h := h.2.2.2.2.2.2 c109
        obtain ⟨b110, e111, h⟩ := h
        refine ⟨b110, e111, ?_⟩
        obtain ⟨c112, h⟩ := h
        refine ⟨c112, ?_⟩
        have n113 := k8_nk K c112 (by decide)
        obtain ⟨b114, e115, h⟩ := h
        refine ⟨b114, e115, ?_⟩
        obtain ⟨c116, h⟩ := h
        refine ⟨c116, ?_⟩
        obtain ⟨c117, h⟩ := h
        refine ⟨c117, ?_⟩
        intro x119 e118
        have h := h x119 e118
        refine cm_X11_good (kx_X11_good h) h (fun x120 x121 p123 h g122 => ?_)
        have h := h g122
        have K := k8_tr K p123.2
        have o3 := gr_ob p123.2.1 o3
        exact ⟨h, K⟩
    · intro c124
      have h := h.2 c124
      exact kx_X11_walker_23 h K
theorem kx_X11_walker {Q : Int32 → HS → Prop} {v0 : Nat} {v1 : Int32} {v2 : Int32} {S : HS} (h : P_X11_walker v0 v1 v2 Q S) : P_X11_walker v0 v1 v2 (fun r T => Q r T ∧ K8 S T) S := kx_X11_walker_0 h (k8_rf S)
set_option maxRecDepth 20000 in
set_option maxHeartbeats 1000000 in
theorem kx_X11_wet_0 {Q : Int64 → HS → Prop} {v0 : Nat} {v1 : Int32} {v2 : Int32} {v3 : Int32} {v4 : Int32} {v5 : Int32} {v6 : Int32} {S0 S : HS} (h : P_X11_wet_0 Q v0 v1 v2 v3 v4 v5 v6 S) (K : K8 S0 S) : P_X11_wet_0 (fun r T => Q r T ∧ K8 S0 T) v0 v1 v2 v3 v4 v5 v6 S := by
  delta P_X11_wet_0 at h ⊢
  obtain ⟨c1, h⟩ := h
  refine ⟨c1, ?_⟩
  have n2 := k8_nk K c1 (by decide)
  have o3 := c1
  intro x5 e4
  have h := h x5 e4
  have K := k8_I K e4 n2
  have o3 := ob_wI o3 e4
  refine cm_X11_refuses (kx_X11_refuses h) h (fun x6 x7 p9 h g8 => ?_)
  have h := h g8
  have K := k8_tr K p9.2
  have o3 := gr_ob p9.2.1 o3
  refine ⟨?_, ?_⟩
  · intro c10
    have h := h.1 c10
    refine cm_X11_wetOf (kx_X11_wetOf h) h (fun x11 x12 p14 h g13 => ?_)
    have h := h g13
    have K := k8_tr K p14.2
    have o3 := gr_ob p14.2.1 o3
    refine cm_X11_told (kx_X11_told h) h (fun x15 x16 p18 h g17 => ?_)
    have h := h g17
    have K := k8_tr K p18.2
    have o3 := gr_ob p18.2.1 o3
    exact ⟨h, K⟩
  · intro c19
    have h := h.2 c19
    refine cm_X11_refused (kx_X11_refused h) h (fun x20 x21 p23 h g22 => ?_)
    have h := h g22
    have K := k8_tr K p23.2
    have o3 := gr_ob p23.2.1 o3
    exact ⟨h, K⟩
theorem kx_X11_wet {Q : Int64 → HS → Prop} {v0 : Nat} {v1 : Int32} {v2 : Int32} {v3 : Int32} {v4 : Int32} {v5 : Int32} {v6 : Int32} {S : HS} (h : P_X11_wet v0 v1 v2 v3 v4 v5 v6 Q S) : P_X11_wet v0 v1 v2 v3 v4 v5 v6 (fun r T => Q r T ∧ K8 S T) S := kx_X11_wet_0 h (k8_rf S)
set_option maxRecDepth 20000 in
set_option maxHeartbeats 1000000 in
theorem kx_X11_wetness_41 {Q : Int64 → HS → Prop} {v1 : Int32} {s0 : Nat} {s1 : Int64} {S0 S : HS} (h : P_X11_wetness_41 Q v1 s0 s1 S) (K : K8 S0 S) : P_X11_wetness_41 (fun r T => Q r T ∧ K8 S0 T) v1 s0 s1 S := by
  delta P_X11_wetness_41 at h ⊢
  obtain ⟨c1, h⟩ := h
  refine ⟨c1, ?_⟩
  have n2 := k8_nk K c1 (by decide)
  have o3 := c1
  refine cm_X11_told (kx_X11_told h) h (fun x4 x5 p7 h g6 => ?_)
  have h := h g6
  have K := k8_tr K p7.2
  have o3 := gr_ob p7.2.1 o3
  exact ⟨h, K⟩
set_option maxRecDepth 20000 in
set_option maxHeartbeats 1000000 in
theorem kx_X11_wetness_0 {Q : Int64 → HS → Prop} {v0 : Nat} {v1 : Int32} {S0 S : HS} (h : P_X11_wetness_0 Q v0 v1 S) (K : K8 S0 S) : P_X11_wetness_0 (fun r T => Q r T ∧ K8 S0 T) v0 v1 S := by
  delta P_X11_wetness_0 at h ⊢
  obtain ⟨c1, h⟩ := h
  refine ⟨c1, ?_⟩
  have n2 := k8_nk K c1 (by decide)
  have o3 := c1
  intro x5 e4
  have h := h x5 e4
  have K := k8_I K e4 n2
  have o3 := ob_wI o3 e4
  refine cm_X11_isDay (kx_X11_isDay h) h (fun x6 x7 p10 h g8 g9 => ?_)
  have h := h g8 g9
  have K := k8_tr K p10.2
  have o3 := gr_ob p10.2.1 o3
  refine ⟨?_, ?_⟩
  · intro c11
    have h := h.1 c11
    refine cm_X11_gotInAll (kx_X11_gotInAll h) h (fun x12 x13 p15 h g14 => ?_)
    have h := h g14
    have K := k8_tr K p15.2
    have o3 := gr_ob p15.2.1 o3
    refine cm_X11_holds (kx_X11_holds h) h (fun x16 x17 p19 h g18 => ?_)
    have h := h g18
    have K := k8_tr K p19.2
    have o3 := gr_ob p19.2.1 o3
    intro x21 e20
    have h := h x21 e20
    refine ⟨?_, ?_⟩
    · intro c22
      have h := h.1 c22
      exact kx_X11_wetness_41 h K
    · intro c23
      have h := h.2 c23
      exact kx_X11_wetness_41 h K
  · intro c24
    have h := h.2 c24
    refine cm_X11_refused (kx_X11_refused h) h (fun x25 x26 p28 h g27 => ?_)
    have h := h g27
    have K := k8_tr K p28.2
    have o3 := gr_ob p28.2.1 o3
    exact ⟨h, K⟩
theorem kx_X11_wetness {Q : Int64 → HS → Prop} {v0 : Nat} {v1 : Int32} {S : HS} (h : P_X11_wetness v0 v1 Q S) : P_X11_wetness v0 v1 (fun r T => Q r T ∧ K8 S T) S := kx_X11_wetness_0 h (k8_rf S)
set_option maxRecDepth 20000 in
set_option maxHeartbeats 1000000 in
theorem kx_X11_where_0 {Q : Int32 → HS → Prop} {v0 : Nat} {S0 S : HS} (h : P_X11_where_0 Q v0 S) (K : K8 S0 S) : P_X11_where_0 (fun r T => Q r T ∧ K8 S0 T) v0 S := by
  delta P_X11_where_0 at h ⊢
  obtain ⟨c1, h⟩ := h
  refine ⟨c1, ?_⟩
  have n2 := k8_nk K c1 (by decide)
  have o3 := c1
  intro x5 e4
  have h := h x5 e4
  have K := k8_I K e4 n2
  have o3 := ob_wI o3 e4
  intro x7 e6
  have h := h x7 e6
  exact ⟨h, K⟩
theorem kx_X11_where {Q : Int32 → HS → Prop} {v0 : Nat} {S : HS} (h : P_X11_where v0 Q S) : P_X11_where v0 (fun r T => Q r T ∧ K8 S T) S := kx_X11_where_0 h (k8_rf S)
set_option maxRecDepth 20000 in
set_option maxHeartbeats 1000000 in
theorem kx_X11_worst_39 {Q : Int32 → HS → Prop} {v0 : Nat} {S0 S : HS} (h : P_X11_worst_39 Q v0 S) (K : K8 S0 S) : P_X11_worst_39 (fun r T => Q r T ∧ K8 S0 T) v0 S := by
  delta P_X11_worst_39 at h ⊢
  obtain ⟨c1, h⟩ := h
  refine ⟨c1, ?_⟩
  have n2 := k8_nk K c1 (by decide)
  have o3 := c1
  refine cm_X11_refused (kx_X11_refused h) h (fun x4 x5 p7 h g6 => ?_)
  have h := h g6
  have K := k8_tr K p7.2
  have o3 := gr_ob p7.2.1 o3
  exact ⟨h, K⟩
set_option maxRecDepth 20000 in
set_option maxHeartbeats 1000000 in
theorem kx_X11_worst_106 {Q : Int32 → HS → Prop} {X62 X62_2 : Nat → Int32 → Int32 → Int32 → Int32 → Int32 → Int32 → HS → Prop} {v0 : Nat} {v1 : Int32} {v2 : Int32} {v3 : Int32} {v4 : Int32} {v5 : Int32} {v6 : Int32} {S0 S : HS} (h : P_X11_worst_106 Q X62 v0 v1 v2 v3 v4 v5 v6 S) (K : K8 S0 S) (hX62 : ∀ (u0 : Nat) (u1 : Int32) (u2 : Int32) (u3 : Int32) (u4 : Int32) (u5 : Int32) (u6 : Int32) (u7 : HS), X62 u0 u1 u2 u3 u4 u5 u6 u7 → K8 S0 u7 → X62_2 u0 u1 u2 u3 u4 u5 u6 u7) : P_X11_worst_106 (fun r T => Q r T ∧ K8 S0 T) X62_2 v0 v1 v2 v3 v4 v5 v6 S := by
  delta P_X11_worst_106 at h ⊢
  intro x2 e1
  have h := h x2 e1
  exact hX62 _ _ _ _ _ _ _ _ h K
set_option maxRecDepth 20000 in
set_option maxHeartbeats 1000000 in
theorem kxB_X11_worst_62 {Q : Int32 → HS → Prop} {X62 X62_2 : Nat → Int32 → Int32 → Int32 → Int32 → Int32 → Int32 → HS → Prop} {v0 : Nat} {v1 : Int32} {v2 : Int32} {v3 : Int32} {v4 : Int32} {v5 : Int32} {v6 : Int32} {S0 S : HS} (h : B_X11_worst_62 Q X62 v0 v1 v2 v3 v4 v5 v6 S) (K : K8 S0 S) (hX62 : ∀ (u0 : Nat) (u1 : Int32) (u2 : Int32) (u3 : Int32) (u4 : Int32) (u5 : Int32) (u6 : Int32) (u7 : HS), X62 u0 u1 u2 u3 u4 u5 u6 u7 → K8 S0 u7 → X62_2 u0 u1 u2 u3 u4 u5 u6 u7) : B_X11_worst_62 (fun r T => Q r T ∧ K8 S0 T) X62_2 v0 v1 v2 v3 v4 v5 v6 S := by
  delta B_X11_worst_62 at h ⊢
  obtain ⟨c1, h⟩ := h
  refine ⟨c1, ?_⟩
  have n2 := k8_nk K c1 (by decide)
  have o3 := c1
  obtain ⟨b4, e5, h⟩ := h
  refine ⟨b4, e5, ?_⟩
  obtain ⟨c6, h⟩ := h
  refine ⟨c6, ?_⟩
  have n7 := k8_nk K c6 (by decide)
  obtain ⟨b8, e9, h⟩ := h
  refine ⟨b8, e9, ?_⟩
  obtain ⟨c10, h⟩ := h
  refine ⟨c10, ?_⟩
  obtain ⟨c11, h⟩ := h
  refine ⟨c11, ?_⟩
  intro x13 e12
  have h := h x13 e12
  refine ⟨?_, ?_⟩
  · intro c14
    have h := h.1 c14
    refine cm_X11_good (kx_X11_good h) h (fun x15 x16 p18 h g17 => ?_)
    have h := h g17
    have K := k8_tr K p18.2
    have o3 := gr_ob p18.2.1 o3
    exact ⟨h, K⟩
  · intro c19
    have h := h.2 c19
    refine cm_X11_wetOf (kx_X11_wetOf h) h (fun x20 x21 p23 h g22 => ?_)
    have h := h g22
    have K := k8_tr K p23.2
    have o3 := gr_ob p23.2.1 o3
    refine cm_X11_wetOf (kx_X11_wetOf h) h (fun x24 x25 p27 h g26 => ?_)
    have h := h g26
    have K := k8_tr K p27.2
    have o3 := gr_ob p27.2.1 o3
    refine ⟨?_, ?_⟩
    · intro c28
      have h := h.1 c28
      exact kx_X11_worst_106 h K hX62
    · intro c29
      have h := h.2 c29
      exact kx_X11_worst_106 h K hX62
theorem kx_X11_worst_62 {Q : Int32 → HS → Prop} {v0 : Nat} {v1 : Int32} {v2 : Int32} {v3 : Int32} {v4 : Int32} {v5 : Int32} {v6 : Int32} {S0 S : HS} (h : P_X11_worst_62 Q v0 v1 v2 v3 v4 v5 v6 S) (K : K8 S0 S) : P_X11_worst_62 (fun r T => Q r T ∧ K8 S0 T) v0 v1 v2 v3 v4 v5 v6 S := h (fun v0 v1 v2 v3 v4 v5 v6 S => K8 S0 S → P_X11_worst_62 (fun r T => Q r T ∧ K8 S0 T) v0 v1 v2 v3 v4 v5 v6 S) (fun v0 v1 v2 v3 v4 v5 v6 S hB K => fd_X11_worst_62 (kxB_X11_worst_62 hB K (fun _ _ _ _ _ _ _ _ hx K => hx K))) K
set_option maxRecDepth 20000 in
set_option maxHeartbeats 1000000 in
theorem kx_X11_worst_0 {Q : Int32 → HS → Prop} {v0 : Nat} {v1 : Int32} {v2 : Int32} {v3 : Int32} {v4 : Int32} {S0 S : HS} (h : P_X11_worst_0 Q v0 v1 v2 v3 v4 S) (K : K8 S0 S) : P_X11_worst_0 (fun r T => Q r T ∧ K8 S0 T) v0 v1 v2 v3 v4 S := by
  delta P_X11_worst_0 at h ⊢
  obtain ⟨c1, h⟩ := h
  refine ⟨c1, ?_⟩
  have n2 := k8_nk K c1 (by decide)
  have o3 := c1
  intro x5 e4
  have h := h x5 e4
  have K := k8_I K e4 n2
  have o3 := ob_wI o3 e4
  refine cm_X11_isWalker (kx_X11_isWalker h) h (fun x6 x7 p10 h g8 g9 => ?_)
  have h := h g8 g9
  have K := k8_tr K p10.2
  have o3 := gr_ob p10.2.1 o3
  refine ⟨?_, ?_⟩
  · intro c11
    have h := h.1 c11
    exact kx_X11_worst_39 h K
  · intro c12
    have h := h.2 c12
    refine cm_X11_isRoad (kx_X11_isRoad h) h (fun x13 x14 p17 h g15 g16 => ?_)
    have h := h g15 g16
    have K := k8_tr K p17.2
    have o3 := gr_ob p17.2.1 o3
    refine ⟨?_, ?_⟩
    · intro c18
      have h := h.1 c18
      exact kx_X11_worst_39 h K
    · intro c19
      have h := h.2 c19
      refine cm_X11_in (kx_X11_in h) h (fun x20 x21 p24 h g22 g23 => ?_)
      have h := h g22 g23
      have K := k8_tr K p24.2
      have o3 := gr_ob p24.2.1 o3
      refine ⟨?_, ?_⟩
      · intro c25
        have h := h.1 c25
        exact kx_X11_worst_39 h K
      · intro c26
        have h := h.2 c26
        refine cm_X11_isHour (kx_X11_isHour h) h (fun x27 x28 p31 h g29 g30 => ?_)
        have h := h g29 g30
        have K := k8_tr K p31.2
        have o3 := gr_ob p31.2.1 o3
        refine ⟨?_, ?_⟩
        · intro c32
          have h := h.1 c32
          obtain ⟨b33, e34, h⟩ := h
          refine ⟨b33, e34, ?_⟩
          obtain ⟨c35, h⟩ := h
          refine ⟨c35, ?_⟩
          have n36 := k8_nk K c35 (by decide)
          obtain ⟨b37, e38, h⟩ := h
          refine ⟨b37, e38, ?_⟩
          obtain ⟨c39, h⟩ := h
          refine ⟨c39, ?_⟩
          obtain ⟨c40, h⟩ := h
          refine ⟨c40, ?_⟩
          intro x42 e41
          have h := h x42 e41
          intro x44 e43
          have h := h x44 e43
          exact kx_X11_worst_62 h K
        · intro c45
          have h := h.2 c45
          exact kx_X11_worst_39 h K
theorem kx_X11_worst {Q : Int32 → HS → Prop} {v0 : Nat} {v1 : Int32} {v2 : Int32} {v3 : Int32} {v4 : Int32} {S : HS} (h : P_X11_worst v0 v1 v2 v3 v4 Q S) : P_X11_worst v0 v1 v2 v3 v4 (fun r T => Q r T ∧ K8 S T) S := kx_X11_worst_0 h (k8_rf S)
set_option maxRecDepth 20000 in
set_option maxHeartbeats 1000000 in
theorem kx_X5_turnOf_17 {Q : Int32 → HS → Prop} {v2 : Nat} {s0 : Int32} {S0 S : HS} (h : P_X5_turnOf_17 Q v2 s0 S) (K : K8 S0 S) : P_X5_turnOf_17 (fun r T => Q r T ∧ K8 S0 T) v2 s0 S := by
  delta P_X5_turnOf_17 at h ⊢
  obtain ⟨c1, h⟩ := h
  refine ⟨c1, ?_⟩
  have n2 := k8_nk K c1 (by decide)
  intro x4 e3
  have h := h x4 e3
  exact ⟨h, K⟩
set_option maxRecDepth 20000 in
set_option maxHeartbeats 1000000 in
theorem kx_X5_turnOf_0 {Q : Int32 → HS → Prop} {v0 : Nat} {v1 : Int32} {v2 : Nat} {S0 S : HS} (h : P_X5_turnOf_0 Q v0 v1 v2 S) (K : K8 S0 S) : P_X5_turnOf_0 (fun r T => Q r T ∧ K8 S0 T) v0 v1 v2 S := by
  delta P_X5_turnOf_0 at h ⊢
  refine ⟨?_, ?_⟩
  · intro c1
    have h := h.1 c1
    obtain ⟨c2, h⟩ := h
    refine ⟨c2, ?_⟩
    have n3 := k8_nk K c2 (by decide)
    intro x5 e4
    have h := h x5 e4
    exact kx_X5_turnOf_17 h K
  · intro c6
    have h := h.2 c6
    obtain ⟨c7, h⟩ := h
    refine ⟨c7, ?_⟩
    have n8 := k8_nk K c7 (by decide)
    intro x10 e9
    have h := h x10 e9
    exact kx_X5_turnOf_17 h K
theorem kx_X5_turnOf {Q : Int32 → HS → Prop} {v0 : Nat} {v1 : Int32} {v2 : Nat} {S : HS} (h : P_X5_turnOf v0 v1 v2 Q S) : P_X5_turnOf v0 v1 v2 (fun r T => Q r T ∧ K8 S T) S := kx_X5_turnOf_0 h (k8_rf S)
set_option maxRecDepth 20000 in
set_option maxHeartbeats 1000000 in
theorem kx_X5_airAlong_0 {Q : Int32 → HS → Prop} {v0 : Nat} {v1 : Int32} {v2 : Nat} {S0 S : HS} (h : P_X5_airAlong_0 Q v0 v1 v2 S) (K : K8 S0 S) : P_X5_airAlong_0 (fun r T => Q r T ∧ K8 S0 T) v0 v1 v2 S := by
  delta P_X5_airAlong_0 at h ⊢
  obtain ⟨c1, h⟩ := h
  refine ⟨c1, ?_⟩
  have n2 := k8_nk K c1 (by decide)
  refine cm_X5_turnOf (kx_X5_turnOf h) h (fun x3 x4 p6 h g5 => ?_)
  have h := h g5
  have K := k8_tr K p6.2
  refine ⟨?_, ?_⟩
  · intro c7
    have h := h.1 c7
    refine ⟨?_, ?_⟩
    · intro c8
      have h := h.1 c8
      exact ⟨h, K⟩
    · intro c9
      have h := h.2 c9
      obtain ⟨c10, h⟩ := h
      refine ⟨c10, ?_⟩
      have n11 := k8_nk K c10 (by decide)
      intro x13 e12
      have h := h x13 e12
      exact ⟨h, K⟩
  · intro c14
    have h := h.2 c14
    obtain ⟨c15, h⟩ := h
    refine ⟨c15, ?_⟩
    have n16 := k8_nk K c15 (by decide)
    intro x18 e17
    have h := h x18 e17
    exact ⟨h, K⟩
theorem kx_X5_airAlong {Q : Int32 → HS → Prop} {v0 : Nat} {v1 : Int32} {v2 : Nat} {S : HS} (h : P_X5_airAlong v0 v1 v2 Q S) : P_X5_airAlong v0 v1 v2 (fun r T => Q r T ∧ K8 S T) S := kx_X5_airAlong_0 h (k8_rf S)
set_option maxRecDepth 20000 in
set_option maxHeartbeats 1000000 in
theorem kx_X1_lay_130 {Q : HS → Prop} {v0 : Nat} {v3 : Nat} {v7 : Int64} {v9 : Int32} {s0 : Nat} {s1 : Int32} {s2 : Int64} {S0 S : HS} (h : P_X1_lay_130 Q v0 v3 v7 v9 s0 s1 s2 S) (K : K8 S0 S) : P_X1_lay_130 (fun T => Q T ∧ K8 S0 T) v0 v3 v7 v9 s0 s1 s2 S := by
  delta P_X1_lay_130 at h ⊢
  obtain ⟨c1, h⟩ := h
  refine ⟨c1, ?_⟩
  have n2 := k8_nk K c1 (by decide)
  obtain ⟨c3, h⟩ := h
  refine ⟨c3, ?_⟩
  intro x5 e4
  have h := h x5 e4
  have K := k8_J K e4
  obtain ⟨c6, h⟩ := h
  refine ⟨c6, ?_⟩
  have n7 := k8_nk K c6 (by decide)
  obtain ⟨b8, e9, h⟩ := h
  refine ⟨b8, e9, ?_⟩
  refine ⟨?_, ?_⟩
  · intro c10
    have h := h.1 c10
    obtain ⟨c11, h⟩ := h
    refine ⟨c11, ?_⟩
    have n12 := k8_nk K c11 (by decide)
    obtain ⟨c13, h⟩ := h
    refine ⟨c13, ?_⟩
    intro x15 e14
    have h := h x15 e14
    have K := k8_J K e14
    exact ⟨h, K⟩
  · intro c16
    have h := h.2 c16
    obtain ⟨c17, h⟩ := h
    refine ⟨c17, ?_⟩
    have n18 := k8_nk K c17 (by decide)
    intro x20 e19
    have h := h x20 e19
    obtain ⟨c21, h⟩ := h
    refine ⟨c21, ?_⟩
    have n22 := k8_nk K c21 (by decide)
    intro x24 e23
    have h := h x24 e23
    obtain ⟨c25, h⟩ := h
    refine ⟨c25, ?_⟩
    intro x27 e26
    have h := h x27 e26
    have K := k8_J K e26
    exact ⟨h, K⟩
set_option maxRecDepth 20000 in
set_option maxHeartbeats 1000000 in
theorem kx_X1_lay_27 {Q : HS → Prop} {v0 : Nat} {v1 : Nat} {v2 : Int32} {v3 : Nat} {v4 : Int32} {s0 : Int64} {S0 S : HS} (h : P_X1_lay_27 Q v0 v1 v2 v3 v4 s0 S) (K : K8 S0 S) : P_X1_lay_27 (fun T => Q T ∧ K8 S0 T) v0 v1 v2 v3 v4 s0 S := by
  delta P_X1_lay_27 at h ⊢
  obtain ⟨c1, h⟩ := h
  refine ⟨c1, ?_⟩
  have n2 := k8_nk K c1 (by decide)
  intro x4 e3
  have h := h x4 e3
  intro x6 e5
  have h := h x6 e5
  obtain ⟨c7, h⟩ := h
  refine ⟨c7, ?_⟩
  have n8 := k8_nk K c7 (by decide)
  refine cm_X5_turnOf (kx_X5_turnOf h) h (fun x9 x10 p12 h g11 => ?_)
  have h := h g11
  have K := k8_tr K p12.2
  refine cm_X5_airAlong (kx_X5_airAlong h) h (fun x13 x14 p16 h g15 => ?_)
  have h := h g15
  have K := k8_tr K p16.2
  obtain ⟨c17, h⟩ := h
  refine ⟨c17, ?_⟩
  have n18 := k8_nk K c17 (by decide)
  obtain ⟨b19, e20, h⟩ := h
  refine ⟨b19, e20, ?_⟩
  intro x22 e21
  have h := h x22 e21
  obtain ⟨c23, h⟩ := h
  refine ⟨c23, ?_⟩
  have n24 := k8_nk K c23 (by decide)
  intro x26 e25
  have h := h x26 e25
  obtain ⟨c27, h⟩ := h
  refine ⟨c27, ?_⟩
  intro x29 e28
  have h := h x29 e28
  have K := k8_J K e28
  obtain ⟨b30, e31, h⟩ := h
  refine ⟨b30, e31, ?_⟩
  intro x33 e32
  have h := h x33 e32
  obtain ⟨c34, h⟩ := h
  refine ⟨c34, ?_⟩
  have n35 := k8_nk K c34 (by decide)
  intro x37 e36
  have h := h x37 e36
  obtain ⟨c38, h⟩ := h
  refine ⟨c38, ?_⟩
  intro x40 e39
  have h := h x40 e39
  have K := k8_J K e39
  obtain ⟨b41, e42, h⟩ := h
  refine ⟨b41, e42, ?_⟩
  intro x44 e43
  have h := h x44 e43
  obtain ⟨c45, h⟩ := h
  refine ⟨c45, ?_⟩
  have n46 := k8_nk K c45 (by decide)
  intro x48 e47
  have h := h x48 e47
  obtain ⟨c49, h⟩ := h
  refine ⟨c49, ?_⟩
  intro x51 e50
  have h := h x51 e50
  have K := k8_J K e50
  obtain ⟨b52, e53, h⟩ := h
  refine ⟨b52, e53, ?_⟩
  refine ⟨?_, ?_⟩
  · intro c54
    have h := h.1 c54
    exact kx_X1_lay_130 h K
  · intro c55
    have h := h.2 c55
    intro x57 e56
    have h := h x57 e56
    exact kx_X1_lay_130 h K
set_option maxRecDepth 20000 in
set_option maxHeartbeats 1000000 in
theorem kx_X1_lay_0 {Q : HS → Prop} {v0 : Nat} {v1 : Nat} {v2 : Int32} {v3 : Nat} {v4 : Int32} {S0 S : HS} (h : P_X1_lay_0 Q v0 v1 v2 v3 v4 S) (K : K8 S0 S) : P_X1_lay_0 (fun T => Q T ∧ K8 S0 T) v0 v1 v2 v3 v4 S := by
  delta P_X1_lay_0 at h ⊢
  refine ⟨?_, ?_⟩
  · intro c1
    have h := h.1 c1
    exact kx_X1_lay_27 h K
  · intro c2
    have h := h.2 c2
    obtain ⟨c3, h⟩ := h
    refine ⟨c3, ?_⟩
    have n4 := k8_nk K c3 (by decide)
    intro x6 e5
    have h := h x6 e5
    intro x8 e7
    have h := h x8 e7
    obtain ⟨c9, h⟩ := h
    refine ⟨c9, ?_⟩
    intro x11 e10
    have h := h x11 e10
    exact kx_X1_lay_27 h K
theorem kx_X1_lay {Q : HS → Prop} {v0 : Nat} {v1 : Nat} {v2 : Int32} {v3 : Nat} {v4 : Int32} {S : HS} (h : P_X1_lay v0 v1 v2 v3 v4 Q S) : P_X1_lay v0 v1 v2 v3 v4 (fun T => Q T ∧ K8 S T) S := kx_X1_lay_0 h (k8_rf S)
set_option maxRecDepth 20000 in
set_option maxHeartbeats 1000000 in
theorem kx_X6_shield_0 {Q : Int32 → HS → Prop} {v0 : Nat} {S0 S : HS} (h : P_X6_shield_0 Q v0 S) (K : K8 S0 S) : P_X6_shield_0 (fun r T => Q r T ∧ K8 S0 T) v0 S := by
  delta P_X6_shield_0 at h ⊢
  obtain ⟨c1, h⟩ := h
  refine ⟨c1, ?_⟩
  have n2 := k8_nk K c1 (by decide)
  intro x4 e3
  have h := h x4 e3
  refine ⟨?_, ?_⟩
  · intro c5
    have h := h.1 c5
    exact ⟨h, K⟩
  · intro c6
    have h := h.2 c6
    intro x8 e7
    have h := h x8 e7
    exact ⟨h, K⟩
theorem kx_X6_shield {Q : Int32 → HS → Prop} {v0 : Nat} {S : HS} (h : P_X6_shield v0 Q S) : P_X6_shield v0 (fun r T => Q r T ∧ K8 S T) S := kx_X6_shield_0 h (k8_rf S)
set_option maxRecDepth 20000 in
set_option maxHeartbeats 1000000 in
theorem kx_X1_isForward_0 {Q : Int32 → HS → Prop} {v0 : Nat} {v1 : Nat} {S0 S : HS} (h : P_X1_isForward_0 Q v0 v1 S) (K : K8 S0 S) : P_X1_isForward_0 (fun r T => Q r T ∧ K8 S0 T) v0 v1 S := by
  delta P_X1_isForward_0 at h ⊢
  obtain ⟨c1, h⟩ := h
  refine ⟨c1, ?_⟩
  have n2 := k8_nk K c1 (by decide)
  obtain ⟨b3, e4, h⟩ := h
  refine ⟨b3, e4, ?_⟩
  obtain ⟨c5, h⟩ := h
  refine ⟨c5, ?_⟩
  have n6 := k8_nk K c5 (by decide)
  obtain ⟨c7, h⟩ := h
  refine ⟨c7, ?_⟩
  intro x9 e8
  have h := h x9 e8
  obtain ⟨c10, h⟩ := h
  refine ⟨c10, ?_⟩
  have n11 := k8_nk K c10 (by decide)
  refine cm_X6_shield (kx_X6_shield h) h (fun x12 x13 p15 h g14 => ?_)
  have h := h g14
  have K := k8_tr K p15.2
  intro x17 e16
  have h := h x17 e16
  intro x19 e18
  have h := h x19 e18
  intro x21 e20
  have h := h x21 e20
  obtain ⟨b22, e23, h⟩ := h
  refine ⟨b22, e23, ?_⟩
  obtain ⟨c24, h⟩ := h
  refine ⟨c24, ?_⟩
  have n25 := k8_nk K c24 (by decide)
  obtain ⟨c26, h⟩ := h
  refine ⟨c26, ?_⟩
  intro x28 e27
  have h := h x28 e27
  refine cm_X6_shield (kx_X6_shield h) h (fun x29 x30 p32 h g31 => ?_)
  have h := h g31
  have K := k8_tr K p32.2
  intro x34 e33
  have h := h x34 e33
  intro x36 e35
  have h := h x36 e35
  intro x38 e37
  have h := h x38 e37
  refine ⟨?_, ?_⟩
  · intro c39
    have h := h.1 c39
    exact ⟨h, K⟩
  · intro c40
    have h := h.2 c40
    exact ⟨h, K⟩
theorem kx_X1_isForward {Q : Int32 → HS → Prop} {v0 : Nat} {v1 : Nat} {S : HS} (h : P_X1_isForward v0 v1 Q S) : P_X1_isForward v0 v1 (fun r T => Q r T ∧ K8 S T) S := kx_X1_isForward_0 h (k8_rf S)
set_option maxRecDepth 20000 in
set_option maxHeartbeats 1000000 in
theorem kx_X1_soak_35 {Q : Int64 → HS → Prop} {v0 : Nat} {v1 : Nat} {v2 : Int32} {v3 : Int32} {v5 : Int32} {s0 : Int32} {S0 S : HS} (h : P_X1_soak_35 Q v0 v1 v2 v3 v5 s0 S) (K : K8 S0 S) : P_X1_soak_35 (fun r T => Q r T ∧ K8 S0 T) v0 v1 v2 v3 v5 s0 S := by
  delta P_X1_soak_35 at h ⊢
  obtain ⟨c1, h⟩ := h
  refine ⟨c1, ?_⟩
  have n2 := k8_nk K c1 (by decide)
  obtain ⟨b3, e4, h⟩ := h
  refine ⟨b3, e4, ?_⟩
  obtain ⟨b5, e6, h⟩ := h
  refine ⟨b5, e6, ?_⟩
  obtain ⟨c7, h⟩ := h
  refine ⟨c7, ?_⟩
  have n8 := k8_nk K c7 (by decide)
  obtain ⟨c9, h⟩ := h
  refine ⟨c9, ?_⟩
  intro x11 e10
  have h := h x11 e10
  obtain ⟨c12, h⟩ := h
  refine ⟨c12, ?_⟩
  have n13 := k8_nk K c12 (by decide)
  intro x15 e14
  have h := h x15 e14
  intro x17 e16
  have h := h x17 e16
  obtain ⟨c18, h⟩ := h
  refine ⟨c18, ?_⟩
  have n19 := k8_nk K c18 (by decide)
  intro x21 e20
  have h := h x21 e20
  obtain ⟨c22, h⟩ := h
  refine ⟨c22, ?_⟩
  intro x24 e23
  have h := h x24 e23
  have K := k8_J K e23
  obtain ⟨b25, e26, h⟩ := h
  refine ⟨b25, e26, ?_⟩
  obtain ⟨b27, e28, h⟩ := h
  refine ⟨b27, e28, ?_⟩
  obtain ⟨c29, h⟩ := h
  refine ⟨c29, ?_⟩
  have n30 := k8_nk K c29 (by decide)
  obtain ⟨c31, h⟩ := h
  refine ⟨c31, ?_⟩
  intro x33 e32
  have h := h x33 e32
  intro x35 e34
  have h := h x35 e34
  intro x37 e36
  have h := h x37 e36
  obtain ⟨c38, h⟩ := h
  refine ⟨c38, ?_⟩
  have n39 := k8_nk K c38 (by decide)
  intro x41 e40
  have h := h x41 e40
  obtain ⟨c42, h⟩ := h
  refine ⟨c42, ?_⟩
  intro x44 e43
  have h := h x44 e43
  have K := k8_J K e43
  obtain ⟨b45, e46, h⟩ := h
  refine ⟨b45, e46, ?_⟩
  obtain ⟨b47, e48, h⟩ := h
  refine ⟨b47, e48, ?_⟩
  obtain ⟨c49, h⟩ := h
  refine ⟨c49, ?_⟩
  have n50 := k8_nk K c49 (by decide)
  obtain ⟨c51, h⟩ := h
  refine ⟨c51, ?_⟩
  intro x53 e52
  have h := h x53 e52
  intro x55 e54
  have h := h x55 e54
  intro x57 e56
  have h := h x57 e56
  obtain ⟨c58, h⟩ := h
  refine ⟨c58, ?_⟩
  have n59 := k8_nk K c58 (by decide)
  intro x61 e60
  have h := h x61 e60
  obtain ⟨c62, h⟩ := h
  refine ⟨c62, ?_⟩
  intro x64 e63
  have h := h x64 e63
  have K := k8_J K e63
  obtain ⟨b65, e66, h⟩ := h
  refine ⟨b65, e66, ?_⟩
  obtain ⟨b67, e68, h⟩ := h
  refine ⟨b67, e68, ?_⟩
  obtain ⟨c69, h⟩ := h
  refine ⟨c69, ?_⟩
  have n70 := k8_nk K c69 (by decide)
  obtain ⟨c71, h⟩ := h
  refine ⟨c71, ?_⟩
  intro x73 e72
  have h := h x73 e72
  intro x75 e74
  have h := h x75 e74
  obtain ⟨c76, h⟩ := h
  refine ⟨c76, ?_⟩
  have n77 := k8_nk K c76 (by decide)
  intro x79 e78
  have h := h x79 e78
  obtain ⟨c80, h⟩ := h
  refine ⟨c80, ?_⟩
  intro x82 e81
  have h := h x82 e81
  have K := k8_J K e81
  obtain ⟨b83, e84, h⟩ := h
  refine ⟨b83, e84, ?_⟩
  obtain ⟨b85, e86, h⟩ := h
  refine ⟨b85, e86, ?_⟩
  obtain ⟨c87, h⟩ := h
  refine ⟨c87, ?_⟩
  have n88 := k8_nk K c87 (by decide)
  obtain ⟨c89, h⟩ := h
  refine ⟨c89, ?_⟩
  intro x91 e90
  have h := h x91 e90
  intro x93 e92
  have h := h x93 e92
  obtain ⟨c94, h⟩ := h
  refine ⟨c94, ?_⟩
  have n95 := k8_nk K c94 (by decide)
  intro x97 e96
  have h := h x97 e96
  obtain ⟨c98, h⟩ := h
  refine ⟨c98, ?_⟩
  intro x100 e99
  have h := h x100 e99
  have K := k8_J K e99
  obtain ⟨b101, e102, h⟩ := h
  refine ⟨b101, e102, ?_⟩
  obtain ⟨c103, h⟩ := h
  refine ⟨c103, ?_⟩
  have n104 := k8_nk K c103 (by decide)
  obtain ⟨c105, h⟩ := h
  refine ⟨c105, ?_⟩
  intro x107 e106
  have h := h x107 e106
  obtain ⟨b108, e109, h⟩ := h
  refine ⟨b108, e109, ?_⟩
  obtain ⟨c110, h⟩ := h
  refine ⟨c110, ?_⟩
  have n111 := k8_nk K c110 (by decide)
  obtain ⟨c112, h⟩ := h
  refine ⟨c112, ?_⟩
  intro x114 e113
  have h := h x114 e113
  obtain ⟨b115, e116, h⟩ := h
  refine ⟨b115, e116, ?_⟩
  obtain ⟨c117, h⟩ := h
  refine ⟨c117, ?_⟩
  have n118 := k8_nk K c117 (by decide)
  obtain ⟨c119, h⟩ := h
  refine ⟨c119, ?_⟩
  intro x121 e120
  have h := h x121 e120
  obtain ⟨b122, e123, h⟩ := h
  refine ⟨b122, e123, ?_⟩
  obtain ⟨c124, h⟩ := h
  refine ⟨c124, ?_⟩
  have n125 := k8_nk K c124 (by decide)
  obtain ⟨c126, h⟩ := h
  refine ⟨c126, ?_⟩
  intro x128 e127
  have h := h x128 e127
  obtain ⟨b129, e130, h⟩ := h
  refine ⟨b129, e130, ?_⟩
  obtain ⟨c131, h⟩ := h
  refine ⟨c131, ?_⟩
  have n132 := k8_nk K c131 (by decide)
  obtain ⟨c133, h⟩ := h
  refine ⟨c133, ?_⟩
  intro x135 e134
  have h := h x135 e134
  exact ⟨h, K⟩
set_option maxRecDepth 20000 in
set_option maxHeartbeats 1000000 in
theorem kx_X1_soak_20 {Q : Int64 → HS → Prop} {v0 : Nat} {v1 : Nat} {v2 : Int32} {v3 : Int32} {v4 : Int32} {s0 : Int32} {S0 S : HS} (h : P_X1_soak_20 Q v0 v1 v2 v3 v4 s0 S) (K : K8 S0 S) : P_X1_soak_20 (fun r T => Q r T ∧ K8 S0 T) v0 v1 v2 v3 v4 s0 S := by
  delta P_X1_soak_20 at h ⊢
  refine ⟨?_, ?_⟩
  · intro c1
    have h := h.1 c1
    exact kx_X1_soak_35 h K
  · intro c2
    have h := h.2 c2
    obtain ⟨c3, h⟩ := h
    refine ⟨c3, ?_⟩
    have n4 := k8_nk K c3 (by decide)
    refine cm_X6_shield (kx_X6_shield h) h (fun x5 x6 p8 h g7 => ?_)
    have h := h g7
    have K := k8_tr K p8.2
    exact kx_X1_soak_35 h K
set_option maxRecDepth 20000 in
set_option maxHeartbeats 1000000 in
theorem kx_X1_soak_0 {Q : Int64 → HS → Prop} {v0 : Nat} {v1 : Nat} {v2 : Int32} {v3 : Int32} {S0 S : HS} (h : P_X1_soak_0 Q v0 v1 v2 v3 S) (K : K8 S0 S) : P_X1_soak_0 (fun r T => Q r T ∧ K8 S0 T) v0 v1 v2 v3 S := by
  delta P_X1_soak_0 at h ⊢
  obtain ⟨c1, h⟩ := h
  refine ⟨c1, ?_⟩
  have n2 := k8_nk K c1 (by decide)
  refine cm_X1_isForward (kx_X1_isForward h) h (fun x3 x4 p7 h g5 g6 => ?_)
  have h := h g5 g6
  have K := k8_tr K p7.2
  refine ⟨?_, ?_⟩
  · intro c8
    have h := h.1 c8
    obtain ⟨c9, h⟩ := h
    refine ⟨c9, ?_⟩
    have n10 := k8_nk K c9 (by decide)
    refine cm_X6_shield (kx_X6_shield h) h (fun x11 x12 p14 h g13 => ?_)
    have h := h g13
    have K := k8_tr K p14.2
    exact kx_X1_soak_20 h K
  · intro c15
    have h := h.2 c15
    exact kx_X1_soak_20 h K
theorem kx_X1_soak {Q : Int64 → HS → Prop} {v0 : Nat} {v1 : Nat} {v2 : Int32} {v3 : Int32} {S : HS} (h : P_X1_soak v0 v1 v2 v3 Q S) : P_X1_soak v0 v1 v2 v3 (fun r T => Q r T ∧ K8 S T) S := kx_X1_soak_0 h (k8_rf S)
set_option maxRecDepth 20000 in
set_option maxHeartbeats 1000000 in
theorem kx_X1_wetOf_0 {Q : Int64 → HS → Prop} {v0 : Nat} {v1 : Nat} {v2 : Nat} {v3 : Int32} {v4 : Nat} {v5 : Int32} {S0 S : HS} (h : P_X1_wetOf_0 Q v0 v1 v2 v3 v4 v5 S) (K : K8 S0 S) : P_X1_wetOf_0 (fun r T => Q r T ∧ K8 S0 T) v0 v1 v2 v3 v4 v5 S := by
  delta P_X1_wetOf_0 at h ⊢
  obtain ⟨c1, h⟩ := h
  refine ⟨c1, ?_⟩
  have n2 := k8_nk K c1 (by decide)
  refine cm_X1_lay (kx_X1_lay h) h (fun x3 p5 h g4 => ?_)
  have h := h g4
  have K := k8_tr K p5.2
  refine cm_X1_soak (kx_X1_soak h) h (fun x6 x7 p9 h g8 => ?_)
  have h := h g8
  have K := k8_tr K p9.2
  exact ⟨h, K⟩
theorem kx_X1_wetOf {Q : Int64 → HS → Prop} {v0 : Nat} {v1 : Nat} {v2 : Nat} {v3 : Int32} {v4 : Nat} {v5 : Int32} {S : HS} (h : P_X1_wetOf v0 v1 v2 v3 v4 v5 Q S) : P_X1_wetOf v0 v1 v2 v3 v4 v5 (fun r T => Q r T ∧ K8 S T) S := kx_X1_wetOf_0 h (k8_rf S)
set_option maxRecDepth 20000 in
set_option maxHeartbeats 1000000 in
theorem kx_X1_bestSpeed_55 {Q : Int32 → HS → Prop} {X17 X17_2 : Nat → Nat → Nat → Int32 → Nat → Int32 → Int64 → Int32 → HS → Prop} {v0 : Nat} {v1 : Nat} {v2 : Nat} {v3 : Int32} {v4 : Nat} {v5 : Int32} {v6 : Int64} {v8 : Int32} {S0 S : HS} (h : P_X1_bestSpeed_55 Q X17 v0 v1 v2 v3 v4 v5 v6 v8 S) (K : K8 S0 S) (hX17 : ∀ (u0 : Nat) (u1 : Nat) (u2 : Nat) (u3 : Int32) (u4 : Nat) (u5 : Int32) (u6 : Int64) (u7 : Int32) (u8 : HS), X17 u0 u1 u2 u3 u4 u5 u6 u7 u8 → K8 S0 u8 → X17_2 u0 u1 u2 u3 u4 u5 u6 u7 u8) : P_X1_bestSpeed_55 (fun r T => Q r T ∧ K8 S0 T) X17_2 v0 v1 v2 v3 v4 v5 v6 v8 S := by
  delta P_X1_bestSpeed_55 at h ⊢
  intro x2 e1
  have h := h x2 e1
  exact hX17 _ _ _ _ _ _ _ _ _ h K
set_option maxRecDepth 20000 in
set_option maxHeartbeats 1000000 in
theorem kxB_X1_bestSpeed_17 {Q : Int32 → HS → Prop} {X17 X17_2 : Nat → Nat → Nat → Int32 → Nat → Int32 → Int64 → Int32 → HS → Prop} {v0 : Nat} {v1 : Nat} {v2 : Nat} {v3 : Int32} {v4 : Nat} {v5 : Int32} {v6 : Int64} {v8 : Int32} {S0 S : HS} (h : B_X1_bestSpeed_17 Q X17 v0 v1 v2 v3 v4 v5 v6 v8 S) (K : K8 S0 S) (hX17 : ∀ (u0 : Nat) (u1 : Nat) (u2 : Nat) (u3 : Int32) (u4 : Nat) (u5 : Int32) (u6 : Int64) (u7 : Int32) (u8 : HS), X17 u0 u1 u2 u3 u4 u5 u6 u7 u8 → K8 S0 u8 → X17_2 u0 u1 u2 u3 u4 u5 u6 u7 u8) : B_X1_bestSpeed_17 (fun r T => Q r T ∧ K8 S0 T) X17_2 v0 v1 v2 v3 v4 v5 v6 v8 S := by
  delta B_X1_bestSpeed_17 at h ⊢
  obtain ⟨c1, h⟩ := h
  refine ⟨c1, ?_⟩
  have n2 := k8_nk K c1 (by decide)
  intro x4 e3
  have h := h x4 e3
  refine ⟨?_, ?_⟩
  · intro c5
    have h := h.1 c5
    exact ⟨h, K⟩
  · intro c6
    have h := h.2 c6
    obtain ⟨c7, h⟩ := h
    refine ⟨c7, ?_⟩
    have n8 := k8_nk K c7 (by decide)
    refine cm_X1_wetOf (kx_X1_wetOf h) h (fun x9 x10 p12 h g11 => ?_)
    have h := h g11
    have K := k8_tr K p12.2
    refine ⟨?_, ?_⟩
    · intro c13
      have h := h.1 c13
      exact kx_X1_bestSpeed_55 h K hX17
    · intro c14
      have h := h.2 c14
      exact kx_X1_bestSpeed_55 h K hX17
theorem kx_X1_bestSpeed_17 {Q : Int32 → HS → Prop} {v0 : Nat} {v1 : Nat} {v2 : Nat} {v3 : Int32} {v4 : Nat} {v5 : Int32} {v6 : Int64} {v8 : Int32} {S0 S : HS} (h : P_X1_bestSpeed_17 Q v0 v1 v2 v3 v4 v5 v6 v8 S) (K : K8 S0 S) : P_X1_bestSpeed_17 (fun r T => Q r T ∧ K8 S0 T) v0 v1 v2 v3 v4 v5 v6 v8 S := h (fun v0 v1 v2 v3 v4 v5 v6 v8 S => K8 S0 S → P_X1_bestSpeed_17 (fun r T => Q r T ∧ K8 S0 T) v0 v1 v2 v3 v4 v5 v6 v8 S) (fun v0 v1 v2 v3 v4 v5 v6 v8 S hB K => fd_X1_bestSpeed_17 (kxB_X1_bestSpeed_17 hB K (fun _ _ _ _ _ _ _ _ _ hx K => hx K))) K
set_option maxRecDepth 20000 in
set_option maxHeartbeats 1000000 in
theorem kx_X1_bestSpeed_0 {Q : Int32 → HS → Prop} {v0 : Nat} {v1 : Nat} {v2 : Nat} {v3 : Int32} {v4 : Nat} {S0 S : HS} (h : P_X1_bestSpeed_0 Q v0 v1 v2 v3 v4 S) (K : K8 S0 S) : P_X1_bestSpeed_0 (fun r T => Q r T ∧ K8 S0 T) v0 v1 v2 v3 v4 S := by
  delta P_X1_bestSpeed_0 at h ⊢
  obtain ⟨c1, h⟩ := h
  refine ⟨c1, ?_⟩
  have n2 := k8_nk K c1 (by decide)
  intro x4 e3
  have h := h x4 e3
  intro x6 e5
  have h := h x6 e5
  exact kx_X1_bestSpeed_17 h K
theorem kx_X1_bestSpeed {Q : Int32 → HS → Prop} {v0 : Nat} {v1 : Nat} {v2 : Nat} {v3 : Int32} {v4 : Nat} {S : HS} (h : P_X1_bestSpeed v0 v1 v2 v3 v4 Q S) : P_X1_bestSpeed v0 v1 v2 v3 v4 (fun r T => Q r T ∧ K8 S T) S := kx_X1_bestSpeed_0 h (k8_rf S)
set_option maxRecDepth 20000 in
set_option maxHeartbeats 1000000 in
theorem kx_X1_legsOf_0 {Q : Int32 → HS → Prop} {v0 : Nat} {S0 S : HS} (h : P_X1_legsOf_0 Q v0 S) (K : K8 S0 S) : P_X1_legsOf_0 (fun r T => Q r T ∧ K8 S0 T) v0 S := by
  delta P_X1_legsOf_0 at h ⊢
  obtain ⟨c1, h⟩ := h
  refine ⟨c1, ?_⟩
  have n2 := k8_nk K c1 (by decide)
  have o3 := c1
  intro x5 e4
  have h := h x5 e4
  intro x7 e6
  have h := h x7 e6
  exact ⟨h, K⟩
theorem kx_X1_legsOf {Q : Int32 → HS → Prop} {v0 : Nat} {S : HS} (h : P_X1_legsOf v0 Q S) : P_X1_legsOf v0 (fun r T => Q r T ∧ K8 S T) S := kx_X1_legsOf_0 h (k8_rf S)
set_option maxRecDepth 20000 in
set_option maxHeartbeats 1000000 in
theorem kx_X6_canGo_0 {Q : Int32 → HS → Prop} {v0 : Nat} {v1 : Int32} {S0 S : HS} (h : P_X6_canGo_0 Q v0 v1 S) (K : K8 S0 S) : P_X6_canGo_0 (fun r T => Q r T ∧ K8 S0 T) v0 v1 S := by
  delta P_X6_canGo_0 at h ⊢
  obtain ⟨c1, h⟩ := h
  refine ⟨c1, ?_⟩
  have n2 := k8_nk K c1 (by decide)
  intro x4 e3
  have h := h x4 e3
  refine ⟨?_, ?_⟩
  · intro c5
    have h := h.1 c5
    exact ⟨h, K⟩
  · intro c6
    have h := h.2 c6
    intro x8 e7
    have h := h x8 e7
    refine ⟨?_, ?_⟩
    · intro c9
      have h := h.1 c9
      exact ⟨h, K⟩
    · intro c10
      have h := h.2 c10
      refine ⟨?_, ?_⟩
      · intro c11
        have h := h.1 c11
        exact ⟨h, K⟩
      · intro c12
        have h := h.2 c12
        refine ⟨?_, ?_⟩
        · intro c13
          have h := h.1 c13
          exact ⟨h, K⟩
        · intro c14
          have h := h.2 c14
          exact ⟨h, K⟩
theorem kx_X6_canGo {Q : Int32 → HS → Prop} {v0 : Nat} {v1 : Int32} {S : HS} (h : P_X6_canGo v0 v1 Q S) : P_X6_canGo v0 v1 (fun r T => Q r T ∧ K8 S T) S := kx_X6_canGo_0 h (k8_rf S)
set_option maxRecDepth 20000 in
set_option maxHeartbeats 1000000 in
theorem kx_X8_hasRoad_0 {Q : Int32 → HS → Prop} {v0 : Nat} {v1 : Int32} {S0 S : HS} (h : P_X8_hasRoad_0 Q v0 v1 S) (K : K8 S0 S) : P_X8_hasRoad_0 (fun r T => Q r T ∧ K8 S0 T) v0 v1 S := by
  delta P_X8_hasRoad_0 at h ⊢
  refine ⟨?_, ?_⟩
  · intro c1
    have h := h.1 c1
    exact ⟨h, K⟩
  · intro c2
    have h := h.2 c2
    obtain ⟨c3, h⟩ := h
    refine ⟨c3, ?_⟩
    have n4 := k8_nk K c3 (by decide)
    have o5 := c3
    intro x7 e6
    have h := h x7 e6
    refine ⟨?_, ?_⟩
    · intro c8
      have h := h.1 c8
      exact ⟨h, K⟩
    · intro c9
      have h := h.2 c9
      obtain ⟨b10, e11, h⟩ := h
      refine ⟨b10, e11, ?_⟩
      obtain ⟨c12, h⟩ := h
      refine ⟨c12, ?_⟩
      have n13 := k8_nk K c12 (by decide)
      refine ⟨?_, ?_⟩
      · intro c14
        have h := h.1 c14
        exact ⟨h, K⟩
      · intro c15
        have h := h.2 c15
        exact ⟨h, K⟩
theorem kx_X8_hasRoad {Q : Int32 → HS → Prop} {v0 : Nat} {v1 : Int32} {S : HS} (h : P_X8_hasRoad v0 v1 Q S) : P_X8_hasRoad v0 v1 (fun r T => Q r T ∧ K8 S T) S := kx_X8_hasRoad_0 h (k8_rf S)
set_option maxRecDepth 20000 in
set_option maxHeartbeats 1000000 in
theorem kx_X8_hasSeen_0 {Q : Int32 → HS → Prop} {v0 : Nat} {v1 : Int32} {S0 S : HS} (h : P_X8_hasSeen_0 Q v0 v1 S) (K : K8 S0 S) : P_X8_hasSeen_0 (fun r T => Q r T ∧ K8 S0 T) v0 v1 S := by
  delta P_X8_hasSeen_0 at h ⊢
  refine ⟨?_, ?_⟩
  · intro c1
    have h := h.1 c1
    exact ⟨h, K⟩
  · intro c2
    have h := h.2 c2
    obtain ⟨c3, h⟩ := h
    refine ⟨c3, ?_⟩
    have n4 := k8_nk K c3 (by decide)
    have o5 := c3
    intro x7 e6
    have h := h x7 e6
    refine ⟨?_, ?_⟩
    · intro c8
      have h := h.1 c8
      exact ⟨h, K⟩
    · intro c9
      have h := h.2 c9
      obtain ⟨b10, e11, h⟩ := h
      refine ⟨b10, e11, ?_⟩
      have n12 := k8_nr K e11 o5 (by decide)
      obtain ⟨c13, h⟩ := h
      refine ⟨c13, ?_⟩
      refine ⟨?_, ?_⟩
      · intro c14
        have h := h.1 c14
        exact ⟨h, K⟩
      · intro c15
        have h := h.2 c15
        exact ⟨h, K⟩
theorem kx_X8_hasSeen {Q : Int32 → HS → Prop} {v0 : Nat} {v1 : Int32} {S : HS} (h : P_X8_hasSeen v0 v1 Q S) : P_X8_hasSeen v0 v1 (fun r T => Q r T ∧ K8 S T) S := kx_X8_hasSeen_0 h (k8_rf S)
set_option maxRecDepth 20000 in
set_option maxHeartbeats 1000000 in
theorem kx_X8_hasWalker_0 {Q : Int32 → HS → Prop} {v0 : Nat} {v1 : Int32} {S0 S : HS} (h : P_X8_hasWalker_0 Q v0 v1 S) (K : K8 S0 S) : P_X8_hasWalker_0 (fun r T => Q r T ∧ K8 S0 T) v0 v1 S := by
  delta P_X8_hasWalker_0 at h ⊢
  refine ⟨?_, ?_⟩
  · intro c1
    have h := h.1 c1
    exact ⟨h, K⟩
  · intro c2
    have h := h.2 c2
    obtain ⟨c3, h⟩ := h
    refine ⟨c3, ?_⟩
    have n4 := k8_nk K c3 (by decide)
    have o5 := c3
    intro x7 e6
    have h := h x7 e6
    refine ⟨?_, ?_⟩
    · intro c8
      have h := h.1 c8
      exact ⟨h, K⟩
    · intro c9
      have h := h.2 c9
      obtain ⟨b10, e11, h⟩ := h
      refine ⟨b10, e11, ?_⟩
      obtain ⟨c12, h⟩ := h
      refine ⟨c12, ?_⟩
      have n13 := k8_nk K c12 (by decide)
      refine ⟨?_, ?_⟩
      · intro c14
        have h := h.1 c14
        exact ⟨h, K⟩
      · intro c15
        have h := h.2 c15
        exact ⟨h, K⟩
theorem kx_X8_hasWalker {Q : Int32 → HS → Prop} {v0 : Nat} {v1 : Int32} {S : HS} (h : P_X8_hasWalker v0 v1 Q S) : P_X8_hasWalker v0 v1 (fun r T => Q r T ∧ K8 S T) S := kx_X8_hasWalker_0 h (k8_rf S)
set_option maxRecDepth 20000 in
set_option maxHeartbeats 1000000 in
theorem kxB_X1_fitCode_141 {Q : Int32 → HS → Prop} {X141 X141_2 : Nat → Nat → Int32 → Int32 → Int32 → Int32 → Int32 → HS → Prop} {v0 : Nat} {v1 : Nat} {v2 : Int32} {v4 : Int32} {v5 : Int32} {v6 : Int32} {v8 : Int32} {S0 S : HS} (h : B_X1_fitCode_141 Q X141 v0 v1 v2 v4 v5 v6 v8 S) (K : K8 S0 S) (hX141 : ∀ (u0 : Nat) (u1 : Nat) (u2 : Int32) (u3 : Int32) (u4 : Int32) (u5 : Int32) (u6 : Int32) (u7 : HS), X141 u0 u1 u2 u3 u4 u5 u6 u7 → K8 S0 u7 → X141_2 u0 u1 u2 u3 u4 u5 u6 u7) : B_X1_fitCode_141 (fun r T => Q r T ∧ K8 S0 T) X141_2 v0 v1 v2 v4 v5 v6 v8 S := by
  delta B_X1_fitCode_141 at h ⊢
  refine ⟨?_, ?_⟩
  · intro c1
    have h := h.1 c1
    intro x3 e2
    have h := h x3 e2
    intro x5 e4
    have h := h x5 e4
    exact ⟨h, K⟩
  · intro c6
    have h := h.2 c6
    obtain ⟨c7, h⟩ := h
    refine ⟨c7, ?_⟩
    have n8 := k8_nk K c7 (by decide)
    obtain ⟨b9, e10, h⟩ := h
    refine ⟨b9, e10, ?_⟩
    obtain ⟨c11, h⟩ := h
    refine ⟨c11, ?_⟩
    have n12 := k8_nk K c11 (by decide)
    obtain ⟨c13, h⟩ := h
    refine ⟨c13, ?_⟩
    intro x15 e14
    have h := h x15 e14
    obtain ⟨c16, h⟩ := h
    refine ⟨c16, ?_⟩
    have n17 := k8_nk K c16 (by decide)
    have o18 := c16
    obtain ⟨b19, e20, h⟩ := h
    refine ⟨b19, e20, ?_⟩
    have n21 := k8_nr K e20 o18 (by decide)
    obtain ⟨c22, h⟩ := h
    refine ⟨c22, ?_⟩
    intro x24 e23
    have h := h x24 e23
    obtain ⟨c25, h⟩ := h
    refine ⟨c25, ?_⟩
    intro x27 e26
    have h := h x27 e26
    refine ⟨?_, ?_⟩
    · intro c28
      have h := h.1 c28
      intro x30 e29
      have h := h x30 e29
      exact hX141 _ _ _ _ _ _ _ _ h K
    · intro c31
      have h := h.2 c31
      exact ⟨h, K⟩
theorem kx_X1_fitCode_141 {Q : Int32 → HS → Prop} {v0 : Nat} {v1 : Nat} {v2 : Int32} {v4 : Int32} {v5 : Int32} {v6 : Int32} {v8 : Int32} {S0 S : HS} (h : P_X1_fitCode_141 Q v0 v1 v2 v4 v5 v6 v8 S) (K : K8 S0 S) : P_X1_fitCode_141 (fun r T => Q r T ∧ K8 S0 T) v0 v1 v2 v4 v5 v6 v8 S := h (fun v0 v1 v2 v4 v5 v6 v8 S => K8 S0 S → P_X1_fitCode_141 (fun r T => Q r T ∧ K8 S0 T) v0 v1 v2 v4 v5 v6 v8 S) (fun v0 v1 v2 v4 v5 v6 v8 S hB K => fd_X1_fitCode_141 (kxB_X1_fitCode_141 hB K (fun _ _ _ _ _ _ _ _ hx K => hx K))) K
set_option maxRecDepth 20000 in
set_option maxHeartbeats 1000000 in
theorem kx_X1_fitCode_0 {Q : Int32 → HS → Prop} {v0 : Nat} {v1 : Nat} {v2 : Int32} {v3 : Int32} {S0 S : HS} (h : P_X1_fitCode_0 Q v0 v1 v2 v3 S) (K : K8 S0 S) : P_X1_fitCode_0 (fun r T => Q r T ∧ K8 S0 T) v0 v1 v2 v3 S := by
  delta P_X1_fitCode_0 at h ⊢
  refine ⟨?_, ?_⟩
  · intro c1
    have h := h.1 c1
    exact ⟨h, K⟩
  · intro c2
    have h := h.2 c2
    refine cm_X1_legsOf (kx_X1_legsOf h) h (fun x3 x4 p6 h g5 => ?_)
    have h := h g5
    have K := k8_tr K p6.2
    refine ⟨?_, ?_⟩
    · intro c7
      have h := h.1 c7
      exact ⟨h, K⟩
    · intro c8
      have h := h.2 c8
      obtain ⟨c9, h⟩ := h
      refine ⟨c9, ?_⟩
      have n10 := k8_nk K c9 (by decide)
      have o11 := c9
      refine cm_X8_hasSeen (kx_X8_hasSeen h) h (fun x12 x13 p16 h g14 g15 => ?_)
      have h := h g14 g15
      have K := k8_tr K p16.2
      have o11 := gr_ob p16.2.1 o11
      refine ⟨?_, ?_⟩
      · intro c17
        have h := h.1 c17
        exact ⟨h, K⟩
      · intro c18
        have h := h.2 c18
        intro x20 e19
        have h := h x20 e19
        refine ⟨?_, ?_⟩
        · intro c21
          have h := h.1 c21
          intro x23 e22
          have h := h x23 e22
          intro x25 e24
          have h := h x25 e24
          intro x27 e26
          have h := h x27 e26
          intro x29 e28
          have h := h x29 e28
          obtain ⟨c30, h⟩ := h
          refine ⟨c30, ?_⟩
          intro x32 e31
          have h := h x32 e31
          intro x34 e33
          have h := h x34 e33
          intro x36 e35
          have h := h x36 e35
          obtain ⟨c37, h⟩ := h
          refine ⟨c37, ?_⟩
          intro x39 e38
          have h := h x39 e38
          obtain ⟨b40, e41, h⟩ := h
          refine ⟨b40, e41, ?_⟩
          have n42 := k8_nr K e41 o11 (by decide)
          obtain ⟨c43, h⟩ := h
          refine ⟨c43, ?_⟩
          obtain ⟨c44, h⟩ := h
          refine ⟨c44, ?_⟩
          intro x46 e45
          have h := h x46 e45
          refine cm_X8_hasWalker (kx_X8_hasWalker h) h (fun x47 x48 p51 h g49 g50 => ?_)
          have h := h g49 g50
          have K := k8_tr K p51.2
          have o11 := gr_ob p51.2.1 o11
          refine ⟨?_, ?_⟩
          · intro c52
            have h := h.1 c52
            exact ⟨h, K⟩
          · intro c53
            have h := h.2 c53
            intro x55 e54
            have h := h x55 e54
            refine cm_X8_hasRoad (kx_X8_hasRoad h) h (fun x56 x57 p60 h g58 g59 => ?_)
            have h := h g58 g59
            have K := k8_tr K p60.2
            have o11 := gr_ob p60.2.1 o11
            refine ⟨?_, ?_⟩
            · intro c61
              have h := h.1 c61
              exact ⟨h, K⟩
            · intro c62
              have h := h.2 c62
              obtain ⟨b63, e64, h⟩ := h
              refine ⟨b63, e64, ?_⟩
              obtain ⟨c65, h⟩ := h
              refine ⟨c65, ?_⟩
              have n66 := k8_nk K c65 (by decide)
              obtain ⟨c67, h⟩ := h
              refine ⟨c67, ?_⟩
              obtain ⟨b68, e69, h⟩ := h
              refine ⟨b68, e69, ?_⟩
              obtain ⟨c70, h⟩ := h
              refine ⟨c70, ?_⟩
              have n71 := k8_nk K c70 (by decide)
              refine cm_X6_canGo (kx_X6_canGo h) h (fun x72 x73 p76 h g74 g75 => ?_)
              have h := h g74 g75
              have K := k8_tr K p76.2
              have o11 := gr_ob p76.2.1 o11
              refine ⟨?_, ?_⟩
              · intro c77
                have h := h.1 c77
                obtain ⟨b78, e79, h⟩ := h
                refine ⟨b78, e79, ?_⟩
                obtain ⟨c80, h⟩ := h
                refine ⟨c80, ?_⟩
                have n81 := k8_nk K c80 (by decide)
                obtain ⟨c82, h⟩ := h
                refine ⟨c82, ?_⟩
                obtain ⟨b83, e84, h⟩ := h
                refine ⟨b83, e84, ?_⟩
                obtain ⟨b85, e86, h⟩ := h
                refine ⟨b85, e86, ?_⟩
                intro x88 e87
                have h := h x88 e87
                obtain ⟨c89, h⟩ := h
                refine ⟨c89, ?_⟩
                have n90 := k8_nk K c89 (by decide)
                obtain ⟨c91, h⟩ := h
                refine ⟨c91, ?_⟩
                obtain ⟨b92, e93, h⟩ := h
                refine ⟨b92, e93, ?_⟩
                intro x95 e94
                have h := h x95 e94
                obtain ⟨b96, e97, h⟩ := h
                refine ⟨b96, e97, ?_⟩
                obtain ⟨c98, h⟩ := h
                refine ⟨c98, ?_⟩
                have n99 := k8_nk K c98 (by decide)
                obtain ⟨c100, h⟩ := h
                refine ⟨c100, ?_⟩
                obtain ⟨b101, e102, h⟩ := h
                refine ⟨b101, e102, ?_⟩
                obtain ⟨c103, h⟩ := h
                refine ⟨c103, ?_⟩
                have n104 := k8_nk K c103 (by decide)
                refine cm_X1_wetOf (kx_X1_wetOf h) h (fun x105 x106 p108 h g107 => ?_)
                have h := h g107
                have K := k8_tr K p108.2
                have o11 := gr_ob p108.2.1 o11
                exact kx_X1_fitCode_141 h K
              · intro c109
                have h := h.2 c109
                exact ⟨h, K⟩
        · intro c110
          have h := h.2 c110
          exact ⟨h, K⟩
theorem kx_X1_fitCode {Q : Int32 → HS → Prop} {v0 : Nat} {v1 : Nat} {v2 : Int32} {v3 : Int32} {S : HS} (h : P_X1_fitCode v0 v1 v2 v3 Q S) : P_X1_fitCode v0 v1 v2 v3 (fun r T => Q r T ∧ K8 S T) S := kx_X1_fitCode_0 h (k8_rf S)
set_option maxRecDepth 20000 in
set_option maxHeartbeats 1000000 in
theorem kx_X1_countFits_29 {Q : Int32 → HS → Prop} {X5 X5_2 : Nat → Nat → Int32 → Int32 → Int32 → HS → Prop} {v0 : Nat} {v1 : Nat} {v2 : Int32} {v3 : Int32} {v4 : Int32} {S0 S : HS} (h : P_X1_countFits_29 Q X5 v0 v1 v2 v3 v4 S) (K : K8 S0 S) (hX5 : ∀ (u0 : Nat) (u1 : Nat) (u2 : Int32) (u3 : Int32) (u4 : Int32) (u5 : HS), X5 u0 u1 u2 u3 u4 u5 → K8 S0 u5 → X5_2 u0 u1 u2 u3 u4 u5) : P_X1_countFits_29 (fun r T => Q r T ∧ K8 S0 T) X5_2 v0 v1 v2 v3 v4 S := by
  delta P_X1_countFits_29 at h ⊢
  intro x2 e1
  have h := h x2 e1
  exact hX5 _ _ _ _ _ _ h K
set_option maxRecDepth 20000 in
set_option maxHeartbeats 1000000 in
theorem kxB_X1_countFits_5 {Q : Int32 → HS → Prop} {X5 X5_2 : Nat → Nat → Int32 → Int32 → Int32 → HS → Prop} {v0 : Nat} {v1 : Nat} {v2 : Int32} {v3 : Int32} {v4 : Int32} {S0 S : HS} (h : B_X1_countFits_5 Q X5 v0 v1 v2 v3 v4 S) (K : K8 S0 S) (hX5 : ∀ (u0 : Nat) (u1 : Nat) (u2 : Int32) (u3 : Int32) (u4 : Int32) (u5 : HS), X5 u0 u1 u2 u3 u4 u5 → K8 S0 u5 → X5_2 u0 u1 u2 u3 u4 u5) : B_X1_countFits_5 (fun r T => Q r T ∧ K8 S0 T) X5_2 v0 v1 v2 v3 v4 S := by
  delta B_X1_countFits_5 at h ⊢
  refine cm_X1_legsOf (kx_X1_legsOf h) h (fun x1 x2 p4 h g3 => ?_)
  have h := h g3
  have K := k8_tr K p4.2
  refine ⟨?_, ?_⟩
  · intro c5
    have h := h.1 c5
    exact ⟨h, K⟩
  · intro c6
    have h := h.2 c6
    obtain ⟨c7, h⟩ := h
    refine ⟨c7, ?_⟩
    have n8 := k8_nk K c7 (by decide)
    refine cm_X1_fitCode (kx_X1_fitCode h) h (fun x9 x10 p12 h g11 => ?_)
    have h := h g11
    have K := k8_tr K p12.2
    refine ⟨?_, ?_⟩
    · intro c13
      have h := h.1 c13
      exact kx_X1_countFits_29 h K hX5
    · intro c14
      have h := h.2 c14
      intro x16 e15
      have h := h x16 e15
      exact kx_X1_countFits_29 h K hX5
theorem kx_X1_countFits_5 {Q : Int32 → HS → Prop} {v0 : Nat} {v1 : Nat} {v2 : Int32} {v3 : Int32} {v4 : Int32} {S0 S : HS} (h : P_X1_countFits_5 Q v0 v1 v2 v3 v4 S) (K : K8 S0 S) : P_X1_countFits_5 (fun r T => Q r T ∧ K8 S0 T) v0 v1 v2 v3 v4 S := h (fun v0 v1 v2 v3 v4 S => K8 S0 S → P_X1_countFits_5 (fun r T => Q r T ∧ K8 S0 T) v0 v1 v2 v3 v4 S) (fun v0 v1 v2 v3 v4 S hB K => fd_X1_countFits_5 (kxB_X1_countFits_5 hB K (fun _ _ _ _ _ _ hx K => hx K))) K
set_option maxRecDepth 20000 in
set_option maxHeartbeats 1000000 in
theorem kx_X1_countFits_0 {Q : Int32 → HS → Prop} {v0 : Nat} {v1 : Nat} {v2 : Int32} {S0 S : HS} (h : P_X1_countFits_0 Q v0 v1 v2 S) (K : K8 S0 S) : P_X1_countFits_0 (fun r T => Q r T ∧ K8 S0 T) v0 v1 v2 S := by
  delta P_X1_countFits_0 at h ⊢
  exact kx_X1_countFits_5 h K
theorem kx_X1_countFits {Q : Int32 → HS → Prop} {v0 : Nat} {v1 : Nat} {v2 : Int32} {S : HS} (h : P_X1_countFits v0 v1 v2 Q S) : P_X1_countFits v0 v1 v2 (fun r T => Q r T ∧ K8 S T) S := kx_X1_countFits_0 h (k8_rf S)
set_option maxRecDepth 20000 in
set_option maxHeartbeats 1000000 in
theorem kx_X1_findFit_48 {Q : Int32 → HS → Prop} {X6 X6_2 : Nat → Nat → Int32 → Int32 → Int32 → HS → Prop} {v0 : Nat} {v1 : Nat} {v2 : Int32} {v4 : Int32} {v5 : Int32} {S0 S : HS} (h : P_X1_findFit_48 Q X6 v0 v1 v2 v4 v5 S) (K : K8 S0 S) (hX6 : ∀ (u0 : Nat) (u1 : Nat) (u2 : Int32) (u3 : Int32) (u4 : Int32) (u5 : HS), X6 u0 u1 u2 u3 u4 u5 → K8 S0 u5 → X6_2 u0 u1 u2 u3 u4 u5) : P_X1_findFit_48 (fun r T => Q r T ∧ K8 S0 T) X6_2 v0 v1 v2 v4 v5 S := by
  delta P_X1_findFit_48 at h ⊢
  intro x2 e1
  have h := h x2 e1
  exact hX6 _ _ _ _ _ _ h K
set_option maxRecDepth 20000 in
set_option maxHeartbeats 1000000 in
theorem kx_X1_findFit_39 {Q : Int32 → HS → Prop} {X6 X6_2 : Nat → Nat → Int32 → Int32 → Int32 → HS → Prop} {v0 : Nat} {v1 : Nat} {v2 : Int32} {v4 : Int32} {v5 : Int32} {v6 : Int32} {S0 S : HS} (h : P_X1_findFit_39 Q X6 v0 v1 v2 v4 v5 v6 S) (K : K8 S0 S) (hX6 : ∀ (u0 : Nat) (u1 : Nat) (u2 : Int32) (u3 : Int32) (u4 : Int32) (u5 : HS), X6 u0 u1 u2 u3 u4 u5 → K8 S0 u5 → X6_2 u0 u1 u2 u3 u4 u5) : P_X1_findFit_39 (fun r T => Q r T ∧ K8 S0 T) X6_2 v0 v1 v2 v4 v5 v6 S := by
  delta P_X1_findFit_39 at h ⊢
  refine ⟨?_, ?_⟩
  · intro c1
    have h := h.1 c1
    exact kx_X1_findFit_48 h K hX6
  · intro c2
    have h := h.2 c2
    intro x4 e3
    have h := h x4 e3
    exact kx_X1_findFit_48 h K hX6
set_option maxRecDepth 20000 in
set_option maxHeartbeats 1000000 in
theorem kxB_X1_findFit_6 {Q : Int32 → HS → Prop} {X6 X6_2 : Nat → Nat → Int32 → Int32 → Int32 → HS → Prop} {v0 : Nat} {v1 : Nat} {v2 : Int32} {v4 : Int32} {v5 : Int32} {S0 S : HS} (h : B_X1_findFit_6 Q X6 v0 v1 v2 v4 v5 S) (K : K8 S0 S) (hX6 : ∀ (u0 : Nat) (u1 : Nat) (u2 : Int32) (u3 : Int32) (u4 : Int32) (u5 : HS), X6 u0 u1 u2 u3 u4 u5 → K8 S0 u5 → X6_2 u0 u1 u2 u3 u4 u5) : B_X1_findFit_6 (fun r T => Q r T ∧ K8 S0 T) X6_2 v0 v1 v2 v4 v5 S := by
  delta B_X1_findFit_6 at h ⊢
  refine cm_X1_legsOf (kx_X1_legsOf h) h (fun x1 x2 p4 h g3 => ?_)
  have h := h g3
  have K := k8_tr K p4.2
  refine ⟨?_, ?_⟩
  · intro c5
    have h := h.1 c5
    exact ⟨h, K⟩
  · intro c6
    have h := h.2 c6
    obtain ⟨c7, h⟩ := h
    refine ⟨c7, ?_⟩
    have n8 := k8_nk K c7 (by decide)
    refine cm_X1_fitCode (kx_X1_fitCode h) h (fun x9 x10 p12 h g11 => ?_)
    have h := h g11
    have K := k8_tr K p12.2
    refine ⟨?_, ?_⟩
    · intro c13
      have h := h.1 c13
      exact kx_X1_findFit_39 h K hX6
    · intro c14
      have h := h.2 c14
      refine ⟨?_, ?_⟩
      · intro c15
        have h := h.1 c15
        exact kx_X1_findFit_39 h K hX6
      · intro c16
        have h := h.2 c16
        exact ⟨h, K⟩
theorem kx_X1_findFit_6 {Q : Int32 → HS → Prop} {v0 : Nat} {v1 : Nat} {v2 : Int32} {v4 : Int32} {v5 : Int32} {S0 S : HS} (h : P_X1_findFit_6 Q v0 v1 v2 v4 v5 S) (K : K8 S0 S) : P_X1_findFit_6 (fun r T => Q r T ∧ K8 S0 T) v0 v1 v2 v4 v5 S := h (fun v0 v1 v2 v4 v5 S => K8 S0 S → P_X1_findFit_6 (fun r T => Q r T ∧ K8 S0 T) v0 v1 v2 v4 v5 S) (fun v0 v1 v2 v4 v5 S hB K => fd_X1_findFit_6 (kxB_X1_findFit_6 hB K (fun _ _ _ _ _ _ hx K => hx K))) K
set_option maxRecDepth 20000 in
set_option maxHeartbeats 1000000 in
theorem kx_X1_findFit_0 {Q : Int32 → HS → Prop} {v0 : Nat} {v1 : Nat} {v2 : Int32} {v3 : Int32} {S0 S : HS} (h : P_X1_findFit_0 Q v0 v1 v2 v3 S) (K : K8 S0 S) : P_X1_findFit_0 (fun r T => Q r T ∧ K8 S0 T) v0 v1 v2 v3 S := by
  delta P_X1_findFit_0 at h ⊢
  exact kx_X1_findFit_6 h K
theorem kx_X1_findFit {Q : Int32 → HS → Prop} {v0 : Nat} {v1 : Nat} {v2 : Int32} {v3 : Int32} {S : HS} (h : P_X1_findFit v0 v1 v2 v3 Q S) : P_X1_findFit v0 v1 v2 v3 (fun r T => Q r T ∧ K8 S T) S := kx_X1_findFit_0 h (k8_rf S)
set_option maxRecDepth 20000 in
set_option maxHeartbeats 1000000 in
theorem kx_X1_leastWet_0 {Q : Int64 → HS → Prop} {v0 : Nat} {v1 : Nat} {v2 : Nat} {v3 : Int32} {v4 : Nat} {S0 S : HS} (h : P_X1_leastWet_0 Q v0 v1 v2 v3 v4 S) (K : K8 S0 S) : P_X1_leastWet_0 (fun r T => Q r T ∧ K8 S0 T) v0 v1 v2 v3 v4 S := by
  delta P_X1_leastWet_0 at h ⊢
  obtain ⟨c1, h⟩ := h
  refine ⟨c1, ?_⟩
  have n2 := k8_nk K c1 (by decide)
  refine cm_X1_bestSpeed (kx_X1_bestSpeed h) h (fun x3 x4 p6 h g5 => ?_)
  have h := h g5
  have K := k8_tr K p6.2
  refine cm_X1_wetOf (kx_X1_wetOf h) h (fun x7 x8 p10 h g9 => ?_)
  have h := h g9
  have K := k8_tr K p10.2
  exact ⟨h, K⟩
theorem kx_X1_leastWet {Q : Int64 → HS → Prop} {v0 : Nat} {v1 : Nat} {v2 : Nat} {v3 : Int32} {v4 : Nat} {S : HS} (h : P_X1_leastWet v0 v1 v2 v3 v4 Q S) : P_X1_leastWet v0 v1 v2 v3 v4 (fun r T => Q r T ∧ K8 S T) S := kx_X1_leastWet_0 h (k8_rf S)
set_option maxRecDepth 20000 in
set_option maxHeartbeats 1000000 in
theorem kx_X1_wetInLee_0 {Q : Int64 → HS → Prop} {v0 : Nat} {v1 : Nat} {v2 : Nat} {S0 S : HS} (h : P_X1_wetInLee_0 Q v0 v1 v2 S) (K : K8 S0 S) : P_X1_wetInLee_0 (fun r T => Q r T ∧ K8 S0 T) v0 v1 v2 S := by
  delta P_X1_wetInLee_0 at h ⊢
  obtain ⟨c1, h⟩ := h
  refine ⟨c1, ?_⟩
  have n2 := k8_nk K c1 (by decide)
  intro x4 e3
  have h := h x4 e3
  obtain ⟨c5, h⟩ := h
  refine ⟨c5, ?_⟩
  have n6 := k8_nk K c5 (by decide)
  refine cm_X1_soak (kx_X1_soak h) h (fun x7 x8 p10 h g9 => ?_)
  have h := h g9
  have K := k8_tr K p10.2
  obtain ⟨c11, h⟩ := h
  refine ⟨c11, ?_⟩
  have n12 := k8_nk K c11 (by decide)
  intro x14 e13
  have h := h x14 e13
  refine cm_X1_soak (kx_X1_soak h) h (fun x15 x16 p18 h g17 => ?_)
  have h := h g17
  have K := k8_tr K p18.2
  exact ⟨h, K⟩
theorem kx_X1_wetInLee {Q : Int64 → HS → Prop} {v0 : Nat} {v1 : Nat} {v2 : Nat} {S : HS} (h : P_X1_wetInLee v0 v1 v2 Q S) : P_X1_wetInLee v0 v1 v2 (fun r T => Q r T ∧ K8 S T) S := kx_X1_wetInLee_0 h (k8_rf S)
set_option maxRecDepth 20000 in
set_option maxHeartbeats 1000000 in
theorem kx_X1_worstSpeed_55 {Q : Int32 → HS → Prop} {X17 X17_2 : Nat → Nat → Nat → Int32 → Nat → Int32 → Int64 → Int32 → HS → Prop} {v0 : Nat} {v1 : Nat} {v2 : Nat} {v3 : Int32} {v4 : Nat} {v5 : Int32} {v6 : Int64} {v8 : Int32} {S0 S : HS} (h : P_X1_worstSpeed_55 Q X17 v0 v1 v2 v3 v4 v5 v6 v8 S) (K : K8 S0 S) (hX17 : ∀ (u0 : Nat) (u1 : Nat) (u2 : Nat) (u3 : Int32) (u4 : Nat) (u5 : Int32) (u6 : Int64) (u7 : Int32) (u8 : HS), X17 u0 u1 u2 u3 u4 u5 u6 u7 u8 → K8 S0 u8 → X17_2 u0 u1 u2 u3 u4 u5 u6 u7 u8) : P_X1_worstSpeed_55 (fun r T => Q r T ∧ K8 S0 T) X17_2 v0 v1 v2 v3 v4 v5 v6 v8 S := by
  delta P_X1_worstSpeed_55 at h ⊢
  intro x2 e1
  have h := h x2 e1
  exact hX17 _ _ _ _ _ _ _ _ _ h K
set_option maxRecDepth 20000 in
set_option maxHeartbeats 1000000 in
theorem kxB_X1_worstSpeed_17 {Q : Int32 → HS → Prop} {X17 X17_2 : Nat → Nat → Nat → Int32 → Nat → Int32 → Int64 → Int32 → HS → Prop} {v0 : Nat} {v1 : Nat} {v2 : Nat} {v3 : Int32} {v4 : Nat} {v5 : Int32} {v6 : Int64} {v8 : Int32} {S0 S : HS} (h : B_X1_worstSpeed_17 Q X17 v0 v1 v2 v3 v4 v5 v6 v8 S) (K : K8 S0 S) (hX17 : ∀ (u0 : Nat) (u1 : Nat) (u2 : Nat) (u3 : Int32) (u4 : Nat) (u5 : Int32) (u6 : Int64) (u7 : Int32) (u8 : HS), X17 u0 u1 u2 u3 u4 u5 u6 u7 u8 → K8 S0 u8 → X17_2 u0 u1 u2 u3 u4 u5 u6 u7 u8) : B_X1_worstSpeed_17 (fun r T => Q r T ∧ K8 S0 T) X17_2 v0 v1 v2 v3 v4 v5 v6 v8 S := by
  delta B_X1_worstSpeed_17 at h ⊢
  obtain ⟨c1, h⟩ := h
  refine ⟨c1, ?_⟩
  have n2 := k8_nk K c1 (by decide)
  intro x4 e3
  have h := h x4 e3
  refine ⟨?_, ?_⟩
  · intro c5
    have h := h.1 c5
    exact ⟨h, K⟩
  · intro c6
    have h := h.2 c6
    obtain ⟨c7, h⟩ := h
    refine ⟨c7, ?_⟩
    have n8 := k8_nk K c7 (by decide)
    refine cm_X1_wetOf (kx_X1_wetOf h) h (fun x9 x10 p12 h g11 => ?_)
    have h := h g11
    have K := k8_tr K p12.2
    refine ⟨?_, ?_⟩
    · intro c13
      have h := h.1 c13
      exact kx_X1_worstSpeed_55 h K hX17
    · intro c14
      have h := h.2 c14
      exact kx_X1_worstSpeed_55 h K hX17
theorem kx_X1_worstSpeed_17 {Q : Int32 → HS → Prop} {v0 : Nat} {v1 : Nat} {v2 : Nat} {v3 : Int32} {v4 : Nat} {v5 : Int32} {v6 : Int64} {v8 : Int32} {S0 S : HS} (h : P_X1_worstSpeed_17 Q v0 v1 v2 v3 v4 v5 v6 v8 S) (K : K8 S0 S) : P_X1_worstSpeed_17 (fun r T => Q r T ∧ K8 S0 T) v0 v1 v2 v3 v4 v5 v6 v8 S := h (fun v0 v1 v2 v3 v4 v5 v6 v8 S => K8 S0 S → P_X1_worstSpeed_17 (fun r T => Q r T ∧ K8 S0 T) v0 v1 v2 v3 v4 v5 v6 v8 S) (fun v0 v1 v2 v3 v4 v5 v6 v8 S hB K => fd_X1_worstSpeed_17 (kxB_X1_worstSpeed_17 hB K (fun _ _ _ _ _ _ _ _ _ hx K => hx K))) K
set_option maxRecDepth 20000 in
set_option maxHeartbeats 1000000 in
theorem kx_X1_worstSpeed_0 {Q : Int32 → HS → Prop} {v0 : Nat} {v1 : Nat} {v2 : Nat} {v3 : Int32} {v4 : Nat} {S0 S : HS} (h : P_X1_worstSpeed_0 Q v0 v1 v2 v3 v4 S) (K : K8 S0 S) : P_X1_worstSpeed_0 (fun r T => Q r T ∧ K8 S0 T) v0 v1 v2 v3 v4 S := by
  delta P_X1_worstSpeed_0 at h ⊢
  obtain ⟨c1, h⟩ := h
  refine ⟨c1, ?_⟩
  have n2 := k8_nk K c1 (by decide)
  intro x4 e3
  have h := h x4 e3
  intro x6 e5
  have h := h x6 e5
  exact kx_X1_worstSpeed_17 h K
theorem kx_X1_worstSpeed {Q : Int32 → HS → Prop} {v0 : Nat} {v1 : Nat} {v2 : Nat} {v3 : Int32} {v4 : Nat} {S : HS} (h : P_X1_worstSpeed v0 v1 v2 v3 v4 Q S) : P_X1_worstSpeed v0 v1 v2 v3 v4 (fun r T => Q r T ∧ K8 S T) S := kx_X1_worstSpeed_0 h (k8_rf S)
set_option maxRecDepth 20000 in
set_option maxHeartbeats 1000000 in
theorem kxB_X2_addFaces_2 {Q : HS → Prop} {X2 X2_2 : Nat → Nat → Int32 → HS → Prop} {v0 : Nat} {v1 : Nat} {v2 : Int32} {S0 S : HS} (h : B_X2_addFaces_2 Q X2 v0 v1 v2 S) (K : K8 S0 S) (hX2 : ∀ (u0 : Nat) (u1 : Nat) (u2 : Int32) (u3 : HS), X2 u0 u1 u2 u3 → K8 S0 u3 → X2_2 u0 u1 u2 u3) : B_X2_addFaces_2 (fun T => Q T ∧ K8 S0 T) X2_2 v0 v1 v2 S := by
  delta B_X2_addFaces_2 at h ⊢
  refine ⟨?_, ?_⟩
  · intro c1
    have h := h.1 c1
    exact ⟨h, K⟩
  · intro c2
    have h := h.2 c2
    obtain ⟨c3, h⟩ := h
    refine ⟨c3, ?_⟩
    have n4 := k8_nk K c3 (by decide)
    refine ⟨?_, ?_⟩
    · intro c5
      have h := h.1 c5
      exact ⟨h, K⟩
    · intro c6
      have h := h.2 c6
      obtain ⟨c7, h⟩ := h
      refine ⟨c7, ?_⟩
      have n8 := k8_nk K c7 (by decide)
      obtain ⟨b9, e10, h⟩ := h
      refine ⟨b9, e10, ?_⟩
      obtain ⟨c11, h⟩ := h
      refine ⟨c11, ?_⟩
      have n12 := k8_nk K c11 (by decide)
      obtain ⟨c13, h⟩ := h
      refine ⟨c13, ?_⟩
      intro x15 e14
      have h := h x15 e14
      obtain ⟨c16, h⟩ := h
      refine ⟨c16, ?_⟩
      intro x18 e17
      have h := h x18 e17
      intro x20 e19
      have h := h x20 e19
      obtain ⟨c21, h⟩ := h
      refine ⟨c21, ?_⟩
      intro x23 e22
      have h := h x23 e22
      have K := k8_J K e22
      intro x25 e24
      have h := h x25 e24
      exact hX2 _ _ _ _ h K
theorem kx_X2_addFaces_2 {Q : HS → Prop} {v0 : Nat} {v1 : Nat} {v2 : Int32} {S0 S : HS} (h : P_X2_addFaces_2 Q v0 v1 v2 S) (K : K8 S0 S) : P_X2_addFaces_2 (fun T => Q T ∧ K8 S0 T) v0 v1 v2 S := h (fun v0 v1 v2 S => K8 S0 S → P_X2_addFaces_2 (fun T => Q T ∧ K8 S0 T) v0 v1 v2 S) (fun v0 v1 v2 S hB K => fd_X2_addFaces_2 (kxB_X2_addFaces_2 hB K (fun _ _ _ _ hx K => hx K))) K
set_option maxRecDepth 20000 in
set_option maxHeartbeats 1000000 in
theorem kx_X2_addFaces_0 {Q : HS → Prop} {v0 : Nat} {v1 : Nat} {S0 S : HS} (h : P_X2_addFaces_0 Q v0 v1 S) (K : K8 S0 S) : P_X2_addFaces_0 (fun T => Q T ∧ K8 S0 T) v0 v1 S := by
  delta P_X2_addFaces_0 at h ⊢
  exact kx_X2_addFaces_2 h K
theorem kx_X2_addFaces {Q : HS → Prop} {v0 : Nat} {v1 : Nat} {S : HS} (h : P_X2_addFaces v0 v1 Q S) : P_X2_addFaces v0 v1 (fun T => Q T ∧ K8 S T) S := kx_X2_addFaces_0 h (k8_rf S)
set_option maxRecDepth 20000 in
set_option maxHeartbeats 1000000 in
theorem kxB_X2_allGot_4 {Q : Int64 → HS → Prop} {X4 X4_2 : Nat → Int64 → Int32 → HS → Prop} {v0 : Nat} {v1 : Int64} {v3 : Int32} {S0 S : HS} (h : B_X2_allGot_4 Q X4 v0 v1 v3 S) (K : K8 S0 S) (hX4 : ∀ (u0 : Nat) (u1 : Int64) (u2 : Int32) (u3 : HS), X4 u0 u1 u2 u3 → K8 S0 u3 → X4_2 u0 u1 u2 u3) : B_X2_allGot_4 (fun r T => Q r T ∧ K8 S0 T) X4_2 v0 v1 v3 S := by
  delta B_X2_allGot_4 at h ⊢
  refine ⟨?_, ?_⟩
  · intro c1
    have h := h.1 c1
    exact ⟨h, K⟩
  · intro c2
    have h := h.2 c2
    obtain ⟨c3, h⟩ := h
    refine ⟨c3, ?_⟩
    have n4 := k8_nk K c3 (by decide)
    obtain ⟨b5, e6, h⟩ := h
    refine ⟨b5, e6, ?_⟩
    obtain ⟨c7, h⟩ := h
    refine ⟨c7, ?_⟩
    have n8 := k8_nk K c7 (by decide)
    obtain ⟨c9, h⟩ := h
    refine ⟨c9, ?_⟩
    intro x11 e10
    have h := h x11 e10
    intro x13 e12
    have h := h x13 e12
    intro x15 e14
    have h := h x15 e14
    exact hX4 _ _ _ _ h K
theorem kx_X2_allGot_4 {Q : Int64 → HS → Prop} {v0 : Nat} {v1 : Int64} {v3 : Int32} {S0 S : HS} (h : P_X2_allGot_4 Q v0 v1 v3 S) (K : K8 S0 S) : P_X2_allGot_4 (fun r T => Q r T ∧ K8 S0 T) v0 v1 v3 S := h (fun v0 v1 v3 S => K8 S0 S → P_X2_allGot_4 (fun r T => Q r T ∧ K8 S0 T) v0 v1 v3 S) (fun v0 v1 v3 S hB K => fd_X2_allGot_4 (kxB_X2_allGot_4 hB K (fun _ _ _ _ hx K => hx K))) K
set_option maxRecDepth 20000 in
set_option maxHeartbeats 1000000 in
theorem kx_X2_allGot_0 {Q : Int64 → HS → Prop} {v0 : Nat} {S0 S : HS} (h : P_X2_allGot_0 Q v0 S) (K : K8 S0 S) : P_X2_allGot_0 (fun r T => Q r T ∧ K8 S0 T) v0 S := by
  delta P_X2_allGot_0 at h ⊢
  exact kx_X2_allGot_4 h K
theorem kx_X2_allGot {Q : Int64 → HS → Prop} {v0 : Nat} {S : HS} (h : P_X2_allGot v0 Q S) : P_X2_allGot v0 (fun r T => Q r T ∧ K8 S T) S := kx_X2_allGot_0 h (k8_rf S)
set_option maxRecDepth 20000 in
set_option maxHeartbeats 1000000 in
theorem kx_X4_fail_0 {Q : Int32 → HS → Prop} {v0 : Nat} {v1 : Int32} {S0 S : HS} (h : P_X4_fail_0 Q v0 v1 S) (K : K8 S0 S) : P_X4_fail_0 (fun r T => Q r T ∧ K8 S0 T) v0 v1 S := by
  delta P_X4_fail_0 at h ⊢
  obtain ⟨c1, h⟩ := h
  refine ⟨c1, ?_⟩
  have n2 := k8_nk K c1 (by decide)
  have o3 := c1
  intro x5 e4
  have h := h x5 e4
  have K := k8_I K e4 n2
  have o3 := ob_wI o3 e4
  intro x7 e6
  have h := h x7 e6
  intro x9 e8
  have h := h x9 e8
  have K := k8_I K e8 n2
  have o3 := ob_wI o3 e8
  exact ⟨h, K⟩
theorem kx_X4_fail {Q : Int32 → HS → Prop} {v0 : Nat} {v1 : Int32} {S : HS} (h : P_X4_fail v0 v1 Q S) : P_X4_fail v0 v1 (fun r T => Q r T ∧ K8 S T) S := kx_X4_fail_0 h (k8_rf S)
set_option maxRecDepth 20000 in
set_option maxHeartbeats 1000000 in
theorem kx_X4_sortAt_58 {Q : Int32 → HS → Prop} {v2 : Int32} {S0 S : HS} (h : P_X4_sortAt_58 Q v2 S) (K : K8 S0 S) : P_X4_sortAt_58 (fun r T => Q r T ∧ K8 S0 T) v2 S := by
  delta P_X4_sortAt_58 at h ⊢
  refine ⟨?_, ?_, ?_, ?_⟩
  · intro c1
    have h := h.1 c1
    exact ⟨h, K⟩
  · intro c2
    have h := h.2.1 c2
    exact ⟨h, K⟩
  · intro c3
    have h := h.2.2.1 c3
    exact ⟨h, K⟩
  · intro c4
    have h := h.2.2.2 c4
    exact ⟨h, K⟩
set_option maxRecDepth 20000 in
set_option maxHeartbeats 1000000 in
theorem kx_X4_sortAt_44 {Q : Int32 → HS → Prop} {v2 : Int32} {S0 S : HS} (h : P_X4_sortAt_44 Q v2 S) (K : K8 S0 S) : P_X4_sortAt_44 (fun r T => Q r T ∧ K8 S0 T) v2 S := by
  delta P_X4_sortAt_44 at h ⊢
  refine ⟨?_, ?_⟩
  · intro c1
    have h := h.1 c1
    exact kx_X4_sortAt_58 h K
  · intro c2
    have h := h.2 c2
    refine ⟨?_, ?_⟩
    · intro c3
      have h := h.1 c3
      exact kx_X4_sortAt_58 h K
    · intro c4
      have h := h.2 c4
      exact ⟨h, K⟩
set_option maxRecDepth 20000 in
set_option maxHeartbeats 1000000 in
theorem kx_X4_sortAt_0 {Q : Int32 → HS → Prop} {v0 : Nat} {v1 : Int32} {S0 S : HS} (h : P_X4_sortAt_0 Q v0 v1 S) (K : K8 S0 S) : P_X4_sortAt_0 (fun r T => Q r T ∧ K8 S0 T) v0 v1 S := by
  delta P_X4_sortAt_0 at h ⊢
  refine ⟨?_, ?_⟩
  · intro c1
    have h := h.1 c1
    exact ⟨h, K⟩
  · intro c2
    have h := h.2 c2
    obtain ⟨c3, h⟩ := h
    refine ⟨c3, ?_⟩
    have n4 := k8_nk K c3 (by decide)
    have o5 := c3
    intro x7 e6
    have h := h x7 e6
    refine ⟨?_, ?_⟩
    · intro c8
      have h := h.1 c8
      exact ⟨h, K⟩
    · intro c9
      have h := h.2 c9
      obtain ⟨b10, e11, h⟩ := h
      refine ⟨b10, e11, ?_⟩
      obtain ⟨c12, h⟩ := h
      refine ⟨c12, ?_⟩
      have n13 := k8_nk K c12 (by decide)
      refine ⟨?_, ?_⟩
      · intro c14
        have h := h.1 c14
        obtain ⟨b15, e16, h⟩ := h
        refine ⟨b15, e16, ?_⟩
        obtain ⟨c17, h⟩ := h
        refine ⟨c17, ?_⟩
        have n18 := k8_nk K c17 (by decide)
        obtain ⟨c19, h⟩ := h
        refine ⟨c19, ?_⟩
        intro x21 e20
        have h := h x21 e20
        refine ⟨?_, ?_⟩
        · intro c22
          have h := h.1 c22
          exact kx_X4_sortAt_44 h K
        · intro c23
          have h := h.2 c23
          refine ⟨?_, ?_⟩
          · intro c24
            have h := h.1 c24
            exact kx_X4_sortAt_44 h K
          · intro c25
            have h := h.2 c25
            exact ⟨h, K⟩
      · intro c26
        have h := h.2 c26
        exact ⟨h, K⟩
theorem kx_X4_sortAt {Q : Int32 → HS → Prop} {v0 : Nat} {v1 : Int32} {S : HS} (h : P_X4_sortAt v0 v1 Q S) : P_X4_sortAt v0 v1 (fun r T => Q r T ∧ K8 S T) S := kx_X4_sortAt_0 h (k8_rf S)
set_option maxRecDepth 20000 in
set_option maxHeartbeats 1000000 in
theorem kx_X4_next_201 {Q : HS → Prop} {X118 X118_2 : Nat → Int32 → Int32 → Int32 → Int32 → HS → Prop} {v0 : Nat} {v1 : Int32} {v2 : Int32} {v3 : Int32} {v4 : Int32} {S0 S : HS} (h : P_X4_next_201 Q X118 v0 v1 v2 v3 v4 S) (K : K8 S0 S) (hX118 : ∀ (u0 : Nat) (u1 : Int32) (u2 : Int32) (u3 : Int32) (u4 : Int32) (u5 : HS), X118 u0 u1 u2 u3 u4 u5 → K8 S0 u5 → X118_2 u0 u1 u2 u3 u4 u5) : P_X4_next_201 (fun T => Q T ∧ K8 S0 T) X118_2 v0 v1 v2 v3 v4 S := by
  delta P_X4_next_201 at h ⊢
  obtain ⟨c1, h⟩ := h
  refine ⟨c1, ?_⟩
  have n2 := k8_nk K c1 (by decide)
  have o3 := c1
  intro x5 e4
  have h := h x5 e4
  intro x7 e6
  have h := h x7 e6
  intro x9 e8
  have h := h x9 e8
  have K := k8_I K e8 n2
  have o3 := ob_wI o3 e8
  intro x11 e10
  have h := h x11 e10
  exact hX118 _ _ _ _ _ _ h K
set_option maxRecDepth 20000 in
set_option maxHeartbeats 1000000 in
theorem kx_X4_next_195 {Q : HS → Prop} {X118 X118_2 : Nat → Int32 → Int32 → Int32 → Int32 → HS → Prop} {v0 : Nat} {v1 : Int32} {v2 : Int32} {v3 : Int32} {v4 : Int32} {s0 : Nat} {s1 : Int64} {s2 : Int32} {s3 : Int32} {S0 S : HS} (h : P_X4_next_195 Q X118 v0 v1 v2 v3 v4 s0 s1 s2 s3 S) (K : K8 S0 S) (hX118 : ∀ (u0 : Nat) (u1 : Int32) (u2 : Int32) (u3 : Int32) (u4 : Int32) (u5 : HS), X118 u0 u1 u2 u3 u4 u5 → K8 S0 u5 → X118_2 u0 u1 u2 u3 u4 u5) : P_X4_next_195 (fun T => Q T ∧ K8 S0 T) X118_2 v0 v1 v2 v3 v4 s0 s1 s2 s3 S := by
  delta P_X4_next_195 at h ⊢
  obtain ⟨c1, h⟩ := h
  refine ⟨c1, ?_⟩
  have n2 := k8_nk K c1 (by decide)
  have o3 := c1
  intro x5 e4
  have h := h x5 e4
  intro x7 e6
  have h := h x7 e6
  have K := k8_J K e6
  have o3 := ob_wJ o3 e6
  exact kx_X4_next_201 h K hX118
set_option maxRecDepth 20000 in
set_option maxHeartbeats 1000000 in
theorem kx_X4_next_240 {Q : HS → Prop} {v0 : Nat} {v1 : Int32} {S0 S : HS} (h : P_X4_next_240 Q v0 v1 S) (K : K8 S0 S) : P_X4_next_240 (fun T => Q T ∧ K8 S0 T) v0 v1 S := by
  delta P_X4_next_240 at h ⊢
  refine ⟨?_, ?_⟩
  · intro c1
    have h := h.1 c1
    exact ⟨h, K⟩
  · intro c2
    have h := h.2 c2
    obtain ⟨c3, h⟩ := h
    refine ⟨c3, ?_⟩
    have n4 := k8_nk K c3 (by decide)
    have o5 := c3
    intro x7 e6
    have h := h x7 e6
    refine ⟨?_, ?_⟩
    · intro c8
      have h := h.1 c8
      exact ⟨h, K⟩
    · intro c9
      have h := h.2 c9
      intro x11 e10
      have h := h x11 e10
      intro x13 e12
      have h := h x13 e12
      intro x15 e14
      have h := h x15 e14
      have K := k8_I K e14 n4
      have o5 := ob_wI o5 e14
      exact ⟨h, K⟩
set_option maxRecDepth 20000 in
set_option maxHeartbeats 1000000 in
theorem kx_X4_next_217 {Q : HS → Prop} {v0 : Nat} {v1 : Int32} {v2 : Int32} {S0 S : HS} (h : P_X4_next_217 Q v0 v1 v2 S) (K : K8 S0 S) : P_X4_next_217 (fun T => Q T ∧ K8 S0 T) v0 v1 v2 S := by
  delta P_X4_next_217 at h ⊢
  refine ⟨?_, ?_⟩
  · intro c1
    have h := h.1 c1
    exact kx_X4_next_240 h K
  · intro c2
    have h := h.2 c2
    obtain ⟨c3, h⟩ := h
    refine ⟨c3, ?_⟩
    have n4 := k8_nk K c3 (by decide)
    have o5 := c3
    intro x7 e6
    have h := h x7 e6
    intro x9 e8
    have h := h x9 e8
    refine ⟨?_, ?_⟩
    · intro c10
      have h := h.1 c10
      exact kx_X4_next_240 h K
    · intro c11
      have h := h.2 c11
      intro x13 e12
      have h := h x13 e12
      have K := k8_I K e12 n4
      have o5 := ob_wI o5 e12
      exact kx_X4_next_240 h K
set_option maxRecDepth 20000 in
set_option maxHeartbeats 1000000 in
theorem kxB_X4_next_118 {Q : HS → Prop} {X118 X118_2 : Nat → Int32 → Int32 → Int32 → Int32 → HS → Prop} {v0 : Nat} {v1 : Int32} {v2 : Int32} {v3 : Int32} {v4 : Int32} {S0 S : HS} (h : B_X4_next_118 Q X118 v0 v1 v2 v3 v4 S) (K : K8 S0 S) (hX118 : ∀ (u0 : Nat) (u1 : Int32) (u2 : Int32) (u3 : Int32) (u4 : Int32) (u5 : HS), X118 u0 u1 u2 u3 u4 u5 → K8 S0 u5 → X118_2 u0 u1 u2 u3 u4 u5) : B_X4_next_118 (fun T => Q T ∧ K8 S0 T) X118_2 v0 v1 v2 v3 v4 S := by
  delta B_X4_next_118 at h ⊢
  refine ⟨?_, ?_⟩
  · intro c1
    have h := h.1 c1
    exact kx_X4_next_217 h K
  · intro c2
    have h := h.2 c2
    refine ⟨?_, ?_⟩
    · intro c3
      have h := h.1 c3
      exact kx_X4_next_217 h K
    · intro c4
      have h := h.2 c4
      obtain ⟨c5, h⟩ := h
      refine ⟨c5, ?_⟩
      have n6 := k8_nk K c5 (by decide)
      have o7 := c5
      intro x9 e8
      have h := h x9 e8
      refine cm_X4_sortAt (kx_X4_sortAt h) h (fun x10 x11 p13 h g12 => ?_)
      have h := h g12
      have K := k8_tr K p13.2
      have o7 := gr_ob p13.2.1 o7
      intro x15 e14
      have h := h x15 e14
      refine ⟨?_, ?_⟩
      · intro c16
        have h := h.1 c16
        exact kx_X4_next_217 h K
      · intro c17
        have h := h.2 c17
        refine ⟨?_, ?_⟩
        · intro c18
          have h := h.1 c18
          exact kx_X4_next_201 h K hX118
        · intro c19
          have h := h.2 c19
          intro x21 e20
          have h := h x21 e20
          obtain ⟨b22, e23, h⟩ := h
          refine ⟨b22, e23, ?_⟩
          obtain ⟨c24, h⟩ := h
          refine ⟨c24, ?_⟩
          have n25 := k8_nk K c24 (by decide)
          refine ⟨?_, ?_⟩
          · intro c26
            have h := h.1 c26
            exact kx_X4_next_201 h K hX118
          · intro c27
            have h := h.2 c27
            intro x29 e28
            have h := h x29 e28
            obtain ⟨b30, e31, h⟩ := h
            refine ⟨b30, e31, ?_⟩
            intro x33 e32
            have h := h x33 e32
            obtain ⟨c34, h⟩ := h
            refine ⟨c34, ?_⟩
            have n35 := k8_nk K c34 (by decide)
            obtain ⟨c36, h⟩ := h
            refine ⟨c36, ?_⟩
            intro x38 e37
            have h := h x38 e37
            intro x40 e39
            have h := h x40 e39
            refine ⟨?_, ?_⟩
            · intro c41
              have h := h.1 c41
              exact kx_X4_next_195 h K hX118
            · intro c42
              have h := h.2 c42
              exact kx_X4_next_195 h K hX118
theorem kx_X4_next_118 {Q : HS → Prop} {v0 : Nat} {v1 : Int32} {v2 : Int32} {v3 : Int32} {v4 : Int32} {S0 S : HS} (h : P_X4_next_118 Q v0 v1 v2 v3 v4 S) (K : K8 S0 S) : P_X4_next_118 (fun T => Q T ∧ K8 S0 T) v0 v1 v2 v3 v4 S := h (fun v0 v1 v2 v3 v4 S => K8 S0 S → P_X4_next_118 (fun T => Q T ∧ K8 S0 T) v0 v1 v2 v3 v4 S) (fun v0 v1 v2 v3 v4 S hB K => fd_X4_next_118 (kxB_X4_next_118 hB K (fun _ _ _ _ _ _ hx K => hx K))) K
set_option maxRecDepth 20000 in
set_option maxHeartbeats 1000000 in
theorem kx_X4_next_114 {Q : HS → Prop} {v0 : Nat} {v1 : Int32} {v2 : Int32} {s0 : Int32} {S0 S : HS} (h : P_X4_next_114 Q v0 v1 v2 s0 S) (K : K8 S0 S) : P_X4_next_114 (fun T => Q T ∧ K8 S0 T) v0 v1 v2 s0 S := by
  delta P_X4_next_114 at h ⊢
  exact kx_X4_next_118 h K
set_option maxRecDepth 20000 in
set_option maxHeartbeats 1000000 in
theorem kx_X4_next_98 {Q : HS → Prop} {v0 : Nat} {v1 : Int32} {s0 : Int32} {S0 S : HS} (h : P_X4_next_98 Q v0 v1 s0 S) (K : K8 S0 S) : P_X4_next_98 (fun T => Q T ∧ K8 S0 T) v0 v1 s0 S := by
  delta P_X4_next_98 at h ⊢
  obtain ⟨c1, h⟩ := h
  refine ⟨c1, ?_⟩
  have n2 := k8_nk K c1 (by decide)
  have o3 := c1
  intro x5 e4
  have h := h x5 e4
  refine ⟨?_, ?_⟩
  · intro c6
    have h := h.1 c6
    exact kx_X4_next_114 h K
  · intro c7
    have h := h.2 c7
    exact kx_X4_next_114 h K
set_option maxRecDepth 20000 in
set_option maxHeartbeats 1000000 in
theorem kx_X4_next_83 {Q : HS → Prop} {v0 : Nat} {s0 : Int32} {S0 S : HS} (h : P_X4_next_83 Q v0 s0 S) (K : K8 S0 S) : P_X4_next_83 (fun T => Q T ∧ K8 S0 T) v0 s0 S := by
  delta P_X4_next_83 at h ⊢
  obtain ⟨c1, h⟩ := h
  refine ⟨c1, ?_⟩
  have n2 := k8_nk K c1 (by decide)
  have o3 := c1
  intro x5 e4
  have h := h x5 e4
  refine ⟨?_, ?_⟩
  · intro c6
    have h := h.1 c6
    exact kx_X4_next_98 h K
  · intro c7
    have h := h.2 c7
    exact kx_X4_next_98 h K
set_option maxRecDepth 20000 in
set_option maxHeartbeats 1000000 in
theorem kx_X4_next_78 {Q : HS → Prop} {v0 : Nat} {S0 S : HS} (h : P_X4_next_78 Q v0 S) (K : K8 S0 S) : P_X4_next_78 (fun T => Q T ∧ K8 S0 T) v0 S := by
  delta P_X4_next_78 at h ⊢
  exact kx_X4_next_83 h K
set_option maxRecDepth 20000 in
set_option maxHeartbeats 1000000 in
theorem kx_X4_next_37 {Q : HS → Prop} {v0 : Nat} {S0 S : HS} (h : P_X4_next_37 Q v0 S) (K : K8 S0 S) : P_X4_next_37 (fun T => Q T ∧ K8 S0 T) v0 S := by
  delta P_X4_next_37 at h ⊢
  obtain ⟨c1, h⟩ := h
  refine ⟨c1, ?_⟩
  have n2 := k8_nk K c1 (by decide)
  have o3 := c1
  intro x5 e4
  have h := h x5 e4
  intro x7 e6
  have h := h x7 e6
  have K := k8_I K e6 n2
  have o3 := ob_wI o3 e6
  intro x9 e8
  have h := h x9 e8
  refine cm_X4_sortAt (kx_X4_sortAt h) h (fun x10 x11 p13 h g12 => ?_)
  have h := h g12
  have K := k8_tr K p13.2
  have o3 := gr_ob p13.2.1 o3
  intro x15 e14
  have h := h x15 e14
  have K := k8_I K e14 n2
  have o3 := ob_wI o3 e14
  intro x17 e16
  have h := h x17 e16
  have K := k8_J K e16
  have o3 := ob_wJ o3 e16
  intro x19 e18
  have h := h x19 e18
  refine ⟨?_, ?_⟩
  · intro c20
    have h := h.1 c20
    exact kx_X4_next_78 h K
  · intro c21
    have h := h.2 c21
    intro x23 e22
    have h := h x23 e22
    refine ⟨?_, ?_⟩
    · intro c24
      have h := h.1 c24
      exact kx_X4_next_83 h K
    · intro c25
      have h := h.2 c25
      exact kx_X4_next_78 h K
set_option maxRecDepth 20000 in
set_option maxHeartbeats 1000000 in
theorem kxB_X4_next_2 {Q : HS → Prop} {X2 X2_2 : Nat → Int32 → HS → Prop} {v0 : Nat} {v1 : Int32} {S0 S : HS} (h : B_X4_next_2 Q X2 v0 v1 S) (K : K8 S0 S) (hX2 : ∀ (u0 : Nat) (u1 : Int32) (u2 : HS), X2 u0 u1 u2 → K8 S0 u2 → X2_2 u0 u1 u2) : B_X4_next_2 (fun T => Q T ∧ K8 S0 T) X2_2 v0 v1 S := by
  delta B_X4_next_2 at h ⊢
  refine ⟨?_, ?_⟩
  · intro c1
    have h := h.1 c1
    exact kx_X4_next_37 h K
  · intro c2
    have h := h.2 c2
    obtain ⟨c3, h⟩ := h
    refine ⟨c3, ?_⟩
    have n4 := k8_nk K c3 (by decide)
    have o5 := c3
    intro x7 e6
    have h := h x7 e6
    refine cm_X4_sortAt (kx_X4_sortAt h) h (fun x8 x9 p11 h g10 => ?_)
    have h := h g10
    have K := k8_tr K p11.2
    have o5 := gr_ob p11.2.1 o5
    refine ⟨?_, ?_⟩
    · intro c12
      have h := h.1 c12
      exact kx_X4_next_37 h K
    · intro c13
      have h := h.2 c13
      intro x15 e14
      have h := h x15 e14
      intro x17 e16
      have h := h x17 e16
      intro x19 e18
      have h := h x19 e18
      have K := k8_I K e18 n4
      have o5 := ob_wI o5 e18
      intro x21 e20
      have h := h x21 e20
      exact hX2 _ _ _ h K
theorem kx_X4_next_2 {Q : HS → Prop} {v0 : Nat} {v1 : Int32} {S0 S : HS} (h : P_X4_next_2 Q v0 v1 S) (K : K8 S0 S) : P_X4_next_2 (fun T => Q T ∧ K8 S0 T) v0 v1 S := h (fun v0 v1 S => K8 S0 S → P_X4_next_2 (fun T => Q T ∧ K8 S0 T) v0 v1 S) (fun v0 v1 S hB K => fd_X4_next_2 (kxB_X4_next_2 hB K (fun _ _ _ hx K => hx K))) K
set_option maxRecDepth 20000 in
set_option maxHeartbeats 1000000 in
theorem kx_X4_next_0 {Q : HS → Prop} {v0 : Nat} {S0 S : HS} (h : P_X4_next_0 Q v0 S) (K : K8 S0 S) : P_X4_next_0 (fun T => Q T ∧ K8 S0 T) v0 S := by
  delta P_X4_next_0 at h ⊢
  exact kx_X4_next_2 h K
theorem kx_X4_next {Q : HS → Prop} {v0 : Nat} {S : HS} (h : P_X4_next v0 Q S) : P_X4_next v0 (fun T => Q T ∧ K8 S T) S := kx_X4_next_0 h (k8_rf S)
set_option maxRecDepth 20000 in
set_option maxHeartbeats 1000000 in
theorem kx_X4_whole_34 {Q : Int32 → HS → Prop} {v0 : Nat} {S0 S : HS} (h : P_X4_whole_34 Q v0 S) (K : K8 S0 S) : P_X4_whole_34 (fun r T => Q r T ∧ K8 S0 T) v0 S := by
  delta P_X4_whole_34 at h ⊢
  obtain ⟨c1, h⟩ := h
  refine ⟨c1, ?_⟩
  have n2 := k8_nk K c1 (by decide)
  have o3 := c1
  refine cm_X4_fail (kx_X4_fail h) h (fun x4 x5 p8 h g6 g7 => ?_)
  have h := h g6 g7
  have K := k8_tr K p8.2
  have o3 := gr_ob p8.2.1 o3
  obtain ⟨c9, h⟩ := h
  refine ⟨c9, ?_⟩
  exact ⟨h, K⟩
set_option maxRecDepth 20000 in
set_option maxHeartbeats 1000000 in
theorem kx_X4_whole_0 {Q : Int32 → HS → Prop} {v0 : Nat} {v1 : Int32} {v2 : Int32} {S0 S : HS} (h : P_X4_whole_0 Q v0 v1 v2 S) (K : K8 S0 S) : P_X4_whole_0 (fun r T => Q r T ∧ K8 S0 T) v0 v1 v2 S := by
  delta P_X4_whole_0 at h ⊢
  obtain ⟨c1, h⟩ := h
  refine ⟨c1, ?_⟩
  have n2 := k8_nk K c1 (by decide)
  have o3 := c1
  intro x5 e4
  have h := h x5 e4
  refine ⟨?_, ?_⟩
  · intro c6
    have h := h.1 c6
    intro x8 e7
    have h := h x8 e7
    refine ⟨?_, ?_⟩
    · intro c9
      have h := h.1 c9
      exact kx_X4_whole_34 h K
    · intro c10
      have h := h.2 c10
      intro x12 e11
      have h := h x12 e11
      refine ⟨?_, ?_⟩
      · intro c13
        have h := h.1 c13
        intro x15 e14
        have h := h x15 e14
        intro x17 e16
        have h := h x17 e16
        intro x19 e18
        have h := h x19 e18
        have K := k8_I K e18 n2
        have o3 := ob_wI o3 e18
        refine cm_X4_next (kx_X4_next h) h (fun x20 p22 h g21 => ?_)
        have h := h g21
        have K := k8_tr K p22.2
        have o3 := gr_ob p22.2.1 o3
        exact ⟨h, K⟩
      · intro c23
        have h := h.2 c23
        exact kx_X4_whole_34 h K
  · intro c24
    have h := h.2 c24
    refine cm_X4_fail (kx_X4_fail h) h (fun x25 x26 p29 h g27 g28 => ?_)
    have h := h g27 g28
    have K := k8_tr K p29.2
    have o3 := gr_ob p29.2.1 o3
    obtain ⟨c30, h⟩ := h
    refine ⟨c30, ?_⟩
    exact ⟨h, K⟩
theorem kx_X4_whole {Q : Int32 → HS → Prop} {v0 : Nat} {v1 : Int32} {v2 : Int32} {S : HS} (h : P_X4_whole v0 v1 v2 Q S) : P_X4_whole v0 v1 v2 (fun r T => Q r T ∧ K8 S T) S := kx_X4_whole_0 h (k8_rf S)
set_option maxRecDepth 20000 in
set_option maxHeartbeats 1000000 in
theorem kxB_X4_is_15 {Q : Int32 → HS → Prop} {X15 X15_2 : Nat → Nat → Int64 → Int32 → HS → Prop} {v0 : Nat} {v1 : Nat} {v2 : Int64} {v4 : Int32} {S0 S : HS} (h : B_X4_is_15 Q X15 v0 v1 v2 v4 S) (K : K8 S0 S) (hX15 : ∀ (u0 : Nat) (u1 : Nat) (u2 : Int64) (u3 : Int32) (u4 : HS), X15 u0 u1 u2 u3 u4 → K8 S0 u4 → X15_2 u0 u1 u2 u3 u4) : B_X4_is_15 (fun r T => Q r T ∧ K8 S0 T) X15_2 v0 v1 v2 v4 S := by
  delta B_X4_is_15 at h ⊢
  obtain ⟨c1, h⟩ := h
  refine ⟨c1, ?_⟩
  intro x3 e2
  have h := h x3 e2
  refine ⟨?_, ?_⟩
  · intro c4
    have h := h.1 c4
    obtain ⟨c5, h⟩ := h
    refine ⟨c5, ?_⟩
    have n6 := k8_nk K c5 (by decide)
    have o7 := c5
    intro x9 e8
    have h := h x9 e8
    refine ⟨?_, ?_⟩
    · intro c10
      have h := h.1 c10
      exact ⟨h, K⟩
    · intro c11
      have h := h.2 c11
      exact ⟨h, K⟩
  · intro c12
    have h := h.2 c12
    obtain ⟨c13, h⟩ := h
    refine ⟨c13, ?_⟩
    obtain ⟨c14, h⟩ := h
    refine ⟨c14, ?_⟩
    intro x16 e15
    have h := h x16 e15
    intro x18 e17
    have h := h x18 e17
    intro x20 e19
    have h := h x20 e19
    exact hX15 _ _ _ _ _ h K
theorem kx_X4_is_15 {Q : Int32 → HS → Prop} {v0 : Nat} {v1 : Nat} {v2 : Int64} {v4 : Int32} {S0 S : HS} (h : P_X4_is_15 Q v0 v1 v2 v4 S) (K : K8 S0 S) : P_X4_is_15 (fun r T => Q r T ∧ K8 S0 T) v0 v1 v2 v4 S := h (fun v0 v1 v2 v4 S => K8 S0 S → P_X4_is_15 (fun r T => Q r T ∧ K8 S0 T) v0 v1 v2 v4 S) (fun v0 v1 v2 v4 S hB K => fd_X4_is_15 (kxB_X4_is_15 hB K (fun _ _ _ _ _ hx K => hx K))) K
set_option maxRecDepth 20000 in
set_option maxHeartbeats 1000000 in
theorem kx_X4_is_0 {Q : Int32 → HS → Prop} {v0 : Nat} {v1 : Nat} {S0 S : HS} (h : P_X4_is_0 Q v0 v1 S) (K : K8 S0 S) : P_X4_is_0 (fun r T => Q r T ∧ K8 S0 T) v0 v1 S := by
  delta P_X4_is_0 at h ⊢
  obtain ⟨c1, h⟩ := h
  refine ⟨c1, ?_⟩
  have n2 := k8_nk K c1 (by decide)
  have o3 := c1
  intro x5 e4
  have h := h x5 e4
  refine ⟨?_, ?_⟩
  · intro c6
    have h := h.1 c6
    exact kx_X4_is_15 h K
  · intro c7
    have h := h.2 c7
    exact ⟨h, K⟩
theorem kx_X4_is {Q : Int32 → HS → Prop} {v0 : Nat} {v1 : Nat} {S : HS} (h : P_X4_is v0 v1 Q S) : P_X4_is v0 v1 (fun r T => Q r T ∧ K8 S T) S := kx_X4_is_0 h (k8_rf S)
set_option maxRecDepth 20000 in
set_option maxHeartbeats 1000000 in
theorem kx_X4_word_0 {Q : Int32 → HS → Prop} {v0 : Nat} {v1 : Nat} {S0 S : HS} (h : P_X4_word_0 Q v0 v1 S) (K : K8 S0 S) : P_X4_word_0 (fun r T => Q r T ∧ K8 S0 T) v0 v1 S := by
  delta P_X4_word_0 at h ⊢
  obtain ⟨c1, h⟩ := h
  refine ⟨c1, ?_⟩
  have n2 := k8_nk K c1 (by decide)
  have o3 := c1
  refine cm_X4_is (kx_X4_is h) h (fun x4 x5 p8 h g6 g7 => ?_)
  have h := h g6 g7
  have K := k8_tr K p8.2
  have o3 := gr_ob p8.2.1 o3
  refine ⟨?_, ?_⟩
  · intro c9
    have h := h.1 c9
    refine cm_X4_next (kx_X4_next h) h (fun x10 p12 h g11 => ?_)
    have h := h g11
    have K := k8_tr K p12.2
    have o3 := gr_ob p12.2.1 o3
    exact ⟨h, K⟩
  · intro c13
    have h := h.2 c13
    refine cm_X4_fail (kx_X4_fail h) h (fun x14 x15 p18 h g16 g17 => ?_)
    have h := h g16 g17
    have K := k8_tr K p18.2
    have o3 := gr_ob p18.2.1 o3
    obtain ⟨c19, h⟩ := h
    refine ⟨c19, ?_⟩
    exact ⟨h, K⟩
theorem kx_X4_word {Q : Int32 → HS → Prop} {v0 : Nat} {v1 : Nat} {S : HS} (h : P_X4_word v0 v1 Q S) : P_X4_word v0 v1 (fun r T => Q r T ∧ K8 S T) S := kx_X4_word_0 h (k8_rf S)
set_option maxRecDepth 20000 in
set_option maxHeartbeats 1000000 in
theorem kx_X4_wordAndWhole_0 {Q : Int32 → HS → Prop} {v0 : Nat} {v1 : Nat} {v2 : Int32} {v3 : Int32} {S0 S : HS} (h : P_X4_wordAndWhole_0 Q v0 v1 v2 v3 S) (K : K8 S0 S) : P_X4_wordAndWhole_0 (fun r T => Q r T ∧ K8 S0 T) v0 v1 v2 v3 S := by
  delta P_X4_wordAndWhole_0 at h ⊢
  obtain ⟨c1, h⟩ := h
  refine ⟨c1, ?_⟩
  have n2 := k8_nk K c1 (by decide)
  have o3 := c1
  refine cm_X4_word (kx_X4_word h) h (fun x4 x5 p8 h g6 g7 => ?_)
  have h := h g6 g7
  have K := k8_tr K p8.2
  have o3 := gr_ob p8.2.1 o3
  refine ⟨?_, ?_⟩
  · intro c9
    have h := h.1 c9
    exact ⟨h, K⟩
  · intro c10
    have h := h.2 c10
    refine cm_X4_whole (kx_X4_whole h) h (fun x11 x12 p15 h g13 g14 => ?_)
    have h := h g13 g14
    have K := k8_tr K p15.2
    have o3 := gr_ob p15.2.1 o3
    refine ⟨?_, ?_⟩
    · intro c16
      have h := h.1 c16
      exact ⟨h, K⟩
    · intro c17
      have h := h.2 c17
      exact ⟨h, K⟩
theorem kx_X4_wordAndWhole {Q : Int32 → HS → Prop} {v0 : Nat} {v1 : Nat} {v2 : Int32} {v3 : Int32} {S : HS} (h : P_X4_wordAndWhole v0 v1 v2 v3 Q S) : P_X4_wordAndWhole v0 v1 v2 v3 (fun r T => Q r T ∧ K8 S T) S := kx_X4_wordAndWhole_0 h (k8_rf S)
set_option maxRecDepth 20000 in
set_option maxHeartbeats 1000000 in
theorem kx_X6_shape_16 {Q : HS → Prop} {v0 : Nat} {v1 : Int32} {v2 : Int32} {v3 : Int32} {s0 : Int32} {S0 S : HS} (h : P_X6_shape_16 Q v0 v1 v2 v3 s0 S) (K : K8 S0 S) : P_X6_shape_16 (fun T => Q T ∧ K8 S0 T) v0 v1 v2 v3 s0 S := by
  delta P_X6_shape_16 at h ⊢
  obtain ⟨c1, h⟩ := h
  refine ⟨c1, ?_⟩
  have n2 := k8_nk K c1 (by decide)
  intro x4 e3
  have h := h x4 e3
  intro x6 e5
  have h := h x6 e5
  have K := k8_I K e5 n2
  intro x8 e7
  have h := h x8 e7
  intro x10 e9
  have h := h x10 e9
  have K := k8_I K e9 n2
  intro x12 e11
  have h := h x12 e11
  intro x14 e13
  have h := h x14 e13
  have K := k8_I K e13 n2
  exact ⟨h, K⟩
set_option maxRecDepth 20000 in
set_option maxHeartbeats 1000000 in
theorem kx_X6_shape_0 {Q : HS → Prop} {v0 : Nat} {v1 : Int32} {v2 : Int32} {v3 : Int32} {S0 S : HS} (h : P_X6_shape_0 Q v0 v1 v2 v3 S) (K : K8 S0 S) : P_X6_shape_0 (fun T => Q T ∧ K8 S0 T) v0 v1 v2 v3 S := by
  delta P_X6_shape_0 at h ⊢
  obtain ⟨c1, h⟩ := h
  refine ⟨c1, ?_⟩
  have n2 := k8_nk K c1 (by decide)
  intro x4 e3
  have h := h x4 e3
  refine ⟨?_, ?_⟩
  · intro c5
    have h := h.1 c5
    exact kx_X6_shape_16 h K
  · intro c6
    have h := h.2 c6
    intro x8 e7
    have h := h x8 e7
    exact kx_X6_shape_16 h K
theorem kx_X6_shape {Q : HS → Prop} {v0 : Nat} {v1 : Int32} {v2 : Int32} {v3 : Int32} {S : HS} (h : P_X6_shape v0 v1 v2 v3 Q S) : P_X6_shape v0 v1 v2 v3 (fun T => Q T ∧ K8 S T) S := kx_X6_shape_0 h (k8_rf S)
set_option maxRecDepth 20000 in
set_option maxHeartbeats 1000000 in
theorem kx_X4_bodyOf_58 {Q : Int32 → HS → Prop} {v0 : Nat} {v1 : Nat} {v2 : Int32} {v3 : Int32} {s0 : Int32} {S0 S : HS} (h : P_X4_bodyOf_58 Q v0 v1 v2 v3 s0 S) (K : K8 S0 S) : P_X4_bodyOf_58 (fun r T => Q r T ∧ K8 S0 T) v0 v1 v2 v3 s0 S := by
  delta P_X4_bodyOf_58 at h ⊢
  obtain ⟨c1, h⟩ := h
  refine ⟨c1, ?_⟩
  have n2 := k8_nk K c1 (by decide)
  have o3 := c1
  refine cm_X4_wordAndWhole (kx_X4_wordAndWhole h) h (fun x4 x5 p8 h g6 g7 => ?_)
  have h := h g6 g7
  have K := k8_tr K p8.2
  have o3 := gr_ob p8.2.1 o3
  refine ⟨?_, ?_⟩
  · intro c9
    have h := h.1 c9
    intro x11 e10
    have h := h x11 e10
    obtain ⟨c12, h⟩ := h
    refine ⟨c12, ?_⟩
    have n13 := k8_nk K c12 (by decide)
    refine cm_X6_shape (kx_X6_shape h) h (fun x14 p16 h g15 => ?_)
    have h := h g15
    have K := k8_tr K p16.2
    have o3 := gr_ob p16.2.1 o3
    exact ⟨h, K⟩
  · intro c17
    have h := h.2 c17
    exact ⟨h, K⟩
set_option maxRecDepth 20000 in
set_option maxHeartbeats 1000000 in
theorem kx_X4_bodyOf_0 {Q : Int32 → HS → Prop} {v0 : Nat} {v1 : Nat} {S0 S : HS} (h : P_X4_bodyOf_0 Q v0 v1 S) (K : K8 S0 S) : P_X4_bodyOf_0 (fun r T => Q r T ∧ K8 S0 T) v0 v1 S := by
  delta P_X4_bodyOf_0 at h ⊢
  obtain ⟨c1, h⟩ := h
  refine ⟨c1, ?_⟩
  have n2 := k8_nk K c1 (by decide)
  have o3 := c1
  refine cm_X4_wordAndWhole (kx_X4_wordAndWhole h) h (fun x4 x5 p8 h g6 g7 => ?_)
  have h := h g6 g7
  have K := k8_tr K p8.2
  have o3 := gr_ob p8.2.1 o3
  refine ⟨?_, ?_⟩
  · intro c9
    have h := h.1 c9
    intro x11 e10
    have h := h x11 e10
    refine cm_X4_wordAndWhole (kx_X4_wordAndWhole h) h (fun x12 x13 p16 h g14 g15 => ?_)
    have h := h g14 g15
    have K := k8_tr K p16.2
    have o3 := gr_ob p16.2.1 o3
    refine ⟨?_, ?_⟩
    · intro c17
      have h := h.1 c17
      intro x19 e18
      have h := h x19 e18
      obtain ⟨c20, h⟩ := h
      refine ⟨c20, ?_⟩
      have n21 := k8_nk K c20 (by decide)
      intro x23 e22
      have h := h x23 e22
      refine ⟨?_, ?_⟩
      · intro c24
        have h := h.1 c24
        exact kx_X4_bodyOf_58 h K
      · intro c25
        have h := h.2 c25
        intro x27 e26
        have h := h x27 e26
        exact kx_X4_bodyOf_58 h K
    · intro c28
      have h := h.2 c28
      exact ⟨h, K⟩
  · intro c29
    have h := h.2 c29
    exact ⟨h, K⟩
theorem kx_X4_bodyOf {Q : Int32 → HS → Prop} {v0 : Nat} {v1 : Nat} {S : HS} (h : P_X4_bodyOf v0 v1 Q S) : P_X4_bodyOf v0 v1 (fun r T => Q r T ∧ K8 S T) S := kx_X4_bodyOf_0 h (k8_rf S)
set_option maxRecDepth 20000 in
set_option maxHeartbeats 1000000 in
theorem kx_X4_canBeName_86 {Q : Int32 → HS → Prop} {v0 : Nat} {s0 : Int32} {S0 S : HS} (h : P_X4_canBeName_86 Q v0 s0 S) (K : K8 S0 S) : P_X4_canBeName_86 (fun r T => Q r T ∧ K8 S0 T) v0 s0 S := by
  delta P_X4_canBeName_86 at h ⊢
  obtain ⟨c1, h⟩ := h
  refine ⟨c1, ?_⟩
  have n2 := k8_nk K c1 (by decide)
  have o3 := c1
  intro x5 e4
  have h := h x5 e4
  refine ⟨?_, ?_⟩
  · intro c6
    have h := h.1 c6
    exact ⟨h, K⟩
  · intro c7
    have h := h.2 c7
    refine ⟨?_, ?_⟩
    · intro c8
      have h := h.1 c8
      exact ⟨h, K⟩
    · intro c9
      have h := h.2 c9
      exact ⟨h, K⟩
set_option maxRecDepth 20000 in
set_option maxHeartbeats 1000000 in
theorem kx_X4_canBeName_81 {Q : Int32 → HS → Prop} {v0 : Nat} {S0 S : HS} (h : P_X4_canBeName_81 Q v0 S) (K : K8 S0 S) : P_X4_canBeName_81 (fun r T => Q r T ∧ K8 S0 T) v0 S := by
  delta P_X4_canBeName_81 at h ⊢
  exact kx_X4_canBeName_86 h K
set_option maxRecDepth 20000 in
set_option maxHeartbeats 1000000 in
theorem kx_X4_canBeName_0 {Q : Int32 → HS → Prop} {v0 : Nat} {S0 S : HS} (h : P_X4_canBeName_0 Q v0 S) (K : K8 S0 S) : P_X4_canBeName_0 (fun r T => Q r T ∧ K8 S0 T) v0 S := by
  delta P_X4_canBeName_0 at h ⊢
  obtain ⟨c1, h⟩ := h
  refine ⟨c1, ?_⟩
  have n2 := k8_nk K c1 (by decide)
  have o3 := c1
  refine cm_X4_is (kx_X4_is h) h (fun x4 x5 p8 h g6 g7 => ?_)
  have h := h g6 g7
  have K := k8_tr K p8.2
  have o3 := gr_ob p8.2.1 o3
  refine ⟨?_, ?_⟩
  · intro c9
    have h := h.1 c9
    exact kx_X4_canBeName_81 h K
  · intro c10
    have h := h.2 c10
    refine cm_X4_is (kx_X4_is h) h (fun x11 x12 p15 h g13 g14 => ?_)
    have h := h g13 g14
    have K := k8_tr K p15.2
    have o3 := gr_ob p15.2.1 o3
    refine ⟨?_, ?_⟩
    · intro c16
      have h := h.1 c16
      exact kx_X4_canBeName_81 h K
    · intro c17
      have h := h.2 c17
      refine cm_X4_is (kx_X4_is h) h (fun x18 x19 p22 h g20 g21 => ?_)
      have h := h g20 g21
      have K := k8_tr K p22.2
      have o3 := gr_ob p22.2.1 o3
      refine ⟨?_, ?_⟩
      · intro c23
        have h := h.1 c23
        exact kx_X4_canBeName_81 h K
      · intro c24
        have h := h.2 c24
        refine cm_X4_is (kx_X4_is h) h (fun x25 x26 p29 h g27 g28 => ?_)
        have h := h g27 g28
        have K := k8_tr K p29.2
        have o3 := gr_ob p29.2.1 o3
        refine ⟨?_, ?_⟩
        · intro c30
          have h := h.1 c30
          exact kx_X4_canBeName_81 h K
        · intro c31
          have h := h.2 c31
          refine cm_X4_is (kx_X4_is h) h (fun x32 x33 p36 h g34 g35 => ?_)
          have h := h g34 g35
          have K := k8_tr K p36.2
          have o3 := gr_ob p36.2.1 o3
          refine ⟨?_, ?_⟩
          · intro c37
            have h := h.1 c37
            exact kx_X4_canBeName_81 h K
          · intro c38
            have h := h.2 c38
            refine cm_X4_is (kx_X4_is h) h (fun x39 x40 p43 h g41 g42 => ?_)
            have h := h g41 g42
            have K := k8_tr K p43.2
            have o3 := gr_ob p43.2.1 o3
            refine ⟨?_, ?_⟩
            · intro c44
              have h := h.1 c44
              exact kx_X4_canBeName_81 h K
            · intro c45
              have h := h.2 c45
              refine cm_X4_is (kx_X4_is h) h (fun x46 x47 p50 h g48 g49 => ?_)
              have h := h g48 g49
              have K := k8_tr K p50.2
              have o3 := gr_ob p50.2.1 o3
              refine ⟨?_, ?_⟩
              · intro c51
                have h := h.1 c51
                exact kx_X4_canBeName_81 h K
              · intro c52
                have h := h.2 c52
                refine cm_X4_is (kx_X4_is h) h (fun x53 x54 p57 h g55 g56 => ?_)
                have h := h g55 g56
                have K := k8_tr K p57.2
                have o3 := gr_ob p57.2.1 o3
                refine ⟨?_, ?_⟩
                · intro c58
                  have h := h.1 c58
                  exact kx_X4_canBeName_81 h K
                · intro c59
                  have h := h.2 c59
                  refine cm_X4_is (kx_X4_is h) h (fun x60 x61 p64 h g62 g63 => ?_)
                  have h := h g62 g63
                  have K := k8_tr K p64.2
                  have o3 := gr_ob p64.2.1 o3
                  refine ⟨?_, ?_⟩
                  · intro c65
                    have h := h.1 c65
                    exact kx_X4_canBeName_86 h K
                  · intro c66
                    have h := h.2 c66
                    exact kx_X4_canBeName_81 h K
theorem kx_X4_canBeName {Q : Int32 → HS → Prop} {v0 : Nat} {S : HS} (h : P_X4_canBeName v0 Q S) : P_X4_canBeName v0 (fun r T => Q r T ∧ K8 S T) S := kx_X4_canBeName_0 h (k8_rf S)
set_option maxRecDepth 20000 in
set_option maxHeartbeats 1000000 in
theorem kx_X4_exchange_0 {Q : Nat → HS → Prop} {v0 : Nat} {v1 : Nat} {S0 S : HS} (h : P_X4_exchange_0 Q v0 v1 S) (K : K8 S0 S) : P_X4_exchange_0 (fun r T => Q r T ∧ K8 S0 T) v0 v1 S := by
  delta P_X4_exchange_0 at h ⊢
  obtain ⟨c1, h⟩ := h
  refine ⟨c1, ?_⟩
  have n2 := k8_nk K c1 (by decide)
  have o3 := c1
  obtain ⟨b4, e5, h⟩ := h
  refine ⟨b4, e5, ?_⟩
  intro x7 e6
  have h := h x7 e6
  have K := k8_R K e6 o3 (by decide) (by decide)
  have o3 := ob_wR o3 e6
  exact ⟨h, K⟩
theorem kx_X4_exchange {Q : Nat → HS → Prop} {v0 : Nat} {v1 : Nat} {S : HS} (h : P_X4_exchange v0 v1 Q S) : P_X4_exchange v0 v1 (fun r T => Q r T ∧ K8 S T) S := kx_X4_exchange_0 h (k8_rf S)
set_option maxRecDepth 20000 in
set_option maxHeartbeats 1000000 in
theorem kxB_X4_findName_2 {Q : Int32 → HS → Prop} {X2 X2_2 : Nat → Int32 → HS → Prop} {v0 : Nat} {v1 : Int32} {S0 S : HS} (h : B_X4_findName_2 Q X2 v0 v1 S) (K : K8 S0 S) (hX2 : ∀ (u0 : Nat) (u1 : Int32) (u2 : HS), X2 u0 u1 u2 → K8 S0 u2 → X2_2 u0 u1 u2) : B_X4_findName_2 (fun r T => Q r T ∧ K8 S0 T) X2_2 v0 v1 S := by
  delta B_X4_findName_2 at h ⊢
  obtain ⟨c1, h⟩ := h
  refine ⟨c1, ?_⟩
  have n2 := k8_nk K c1 (by decide)
  have o3 := c1
  intro x5 e4
  have h := h x5 e4
  refine ⟨?_, ?_⟩
  · intro c6
    have h := h.1 c6
    exact ⟨h, K⟩
  · intro c7
    have h := h.2 c7
    refine ⟨?_, ?_⟩
    · intro c8
      have h := h.1 c8
      exact ⟨h, K⟩
    · intro c9
      have h := h.2 c9
      obtain ⟨b10, e11, h⟩ := h
      refine ⟨b10, e11, ?_⟩
      obtain ⟨c12, h⟩ := h
      refine ⟨c12, ?_⟩
      have n13 := k8_nk K c12 (by decide)
      obtain ⟨c14, h⟩ := h
      refine ⟨c14, ?_⟩
      intro x16 e15
      have h := h x16 e15
      intro x18 e17
      have h := h x18 e17
      refine ⟨?_, ?_⟩
      · intro c19
        have h := h.1 c19
        intro x21 e20
        have h := h x21 e20
        exact hX2 _ _ _ h K
      · intro c22
        have h := h.2 c22
        obtain ⟨b23, e24, h⟩ := h
        refine ⟨b23, e24, ?_⟩
        have n25 := k8_nr K e24 o3 (by decide)
        obtain ⟨c26, h⟩ := h
        refine ⟨c26, ?_⟩
        obtain ⟨c27, h⟩ := h
        refine ⟨c27, ?_⟩
        intro x29 e28
        have h := h x29 e28
        exact ⟨h, K⟩
theorem kx_X4_findName_2 {Q : Int32 → HS → Prop} {v0 : Nat} {v1 : Int32} {S0 S : HS} (h : P_X4_findName_2 Q v0 v1 S) (K : K8 S0 S) : P_X4_findName_2 (fun r T => Q r T ∧ K8 S0 T) v0 v1 S := h (fun v0 v1 S => K8 S0 S → P_X4_findName_2 (fun r T => Q r T ∧ K8 S0 T) v0 v1 S) (fun v0 v1 S hB K => fd_X4_findName_2 (kxB_X4_findName_2 hB K (fun _ _ _ hx K => hx K))) K
set_option maxRecDepth 20000 in
set_option maxHeartbeats 1000000 in
theorem kx_X4_findName_0 {Q : Int32 → HS → Prop} {v0 : Nat} {S0 S : HS} (h : P_X4_findName_0 Q v0 S) (K : K8 S0 S) : P_X4_findName_0 (fun r T => Q r T ∧ K8 S0 T) v0 S := by
  delta P_X4_findName_0 at h ⊢
  exact kx_X4_findName_2 h K
theorem kx_X4_findName {Q : Int32 → HS → Prop} {v0 : Nat} {S : HS} (h : P_X4_findName v0 Q S) : P_X4_findName v0 (fun r T => Q r T ∧ K8 S T) S := kx_X4_findName_0 h (k8_rf S)
set_option maxRecDepth 20000 in
set_option maxHeartbeats 1000000 in
theorem kx_X8_isTold_0 {Q : Int32 → HS → Prop} {v0 : Nat} {S0 S : HS} (h : P_X8_isTold_0 Q v0 S) (K : K8 S0 S) : P_X8_isTold_0 (fun r T => Q r T ∧ K8 S0 T) v0 S := by
  delta P_X8_isTold_0 at h ⊢
  obtain ⟨c1, h⟩ := h
  refine ⟨c1, ?_⟩
  have n2 := k8_nk K c1 (by decide)
  have o3 := c1
  intro x5 e4
  have h := h x5 e4
  refine ⟨?_, ?_⟩
  · intro c6
    have h := h.1 c6
    exact ⟨h, K⟩
  · intro c7
    have h := h.2 c7
    exact ⟨h, K⟩
theorem kx_X8_isTold {Q : Int32 → HS → Prop} {v0 : Nat} {S : HS} (h : P_X8_isTold v0 Q S) : P_X8_isTold v0 (fun r T => Q r T ∧ K8 S T) S := kx_X8_isTold_0 h (k8_rf S)
set_option maxRecDepth 20000 in
set_option maxHeartbeats 1000000 in
theorem kx_X4_hasRoom_0 {Q : Int32 → HS → Prop} {v0 : Nat} {v1 : Int32} {v2 : Int32} {S0 S : HS} (h : P_X4_hasRoom_0 Q v0 v1 v2 S) (K : K8 S0 S) : P_X4_hasRoom_0 (fun r T => Q r T ∧ K8 S0 T) v0 v1 v2 S := by
  delta P_X4_hasRoom_0 at h ⊢
  obtain ⟨c1, h⟩ := h
  refine ⟨c1, ?_⟩
  have n2 := k8_nk K c1 (by decide)
  have o3 := c1
  obtain ⟨b4, e5, h⟩ := h
  refine ⟨b4, e5, ?_⟩
  obtain ⟨c6, h⟩ := h
  refine ⟨c6, ?_⟩
  have n7 := k8_nk K c6 (by decide)
  have o8 := c6
  refine cm_X8_isTold (kx_X8_isTold h) h (fun x9 x10 p13 h g11 g12 => ?_)
  have h := h g11 g12
  have K := k8_tr K p13.2
  have o3 := gr_ob p13.2.1 o3
  have o8 := gr_ob p13.2.1 o8
  refine ⟨?_, ?_⟩
  · intro c14
    have h := h.1 c14
    refine ⟨?_, ?_⟩
    · intro c15
      have h := h.1 c15
      refine cm_X4_next (kx_X4_next h) h (fun x16 p18 h g17 => ?_)
      have h := h g17
      have K := k8_tr K p18.2
      have o3 := gr_ob p18.2.1 o3
      have o8 := gr_ob p18.2.1 o8
      exact ⟨h, K⟩
    · intro c19
      have h := h.2 c19
      refine cm_X4_fail (kx_X4_fail h) h (fun x20 x21 p24 h g22 g23 => ?_)
      have h := h g22 g23
      have K := k8_tr K p24.2
      have o3 := gr_ob p24.2.1 o3
      have o8 := gr_ob p24.2.1 o8
      obtain ⟨c25, h⟩ := h
      refine ⟨c25, ?_⟩
      exact ⟨h, K⟩
  · intro c26
    have h := h.2 c26
    refine cm_X4_fail (kx_X4_fail h) h (fun x27 x28 p31 h g29 g30 => ?_)
    have h := h g29 g30
    have K := k8_tr K p31.2
    have o3 := gr_ob p31.2.1 o3
    have o8 := gr_ob p31.2.1 o8
    obtain ⟨c32, h⟩ := h
    refine ⟨c32, ?_⟩
    exact ⟨h, K⟩
theorem kx_X4_hasRoom {Q : Int32 → HS → Prop} {v0 : Nat} {v1 : Int32} {v2 : Int32} {S : HS} (h : P_X4_hasRoom v0 v1 v2 Q S) : P_X4_hasRoom v0 v1 v2 (fun r T => Q r T ∧ K8 S T) S := kx_X4_hasRoom_0 h (k8_rf S)
set_option maxRecDepth 20000 in
set_option maxHeartbeats 1000000 in
theorem kx_X4_kindOf_0 {Q : Int32 → HS → Prop} {v0 : Nat} {v1 : Nat} {S0 S : HS} (h : P_X4_kindOf_0 Q v0 v1 S) (K : K8 S0 S) : P_X4_kindOf_0 (fun r T => Q r T ∧ K8 S0 T) v0 v1 S := by
  delta P_X4_kindOf_0 at h ⊢
  obtain ⟨c1, h⟩ := h
  refine ⟨c1, ?_⟩
  have n2 := k8_nk K c1 (by decide)
  have o3 := c1
  intro x5 e4
  have h := h x5 e4
  have K := k8_I K e4 n2
  have o3 := ob_wI o3 e4
  refine cm_X4_is (kx_X4_is h) h (fun x6 x7 p10 h g8 g9 => ?_)
  have h := h g8 g9
  have K := k8_tr K p10.2
  have o3 := gr_ob p10.2.1 o3
  refine ⟨?_, ?_⟩
  · intro c11
    have h := h.1 c11
    refine cm_X4_is (kx_X4_is h) h (fun x12 x13 p16 h g14 g15 => ?_)
    have h := h g14 g15
    have K := k8_tr K p16.2
    have o3 := gr_ob p16.2.1 o3
    refine ⟨?_, ?_⟩
    · intro c17
      have h := h.1 c17
      refine cm_X4_is (kx_X4_is h) h (fun x18 x19 p22 h g20 g21 => ?_)
      have h := h g20 g21
      have K := k8_tr K p22.2
      have o3 := gr_ob p22.2.1 o3
      refine ⟨?_, ?_⟩
      · intro c23
        have h := h.1 c23
        obtain ⟨c24, h⟩ := h
        refine ⟨c24, ?_⟩
        have n25 := k8_nk K c24 (by decide)
        intro x27 e26
        have h := h x27 e26
        have K := k8_I K e26 n25
        have o3 := ob_wI o3 e26
        refine cm_X4_word (kx_X4_word h) h (fun x28 x29 p32 h g30 g31 => ?_)
        have h := h g30 g31
        have K := k8_tr K p32.2
        have o3 := gr_ob p32.2.1 o3
        intro x34 e33
        have h := h x34 e33
        intro x36 e35
        have h := h x36 e35
        have K := k8_I K e35 n25
        have o3 := ob_wI o3 e35
        obtain ⟨c37, h⟩ := h
        refine ⟨c37, ?_⟩
        exact ⟨h, K⟩
      · intro c38
        have h := h.2 c38
        obtain ⟨c39, h⟩ := h
        refine ⟨c39, ?_⟩
        have n40 := k8_nk K c39 (by decide)
        intro x42 e41
        have h := h x42 e41
        have K := k8_I K e41 n40
        have o3 := ob_wI o3 e41
        refine cm_X4_wordAndWhole (kx_X4_wordAndWhole h) h (fun x43 x44 p47 h g45 g46 => ?_)
        have h := h g45 g46
        have K := k8_tr K p47.2
        have o3 := gr_ob p47.2.1 o3
        intro x49 e48
        have h := h x49 e48
        intro x51 e50
        have h := h x51 e50
        have K := k8_I K e50 n40
        have o3 := ob_wI o3 e50
        obtain ⟨c52, h⟩ := h
        refine ⟨c52, ?_⟩
        exact ⟨h, K⟩
    · intro c53
      have h := h.2 c53
      obtain ⟨c54, h⟩ := h
      refine ⟨c54, ?_⟩
      have n55 := k8_nk K c54 (by decide)
      intro x57 e56
      have h := h x57 e56
      have K := k8_I K e56 n55
      have o3 := ob_wI o3 e56
      refine cm_X4_wordAndWhole (kx_X4_wordAndWhole h) h (fun x58 x59 p62 h g60 g61 => ?_)
      have h := h g60 g61
      have K := k8_tr K p62.2
      have o3 := gr_ob p62.2.1 o3
      intro x64 e63
      have h := h x64 e63
      intro x66 e65
      have h := h x66 e65
      have K := k8_I K e65 n55
      have o3 := ob_wI o3 e65
      obtain ⟨c67, h⟩ := h
      refine ⟨c67, ?_⟩
      exact ⟨h, K⟩
  · intro c68
    have h := h.2 c68
    obtain ⟨c69, h⟩ := h
    refine ⟨c69, ?_⟩
    have n70 := k8_nk K c69 (by decide)
    intro x72 e71
    have h := h x72 e71
    have K := k8_I K e71 n70
    have o3 := ob_wI o3 e71
    refine cm_X4_wordAndWhole (kx_X4_wordAndWhole h) h (fun x73 x74 p77 h g75 g76 => ?_)
    have h := h g75 g76
    have K := k8_tr K p77.2
    have o3 := gr_ob p77.2.1 o3
    intro x79 e78
    have h := h x79 e78
    intro x81 e80
    have h := h x81 e80
    have K := k8_I K e80 n70
    have o3 := ob_wI o3 e80
    obtain ⟨c82, h⟩ := h
    refine ⟨c82, ?_⟩
    exact ⟨h, K⟩
theorem kx_X4_kindOf {Q : Int32 → HS → Prop} {v0 : Nat} {v1 : Nat} {S : HS} (h : P_X4_kindOf v0 v1 Q S) : P_X4_kindOf v0 v1 (fun r T => Q r T ∧ K8 S T) S := kx_X4_kindOf_0 h (k8_rf S)
set_option maxRecDepth 20000 in
set_option maxHeartbeats 1000000 in
theorem kx_X4_newName_69 {Q : Int32 → HS → Prop} {v0 : Nat} {S0 S : HS} (h : P_X4_newName_69 Q v0 S) (K : K8 S0 S) : P_X4_newName_69 (fun r T => Q r T ∧ K8 S0 T) v0 S := by
  delta P_X4_newName_69 at h ⊢
  obtain ⟨c1, h⟩ := h
  refine ⟨c1, ?_⟩
  have n2 := k8_nk K c1 (by decide)
  have o3 := c1
  refine cm_X4_next (kx_X4_next h) h (fun x4 p6 h g5 => ?_)
  have h := h g5
  have K := k8_tr K p6.2
  have o3 := gr_ob p6.2.1 o3
  exact ⟨h, K⟩
set_option maxRecDepth 20000 in
set_option maxHeartbeats 1000000 in
theorem kx_X4_newName_0 {Q : Int32 → HS → Prop} {v0 : Nat} {v1 : Int32} {S0 S : HS} (h : P_X4_newName_0 Q v0 v1 S) (K : K8 S0 S) : P_X4_newName_0 (fun r T => Q r T ∧ K8 S0 T) v0 v1 S := by
  delta P_X4_newName_0 at h ⊢
  obtain ⟨c1, h⟩ := h
  refine ⟨c1, ?_⟩
  have n2 := k8_nk K c1 (by decide)
  have o3 := c1
  refine cm_X4_canBeName (kx_X4_canBeName h) h (fun x4 x5 p8 h g6 g7 => ?_)
  have h := h g6 g7
  have K := k8_tr K p8.2
  have o3 := gr_ob p8.2.1 o3
  refine ⟨?_, ?_⟩
  · intro c9
    have h := h.1 c9
    refine cm_X4_findName (kx_X4_findName h) h (fun x10 x11 p13 h g12 => ?_)
    have h := h g12
    have K := k8_tr K p13.2
    have o3 := gr_ob p13.2.1 o3
    refine ⟨?_, ?_⟩
    · intro c14
      have h := h.1 c14
      intro x16 e15
      have h := h x16 e15
      refine ⟨?_, ?_⟩
      · intro c17
        have h := h.1 c17
        exact kx_X4_newName_69 h K
      · intro c18
        have h := h.2 c18
        obtain ⟨b19, e20, h⟩ := h
        refine ⟨b19, e20, ?_⟩
        intro x22 e21
        have h := h x22 e21
        intro x24 e23
        have h := h x24 e23
        obtain ⟨c25, h⟩ := h
        refine ⟨c25, ?_⟩
        have n26 := k8_nk K c25 (by decide)
        obtain ⟨c27, h⟩ := h
        refine ⟨c27, ?_⟩
        intro x29 e28
        have h := h x29 e28
        have K := k8_J K e28
        have o3 := ob_wJ o3 e28
        obtain ⟨b30, e31, h⟩ := h
        refine ⟨b30, e31, ?_⟩
        have n32 := k8_nr K e31 o3 (by decide)
        intro x34 e33
        have h := h x34 e33
        obtain ⟨c35, h⟩ := h
        refine ⟨c35, ?_⟩
        obtain ⟨c36, h⟩ := h
        refine ⟨c36, ?_⟩
        intro x38 e37
        have h := h x38 e37
        have K := k8_I K e37 n32
        have o3 := ob_wI o3 e37
        intro x40 e39
        have h := h x40 e39
        intro x42 e41
        have h := h x42 e41
        intro x44 e43
        have h := h x44 e43
        have K := k8_I K e43 n2
        have o3 := ob_wI o3 e43
        exact kx_X4_newName_69 h K
    · intro c45
      have h := h.2 c45
      refine cm_X4_fail (kx_X4_fail h) h (fun x46 x47 p50 h g48 g49 => ?_)
      have h := h g48 g49
      have K := k8_tr K p50.2
      have o3 := gr_ob p50.2.1 o3
      obtain ⟨c51, h⟩ := h
      refine ⟨c51, ?_⟩
      exact ⟨h, K⟩
  · intro c52
    have h := h.2 c52
    refine cm_X4_fail (kx_X4_fail h) h (fun x53 x54 p57 h g55 g56 => ?_)
    have h := h g55 g56
    have K := k8_tr K p57.2
    have o3 := gr_ob p57.2.1 o3
    obtain ⟨c58, h⟩ := h
    refine ⟨c58, ?_⟩
    exact ⟨h, K⟩
theorem kx_X4_newName {Q : Int32 → HS → Prop} {v0 : Nat} {v1 : Int32} {S : HS} (h : P_X4_newName v0 v1 Q S) : P_X4_newName v0 v1 (fun r T => Q r T ∧ K8 S T) S := kx_X4_newName_0 h (k8_rf S)
set_option maxRecDepth 20000 in
set_option maxHeartbeats 1000000 in
theorem kx_X8_clear_0 {Q : HS → Prop} {v0 : Nat} {S0 S : HS} (h : P_X8_clear_0 Q v0 S) (K : K8 S0 S) : P_X8_clear_0 (fun T => Q T ∧ K8 S0 T) v0 S := by
  delta P_X8_clear_0 at h ⊢
  obtain ⟨c1, h⟩ := h
  refine ⟨c1, ?_⟩
  have n2 := k8_nk K c1 (by decide)
  have o3 := c1
  intro x5 e4
  have h := h x5 e4
  have K := k8_I K e4 n2
  have o3 := ob_wI o3 e4
  intro x7 e6
  have h := h x7 e6
  have K := k8_I K e6 n2
  have o3 := ob_wI o3 e6
  intro x9 e8
  have h := h x9 e8
  have K := k8_I K e8 n2
  have o3 := ob_wI o3 e8
  intro x11 e10
  have h := h x11 e10
  have K := k8_I K e10 n2
  have o3 := ob_wI o3 e10
  intro x13 e12
  have h := h x13 e12
  have K := k8_I K e12 n2
  have o3 := ob_wI o3 e12
  intro x15 e14
  have h := h x15 e14
  have K := k8_I K e14 n2
  have o3 := ob_wI o3 e14
  exact ⟨h, K⟩
theorem kx_X8_clear {Q : HS → Prop} {v0 : Nat} {S : HS} (h : P_X8_clear v0 Q S) : P_X8_clear v0 (fun T => Q T ∧ K8 S T) S := kx_X8_clear_0 h (k8_rf S)
set_option maxRecDepth 20000 in
set_option maxHeartbeats 1000000 in
theorem kx_X4_open_0 {Q : HS → Prop} {v0 : Nat} {v1 : Nat} {v2 : Int32} {S0 S : HS} (h : P_X4_open_0 Q v0 v1 v2 S) (K : K8 S0 S) : P_X4_open_0 (fun T => Q T ∧ K8 S0 T) v0 v1 v2 S := by
  delta P_X4_open_0 at h ⊢
  obtain ⟨c1, h⟩ := h
  refine ⟨c1, ?_⟩
  have n2 := k8_nk K c1 (by decide)
  have o3 := c1
  intro x5 e4
  have h := h x5 e4
  have K := k8_R K e4 o3 (by decide) (by decide)
  have o3 := ob_wR o3 e4
  obtain ⟨c6, h⟩ := h
  refine ⟨c6, ?_⟩
  have n7 := k8_nk K c6 (by decide)
  intro x9 e8
  have h := h x9 e8
  intro x11 e10
  have h := h x11 e10
  have K := k8_I K e10 n2
  have o3 := ob_wI o3 e10
  intro x13 e12
  have h := h x13 e12
  have K := k8_I K e12 n2
  have o3 := ob_wI o3 e12
  intro x15 e14
  have h := h x15 e14
  have K := k8_I K e14 n2
  have o3 := ob_wI o3 e14
  intro x17 e16
  have h := h x17 e16
  have K := k8_I K e16 n2
  have o3 := ob_wI o3 e16
  intro x19 e18
  have h := h x19 e18
  have K := k8_I K e18 n2
  have o3 := ob_wI o3 e18
  obtain ⟨b20, e21, h⟩ := h
  refine ⟨b20, e21, ?_⟩
  obtain ⟨c22, h⟩ := h
  refine ⟨c22, ?_⟩
  have n23 := k8_nk K c22 (by decide)
  have o24 := c22
  refine cm_X8_clear (kx_X8_clear h) h (fun x25 p27 h g26 => ?_)
  have h := h g26
  have K := k8_tr K p27.2
  have o3 := gr_ob p27.2.1 o3
  have o24 := gr_ob p27.2.1 o24
  refine cm_X4_next (kx_X4_next h) h (fun x28 p30 h g29 => ?_)
  have h := h g29
  have K := k8_tr K p30.2
  have o3 := gr_ob p30.2.1 o3
  have o24 := gr_ob p30.2.1 o24
  exact ⟨h, K⟩
theorem kx_X4_open {Q : HS → Prop} {v0 : Nat} {v1 : Nat} {v2 : Int32} {S : HS} (h : P_X4_open v0 v1 v2 Q S) : P_X4_open v0 v1 v2 (fun T => Q T ∧ K8 S T) S := kx_X4_open_0 h (k8_rf S)
set_option maxRecDepth 20000 in
set_option maxHeartbeats 1000000 in
theorem kx_X4_placeBut_29 {Q : Int32 → HS → Prop} {v0 : Nat} {S0 S : HS} (h : P_X4_placeBut_29 Q v0 S) (K : K8 S0 S) : P_X4_placeBut_29 (fun r T => Q r T ∧ K8 S0 T) v0 S := by
  delta P_X4_placeBut_29 at h ⊢
  obtain ⟨c1, h⟩ := h
  refine ⟨c1, ?_⟩
  have n2 := k8_nk K c1 (by decide)
  have o3 := c1
  refine cm_X4_fail (kx_X4_fail h) h (fun x4 x5 p8 h g6 g7 => ?_)
  have h := h g6 g7
  have K := k8_tr K p8.2
  have o3 := gr_ob p8.2.1 o3
  obtain ⟨c9, h⟩ := h
  refine ⟨c9, ?_⟩
  exact ⟨h, K⟩
set_option maxRecDepth 20000 in
set_option maxHeartbeats 1000000 in
theorem kx_X4_placeBut_0 {Q : Int32 → HS → Prop} {v0 : Nat} {v1 : Int32} {S0 S : HS} (h : P_X4_placeBut_0 Q v0 v1 S) (K : K8 S0 S) : P_X4_placeBut_0 (fun r T => Q r T ∧ K8 S0 T) v0 v1 S := by
  delta P_X4_placeBut_0 at h ⊢
  obtain ⟨c1, h⟩ := h
  refine ⟨c1, ?_⟩
  have n2 := k8_nk K c1 (by decide)
  have o3 := c1
  refine cm_X4_canBeName (kx_X4_canBeName h) h (fun x4 x5 p8 h g6 g7 => ?_)
  have h := h g6 g7
  have K := k8_tr K p8.2
  have o3 := gr_ob p8.2.1 o3
  refine ⟨?_, ?_⟩
  · intro c9
    have h := h.1 c9
    refine cm_X4_findName (kx_X4_findName h) h (fun x10 x11 p13 h g12 => ?_)
    have h := h g12
    have K := k8_tr K p13.2
    have o3 := gr_ob p13.2.1 o3
    refine ⟨?_, ?_⟩
    · intro c14
      have h := h.1 c14
      exact kx_X4_placeBut_29 h K
    · intro c15
      have h := h.2 c15
      refine ⟨?_, ?_⟩
      · intro c16
        have h := h.1 c16
        refine ⟨?_, ?_⟩
        · intro c17
          have h := h.1 c17
          intro x19 e18
          have h := h x19 e18
          have K := k8_I K e18 n2
          have o3 := ob_wI o3 e18
          refine cm_X4_next (kx_X4_next h) h (fun x20 p22 h g21 => ?_)
          have h := h g21
          have K := k8_tr K p22.2
          have o3 := gr_ob p22.2.1 o3
          exact ⟨h, K⟩
        · intro c23
          have h := h.2 c23
          refine cm_X4_fail (kx_X4_fail h) h (fun x24 x25 p28 h g26 g27 => ?_)
          have h := h g26 g27
          have K := k8_tr K p28.2
          have o3 := gr_ob p28.2.1 o3
          obtain ⟨c29, h⟩ := h
          refine ⟨c29, ?_⟩
          exact ⟨h, K⟩
      · intro c30
        have h := h.2 c30
        exact kx_X4_placeBut_29 h K
  · intro c31
    have h := h.2 c31
    refine cm_X4_fail (kx_X4_fail h) h (fun x32 x33 p36 h g34 g35 => ?_)
    have h := h g34 g35
    have K := k8_tr K p36.2
    have o3 := gr_ob p36.2.1 o3
    obtain ⟨c37, h⟩ := h
    refine ⟨c37, ?_⟩
    exact ⟨h, K⟩
theorem kx_X4_placeBut {Q : Int32 → HS → Prop} {v0 : Nat} {v1 : Int32} {S : HS} (h : P_X4_placeBut v0 v1 Q S) : P_X4_placeBut v0 v1 (fun r T => Q r T ∧ K8 S T) S := kx_X4_placeBut_0 h (k8_rf S)
set_option maxRecDepth 20000 in
set_option maxHeartbeats 1000000 in
theorem kx_X4_placeLine_64 {Q : Int32 → HS → Prop} {v0 : Nat} {v1 : Int32} {S0 S : HS} (h : P_X4_placeLine_64 Q v0 v1 S) (K : K8 S0 S) : P_X4_placeLine_64 (fun r T => Q r T ∧ K8 S0 T) v0 v1 S := by
  delta P_X4_placeLine_64 at h ⊢
  obtain ⟨c1, h⟩ := h
  refine ⟨c1, ?_⟩
  have n2 := k8_nk K c1 (by decide)
  have o3 := c1
  obtain ⟨b4, e5, h⟩ := h
  refine ⟨b4, e5, ?_⟩
  obtain ⟨c6, h⟩ := h
  refine ⟨c6, ?_⟩
  have n7 := k8_nk K c6 (by decide)
  have o8 := c6
  obtain ⟨b9, e10, h⟩ := h
  refine ⟨b9, e10, ?_⟩
  have n11 := k8_nr K e10 o8 (by decide)
  obtain ⟨b12, e13, h⟩ := h
  refine ⟨b12, e13, ?_⟩
  obtain ⟨c14, h⟩ := h
  refine ⟨c14, ?_⟩
  have n15 := k8_nk K c14 (by decide)
  have o16 := c14
  intro x18 e17
  have h := h x18 e17
  obtain ⟨c19, h⟩ := h
  refine ⟨c19, ?_⟩
  obtain ⟨c20, h⟩ := h
  refine ⟨c20, ?_⟩
  intro x22 e21
  have h := h x22 e21
  have K := k8_I K e21 n11
  have o3 := ob_wI o3 e21
  have o8 := ob_wI o8 e21
  have o16 := ob_wI o16 e21
  obtain ⟨b23, e24, h⟩ := h
  refine ⟨b23, e24, ?_⟩
  obtain ⟨c25, h⟩ := h
  refine ⟨c25, ?_⟩
  have n26 := k8_nk K c25 (by decide)
  have o27 := c25
  intro x29 e28
  have h := h x29 e28
  intro x31 e30
  have h := h x31 e30
  intro x33 e32
  have h := h x33 e32
  have K := k8_I K e32 n26
  have o3 := ob_wI o3 e32
  have o8 := ob_wI o8 e32
  have o16 := ob_wI o16 e32
  have o27 := ob_wI o27 e32
  exact ⟨h, K⟩
set_option maxRecDepth 20000 in
set_option maxHeartbeats 1000000 in
theorem kx_X4_placeLine_0 {Q : Int32 → HS → Prop} {v0 : Nat} {S0 S : HS} (h : P_X4_placeLine_0 Q v0 S) (K : K8 S0 S) : P_X4_placeLine_0 (fun r T => Q r T ∧ K8 S0 T) v0 S := by
  delta P_X4_placeLine_0 at h ⊢
  obtain ⟨c1, h⟩ := h
  refine ⟨c1, ?_⟩
  have n2 := k8_nk K c1 (by decide)
  have o3 := c1
  obtain ⟨b4, e5, h⟩ := h
  refine ⟨b4, e5, ?_⟩
  obtain ⟨c6, h⟩ := h
  refine ⟨c6, ?_⟩
  have n7 := k8_nk K c6 (by decide)
  have o8 := c6
  intro x10 e9
  have h := h x10 e9
  refine cm_X4_newName (kx_X4_newName h) h (fun x11 x12 p15 h g13 g14 => ?_)
  have h := h g13 g14
  have K := k8_tr K p15.2
  have o3 := gr_ob p15.2.1 o3
  have o8 := gr_ob p15.2.1 o8
  refine ⟨?_, ?_⟩
  · intro c16
    have h := h.1 c16
    refine cm_X4_is (kx_X4_is h) h (fun x17 x18 p21 h g19 g20 => ?_)
    have h := h g19 g20
    have K := k8_tr K p21.2
    have o3 := gr_ob p21.2.1 o3
    have o8 := gr_ob p21.2.1 o8
    refine ⟨?_, ?_⟩
    · intro c22
      have h := h.1 c22
      refine cm_X4_is (kx_X4_is h) h (fun x23 x24 p27 h g25 g26 => ?_)
      have h := h g25 g26
      have K := k8_tr K p27.2
      have o3 := gr_ob p27.2.1 o3
      have o8 := gr_ob p27.2.1 o8
      refine ⟨?_, ?_⟩
      · intro c28
        have h := h.1 c28
        exact kx_X4_placeLine_64 h K
      · intro c29
        have h := h.2 c29
        refine cm_X4_wordAndWhole (kx_X4_wordAndWhole h) h (fun x30 x31 p34 h g32 g33 => ?_)
        have h := h g32 g33
        have K := k8_tr K p34.2
        have o3 := gr_ob p34.2.1 o3
        have o8 := gr_ob p34.2.1 o8
        refine ⟨?_, ?_⟩
        · intro c35
          have h := h.1 c35
          intro x37 e36
          have h := h x37 e36
          exact kx_X4_placeLine_64 h K
        · intro c38
          have h := h.2 c38
          exact ⟨h, K⟩
    · intro c39
      have h := h.2 c39
      refine cm_X4_next (kx_X4_next h) h (fun x40 p42 h g41 => ?_)
      have h := h g41
      have K := k8_tr K p42.2
      have o3 := gr_ob p42.2.1 o3
      have o8 := gr_ob p42.2.1 o8
      exact kx_X4_placeLine_64 h K
  · intro c43
    have h := h.2 c43
    exact ⟨h, K⟩
theorem kx_X4_placeLine {Q : Int32 → HS → Prop} {v0 : Nat} {S : HS} (h : P_X4_placeLine v0 Q S) : P_X4_placeLine v0 (fun r T => Q r T ∧ K8 S T) S := kx_X4_placeLine_0 h (k8_rf S)
set_option maxRecDepth 20000 in
set_option maxHeartbeats 1000000 in
theorem kx_X4_side_74 {Q : Int32 → HS → Prop} {v0 : Nat} {S0 S : HS} (h : P_X4_side_74 Q v0 S) (K : K8 S0 S) : P_X4_side_74 (fun r T => Q r T ∧ K8 S0 T) v0 S := by
  delta P_X4_side_74 at h ⊢
  obtain ⟨c1, h⟩ := h
  refine ⟨c1, ?_⟩
  have n2 := k8_nk K c1 (by decide)
  have o3 := c1
  refine cm_X4_next (kx_X4_next h) h (fun x4 p6 h g5 => ?_)
  have h := h g5
  have K := k8_tr K p6.2
  have o3 := gr_ob p6.2.1 o3
  exact ⟨h, K⟩
set_option maxRecDepth 20000 in
set_option maxHeartbeats 1000000 in
theorem kx_X4_side_0 {Q : Int32 → HS → Prop} {v0 : Nat} {S0 S : HS} (h : P_X4_side_0 Q v0 S) (K : K8 S0 S) : P_X4_side_0 (fun r T => Q r T ∧ K8 S0 T) v0 S := by
  delta P_X4_side_0 at h ⊢
  obtain ⟨c1, h⟩ := h
  refine ⟨c1, ?_⟩
  have n2 := k8_nk K c1 (by decide)
  have o3 := c1
  refine cm_X4_is (kx_X4_is h) h (fun x4 x5 p8 h g6 g7 => ?_)
  have h := h g6 g7
  have K := k8_tr K p8.2
  have o3 := gr_ob p8.2.1 o3
  refine ⟨?_, ?_⟩
  · intro c9
    have h := h.1 c9
    refine cm_X4_is (kx_X4_is h) h (fun x10 x11 p14 h g12 g13 => ?_)
    have h := h g12 g13
    have K := k8_tr K p14.2
    have o3 := gr_ob p14.2.1 o3
    refine ⟨?_, ?_⟩
    · intro c15
      have h := h.1 c15
      refine cm_X4_is (kx_X4_is h) h (fun x16 x17 p20 h g18 g19 => ?_)
      have h := h g18 g19
      have K := k8_tr K p20.2
      have o3 := gr_ob p20.2.1 o3
      refine ⟨?_, ?_⟩
      · intro c21
        have h := h.1 c21
        refine cm_X4_is (kx_X4_is h) h (fun x22 x23 p26 h g24 g25 => ?_)
        have h := h g24 g25
        have K := k8_tr K p26.2
        have o3 := gr_ob p26.2.1 o3
        refine ⟨?_, ?_⟩
        · intro c27
          have h := h.1 c27
          refine cm_X4_fail (kx_X4_fail h) h (fun x28 x29 p32 h g30 g31 => ?_)
          have h := h g30 g31
          have K := k8_tr K p32.2
          have o3 := gr_ob p32.2.1 o3
          obtain ⟨c33, h⟩ := h
          refine ⟨c33, ?_⟩
          exact ⟨h, K⟩
        · intro c34
          have h := h.2 c34
          intro x36 e35
          have h := h x36 e35
          have K := k8_I K e35 n2
          have o3 := ob_wI o3 e35
          exact kx_X4_side_74 h K
      · intro c37
        have h := h.2 c37
        intro x39 e38
        have h := h x39 e38
        have K := k8_I K e38 n2
        have o3 := ob_wI o3 e38
        exact kx_X4_side_74 h K
    · intro c40
      have h := h.2 c40
      intro x42 e41
      have h := h x42 e41
      have K := k8_I K e41 n2
      have o3 := ob_wI o3 e41
      exact kx_X4_side_74 h K
  · intro c43
    have h := h.2 c43
    intro x45 e44
    have h := h x45 e44
    have K := k8_I K e44 n2
    have o3 := ob_wI o3 e44
    exact kx_X4_side_74 h K
theorem kx_X4_side {Q : Int32 → HS → Prop} {v0 : Nat} {S : HS} (h : P_X4_side v0 Q S) : P_X4_side v0 (fun r T => Q r T ∧ K8 S T) S := kx_X4_side_0 h (k8_rf S)
set_option maxRecDepth 20000 in
set_option maxHeartbeats 1000000 in
theorem kx_X4_rainLine_0 {Q : Int32 → HS → Prop} {v0 : Nat} {S0 S : HS} (h : P_X4_rainLine_0 Q v0 S) (K : K8 S0 S) : P_X4_rainLine_0 (fun r T => Q r T ∧ K8 S0 T) v0 S := by
  delta P_X4_rainLine_0 at h ⊢
  obtain ⟨c1, h⟩ := h
  refine ⟨c1, ?_⟩
  have n2 := k8_nk K c1 (by decide)
  have o3 := c1
  obtain ⟨b4, e5, h⟩ := h
  refine ⟨b4, e5, ?_⟩
  obtain ⟨c6, h⟩ := h
  refine ⟨c6, ?_⟩
  have n7 := k8_nk K c6 (by decide)
  have o8 := c6
  obtain ⟨b9, e10, h⟩ := h
  refine ⟨b9, e10, ?_⟩
  obtain ⟨b11, e12, h⟩ := h
  refine ⟨b11, e12, ?_⟩
  obtain ⟨c13, h⟩ := h
  refine ⟨c13, ?_⟩
  have n14 := k8_nk K c13 (by decide)
  have o15 := c13
  intro x17 e16
  have h := h x17 e16
  obtain ⟨c18, h⟩ := h
  refine ⟨c18, ?_⟩
  have n19 := k8_nk K c18 (by decide)
  obtain ⟨c20, h⟩ := h
  refine ⟨c20, ?_⟩
  obtain ⟨b21, e22, h⟩ := h
  refine ⟨b21, e22, ?_⟩
  refine cm_X4_wordAndWhole (kx_X4_wordAndWhole h) h (fun x23 x24 p27 h g25 g26 => ?_)
  have h := h g25 g26
  have K := k8_tr K p27.2
  have o3 := gr_ob p27.2.1 o3
  have o8 := gr_ob p27.2.1 o8
  have o15 := gr_ob p27.2.1 o15
  refine ⟨?_, ?_⟩
  · intro c28
    have h := h.1 c28
    intro x30 e29
    have h := h x30 e29
    obtain ⟨c31, h⟩ := h
    refine ⟨c31, ?_⟩
    have n32 := k8_nk K c31 (by decide)
    intro x34 e33
    have h := h x34 e33
    have K := k8_I K e33 n32
    have o3 := ob_wI o3 e33
    have o8 := ob_wI o8 e33
    have o15 := ob_wI o15 e33
    refine cm_X4_wordAndWhole (kx_X4_wordAndWhole h) h (fun x35 x36 p39 h g37 g38 => ?_)
    have h := h g37 g38
    have K := k8_tr K p39.2
    have o3 := gr_ob p39.2.1 o3
    have o8 := gr_ob p39.2.1 o8
    have o15 := gr_ob p39.2.1 o15
    refine ⟨?_, ?_⟩
    · intro c40
      have h := h.1 c40
      intro x42 e41
      have h := h x42 e41
      intro x44 e43
      have h := h x44 e43
      have K := k8_I K e43 n32
      have o3 := ob_wI o3 e43
      have o8 := ob_wI o8 e43
      have o15 := ob_wI o15 e43
      refine cm_X4_word (kx_X4_word h) h (fun x45 x46 p49 h g47 g48 => ?_)
      have h := h g47 g48
      have K := k8_tr K p49.2
      have o3 := gr_ob p49.2.1 o3
      have o8 := gr_ob p49.2.1 o8
      have o15 := gr_ob p49.2.1 o15
      refine ⟨?_, ?_⟩
      · intro c50
        have h := h.1 c50
        exact ⟨h, K⟩
      · intro c51
        have h := h.2 c51
        refine cm_X4_side (kx_X4_side h) h (fun x52 x53 p56 h g54 g55 => ?_)
        have h := h g54 g55
        have K := k8_tr K p56.2
        have o3 := gr_ob p56.2.1 o3
        have o8 := gr_ob p56.2.1 o8
        have o15 := gr_ob p56.2.1 o15
        refine ⟨?_, ?_⟩
        · intro c57
          have h := h.1 c57
          intro x59 e58
          have h := h x59 e58
          intro x61 e60
          have h := h x61 e60
          have K := k8_I K e60 n32
          have o3 := ob_wI o3 e60
          have o8 := ob_wI o8 e60
          have o15 := ob_wI o15 e60
          refine cm_X4_whole (kx_X4_whole h) h (fun x62 x63 p66 h g64 g65 => ?_)
          have h := h g64 g65
          have K := k8_tr K p66.2
          have o3 := gr_ob p66.2.1 o3
          have o8 := gr_ob p66.2.1 o8
          have o15 := gr_ob p66.2.1 o15
          refine ⟨?_, ?_⟩
          · intro c67
            have h := h.1 c67
            intro x69 e68
            have h := h x69 e68
            intro x71 e70
            have h := h x71 e70
            have K := k8_I K e70 n32
            have o3 := ob_wI o3 e70
            have o8 := ob_wI o8 e70
            have o15 := ob_wI o15 e70
            refine cm_X4_wordAndWhole (kx_X4_wordAndWhole h) h (fun x72 x73 p76 h g74 g75 => ?_)
            have h := h g74 g75
            have K := k8_tr K p76.2
            have o3 := gr_ob p76.2.1 o3
            have o8 := gr_ob p76.2.1 o8
            have o15 := gr_ob p76.2.1 o15
            refine ⟨?_, ?_⟩
            · intro c77
              have h := h.1 c77
              intro x79 e78
              have h := h x79 e78
              intro x81 e80
              have h := h x81 e80
              have K := k8_I K e80 n32
              have o3 := ob_wI o3 e80
              have o8 := ob_wI o8 e80
              have o15 := ob_wI o15 e80
              obtain ⟨b82, e83, h⟩ := h
              refine ⟨b82, e83, ?_⟩
              obtain ⟨c84, h⟩ := h
              refine ⟨c84, ?_⟩
              have n85 := k8_nk K c84 (by decide)
              have o86 := c84
              intro x88 e87
              have h := h x88 e87
              intro x90 e89
              have h := h x90 e89
              intro x92 e91
              have h := h x92 e91
              have K := k8_I K e91 n85
              have o3 := ob_wI o3 e91
              have o8 := ob_wI o8 e91
              have o15 := ob_wI o15 e91
              have o86 := ob_wI o86 e91
              exact ⟨h, K⟩
            · intro c93
              have h := h.2 c93
              exact ⟨h, K⟩
          · intro c94
            have h := h.2 c94
            exact ⟨h, K⟩
        · intro c95
          have h := h.2 c95
          exact ⟨h, K⟩
    · intro c96
      have h := h.2 c96
      exact ⟨h, K⟩
  · intro c97
    have h := h.2 c97
    exact ⟨h, K⟩
theorem kx_X4_rainLine {Q : Int32 → HS → Prop} {v0 : Nat} {S : HS} (h : P_X4_rainLine v0 Q S) : P_X4_rainLine v0 (fun r T => Q r T ∧ K8 S T) S := kx_X4_rainLine_0 h (k8_rf S)
set_option maxRecDepth 20000 in
set_option maxHeartbeats 1000000 in
theorem kx_X4_roadLine_130 {Q : Int32 → HS → Prop} {v0 : Nat} {S0 S : HS} (h : P_X4_roadLine_130 Q v0 S) (K : K8 S0 S) : P_X4_roadLine_130 (fun r T => Q r T ∧ K8 S0 T) v0 S := by
  delta P_X4_roadLine_130 at h ⊢
  obtain ⟨c1, h⟩ := h
  refine ⟨c1, ?_⟩
  have n2 := k8_nk K c1 (by decide)
  have o3 := c1
  obtain ⟨b4, e5, h⟩ := h
  refine ⟨b4, e5, ?_⟩
  obtain ⟨c6, h⟩ := h
  refine ⟨c6, ?_⟩
  have n7 := k8_nk K c6 (by decide)
  have o8 := c6
  intro x10 e9
  have h := h x10 e9
  intro x12 e11
  have h := h x12 e11
  intro x14 e13
  have h := h x14 e13
  have K := k8_I K e13 n7
  have o3 := ob_wI o3 e13
  have o8 := ob_wI o8 e13
  exact ⟨h, K⟩
set_option maxRecDepth 20000 in
set_option maxHeartbeats 1000000 in
theorem kx_X4_roadLine_0 {Q : Int32 → HS → Prop} {v0 : Nat} {S0 S : HS} (h : P_X4_roadLine_0 Q v0 S) (K : K8 S0 S) : P_X4_roadLine_0 (fun r T => Q r T ∧ K8 S0 T) v0 S := by
  delta P_X4_roadLine_0 at h ⊢
  obtain ⟨c1, h⟩ := h
  refine ⟨c1, ?_⟩
  have n2 := k8_nk K c1 (by decide)
  have o3 := c1
  obtain ⟨b4, e5, h⟩ := h
  refine ⟨b4, e5, ?_⟩
  obtain ⟨c6, h⟩ := h
  refine ⟨c6, ?_⟩
  have n7 := k8_nk K c6 (by decide)
  have o8 := c6
  obtain ⟨b9, e10, h⟩ := h
  refine ⟨b9, e10, ?_⟩
  obtain ⟨b11, e12, h⟩ := h
  refine ⟨b11, e12, ?_⟩
  obtain ⟨c13, h⟩ := h
  refine ⟨c13, ?_⟩
  have n14 := k8_nk K c13 (by decide)
  have o15 := c13
  intro x17 e16
  have h := h x17 e16
  obtain ⟨c18, h⟩ := h
  refine ⟨c18, ?_⟩
  have n19 := k8_nk K c18 (by decide)
  obtain ⟨c20, h⟩ := h
  refine ⟨c20, ?_⟩
  obtain ⟨b21, e22, h⟩ := h
  refine ⟨b21, e22, ?_⟩
  refine cm_X4_placeBut (kx_X4_placeBut h) h (fun x23 x24 p27 h g25 g26 => ?_)
  have h := h g25 g26
  have K := k8_tr K p27.2
  have o3 := gr_ob p27.2.1 o3
  have o8 := gr_ob p27.2.1 o8
  have o15 := gr_ob p27.2.1 o15
  refine ⟨?_, ?_⟩
  · intro c28
    have h := h.1 c28
    intro x30 e29
    have h := h x30 e29
    obtain ⟨c31, h⟩ := h
    refine ⟨c31, ?_⟩
    have n32 := k8_nk K c31 (by decide)
    intro x34 e33
    have h := h x34 e33
    have K := k8_I K e33 n32
    have o3 := ob_wI o3 e33
    have o8 := ob_wI o8 e33
    have o15 := ob_wI o15 e33
    refine cm_X4_side (kx_X4_side h) h (fun x35 x36 p39 h g37 g38 => ?_)
    have h := h g37 g38
    have K := k8_tr K p39.2
    have o3 := gr_ob p39.2.1 o3
    have o8 := gr_ob p39.2.1 o8
    have o15 := gr_ob p39.2.1 o15
    refine ⟨?_, ?_⟩
    · intro c40
      have h := h.1 c40
      intro x42 e41
      have h := h x42 e41
      intro x44 e43
      have h := h x44 e43
      have K := k8_I K e43 n32
      have o3 := ob_wI o3 e43
      have o8 := ob_wI o8 e43
      have o15 := ob_wI o15 e43
      refine cm_X4_whole (kx_X4_whole h) h (fun x45 x46 p49 h g47 g48 => ?_)
      have h := h g47 g48
      have K := k8_tr K p49.2
      have o3 := gr_ob p49.2.1 o3
      have o8 := gr_ob p49.2.1 o8
      have o15 := gr_ob p49.2.1 o15
      refine ⟨?_, ?_⟩
      · intro c50
        have h := h.1 c50
        intro x52 e51
        have h := h x52 e51
        intro x54 e53
        have h := h x54 e53
        have K := k8_I K e53 n32
        have o3 := ob_wI o3 e53
        have o8 := ob_wI o8 e53
        have o15 := ob_wI o15 e53
        intro x56 e55
        have h := h x56 e55
        refine cm_X4_placeBut (kx_X4_placeBut h) h (fun x57 x58 p61 h g59 g60 => ?_)
        have h := h g59 g60
        have K := k8_tr K p61.2
        have o3 := gr_ob p61.2.1 o3
        have o8 := gr_ob p61.2.1 o8
        have o15 := gr_ob p61.2.1 o15
        refine ⟨?_, ?_⟩
        · intro c62
          have h := h.1 c62
          intro x64 e63
          have h := h x64 e63
          intro x66 e65
          have h := h x66 e65
          have K := k8_I K e65 n32
          have o3 := ob_wI o3 e65
          have o8 := ob_wI o8 e65
          have o15 := ob_wI o15 e65
          intro x68 e67
          have h := h x68 e67
          have K := k8_I K e67 n32
          have o3 := ob_wI o3 e67
          have o8 := ob_wI o8 e67
          have o15 := ob_wI o15 e67
          refine cm_X4_is (kx_X4_is h) h (fun x69 x70 p73 h g71 g72 => ?_)
          have h := h g71 g72
          have K := k8_tr K p73.2
          have o3 := gr_ob p73.2.1 o3
          have o8 := gr_ob p73.2.1 o8
          have o15 := gr_ob p73.2.1 o15
          refine ⟨?_, ?_⟩
          · intro c74
            have h := h.1 c74
            exact kx_X4_roadLine_130 h K
          · intro c75
            have h := h.2 c75
            intro x77 e76
            have h := h x77 e76
            refine cm_X4_wordAndWhole (kx_X4_wordAndWhole h) h (fun x78 x79 p82 h g80 g81 => ?_)
            have h := h g80 g81
            have K := k8_tr K p82.2
            have o3 := gr_ob p82.2.1 o3
            have o8 := gr_ob p82.2.1 o8
            have o15 := gr_ob p82.2.1 o15
            refine ⟨?_, ?_⟩
            · intro c83
              have h := h.1 c83
              intro x85 e84
              have h := h x85 e84
              intro x87 e86
              have h := h x87 e86
              have K := k8_I K e86 n32
              have o3 := ob_wI o3 e86
              have o8 := ob_wI o8 e86
              have o15 := ob_wI o15 e86
              exact kx_X4_roadLine_130 h K
            · intro c88
              have h := h.2 c88
              exact ⟨h, K⟩
        · intro c89
          have h := h.2 c89
          exact ⟨h, K⟩
      · intro c90
        have h := h.2 c90
        exact ⟨h, K⟩
    · intro c91
      have h := h.2 c91
      exact ⟨h, K⟩
  · intro c92
    have h := h.2 c92
    exact ⟨h, K⟩
theorem kx_X4_roadLine {Q : Int32 → HS → Prop} {v0 : Nat} {S : HS} (h : P_X4_roadLine v0 Q S) : P_X4_roadLine v0 (fun r T => Q r T ∧ K8 S T) S := kx_X4_roadLine_0 h (k8_rf S)
set_option maxRecDepth 20000 in
set_option maxHeartbeats 1000000 in
theorem kx_X4_sign_0 {Q : Int32 → HS → Prop} {v0 : Nat} {v1 : Int32} {S0 S : HS} (h : P_X4_sign_0 Q v0 v1 S) (K : K8 S0 S) : P_X4_sign_0 (fun r T => Q r T ∧ K8 S0 T) v0 v1 S := by
  delta P_X4_sign_0 at h ⊢
  obtain ⟨c1, h⟩ := h
  refine ⟨c1, ?_⟩
  have n2 := k8_nk K c1 (by decide)
  have o3 := c1
  intro x5 e4
  have h := h x5 e4
  refine ⟨?_, ?_⟩
  · intro c6
    have h := h.1 c6
    refine cm_X4_next (kx_X4_next h) h (fun x7 p9 h g8 => ?_)
    have h := h g8
    have K := k8_tr K p9.2
    have o3 := gr_ob p9.2.1 o3
    exact ⟨h, K⟩
  · intro c10
    have h := h.2 c10
    refine cm_X4_fail (kx_X4_fail h) h (fun x11 x12 p15 h g13 g14 => ?_)
    have h := h g13 g14
    have K := k8_tr K p15.2
    have o3 := gr_ob p15.2.1 o3
    obtain ⟨c16, h⟩ := h
    refine ⟨c16, ?_⟩
    exact ⟨h, K⟩
theorem kx_X4_sign {Q : Int32 → HS → Prop} {v0 : Nat} {v1 : Int32} {S : HS} (h : P_X4_sign v0 v1 Q S) : P_X4_sign v0 v1 (fun r T => Q r T ∧ K8 S T) S := kx_X4_sign_0 h (k8_rf S)
set_option maxRecDepth 20000 in
set_option maxHeartbeats 1000000 in
theorem kx_X4_someWalker_0 {Q : Int32 → HS → Prop} {v0 : Nat} {S0 S : HS} (h : P_X4_someWalker_0 Q v0 S) (K : K8 S0 S) : P_X4_someWalker_0 (fun r T => Q r T ∧ K8 S0 T) v0 S := by
  delta P_X4_someWalker_0 at h ⊢
  obtain ⟨c1, h⟩ := h
  refine ⟨c1, ?_⟩
  have n2 := k8_nk K c1 (by decide)
  have o3 := c1
  refine cm_X4_canBeName (kx_X4_canBeName h) h (fun x4 x5 p8 h g6 g7 => ?_)
  have h := h g6 g7
  have K := k8_tr K p8.2
  have o3 := gr_ob p8.2.1 o3
  refine ⟨?_, ?_⟩
  · intro c9
    have h := h.1 c9
    refine cm_X4_findName (kx_X4_findName h) h (fun x10 x11 p13 h g12 => ?_)
    have h := h g12
    have K := k8_tr K p13.2
    have o3 := gr_ob p13.2.1 o3
    refine ⟨?_, ?_⟩
    · intro c14
      have h := h.1 c14
      intro x16 e15
      have h := h x16 e15
      intro x18 e17
      have h := h x18 e17
      have K := k8_I K e17 n2
      have o3 := ob_wI o3 e17
      refine cm_X4_next (kx_X4_next h) h (fun x19 p21 h g20 => ?_)
      have h := h g20
      have K := k8_tr K p21.2
      have o3 := gr_ob p21.2.1 o3
      exact ⟨h, K⟩
    · intro c22
      have h := h.2 c22
      refine cm_X4_fail (kx_X4_fail h) h (fun x23 x24 p27 h g25 g26 => ?_)
      have h := h g25 g26
      have K := k8_tr K p27.2
      have o3 := gr_ob p27.2.1 o3
      obtain ⟨c28, h⟩ := h
      refine ⟨c28, ?_⟩
      exact ⟨h, K⟩
  · intro c29
    have h := h.2 c29
    refine cm_X4_fail (kx_X4_fail h) h (fun x30 x31 p34 h g32 g33 => ?_)
    have h := h g32 g33
    have K := k8_tr K p34.2
    have o3 := gr_ob p34.2.1 o3
    obtain ⟨c35, h⟩ := h
    refine ⟨c35, ?_⟩
    exact ⟨h, K⟩
theorem kx_X4_someWalker {Q : Int32 → HS → Prop} {v0 : Nat} {S : HS} (h : P_X4_someWalker v0 Q S) : P_X4_someWalker v0 (fun r T => Q r T ∧ K8 S T) S := kx_X4_someWalker_0 h (k8_rf S)
set_option maxRecDepth 20000 in
set_option maxHeartbeats 1000000 in
theorem kx_X4_seenLine_47 {Q : Int32 → HS → Prop} {X30 X30_2 : Nat → Int32 → HS → Prop} {v0 : Nat} {v1 : Int32} {S0 S : HS} (h : P_X4_seenLine_47 Q X30 v0 v1 S) (K : K8 S0 S) (hX30 : ∀ (u0 : Nat) (u1 : Int32) (u2 : HS), X30 u0 u1 u2 → K8 S0 u2 → X30_2 u0 u1 u2) : P_X4_seenLine_47 (fun r T => Q r T ∧ K8 S0 T) X30_2 v0 v1 S := by
  delta P_X4_seenLine_47 at h ⊢
  obtain ⟨c1, h⟩ := h
  refine ⟨c1, ?_⟩
  have n2 := k8_nk K c1 (by decide)
  have o3 := c1
  refine cm_X4_whole (kx_X4_whole h) h (fun x4 x5 p8 h g6 g7 => ?_)
  have h := h g6 g7
  have K := k8_tr K p8.2
  have o3 := gr_ob p8.2.1 o3
  refine ⟨?_, ?_⟩
  · intro c9
    have h := h.1 c9
    obtain ⟨b10, e11, h⟩ := h
    refine ⟨b10, e11, ?_⟩
    obtain ⟨c12, h⟩ := h
    refine ⟨c12, ?_⟩
    have n13 := k8_nk K c12 (by decide)
    have o14 := c12
    obtain ⟨b15, e16, h⟩ := h
    refine ⟨b15, e16, ?_⟩
    have n17 := k8_nr K e16 o14 (by decide)
    obtain ⟨b18, e19, h⟩ := h
    refine ⟨b18, e19, ?_⟩
    obtain ⟨c20, h⟩ := h
    refine ⟨c20, ?_⟩
    have n21 := k8_nk K c20 (by decide)
    have o22 := c20
    intro x24 e23
    have h := h x24 e23
    intro x26 e25
    have h := h x26 e25
    obtain ⟨c27, h⟩ := h
    refine ⟨c27, ?_⟩
    obtain ⟨c28, h⟩ := h
    refine ⟨c28, ?_⟩
    intro x30 e29
    have h := h x30 e29
    have K := k8_I K e29 n17
    have o3 := ob_wI o3 e29
    have o14 := ob_wI o14 e29
    have o22 := ob_wI o22 e29
    intro x32 e31
    have h := h x32 e31
    exact hX30 _ _ _ h K
  · intro c33
    have h := h.2 c33
    exact ⟨h, K⟩
set_option maxRecDepth 20000 in
set_option maxHeartbeats 1000000 in
theorem kxB_X4_seenLine_30 {Q : Int32 → HS → Prop} {X30 X30_2 : Nat → Int32 → HS → Prop} {v0 : Nat} {v1 : Int32} {S0 S : HS} (h : B_X4_seenLine_30 Q X30 v0 v1 S) (K : K8 S0 S) (hX30 : ∀ (u0 : Nat) (u1 : Int32) (u2 : HS), X30 u0 u1 u2 → K8 S0 u2 → X30_2 u0 u1 u2) : B_X4_seenLine_30 (fun r T => Q r T ∧ K8 S0 T) X30_2 v0 v1 S := by
  delta B_X4_seenLine_30 at h ⊢
  refine ⟨?_, ?_⟩
  · intro c1
    have h := h.1 c1
    obtain ⟨c2, h⟩ := h
    refine ⟨c2, ?_⟩
    have n3 := k8_nk K c2 (by decide)
    have o4 := c2
    obtain ⟨b5, e6, h⟩ := h
    refine ⟨b5, e6, ?_⟩
    obtain ⟨c7, h⟩ := h
    refine ⟨c7, ?_⟩
    have n8 := k8_nk K c7 (by decide)
    have o9 := c7
    intro x11 e10
    have h := h x11 e10
    intro x13 e12
    have h := h x13 e12
    intro x15 e14
    have h := h x15 e14
    have K := k8_I K e14 n8
    have o4 := ob_wI o4 e14
    have o9 := ob_wI o9 e14
    exact ⟨h, K⟩
  · intro c16
    have h := h.2 c16
    refine ⟨?_, ?_⟩
    · intro c17
      have h := h.1 c17
      exact kx_X4_seenLine_47 h K hX30
    · intro c18
      have h := h.2 c18
      obtain ⟨c19, h⟩ := h
      refine ⟨c19, ?_⟩
      have n20 := k8_nk K c19 (by decide)
      have o21 := c19
      refine cm_X4_sign (kx_X4_sign h) h (fun x22 x23 p26 h g24 g25 => ?_)
      have h := h g24 g25
      have K := k8_tr K p26.2
      have o21 := gr_ob p26.2.1 o21
      refine ⟨?_, ?_⟩
      · intro c27
        have h := h.1 c27
        exact ⟨h, K⟩
      · intro c28
        have h := h.2 c28
        exact kx_X4_seenLine_47 h K hX30
theorem kx_X4_seenLine_30 {Q : Int32 → HS → Prop} {v0 : Nat} {v1 : Int32} {S0 S : HS} (h : P_X4_seenLine_30 Q v0 v1 S) (K : K8 S0 S) : P_X4_seenLine_30 (fun r T => Q r T ∧ K8 S0 T) v0 v1 S := h (fun v0 v1 S => K8 S0 S → P_X4_seenLine_30 (fun r T => Q r T ∧ K8 S0 T) v0 v1 S) (fun v0 v1 S hB K => fd_X4_seenLine_30 (kxB_X4_seenLine_30 hB K (fun _ _ _ hx K => hx K))) K
set_option maxRecDepth 20000 in
set_option maxHeartbeats 1000000 in
theorem kx_X4_seenLine_0 {Q : Int32 → HS → Prop} {v0 : Nat} {S0 S : HS} (h : P_X4_seenLine_0 Q v0 S) (K : K8 S0 S) : P_X4_seenLine_0 (fun r T => Q r T ∧ K8 S0 T) v0 S := by
  delta P_X4_seenLine_0 at h ⊢
  obtain ⟨c1, h⟩ := h
  refine ⟨c1, ?_⟩
  have n2 := k8_nk K c1 (by decide)
  have o3 := c1
  refine cm_X4_someWalker (kx_X4_someWalker h) h (fun x4 x5 p8 h g6 g7 => ?_)
  have h := h g6 g7
  have K := k8_tr K p8.2
  have o3 := gr_ob p8.2.1 o3
  refine ⟨?_, ?_⟩
  · intro c9
    have h := h.1 c9
    obtain ⟨b10, e11, h⟩ := h
    refine ⟨b10, e11, ?_⟩
    obtain ⟨c12, h⟩ := h
    refine ⟨c12, ?_⟩
    have n13 := k8_nk K c12 (by decide)
    have o14 := c12
    obtain ⟨b15, e16, h⟩ := h
    refine ⟨b15, e16, ?_⟩
    have n17 := k8_nr K e16 o14 (by decide)
    obtain ⟨b18, e19, h⟩ := h
    refine ⟨b18, e19, ?_⟩
    obtain ⟨c20, h⟩ := h
    refine ⟨c20, ?_⟩
    have n21 := k8_nk K c20 (by decide)
    have o22 := c20
    intro x24 e23
    have h := h x24 e23
    intro x26 e25
    have h := h x26 e25
    obtain ⟨c27, h⟩ := h
    refine ⟨c27, ?_⟩
    obtain ⟨c28, h⟩ := h
    refine ⟨c28, ?_⟩
    intro x30 e29
    have h := h x30 e29
    have K := k8_I K e29 n17
    have o3 := ob_wI o3 e29
    have o14 := ob_wI o14 e29
    have o22 := ob_wI o22 e29
    exact kx_X4_seenLine_30 h K
  · intro c31
    have h := h.2 c31
    exact ⟨h, K⟩
theorem kx_X4_seenLine {Q : Int32 → HS → Prop} {v0 : Nat} {S : HS} (h : P_X4_seenLine v0 Q S) : P_X4_seenLine v0 (fun r T => Q r T ∧ K8 S T) S := kx_X4_seenLine_0 h (k8_rf S)
set_option maxRecDepth 20000 in
set_option maxHeartbeats 1000000 in
theorem kx_X4_walkerLine_0 {Q : Int32 → HS → Prop} {v0 : Nat} {S0 S : HS} (h : P_X4_walkerLine_0 Q v0 S) (K : K8 S0 S) : P_X4_walkerLine_0 (fun r T => Q r T ∧ K8 S0 T) v0 S := by
  delta P_X4_walkerLine_0 at h ⊢
  obtain ⟨c1, h⟩ := h
  refine ⟨c1, ?_⟩
  have n2 := k8_nk K c1 (by decide)
  have o3 := c1
  obtain ⟨b4, e5, h⟩ := h
  refine ⟨b4, e5, ?_⟩
  obtain ⟨c6, h⟩ := h
  refine ⟨c6, ?_⟩
  have n7 := k8_nk K c6 (by decide)
  have o8 := c6
  obtain ⟨b9, e10, h⟩ := h
  refine ⟨b9, e10, ?_⟩
  obtain ⟨b11, e12, h⟩ := h
  refine ⟨b11, e12, ?_⟩
  obtain ⟨c13, h⟩ := h
  refine ⟨c13, ?_⟩
  have n14 := k8_nk K c13 (by decide)
  have o15 := c13
  intro x17 e16
  have h := h x17 e16
  obtain ⟨c18, h⟩ := h
  refine ⟨c18, ?_⟩
  have n19 := k8_nk K c18 (by decide)
  obtain ⟨c20, h⟩ := h
  refine ⟨c20, ?_⟩
  obtain ⟨b21, e22, h⟩ := h
  refine ⟨b21, e22, ?_⟩
  obtain ⟨b23, e24, h⟩ := h
  refine ⟨b23, e24, ?_⟩
  obtain ⟨c25, h⟩ := h
  refine ⟨c25, ?_⟩
  have n26 := k8_nk K c25 (by decide)
  have o27 := c25
  intro x29 e28
  have h := h x29 e28
  refine cm_X4_newName (kx_X4_newName h) h (fun x30 x31 p34 h g32 g33 => ?_)
  have h := h g32 g33
  have K := k8_tr K p34.2
  have o3 := gr_ob p34.2.1 o3
  have o8 := gr_ob p34.2.1 o8
  have o15 := gr_ob p34.2.1 o15
  have o27 := gr_ob p34.2.1 o27
  refine ⟨?_, ?_⟩
  · intro c35
    have h := h.1 c35
    exact ⟨h, K⟩
  · intro c36
    have h := h.2 c36
    refine cm_X4_kindOf (kx_X4_kindOf h) h (fun x37 x38 p41 h g39 g40 => ?_)
    have h := h g39 g40
    have K := k8_tr K p41.2
    have o3 := gr_ob p41.2.1 o3
    have o8 := gr_ob p41.2.1 o8
    have o15 := gr_ob p41.2.1 o15
    have o27 := gr_ob p41.2.1 o27
    refine ⟨?_, ?_⟩
    · intro c42
      have h := h.1 c42
      exact ⟨h, K⟩
    · intro c43
      have h := h.2 c43
      refine cm_X4_bodyOf (kx_X4_bodyOf h) h (fun x44 x45 p48 h g46 g47 => ?_)
      have h := h g46 g47
      have K := k8_tr K p48.2
      have o3 := gr_ob p48.2.1 o3
      have o8 := gr_ob p48.2.1 o8
      have o15 := gr_ob p48.2.1 o15
      have o27 := gr_ob p48.2.1 o27
      refine ⟨?_, ?_⟩
      · intro c49
        have h := h.1 c49
        refine cm_X4_wordAndWhole (kx_X4_wordAndWhole h) h (fun x50 x51 p54 h g52 g53 => ?_)
        have h := h g52 g53
        have K := k8_tr K p54.2
        have o3 := gr_ob p54.2.1 o3
        have o8 := gr_ob p54.2.1 o8
        have o15 := gr_ob p54.2.1 o15
        have o27 := gr_ob p54.2.1 o27
        refine ⟨?_, ?_⟩
        · intro c55
          have h := h.1 c55
          intro x57 e56
          have h := h x57 e56
          obtain ⟨c58, h⟩ := h
          refine ⟨c58, ?_⟩
          have n59 := k8_nk K c58 (by decide)
          intro x61 e60
          have h := h x61 e60
          have K := k8_I K e60 n59
          have o3 := ob_wI o3 e60
          have o8 := ob_wI o8 e60
          have o15 := ob_wI o15 e60
          have o27 := ob_wI o27 e60
          intro x63 e62
          have h := h x63 e62
          refine cm_X4_wordAndWhole (kx_X4_wordAndWhole h) h (fun x64 x65 p68 h g66 g67 => ?_)
          have h := h g66 g67
          have K := k8_tr K p68.2
          have o3 := gr_ob p68.2.1 o3
          have o8 := gr_ob p68.2.1 o8
          have o15 := gr_ob p68.2.1 o15
          have o27 := gr_ob p68.2.1 o27
          refine ⟨?_, ?_⟩
          · intro c69
            have h := h.1 c69
            intro x71 e70
            have h := h x71 e70
            intro x73 e72
            have h := h x73 e72
            have K := k8_I K e72 n59
            have o3 := ob_wI o3 e72
            have o8 := ob_wI o8 e72
            have o15 := ob_wI o15 e72
            have o27 := ob_wI o27 e72
            obtain ⟨b74, e75, h⟩ := h
            refine ⟨b74, e75, ?_⟩
            obtain ⟨c76, h⟩ := h
            refine ⟨c76, ?_⟩
            have n77 := k8_nk K c76 (by decide)
            have o78 := c76
            intro x80 e79
            have h := h x80 e79
            intro x82 e81
            have h := h x82 e81
            intro x84 e83
            have h := h x84 e83
            have K := k8_I K e83 n77
            have o3 := ob_wI o3 e83
            have o8 := ob_wI o8 e83
            have o15 := ob_wI o15 e83
            have o27 := ob_wI o27 e83
            have o78 := ob_wI o78 e83
            exact ⟨h, K⟩
          · intro c85
            have h := h.2 c85
            exact ⟨h, K⟩
        · intro c86
          have h := h.2 c86
          exact ⟨h, K⟩
      · intro c87
        have h := h.2 c87
        exact ⟨h, K⟩
theorem kx_X4_walkerLine {Q : Int32 → HS → Prop} {v0 : Nat} {S : HS} (h : P_X4_walkerLine v0 Q S) : P_X4_walkerLine v0 (fun r T => Q r T ∧ K8 S T) S := kx_X4_walkerLine_0 h (k8_rf S)
set_option maxRecDepth 20000 in
set_option maxHeartbeats 1000000 in
theorem kx_X4_worldLine_0 {Q : Int32 → HS → Prop} {v0 : Nat} {S0 S : HS} (h : P_X4_worldLine_0 Q v0 S) (K : K8 S0 S) : P_X4_worldLine_0 (fun r T => Q r T ∧ K8 S0 T) v0 S := by
  delta P_X4_worldLine_0 at h ⊢
  obtain ⟨c1, h⟩ := h
  refine ⟨c1, ?_⟩
  have n2 := k8_nk K c1 (by decide)
  have o3 := c1
  obtain ⟨b4, e5, h⟩ := h
  refine ⟨b4, e5, ?_⟩
  obtain ⟨c6, h⟩ := h
  refine ⟨c6, ?_⟩
  have n7 := k8_nk K c6 (by decide)
  have o8 := c6
  refine cm_X8_isTold (kx_X8_isTold h) h (fun x9 x10 p13 h g11 g12 => ?_)
  have h := h g11 g12
  have K := k8_tr K p13.2
  have o3 := gr_ob p13.2.1 o3
  have o8 := gr_ob p13.2.1 o8
  refine ⟨?_, ?_⟩
  · intro c14
    have h := h.1 c14
    refine cm_X4_next (kx_X4_next h) h (fun x15 p17 h g16 => ?_)
    have h := h g16
    have K := k8_tr K p17.2
    have o3 := gr_ob p17.2.1 o3
    have o8 := gr_ob p17.2.1 o8
    refine cm_X4_wordAndWhole (kx_X4_wordAndWhole h) h (fun x18 x19 p22 h g20 g21 => ?_)
    have h := h g20 g21
    have K := k8_tr K p22.2
    have o3 := gr_ob p22.2.1 o3
    have o8 := gr_ob p22.2.1 o8
    refine ⟨?_, ?_⟩
    · intro c23
      have h := h.1 c23
      obtain ⟨b24, e25, h⟩ := h
      refine ⟨b24, e25, ?_⟩
      intro x27 e26
      have h := h x27 e26
      obtain ⟨c28, h⟩ := h
      refine ⟨c28, ?_⟩
      have n29 := k8_nk K c28 (by decide)
      have o30 := c28
      intro x32 e31
      have h := h x32 e31
      have K := k8_I K e31 n29
      have o3 := ob_wI o3 e31
      have o8 := ob_wI o8 e31
      have o30 := ob_wI o30 e31
      exact ⟨h, K⟩
    · intro c33
      have h := h.2 c33
      exact ⟨h, K⟩
  · intro c34
    have h := h.2 c34
    refine cm_X4_fail (kx_X4_fail h) h (fun x35 x36 p39 h g37 g38 => ?_)
    have h := h g37 g38
    have K := k8_tr K p39.2
    have o3 := gr_ob p39.2.1 o3
    have o8 := gr_ob p39.2.1 o8
    obtain ⟨c40, h⟩ := h
    refine ⟨c40, ?_⟩
    exact ⟨h, K⟩
theorem kx_X4_worldLine {Q : Int32 → HS → Prop} {v0 : Nat} {S : HS} (h : P_X4_worldLine v0 Q S) : P_X4_worldLine v0 (fun r T => Q r T ∧ K8 S T) S := kx_X4_worldLine_0 h (k8_rf S)
set_option maxRecDepth 20000 in
set_option maxHeartbeats 1000000 in
theorem kx_X4_read_280 {Q : Int32 → HS → Prop} {v0 : Nat} {S0 S : HS} (h : P_X4_read_280 Q v0 S) (K : K8 S0 S) : P_X4_read_280 (fun r T => Q r T ∧ K8 S0 T) v0 S := by
  delta P_X4_read_280 at h ⊢
  obtain ⟨c1, h⟩ := h
  refine ⟨c1, ?_⟩
  have n2 := k8_nk K c1 (by decide)
  have o3 := c1
  refine cm_X4_fail (kx_X4_fail h) h (fun x4 x5 p8 h g6 g7 => ?_)
  have h := h g6 g7
  have K := k8_tr K p8.2
  have o3 := gr_ob p8.2.1 o3
  refine ⟨?_, ?_⟩
  · intro c9
    have h := h.1 c9
    exact ⟨h, K⟩
  · intro c10
    have h := h.2 c10
    exact ⟨h, K⟩
set_option maxRecDepth 20000 in
set_option maxHeartbeats 1000000 in
theorem kx_X4_read_295 {Q : Int32 → HS → Prop} {X8 X8_2 : Nat → Int32 → HS → Prop} {v0 : Nat} {v3 : Int32} {v4 : Int32} {S0 S : HS} (h : P_X4_read_295 Q X8 v0 v3 v4 S) (K : K8 S0 S) (hX8 : ∀ (u0 : Nat) (u1 : Int32) (u2 : HS), X8 u0 u1 u2 → K8 S0 u2 → X8_2 u0 u1 u2) : P_X4_read_295 (fun r T => Q r T ∧ K8 S0 T) X8_2 v0 v3 v4 S := by
  delta P_X4_read_295 at h ⊢
  refine ⟨?_, ?_⟩
  · intro c1
    have h := h.1 c1
    exact ⟨h, K⟩
  · intro c2
    have h := h.2 c2
    obtain ⟨c3, h⟩ := h
    refine ⟨c3, ?_⟩
    have n4 := k8_nk K c3 (by decide)
    have o5 := c3
    refine cm_X4_sign (kx_X4_sign h) h (fun x6 x7 p10 h g8 g9 => ?_)
    have h := h g8 g9
    have K := k8_tr K p10.2
    have o5 := gr_ob p10.2.1 o5
    refine ⟨?_, ?_⟩
    · intro c11
      have h := h.1 c11
      intro x13 e12
      have h := h x13 e12
      exact hX8 _ _ _ h K
    · intro c14
      have h := h.2 c14
      exact ⟨h, K⟩
set_option maxRecDepth 20000 in
set_option maxHeartbeats 1000000 in
theorem kx_X4_read_248 {Q : Int32 → HS → Prop} {X8 X8_2 : Nat → Int32 → HS → Prop} {v0 : Nat} {v3 : Int32} {v4 : Int32} {S0 S : HS} (h : P_X4_read_248 Q X8 v0 v3 v4 S) (K : K8 S0 S) (hX8 : ∀ (u0 : Nat) (u1 : Int32) (u2 : HS), X8 u0 u1 u2 → K8 S0 u2 → X8_2 u0 u1 u2) : P_X4_read_248 (fun r T => Q r T ∧ K8 S0 T) X8_2 v0 v3 v4 S := by
  delta P_X4_read_248 at h ⊢
  refine ⟨?_, ?_⟩
  · intro c1
    have h := h.1 c1
    exact kx_X4_read_295 h K hX8
  · intro c2
    have h := h.2 c2
    obtain ⟨c3, h⟩ := h
    refine ⟨c3, ?_⟩
    have n4 := k8_nk K c3 (by decide)
    have o5 := c3
    intro x7 e6
    have h := h x7 e6
    refine ⟨?_, ?_⟩
    · intro c8
      have h := h.1 c8
      exact kx_X4_read_295 h K hX8
    · intro c9
      have h := h.2 c9
      obtain ⟨b10, e11, h⟩ := h
      refine ⟨b10, e11, ?_⟩
      obtain ⟨c12, h⟩ := h
      refine ⟨c12, ?_⟩
      have n13 := k8_nk K c12 (by decide)
      have o14 := c12
      intro x16 e15
      have h := h x16 e15
      refine ⟨?_, ?_⟩
      · intro c17
        have h := h.1 c17
        exact kx_X4_read_280 h K
      · intro c18
        have h := h.2 c18
        obtain ⟨b19, e20, h⟩ := h
        refine ⟨b19, e20, ?_⟩
        obtain ⟨c21, h⟩ := h
        refine ⟨c21, ?_⟩
        have n22 := k8_nk K c21 (by decide)
        have o23 := c21
        intro x25 e24
        have h := h x25 e24
        refine ⟨?_, ?_⟩
        · intro c26
          have h := h.1 c26
          exact ⟨h, K⟩
        · intro c27
          have h := h.2 c27
          exact kx_X4_read_280 h K
set_option maxRecDepth 20000 in
set_option maxHeartbeats 1000000 in
theorem kx_X4_read_70 {Q : Int32 → HS → Prop} {X8 X8_2 : Nat → Int32 → HS → Prop} {v0 : Nat} {v3 : Int32} {s0 : Int32} {S0 S : HS} (h : P_X4_read_70 Q X8 v0 v3 s0 S) (K : K8 S0 S) (hX8 : ∀ (u0 : Nat) (u1 : Int32) (u2 : HS), X8 u0 u1 u2 → K8 S0 u2 → X8_2 u0 u1 u2) : P_X4_read_70 (fun r T => Q r T ∧ K8 S0 T) X8_2 v0 v3 s0 S := by
  delta P_X4_read_70 at h ⊢
  exact kx_X4_read_248 h K hX8
set_option maxRecDepth 20000 in
set_option maxHeartbeats 1000000 in
theorem kx_X4_read_69 {Q : Int32 → HS → Prop} {X8 X8_2 : Nat → Int32 → HS → Prop} {v0 : Nat} {v3 : Int32} {S0 S : HS} (h : P_X4_read_69 Q X8 v0 v3 S) (K : K8 S0 S) (hX8 : ∀ (u0 : Nat) (u1 : Int32) (u2 : HS), X8 u0 u1 u2 → K8 S0 u2 → X8_2 u0 u1 u2) : P_X4_read_69 (fun r T => Q r T ∧ K8 S0 T) X8_2 v0 v3 S := by
  delta P_X4_read_69 at h ⊢
  exact kx_X4_read_70 h K hX8
set_option maxRecDepth 20000 in
set_option maxHeartbeats 1000000 in
theorem kx_X4_read_112 {Q : Int32 → HS → Prop} {X8 X8_2 : Nat → Int32 → HS → Prop} {v0 : Nat} {v3 : Int32} {s0 : Int32} {S0 S : HS} (h : P_X4_read_112 Q X8 v0 v3 s0 S) (K : K8 S0 S) (hX8 : ∀ (u0 : Nat) (u1 : Int32) (u2 : HS), X8 u0 u1 u2 → K8 S0 u2 → X8_2 u0 u1 u2) : P_X4_read_112 (fun r T => Q r T ∧ K8 S0 T) X8_2 v0 v3 s0 S := by
  delta P_X4_read_112 at h ⊢
  exact kx_X4_read_248 h K hX8
set_option maxRecDepth 20000 in
set_option maxHeartbeats 1000000 in
theorem kx_X4_read_111 {Q : Int32 → HS → Prop} {X8 X8_2 : Nat → Int32 → HS → Prop} {v0 : Nat} {v3 : Int32} {S0 S : HS} (h : P_X4_read_111 Q X8 v0 v3 S) (K : K8 S0 S) (hX8 : ∀ (u0 : Nat) (u1 : Int32) (u2 : HS), X8 u0 u1 u2 → K8 S0 u2 → X8_2 u0 u1 u2) : P_X4_read_111 (fun r T => Q r T ∧ K8 S0 T) X8_2 v0 v3 S := by
  delta P_X4_read_111 at h ⊢
  exact kx_X4_read_112 h K hX8
set_option maxRecDepth 20000 in
set_option maxHeartbeats 1000000 in
theorem kx_X4_read_154 {Q : Int32 → HS → Prop} {X8 X8_2 : Nat → Int32 → HS → Prop} {v0 : Nat} {v3 : Int32} {s0 : Int32} {S0 S : HS} (h : P_X4_read_154 Q X8 v0 v3 s0 S) (K : K8 S0 S) (hX8 : ∀ (u0 : Nat) (u1 : Int32) (u2 : HS), X8 u0 u1 u2 → K8 S0 u2 → X8_2 u0 u1 u2) : P_X4_read_154 (fun r T => Q r T ∧ K8 S0 T) X8_2 v0 v3 s0 S := by
  delta P_X4_read_154 at h ⊢
  exact kx_X4_read_248 h K hX8
set_option maxRecDepth 20000 in
set_option maxHeartbeats 1000000 in
theorem kx_X4_read_153 {Q : Int32 → HS → Prop} {X8 X8_2 : Nat → Int32 → HS → Prop} {v0 : Nat} {v3 : Int32} {S0 S : HS} (h : P_X4_read_153 Q X8 v0 v3 S) (K : K8 S0 S) (hX8 : ∀ (u0 : Nat) (u1 : Int32) (u2 : HS), X8 u0 u1 u2 → K8 S0 u2 → X8_2 u0 u1 u2) : P_X4_read_153 (fun r T => Q r T ∧ K8 S0 T) X8_2 v0 v3 S := by
  delta P_X4_read_153 at h ⊢
  exact kx_X4_read_154 h K hX8
set_option maxRecDepth 20000 in
set_option maxHeartbeats 1000000 in
theorem kx_X4_read_195 {Q : Int32 → HS → Prop} {X8 X8_2 : Nat → Int32 → HS → Prop} {v0 : Nat} {v3 : Int32} {s0 : Int32} {S0 S : HS} (h : P_X4_read_195 Q X8 v0 v3 s0 S) (K : K8 S0 S) (hX8 : ∀ (u0 : Nat) (u1 : Int32) (u2 : HS), X8 u0 u1 u2 → K8 S0 u2 → X8_2 u0 u1 u2) : P_X4_read_195 (fun r T => Q r T ∧ K8 S0 T) X8_2 v0 v3 s0 S := by
  delta P_X4_read_195 at h ⊢
  exact kx_X4_read_248 h K hX8
set_option maxRecDepth 20000 in
set_option maxHeartbeats 1000000 in
theorem kx_X4_read_194 {Q : Int32 → HS → Prop} {X8 X8_2 : Nat → Int32 → HS → Prop} {v0 : Nat} {v3 : Int32} {S0 S : HS} (h : P_X4_read_194 Q X8 v0 v3 S) (K : K8 S0 S) (hX8 : ∀ (u0 : Nat) (u1 : Int32) (u2 : HS), X8 u0 u1 u2 → K8 S0 u2 → X8_2 u0 u1 u2) : P_X4_read_194 (fun r T => Q r T ∧ K8 S0 T) X8_2 v0 v3 S := by
  delta P_X4_read_194 at h ⊢
  exact kx_X4_read_195 h K hX8
set_option maxRecDepth 20000 in
set_option maxHeartbeats 1000000 in
theorem kx_X4_read_236 {Q : Int32 → HS → Prop} {X8 X8_2 : Nat → Int32 → HS → Prop} {v0 : Nat} {v3 : Int32} {s0 : Int32} {S0 S : HS} (h : P_X4_read_236 Q X8 v0 v3 s0 S) (K : K8 S0 S) (hX8 : ∀ (u0 : Nat) (u1 : Int32) (u2 : HS), X8 u0 u1 u2 → K8 S0 u2 → X8_2 u0 u1 u2) : P_X4_read_236 (fun r T => Q r T ∧ K8 S0 T) X8_2 v0 v3 s0 S := by
  delta P_X4_read_236 at h ⊢
  exact kx_X4_read_248 h K hX8
set_option maxRecDepth 20000 in
set_option maxHeartbeats 1000000 in
theorem kx_X4_read_235 {Q : Int32 → HS → Prop} {X8 X8_2 : Nat → Int32 → HS → Prop} {v0 : Nat} {v3 : Int32} {S0 S : HS} (h : P_X4_read_235 Q X8 v0 v3 S) (K : K8 S0 S) (hX8 : ∀ (u0 : Nat) (u1 : Int32) (u2 : HS), X8 u0 u1 u2 → K8 S0 u2 → X8_2 u0 u1 u2) : P_X4_read_235 (fun r T => Q r T ∧ K8 S0 T) X8_2 v0 v3 S := by
  delta P_X4_read_235 at h ⊢
  exact kx_X4_read_236 h K hX8
set_option maxRecDepth 20000 in
set_option maxHeartbeats 1000000 in
theorem kxB_X4_read_8 {Q : Int32 → HS → Prop} {X8 X8_2 : Nat → Int32 → HS → Prop} {v0 : Nat} {v3 : Int32} {S0 S : HS} (h : B_X4_read_8 Q X8 v0 v3 S) (K : K8 S0 S) (hX8 : ∀ (u0 : Nat) (u1 : Int32) (u2 : HS), X8 u0 u1 u2 → K8 S0 u2 → X8_2 u0 u1 u2) : B_X4_read_8 (fun r T => Q r T ∧ K8 S0 T) X8_2 v0 v3 S := by
  delta B_X4_read_8 at h ⊢
  refine ⟨?_, ?_⟩
  · intro c1
    have h := h.1 c1
    obtain ⟨c2, h⟩ := h
    refine ⟨c2, ?_⟩
    have n3 := k8_nk K c2 (by decide)
    have o4 := c2
    refine cm_X4_fail (kx_X4_fail h) h (fun x5 x6 p9 h g7 g8 => ?_)
    have h := h g7 g8
    have K := k8_tr K p9.2
    have o4 := gr_ob p9.2.1 o4
    obtain ⟨c10, h⟩ := h
    refine ⟨c10, ?_⟩
    exact ⟨h, K⟩
  · intro c11
    have h := h.2 c11
    obtain ⟨c12, h⟩ := h
    refine ⟨c12, ?_⟩
    have n13 := k8_nk K c12 (by decide)
    have o14 := c12
    refine cm_X4_is (kx_X4_is h) h (fun x15 x16 p19 h g17 g18 => ?_)
    have h := h g17 g18
    have K := k8_tr K p19.2
    have o14 := gr_ob p19.2.1 o14
    refine ⟨?_, ?_⟩
    · intro c20
      have h := h.1 c20
      refine cm_X4_is (kx_X4_is h) h (fun x21 x22 p25 h g23 g24 => ?_)
      have h := h g23 g24
      have K := k8_tr K p25.2
      have o14 := gr_ob p25.2.1 o14
      refine ⟨?_, ?_⟩
      · intro c26
        have h := h.1 c26
        refine cm_X4_is (kx_X4_is h) h (fun x27 x28 p31 h g29 g30 => ?_)
        have h := h g29 g30
        have K := k8_tr K p31.2
        have o14 := gr_ob p31.2.1 o14
        refine ⟨?_, ?_⟩
        · intro c32
          have h := h.1 c32
          refine cm_X4_is (kx_X4_is h) h (fun x33 x34 p37 h g35 g36 => ?_)
          have h := h g35 g36
          have K := k8_tr K p37.2
          have o14 := gr_ob p37.2.1 o14
          refine ⟨?_, ?_⟩
          · intro c38
            have h := h.1 c38
            refine cm_X4_is (kx_X4_is h) h (fun x39 x40 p43 h g41 g42 => ?_)
            have h := h g41 g42
            have K := k8_tr K p43.2
            have o14 := gr_ob p43.2.1 o14
            refine ⟨?_, ?_⟩
            · intro c44
              have h := h.1 c44
              refine cm_X4_is (kx_X4_is h) h (fun x45 x46 p49 h g47 g48 => ?_)
              have h := h g47 g48
              have K := k8_tr K p49.2
              have o14 := gr_ob p49.2.1 o14
              refine ⟨?_, ?_⟩
              · intro c50
                have h := h.1 c50
                refine cm_X4_fail (kx_X4_fail h) h (fun x51 x52 p55 h g53 g54 => ?_)
                have h := h g53 g54
                have K := k8_tr K p55.2
                have o14 := gr_ob p55.2.1 o14
                exact kx_X4_read_248 h K hX8
              · intro c56
                have h := h.2 c56
                obtain ⟨b57, e58, h⟩ := h
                refine ⟨b57, e58, ?_⟩
                obtain ⟨c59, h⟩ := h
                refine ⟨c59, ?_⟩
                have n60 := k8_nk K c59 (by decide)
                have o61 := c59
                intro x63 e62
                have h := h x63 e62
                refine cm_X4_hasRoom (kx_X4_hasRoom h) h (fun x64 x65 p68 h g66 g67 => ?_)
                have h := h g66 g67
                have K := k8_tr K p68.2
                have o14 := gr_ob p68.2.1 o14
                have o61 := gr_ob p68.2.1 o61
                refine ⟨?_, ?_⟩
                · intro c69
                  have h := h.1 c69
                  exact kx_X4_read_235 h K hX8
                · intro c70
                  have h := h.2 c70
                  refine cm_X4_seenLine (kx_X4_seenLine h) h (fun x71 x72 p75 h g73 g74 => ?_)
                  have h := h g73 g74
                  have K := k8_tr K p75.2
                  have o14 := gr_ob p75.2.1 o14
                  have o61 := gr_ob p75.2.1 o61
                  refine ⟨?_, ?_⟩
                  · intro c76
                    have h := h.1 c76
                    exact kx_X4_read_235 h K hX8
                  · intro c77
                    have h := h.2 c77
                    exact kx_X4_read_236 h K hX8
            · intro c78
              have h := h.2 c78
              obtain ⟨b79, e80, h⟩ := h
              refine ⟨b79, e80, ?_⟩
              obtain ⟨c81, h⟩ := h
              refine ⟨c81, ?_⟩
              have n82 := k8_nk K c81 (by decide)
              have o83 := c81
              intro x85 e84
              have h := h x85 e84
              refine cm_X4_hasRoom (kx_X4_hasRoom h) h (fun x86 x87 p90 h g88 g89 => ?_)
              have h := h g88 g89
              have K := k8_tr K p90.2
              have o14 := gr_ob p90.2.1 o14
              have o83 := gr_ob p90.2.1 o83
              refine ⟨?_, ?_⟩
              · intro c91
                have h := h.1 c91
                exact kx_X4_read_194 h K hX8
              · intro c92
                have h := h.2 c92
                refine cm_X4_walkerLine (kx_X4_walkerLine h) h (fun x93 x94 p97 h g95 g96 => ?_)
                have h := h g95 g96
                have K := k8_tr K p97.2
                have o14 := gr_ob p97.2.1 o14
                have o83 := gr_ob p97.2.1 o83
                refine ⟨?_, ?_⟩
                · intro c98
                  have h := h.1 c98
                  exact kx_X4_read_194 h K hX8
                · intro c99
                  have h := h.2 c99
                  exact kx_X4_read_195 h K hX8
          · intro c100
            have h := h.2 c100
            obtain ⟨b101, e102, h⟩ := h
            refine ⟨b101, e102, ?_⟩
            obtain ⟨c103, h⟩ := h
            refine ⟨c103, ?_⟩
            have n104 := k8_nk K c103 (by decide)
            have o105 := c103
            intro x107 e106
            have h := h x107 e106
            refine cm_X4_hasRoom (kx_X4_hasRoom h) h (fun x108 x109 p112 h g110 g111 => ?_)
            have h := h g110 g111
            have K := k8_tr K p112.2
            have o14 := gr_ob p112.2.1 o14
            have o105 := gr_ob p112.2.1 o105
            refine ⟨?_, ?_⟩
            · intro c113
              have h := h.1 c113
              exact kx_X4_read_153 h K hX8
            · intro c114
              have h := h.2 c114
              refine cm_X4_roadLine (kx_X4_roadLine h) h (fun x115 x116 p119 h g117 g118 => ?_)
              have h := h g117 g118
              have K := k8_tr K p119.2
              have o14 := gr_ob p119.2.1 o14
              have o105 := gr_ob p119.2.1 o105
              refine ⟨?_, ?_⟩
              · intro c120
                have h := h.1 c120
                exact kx_X4_read_153 h K hX8
              · intro c121
                have h := h.2 c121
                exact kx_X4_read_154 h K hX8
        · intro c122
          have h := h.2 c122
          obtain ⟨b123, e124, h⟩ := h
          refine ⟨b123, e124, ?_⟩
          obtain ⟨c125, h⟩ := h
          refine ⟨c125, ?_⟩
          have n126 := k8_nk K c125 (by decide)
          have o127 := c125
          intro x129 e128
          have h := h x129 e128
          refine cm_X4_hasRoom (kx_X4_hasRoom h) h (fun x130 x131 p134 h g132 g133 => ?_)
          have h := h g132 g133
          have K := k8_tr K p134.2
          have o14 := gr_ob p134.2.1 o14
          have o127 := gr_ob p134.2.1 o127
          refine ⟨?_, ?_⟩
          · intro c135
            have h := h.1 c135
            exact kx_X4_read_111 h K hX8
          · intro c136
            have h := h.2 c136
            refine cm_X4_placeLine (kx_X4_placeLine h) h (fun x137 x138 p141 h g139 g140 => ?_)
            have h := h g139 g140
            have K := k8_tr K p141.2
            have o14 := gr_ob p141.2.1 o14
            have o127 := gr_ob p141.2.1 o127
            refine ⟨?_, ?_⟩
            · intro c142
              have h := h.1 c142
              exact kx_X4_read_111 h K hX8
            · intro c143
              have h := h.2 c143
              exact kx_X4_read_112 h K hX8
      · intro c144
        have h := h.2 c144
        obtain ⟨b145, e146, h⟩ := h
        refine ⟨b145, e146, ?_⟩
        obtain ⟨c147, h⟩ := h
        refine ⟨c147, ?_⟩
        have n148 := k8_nk K c147 (by decide)
        have o149 := c147
        intro x151 e150
        have h := h x151 e150
        refine cm_X4_hasRoom (kx_X4_hasRoom h) h (fun x152 x153 p156 h g154 g155 => ?_)
        have h := h g154 g155
        have K := k8_tr K p156.2
        have o14 := gr_ob p156.2.1 o14
        have o149 := gr_ob p156.2.1 o149
        refine ⟨?_, ?_⟩
        · intro c157
          have h := h.1 c157
          exact kx_X4_read_69 h K hX8
        · intro c158
          have h := h.2 c158
          refine cm_X4_rainLine (kx_X4_rainLine h) h (fun x159 x160 p163 h g161 g162 => ?_)
          have h := h g161 g162
          have K := k8_tr K p163.2
          have o14 := gr_ob p163.2.1 o14
          have o149 := gr_ob p163.2.1 o149
          refine ⟨?_, ?_⟩
          · intro c164
            have h := h.1 c164
            exact kx_X4_read_69 h K hX8
          · intro c165
            have h := h.2 c165
            exact kx_X4_read_70 h K hX8
    · intro c166
      have h := h.2 c166
      refine cm_X4_worldLine (kx_X4_worldLine h) h (fun x167 x168 p171 h g169 g170 => ?_)
      have h := h g169 g170
      have K := k8_tr K p171.2
      have o14 := gr_ob p171.2.1 o14
      exact kx_X4_read_248 h K hX8
theorem kx_X4_read_8 {Q : Int32 → HS → Prop} {v0 : Nat} {v3 : Int32} {S0 S : HS} (h : P_X4_read_8 Q v0 v3 S) (K : K8 S0 S) : P_X4_read_8 (fun r T => Q r T ∧ K8 S0 T) v0 v3 S := h (fun v0 v3 S => K8 S0 S → P_X4_read_8 (fun r T => Q r T ∧ K8 S0 T) v0 v3 S) (fun v0 v3 S hB K => fd_X4_read_8 (kxB_X4_read_8 hB K (fun _ _ _ hx K => hx K))) K
set_option maxRecDepth 20000 in
set_option maxHeartbeats 1000000 in
theorem kx_X4_read_0 {Q : Int32 → HS → Prop} {v0 : Nat} {v1 : Nat} {v2 : Int32} {S0 S : HS} (h : P_X4_read_0 Q v0 v1 v2 S) (K : K8 S0 S) : P_X4_read_0 (fun r T => Q r T ∧ K8 S0 T) v0 v1 v2 S := by
  delta P_X4_read_0 at h ⊢
  obtain ⟨c1, h⟩ := h
  refine ⟨c1, ?_⟩
  have n2 := k8_nk K c1 (by decide)
  have o3 := c1
  refine cm_X4_open (kx_X4_open h) h (fun x4 p6 h g5 => ?_)
  have h := h g5
  have K := k8_tr K p6.2
  have o3 := gr_ob p6.2.1 o3
  exact kx_X4_read_8 h K
theorem kx_X4_read {Q : Int32 → HS → Prop} {v0 : Nat} {v1 : Nat} {v2 : Int32} {S : HS} (h : P_X4_read v0 v1 v2 Q S) : P_X4_read v0 v1 v2 (fun r T => Q r T ∧ K8 S T) S := kx_X4_read_0 h (k8_rf S)
set_option maxRecDepth 20000 in
set_option maxHeartbeats 1000000 in
theorem kx_X5_endOf_0 {Q : Int32 → HS → Prop} {v0 : Nat} {v1 : Int32} {S0 S : HS} (h : P_X5_endOf_0 Q v0 v1 S) (K : K8 S0 S) : P_X5_endOf_0 (fun r T => Q r T ∧ K8 S0 T) v0 v1 S := by
  delta P_X5_endOf_0 at h ⊢
  refine ⟨?_, ?_⟩
  · intro c1
    have h := h.1 c1
    obtain ⟨c2, h⟩ := h
    refine ⟨c2, ?_⟩
    have n3 := k8_nk K c2 (by decide)
    intro x5 e4
    have h := h x5 e4
    exact ⟨h, K⟩
  · intro c6
    have h := h.2 c6
    obtain ⟨c7, h⟩ := h
    refine ⟨c7, ?_⟩
    have n8 := k8_nk K c7 (by decide)
    intro x10 e9
    have h := h x10 e9
    exact ⟨h, K⟩
theorem kx_X5_endOf {Q : Int32 → HS → Prop} {v0 : Nat} {v1 : Int32} {S : HS} (h : P_X5_endOf v0 v1 Q S) : P_X5_endOf v0 v1 (fun r T => Q r T ∧ K8 S T) S := kx_X5_endOf_0 h (k8_rf S)
set_option maxRecDepth 20000 in
set_option maxHeartbeats 1000000 in
theorem kx_X5_minutesAt_0 {Q : Int32 → HS → Prop} {v0 : Nat} {v1 : Int32} {S0 S : HS} (h : P_X5_minutesAt_0 Q v0 v1 S) (K : K8 S0 S) : P_X5_minutesAt_0 (fun r T => Q r T ∧ K8 S0 T) v0 v1 S := by
  delta P_X5_minutesAt_0 at h ⊢
  refine ⟨?_, ?_⟩
  · intro c1
    have h := h.1 c1
    exact ⟨h, K⟩
  · intro c2
    have h := h.2 c2
    obtain ⟨c3, h⟩ := h
    refine ⟨c3, ?_⟩
    have n4 := k8_nk K c3 (by decide)
    intro x6 e5
    have h := h x6 e5
    obtain ⟨c7, h⟩ := h
    refine ⟨c7, ?_⟩
    intro x9 e8
    have h := h x9 e8
    exact ⟨h, K⟩
theorem kx_X5_minutesAt {Q : Int32 → HS → Prop} {v0 : Nat} {v1 : Int32} {S : HS} (h : P_X5_minutesAt v0 v1 Q S) : P_X5_minutesAt v0 v1 (fun r T => Q r T ∧ K8 S T) S := kx_X5_minutesAt_0 h (k8_rf S)
set_option maxRecDepth 20000 in
set_option maxHeartbeats 1000000 in
theorem kx_X5_startOf_0 {Q : Int32 → HS → Prop} {v0 : Nat} {v1 : Int32} {S0 S : HS} (h : P_X5_startOf_0 Q v0 v1 S) (K : K8 S0 S) : P_X5_startOf_0 (fun r T => Q r T ∧ K8 S0 T) v0 v1 S := by
  delta P_X5_startOf_0 at h ⊢
  refine ⟨?_, ?_⟩
  · intro c1
    have h := h.1 c1
    obtain ⟨c2, h⟩ := h
    refine ⟨c2, ?_⟩
    have n3 := k8_nk K c2 (by decide)
    intro x5 e4
    have h := h x5 e4
    exact ⟨h, K⟩
  · intro c6
    have h := h.2 c6
    obtain ⟨c7, h⟩ := h
    refine ⟨c7, ?_⟩
    have n8 := k8_nk K c7 (by decide)
    intro x10 e9
    have h := h x10 e9
    exact ⟨h, K⟩
theorem kx_X5_startOf {Q : Int32 → HS → Prop} {v0 : Nat} {v1 : Int32} {S : HS} (h : P_X5_startOf v0 v1 Q S) : P_X5_startOf v0 v1 (fun r T => Q r T ∧ K8 S T) S := kx_X5_startOf_0 h (k8_rf S)
set_option maxRecDepth 20000 in
set_option maxHeartbeats 1000000 in
theorem kx_X5_tell_0 {Q : Int32 → HS → Prop} {v0 : Nat} {v1 : Int32} {S0 S : HS} (h : P_X5_tell_0 Q v0 v1 S) (K : K8 S0 S) : P_X5_tell_0 (fun r T => Q r T ∧ K8 S0 T) v0 v1 S := by
  delta P_X5_tell_0 at h ⊢
  refine ⟨?_, ?_, ?_, ?_, ?_⟩
  · intro c1
    have h := h.1 c1
    obtain ⟨c2, h⟩ := h
    refine ⟨c2, ?_⟩
    have n3 := k8_nk K c2 (by decide)
    intro x5 e4
    have h := h x5 e4
    exact ⟨h, K⟩
  · intro c6
    have h := h.2.1 c6
    obtain ⟨c7, h⟩ := h
    refine ⟨c7, ?_⟩
    have n8 := k8_nk K c7 (by decide)
    intro x10 e9
    have h := h x10 e9
    exact ⟨h, K⟩
  · intro c11
    have h := h.2.2.1 c11
    obtain ⟨c12, h⟩ := h
    refine ⟨c12, ?_⟩
    have n13 := k8_nk K c12 (by decide)
    intro x15 e14
    have h := h x15 e14
    exact ⟨h, K⟩
  · intro c16
    have h := h.2.2.2.1 c16
    obtain ⟨c17, h⟩ := h
    refine ⟨c17, ?_⟩
    have n18 := k8_nk K c17 (by decide)
    intro x20 e19
    have h := h x20 e19
    exact ⟨h, K⟩
  · intro c21
    have h := h.2.2.2.2 c21
    obtain ⟨c22, h⟩ := h
    refine ⟨c22, ?_⟩
    have n23 := k8_nk K c22 (by decide)
    intro x25 e24
    have h := h x25 e24
    exact ⟨h, K⟩
theorem kx_X5_tell {Q : Int32 → HS → Prop} {v0 : Nat} {v1 : Int32} {S : HS} (h : P_X5_tell v0 v1 Q S) : P_X5_tell v0 v1 (fun r T => Q r T ∧ K8 S T) S := kx_X5_tell_0 h (k8_rf S)
set_option maxRecDepth 20000 in
set_option maxHeartbeats 1000000 in
theorem kx_X6_tell_0 {Q : Int32 → HS → Prop} {v0 : Nat} {v1 : Int32} {S0 S : HS} (h : P_X6_tell_0 Q v0 v1 S) (K : K8 S0 S) : P_X6_tell_0 (fun r T => Q r T ∧ K8 S0 T) v0 v1 S := by
  delta P_X6_tell_0 at h ⊢
  refine ⟨?_, ?_, ?_, ?_, ?_, ?_, ?_⟩
  · intro c1
    have h := h.1 c1
    obtain ⟨c2, h⟩ := h
    refine ⟨c2, ?_⟩
    have n3 := k8_nk K c2 (by decide)
    intro x5 e4
    have h := h x5 e4
    exact ⟨h, K⟩
  · intro c6
    have h := h.2.1 c6
    obtain ⟨c7, h⟩ := h
    refine ⟨c7, ?_⟩
    have n8 := k8_nk K c7 (by decide)
    intro x10 e9
    have h := h x10 e9
    exact ⟨h, K⟩
  · intro c11
    have h := h.2.2.1 c11
    obtain ⟨c12, h⟩ := h
    refine ⟨c12, ?_⟩
    have n13 := k8_nk K c12 (by decide)
    intro x15 e14
    have h := h x15 e14
    exact ⟨h, K⟩
  · intro c16
    have h := h.2.2.2.1 c16
    obtain ⟨c17, h⟩ := h
    refine ⟨c17, ?_⟩
    have n18 := k8_nk K c17 (by decide)
    intro x20 e19
    have h := h x20 e19
    exact ⟨h, K⟩
  · intro c21
    have h := h.2.2.2.2.1 c21
    obtain ⟨c22, h⟩ := h
    refine ⟨c22, ?_⟩
    have n23 := k8_nk K c22 (by decide)
    intro x25 e24
    have h := h x25 e24
    exact ⟨h, K⟩
  · intro c26
    have h := h.2.2.2.2.2.1 c26
    obtain ⟨c27, h⟩ := h
    refine ⟨c27, ?_⟩
    have n28 := k8_nk K c27 (by decide)
    intro x30 e29
    have h := h x30 e29
    exact ⟨h, K⟩
  · intro c31
    have h := h.2.2.2.2.2.2 c31
    obtain ⟨c32, h⟩ := h
    refine ⟨c32, ?_⟩
    have n33 := k8_nk K c32 (by decide)
    intro x35 e34
    have h := h x35 e34
    exact ⟨h, K⟩
theorem kx_X6_tell {Q : Int32 → HS → Prop} {v0 : Nat} {v1 : Int32} {S : HS} (h : P_X6_tell v0 v1 Q S) : P_X6_tell v0 v1 (fun r T => Q r T ∧ K8 S T) S := kx_X6_tell_0 h (k8_rf S)
set_option maxRecDepth 20000 in
set_option maxHeartbeats 1000000 in
theorem kx_X7_addMove_0 {Q : HS → Prop} {v0 : Nat} {v1 : Int32} {v2 : Int32} {v3 : Int32} {v4 : Int64} {v6 : Int32} {S0 S : HS} (h : P_X7_addMove_0 Q v0 v1 v2 v3 v4 v6 S) (K : K8 S0 S) : P_X7_addMove_0 (fun T => Q T ∧ K8 S0 T) v0 v1 v2 v3 v4 v6 S := by
  delta P_X7_addMove_0 at h ⊢
  obtain ⟨c1, h⟩ := h
  refine ⟨c1, ?_⟩
  have n2 := k8_nk K c1 (by decide)
  have o3 := c1
  intro x5 e4
  have h := h x5 e4
  refine ⟨?_, ?_⟩
  · intro c6
    have h := h.1 c6
    exact ⟨h, K⟩
  · intro c7
    have h := h.2 c7
    intro x9 e8
    have h := h x9 e8
    refine ⟨?_, ?_⟩
    · intro c10
      have h := h.1 c10
      exact ⟨h, K⟩
    · intro c11
      have h := h.2 c11
      intro x13 e12
      have h := h x13 e12
      refine ⟨?_, ?_⟩
      · intro c14
        have h := h.1 c14
        obtain ⟨b15, e16, h⟩ := h
        refine ⟨b15, e16, ?_⟩
        have n17 := k8_nr K e16 o3 (by decide)
        intro x19 e18
        have h := h x19 e18
        obtain ⟨c20, h⟩ := h
        refine ⟨c20, ?_⟩
        intro x22 e21
        have h := h x22 e21
        obtain ⟨c23, h⟩ := h
        refine ⟨c23, ?_⟩
        intro x25 e24
        have h := h x25 e24
        have K := k8_I K e24 n17
        have o3 := ob_wI o3 e24
        obtain ⟨b26, e27, h⟩ := h
        refine ⟨b26, e27, ?_⟩
        have n28 := k8_nr K e27 o3 (by decide)
        intro x30 e29
        have h := h x30 e29
        obtain ⟨c31, h⟩ := h
        refine ⟨c31, ?_⟩
        intro x33 e32
        have h := h x33 e32
        obtain ⟨c34, h⟩ := h
        refine ⟨c34, ?_⟩
        intro x36 e35
        have h := h x36 e35
        have K := k8_I K e35 n28
        have o3 := ob_wI o3 e35
        obtain ⟨b37, e38, h⟩ := h
        refine ⟨b37, e38, ?_⟩
        have n39 := k8_nr K e38 o3 (by decide)
        intro x41 e40
        have h := h x41 e40
        obtain ⟨c42, h⟩ := h
        refine ⟨c42, ?_⟩
        obtain ⟨c43, h⟩ := h
        refine ⟨c43, ?_⟩
        intro x45 e44
        have h := h x45 e44
        have K := k8_I K e44 n39
        have o3 := ob_wI o3 e44
        obtain ⟨b46, e47, h⟩ := h
        refine ⟨b46, e47, ?_⟩
        intro x49 e48
        have h := h x49 e48
        obtain ⟨c50, h⟩ := h
        refine ⟨c50, ?_⟩
        have n51 := k8_nk K c50 (by decide)
        intro x53 e52
        have h := h x53 e52
        obtain ⟨c54, h⟩ := h
        refine ⟨c54, ?_⟩
        intro x56 e55
        have h := h x56 e55
        have K := k8_J K e55
        have o3 := ob_wJ o3 e55
        obtain ⟨b57, e58, h⟩ := h
        refine ⟨b57, e58, ?_⟩
        have n59 := k8_nr K e58 o3 (by decide)
        intro x61 e60
        have h := h x61 e60
        obtain ⟨c62, h⟩ := h
        refine ⟨c62, ?_⟩
        obtain ⟨c63, h⟩ := h
        refine ⟨c63, ?_⟩
        intro x65 e64
        have h := h x65 e64
        have K := k8_I K e64 n59
        have o3 := ob_wI o3 e64
        intro x67 e66
        have h := h x67 e66
        intro x69 e68
        have h := h x69 e68
        intro x71 e70
        have h := h x71 e70
        have K := k8_I K e70 n2
        have o3 := ob_wI o3 e70
        exact ⟨h, K⟩
      · intro c72
        have h := h.2 c72
        exact ⟨h, K⟩
theorem kx_X7_addMove {Q : HS → Prop} {v0 : Nat} {v1 : Int32} {v2 : Int32} {v3 : Int32} {v4 : Int64} {v6 : Int32} {S : HS} (h : P_X7_addMove v0 v1 v2 v3 v4 v6 Q S) : P_X7_addMove v0 v1 v2 v3 v4 v6 (fun T => Q T ∧ K8 S T) S := kx_X7_addMove_0 h (k8_rf S)
set_option maxRecDepth 20000 in
set_option maxHeartbeats 1000000 in
theorem kx_X7_addLeg_82 {Q : HS → Prop} {v0 : Nat} {v1 : Nat} {v2 : Int32} {v4 : Int64} {v6 : Int32} {v7 : Int32} {S0 S : HS} (h : P_X7_addLeg_82 Q v0 v1 v2 v4 v6 v7 S) (K : K8 S0 S) : P_X7_addLeg_82 (fun T => Q T ∧ K8 S0 T) v0 v1 v2 v4 v6 v7 S := by
  delta P_X7_addLeg_82 at h ⊢
  obtain ⟨c1, h⟩ := h
  refine ⟨c1, ?_⟩
  have n2 := k8_nk K c1 (by decide)
  refine cm_X5_startOf (kx_X5_startOf h) h (fun x3 x4 p6 h g5 => ?_)
  have h := h g5
  have K := k8_tr K p6.2
  refine cm_X5_endOf (kx_X5_endOf h) h (fun x7 x8 p10 h g9 => ?_)
  have h := h g9
  have K := k8_tr K p10.2
  obtain ⟨c11, h⟩ := h
  refine ⟨c11, ?_⟩
  have n12 := k8_nk K c11 (by decide)
  have o13 := c11
  refine cm_X7_addMove (kx_X7_addMove h) h (fun x14 p16 h g15 => ?_)
  have h := h g15
  have K := k8_tr K p16.2
  have o13 := gr_ob p16.2.1 o13
  exact ⟨h, K⟩
set_option maxRecDepth 20000 in
set_option maxHeartbeats 1000000 in
theorem kx_X7_addLeg_0 {Q : HS → Prop} {v0 : Nat} {v1 : Nat} {v2 : Int32} {v3 : Int32} {v4 : Int64} {v6 : Int32} {S0 S : HS} (h : P_X7_addLeg_0 Q v0 v1 v2 v3 v4 v6 S) (K : K8 S0 S) : P_X7_addLeg_0 (fun T => Q T ∧ K8 S0 T) v0 v1 v2 v3 v4 v6 S := by
  delta P_X7_addLeg_0 at h ⊢
  obtain ⟨c1, h⟩ := h
  refine ⟨c1, ?_⟩
  have n2 := k8_nk K c1 (by decide)
  refine cm_X5_minutesAt (kx_X5_minutesAt h) h (fun x3 x4 p6 h g5 => ?_)
  have h := h g5
  have K := k8_tr K p6.2
  obtain ⟨c7, h⟩ := h
  refine ⟨c7, ?_⟩
  have n8 := k8_nk K c7 (by decide)
  have o9 := c7
  intro x11 e10
  have h := h x11 e10
  intro x13 e12
  have h := h x13 e12
  refine ⟨?_, ?_⟩
  · intro c14
    have h := h.1 c14
    exact kx_X7_addLeg_82 h K
  · intro c15
    have h := h.2 c15
    refine ⟨?_, ?_⟩
    · intro c16
      have h := h.1 c16
      exact kx_X7_addLeg_82 h K
    · intro c17
      have h := h.2 c17
      obtain ⟨b18, e19, h⟩ := h
      refine ⟨b18, e19, ?_⟩
      have n20 := k8_nr K e19 o9 (by decide)
      obtain ⟨c21, h⟩ := h
      refine ⟨c21, ?_⟩
      obtain ⟨c22, h⟩ := h
      refine ⟨c22, ?_⟩
      intro x24 e23
      have h := h x24 e23
      intro x26 e25
      have h := h x26 e25
      intro x28 e27
      have h := h x28 e27
      refine ⟨?_, ?_⟩
      · intro c29
        have h := h.1 c29
        exact kx_X7_addLeg_82 h K
      · intro c30
        have h := h.2 c30
        obtain ⟨b31, e32, h⟩ := h
        refine ⟨b31, e32, ?_⟩
        have n33 := k8_nr K e32 o9 (by decide)
        obtain ⟨c34, h⟩ := h
        refine ⟨c34, ?_⟩
        obtain ⟨c35, h⟩ := h
        refine ⟨c35, ?_⟩
        intro x37 e36
        have h := h x37 e36
        refine ⟨?_, ?_⟩
        · intro c38
          have h := h.1 c38
          exact kx_X7_addLeg_82 h K
        · intro c39
          have h := h.2 c39
          obtain ⟨b40, e41, h⟩ := h
          refine ⟨b40, e41, ?_⟩
          obtain ⟨c42, h⟩ := h
          refine ⟨c42, ?_⟩
          have n43 := k8_nk K c42 (by decide)
          obtain ⟨c44, h⟩ := h
          refine ⟨c44, ?_⟩
          intro x46 e45
          have h := h x46 e45
          refine ⟨?_, ?_⟩
          · intro c47
            have h := h.1 c47
            intro x49 e48
            have h := h x49 e48
            have K := k8_I K e48 n8
            have o9 := ob_wI o9 e48
            exact kx_X7_addLeg_82 h K
          · intro c50
            have h := h.2 c50
            exact ⟨h, K⟩
theorem kx_X7_addLeg {Q : HS → Prop} {v0 : Nat} {v1 : Nat} {v2 : Int32} {v3 : Int32} {v4 : Int64} {v6 : Int32} {S : HS} (h : P_X7_addLeg v0 v1 v2 v3 v4 v6 Q S) : P_X7_addLeg v0 v1 v2 v3 v4 v6 (fun T => Q T ∧ K8 S T) S := kx_X7_addLeg_0 h (k8_rf S)
set_option maxRecDepth 20000 in
set_option maxHeartbeats 1000000 in
theorem kx_X7_keyOf_0 {Q : Int64 → HS → Prop} {v0 : Nat} {v1 : Int32} {v2 : Int32} {S0 S : HS} (h : P_X7_keyOf_0 Q v0 v1 v2 S) (K : K8 S0 S) : P_X7_keyOf_0 (fun r T => Q r T ∧ K8 S0 T) v0 v1 v2 S := by
  delta P_X7_keyOf_0 at h ⊢
  intro x2 e1
  have h := h x2 e1
  refine ⟨?_, ?_⟩
  · intro c3
    have h := h.1 c3
    exact ⟨h, K⟩
  · intro c4
    have h := h.2 c4
    obtain ⟨c5, h⟩ := h
    refine ⟨c5, ?_⟩
    have n6 := k8_nk K c5 (by decide)
    have o7 := c5
    obtain ⟨b8, e9, h⟩ := h
    refine ⟨b8, e9, ?_⟩
    obtain ⟨c10, h⟩ := h
    refine ⟨c10, ?_⟩
    have n11 := k8_nk K c10 (by decide)
    refine ⟨?_, ?_⟩
    · intro c12
      have h := h.1 c12
      exact ⟨h, K⟩
    · intro c13
      have h := h.2 c13
      obtain ⟨b14, e15, h⟩ := h
      refine ⟨b14, e15, ?_⟩
      obtain ⟨c16, h⟩ := h
      refine ⟨c16, ?_⟩
      have n17 := k8_nk K c16 (by decide)
      obtain ⟨c18, h⟩ := h
      refine ⟨c18, ?_⟩
      intro x20 e19
      have h := h x20 e19
      exact ⟨h, K⟩
theorem kx_X7_keyOf {Q : Int64 → HS → Prop} {v0 : Nat} {v1 : Int32} {v2 : Int32} {S : HS} (h : P_X7_keyOf v0 v1 v2 Q S) : P_X7_keyOf v0 v1 v2 (fun r T => Q r T ∧ K8 S T) S := kx_X7_keyOf_0 h (k8_rf S)
set_option maxRecDepth 20000 in
set_option maxHeartbeats 1000000 in
theorem kx_X7_endFrom_0 {Q : Int32 → HS → Prop} {v0 : Nat} {v1 : Int32} {v2 : Int32} {S0 S : HS} (h : P_X7_endFrom_0 Q v0 v1 v2 S) (K : K8 S0 S) : P_X7_endFrom_0 (fun r T => Q r T ∧ K8 S0 T) v0 v1 v2 S := by
  delta P_X7_endFrom_0 at h ⊢
  obtain ⟨c1, h⟩ := h
  refine ⟨c1, ?_⟩
  have n2 := k8_nk K c1 (by decide)
  have o3 := c1
  refine cm_X7_keyOf (kx_X7_keyOf h) h (fun x4 x5 p7 h g6 => ?_)
  have h := h g6
  have K := k8_tr K p7.2
  have o3 := gr_ob p7.2.1 o3
  intro x9 e8
  have h := h x9 e8
  exact ⟨h, K⟩
theorem kx_X7_endFrom {Q : Int32 → HS → Prop} {v0 : Nat} {v1 : Int32} {v2 : Int32} {S : HS} (h : P_X7_endFrom v0 v1 v2 Q S) : P_X7_endFrom v0 v1 v2 (fun r T => Q r T ∧ K8 S T) S := kx_X7_endFrom_0 h (k8_rf S)
set_option maxRecDepth 20000 in
set_option maxHeartbeats 1000000 in
theorem kx_X7_forget_0 {Q : HS → Prop} {v0 : Nat} {S0 S : HS} (h : P_X7_forget_0 Q v0 S) (K : K8 S0 S) : P_X7_forget_0 (fun T => Q T ∧ K8 S0 T) v0 S := by
  delta P_X7_forget_0 at h ⊢
  obtain ⟨c1, h⟩ := h
  refine ⟨c1, ?_⟩
  have n2 := k8_nk K c1 (by decide)
  have o3 := c1
  intro x5 e4
  have h := h x5 e4
  have K := k8_I K e4 n2
  have o3 := ob_wI o3 e4
  exact ⟨h, K⟩
theorem kx_X7_forget {Q : HS → Prop} {v0 : Nat} {S : HS} (h : P_X7_forget v0 Q S) : P_X7_forget v0 (fun T => Q T ∧ K8 S T) S := kx_X7_forget_0 h (k8_rf S)
set_option maxRecDepth 20000 in
set_option maxHeartbeats 1000000 in
theorem kx_X7_isOpen_0 {Q : Int32 → HS → Prop} {v0 : Nat} {v1 : Int32} {v2 : Int32} {S0 S : HS} (h : P_X7_isOpen_0 Q v0 v1 v2 S) (K : K8 S0 S) : P_X7_isOpen_0 (fun r T => Q r T ∧ K8 S0 T) v0 v1 v2 S := by
  delta P_X7_isOpen_0 at h ⊢
  obtain ⟨c1, h⟩ := h
  refine ⟨c1, ?_⟩
  have n2 := k8_nk K c1 (by decide)
  have o3 := c1
  refine cm_X7_keyOf (kx_X7_keyOf h) h (fun x4 x5 p7 h g6 => ?_)
  have h := h g6
  have K := k8_tr K p7.2
  have o3 := gr_ob p7.2.1 o3
  refine ⟨?_, ?_⟩
  · intro c8
    have h := h.1 c8
    exact ⟨h, K⟩
  · intro c9
    have h := h.2 c9
    exact ⟨h, K⟩
theorem kx_X7_isOpen {Q : Int32 → HS → Prop} {v0 : Nat} {v1 : Int32} {v2 : Int32} {S : HS} (h : P_X7_isOpen v0 v1 v2 Q S) : P_X7_isOpen v0 v1 v2 (fun r T => Q r T ∧ K8 S T) S := kx_X7_isOpen_0 h (k8_rf S)
set_option maxRecDepth 20000 in
set_option maxHeartbeats 1000000 in
theorem kx_X7_makeRows_0 {Q : HS → Prop} {v0 : Nat} {S0 S : HS} (h : P_X7_makeRows_0 Q v0 S) (K : K8 S0 S) : P_X7_makeRows_0 (fun T => Q T ∧ K8 S0 T) v0 S := by
  delta P_X7_makeRows_0 at h ⊢
  intro x2 e1
  have h := h x2 e1
  intro x4 e3
  have h := h x4 e3
  have n5 := k8_nf K e1
  have K := k8_W K e1 e3
  have o6 := ob_of_new e3
  obtain ⟨c7, h⟩ := h
  refine ⟨c7, ?_⟩
  have n8 := k8_nk K c7 (by decide)
  have o9 := c7
  intro x11 e10
  have h := h x11 e10
  have K := k8_S K e10 o9 n5 (by decide)
  have o6 := ob_wR o6 e10
  have o9 := ob_wR o9 e10
  intro x13 e12
  have h := h x13 e12
  intro x15 e14
  have h := h x15 e14
  have n16 := k8_nf K e12
  have K := k8_W K e12 e14
  have o6 := gr_ob (gr_of_new e14 e12) o6
  have o9 := gr_ob (gr_of_new e14 e12) o9
  have o17 := ob_of_new e14
  intro x19 e18
  have h := h x19 e18
  have K := k8_R K e18 o9 (by decide) (by decide)
  have o6 := ob_wR o6 e18
  have o9 := ob_wR o9 e18
  have o17 := ob_wR o17 e18
  intro x21 e20
  have h := h x21 e20
  intro x23 e22
  have h := h x23 e22
  have n24 := k8_nf K e20
  have K := k8_W K e20 e22
  have o6 := gr_ob (gr_of_new e22 e20) o6
  have o9 := gr_ob (gr_of_new e22 e20) o9
  have o17 := gr_ob (gr_of_new e22 e20) o17
  have o25 := ob_of_new e22
  intro x27 e26
  have h := h x27 e26
  have K := k8_S K e26 o9 n24 (by decide)
  have o6 := ob_wR o6 e26
  have o9 := ob_wR o9 e26
  have o17 := ob_wR o17 e26
  have o25 := ob_wR o25 e26
  intro x29 e28
  have h := h x29 e28
  intro x31 e30
  have h := h x31 e30
  have n32 := k8_nf K e28
  have K := k8_W K e28 e30
  have o6 := gr_ob (gr_of_new e30 e28) o6
  have o9 := gr_ob (gr_of_new e30 e28) o9
  have o17 := gr_ob (gr_of_new e30 e28) o17
  have o25 := gr_ob (gr_of_new e30 e28) o25
  have o33 := ob_of_new e30
  intro x35 e34
  have h := h x35 e34
  have K := k8_S K e34 o9 n32 (by decide)
  have o6 := ob_wR o6 e34
  have o9 := ob_wR o9 e34
  have o17 := ob_wR o17 e34
  have o25 := ob_wR o25 e34
  have o33 := ob_wR o33 e34
  intro x37 e36
  have h := h x37 e36
  intro x39 e38
  have h := h x39 e38
  have n40 := k8_nf K e36
  have K := k8_W K e36 e38
  have o6 := gr_ob (gr_of_new e38 e36) o6
  have o9 := gr_ob (gr_of_new e38 e36) o9
  have o17 := gr_ob (gr_of_new e38 e36) o17
  have o25 := gr_ob (gr_of_new e38 e36) o25
  have o33 := gr_ob (gr_of_new e38 e36) o33
  have o41 := ob_of_new e38
  intro x43 e42
  have h := h x43 e42
  have K := k8_S K e42 o9 n40 (by decide)
  have o6 := ob_wR o6 e42
  have o9 := ob_wR o9 e42
  have o17 := ob_wR o17 e42
  have o25 := ob_wR o25 e42
  have o33 := ob_wR o33 e42
  have o41 := ob_wR o41 e42
  intro x45 e44
  have h := h x45 e44
  intro x47 e46
  have h := h x47 e46
  have n48 := k8_nf K e44
  have K := k8_W K e44 e46
  have o6 := gr_ob (gr_of_new e46 e44) o6
  have o9 := gr_ob (gr_of_new e46 e44) o9
  have o17 := gr_ob (gr_of_new e46 e44) o17
  have o25 := gr_ob (gr_of_new e46 e44) o25
  have o33 := gr_ob (gr_of_new e46 e44) o33
  have o41 := gr_ob (gr_of_new e46 e44) o41
  have o49 := ob_of_new e46
  intro x51 e50
  have h := h x51 e50
  have K := k8_S K e50 o9 n48 (by decide)
  have o6 := ob_wR o6 e50
  have o9 := ob_wR o9 e50
  have o17 := ob_wR o17 e50
  have o25 := ob_wR o25 e50
  have o33 := ob_wR o33 e50
  have o41 := ob_wR o41 e50
  have o49 := ob_wR o49 e50
  intro x53 e52
  have h := h x53 e52
  intro x55 e54
  have h := h x55 e54
  have n56 := k8_nf K e52
  have K := k8_W K e52 e54
  have o6 := gr_ob (gr_of_new e54 e52) o6
  have o9 := gr_ob (gr_of_new e54 e52) o9
  have o17 := gr_ob (gr_of_new e54 e52) o17
  have o25 := gr_ob (gr_of_new e54 e52) o25
  have o33 := gr_ob (gr_of_new e54 e52) o33
  have o41 := gr_ob (gr_of_new e54 e52) o41
  have o49 := gr_ob (gr_of_new e54 e52) o49
  have o57 := ob_of_new e54
  intro x59 e58
  have h := h x59 e58
  have K := k8_R K e58 o9 (by decide) (by decide)
  have o6 := ob_wR o6 e58
  have o9 := ob_wR o9 e58
  have o17 := ob_wR o17 e58
  have o25 := ob_wR o25 e58
  have o33 := ob_wR o33 e58
  have o41 := ob_wR o41 e58
  have o49 := ob_wR o49 e58
  have o57 := ob_wR o57 e58
  intro x61 e60
  have h := h x61 e60
  intro x63 e62
  have h := h x63 e62
  have n64 := k8_nf K e60
  have K := k8_W K e60 e62
  have o6 := gr_ob (gr_of_new e62 e60) o6
  have o9 := gr_ob (gr_of_new e62 e60) o9
  have o17 := gr_ob (gr_of_new e62 e60) o17
  have o25 := gr_ob (gr_of_new e62 e60) o25
  have o33 := gr_ob (gr_of_new e62 e60) o33
  have o41 := gr_ob (gr_of_new e62 e60) o41
  have o49 := gr_ob (gr_of_new e62 e60) o49
  have o57 := gr_ob (gr_of_new e62 e60) o57
  have o65 := ob_of_new e62
  intro x67 e66
  have h := h x67 e66
  have K := k8_S K e66 o9 n64 (by decide)
  have o6 := ob_wR o6 e66
  have o9 := ob_wR o9 e66
  have o17 := ob_wR o17 e66
  have o25 := ob_wR o25 e66
  have o33 := ob_wR o33 e66
  have o41 := ob_wR o41 e66
  have o49 := ob_wR o49 e66
  have o57 := ob_wR o57 e66
  have o65 := ob_wR o65 e66
  exact ⟨h, K⟩
theorem kx_X7_makeRows {Q : HS → Prop} {v0 : Nat} {S : HS} (h : P_X7_makeRows v0 Q S) : P_X7_makeRows v0 (fun T => Q T ∧ K8 S T) S := kx_X7_makeRows_0 h (k8_rf S)
set_option maxRecDepth 20000 in
set_option maxHeartbeats 1000000 in
theorem kx_X7_meanFrom_0 {Q : Int64 → HS → Prop} {v0 : Nat} {v1 : Int32} {v2 : Int32} {S0 S : HS} (h : P_X7_meanFrom_0 Q v0 v1 v2 S) (K : K8 S0 S) : P_X7_meanFrom_0 (fun r T => Q r T ∧ K8 S0 T) v0 v1 v2 S := by
  delta P_X7_meanFrom_0 at h ⊢
  obtain ⟨c1, h⟩ := h
  refine ⟨c1, ?_⟩
  have n2 := k8_nk K c1 (by decide)
  have o3 := c1
  refine cm_X7_keyOf (kx_X7_keyOf h) h (fun x4 x5 p7 h g6 => ?_)
  have h := h g6
  have K := k8_tr K p7.2
  have o3 := gr_ob p7.2.1 o3
  intro x9 e8
  have h := h x9 e8
  exact ⟨h, K⟩
theorem kx_X7_meanFrom {Q : Int64 → HS → Prop} {v0 : Nat} {v1 : Int32} {v2 : Int32} {S : HS} (h : P_X7_meanFrom v0 v1 v2 Q S) : P_X7_meanFrom v0 v1 v2 (fun r T => Q r T ∧ K8 S T) S := kx_X7_meanFrom_0 h (k8_rf S)
set_option maxRecDepth 20000 in
set_option maxHeartbeats 1000000 in
theorem kx_X8_hasPlace_0 {Q : Int32 → HS → Prop} {v0 : Nat} {v1 : Int32} {S0 S : HS} (h : P_X8_hasPlace_0 Q v0 v1 S) (K : K8 S0 S) : P_X8_hasPlace_0 (fun r T => Q r T ∧ K8 S0 T) v0 v1 S := by
  delta P_X8_hasPlace_0 at h ⊢
  refine ⟨?_, ?_⟩
  · intro c1
    have h := h.1 c1
    exact ⟨h, K⟩
  · intro c2
    have h := h.2 c2
    obtain ⟨c3, h⟩ := h
    refine ⟨c3, ?_⟩
    have n4 := k8_nk K c3 (by decide)
    have o5 := c3
    intro x7 e6
    have h := h x7 e6
    refine ⟨?_, ?_⟩
    · intro c8
      have h := h.1 c8
      exact ⟨h, K⟩
    · intro c9
      have h := h.2 c9
      obtain ⟨b10, e11, h⟩ := h
      refine ⟨b10, e11, ?_⟩
      have n12 := k8_nr K e11 o5 (by decide)
      obtain ⟨c13, h⟩ := h
      refine ⟨c13, ?_⟩
      refine ⟨?_, ?_⟩
      · intro c14
        have h := h.1 c14
        exact ⟨h, K⟩
      · intro c15
        have h := h.2 c15
        exact ⟨h, K⟩
theorem kx_X8_hasPlace {Q : Int32 → HS → Prop} {v0 : Nat} {v1 : Int32} {S : HS} (h : P_X8_hasPlace v0 v1 Q S) : P_X8_hasPlace v0 v1 (fun r T => Q r T ∧ K8 S T) S := kx_X8_hasPlace_0 h (k8_rf S)
set_option maxRecDepth 20000 in
set_option maxHeartbeats 1000000 in
theorem kx_X8_canWait_0 {Q : Int32 → HS → Prop} {v0 : Nat} {v1 : Int32} {S0 S : HS} (h : P_X8_canWait_0 Q v0 v1 S) (K : K8 S0 S) : P_X8_canWait_0 (fun r T => Q r T ∧ K8 S0 T) v0 v1 S := by
  delta P_X8_canWait_0 at h ⊢
  obtain ⟨c1, h⟩ := h
  refine ⟨c1, ?_⟩
  have n2 := k8_nk K c1 (by decide)
  have o3 := c1
  refine cm_X8_hasPlace (kx_X8_hasPlace h) h (fun x4 x5 p8 h g6 g7 => ?_)
  have h := h g6 g7
  have K := k8_tr K p8.2
  have o3 := gr_ob p8.2.1 o3
  refine ⟨?_, ?_⟩
  · intro c9
    have h := h.1 c9
    exact ⟨h, K⟩
  · intro c10
    have h := h.2 c10
    obtain ⟨b11, e12, h⟩ := h
    refine ⟨b11, e12, ?_⟩
    have n13 := k8_nr K e12 o3 (by decide)
    obtain ⟨c14, h⟩ := h
    refine ⟨c14, ?_⟩
    obtain ⟨c15, h⟩ := h
    refine ⟨c15, ?_⟩
    intro x17 e16
    have h := h x17 e16
    refine ⟨?_, ?_⟩
    · intro c18
      have h := h.1 c18
      exact ⟨h, K⟩
    · intro c19
      have h := h.2 c19
      exact ⟨h, K⟩
theorem kx_X8_canWait {Q : Int32 → HS → Prop} {v0 : Nat} {v1 : Int32} {S : HS} (h : P_X8_canWait v0 v1 Q S) : P_X8_canWait v0 v1 (fun r T => Q r T ∧ K8 S T) S := kx_X8_canWait_0 h (k8_rf S)
set_option maxRecDepth 20000 in
set_option maxHeartbeats 1000000 in
theorem kx_X8_dripOn_0 {Q : Int32 → HS → Prop} {v0 : Nat} {v1 : Nat} {v2 : Int32} {S0 S : HS} (h : P_X8_dripOn_0 Q v0 v1 v2 S) (K : K8 S0 S) : P_X8_dripOn_0 (fun r T => Q r T ∧ K8 S0 T) v0 v1 v2 S := by
  delta P_X8_dripOn_0 at h ⊢
  obtain ⟨c1, h⟩ := h
  refine ⟨c1, ?_⟩
  have n2 := k8_nk K c1 (by decide)
  have o3 := c1
  refine cm_X8_canWait (kx_X8_canWait h) h (fun x4 x5 p8 h g6 g7 => ?_)
  have h := h g6 g7
  have K := k8_tr K p8.2
  have o3 := gr_ob p8.2.1 o3
  refine ⟨?_, ?_⟩
  · intro c9
    have h := h.1 c9
    exact ⟨h, K⟩
  · intro c10
    have h := h.2 c10
    obtain ⟨b11, e12, h⟩ := h
    refine ⟨b11, e12, ?_⟩
    have n13 := k8_nr K e12 o3 (by decide)
    obtain ⟨c14, h⟩ := h
    refine ⟨c14, ?_⟩
    obtain ⟨c15, h⟩ := h
    refine ⟨c15, ?_⟩
    intro x17 e16
    have h := h x17 e16
    obtain ⟨c18, h⟩ := h
    refine ⟨c18, ?_⟩
    have n19 := k8_nk K c18 (by decide)
    intro x21 e20
    have h := h x21 e20
    refine cm_X6_shield (kx_X6_shield h) h (fun x22 x23 p25 h g24 => ?_)
    have h := h g24
    have K := k8_tr K p25.2
    have o3 := gr_ob p25.2.1 o3
    intro x27 e26
    have h := h x27 e26
    exact ⟨h, K⟩
theorem kx_X8_dripOn {Q : Int32 → HS → Prop} {v0 : Nat} {v1 : Nat} {v2 : Int32} {S : HS} (h : P_X8_dripOn v0 v1 v2 Q S) : P_X8_dripOn v0 v1 v2 (fun r T => Q r T ∧ K8 S T) S := kx_X8_dripOn_0 h (k8_rf S)
set_option maxRecDepth 20000 in
set_option maxHeartbeats 1000000 in
theorem kx_X8_hasHour_0 {Q : Int32 → HS → Prop} {v0 : Nat} {v1 : Int32} {S0 S : HS} (h : P_X8_hasHour_0 Q v0 v1 S) (K : K8 S0 S) : P_X8_hasHour_0 (fun r T => Q r T ∧ K8 S0 T) v0 v1 S := by
  delta P_X8_hasHour_0 at h ⊢
  refine ⟨?_, ?_⟩
  · intro c1
    have h := h.1 c1
    exact ⟨h, K⟩
  · intro c2
    have h := h.2 c2
    obtain ⟨c3, h⟩ := h
    refine ⟨c3, ?_⟩
    have n4 := k8_nk K c3 (by decide)
    have o5 := c3
    intro x7 e6
    have h := h x7 e6
    refine ⟨?_, ?_⟩
    · intro c8
      have h := h.1 c8
      exact ⟨h, K⟩
    · intro c9
      have h := h.2 c9
      obtain ⟨b10, e11, h⟩ := h
      refine ⟨b10, e11, ?_⟩
      obtain ⟨c12, h⟩ := h
      refine ⟨c12, ?_⟩
      have n13 := k8_nk K c12 (by decide)
      refine ⟨?_, ?_⟩
      · intro c14
        have h := h.1 c14
        exact ⟨h, K⟩
      · intro c15
        have h := h.2 c15
        exact ⟨h, K⟩
theorem kx_X8_hasHour {Q : Int32 → HS → Prop} {v0 : Nat} {v1 : Int32} {S : HS} (h : P_X8_hasHour v0 v1 Q S) : P_X8_hasHour v0 v1 (fun r T => Q r T ∧ K8 S T) S := kx_X8_hasHour_0 h (k8_rf S)
set_option maxRecDepth 20000 in
set_option maxHeartbeats 1000000 in
theorem kx_X7_price_134 {Q : HS → Prop} {X51 X51_2 : Nat → Nat → Nat → Int32 → Nat → Int32 → Int32 → HS → Prop} {X86 X86_2 : Nat → Nat → Nat → Int32 → Nat → Int32 → Int32 → Nat → Int32 → Int32 → HS → Prop} {v0 : Nat} {v1 : Nat} {v2 : Nat} {v3 : Int32} {v4 : Nat} {v5 : Int32} {v6 : Int32} {v7 : Nat} {v8 : Int32} {v9 : Int32} {s0 : Int64} {S0 S : HS} (h : P_X7_price_134 Q X51 X86 v0 v1 v2 v3 v4 v5 v6 v7 v8 v9 s0 S) (K : K8 S0 S) (hX51 : ∀ (u0 : Nat) (u1 : Nat) (u2 : Nat) (u3 : Int32) (u4 : Nat) (u5 : Int32) (u6 : Int32) (u7 : HS), X51 u0 u1 u2 u3 u4 u5 u6 u7 → K8 S0 u7 → X51_2 u0 u1 u2 u3 u4 u5 u6 u7) (hX86 : ∀ (u0 : Nat) (u1 : Nat) (u2 : Nat) (u3 : Int32) (u4 : Nat) (u5 : Int32) (u6 : Int32) (u7 : Nat) (u8 : Int32) (u9 : Int32) (u10 : HS), X86 u0 u1 u2 u3 u4 u5 u6 u7 u8 u9 u10 → K8 S0 u10 → X86_2 u0 u1 u2 u3 u4 u5 u6 u7 u8 u9 u10) : P_X7_price_134 (fun T => Q T ∧ K8 S0 T) X51_2 X86_2 v0 v1 v2 v3 v4 v5 v6 v7 v8 v9 s0 S := by
  delta P_X7_price_134 at h ⊢
  intro x2 e1
  have h := h x2 e1
  obtain ⟨c3, h⟩ := h
  refine ⟨c3, ?_⟩
  have n4 := k8_nk K c3 (by decide)
  have o5 := c3
  refine cm_X7_addLeg (kx_X7_addLeg h) h (fun x6 p8 h g7 => ?_)
  have h := h g7
  have K := k8_tr K p8.2
  have o5 := gr_ob p8.2.1 o5
  intro x10 e9
  have h := h x10 e9
  exact hX86 _ _ _ _ _ _ _ _ _ _ _ h K
set_option maxRecDepth 20000 in
set_option maxHeartbeats 1000000 in
theorem kxB_X7_price_86 {Q : HS → Prop} {X51 X51_2 : Nat → Nat → Nat → Int32 → Nat → Int32 → Int32 → HS → Prop} {X86 X86_2 : Nat → Nat → Nat → Int32 → Nat → Int32 → Int32 → Nat → Int32 → Int32 → HS → Prop} {v0 : Nat} {v1 : Nat} {v2 : Nat} {v3 : Int32} {v4 : Nat} {v5 : Int32} {v6 : Int32} {v7 : Nat} {v8 : Int32} {v9 : Int32} {S0 S : HS} (h : B_X7_price_86 Q X51 X86 v0 v1 v2 v3 v4 v5 v6 v7 v8 v9 S) (K : K8 S0 S) (hX51 : ∀ (u0 : Nat) (u1 : Nat) (u2 : Nat) (u3 : Int32) (u4 : Nat) (u5 : Int32) (u6 : Int32) (u7 : HS), X51 u0 u1 u2 u3 u4 u5 u6 u7 → K8 S0 u7 → X51_2 u0 u1 u2 u3 u4 u5 u6 u7) (hX86 : ∀ (u0 : Nat) (u1 : Nat) (u2 : Nat) (u3 : Int32) (u4 : Nat) (u5 : Int32) (u6 : Int32) (u7 : Nat) (u8 : Int32) (u9 : Int32) (u10 : HS), X86 u0 u1 u2 u3 u4 u5 u6 u7 u8 u9 u10 → K8 S0 u10 → X86_2 u0 u1 u2 u3 u4 u5 u6 u7 u8 u9 u10) : B_X7_price_86 (fun T => Q T ∧ K8 S0 T) X51_2 X86_2 v0 v1 v2 v3 v4 v5 v6 v7 v8 v9 S := by
  delta B_X7_price_86 at h ⊢
  obtain ⟨c1, h⟩ := h
  refine ⟨c1, ?_⟩
  have n2 := k8_nk K c1 (by decide)
  intro x4 e3
  have h := h x4 e3
  refine ⟨?_, ?_⟩
  · intro c5
    have h := h.1 c5
    intro x7 e6
    have h := h x7 e6
    exact hX51 _ _ _ _ _ _ _ _ h K
  · intro c8
    have h := h.2 c8
    refine ⟨?_, ?_⟩
    · intro c9
      have h := h.1 c9
      obtain ⟨c10, h⟩ := h
      refine ⟨c10, ?_⟩
      have n11 := k8_nk K c10 (by decide)
      have o12 := c10
      obtain ⟨b13, e14, h⟩ := h
      refine ⟨b13, e14, ?_⟩
      obtain ⟨c15, h⟩ := h
      refine ⟨c15, ?_⟩
      have n16 := k8_nk K c15 (by decide)
      obtain ⟨c17, h⟩ := h
      refine ⟨c17, ?_⟩
      obtain ⟨b18, e19, h⟩ := h
      refine ⟨b18, e19, ?_⟩
      obtain ⟨c20, h⟩ := h
      refine ⟨c20, ?_⟩
      have n21 := k8_nk K c20 (by decide)
      refine cm_X1_wetOf (kx_X1_wetOf h) h (fun x22 x23 p25 h g24 => ?_)
      have h := h g24
      have K := k8_tr K p25.2
      have o12 := gr_ob p25.2.1 o12
      obtain ⟨b26, e27, h⟩ := h
      refine ⟨b26, e27, ?_⟩
      obtain ⟨c28, h⟩ := h
      refine ⟨c28, ?_⟩
      have n29 := k8_nk K c28 (by decide)
      obtain ⟨c30, h⟩ := h
      refine ⟨c30, ?_⟩
      obtain ⟨b31, e32, h⟩ := h
      refine ⟨b31, e32, ?_⟩
      obtain ⟨c33, h⟩ := h
      refine ⟨c33, ?_⟩
      have n34 := k8_nk K c33 (by decide)
      intro x36 e35
      have h := h x36 e35
      exact kx_X7_price_134 h K hX51 hX86
    · intro c37
      have h := h.2 c37
      exact kx_X7_price_134 h K hX51 hX86
theorem kx_X7_price_86 {Q : HS → Prop} {X51 X51_2 : Nat → Nat → Nat → Int32 → Nat → Int32 → Int32 → HS → Prop} {v0 : Nat} {v1 : Nat} {v2 : Nat} {v3 : Int32} {v4 : Nat} {v5 : Int32} {v6 : Int32} {v7 : Nat} {v8 : Int32} {v9 : Int32} {S0 S : HS} (h : P_X7_price_86 Q X51 v0 v1 v2 v3 v4 v5 v6 v7 v8 v9 S) (K : K8 S0 S) (hX51 : ∀ (u0 : Nat) (u1 : Nat) (u2 : Nat) (u3 : Int32) (u4 : Nat) (u5 : Int32) (u6 : Int32) (u7 : HS), X51 u0 u1 u2 u3 u4 u5 u6 u7 → K8 S0 u7 → X51_2 u0 u1 u2 u3 u4 u5 u6 u7) : P_X7_price_86 (fun T => Q T ∧ K8 S0 T) X51_2 v0 v1 v2 v3 v4 v5 v6 v7 v8 v9 S := h (fun v0 v1 v2 v3 v4 v5 v6 v7 v8 v9 S => K8 S0 S → P_X7_price_86 (fun T => Q T ∧ K8 S0 T) X51_2 v0 v1 v2 v3 v4 v5 v6 v7 v8 v9 S) (fun v0 v1 v2 v3 v4 v5 v6 v7 v8 v9 S hB K => fd_X7_price_86 (kxB_X7_price_86 hB K hX51 (fun _ _ _ _ _ _ _ _ _ _ _ hx K => hx K))) K
set_option maxRecDepth 20000 in
set_option maxHeartbeats 1000000 in
theorem kx_X7_price_245 {Q : HS → Prop} {X179 X179_2 : Nat → Nat → Int32 → Nat → Int32 → Int32 → HS → Prop} {v0 : Nat} {v1 : Nat} {v3 : Int32} {v4 : Nat} {v5 : Int32} {v6 : Int32} {S0 S : HS} (h : P_X7_price_245 Q X179 v0 v1 v3 v4 v5 v6 S) (K : K8 S0 S) (hX179 : ∀ (u0 : Nat) (u1 : Nat) (u2 : Int32) (u3 : Nat) (u4 : Int32) (u5 : Int32) (u6 : HS), X179 u0 u1 u2 u3 u4 u5 u6 → K8 S0 u6 → X179_2 u0 u1 u2 u3 u4 u5 u6) : P_X7_price_245 (fun T => Q T ∧ K8 S0 T) X179_2 v0 v1 v3 v4 v5 v6 S := by
  delta P_X7_price_245 at h ⊢
  intro x2 e1
  have h := h x2 e1
  exact hX179 _ _ _ _ _ _ _ h K
set_option maxRecDepth 20000 in
set_option maxHeartbeats 1000000 in
theorem kx_X7_price_230 {Q : HS → Prop} {X179 X179_2 : Nat → Nat → Int32 → Nat → Int32 → Int32 → HS → Prop} {v0 : Nat} {v1 : Nat} {v3 : Int32} {v4 : Nat} {v5 : Int32} {v6 : Int32} {s0 : Int64} {S0 S : HS} (h : P_X7_price_230 Q X179 v0 v1 v3 v4 v5 v6 s0 S) (K : K8 S0 S) (hX179 : ∀ (u0 : Nat) (u1 : Nat) (u2 : Int32) (u3 : Nat) (u4 : Int32) (u5 : Int32) (u6 : HS), X179 u0 u1 u2 u3 u4 u5 u6 → K8 S0 u6 → X179_2 u0 u1 u2 u3 u4 u5 u6) : P_X7_price_230 (fun T => Q T ∧ K8 S0 T) X179_2 v0 v1 v3 v4 v5 v6 s0 S := by
  delta P_X7_price_230 at h ⊢
  obtain ⟨c1, h⟩ := h
  refine ⟨c1, ?_⟩
  have n2 := k8_nk K c1 (by decide)
  have o3 := c1
  refine cm_X7_addMove (kx_X7_addMove h) h (fun x4 p6 h g5 => ?_)
  have h := h g5
  have K := k8_tr K p6.2
  have o3 := gr_ob p6.2.1 o3
  exact kx_X7_price_245 h K hX179
set_option maxRecDepth 20000 in
set_option maxHeartbeats 1000000 in
theorem kxB_X7_price_179 {Q : HS → Prop} {X179 X179_2 : Nat → Nat → Int32 → Nat → Int32 → Int32 → HS → Prop} {v0 : Nat} {v1 : Nat} {v3 : Int32} {v4 : Nat} {v5 : Int32} {v6 : Int32} {S0 S : HS} (h : B_X7_price_179 Q X179 v0 v1 v3 v4 v5 v6 S) (K : K8 S0 S) (hX179 : ∀ (u0 : Nat) (u1 : Nat) (u2 : Int32) (u3 : Nat) (u4 : Int32) (u5 : Int32) (u6 : HS), X179 u0 u1 u2 u3 u4 u5 u6 → K8 S0 u6 → X179_2 u0 u1 u2 u3 u4 u5 u6) : B_X7_price_179 (fun T => Q T ∧ K8 S0 T) X179_2 v0 v1 v3 v4 v5 v6 S := by
  delta B_X7_price_179 at h ⊢
  obtain ⟨c1, h⟩ := h
  refine ⟨c1, ?_⟩
  have n2 := k8_nk K c1 (by decide)
  have o3 := c1
  intro x5 e4
  have h := h x5 e4
  refine ⟨?_, ?_⟩
  · intro c6
    have h := h.1 c6
    exact ⟨h, K⟩
  · intro c7
    have h := h.2 c7
    refine cm_X8_canWait (kx_X8_canWait h) h (fun x8 x9 p12 h g10 g11 => ?_)
    have h := h g10 g11
    have K := k8_tr K p12.2
    have o3 := gr_ob p12.2.1 o3
    refine ⟨?_, ?_⟩
    · intro c13
      have h := h.1 c13
      exact kx_X7_price_245 h K hX179
    · intro c14
      have h := h.2 c14
      refine ⟨?_, ?_⟩
      · intro c15
        have h := h.1 c15
        refine cm_X8_dripOn (kx_X8_dripOn h) h (fun x16 x17 p19 h g18 => ?_)
        have h := h g18
        have K := k8_tr K p19.2
        have o3 := gr_ob p19.2.1 o3
        obtain ⟨b20, e21, h⟩ := h
        refine ⟨b20, e21, ?_⟩
        obtain ⟨c22, h⟩ := h
        refine ⟨c22, ?_⟩
        have n23 := k8_nk K c22 (by decide)
        obtain ⟨c24, h⟩ := h
        refine ⟨c24, ?_⟩
        obtain ⟨b25, e26, h⟩ := h
        refine ⟨b25, e26, ?_⟩
        obtain ⟨c27, h⟩ := h
        refine ⟨c27, ?_⟩
        have n28 := k8_nk K c27 (by decide)
        intro x30 e29
        have h := h x30 e29
        exact kx_X7_price_230 h K hX179
      · intro c31
        have h := h.2 c31
        exact kx_X7_price_230 h K hX179
theorem kx_X7_price_179 {Q : HS → Prop} {v0 : Nat} {v1 : Nat} {v3 : Int32} {v4 : Nat} {v5 : Int32} {v6 : Int32} {S0 S : HS} (h : P_X7_price_179 Q v0 v1 v3 v4 v5 v6 S) (K : K8 S0 S) : P_X7_price_179 (fun T => Q T ∧ K8 S0 T) v0 v1 v3 v4 v5 v6 S := h (fun v0 v1 v3 v4 v5 v6 S => K8 S0 S → P_X7_price_179 (fun T => Q T ∧ K8 S0 T) v0 v1 v3 v4 v5 v6 S) (fun v0 v1 v3 v4 v5 v6 S hB K => fd_X7_price_179 (kxB_X7_price_179 hB K (fun _ _ _ _ _ _ _ hx K => hx K))) K
set_option maxRecDepth 20000 in
set_option maxHeartbeats 1000000 in
theorem kxB_X7_price_51 {Q : HS → Prop} {X51 X51_2 : Nat → Nat → Nat → Int32 → Nat → Int32 → Int32 → HS → Prop} {v0 : Nat} {v1 : Nat} {v2 : Nat} {v3 : Int32} {v4 : Nat} {v5 : Int32} {v6 : Int32} {S0 S : HS} (h : B_X7_price_51 Q X51 v0 v1 v2 v3 v4 v5 v6 S) (K : K8 S0 S) (hX51 : ∀ (u0 : Nat) (u1 : Nat) (u2 : Nat) (u3 : Int32) (u4 : Nat) (u5 : Int32) (u6 : Int32) (u7 : HS), X51 u0 u1 u2 u3 u4 u5 u6 u7 → K8 S0 u7 → X51_2 u0 u1 u2 u3 u4 u5 u6 u7) : B_X7_price_51 (fun T => Q T ∧ K8 S0 T) X51_2 v0 v1 v2 v3 v4 v5 v6 S := by
  delta B_X7_price_51 at h ⊢
  obtain ⟨c1, h⟩ := h
  refine ⟨c1, ?_⟩
  have n2 := k8_nk K c1 (by decide)
  have o3 := c1
  intro x5 e4
  have h := h x5 e4
  refine ⟨?_, ?_⟩
  · intro c6
    have h := h.1 c6
    exact kx_X7_price_179 h K
  · intro c7
    have h := h.2 c7
    obtain ⟨b8, e9, h⟩ := h
    refine ⟨b8, e9, ?_⟩
    intro x11 e10
    have h := h x11 e10
    obtain ⟨c12, h⟩ := h
    refine ⟨c12, ?_⟩
    have n13 := k8_nk K c12 (by decide)
    obtain ⟨c14, h⟩ := h
    refine ⟨c14, ?_⟩
    obtain ⟨b15, e16, h⟩ := h
    refine ⟨b15, e16, ?_⟩
    intro x18 e17
    have h := h x18 e17
    obtain ⟨c19, h⟩ := h
    refine ⟨c19, ?_⟩
    have n20 := k8_nk K c19 (by decide)
    intro x22 e21
    have h := h x22 e21
    exact kx_X7_price_86 h K hX51
theorem kx_X7_price_51 {Q : HS → Prop} {v0 : Nat} {v1 : Nat} {v2 : Nat} {v3 : Int32} {v4 : Nat} {v5 : Int32} {v6 : Int32} {S0 S : HS} (h : P_X7_price_51 Q v0 v1 v2 v3 v4 v5 v6 S) (K : K8 S0 S) : P_X7_price_51 (fun T => Q T ∧ K8 S0 T) v0 v1 v2 v3 v4 v5 v6 S := h (fun v0 v1 v2 v3 v4 v5 v6 S => K8 S0 S → P_X7_price_51 (fun T => Q T ∧ K8 S0 T) v0 v1 v2 v3 v4 v5 v6 S) (fun v0 v1 v2 v3 v4 v5 v6 S hB K => fd_X7_price_51 (kxB_X7_price_51 hB K (fun _ _ _ _ _ _ _ _ hx K => hx K))) K
set_option maxRecDepth 20000 in
set_option maxHeartbeats 1000000 in
theorem kx_X7_price_46 {Q : HS → Prop} {v0 : Nat} {v1 : Nat} {v2 : Nat} {v3 : Int32} {v4 : Nat} {s0 : Int32} {S0 S : HS} (h : P_X7_price_46 Q v0 v1 v2 v3 v4 s0 S) (K : K8 S0 S) : P_X7_price_46 (fun T => Q T ∧ K8 S0 T) v0 v1 v2 v3 v4 s0 S := by
  delta P_X7_price_46 at h ⊢
  exact kx_X7_price_51 h K
set_option maxRecDepth 20000 in
set_option maxHeartbeats 1000000 in
theorem kx_X7_price_0 {Q : HS → Prop} {v0 : Nat} {v1 : Nat} {v2 : Nat} {v3 : Int32} {S0 S : HS} (h : P_X7_price_0 Q v0 v1 v2 v3 S) (K : K8 S0 S) : P_X7_price_0 (fun T => Q T ∧ K8 S0 T) v0 v1 v2 v3 S := by
  delta P_X7_price_0 at h ⊢
  obtain ⟨c1, h⟩ := h
  refine ⟨c1, ?_⟩
  have n2 := k8_nk K c1 (by decide)
  have o3 := c1
  intro x5 e4
  have h := h x5 e4
  have K := k8_I K e4 n2
  have o3 := ob_wI o3 e4
  intro x7 e6
  have h := h x7 e6
  have K := k8_I K e6 n2
  have o3 := ob_wI o3 e6
  intro x9 e8
  have h := h x9 e8
  obtain ⟨c10, h⟩ := h
  refine ⟨c10, ?_⟩
  have n11 := k8_nk K c10 (by decide)
  have o12 := c10
  refine cm_X8_hasWalker (kx_X8_hasWalker h) h (fun x13 x14 p17 h g15 g16 => ?_)
  have h := h g15 g16
  have K := k8_tr K p17.2
  have o3 := gr_ob p17.2.1 o3
  have o12 := gr_ob p17.2.1 o12
  refine ⟨?_, ?_⟩
  · intro c18
    have h := h.1 c18
    obtain ⟨b19, e20, h⟩ := h
    refine ⟨b19, e20, ?_⟩
    intro x22 e21
    have h := h x22 e21
    obtain ⟨c23, h⟩ := h
    refine ⟨c23, ?_⟩
    have n24 := k8_nk K c23 (by decide)
    obtain ⟨c25, h⟩ := h
    refine ⟨c25, ?_⟩
    obtain ⟨b26, e27, h⟩ := h
    refine ⟨b26, e27, ?_⟩
    refine cm_X8_hasHour (kx_X8_hasHour h) h (fun x28 x29 p32 h g30 g31 => ?_)
    have h := h g30 g31
    have K := k8_tr K p32.2
    have o3 := gr_ob p32.2.1 o3
    have o12 := gr_ob p32.2.1 o12
    refine ⟨?_, ?_⟩
    · intro c33
      have h := h.1 c33
      exact kx_X7_price_46 h K
    · intro c34
      have h := h.2 c34
      exact kx_X7_price_46 h K
  · intro c35
    have h := h.2 c35
    exact ⟨h, K⟩
theorem kx_X7_price {Q : HS → Prop} {v0 : Nat} {v1 : Nat} {v2 : Nat} {v3 : Int32} {S : HS} (h : P_X7_price v0 v1 v2 v3 Q S) : P_X7_price v0 v1 v2 v3 (fun T => Q T ∧ K8 S T) S := kx_X7_price_0 h (k8_rf S)
set_option maxRecDepth 20000 in
set_option maxHeartbeats 1000000 in
theorem kx_X7_reckonMinute_40 {Q : HS → Prop} {X2 X2_2 : Nat → Int32 → Int32 → Int32 → HS → Prop} {v0 : Nat} {v1 : Int32} {v2 : Int32} {v3 : Int32} {s0 : Nat} {s1 : Int32} {s2 : Int64} {S0 S : HS} (h : P_X7_reckonMinute_40 Q X2 v0 v1 v2 v3 s0 s1 s2 S) (K : K8 S0 S) (hX2 : ∀ (u0 : Nat) (u1 : Int32) (u2 : Int32) (u3 : Int32) (u4 : HS), X2 u0 u1 u2 u3 u4 → K8 S0 u4 → X2_2 u0 u1 u2 u3 u4) : P_X7_reckonMinute_40 (fun T => Q T ∧ K8 S0 T) X2_2 v0 v1 v2 v3 s0 s1 s2 S := by
  delta P_X7_reckonMinute_40 at h ⊢
  obtain ⟨c1, h⟩ := h
  refine ⟨c1, ?_⟩
  have n2 := k8_nk K c1 (by decide)
  obtain ⟨c3, h⟩ := h
  refine ⟨c3, ?_⟩
  intro x5 e4
  have h := h x5 e4
  have K := k8_J K e4
  obtain ⟨c6, h⟩ := h
  refine ⟨c6, ?_⟩
  have n7 := k8_nk K c6 (by decide)
  have o8 := c6
  obtain ⟨b9, e10, h⟩ := h
  refine ⟨b9, e10, ?_⟩
  have n11 := k8_nr K e10 o8 (by decide)
  obtain ⟨c12, h⟩ := h
  refine ⟨c12, ?_⟩
  obtain ⟨c13, h⟩ := h
  refine ⟨c13, ?_⟩
  intro x15 e14
  have h := h x15 e14
  have K := k8_I K e14 n11
  have o8 := ob_wI o8 e14
  intro x17 e16
  have h := h x17 e16
  exact hX2 _ _ _ _ _ h K
set_option maxRecDepth 20000 in
set_option maxHeartbeats 1000000 in
theorem kx_X7_reckonMinute_219 {Q : HS → Prop} {X62 X62_2 : Nat → Int32 → Int32 → HS → Prop} {v0 : Nat} {v2 : Int32} {v3 : Int32} {S0 S : HS} (h : P_X7_reckonMinute_219 Q X62 v0 v2 v3 S) (K : K8 S0 S) (hX62 : ∀ (u0 : Nat) (u1 : Int32) (u2 : Int32) (u3 : HS), X62 u0 u1 u2 u3 → K8 S0 u3 → X62_2 u0 u1 u2 u3) : P_X7_reckonMinute_219 (fun T => Q T ∧ K8 S0 T) X62_2 v0 v2 v3 S := by
  delta P_X7_reckonMinute_219 at h ⊢
  intro x2 e1
  have h := h x2 e1
  exact hX62 _ _ _ _ h K
set_option maxRecDepth 20000 in
set_option maxHeartbeats 1000000 in
theorem kx_X7_reckonMinute_117 {Q : HS → Prop} {X62 X62_2 : Nat → Int32 → Int32 → HS → Prop} {v0 : Nat} {v2 : Int32} {v3 : Int32} {v4 : Int32} {v5 : Int32} {s0 : Int32} {S0 S : HS} (h : P_X7_reckonMinute_117 Q X62 v0 v2 v3 v4 v5 s0 S) (K : K8 S0 S) (hX62 : ∀ (u0 : Nat) (u1 : Int32) (u2 : Int32) (u3 : HS), X62 u0 u1 u2 u3 → K8 S0 u3 → X62_2 u0 u1 u2 u3) : P_X7_reckonMinute_117 (fun T => Q T ∧ K8 S0 T) X62_2 v0 v2 v3 v4 v5 s0 S := by
  delta P_X7_reckonMinute_117 at h ⊢
  refine ⟨?_, ?_⟩
  · intro c1
    have h := h.1 c1
    exact kx_X7_reckonMinute_219 h K hX62
  · intro c2
    have h := h.2 c2
    refine ⟨?_, ?_⟩
    · intro c3
      have h := h.1 c3
      exact kx_X7_reckonMinute_219 h K hX62
    · intro c4
      have h := h.2 c4
      obtain ⟨c5, h⟩ := h
      refine ⟨c5, ?_⟩
      have n6 := k8_nk K c5 (by decide)
      have o7 := c5
      obtain ⟨b8, e9, h⟩ := h
      refine ⟨b8, e9, ?_⟩
      obtain ⟨c10, h⟩ := h
      refine ⟨c10, ?_⟩
      have n11 := k8_nk K c10 (by decide)
      refine ⟨?_, ?_⟩
      · intro c12
        have h := h.1 c12
        exact kx_X7_reckonMinute_219 h K hX62
      · intro c13
        have h := h.2 c13
        refine ⟨?_, ?_⟩
        · intro c14
          have h := h.1 c14
          exact kx_X7_reckonMinute_219 h K hX62
        · intro c15
          have h := h.2 c15
          obtain ⟨b16, e17, h⟩ := h
          refine ⟨b16, e17, ?_⟩
          obtain ⟨c18, h⟩ := h
          refine ⟨c18, ?_⟩
          have n19 := k8_nk K c18 (by decide)
          refine ⟨?_, ?_⟩
          · intro c20
            have h := h.1 c20
            exact kx_X7_reckonMinute_219 h K hX62
          · intro c21
            have h := h.2 c21
            obtain ⟨b22, e23, h⟩ := h
            refine ⟨b22, e23, ?_⟩
            obtain ⟨c24, h⟩ := h
            refine ⟨c24, ?_⟩
            have n25 := k8_nk K c24 (by decide)
            obtain ⟨c26, h⟩ := h
            refine ⟨c26, ?_⟩
            intro x28 e27
            have h := h x28 e27
            refine ⟨?_, ?_⟩
            · intro c29
              have h := h.1 c29
              exact kx_X7_reckonMinute_219 h K hX62
            · intro c30
              have h := h.2 c30
              obtain ⟨b31, e32, h⟩ := h
              refine ⟨b31, e32, ?_⟩
              obtain ⟨c33, h⟩ := h
              refine ⟨c33, ?_⟩
              have n34 := k8_nk K c33 (by decide)
              obtain ⟨c35, h⟩ := h
              refine ⟨c35, ?_⟩
              intro x37 e36
              have h := h x37 e36
              obtain ⟨b38, e39, h⟩ := h
              refine ⟨b38, e39, ?_⟩
              obtain ⟨c40, h⟩ := h
              refine ⟨c40, ?_⟩
              have n41 := k8_nk K c40 (by decide)
              obtain ⟨c42, h⟩ := h
              refine ⟨c42, ?_⟩
              intro x44 e43
              have h := h x44 e43
              intro x46 e45
              have h := h x46 e45
              obtain ⟨b47, e48, h⟩ := h
              refine ⟨b47, e48, ?_⟩
              obtain ⟨c49, h⟩ := h
              refine ⟨c49, ?_⟩
              have n50 := k8_nk K c49 (by decide)
              obtain ⟨c51, h⟩ := h
              refine ⟨c51, ?_⟩
              intro x53 e52
              have h := h x53 e52
              refine ⟨?_, ?_⟩
              · intro c54
                have h := h.1 c54
                exact kx_X7_reckonMinute_219 h K hX62
              · intro c55
                have h := h.2 c55
                obtain ⟨b56, e57, h⟩ := h
                refine ⟨b56, e57, ?_⟩
                obtain ⟨c58, h⟩ := h
                refine ⟨c58, ?_⟩
                have n59 := k8_nk K c58 (by decide)
                obtain ⟨c60, h⟩ := h
                refine ⟨c60, ?_⟩
                intro x62 e61
                have h := h x62 e61
                have K := k8_J K e61
                have o7 := ob_wJ o7 e61
                obtain ⟨b63, e64, h⟩ := h
                refine ⟨b63, e64, ?_⟩
                have n65 := k8_nr K e64 o7 (by decide)
                obtain ⟨b66, e67, h⟩ := h
                refine ⟨b66, e67, ?_⟩
                have n68 := k8_nr K e67 o7 (by decide)
                obtain ⟨c69, h⟩ := h
                refine ⟨c69, ?_⟩
                obtain ⟨c70, h⟩ := h
                refine ⟨c70, ?_⟩
                intro x72 e71
                have h := h x72 e71
                obtain ⟨c73, h⟩ := h
                refine ⟨c73, ?_⟩
                obtain ⟨c74, h⟩ := h
                refine ⟨c74, ?_⟩
                intro x76 e75
                have h := h x76 e75
                have K := k8_I K e75 n65
                have o7 := ob_wI o7 e75
                exact kx_X7_reckonMinute_219 h K hX62
set_option maxRecDepth 20000 in
set_option maxHeartbeats 1000000 in
theorem kxB_X7_reckonMinute_62 {Q : HS → Prop} {X62 X62_2 : Nat → Int32 → Int32 → HS → Prop} {v0 : Nat} {v2 : Int32} {v3 : Int32} {S0 S : HS} (h : B_X7_reckonMinute_62 Q X62 v0 v2 v3 S) (K : K8 S0 S) (hX62 : ∀ (u0 : Nat) (u1 : Int32) (u2 : Int32) (u3 : HS), X62 u0 u1 u2 u3 → K8 S0 u3 → X62_2 u0 u1 u2 u3) : B_X7_reckonMinute_62 (fun T => Q T ∧ K8 S0 T) X62_2 v0 v2 v3 S := by
  delta B_X7_reckonMinute_62 at h ⊢
  obtain ⟨c1, h⟩ := h
  refine ⟨c1, ?_⟩
  have n2 := k8_nk K c1 (by decide)
  have o3 := c1
  intro x5 e4
  have h := h x5 e4
  refine ⟨?_, ?_⟩
  · intro c6
    have h := h.1 c6
    exact ⟨h, K⟩
  · intro c7
    have h := h.2 c7
    refine ⟨?_, ?_⟩
    · intro c8
      have h := h.1 c8
      exact ⟨h, K⟩
    · intro c9
      have h := h.2 c9
      obtain ⟨b10, e11, h⟩ := h
      refine ⟨b10, e11, ?_⟩
      have n12 := k8_nr K e11 o3 (by decide)
      obtain ⟨c13, h⟩ := h
      refine ⟨c13, ?_⟩
      obtain ⟨c14, h⟩ := h
      refine ⟨c14, ?_⟩
      intro x16 e15
      have h := h x16 e15
      intro x18 e17
      have h := h x18 e17
      obtain ⟨b19, e20, h⟩ := h
      refine ⟨b19, e20, ?_⟩
      have n21 := k8_nr K e20 o3 (by decide)
      obtain ⟨c22, h⟩ := h
      refine ⟨c22, ?_⟩
      obtain ⟨c23, h⟩ := h
      refine ⟨c23, ?_⟩
      intro x25 e24
      have h := h x25 e24
      intro x27 e26
      have h := h x27 e26
      obtain ⟨b28, e29, h⟩ := h
      refine ⟨b28, e29, ?_⟩
      have n30 := k8_nr K e29 o3 (by decide)
      obtain ⟨c31, h⟩ := h
      refine ⟨c31, ?_⟩
      obtain ⟨c32, h⟩ := h
      refine ⟨c32, ?_⟩
      intro x34 e33
      have h := h x34 e33
      intro x36 e35
      have h := h x36 e35
      refine ⟨?_, ?_⟩
      · intro c37
        have h := h.1 c37
        exact kx_X7_reckonMinute_117 h K hX62
      · intro c38
        have h := h.2 c38
        exact kx_X7_reckonMinute_117 h K hX62
theorem kx_X7_reckonMinute_62 {Q : HS → Prop} {v0 : Nat} {v2 : Int32} {v3 : Int32} {S0 S : HS} (h : P_X7_reckonMinute_62 Q v0 v2 v3 S) (K : K8 S0 S) : P_X7_reckonMinute_62 (fun T => Q T ∧ K8 S0 T) v0 v2 v3 S := h (fun v0 v2 v3 S => K8 S0 S → P_X7_reckonMinute_62 (fun T => Q T ∧ K8 S0 T) v0 v2 v3 S) (fun v0 v2 v3 S hB K => fd_X7_reckonMinute_62 (kxB_X7_reckonMinute_62 hB K (fun _ _ _ _ hx K => hx K))) K
set_option maxRecDepth 20000 in
set_option maxHeartbeats 1000000 in
theorem kx_X7_reckonMinute_60 {Q : HS → Prop} {v0 : Nat} {v2 : Int32} {S0 S : HS} (h : P_X7_reckonMinute_60 Q v0 v2 S) (K : K8 S0 S) : P_X7_reckonMinute_60 (fun T => Q T ∧ K8 S0 T) v0 v2 S := by
  delta P_X7_reckonMinute_60 at h ⊢
  exact kx_X7_reckonMinute_62 h K
set_option maxRecDepth 20000 in
set_option maxHeartbeats 1000000 in
theorem kxB_X7_reckonMinute_2 {Q : HS → Prop} {X2 X2_2 : Nat → Int32 → Int32 → Int32 → HS → Prop} {v0 : Nat} {v1 : Int32} {v2 : Int32} {v3 : Int32} {S0 S : HS} (h : B_X7_reckonMinute_2 Q X2 v0 v1 v2 v3 S) (K : K8 S0 S) (hX2 : ∀ (u0 : Nat) (u1 : Int32) (u2 : Int32) (u3 : Int32) (u4 : HS), X2 u0 u1 u2 u3 u4 → K8 S0 u4 → X2_2 u0 u1 u2 u3 u4) : B_X7_reckonMinute_2 (fun T => Q T ∧ K8 S0 T) X2_2 v0 v1 v2 v3 S := by
  delta B_X7_reckonMinute_2 at h ⊢
  refine ⟨?_, ?_⟩
  · intro c1
    have h := h.1 c1
    exact kx_X7_reckonMinute_60 h K
  · intro c2
    have h := h.2 c2
    refine ⟨?_, ?_⟩
    · intro c3
      have h := h.1 c3
      exact kx_X7_reckonMinute_60 h K
    · intro c4
      have h := h.2 c4
      obtain ⟨c5, h⟩ := h
      refine ⟨c5, ?_⟩
      have n6 := k8_nk K c5 (by decide)
      have o7 := c5
      obtain ⟨b8, e9, h⟩ := h
      refine ⟨b8, e9, ?_⟩
      intro x11 e10
      have h := h x11 e10
      refine ⟨?_, ?_⟩
      · intro c12
        have h := h.1 c12
        exact kx_X7_reckonMinute_40 h K hX2
      · intro c13
        have h := h.2 c13
        exact kx_X7_reckonMinute_40 h K hX2
theorem kx_X7_reckonMinute_2 {Q : HS → Prop} {v0 : Nat} {v1 : Int32} {v2 : Int32} {v3 : Int32} {S0 S : HS} (h : P_X7_reckonMinute_2 Q v0 v1 v2 v3 S) (K : K8 S0 S) : P_X7_reckonMinute_2 (fun T => Q T ∧ K8 S0 T) v0 v1 v2 v3 S := h (fun v0 v1 v2 v3 S => K8 S0 S → P_X7_reckonMinute_2 (fun T => Q T ∧ K8 S0 T) v0 v1 v2 v3 S) (fun v0 v1 v2 v3 S hB K => fd_X7_reckonMinute_2 (kxB_X7_reckonMinute_2 hB K (fun _ _ _ _ _ hx K => hx K))) K
set_option maxRecDepth 20000 in
set_option maxHeartbeats 1000000 in
theorem kx_X7_reckonMinute_0 {Q : HS → Prop} {v0 : Nat} {v1 : Int32} {v2 : Int32} {S0 S : HS} (h : P_X7_reckonMinute_0 Q v0 v1 v2 S) (K : K8 S0 S) : P_X7_reckonMinute_0 (fun T => Q T ∧ K8 S0 T) v0 v1 v2 S := by
  delta P_X7_reckonMinute_0 at h ⊢
  exact kx_X7_reckonMinute_2 h K
theorem kx_X7_reckonMinute {Q : HS → Prop} {v0 : Nat} {v1 : Int32} {v2 : Int32} {S : HS} (h : P_X7_reckonMinute v0 v1 v2 Q S) : P_X7_reckonMinute v0 v1 v2 (fun T => Q T ∧ K8 S T) S := kx_X7_reckonMinute_0 h (k8_rf S)
set_option maxRecDepth 20000 in
set_option maxHeartbeats 1000000 in
theorem kx_X8_hourOf_0 {Q : Int32 → HS → Prop} {v0 : Nat} {v1 : Int32} {S0 S : HS} (h : P_X8_hourOf_0 Q v0 v1 S) (K : K8 S0 S) : P_X8_hourOf_0 (fun r T => Q r T ∧ K8 S0 T) v0 v1 S := by
  delta P_X8_hourOf_0 at h ⊢
  obtain ⟨c1, h⟩ := h
  refine ⟨c1, ?_⟩
  have n2 := k8_nk K c1 (by decide)
  have o3 := c1
  intro x5 e4
  have h := h x5 e4
  refine ⟨?_, ?_⟩
  · intro c6
    have h := h.1 c6
    exact ⟨h, K⟩
  · intro c7
    have h := h.2 c7
    intro x9 e8
    have h := h x9 e8
    obtain ⟨c10, h⟩ := h
    refine ⟨c10, ?_⟩
    intro x12 e11
    have h := h x12 e11
    exact ⟨h, K⟩
theorem kx_X8_hourOf {Q : Int32 → HS → Prop} {v0 : Nat} {v1 : Int32} {S : HS} (h : P_X8_hourOf v0 v1 Q S) : P_X8_hourOf v0 v1 (fun r T => Q r T ∧ K8 S T) S := kx_X8_hourOf_0 h (k8_rf S)
set_option maxRecDepth 20000 in
set_option maxHeartbeats 1000000 in
theorem kx_X7_reckon_120 {Q : HS → Prop} {X76 X76_2 : Nat → Nat → Nat → Int32 → Int32 → HS → Prop} {v0 : Nat} {v1 : Nat} {v2 : Nat} {v6 : Int32} {v7 : Int32} {S0 S : HS} (h : P_X7_reckon_120 Q X76 v0 v1 v2 v6 v7 S) (K : K8 S0 S) (hX76 : ∀ (u0 : Nat) (u1 : Nat) (u2 : Nat) (u3 : Int32) (u4 : Int32) (u5 : HS), X76 u0 u1 u2 u3 u4 u5 → K8 S0 u5 → X76_2 u0 u1 u2 u3 u4 u5) : P_X7_reckon_120 (fun T => Q T ∧ K8 S0 T) X76_2 v0 v1 v2 v6 v7 S := by
  delta P_X7_reckon_120 at h ⊢
  obtain ⟨c1, h⟩ := h
  refine ⟨c1, ?_⟩
  have n2 := k8_nk K c1 (by decide)
  have o3 := c1
  intro x5 e4
  have h := h x5 e4
  obtain ⟨c6, h⟩ := h
  refine ⟨c6, ?_⟩
  have n7 := k8_nk K c6 (by decide)
  have o8 := c6
  refine cm_X7_reckonMinute (kx_X7_reckonMinute h) h (fun x9 p11 h g10 => ?_)
  have h := h g10
  have K := k8_tr K p11.2
  have o3 := gr_ob p11.2.1 o3
  have o8 := gr_ob p11.2.1 o8
  intro x13 e12
  have h := h x13 e12
  have K := k8_I K e12 n7
  have o3 := ob_wI o3 e12
  have o8 := ob_wI o8 e12
  intro x15 e14
  have h := h x15 e14
  exact hX76 _ _ _ _ _ _ h K
set_option maxRecDepth 20000 in
set_option maxHeartbeats 1000000 in
theorem kxB_X7_reckon_76 {Q : HS → Prop} {X76 X76_2 : Nat → Nat → Nat → Int32 → Int32 → HS → Prop} {v0 : Nat} {v1 : Nat} {v2 : Nat} {v6 : Int32} {v7 : Int32} {S0 S : HS} (h : B_X7_reckon_76 Q X76 v0 v1 v2 v6 v7 S) (K : K8 S0 S) (hX76 : ∀ (u0 : Nat) (u1 : Nat) (u2 : Nat) (u3 : Int32) (u4 : Int32) (u5 : HS), X76 u0 u1 u2 u3 u4 u5 → K8 S0 u5 → X76_2 u0 u1 u2 u3 u4 u5) : B_X7_reckon_76 (fun T => Q T ∧ K8 S0 T) X76_2 v0 v1 v2 v6 v7 S := by
  delta B_X7_reckon_76 at h ⊢
  refine ⟨?_, ?_⟩
  · intro c1
    have h := h.1 c1
    exact ⟨h, K⟩
  · intro c2
    have h := h.2 c2
    refine ⟨?_, ?_⟩
    · intro c3
      have h := h.1 c3
      exact ⟨h, K⟩
    · intro c4
      have h := h.2 c4
      obtain ⟨c5, h⟩ := h
      refine ⟨c5, ?_⟩
      have n6 := k8_nk K c5 (by decide)
      have o7 := c5
      refine cm_X8_hourOf (kx_X8_hourOf h) h (fun x8 x9 p11 h g10 => ?_)
      have h := h g10
      have K := k8_tr K p11.2
      have o7 := gr_ob p11.2.1 o7
      intro x13 e12
      have h := h x13 e12
      intro x15 e14
      have h := h x15 e14
      obtain ⟨c16, h⟩ := h
      refine ⟨c16, ?_⟩
      have n17 := k8_nk K c16 (by decide)
      have o18 := c16
      intro x20 e19
      have h := h x20 e19
      refine ⟨?_, ?_⟩
      · intro c21
        have h := h.1 c21
        exact kx_X7_reckon_120 h K hX76
      · intro c22
        have h := h.2 c22
        refine cm_X7_price (kx_X7_price h) h (fun x23 p25 h g24 => ?_)
        have h := h g24
        have K := k8_tr K p25.2
        have o7 := gr_ob p25.2.1 o7
        have o18 := gr_ob p25.2.1 o18
        exact kx_X7_reckon_120 h K hX76
theorem kx_X7_reckon_76 {Q : HS → Prop} {v0 : Nat} {v1 : Nat} {v2 : Nat} {v6 : Int32} {v7 : Int32} {S0 S : HS} (h : P_X7_reckon_76 Q v0 v1 v2 v6 v7 S) (K : K8 S0 S) : P_X7_reckon_76 (fun T => Q T ∧ K8 S0 T) v0 v1 v2 v6 v7 S := h (fun v0 v1 v2 v6 v7 S => K8 S0 S → P_X7_reckon_76 (fun T => Q T ∧ K8 S0 T) v0 v1 v2 v6 v7 S) (fun v0 v1 v2 v6 v7 S hB K => fd_X7_reckon_76 (kxB_X7_reckon_76 hB K (fun _ _ _ _ _ _ hx K => hx K))) K
set_option maxRecDepth 20000 in
set_option maxHeartbeats 1000000 in
theorem kx_X7_reckon_68 {Q : HS → Prop} {v0 : Nat} {v1 : Nat} {v2 : Nat} {v6 : Int32} {S0 S : HS} (h : P_X7_reckon_68 Q v0 v1 v2 v6 S) (K : K8 S0 S) : P_X7_reckon_68 (fun T => Q T ∧ K8 S0 T) v0 v1 v2 v6 S := by
  delta P_X7_reckon_68 at h ⊢
  obtain ⟨c1, h⟩ := h
  refine ⟨c1, ?_⟩
  have n2 := k8_nk K c1 (by decide)
  have o3 := c1
  intro x5 e4
  have h := h x5 e4
  intro x7 e6
  have h := h x7 e6
  exact kx_X7_reckon_76 h K
set_option maxRecDepth 20000 in
set_option maxHeartbeats 1000000 in
theorem kx_X7_reckon_38 {Q : HS → Prop} {v0 : Nat} {v1 : Nat} {v2 : Nat} {v3 : Int32} {v4 : Int32} {v5 : Int32} {v6 : Int32} {S0 S : HS} (h : P_X7_reckon_38 Q v0 v1 v2 v3 v4 v5 v6 S) (K : K8 S0 S) : P_X7_reckon_38 (fun T => Q T ∧ K8 S0 T) v0 v1 v2 v3 v4 v5 v6 S := by
  delta P_X7_reckon_38 at h ⊢
  obtain ⟨c1, h⟩ := h
  refine ⟨c1, ?_⟩
  have n2 := k8_nk K c1 (by decide)
  have o3 := c1
  intro x5 e4
  have h := h x5 e4
  have K := k8_I K e4 n2
  have o3 := ob_wI o3 e4
  intro x7 e6
  have h := h x7 e6
  have K := k8_I K e6 n2
  have o3 := ob_wI o3 e6
  intro x9 e8
  have h := h x9 e8
  have K := k8_I K e8 n2
  have o3 := ob_wI o3 e8
  intro x11 e10
  have h := h x11 e10
  intro x13 e12
  have h := h x13 e12
  have K := k8_I K e12 n2
  have o3 := ob_wI o3 e12
  intro x15 e14
  have h := h x15 e14
  have K := k8_I K e14 n2
  have o3 := ob_wI o3 e14
  exact kx_X7_reckon_68 h K
set_option maxRecDepth 20000 in
set_option maxHeartbeats 1000000 in
theorem kx_X7_reckon_12 {Q : HS → Prop} {v0 : Nat} {v1 : Nat} {v2 : Nat} {v3 : Int32} {v4 : Int32} {v5 : Int32} {v6 : Int32} {S0 S : HS} (h : P_X7_reckon_12 Q v0 v1 v2 v3 v4 v5 v6 S) (K : K8 S0 S) : P_X7_reckon_12 (fun T => Q T ∧ K8 S0 T) v0 v1 v2 v3 v4 v5 v6 S := by
  delta P_X7_reckon_12 at h ⊢
  obtain ⟨c1, h⟩ := h
  refine ⟨c1, ?_⟩
  have n2 := k8_nk K c1 (by decide)
  have o3 := c1
  intro x5 e4
  have h := h x5 e4
  refine ⟨?_, ?_⟩
  · intro c6
    have h := h.1 c6
    exact kx_X7_reckon_38 h K
  · intro c7
    have h := h.2 c7
    intro x9 e8
    have h := h x9 e8
    refine ⟨?_, ?_⟩
    · intro c10
      have h := h.1 c10
      exact kx_X7_reckon_38 h K
    · intro c11
      have h := h.2 c11
      intro x13 e12
      have h := h x13 e12
      refine ⟨?_, ?_⟩
      · intro c14
        have h := h.1 c14
        exact kx_X7_reckon_68 h K
      · intro c15
        have h := h.2 c15
        exact kx_X7_reckon_38 h K
set_option maxRecDepth 20000 in
set_option maxHeartbeats 1000000 in
theorem kx_X7_reckon_0 {Q : HS → Prop} {v0 : Nat} {v1 : Nat} {v2 : Nat} {v3 : Int32} {v4 : Int32} {v5 : Int32} {v6 : Int32} {S0 S : HS} (h : P_X7_reckon_0 Q v0 v1 v2 v3 v4 v5 v6 S) (K : K8 S0 S) : P_X7_reckon_0 (fun T => Q T ∧ K8 S0 T) v0 v1 v2 v3 v4 v5 v6 S := by
  delta P_X7_reckon_0 at h ⊢
  obtain ⟨c1, h⟩ := h
  refine ⟨c1, ?_⟩
  have n2 := k8_nk K c1 (by decide)
  have o3 := c1
  obtain ⟨b4, e5, h⟩ := h
  refine ⟨b4, e5, ?_⟩
  obtain ⟨c6, h⟩ := h
  refine ⟨c6, ?_⟩
  have n7 := k8_nk K c6 (by decide)
  refine ⟨?_, ?_⟩
  · intro c8
    have h := h.1 c8
    exact kx_X7_reckon_12 h K
  · intro c9
    have h := h.2 c9
    refine cm_X7_makeRows (kx_X7_makeRows h) h (fun x10 p12 h g11 => ?_)
    have h := h g11
    have K := k8_tr K p12.2
    have o3 := gr_ob p12.2.1 o3
    exact kx_X7_reckon_12 h K
theorem kx_X7_reckon {Q : HS → Prop} {v0 : Nat} {v1 : Nat} {v2 : Nat} {v3 : Int32} {v4 : Int32} {v5 : Int32} {v6 : Int32} {S : HS} (h : P_X7_reckon v0 v1 v2 v3 v4 v5 v6 Q S) : P_X7_reckon v0 v1 v2 v3 v4 v5 v6 (fun T => Q T ∧ K8 S T) S := kx_X7_reckon_0 h (k8_rf S)
set_option maxRecDepth 20000 in
set_option maxHeartbeats 1000000 in
theorem kx_X7_trace_143 {Q : Int32 → HS → Prop} {X9 X9_2 : Nat → Nat → Int32 → Int32 → Int32 → HS → Prop} {v0 : Nat} {v1 : Nat} {v4 : Int32} {v5 : Int32} {v6 : Int32} {S0 S : HS} (h : P_X7_trace_143 Q X9 v0 v1 v4 v5 v6 S) (K : K8 S0 S) (hX9 : ∀ (u0 : Nat) (u1 : Nat) (u2 : Int32) (u3 : Int32) (u4 : Int32) (u5 : HS), X9 u0 u1 u2 u3 u4 u5 → K8 S0 u5 → X9_2 u0 u1 u2 u3 u4 u5) : P_X7_trace_143 (fun r T => Q r T ∧ K8 S0 T) X9_2 v0 v1 v4 v5 v6 S := by
  delta P_X7_trace_143 at h ⊢
  intro x2 e1
  have h := h x2 e1
  exact hX9 _ _ _ _ _ _ h K
set_option maxRecDepth 20000 in
set_option maxHeartbeats 1000000 in
theorem kx_X7_trace_56 {Q : Int32 → HS → Prop} {X9 X9_2 : Nat → Nat → Int32 → Int32 → Int32 → HS → Prop} {v0 : Nat} {v1 : Nat} {v4 : Int32} {v5 : Int32} {v6 : Int32} {s0 : Int32} {S0 S : HS} (h : P_X7_trace_56 Q X9 v0 v1 v4 v5 v6 s0 S) (K : K8 S0 S) (hX9 : ∀ (u0 : Nat) (u1 : Nat) (u2 : Int32) (u3 : Int32) (u4 : Int32) (u5 : HS), X9 u0 u1 u2 u3 u4 u5 → K8 S0 u5 → X9_2 u0 u1 u2 u3 u4 u5) : P_X7_trace_56 (fun r T => Q r T ∧ K8 S0 T) X9_2 v0 v1 v4 v5 v6 s0 S := by
  delta P_X7_trace_56 at h ⊢
  refine ⟨?_, ?_⟩
  · intro c1
    have h := h.1 c1
    obtain ⟨c2, h⟩ := h
    refine ⟨c2, ?_⟩
    have n3 := k8_nk K c2 (by decide)
    have o4 := c2
    obtain ⟨b5, e6, h⟩ := h
    refine ⟨b5, e6, ?_⟩
    have n7 := k8_nr K e6 o4 (by decide)
    obtain ⟨c8, h⟩ := h
    refine ⟨c8, ?_⟩
    obtain ⟨c9, h⟩ := h
    refine ⟨c9, ?_⟩
    intro x11 e10
    have h := h x11 e10
    have K := k8_I K e10 n7
    have o4 := ob_wI o4 e10
    refine ⟨?_, ?_⟩
    · intro c12
      have h := h.1 c12
      intro x14 e13
      have h := h x14 e13
      obtain ⟨c15, h⟩ := h
      refine ⟨c15, ?_⟩
      have n16 := k8_nk K c15 (by decide)
      have o17 := c15
      refine cm_X8_hasRoad (kx_X8_hasRoad h) h (fun x18 x19 p22 h g20 g21 => ?_)
      have h := h g20 g21
      have K := k8_tr K p22.2
      have o4 := gr_ob p22.2.1 o4
      have o17 := gr_ob p22.2.1 o17
      refine ⟨?_, ?_⟩
      · intro c23
        have h := h.1 c23
        exact kx_X7_trace_143 h K hX9
      · intro c24
        have h := h.2 c24
        obtain ⟨b25, e26, h⟩ := h
        refine ⟨b25, e26, ?_⟩
        intro x28 e27
        have h := h x28 e27
        obtain ⟨c29, h⟩ := h
        refine ⟨c29, ?_⟩
        have n30 := k8_nk K c29 (by decide)
        obtain ⟨c31, h⟩ := h
        refine ⟨c31, ?_⟩
        obtain ⟨b32, e33, h⟩ := h
        refine ⟨b32, e33, ?_⟩
        intro x35 e34
        have h := h x35 e34
        intro x37 e36
        have h := h x37 e36
        obtain ⟨c38, h⟩ := h
        refine ⟨c38, ?_⟩
        have n39 := k8_nk K c38 (by decide)
        refine cm_X5_endOf (kx_X5_endOf h) h (fun x40 x41 p43 h g42 => ?_)
        have h := h g42
        have K := k8_tr K p43.2
        have o4 := gr_ob p43.2.1 o4
        have o17 := gr_ob p43.2.1 o17
        intro x45 e44
        have h := h x45 e44
        refine cm_X5_minutesAt (kx_X5_minutesAt h) h (fun x46 x47 p49 h g48 => ?_)
        have h := h g48
        have K := k8_tr K p49.2
        have o4 := gr_ob p49.2.1 o4
        have o17 := gr_ob p49.2.1 o17
        intro x51 e50
        have h := h x51 e50
        exact kx_X7_trace_143 h K hX9
    · intro c52
      have h := h.2 c52
      intro x54 e53
      have h := h x54 e53
      exact kx_X7_trace_143 h K hX9
  · intro c55
    have h := h.2 c55
    exact ⟨h, K⟩
set_option maxRecDepth 20000 in
set_option maxHeartbeats 1000000 in
theorem kx_X7_trace_55 {Q : Int32 → HS → Prop} {X9 X9_2 : Nat → Nat → Int32 → Int32 → Int32 → HS → Prop} {v0 : Nat} {v1 : Nat} {v4 : Int32} {v5 : Int32} {v6 : Int32} {S0 S : HS} (h : P_X7_trace_55 Q X9 v0 v1 v4 v5 v6 S) (K : K8 S0 S) (hX9 : ∀ (u0 : Nat) (u1 : Nat) (u2 : Int32) (u3 : Int32) (u4 : Int32) (u5 : HS), X9 u0 u1 u2 u3 u4 u5 → K8 S0 u5 → X9_2 u0 u1 u2 u3 u4 u5) : P_X7_trace_55 (fun r T => Q r T ∧ K8 S0 T) X9_2 v0 v1 v4 v5 v6 S := by
  delta P_X7_trace_55 at h ⊢
  exact kx_X7_trace_56 h K hX9
set_option maxRecDepth 20000 in
set_option maxHeartbeats 1000000 in
theorem kxB_X7_trace_9 {Q : Int32 → HS → Prop} {X9 X9_2 : Nat → Nat → Int32 → Int32 → Int32 → HS → Prop} {v0 : Nat} {v1 : Nat} {v4 : Int32} {v5 : Int32} {v6 : Int32} {S0 S : HS} (h : B_X7_trace_9 Q X9 v0 v1 v4 v5 v6 S) (K : K8 S0 S) (hX9 : ∀ (u0 : Nat) (u1 : Nat) (u2 : Int32) (u3 : Int32) (u4 : Int32) (u5 : HS), X9 u0 u1 u2 u3 u4 u5 → K8 S0 u5 → X9_2 u0 u1 u2 u3 u4 u5) : B_X7_trace_9 (fun r T => Q r T ∧ K8 S0 T) X9_2 v0 v1 v4 v5 v6 S := by
  delta B_X7_trace_9 at h ⊢
  obtain ⟨c1, h⟩ := h
  refine ⟨c1, ?_⟩
  have n2 := k8_nk K c1 (by decide)
  have o3 := c1
  obtain ⟨b4, e5, h⟩ := h
  refine ⟨b4, e5, ?_⟩
  have n6 := k8_nr K e5 o3 (by decide)
  obtain ⟨c7, h⟩ := h
  refine ⟨c7, ?_⟩
  refine ⟨?_, ?_⟩
  · intro c8
    have h := h.1 c8
    obtain ⟨b9, e10, h⟩ := h
    refine ⟨b9, e10, ?_⟩
    have n11 := k8_nr K e10 o3 (by decide)
    obtain ⟨c12, h⟩ := h
    refine ⟨c12, ?_⟩
    exact ⟨h, K⟩
  · intro c13
    have h := h.2 c13
    intro x15 e14
    have h := h x15 e14
    refine ⟨?_, ?_⟩
    · intro c16
      have h := h.1 c16
      exact kx_X7_trace_55 h K hX9
    · intro c17
      have h := h.2 c17
      obtain ⟨b18, e19, h⟩ := h
      refine ⟨b18, e19, ?_⟩
      have n20 := k8_nr K e19 o3 (by decide)
      obtain ⟨c21, h⟩ := h
      refine ⟨c21, ?_⟩
      refine ⟨?_, ?_⟩
      · intro c22
        have h := h.1 c22
        exact kx_X7_trace_55 h K hX9
      · intro c23
        have h := h.2 c23
        obtain ⟨b24, e25, h⟩ := h
        refine ⟨b24, e25, ?_⟩
        have n26 := k8_nr K e25 o3 (by decide)
        obtain ⟨c27, h⟩ := h
        refine ⟨c27, ?_⟩
        obtain ⟨c28, h⟩ := h
        refine ⟨c28, ?_⟩
        intro x30 e29
        have h := h x30 e29
        exact kx_X7_trace_56 h K hX9
theorem kx_X7_trace_9 {Q : Int32 → HS → Prop} {v0 : Nat} {v1 : Nat} {v4 : Int32} {v5 : Int32} {v6 : Int32} {S0 S : HS} (h : P_X7_trace_9 Q v0 v1 v4 v5 v6 S) (K : K8 S0 S) : P_X7_trace_9 (fun r T => Q r T ∧ K8 S0 T) v0 v1 v4 v5 v6 S := h (fun v0 v1 v4 v5 v6 S => K8 S0 S → P_X7_trace_9 (fun r T => Q r T ∧ K8 S0 T) v0 v1 v4 v5 v6 S) (fun v0 v1 v4 v5 v6 S hB K => fd_X7_trace_9 (kxB_X7_trace_9 hB K (fun _ _ _ _ _ _ hx K => hx K))) K
set_option maxRecDepth 20000 in
set_option maxHeartbeats 1000000 in
theorem kx_X7_trace_0 {Q : Int32 → HS → Prop} {v0 : Nat} {v1 : Nat} {v2 : Int32} {v3 : Int32} {S0 S : HS} (h : P_X7_trace_0 Q v0 v1 v2 v3 S) (K : K8 S0 S) : P_X7_trace_0 (fun r T => Q r T ∧ K8 S0 T) v0 v1 v2 v3 S := by
  delta P_X7_trace_0 at h ⊢
  exact kx_X7_trace_9 h K
theorem kx_X7_trace {Q : Int32 → HS → Prop} {v0 : Nat} {v1 : Nat} {v2 : Int32} {v3 : Int32} {S : HS} (h : P_X7_trace v0 v1 v2 v3 Q S) : P_X7_trace v0 v1 v2 v3 (fun r T => Q r T ∧ K8 S T) S := kx_X7_trace_0 h (k8_rf S)
set_option maxRecDepth 20000 in
set_option maxHeartbeats 1000000 in
theorem kx_X9_grant_0 {Q : Int32 → HS → Prop} {v0 : Nat} {v1 : Int32} {S0 S : HS} (h : P_X9_grant_0 Q v0 v1 S) (K : K8 S0 S) : P_X9_grant_0 (fun r T => Q r T ∧ K8 S0 T) v0 v1 S := by
  delta P_X9_grant_0 at h ⊢
  obtain ⟨c1, h⟩ := h
  refine ⟨c1, ?_⟩
  have n2 := k8_nk K c1 (by decide)
  intro x4 e3
  have h := h x4 e3
  have K := k8_I K e3 n2
  exact ⟨h, K⟩
theorem kx_X9_grant {Q : Int32 → HS → Prop} {v0 : Nat} {v1 : Int32} {S : HS} (h : P_X9_grant v0 v1 Q S) : P_X9_grant v0 v1 (fun r T => Q r T ∧ K8 S T) S := kx_X9_grant_0 h (k8_rf S)
set_option maxRecDepth 20000 in
set_option maxHeartbeats 1000000 in
theorem kx_X9_isWay_0 {Q : Int32 → HS → Prop} {v0 : Int32} {S0 S : HS} (h : P_X9_isWay_0 Q v0 S) (K : K8 S0 S) : P_X9_isWay_0 (fun r T => Q r T ∧ K8 S0 T) v0 S := by
  delta P_X9_isWay_0 at h ⊢
  refine ⟨?_, ?_⟩
  · intro c1
    have h := h.1 c1
    exact ⟨h, K⟩
  · intro c2
    have h := h.2 c2
    refine ⟨?_, ?_⟩
    · intro c3
      have h := h.1 c3
      exact ⟨h, K⟩
    · intro c4
      have h := h.2 c4
      exact ⟨h, K⟩
theorem kx_X9_isWay {Q : Int32 → HS → Prop} {v0 : Int32} {S : HS} (h : P_X9_isWay v0 Q S) : P_X9_isWay v0 (fun r T => Q r T ∧ K8 S T) S := kx_X9_isWay_0 h (k8_rf S)
set_option maxRecDepth 20000 in
set_option maxHeartbeats 1000000 in
theorem kx_X9_air_0 {Q : Int32 → HS → Prop} {v0 : Nat} {v1 : Int32} {v2 : Int32} {v3 : Int32} {S0 S : HS} (h : P_X9_air_0 Q v0 v1 v2 v3 S) (K : K8 S0 S) : P_X9_air_0 (fun r T => Q r T ∧ K8 S0 T) v0 v1 v2 v3 S := by
  delta P_X9_air_0 at h ⊢
  obtain ⟨c1, h⟩ := h
  refine ⟨c1, ?_⟩
  have n2 := k8_nk K c1 (by decide)
  obtain ⟨b3, e4, h⟩ := h
  refine ⟨b3, e4, ?_⟩
  obtain ⟨c5, h⟩ := h
  refine ⟨c5, ?_⟩
  have n6 := k8_nk K c5 (by decide)
  have o7 := c5
  refine cm_X8_hasRoad (kx_X8_hasRoad h) h (fun x8 x9 p12 h g10 g11 => ?_)
  have h := h g10 g11
  have K := k8_tr K p12.2
  have o7 := gr_ob p12.2.1 o7
  refine ⟨?_, ?_⟩
  · intro c13
    have h := h.1 c13
    intro x15 e14
    have h := h x15 e14
    have K := k8_I K e14 n2
    have o7 := ob_wI o7 e14
    exact ⟨h, K⟩
  · intro c16
    have h := h.2 c16
    refine cm_X9_isWay (kx_X9_isWay h) h (fun x17 x18 p21 h g19 g20 => ?_)
    have h := h g19 g20
    have K := k8_tr K p21.2
    have o7 := gr_ob p21.2.1 o7
    refine ⟨?_, ?_⟩
    · intro c22
      have h := h.1 c22
      intro x24 e23
      have h := h x24 e23
      have K := k8_I K e23 n2
      have o7 := ob_wI o7 e23
      exact ⟨h, K⟩
    · intro c25
      have h := h.2 c25
      obtain ⟨b26, e27, h⟩ := h
      refine ⟨b26, e27, ?_⟩
      obtain ⟨c28, h⟩ := h
      refine ⟨c28, ?_⟩
      have n29 := k8_nk K c28 (by decide)
      have o30 := c28
      refine cm_X8_hasHour (kx_X8_hasHour h) h (fun x31 x32 p35 h g33 g34 => ?_)
      have h := h g33 g34
      have K := k8_tr K p35.2
      have o7 := gr_ob p35.2.1 o7
      have o30 := gr_ob p35.2.1 o30
      refine ⟨?_, ?_⟩
      · intro c36
        have h := h.1 c36
        obtain ⟨b37, e38, h⟩ := h
        refine ⟨b37, e38, ?_⟩
        obtain ⟨c39, h⟩ := h
        refine ⟨c39, ?_⟩
        have n40 := k8_nk K c39 (by decide)
        have o41 := c39
        obtain ⟨b42, e43, h⟩ := h
        refine ⟨b42, e43, ?_⟩
        obtain ⟨c44, h⟩ := h
        refine ⟨c44, ?_⟩
        have n45 := k8_nk K c44 (by decide)
        obtain ⟨c46, h⟩ := h
        refine ⟨c46, ?_⟩
        obtain ⟨b47, e48, h⟩ := h
        refine ⟨b47, e48, ?_⟩
        obtain ⟨b49, e50, h⟩ := h
        refine ⟨b49, e50, ?_⟩
        obtain ⟨c51, h⟩ := h
        refine ⟨c51, ?_⟩
        have n52 := k8_nk K c51 (by decide)
        have o53 := c51
        obtain ⟨b54, e55, h⟩ := h
        refine ⟨b54, e55, ?_⟩
        obtain ⟨c56, h⟩ := h
        refine ⟨c56, ?_⟩
        have n57 := k8_nk K c56 (by decide)
        obtain ⟨c58, h⟩ := h
        refine ⟨c58, ?_⟩
        obtain ⟨b59, e60, h⟩ := h
        refine ⟨b59, e60, ?_⟩
        obtain ⟨c61, h⟩ := h
        refine ⟨c61, ?_⟩
        have n62 := k8_nk K c61 (by decide)
        refine cm_X5_airAlong (kx_X5_airAlong h) h (fun x63 x64 p66 h g65 => ?_)
        have h := h g65
        have K := k8_tr K p66.2
        have o7 := gr_ob p66.2.1 o7
        have o30 := gr_ob p66.2.1 o30
        have o41 := gr_ob p66.2.1 o41
        have o53 := gr_ob p66.2.1 o53
        refine cm_X9_grant (kx_X9_grant h) h (fun x67 x68 p70 h g69 => ?_)
        have h := h g69
        have K := k8_tr K p70.2
        have o7 := gr_ob p70.2.1 o7
        have o30 := gr_ob p70.2.1 o30
        have o41 := gr_ob p70.2.1 o41
        have o53 := gr_ob p70.2.1 o53
        exact ⟨h, K⟩
      · intro c71
        have h := h.2 c71
        intro x73 e72
        have h := h x73 e72
        have K := k8_I K e72 n2
        have o7 := ob_wI o7 e72
        have o30 := ob_wI o30 e72
        exact ⟨h, K⟩
theorem kx_X9_air {Q : Int32 → HS → Prop} {v0 : Nat} {v1 : Int32} {v2 : Int32} {v3 : Int32} {S : HS} (h : P_X9_air v0 v1 v2 v3 Q S) : P_X9_air v0 v1 v2 v3 (fun r T => Q r T ∧ K8 S T) S := kx_X9_air_0 h (k8_rf S)
set_option maxRecDepth 20000 in
set_option maxHeartbeats 1000000 in
theorem kx_X9_refusedBy_0 {Q : Int32 → HS → Prop} {v0 : Nat} {v1 : Int32} {S0 S : HS} (h : P_X9_refusedBy_0 Q v0 v1 S) (K : K8 S0 S) : P_X9_refusedBy_0 (fun r T => Q r T ∧ K8 S0 T) v0 v1 S := by
  delta P_X9_refusedBy_0 at h ⊢
  obtain ⟨c1, h⟩ := h
  refine ⟨c1, ?_⟩
  have n2 := k8_nk K c1 (by decide)
  intro x4 e3
  have h := h x4 e3
  have K := k8_I K e3 n2
  refine ⟨?_, ?_⟩
  · intro c5
    have h := h.1 c5
    exact ⟨h, K⟩
  · intro c6
    have h := h.2 c6
    exact ⟨h, K⟩
theorem kx_X9_refusedBy {Q : Int32 → HS → Prop} {v0 : Nat} {v1 : Int32} {S : HS} (h : P_X9_refusedBy v0 v1 Q S) : P_X9_refusedBy v0 v1 (fun r T => Q r T ∧ K8 S T) S := kx_X9_refusedBy_0 h (k8_rf S)
set_option maxRecDepth 20000 in
set_option maxHeartbeats 1000000 in
theorem kx_X9_back_17 {Q : Int32 → HS → Prop} {s0 : Nat} {s1 : Int32} {S0 S : HS} (h : P_X9_back_17 Q s0 s1 S) (K : K8 S0 S) : P_X9_back_17 (fun r T => Q r T ∧ K8 S0 T) s0 s1 S := by
  delta P_X9_back_17 at h ⊢
  obtain ⟨c1, h⟩ := h
  refine ⟨c1, ?_⟩
  have n2 := k8_nk K c1 (by decide)
  refine cm_X9_refusedBy (kx_X9_refusedBy h) h (fun x3 x4 p7 h g5 g6 => ?_)
  have h := h g5 g6
  have K := k8_tr K p7.2
  refine ⟨?_, ?_⟩
  · intro c8
    have h := h.1 c8
    exact ⟨h, K⟩
  · intro c9
    have h := h.2 c9
    exact ⟨h, K⟩
set_option maxRecDepth 20000 in
set_option maxHeartbeats 1000000 in
theorem kx_X9_back_0 {Q : Int32 → HS → Prop} {v0 : Nat} {v1 : Int32} {S0 S : HS} (h : P_X9_back_0 Q v0 v1 S) (K : K8 S0 S) : P_X9_back_0 (fun r T => Q r T ∧ K8 S0 T) v0 v1 S := by
  delta P_X9_back_0 at h ⊢
  obtain ⟨c1, h⟩ := h
  refine ⟨c1, ?_⟩
  have n2 := k8_nk K c1 (by decide)
  obtain ⟨b3, e4, h⟩ := h
  refine ⟨b3, e4, ?_⟩
  obtain ⟨c5, h⟩ := h
  refine ⟨c5, ?_⟩
  have n6 := k8_nk K c5 (by decide)
  refine cm_X0_returnTo (kx_X0_returnTo h) h (fun x7 x8 p11 h g9 g10 => ?_)
  have h := h g9 g10
  have K := k8_tr K p11.2
  refine ⟨?_, ?_⟩
  · intro c12
    have h := h.1 c12
    exact kx_X9_back_17 h K
  · intro c13
    have h := h.2 c13
    exact kx_X9_back_17 h K
theorem kx_X9_back {Q : Int32 → HS → Prop} {v0 : Nat} {v1 : Int32} {S : HS} (h : P_X9_back v0 v1 Q S) : P_X9_back v0 v1 (fun r T => Q r T ∧ K8 S T) S := kx_X9_back_0 h (k8_rf S)
set_option maxRecDepth 20000 in
set_option maxHeartbeats 1000000 in
theorem kx_X9_tripTrouble_46 {Q : Int32 → HS → Prop} {s0 : Int32} {S0 S : HS} (h : P_X9_tripTrouble_46 Q s0 S) (K : K8 S0 S) : P_X9_tripTrouble_46 (fun r T => Q r T ∧ K8 S0 T) s0 S := by
  delta P_X9_tripTrouble_46 at h ⊢
  refine ⟨?_, ?_⟩
  · intro c1
    have h := h.1 c1
    exact ⟨h, K⟩
  · intro c2
    have h := h.2 c2
    exact ⟨h, K⟩
set_option maxRecDepth 20000 in
set_option maxHeartbeats 1000000 in
theorem kx_X9_tripTrouble_45 {Q : Int32 → HS → Prop} {S0 S : HS} (h : P_X9_tripTrouble_45 Q S) (K : K8 S0 S) : P_X9_tripTrouble_45 (fun r T => Q r T ∧ K8 S0 T) S := by
  delta P_X9_tripTrouble_45 at h ⊢
  exact kx_X9_tripTrouble_46 h K
set_option maxRecDepth 20000 in
set_option maxHeartbeats 1000000 in
theorem kx_X9_tripTrouble_0 {Q : Int32 → HS → Prop} {v0 : Nat} {v1 : Int32} {v2 : Int32} {v3 : Int32} {v4 : Int32} {S0 S : HS} (h : P_X9_tripTrouble_0 Q v0 v1 v2 v3 v4 S) (K : K8 S0 S) : P_X9_tripTrouble_0 (fun r T => Q r T ∧ K8 S0 T) v0 v1 v2 v3 v4 S := by
  delta P_X9_tripTrouble_0 at h ⊢
  obtain ⟨c1, h⟩ := h
  refine ⟨c1, ?_⟩
  have n2 := k8_nk K c1 (by decide)
  obtain ⟨b3, e4, h⟩ := h
  refine ⟨b3, e4, ?_⟩
  obtain ⟨c5, h⟩ := h
  refine ⟨c5, ?_⟩
  have n6 := k8_nk K c5 (by decide)
  have o7 := c5
  refine cm_X8_hasWalker (kx_X8_hasWalker h) h (fun x8 x9 p12 h g10 g11 => ?_)
  have h := h g10 g11
  have K := k8_tr K p12.2
  have o7 := gr_ob p12.2.1 o7
  refine ⟨?_, ?_⟩
  · intro c13
    have h := h.1 c13
    exact kx_X9_tripTrouble_45 h K
  · intro c14
    have h := h.2 c14
    obtain ⟨b15, e16, h⟩ := h
    refine ⟨b15, e16, ?_⟩
    obtain ⟨c17, h⟩ := h
    refine ⟨c17, ?_⟩
    have n18 := k8_nk K c17 (by decide)
    have o19 := c17
    refine cm_X8_hasRoad (kx_X8_hasRoad h) h (fun x20 x21 p24 h g22 g23 => ?_)
    have h := h g22 g23
    have K := k8_tr K p24.2
    have o7 := gr_ob p24.2.1 o7
    have o19 := gr_ob p24.2.1 o19
    refine ⟨?_, ?_⟩
    · intro c25
      have h := h.1 c25
      exact kx_X9_tripTrouble_45 h K
    · intro c26
      have h := h.2 c26
      refine cm_X9_isWay (kx_X9_isWay h) h (fun x27 x28 p31 h g29 g30 => ?_)
      have h := h g29 g30
      have K := k8_tr K p31.2
      have o7 := gr_ob p31.2.1 o7
      have o19 := gr_ob p31.2.1 o19
      refine ⟨?_, ?_⟩
      · intro c32
        have h := h.1 c32
        exact kx_X9_tripTrouble_45 h K
      · intro c33
        have h := h.2 c33
        obtain ⟨b34, e35, h⟩ := h
        refine ⟨b34, e35, ?_⟩
        obtain ⟨c36, h⟩ := h
        refine ⟨c36, ?_⟩
        have n37 := k8_nk K c36 (by decide)
        have o38 := c36
        refine cm_X8_hasHour (kx_X8_hasHour h) h (fun x39 x40 p43 h g41 g42 => ?_)
        have h := h g41 g42
        have K := k8_tr K p43.2
        have o7 := gr_ob p43.2.1 o7
        have o19 := gr_ob p43.2.1 o19
        have o38 := gr_ob p43.2.1 o38
        refine ⟨?_, ?_⟩
        · intro c44
          have h := h.1 c44
          exact kx_X9_tripTrouble_45 h K
        · intro c45
          have h := h.2 c45
          exact kx_X9_tripTrouble_46 h K
theorem kx_X9_tripTrouble {Q : Int32 → HS → Prop} {v0 : Nat} {v1 : Int32} {v2 : Int32} {v3 : Int32} {v4 : Int32} {S : HS} (h : P_X9_tripTrouble v0 v1 v2 v3 v4 Q S) : P_X9_tripTrouble v0 v1 v2 v3 v4 (fun r T => Q r T ∧ K8 S T) S := kx_X9_tripTrouble_0 h (k8_rf S)
set_option maxRecDepth 20000 in
set_option maxHeartbeats 1000000 in
theorem kx_X9_best_0 {Q : Int32 → HS → Prop} {v0 : Nat} {v1 : Int32} {v2 : Int32} {v3 : Int32} {v4 : Int32} {S0 S : HS} (h : P_X9_best_0 Q v0 v1 v2 v3 v4 S) (K : K8 S0 S) : P_X9_best_0 (fun r T => Q r T ∧ K8 S0 T) v0 v1 v2 v3 v4 S := by
  delta P_X9_best_0 at h ⊢
  obtain ⟨c1, h⟩ := h
  refine ⟨c1, ?_⟩
  have n2 := k8_nk K c1 (by decide)
  refine cm_X9_tripTrouble (kx_X9_tripTrouble h) h (fun x3 x4 p6 h g5 => ?_)
  have h := h g5
  have K := k8_tr K p6.2
  refine cm_X9_refusedBy (kx_X9_refusedBy h) h (fun x7 x8 p11 h g9 g10 => ?_)
  have h := h g9 g10
  have K := k8_tr K p11.2
  refine ⟨?_, ?_⟩
  · intro c12
    have h := h.1 c12
    obtain ⟨b13, e14, h⟩ := h
    refine ⟨b13, e14, ?_⟩
    obtain ⟨b15, e16, h⟩ := h
    refine ⟨b15, e16, ?_⟩
    obtain ⟨c17, h⟩ := h
    refine ⟨c17, ?_⟩
    have n18 := k8_nk K c17 (by decide)
    have o19 := c17
    obtain ⟨b20, e21, h⟩ := h
    refine ⟨b20, e21, ?_⟩
    obtain ⟨c22, h⟩ := h
    refine ⟨c22, ?_⟩
    have n23 := k8_nk K c22 (by decide)
    obtain ⟨c24, h⟩ := h
    refine ⟨c24, ?_⟩
    obtain ⟨b25, e26, h⟩ := h
    refine ⟨b25, e26, ?_⟩
    obtain ⟨b27, e28, h⟩ := h
    refine ⟨b27, e28, ?_⟩
    obtain ⟨c29, h⟩ := h
    refine ⟨c29, ?_⟩
    have n30 := k8_nk K c29 (by decide)
    have o31 := c29
    obtain ⟨b32, e33, h⟩ := h
    refine ⟨b32, e33, ?_⟩
    obtain ⟨c34, h⟩ := h
    refine ⟨c34, ?_⟩
    have n35 := k8_nk K c34 (by decide)
    obtain ⟨c36, h⟩ := h
    refine ⟨c36, ?_⟩
    obtain ⟨b37, e38, h⟩ := h
    refine ⟨b37, e38, ?_⟩
    obtain ⟨b39, e40, h⟩ := h
    refine ⟨b39, e40, ?_⟩
    obtain ⟨c41, h⟩ := h
    refine ⟨c41, ?_⟩
    have n42 := k8_nk K c41 (by decide)
    have o43 := c41
    obtain ⟨b44, e45, h⟩ := h
    refine ⟨b44, e45, ?_⟩
    obtain ⟨c46, h⟩ := h
    refine ⟨c46, ?_⟩
    have n47 := k8_nk K c46 (by decide)
    obtain ⟨c48, h⟩ := h
    refine ⟨c48, ?_⟩
    obtain ⟨b49, e50, h⟩ := h
    refine ⟨b49, e50, ?_⟩
    obtain ⟨c51, h⟩ := h
    refine ⟨c51, ?_⟩
    have n52 := k8_nk K c51 (by decide)
    refine cm_X1_bestSpeed (kx_X1_bestSpeed h) h (fun x53 x54 p56 h g55 => ?_)
    have h := h g55
    have K := k8_tr K p56.2
    have o19 := gr_ob p56.2.1 o19
    have o31 := gr_ob p56.2.1 o31
    have o43 := gr_ob p56.2.1 o43
    exact ⟨h, K⟩
  · intro c57
    have h := h.2 c57
    exact ⟨h, K⟩
theorem kx_X9_best {Q : Int32 → HS → Prop} {v0 : Nat} {v1 : Int32} {v2 : Int32} {v3 : Int32} {v4 : Int32} {S : HS} (h : P_X9_best v0 v1 v2 v3 v4 Q S) : P_X9_best v0 v1 v2 v3 v4 (fun r T => Q r T ∧ K8 S T) S := kx_X9_best_0 h (k8_rf S)
set_option maxRecDepth 20000 in
set_option maxHeartbeats 1000000 in
theorem kx_X9_coatParts_0 {Q : Int64 → HS → Prop} {v0 : Nat} {S0 S : HS} (h : P_X9_coatParts_0 Q v0 S) (K : K8 S0 S) : P_X9_coatParts_0 (fun r T => Q r T ∧ K8 S0 T) v0 S := by
  delta P_X9_coatParts_0 at h ⊢
  obtain ⟨c1, h⟩ := h
  refine ⟨c1, ?_⟩
  have n2 := k8_nk K c1 (by decide)
  intro x4 e3
  have h := h x4 e3
  refine ⟨?_, ?_⟩
  · intro c5
    have h := h.1 c5
    exact ⟨h, K⟩
  · intro c6
    have h := h.2 c6
    intro x8 e7
    have h := h x8 e7
    exact ⟨h, K⟩
theorem kx_X9_coatParts {Q : Int64 → HS → Prop} {v0 : Nat} {S : HS} (h : P_X9_coatParts v0 Q S) : P_X9_coatParts v0 (fun r T => Q r T ∧ K8 S T) S := kx_X9_coatParts_0 h (k8_rf S)
end
section
set_option maxRecDepth 20000 in
set_option maxHeartbeats 1000000 in
theorem kxB_X9_commonDivisor_9 {Q : Int64 → HS → Prop} {X9 X9_2 : Int64 → Int64 → Int32 → HS → Prop} {v4 : Int64} {v6 : Int64} {v8 : Int32} {S0 S : HS} (h : B_X9_commonDivisor_9 Q X9 v4 v6 v8 S) (K : K8 S0 S) (hX9 : ∀ (u0 : Int64) (u1 : Int64) (u2 : Int32) (u3 : HS), X9 u0 u1 u2 u3 → K8 S0 u3 → X9_2 u0 u1 u2 u3) : B_X9_commonDivisor_9 (fun r T => Q r T ∧ K8 S0 T) X9_2 v4 v6 v8 S := by
  delta B_X9_commonDivisor_9 at h ⊢
  refine ⟨?_, ?_⟩
  · intro c1
    have h := h.1 c1
    exact ⟨h, K⟩
  · intro c2
    have h := h.2 c2
    refine ⟨?_, ?_⟩
    · intro c3
      have h := h.1 c3
      exact ⟨h, K⟩
    · intro c4
      have h := h.2 c4
      obtain ⟨c5, h⟩ := h
      refine ⟨c5, ?_⟩
      intro x7 e6
      have h := h x7 e6
      intro x9 e8
      have h := h x9 e8
      exact hX9 _ _ _ _ h K
theorem kx_X9_commonDivisor_9 {Q : Int64 → HS → Prop} {v4 : Int64} {v6 : Int64} {v8 : Int32} {S0 S : HS} (h : P_X9_commonDivisor_9 Q v4 v6 v8 S) (K : K8 S0 S) : P_X9_commonDivisor_9 (fun r T => Q r T ∧ K8 S0 T) v4 v6 v8 S := h (fun v4 v6 v8 S => K8 S0 S → P_X9_commonDivisor_9 (fun r T => Q r T ∧ K8 S0 T) v4 v6 v8 S) (fun v4 v6 v8 S hB K => fd_X9_commonDivisor_9 (kxB_X9_commonDivisor_9 hB K (fun _ _ _ _ hx K => hx K))) K
set_option maxRecDepth 20000 in
set_option maxHeartbeats 1000000 in
theorem kx_X9_commonDivisor_0 {Q : Int64 → HS → Prop} {v0 : Int64} {v2 : Int64} {S0 S : HS} (h : P_X9_commonDivisor_0 Q v0 v2 S) (K : K8 S0 S) : P_X9_commonDivisor_0 (fun r T => Q r T ∧ K8 S0 T) v0 v2 S := by
  delta P_X9_commonDivisor_0 at h ⊢
  exact kx_X9_commonDivisor_9 h K
theorem kx_X9_commonDivisor {Q : Int64 → HS → Prop} {v0 : Int64} {v2 : Int64} {S : HS} (h : P_X9_commonDivisor v0 v2 Q S) : P_X9_commonDivisor v0 v2 (fun r T => Q r T ∧ K8 S T) S := kx_X9_commonDivisor_0 h (k8_rf S)
set_option maxRecDepth 20000 in
set_option maxHeartbeats 1000000 in
theorem kx_X9_refuse_0 {Q : Int32 → HS → Prop} {v0 : Nat} {v1 : Int32} {S0 S : HS} (h : P_X9_refuse_0 Q v0 v1 S) (K : K8 S0 S) : P_X9_refuse_0 (fun r T => Q r T ∧ K8 S0 T) v0 v1 S := by
  delta P_X9_refuse_0 at h ⊢
  obtain ⟨c1, h⟩ := h
  refine ⟨c1, ?_⟩
  have n2 := k8_nk K c1 (by decide)
  intro x4 e3
  have h := h x4 e3
  have K := k8_I K e3 n2
  exact ⟨h, K⟩
theorem kx_X9_refuse {Q : Int32 → HS → Prop} {v0 : Nat} {v1 : Int32} {S : HS} (h : P_X9_refuse v0 v1 Q S) : P_X9_refuse v0 v1 (fun r T => Q r T ∧ K8 S T) S := kx_X9_refuse_0 h (k8_rf S)
set_option maxRecDepth 20000 in
set_option maxHeartbeats 1000000 in
theorem kx_X9_day_22 {Q : Int32 → HS → Prop} {v0 : Nat} {S0 S : HS} (h : P_X9_day_22 Q v0 S) (K : K8 S0 S) : P_X9_day_22 (fun r T => Q r T ∧ K8 S0 T) v0 S := by
  delta P_X9_day_22 at h ⊢
  obtain ⟨c1, h⟩ := h
  refine ⟨c1, ?_⟩
  have n2 := k8_nk K c1 (by decide)
  refine cm_X9_refuse (kx_X9_refuse h) h (fun x3 x4 p6 h g5 => ?_)
  have h := h g5
  have K := k8_tr K p6.2
  exact ⟨h, K⟩
set_option maxRecDepth 20000 in
set_option maxHeartbeats 1000000 in
theorem kx_X9_day_52 {Q : Int32 → HS → Prop} {v0 : Nat} {S0 S : HS} (h : P_X9_day_52 Q v0 S) (K : K8 S0 S) : P_X9_day_52 (fun r T => Q r T ∧ K8 S0 T) v0 S := by
  delta P_X9_day_52 at h ⊢
  obtain ⟨c1, h⟩ := h
  refine ⟨c1, ?_⟩
  have n2 := k8_nk K c1 (by decide)
  refine cm_X9_refuse (kx_X9_refuse h) h (fun x3 x4 p6 h g5 => ?_)
  have h := h g5
  have K := k8_tr K p6.2
  exact ⟨h, K⟩
set_option maxRecDepth 20000 in
set_option maxHeartbeats 1000000 in
theorem kx_X9_day_0 {Q : Int32 → HS → Prop} {v0 : Nat} {v1 : Int32} {v2 : Int32} {v3 : Int32} {v4 : Int32} {S0 S : HS} (h : P_X9_day_0 Q v0 v1 v2 v3 v4 S) (K : K8 S0 S) : P_X9_day_0 (fun r T => Q r T ∧ K8 S0 T) v0 v1 v2 v3 v4 S := by
  delta P_X9_day_0 at h ⊢
  obtain ⟨c1, h⟩ := h
  refine ⟨c1, ?_⟩
  have n2 := k8_nk K c1 (by decide)
  obtain ⟨b3, e4, h⟩ := h
  refine ⟨b3, e4, ?_⟩
  obtain ⟨c5, h⟩ := h
  refine ⟨c5, ?_⟩
  have n6 := k8_nk K c5 (by decide)
  have o7 := c5
  refine cm_X8_hasWalker (kx_X8_hasWalker h) h (fun x8 x9 p12 h g10 g11 => ?_)
  have h := h g10 g11
  have K := k8_tr K p12.2
  have o7 := gr_ob p12.2.1 o7
  refine ⟨?_, ?_⟩
  · intro c13
    have h := h.1 c13
    exact kx_X9_day_22 h K
  · intro c14
    have h := h.2 c14
    obtain ⟨b15, e16, h⟩ := h
    refine ⟨b15, e16, ?_⟩
    obtain ⟨c17, h⟩ := h
    refine ⟨c17, ?_⟩
    have n18 := k8_nk K c17 (by decide)
    have o19 := c17
    refine cm_X8_hasPlace (kx_X8_hasPlace h) h (fun x20 x21 p24 h g22 g23 => ?_)
    have h := h g22 g23
    have K := k8_tr K p24.2
    have o7 := gr_ob p24.2.1 o7
    have o19 := gr_ob p24.2.1 o19
    refine ⟨?_, ?_⟩
    · intro c25
      have h := h.1 c25
      refine ⟨?_, ?_⟩
      · intro c26
        have h := h.1 c26
        exact kx_X9_day_52 h K
      · intro c27
        have h := h.2 c27
        refine ⟨?_, ?_⟩
        · intro c28
          have h := h.1 c28
          exact kx_X9_day_52 h K
        · intro c29
          have h := h.2 c29
          refine ⟨?_, ?_⟩
          · intro c30
            have h := h.1 c30
            exact kx_X9_day_52 h K
          · intro c31
            have h := h.2 c31
            refine ⟨?_, ?_⟩
            · intro c32
              have h := h.1 c32
              obtain ⟨b33, e34, h⟩ := h
              refine ⟨b33, e34, ?_⟩
              obtain ⟨c35, h⟩ := h
              refine ⟨c35, ?_⟩
              have n36 := k8_nk K c35 (by decide)
              refine cm_X0_begin (kx_X0_begin h) h (fun x37 p39 h g38 => ?_)
              have h := h g38
              have K := k8_tr K p39.2
              have o7 := gr_ob p39.2.1 o7
              have o19 := gr_ob p39.2.1 o19
              obtain ⟨b40, e41, h⟩ := h
              refine ⟨b40, e41, ?_⟩
              obtain ⟨b42, e43, h⟩ := h
              refine ⟨b42, e43, ?_⟩
              obtain ⟨c44, h⟩ := h
              refine ⟨c44, ?_⟩
              have n45 := k8_nk K c44 (by decide)
              refine cm_X0_draw (kx_X0_draw h) h (fun x46 p48 h g47 => ?_)
              have h := h g47
              have K := k8_tr K p48.2
              have o7 := gr_ob p48.2.1 o7
              have o19 := gr_ob p48.2.1 o19
              obtain ⟨b49, e50, h⟩ := h
              refine ⟨b49, e50, ?_⟩
              obtain ⟨c51, h⟩ := h
              refine ⟨c51, ?_⟩
              have n52 := k8_nk K c51 (by decide)
              intro x54 e53
              have h := h x54 e53
              refine cm_X9_grant (kx_X9_grant h) h (fun x55 x56 p58 h g57 => ?_)
              have h := h g57
              have K := k8_tr K p58.2
              have o7 := gr_ob p58.2.1 o7
              have o19 := gr_ob p58.2.1 o19
              exact ⟨h, K⟩
            · intro c59
              have h := h.2 c59
              exact kx_X9_day_52 h K
    · intro c60
      have h := h.2 c60
      exact kx_X9_day_22 h K
theorem kx_X9_day {Q : Int32 → HS → Prop} {v0 : Nat} {v1 : Int32} {v2 : Int32} {v3 : Int32} {v4 : Int32} {S : HS} (h : P_X9_day v0 v1 v2 v3 v4 Q S) : P_X9_day v0 v1 v2 v3 v4 (fun r T => Q r T ∧ K8 S T) S := kx_X9_day_0 h (k8_rf S)
set_option maxRecDepth 20000 in
set_option maxHeartbeats 1000000 in
theorem kx_X9_driest_29 {Q : Int32 → HS → Prop} {v0 : Nat} {S0 S : HS} (h : P_X9_driest_29 Q v0 S) (K : K8 S0 S) : P_X9_driest_29 (fun r T => Q r T ∧ K8 S0 T) v0 S := by
  delta P_X9_driest_29 at h ⊢
  obtain ⟨c1, h⟩ := h
  refine ⟨c1, ?_⟩
  have n2 := k8_nk K c1 (by decide)
  refine cm_X9_refuse (kx_X9_refuse h) h (fun x3 x4 p6 h g5 => ?_)
  have h := h g5
  have K := k8_tr K p6.2
  exact ⟨h, K⟩
set_option maxRecDepth 20000 in
set_option maxHeartbeats 1000000 in
theorem kx_X9_driest_140 {Q : Int32 → HS → Prop} {X63 X63_2 : Nat → Int32 → Int32 → Int32 → Int32 → Int64 → Int32 → HS → Prop} {v0 : Nat} {v1 : Int32} {v2 : Int32} {v3 : Int32} {v4 : Int32} {v5 : Int64} {v7 : Int32} {S0 S : HS} (h : P_X9_driest_140 Q X63 v0 v1 v2 v3 v4 v5 v7 S) (K : K8 S0 S) (hX63 : ∀ (u0 : Nat) (u1 : Int32) (u2 : Int32) (u3 : Int32) (u4 : Int32) (u5 : Int64) (u6 : Int32) (u7 : HS), X63 u0 u1 u2 u3 u4 u5 u6 u7 → K8 S0 u7 → X63_2 u0 u1 u2 u3 u4 u5 u6 u7) : P_X9_driest_140 (fun r T => Q r T ∧ K8 S0 T) X63_2 v0 v1 v2 v3 v4 v5 v7 S := by
  delta P_X9_driest_140 at h ⊢
  intro x2 e1
  have h := h x2 e1
  exact hX63 _ _ _ _ _ _ _ _ h K
set_option maxRecDepth 20000 in
set_option maxHeartbeats 1000000 in
theorem kxB_X9_driest_63 {Q : Int32 → HS → Prop} {X63 X63_2 : Nat → Int32 → Int32 → Int32 → Int32 → Int64 → Int32 → HS → Prop} {v0 : Nat} {v1 : Int32} {v2 : Int32} {v3 : Int32} {v4 : Int32} {v5 : Int64} {v7 : Int32} {S0 S : HS} (h : B_X9_driest_63 Q X63 v0 v1 v2 v3 v4 v5 v7 S) (K : K8 S0 S) (hX63 : ∀ (u0 : Nat) (u1 : Int32) (u2 : Int32) (u3 : Int32) (u4 : Int32) (u5 : Int64) (u6 : Int32) (u7 : HS), X63 u0 u1 u2 u3 u4 u5 u6 u7 → K8 S0 u7 → X63_2 u0 u1 u2 u3 u4 u5 u6 u7) : B_X9_driest_63 (fun r T => Q r T ∧ K8 S0 T) X63_2 v0 v1 v2 v3 v4 v5 v7 S := by
  delta B_X9_driest_63 at h ⊢
  obtain ⟨c1, h⟩ := h
  refine ⟨c1, ?_⟩
  have n2 := k8_nk K c1 (by decide)
  obtain ⟨b3, e4, h⟩ := h
  refine ⟨b3, e4, ?_⟩
  obtain ⟨c5, h⟩ := h
  refine ⟨c5, ?_⟩
  have n6 := k8_nk K c5 (by decide)
  have o7 := c5
  intro x9 e8
  have h := h x9 e8
  refine ⟨?_, ?_⟩
  · intro c10
    have h := h.1 c10
    refine cm_X9_grant (kx_X9_grant h) h (fun x11 x12 p14 h g13 => ?_)
    have h := h g13
    have K := k8_tr K p14.2
    have o7 := gr_ob p14.2.1 o7
    exact ⟨h, K⟩
  · intro c15
    have h := h.2 c15
    obtain ⟨b16, e17, h⟩ := h
    refine ⟨b16, e17, ?_⟩
    obtain ⟨c18, h⟩ := h
    refine ⟨c18, ?_⟩
    have n19 := k8_nk K c18 (by decide)
    have o20 := c18
    obtain ⟨b21, e22, h⟩ := h
    refine ⟨b21, e22, ?_⟩
    obtain ⟨c23, h⟩ := h
    refine ⟨c23, ?_⟩
    have n24 := k8_nk K c23 (by decide)
    obtain ⟨c25, h⟩ := h
    refine ⟨c25, ?_⟩
    obtain ⟨b26, e27, h⟩ := h
    refine ⟨b26, e27, ?_⟩
    obtain ⟨b28, e29, h⟩ := h
    refine ⟨b28, e29, ?_⟩
    obtain ⟨b30, e31, h⟩ := h
    refine ⟨b30, e31, ?_⟩
    obtain ⟨c32, h⟩ := h
    refine ⟨c32, ?_⟩
    have n33 := k8_nk K c32 (by decide)
    have o34 := c32
    obtain ⟨b35, e36, h⟩ := h
    refine ⟨b35, e36, ?_⟩
    obtain ⟨c37, h⟩ := h
    refine ⟨c37, ?_⟩
    have n38 := k8_nk K c37 (by decide)
    obtain ⟨c39, h⟩ := h
    refine ⟨c39, ?_⟩
    obtain ⟨b40, e41, h⟩ := h
    refine ⟨b40, e41, ?_⟩
    obtain ⟨b42, e43, h⟩ := h
    refine ⟨b42, e43, ?_⟩
    obtain ⟨c44, h⟩ := h
    refine ⟨c44, ?_⟩
    have n45 := k8_nk K c44 (by decide)
    have o46 := c44
    obtain ⟨b47, e48, h⟩ := h
    refine ⟨b47, e48, ?_⟩
    obtain ⟨c49, h⟩ := h
    refine ⟨c49, ?_⟩
    have n50 := k8_nk K c49 (by decide)
    obtain ⟨c51, h⟩ := h
    refine ⟨c51, ?_⟩
    obtain ⟨b52, e53, h⟩ := h
    refine ⟨b52, e53, ?_⟩
    obtain ⟨c54, h⟩ := h
    refine ⟨c54, ?_⟩
    have n55 := k8_nk K c54 (by decide)
    refine cm_X1_leastWet (kx_X1_leastWet h) h (fun x56 x57 p59 h g58 => ?_)
    have h := h g58
    have K := k8_tr K p59.2
    have o7 := gr_ob p59.2.1 o7
    have o20 := gr_ob p59.2.1 o20
    have o34 := gr_ob p59.2.1 o34
    have o46 := gr_ob p59.2.1 o46
    obtain ⟨c60, h⟩ := h
    refine ⟨c60, ?_⟩
    have n61 := k8_nk K c60 (by decide)
    intro x63 e62
    have h := h x63 e62
    intro x65 e64
    have h := h x65 e64
    refine ⟨?_, ?_⟩
    · intro c66
      have h := h.1 c66
      exact kx_X9_driest_140 h K hX63
    · intro c67
      have h := h.2 c67
      exact kx_X9_driest_140 h K hX63
theorem kx_X9_driest_63 {Q : Int32 → HS → Prop} {v0 : Nat} {v1 : Int32} {v2 : Int32} {v3 : Int32} {v4 : Int32} {v5 : Int64} {v7 : Int32} {S0 S : HS} (h : P_X9_driest_63 Q v0 v1 v2 v3 v4 v5 v7 S) (K : K8 S0 S) : P_X9_driest_63 (fun r T => Q r T ∧ K8 S0 T) v0 v1 v2 v3 v4 v5 v7 S := h (fun v0 v1 v2 v3 v4 v5 v7 S => K8 S0 S → P_X9_driest_63 (fun r T => Q r T ∧ K8 S0 T) v0 v1 v2 v3 v4 v5 v7 S) (fun v0 v1 v2 v3 v4 v5 v7 S hB K => fd_X9_driest_63 (kxB_X9_driest_63 hB K (fun _ _ _ _ _ _ _ _ hx K => hx K))) K
set_option maxRecDepth 20000 in
set_option maxHeartbeats 1000000 in
theorem kx_X9_driest_0 {Q : Int32 → HS → Prop} {v0 : Nat} {v1 : Int32} {v2 : Int32} {v3 : Int32} {S0 S : HS} (h : P_X9_driest_0 Q v0 v1 v2 v3 S) (K : K8 S0 S) : P_X9_driest_0 (fun r T => Q r T ∧ K8 S0 T) v0 v1 v2 v3 S := by
  delta P_X9_driest_0 at h ⊢
  obtain ⟨c1, h⟩ := h
  refine ⟨c1, ?_⟩
  have n2 := k8_nk K c1 (by decide)
  obtain ⟨b3, e4, h⟩ := h
  refine ⟨b3, e4, ?_⟩
  obtain ⟨c5, h⟩ := h
  refine ⟨c5, ?_⟩
  have n6 := k8_nk K c5 (by decide)
  have o7 := c5
  refine cm_X8_hasWalker (kx_X8_hasWalker h) h (fun x8 x9 p12 h g10 g11 => ?_)
  have h := h g10 g11
  have K := k8_tr K p12.2
  have o7 := gr_ob p12.2.1 o7
  refine ⟨?_, ?_⟩
  · intro c13
    have h := h.1 c13
    exact kx_X9_driest_29 h K
  · intro c14
    have h := h.2 c14
    obtain ⟨b15, e16, h⟩ := h
    refine ⟨b15, e16, ?_⟩
    obtain ⟨c17, h⟩ := h
    refine ⟨c17, ?_⟩
    have n18 := k8_nk K c17 (by decide)
    have o19 := c17
    refine cm_X8_hasRoad (kx_X8_hasRoad h) h (fun x20 x21 p24 h g22 g23 => ?_)
    have h := h g22 g23
    have K := k8_tr K p24.2
    have o7 := gr_ob p24.2.1 o7
    have o19 := gr_ob p24.2.1 o19
    refine ⟨?_, ?_⟩
    · intro c25
      have h := h.1 c25
      exact kx_X9_driest_29 h K
    · intro c26
      have h := h.2 c26
      refine cm_X9_isWay (kx_X9_isWay h) h (fun x27 x28 p31 h g29 g30 => ?_)
      have h := h g29 g30
      have K := k8_tr K p31.2
      have o7 := gr_ob p31.2.1 o7
      have o19 := gr_ob p31.2.1 o19
      refine ⟨?_, ?_⟩
      · intro c32
        have h := h.1 c32
        obtain ⟨b33, e34, h⟩ := h
        refine ⟨b33, e34, ?_⟩
        obtain ⟨c35, h⟩ := h
        refine ⟨c35, ?_⟩
        have n36 := k8_nk K c35 (by decide)
        have o37 := c35
        intro x39 e38
        have h := h x39 e38
        refine ⟨?_, ?_⟩
        · intro c40
          have h := h.1 c40
          exact kx_X9_driest_63 h K
        · intro c41
          have h := h.2 c41
          refine cm_X9_refuse (kx_X9_refuse h) h (fun x42 x43 p45 h g44 => ?_)
          have h := h g44
          have K := k8_tr K p45.2
          have o7 := gr_ob p45.2.1 o7
          have o19 := gr_ob p45.2.1 o19
          have o37 := gr_ob p45.2.1 o37
          exact ⟨h, K⟩
      · intro c46
        have h := h.2 c46
        exact kx_X9_driest_29 h K
theorem kx_X9_driest {Q : Int32 → HS → Prop} {v0 : Nat} {v1 : Int32} {v2 : Int32} {v3 : Int32} {S : HS} (h : P_X9_driest v0 v1 v2 v3 Q S) : P_X9_driest v0 v1 v2 v3 (fun r T => Q r T ∧ K8 S T) S := kx_X9_driest_0 h (k8_rf S)
set_option maxRecDepth 20000 in
set_option maxHeartbeats 1000000 in
theorem kx_X9_even_0 {Q : Int32 → HS → Prop} {v0 : Nat} {v1 : Int32} {v2 : Int32} {v3 : Int32} {v4 : Int32} {S0 S : HS} (h : P_X9_even_0 Q v0 v1 v2 v3 v4 S) (K : K8 S0 S) : P_X9_even_0 (fun r T => Q r T ∧ K8 S0 T) v0 v1 v2 v3 v4 S := by
  delta P_X9_even_0 at h ⊢
  obtain ⟨c1, h⟩ := h
  refine ⟨c1, ?_⟩
  have n2 := k8_nk K c1 (by decide)
  refine cm_X9_tripTrouble (kx_X9_tripTrouble h) h (fun x3 x4 p6 h g5 => ?_)
  have h := h g5
  have K := k8_tr K p6.2
  refine cm_X9_refusedBy (kx_X9_refusedBy h) h (fun x7 x8 p11 h g9 g10 => ?_)
  have h := h g9 g10
  have K := k8_tr K p11.2
  refine ⟨?_, ?_⟩
  · intro c12
    have h := h.1 c12
    obtain ⟨b13, e14, h⟩ := h
    refine ⟨b13, e14, ?_⟩
    obtain ⟨c15, h⟩ := h
    refine ⟨c15, ?_⟩
    have n16 := k8_nk K c15 (by decide)
    have o17 := c15
    obtain ⟨b18, e19, h⟩ := h
    refine ⟨b18, e19, ?_⟩
    obtain ⟨c20, h⟩ := h
    refine ⟨c20, ?_⟩
    have n21 := k8_nk K c20 (by decide)
    obtain ⟨c22, h⟩ := h
    refine ⟨c22, ?_⟩
    obtain ⟨b23, e24, h⟩ := h
    refine ⟨b23, e24, ?_⟩
    obtain ⟨b25, e26, h⟩ := h
    refine ⟨b25, e26, ?_⟩
    obtain ⟨b27, e28, h⟩ := h
    refine ⟨b27, e28, ?_⟩
    obtain ⟨c29, h⟩ := h
    refine ⟨c29, ?_⟩
    have n30 := k8_nk K c29 (by decide)
    have o31 := c29
    obtain ⟨b32, e33, h⟩ := h
    refine ⟨b32, e33, ?_⟩
    obtain ⟨c34, h⟩ := h
    refine ⟨c34, ?_⟩
    have n35 := k8_nk K c34 (by decide)
    obtain ⟨c36, h⟩ := h
    refine ⟨c36, ?_⟩
    obtain ⟨b37, e38, h⟩ := h
    refine ⟨b37, e38, ?_⟩
    obtain ⟨b39, e40, h⟩ := h
    refine ⟨b39, e40, ?_⟩
    obtain ⟨c41, h⟩ := h
    refine ⟨c41, ?_⟩
    have n42 := k8_nk K c41 (by decide)
    have o43 := c41
    obtain ⟨b44, e45, h⟩ := h
    refine ⟨b44, e45, ?_⟩
    obtain ⟨c46, h⟩ := h
    refine ⟨c46, ?_⟩
    have n47 := k8_nk K c46 (by decide)
    obtain ⟨c48, h⟩ := h
    refine ⟨c48, ?_⟩
    obtain ⟨b49, e50, h⟩ := h
    refine ⟨b49, e50, ?_⟩
    obtain ⟨c51, h⟩ := h
    refine ⟨c51, ?_⟩
    have n52 := k8_nk K c51 (by decide)
    refine cm_X1_worstSpeed (kx_X1_worstSpeed h) h (fun x53 x54 p56 h g55 => ?_)
    have h := h g55
    have K := k8_tr K p56.2
    have o17 := gr_ob p56.2.1 o17
    have o31 := gr_ob p56.2.1 o31
    have o43 := gr_ob p56.2.1 o43
    obtain ⟨b57, e58, h⟩ := h
    refine ⟨b57, e58, ?_⟩
    obtain ⟨b59, e60, h⟩ := h
    refine ⟨b59, e60, ?_⟩
    obtain ⟨c61, h⟩ := h
    refine ⟨c61, ?_⟩
    have n62 := k8_nk K c61 (by decide)
    have o63 := c61
    obtain ⟨b64, e65, h⟩ := h
    refine ⟨b64, e65, ?_⟩
    obtain ⟨c66, h⟩ := h
    refine ⟨c66, ?_⟩
    have n67 := k8_nk K c66 (by decide)
    obtain ⟨c68, h⟩ := h
    refine ⟨c68, ?_⟩
    obtain ⟨b69, e70, h⟩ := h
    refine ⟨b69, e70, ?_⟩
    obtain ⟨b71, e72, h⟩ := h
    refine ⟨b71, e72, ?_⟩
    obtain ⟨c73, h⟩ := h
    refine ⟨c73, ?_⟩
    have n74 := k8_nk K c73 (by decide)
    have o75 := c73
    obtain ⟨b76, e77, h⟩ := h
    refine ⟨b76, e77, ?_⟩
    obtain ⟨c78, h⟩ := h
    refine ⟨c78, ?_⟩
    have n79 := k8_nk K c78 (by decide)
    obtain ⟨c80, h⟩ := h
    refine ⟨c80, ?_⟩
    obtain ⟨b81, e82, h⟩ := h
    refine ⟨b81, e82, ?_⟩
    obtain ⟨c83, h⟩ := h
    refine ⟨c83, ?_⟩
    have n84 := k8_nk K c83 (by decide)
    refine cm_X1_leastWet (kx_X1_leastWet h) h (fun x85 x86 p88 h g87 => ?_)
    have h := h g87
    have K := k8_tr K p88.2
    have o17 := gr_ob p88.2.1 o17
    have o31 := gr_ob p88.2.1 o31
    have o43 := gr_ob p88.2.1 o43
    have o63 := gr_ob p88.2.1 o63
    have o75 := gr_ob p88.2.1 o75
    obtain ⟨b89, e90, h⟩ := h
    refine ⟨b89, e90, ?_⟩
    obtain ⟨b91, e92, h⟩ := h
    refine ⟨b91, e92, ?_⟩
    obtain ⟨c93, h⟩ := h
    refine ⟨c93, ?_⟩
    have n94 := k8_nk K c93 (by decide)
    have o95 := c93
    obtain ⟨b96, e97, h⟩ := h
    refine ⟨b96, e97, ?_⟩
    obtain ⟨c98, h⟩ := h
    refine ⟨c98, ?_⟩
    have n99 := k8_nk K c98 (by decide)
    obtain ⟨c100, h⟩ := h
    refine ⟨c100, ?_⟩
    obtain ⟨b101, e102, h⟩ := h
    refine ⟨b101, e102, ?_⟩
    obtain ⟨b103, e104, h⟩ := h
    refine ⟨b103, e104, ?_⟩
    obtain ⟨c105, h⟩ := h
    refine ⟨c105, ?_⟩
    have n106 := k8_nk K c105 (by decide)
    have o107 := c105
    obtain ⟨b108, e109, h⟩ := h
    refine ⟨b108, e109, ?_⟩
    obtain ⟨c110, h⟩ := h
    refine ⟨c110, ?_⟩
    have n111 := k8_nk K c110 (by decide)
    obtain ⟨c112, h⟩ := h
    refine ⟨c112, ?_⟩
    obtain ⟨b113, e114, h⟩ := h
    refine ⟨b113, e114, ?_⟩
    obtain ⟨c115, h⟩ := h
    refine ⟨c115, ?_⟩
    have n116 := k8_nk K c115 (by decide)
    refine cm_X1_wetOf (kx_X1_wetOf h) h (fun x117 x118 p120 h g119 => ?_)
    have h := h g119
    have K := k8_tr K p120.2
    have o17 := gr_ob p120.2.1 o17
    have o31 := gr_ob p120.2.1 o31
    have o43 := gr_ob p120.2.1 o43
    have o63 := gr_ob p120.2.1 o63
    have o75 := gr_ob p120.2.1 o75
    have o95 := gr_ob p120.2.1 o95
    have o107 := gr_ob p120.2.1 o107
    refine ⟨?_, ?_⟩
    · intro c121
      have h := h.1 c121
      exact ⟨h, K⟩
    · intro c122
      have h := h.2 c122
      exact ⟨h, K⟩
  · intro c123
    have h := h.2 c123
    exact ⟨h, K⟩
theorem kx_X9_even {Q : Int32 → HS → Prop} {v0 : Nat} {v1 : Int32} {v2 : Int32} {v3 : Int32} {v4 : Int32} {S : HS} (h : P_X9_even v0 v1 v2 v3 v4 Q S) : P_X9_even v0 v1 v2 v3 v4 (fun r T => Q r T ∧ K8 S T) S := kx_X9_even_0 h (k8_rf S)
set_option maxRecDepth 20000 in
set_option maxHeartbeats 1000000 in
theorem kx_X9_fraction_0 {Q : Int64 → HS → Prop} {v0 : Int64} {v2 : Int64} {v4 : Int32} {S0 S : HS} (h : P_X9_fraction_0 Q v0 v2 v4 S) (K : K8 S0 S) : P_X9_fraction_0 (fun r T => Q r T ∧ K8 S0 T) v0 v2 v4 S := by
  delta P_X9_fraction_0 at h ⊢
  refine cm_X9_commonDivisor (kx_X9_commonDivisor h) h (fun x1 x2 p4 h g3 => ?_)
  have h := h g3
  have K := k8_tr K p4.2
  refine ⟨?_, ?_⟩
  · intro c5
    have h := h.1 c5
    refine ⟨?_, ?_⟩
    · intro c6
      have h := h.1 c6
      obtain ⟨c7, h⟩ := h
      refine ⟨c7, ?_⟩
      intro x9 e8
      have h := h x9 e8
      exact ⟨h, K⟩
    · intro c10
      have h := h.2 c10
      obtain ⟨c11, h⟩ := h
      refine ⟨c11, ?_⟩
      intro x13 e12
      have h := h x13 e12
      exact ⟨h, K⟩
  · intro c14
    have h := h.2 c14
    refine ⟨?_, ?_⟩
    · intro c15
      have h := h.1 c15
      exact ⟨h, K⟩
    · intro c16
      have h := h.2 c16
      exact ⟨h, K⟩
theorem kx_X9_fraction {Q : Int64 → HS → Prop} {v0 : Int64} {v2 : Int64} {v4 : Int32} {S : HS} (h : P_X9_fraction v0 v2 v4 Q S) : P_X9_fraction v0 v2 v4 (fun r T => Q r T ∧ K8 S T) S := kx_X9_fraction_0 h (k8_rf S)
set_option maxRecDepth 20000 in
set_option maxHeartbeats 1000000 in
theorem kx_X9_isFace_0 {Q : Int32 → HS → Prop} {v0 : Int32} {S0 S : HS} (h : P_X9_isFace_0 Q v0 S) (K : K8 S0 S) : P_X9_isFace_0 (fun r T => Q r T ∧ K8 S0 T) v0 S := by
  delta P_X9_isFace_0 at h ⊢
  refine ⟨?_, ?_⟩
  · intro c1
    have h := h.1 c1
    exact ⟨h, K⟩
  · intro c2
    have h := h.2 c2
    refine ⟨?_, ?_⟩
    · intro c3
      have h := h.1 c3
      exact ⟨h, K⟩
    · intro c4
      have h := h.2 c4
      exact ⟨h, K⟩
theorem kx_X9_isFace {Q : Int32 → HS → Prop} {v0 : Int32} {S : HS} (h : P_X9_isFace v0 Q S) : P_X9_isFace v0 (fun r T => Q r T ∧ K8 S T) S := kx_X9_isFace_0 h (k8_rf S)
set_option maxRecDepth 20000 in
set_option maxHeartbeats 1000000 in
theorem kx_X9_legTrouble_0 {Q : Int32 → HS → Prop} {v0 : Nat} {v1 : Int32} {v2 : Int32} {v3 : Int32} {v4 : Int32} {v5 : Int32} {S0 S : HS} (h : P_X9_legTrouble_0 Q v0 v1 v2 v3 v4 v5 S) (K : K8 S0 S) : P_X9_legTrouble_0 (fun r T => Q r T ∧ K8 S0 T) v0 v1 v2 v3 v4 v5 S := by
  delta P_X9_legTrouble_0 at h ⊢
  obtain ⟨c1, h⟩ := h
  refine ⟨c1, ?_⟩
  have n2 := k8_nk K c1 (by decide)
  refine cm_X9_tripTrouble (kx_X9_tripTrouble h) h (fun x3 x4 p6 h g5 => ?_)
  have h := h g5
  have K := k8_tr K p6.2
  refine ⟨?_, ?_⟩
  · intro c7
    have h := h.1 c7
    obtain ⟨b8, e9, h⟩ := h
    refine ⟨b8, e9, ?_⟩
    obtain ⟨c10, h⟩ := h
    refine ⟨c10, ?_⟩
    have n11 := k8_nk K c10 (by decide)
    have o12 := c10
    obtain ⟨b13, e14, h⟩ := h
    refine ⟨b13, e14, ?_⟩
    obtain ⟨c15, h⟩ := h
    refine ⟨c15, ?_⟩
    have n16 := k8_nk K c15 (by decide)
    obtain ⟨c17, h⟩ := h
    refine ⟨c17, ?_⟩
    obtain ⟨b18, e19, h⟩ := h
    refine ⟨b18, e19, ?_⟩
    obtain ⟨c20, h⟩ := h
    refine ⟨c20, ?_⟩
    have n21 := k8_nk K c20 (by decide)
    refine cm_X6_canGo (kx_X6_canGo h) h (fun x22 x23 p26 h g24 g25 => ?_)
    have h := h g24 g25
    have K := k8_tr K p26.2
    have o12 := gr_ob p26.2.1 o12
    refine ⟨?_, ?_⟩
    · intro c27
      have h := h.1 c27
      exact ⟨h, K⟩
    · intro c28
      have h := h.2 c28
      exact ⟨h, K⟩
  · intro c29
    have h := h.2 c29
    exact ⟨h, K⟩
theorem kx_X9_legTrouble {Q : Int32 → HS → Prop} {v0 : Nat} {v1 : Int32} {v2 : Int32} {v3 : Int32} {v4 : Int32} {v5 : Int32} {S : HS} (h : P_X9_legTrouble v0 v1 v2 v3 v4 v5 Q S) : P_X9_legTrouble v0 v1 v2 v3 v4 v5 (fun r T => Q r T ∧ K8 S T) S := kx_X9_legTrouble_0 h (k8_rf S)
set_option maxRecDepth 20000 in
set_option maxHeartbeats 1000000 in
theorem kx_X9_face_23 {Q : Int64 → HS → Prop} {v0 : Nat} {v1 : Int32} {v2 : Int32} {v3 : Int32} {v4 : Int32} {v5 : Int32} {v6 : Int32} {v7 : Int32} {s0 : Int32} {S0 S : HS} (h : P_X9_face_23 Q v0 v1 v2 v3 v4 v5 v6 v7 s0 S) (K : K8 S0 S) : P_X9_face_23 (fun r T => Q r T ∧ K8 S0 T) v0 v1 v2 v3 v4 v5 v6 v7 s0 S := by
  delta P_X9_face_23 at h ⊢
  obtain ⟨c1, h⟩ := h
  refine ⟨c1, ?_⟩
  have n2 := k8_nk K c1 (by decide)
  refine cm_X9_refusedBy (kx_X9_refusedBy h) h (fun x3 x4 p7 h g5 g6 => ?_)
  have h := h g5 g6
  have K := k8_tr K p7.2
  refine ⟨?_, ?_⟩
  · intro c8
    have h := h.1 c8
    obtain ⟨b9, e10, h⟩ := h
    refine ⟨b9, e10, ?_⟩
    obtain ⟨b11, e12, h⟩ := h
    refine ⟨b11, e12, ?_⟩
    obtain ⟨c13, h⟩ := h
    refine ⟨c13, ?_⟩
    have n14 := k8_nk K c13 (by decide)
    have o15 := c13
    obtain ⟨b16, e17, h⟩ := h
    refine ⟨b16, e17, ?_⟩
    obtain ⟨c18, h⟩ := h
    refine ⟨c18, ?_⟩
    have n19 := k8_nk K c18 (by decide)
    obtain ⟨c20, h⟩ := h
    refine ⟨c20, ?_⟩
    obtain ⟨b21, e22, h⟩ := h
    refine ⟨b21, e22, ?_⟩
    obtain ⟨b23, e24, h⟩ := h
    refine ⟨b23, e24, ?_⟩
    obtain ⟨c25, h⟩ := h
    refine ⟨c25, ?_⟩
    have n26 := k8_nk K c25 (by decide)
    have o27 := c25
    obtain ⟨b28, e29, h⟩ := h
    refine ⟨b28, e29, ?_⟩
    obtain ⟨c30, h⟩ := h
    refine ⟨c30, ?_⟩
    have n31 := k8_nk K c30 (by decide)
    obtain ⟨c32, h⟩ := h
    refine ⟨c32, ?_⟩
    obtain ⟨b33, e34, h⟩ := h
    refine ⟨b33, e34, ?_⟩
    obtain ⟨b35, e36, h⟩ := h
    refine ⟨b35, e36, ?_⟩
    obtain ⟨c37, h⟩ := h
    refine ⟨c37, ?_⟩
    have n38 := k8_nk K c37 (by decide)
    have o39 := c37
    obtain ⟨b40, e41, h⟩ := h
    refine ⟨b40, e41, ?_⟩
    obtain ⟨c42, h⟩ := h
    refine ⟨c42, ?_⟩
    have n43 := k8_nk K c42 (by decide)
    obtain ⟨c44, h⟩ := h
    refine ⟨c44, ?_⟩
    obtain ⟨b45, e46, h⟩ := h
    refine ⟨b45, e46, ?_⟩
    obtain ⟨c47, h⟩ := h
    refine ⟨c47, ?_⟩
    have n48 := k8_nk K c47 (by decide)
    refine cm_X1_wetOf (kx_X1_wetOf h) h (fun x49 x50 p52 h g51 => ?_)
    have h := h g51
    have K := k8_tr K p52.2
    have o15 := gr_ob p52.2.1 o15
    have o27 := gr_ob p52.2.1 o27
    have o39 := gr_ob p52.2.1 o39
    obtain ⟨b53, e54, h⟩ := h
    refine ⟨b53, e54, ?_⟩
    obtain ⟨c55, h⟩ := h
    refine ⟨c55, ?_⟩
    have n56 := k8_nk K c55 (by decide)
    obtain ⟨b57, e58, h⟩ := h
    refine ⟨b57, e58, ?_⟩
    obtain ⟨c59, h⟩ := h
    refine ⟨c59, ?_⟩
    have n60 := k8_nk K c59 (by decide)
    obtain ⟨c61, h⟩ := h
    refine ⟨c61, ?_⟩
    intro x63 e62
    have h := h x63 e62
    refine cm_X9_fraction (kx_X9_fraction h) h (fun x64 x65 p67 h g66 => ?_)
    have h := h g66
    have K := k8_tr K p67.2
    have o15 := gr_ob p67.2.1 o15
    have o27 := gr_ob p67.2.1 o27
    have o39 := gr_ob p67.2.1 o39
    exact ⟨h, K⟩
  · intro c68
    have h := h.2 c68
    exact ⟨h, K⟩
set_option maxRecDepth 20000 in
set_option maxHeartbeats 1000000 in
theorem kx_X9_face_0 {Q : Int64 → HS → Prop} {v0 : Nat} {v1 : Int32} {v2 : Int32} {v3 : Int32} {v4 : Int32} {v5 : Int32} {v6 : Int32} {v7 : Int32} {S0 S : HS} (h : P_X9_face_0 Q v0 v1 v2 v3 v4 v5 v6 v7 S) (K : K8 S0 S) : P_X9_face_0 (fun r T => Q r T ∧ K8 S0 T) v0 v1 v2 v3 v4 v5 v6 v7 S := by
  delta P_X9_face_0 at h ⊢
  refine cm_X9_isFace (kx_X9_isFace h) h (fun x1 x2 p5 h g3 g4 => ?_)
  have h := h g3 g4
  have K := k8_tr K p5.2
  refine ⟨?_, ?_⟩
  · intro c6
    have h := h.1 c6
    exact kx_X9_face_23 h K
  · intro c7
    have h := h.2 c7
    obtain ⟨c8, h⟩ := h
    refine ⟨c8, ?_⟩
    have n9 := k8_nk K c8 (by decide)
    refine cm_X9_legTrouble (kx_X9_legTrouble h) h (fun x10 x11 p13 h g12 => ?_)
    have h := h g12
    have K := k8_tr K p13.2
    exact kx_X9_face_23 h K
theorem kx_X9_face {Q : Int64 → HS → Prop} {v0 : Nat} {v1 : Int32} {v2 : Int32} {v3 : Int32} {v4 : Int32} {v5 : Int32} {v6 : Int32} {v7 : Int32} {S : HS} (h : P_X9_face v0 v1 v2 v3 v4 v5 v6 v7 Q S) : P_X9_face v0 v1 v2 v3 v4 v5 v6 v7 (fun r T => Q r T ∧ K8 S T) S := kx_X9_face_0 h (k8_rf S)
set_option maxRecDepth 20000 in
set_option maxHeartbeats 1000000 in
theorem kx_X9_putBytes_49 {Q : HS → Prop} {X3 X3_2 : Nat → Int32 → Int32 → HS → Prop} {v0 : Nat} {v1 : Int32} {v2 : Int32} {S0 S : HS} (h : P_X9_putBytes_49 Q X3 v0 v1 v2 S) (K : K8 S0 S) (hX3 : ∀ (u0 : Nat) (u1 : Int32) (u2 : Int32) (u3 : HS), X3 u0 u1 u2 u3 → K8 S0 u3 → X3_2 u0 u1 u2 u3) : P_X9_putBytes_49 (fun T => Q T ∧ K8 S0 T) X3_2 v0 v1 v2 S := by
  delta P_X9_putBytes_49 at h ⊢
  intro x2 e1
  have h := h x2 e1
  exact hX3 _ _ _ _ h K
set_option maxRecDepth 20000 in
set_option maxHeartbeats 1000000 in
theorem kxB_X9_putBytes_3 {Q : HS → Prop} {X3 X3_2 : Nat → Int32 → Int32 → HS → Prop} {v0 : Nat} {v1 : Int32} {v2 : Int32} {S0 S : HS} (h : B_X9_putBytes_3 Q X3 v0 v1 v2 S) (K : K8 S0 S) (hX3 : ∀ (u0 : Nat) (u1 : Int32) (u2 : Int32) (u3 : HS), X3 u0 u1 u2 u3 → K8 S0 u3 → X3_2 u0 u1 u2 u3) : B_X9_putBytes_3 (fun T => Q T ∧ K8 S0 T) X3_2 v0 v1 v2 S := by
  delta B_X9_putBytes_3 at h ⊢
  refine ⟨?_, ?_⟩
  · intro c1
    have h := h.1 c1
    exact ⟨h, K⟩
  · intro c2
    have h := h.2 c2
    obtain ⟨c3, h⟩ := h
    refine ⟨c3, ?_⟩
    have n4 := k8_nk K c3 (by decide)
    intro x6 e5
    have h := h x6 e5
    refine ⟨?_, ?_⟩
    · intro c7
      have h := h.1 c7
      exact kx_X9_putBytes_49 h K hX3
    · intro c8
      have h := h.2 c8
      intro x10 e9
      have h := h x10 e9
      obtain ⟨b11, e12, h⟩ := h
      refine ⟨b11, e12, ?_⟩
      obtain ⟨c13, h⟩ := h
      refine ⟨c13, ?_⟩
      have n14 := k8_nk K c13 (by decide)
      refine ⟨?_, ?_⟩
      · intro c15
        have h := h.1 c15
        exact kx_X9_putBytes_49 h K hX3
      · intro c16
        have h := h.2 c16
        obtain ⟨b17, e18, h⟩ := h
        refine ⟨b17, e18, ?_⟩
        intro x20 e19
        have h := h x20 e19
        obtain ⟨c21, h⟩ := h
        refine ⟨c21, ?_⟩
        have n22 := k8_nk K c21 (by decide)
        intro x24 e23
        have h := h x24 e23
        obtain ⟨c25, h⟩ := h
        refine ⟨c25, ?_⟩
        intro x27 e26
        have h := h x27 e26
        have K := k8_I K e26 n22
        intro x29 e28
        have h := h x29 e28
        intro x31 e30
        have h := h x31 e30
        intro x33 e32
        have h := h x33 e32
        have K := k8_I K e32 n4
        exact kx_X9_putBytes_49 h K hX3
theorem kx_X9_putBytes_3 {Q : HS → Prop} {v0 : Nat} {v1 : Int32} {v2 : Int32} {S0 S : HS} (h : P_X9_putBytes_3 Q v0 v1 v2 S) (K : K8 S0 S) : P_X9_putBytes_3 (fun T => Q T ∧ K8 S0 T) v0 v1 v2 S := h (fun v0 v1 v2 S => K8 S0 S → P_X9_putBytes_3 (fun T => Q T ∧ K8 S0 T) v0 v1 v2 S) (fun v0 v1 v2 S hB K => fd_X9_putBytes_3 (kxB_X9_putBytes_3 hB K (fun _ _ _ _ hx K => hx K))) K
set_option maxRecDepth 20000 in
set_option maxHeartbeats 1000000 in
theorem kx_X9_putBytes_0 {Q : HS → Prop} {v0 : Nat} {v1 : Int32} {S0 S : HS} (h : P_X9_putBytes_0 Q v0 v1 S) (K : K8 S0 S) : P_X9_putBytes_0 (fun T => Q T ∧ K8 S0 T) v0 v1 S := by
  delta P_X9_putBytes_0 at h ⊢
  exact kx_X9_putBytes_3 h K
theorem kx_X9_putBytes {Q : HS → Prop} {v0 : Nat} {v1 : Int32} {S : HS} (h : P_X9_putBytes v0 v1 Q S) : P_X9_putBytes v0 v1 (fun T => Q T ∧ K8 S T) S := kx_X9_putBytes_0 h (k8_rf S)
set_option maxRecDepth 20000 in
set_option maxHeartbeats 1000000 in
theorem kx_X9_feed_0 {Q : Int32 → HS → Prop} {v0 : Nat} {v1 : Int32} {v2 : Int32} {v3 : Int32} {v4 : Int32} {v5 : Int32} {S0 S : HS} (h : P_X9_feed_0 Q v0 v1 v2 v3 v4 v5 S) (K : K8 S0 S) : P_X9_feed_0 (fun r T => Q r T ∧ K8 S0 T) v0 v1 v2 v3 v4 v5 S := by
  delta P_X9_feed_0 at h ⊢
  obtain ⟨c1, h⟩ := h
  refine ⟨c1, ?_⟩
  have n2 := k8_nk K c1 (by decide)
  intro x4 e3
  have h := h x4 e3
  refine ⟨?_, ?_⟩
  · intro c5
    have h := h.1 c5
    refine cm_X9_putBytes (kx_X9_putBytes h) h (fun x6 p8 h g7 => ?_)
    have h := h g7
    have K := k8_tr K p8.2
    refine cm_X9_putBytes (kx_X9_putBytes h) h (fun x9 p11 h g10 => ?_)
    have h := h g10
    have K := k8_tr K p11.2
    refine cm_X9_putBytes (kx_X9_putBytes h) h (fun x12 p14 h g13 => ?_)
    have h := h g13
    have K := k8_tr K p14.2
    refine cm_X9_putBytes (kx_X9_putBytes h) h (fun x15 p17 h g16 => ?_)
    have h := h g16
    have K := k8_tr K p17.2
    refine cm_X9_putBytes (kx_X9_putBytes h) h (fun x18 p20 h g19 => ?_)
    have h := h g19
    have K := k8_tr K p20.2
    intro x22 e21
    have h := h x22 e21
    exact ⟨h, K⟩
  · intro c23
    have h := h.2 c23
    exact ⟨h, K⟩
theorem kx_X9_feed {Q : Int32 → HS → Prop} {v0 : Nat} {v1 : Int32} {v2 : Int32} {v3 : Int32} {v4 : Int32} {v5 : Int32} {S : HS} (h : P_X9_feed v0 v1 v2 v3 v4 v5 Q S) : P_X9_feed v0 v1 v2 v3 v4 v5 (fun r T => Q r T ∧ K8 S T) S := kx_X9_feed_0 h (k8_rf S)
set_option maxRecDepth 20000 in
set_option maxHeartbeats 1000000 in
theorem kx_X9_leeTrouble_0 {Q : Int32 → HS → Prop} {v0 : Nat} {v1 : Int32} {v2 : Int32} {v3 : Int32} {v4 : Int32} {v5 : Int32} {v6 : Int32} {S0 S : HS} (h : P_X9_leeTrouble_0 Q v0 v1 v2 v3 v4 v5 v6 S) (K : K8 S0 S) : P_X9_leeTrouble_0 (fun r T => Q r T ∧ K8 S0 T) v0 v1 v2 v3 v4 v5 v6 S := by
  delta P_X9_leeTrouble_0 at h ⊢
  refine ⟨?_, ?_⟩
  · intro c1
    have h := h.1 c1
    exact ⟨h, K⟩
  · intro c2
    have h := h.2 c2
    obtain ⟨c3, h⟩ := h
    refine ⟨c3, ?_⟩
    have n4 := k8_nk K c3 (by decide)
    obtain ⟨b5, e6, h⟩ := h
    refine ⟨b5, e6, ?_⟩
    obtain ⟨c7, h⟩ := h
    refine ⟨c7, ?_⟩
    have n8 := k8_nk K c7 (by decide)
    have o9 := c7
    refine cm_X8_hasWalker (kx_X8_hasWalker h) h (fun x10 x11 p14 h g12 g13 => ?_)
    have h := h g12 g13
    have K := k8_tr K p14.2
    have o9 := gr_ob p14.2.1 o9
    refine ⟨?_, ?_⟩
    · intro c15
      have h := h.1 c15
      exact ⟨h, K⟩
    · intro c16
      have h := h.2 c16
      obtain ⟨b17, e18, h⟩ := h
      refine ⟨b17, e18, ?_⟩
      obtain ⟨c19, h⟩ := h
      refine ⟨c19, ?_⟩
      have n20 := k8_nk K c19 (by decide)
      have o21 := c19
      refine cm_X8_hasWalker (kx_X8_hasWalker h) h (fun x22 x23 p26 h g24 g25 => ?_)
      have h := h g24 g25
      have K := k8_tr K p26.2
      have o9 := gr_ob p26.2.1 o9
      have o21 := gr_ob p26.2.1 o21
      refine ⟨?_, ?_⟩
      · intro c27
        have h := h.1 c27
        refine cm_X9_legTrouble (kx_X9_legTrouble h) h (fun x28 x29 p31 h g30 => ?_)
        have h := h g30
        have K := k8_tr K p31.2
        have o9 := gr_ob p31.2.1 o9
        have o21 := gr_ob p31.2.1 o21
        refine ⟨?_, ?_⟩
        · intro c32
          have h := h.1 c32
          obtain ⟨b33, e34, h⟩ := h
          refine ⟨b33, e34, ?_⟩
          obtain ⟨c35, h⟩ := h
          refine ⟨c35, ?_⟩
          have n36 := k8_nk K c35 (by decide)
          have o37 := c35
          obtain ⟨b38, e39, h⟩ := h
          refine ⟨b38, e39, ?_⟩
          obtain ⟨c40, h⟩ := h
          refine ⟨c40, ?_⟩
          have n41 := k8_nk K c40 (by decide)
          obtain ⟨c42, h⟩ := h
          refine ⟨c42, ?_⟩
          obtain ⟨b43, e44, h⟩ := h
          refine ⟨b43, e44, ?_⟩
          obtain ⟨c45, h⟩ := h
          refine ⟨c45, ?_⟩
          have n46 := k8_nk K c45 (by decide)
          refine cm_X6_canGo (kx_X6_canGo h) h (fun x47 x48 p51 h g49 g50 => ?_)
          have h := h g49 g50
          have K := k8_tr K p51.2
          have o9 := gr_ob p51.2.1 o9
          have o21 := gr_ob p51.2.1 o21
          have o37 := gr_ob p51.2.1 o37
          refine ⟨?_, ?_⟩
          · intro c52
            have h := h.1 c52
            exact ⟨h, K⟩
          · intro c53
            have h := h.2 c53
            exact ⟨h, K⟩
        · intro c54
          have h := h.2 c54
          exact ⟨h, K⟩
      · intro c55
        have h := h.2 c55
        exact ⟨h, K⟩
theorem kx_X9_leeTrouble {Q : Int32 → HS → Prop} {v0 : Nat} {v1 : Int32} {v2 : Int32} {v3 : Int32} {v4 : Int32} {v5 : Int32} {v6 : Int32} {S : HS} (h : P_X9_leeTrouble v0 v1 v2 v3 v4 v5 v6 Q S) : P_X9_leeTrouble v0 v1 v2 v3 v4 v5 v6 (fun r T => Q r T ∧ K8 S T) S := kx_X9_leeTrouble_0 h (k8_rf S)
set_option maxRecDepth 20000 in
set_option maxHeartbeats 1000000 in
theorem kx_X9_first_0 {Q : Int32 → HS → Prop} {v0 : Nat} {v1 : Int32} {v2 : Int32} {v3 : Int32} {v4 : Int32} {v5 : Int32} {v6 : Int32} {S0 S : HS} (h : P_X9_first_0 Q v0 v1 v2 v3 v4 v5 v6 S) (K : K8 S0 S) : P_X9_first_0 (fun r T => Q r T ∧ K8 S0 T) v0 v1 v2 v3 v4 v5 v6 S := by
  delta P_X9_first_0 at h ⊢
  obtain ⟨c1, h⟩ := h
  refine ⟨c1, ?_⟩
  have n2 := k8_nk K c1 (by decide)
  refine cm_X9_leeTrouble (kx_X9_leeTrouble h) h (fun x3 x4 p6 h g5 => ?_)
  have h := h g5
  have K := k8_tr K p6.2
  refine cm_X9_refusedBy (kx_X9_refusedBy h) h (fun x7 x8 p11 h g9 g10 => ?_)
  have h := h g9 g10
  have K := k8_tr K p11.2
  refine ⟨?_, ?_⟩
  · intro c12
    have h := h.1 c12
    obtain ⟨b13, e14, h⟩ := h
    refine ⟨b13, e14, ?_⟩
    obtain ⟨b15, e16, h⟩ := h
    refine ⟨b15, e16, ?_⟩
    obtain ⟨c17, h⟩ := h
    refine ⟨c17, ?_⟩
    have n18 := k8_nk K c17 (by decide)
    have o19 := c17
    obtain ⟨b20, e21, h⟩ := h
    refine ⟨b20, e21, ?_⟩
    obtain ⟨c22, h⟩ := h
    refine ⟨c22, ?_⟩
    have n23 := k8_nk K c22 (by decide)
    obtain ⟨c24, h⟩ := h
    refine ⟨c24, ?_⟩
    obtain ⟨b25, e26, h⟩ := h
    refine ⟨b25, e26, ?_⟩
    obtain ⟨b27, e28, h⟩ := h
    refine ⟨b27, e28, ?_⟩
    obtain ⟨c29, h⟩ := h
    refine ⟨c29, ?_⟩
    have n30 := k8_nk K c29 (by decide)
    have o31 := c29
    obtain ⟨b32, e33, h⟩ := h
    refine ⟨b32, e33, ?_⟩
    obtain ⟨c34, h⟩ := h
    refine ⟨c34, ?_⟩
    have n35 := k8_nk K c34 (by decide)
    obtain ⟨c36, h⟩ := h
    refine ⟨c36, ?_⟩
    obtain ⟨b37, e38, h⟩ := h
    refine ⟨b37, e38, ?_⟩
    obtain ⟨c39, h⟩ := h
    refine ⟨c39, ?_⟩
    have n40 := k8_nk K c39 (by decide)
    refine cm_X1_lay (kx_X1_lay h) h (fun x41 p43 h g42 => ?_)
    have h := h g42
    have K := k8_tr K p43.2
    have o19 := gr_ob p43.2.1 o19
    have o31 := gr_ob p43.2.1 o31
    obtain ⟨b44, e45, h⟩ := h
    refine ⟨b44, e45, ?_⟩
    obtain ⟨b46, e47, h⟩ := h
    refine ⟨b46, e47, ?_⟩
    obtain ⟨c48, h⟩ := h
    refine ⟨c48, ?_⟩
    have n49 := k8_nk K c48 (by decide)
    have o50 := c48
    obtain ⟨b51, e52, h⟩ := h
    refine ⟨b51, e52, ?_⟩
    obtain ⟨c53, h⟩ := h
    refine ⟨c53, ?_⟩
    have n54 := k8_nk K c53 (by decide)
    obtain ⟨c55, h⟩ := h
    refine ⟨c55, ?_⟩
    obtain ⟨b56, e57, h⟩ := h
    refine ⟨b56, e57, ?_⟩
    obtain ⟨b58, e59, h⟩ := h
    refine ⟨b58, e59, ?_⟩
    obtain ⟨c60, h⟩ := h
    refine ⟨c60, ?_⟩
    have n61 := k8_nk K c60 (by decide)
    have o62 := c60
    obtain ⟨b63, e64, h⟩ := h
    refine ⟨b63, e64, ?_⟩
    obtain ⟨c65, h⟩ := h
    refine ⟨c65, ?_⟩
    have n66 := k8_nk K c65 (by decide)
    obtain ⟨c67, h⟩ := h
    refine ⟨c67, ?_⟩
    obtain ⟨b68, e69, h⟩ := h
    refine ⟨b68, e69, ?_⟩
    obtain ⟨c70, h⟩ := h
    refine ⟨c70, ?_⟩
    have n71 := k8_nk K c70 (by decide)
    refine cm_X1_wetInLee (kx_X1_wetInLee h) h (fun x72 x73 p75 h g74 => ?_)
    have h := h g74
    have K := k8_tr K p75.2
    have o19 := gr_ob p75.2.1 o19
    have o31 := gr_ob p75.2.1 o31
    have o50 := gr_ob p75.2.1 o50
    have o62 := gr_ob p75.2.1 o62
    obtain ⟨b76, e77, h⟩ := h
    refine ⟨b76, e77, ?_⟩
    obtain ⟨b78, e79, h⟩ := h
    refine ⟨b78, e79, ?_⟩
    obtain ⟨c80, h⟩ := h
    refine ⟨c80, ?_⟩
    have n81 := k8_nk K c80 (by decide)
    have o82 := c80
    obtain ⟨b83, e84, h⟩ := h
    refine ⟨b83, e84, ?_⟩
    obtain ⟨c85, h⟩ := h
    refine ⟨c85, ?_⟩
    have n86 := k8_nk K c85 (by decide)
    obtain ⟨c87, h⟩ := h
    refine ⟨c87, ?_⟩
    obtain ⟨b88, e89, h⟩ := h
    refine ⟨b88, e89, ?_⟩
    obtain ⟨b90, e91, h⟩ := h
    refine ⟨b90, e91, ?_⟩
    obtain ⟨c92, h⟩ := h
    refine ⟨c92, ?_⟩
    have n93 := k8_nk K c92 (by decide)
    have o94 := c92
    obtain ⟨b95, e96, h⟩ := h
    refine ⟨b95, e96, ?_⟩
    obtain ⟨c97, h⟩ := h
    refine ⟨c97, ?_⟩
    have n98 := k8_nk K c97 (by decide)
    obtain ⟨c99, h⟩ := h
    refine ⟨c99, ?_⟩
    obtain ⟨b100, e101, h⟩ := h
    refine ⟨b100, e101, ?_⟩
    obtain ⟨c102, h⟩ := h
    refine ⟨c102, ?_⟩
    have n103 := k8_nk K c102 (by decide)
    refine cm_X1_wetInLee (kx_X1_wetInLee h) h (fun x104 x105 p107 h g106 => ?_)
    have h := h g106
    have K := k8_tr K p107.2
    have o19 := gr_ob p107.2.1 o19
    have o31 := gr_ob p107.2.1 o31
    have o50 := gr_ob p107.2.1 o50
    have o62 := gr_ob p107.2.1 o62
    have o82 := gr_ob p107.2.1 o82
    have o94 := gr_ob p107.2.1 o94
    refine ⟨?_, ?_⟩
    · intro c108
      have h := h.1 c108
      refine ⟨?_, ?_⟩
      · intro c109
        have h := h.1 c109
        exact ⟨h, K⟩
      · intro c110
        have h := h.2 c110
        exact ⟨h, K⟩
    · intro c111
      have h := h.2 c111
      exact ⟨h, K⟩
  · intro c112
    have h := h.2 c112
    exact ⟨h, K⟩
theorem kx_X9_first {Q : Int32 → HS → Prop} {v0 : Nat} {v1 : Int32} {v2 : Int32} {v3 : Int32} {v4 : Int32} {v5 : Int32} {v6 : Int32} {S : HS} (h : P_X9_first v0 v1 v2 v3 v4 v5 v6 Q S) : P_X9_first v0 v1 v2 v3 v4 v5 v6 (fun r T => Q r T ∧ K8 S T) S := kx_X9_first_0 h (k8_rf S)
set_option maxRecDepth 20000 in
set_option maxHeartbeats 1000000 in
theorem kx_X9_fit_15 {Q : Int32 → HS → Prop} {v0 : Nat} {S0 S : HS} (h : P_X9_fit_15 Q v0 S) (K : K8 S0 S) : P_X9_fit_15 (fun r T => Q r T ∧ K8 S0 T) v0 S := by
  delta P_X9_fit_15 at h ⊢
  obtain ⟨c1, h⟩ := h
  refine ⟨c1, ?_⟩
  have n2 := k8_nk K c1 (by decide)
  refine cm_X9_refuse (kx_X9_refuse h) h (fun x3 x4 p6 h g5 => ?_)
  have h := h g5
  have K := k8_tr K p6.2
  exact ⟨h, K⟩
set_option maxRecDepth 20000 in
set_option maxHeartbeats 1000000 in
theorem kx_X9_fit_0 {Q : Int32 → HS → Prop} {v0 : Nat} {v1 : Int32} {v2 : Int32} {S0 S : HS} (h : P_X9_fit_0 Q v0 v1 v2 S) (K : K8 S0 S) : P_X9_fit_0 (fun r T => Q r T ∧ K8 S0 T) v0 v1 v2 S := by
  delta P_X9_fit_0 at h ⊢
  obtain ⟨c1, h⟩ := h
  refine ⟨c1, ?_⟩
  have n2 := k8_nk K c1 (by decide)
  obtain ⟨b3, e4, h⟩ := h
  refine ⟨b3, e4, ?_⟩
  obtain ⟨c5, h⟩ := h
  refine ⟨c5, ?_⟩
  have n6 := k8_nk K c5 (by decide)
  have o7 := c5
  refine cm_X8_hasSeen (kx_X8_hasSeen h) h (fun x8 x9 p12 h g10 g11 => ?_)
  have h := h g10 g11
  have K := k8_tr K p12.2
  have o7 := gr_ob p12.2.1 o7
  refine ⟨?_, ?_⟩
  · intro c13
    have h := h.1 c13
    exact kx_X9_fit_15 h K
  · intro c14
    have h := h.2 c14
    refine ⟨?_, ?_⟩
    · intro c15
      have h := h.1 c15
      obtain ⟨b16, e17, h⟩ := h
      refine ⟨b16, e17, ?_⟩
      obtain ⟨b18, e19, h⟩ := h
      refine ⟨b18, e19, ?_⟩
      obtain ⟨c20, h⟩ := h
      refine ⟨c20, ?_⟩
      have n21 := k8_nk K c20 (by decide)
      refine cm_X1_findFit (kx_X1_findFit h) h (fun x22 x23 p25 h g24 => ?_)
      have h := h g24
      have K := k8_tr K p25.2
      have o7 := gr_ob p25.2.1 o7
      refine ⟨?_, ?_⟩
      · intro c26
        have h := h.1 c26
        refine cm_X9_grant (kx_X9_grant h) h (fun x27 x28 p30 h g29 => ?_)
        have h := h g29
        have K := k8_tr K p30.2
        have o7 := gr_ob p30.2.1 o7
        exact ⟨h, K⟩
      · intro c31
        have h := h.2 c31
        refine cm_X9_refuse (kx_X9_refuse h) h (fun x32 x33 p35 h g34 => ?_)
        have h := h g34
        have K := k8_tr K p35.2
        have o7 := gr_ob p35.2.1 o7
        exact ⟨h, K⟩
    · intro c36
      have h := h.2 c36
      exact kx_X9_fit_15 h K
theorem kx_X9_fit {Q : Int32 → HS → Prop} {v0 : Nat} {v1 : Int32} {v2 : Int32} {S : HS} (h : P_X9_fit v0 v1 v2 Q S) : P_X9_fit v0 v1 v2 (fun r T => Q r T ∧ K8 S T) S := kx_X9_fit_0 h (k8_rf S)
set_option maxRecDepth 20000 in
set_option maxHeartbeats 1000000 in
theorem kx_X9_fits_0 {Q : Int32 → HS → Prop} {v0 : Nat} {v1 : Int32} {S0 S : HS} (h : P_X9_fits_0 Q v0 v1 S) (K : K8 S0 S) : P_X9_fits_0 (fun r T => Q r T ∧ K8 S0 T) v0 v1 S := by
  delta P_X9_fits_0 at h ⊢
  obtain ⟨c1, h⟩ := h
  refine ⟨c1, ?_⟩
  have n2 := k8_nk K c1 (by decide)
  obtain ⟨b3, e4, h⟩ := h
  refine ⟨b3, e4, ?_⟩
  obtain ⟨c5, h⟩ := h
  refine ⟨c5, ?_⟩
  have n6 := k8_nk K c5 (by decide)
  have o7 := c5
  refine cm_X8_hasSeen (kx_X8_hasSeen h) h (fun x8 x9 p12 h g10 g11 => ?_)
  have h := h g10 g11
  have K := k8_tr K p12.2
  have o7 := gr_ob p12.2.1 o7
  refine ⟨?_, ?_⟩
  · intro c13
    have h := h.1 c13
    obtain ⟨b14, e15, h⟩ := h
    refine ⟨b14, e15, ?_⟩
    obtain ⟨b16, e17, h⟩ := h
    refine ⟨b16, e17, ?_⟩
    obtain ⟨c18, h⟩ := h
    refine ⟨c18, ?_⟩
    have n19 := k8_nk K c18 (by decide)
    refine cm_X1_countFits (kx_X1_countFits h) h (fun x20 x21 p23 h g22 => ?_)
    have h := h g22
    have K := k8_tr K p23.2
    have o7 := gr_ob p23.2.1 o7
    refine cm_X9_grant (kx_X9_grant h) h (fun x24 x25 p27 h g26 => ?_)
    have h := h g26
    have K := k8_tr K p27.2
    have o7 := gr_ob p27.2.1 o7
    exact ⟨h, K⟩
  · intro c28
    have h := h.2 c28
    refine cm_X9_refuse (kx_X9_refuse h) h (fun x29 x30 p32 h g31 => ?_)
    have h := h g31
    have K := k8_tr K p32.2
    have o7 := gr_ob p32.2.1 o7
    exact ⟨h, K⟩
theorem kx_X9_fits {Q : Int32 → HS → Prop} {v0 : Nat} {v1 : Int32} {S : HS} (h : P_X9_fits v0 v1 Q S) : P_X9_fits v0 v1 (fun r T => Q r T ∧ K8 S T) S := kx_X9_fits_0 h (k8_rf S)
set_option maxRecDepth 20000 in
set_option maxHeartbeats 1000000 in
theorem kx_X9_go_45 {Q : Int32 → HS → Prop} {v0 : Nat} {S0 S : HS} (h : P_X9_go_45 Q v0 S) (K : K8 S0 S) : P_X9_go_45 (fun r T => Q r T ∧ K8 S0 T) v0 S := by
  delta P_X9_go_45 at h ⊢
  obtain ⟨c1, h⟩ := h
  refine ⟨c1, ?_⟩
  have n2 := k8_nk K c1 (by decide)
  refine cm_X9_refuse (kx_X9_refuse h) h (fun x3 x4 p6 h g5 => ?_)
  have h := h g5
  have K := k8_tr K p6.2
  exact ⟨h, K⟩
set_option maxRecDepth 20000 in
set_option maxHeartbeats 1000000 in
theorem kx_X9_go_243 {Q : Int32 → HS → Prop} {v0 : Nat} {v2 : Int32} {v5 : Nat} {v6 : Int32} {S0 S : HS} (h : P_X9_go_243 Q v0 v2 v5 v6 S) (K : K8 S0 S) : P_X9_go_243 (fun r T => Q r T ∧ K8 S0 T) v0 v2 v5 v6 S := by
  delta P_X9_go_243 at h ⊢
  obtain ⟨c1, h⟩ := h
  refine ⟨c1, ?_⟩
  have n2 := k8_nk K c1 (by decide)
  obtain ⟨b3, e4, h⟩ := h
  refine ⟨b3, e4, ?_⟩
  obtain ⟨c5, h⟩ := h
  refine ⟨c5, ?_⟩
  have n6 := k8_nk K c5 (by decide)
  obtain ⟨b7, e8, h⟩ := h
  refine ⟨b7, e8, ?_⟩
  obtain ⟨c9, h⟩ := h
  refine ⟨c9, ?_⟩
  have n10 := k8_nk K c9 (by decide)
  refine cm_X5_endOf (kx_X5_endOf h) h (fun x11 x12 p14 h g13 => ?_)
  have h := h g13
  have K := k8_tr K p14.2
  obtain ⟨c15, h⟩ := h
  refine ⟨c15, ?_⟩
  have n16 := k8_nk K c15 (by decide)
  intro x18 e17
  have h := h x18 e17
  have K := k8_I K e17 n16
  obtain ⟨b19, e20, h⟩ := h
  refine ⟨b19, e20, ?_⟩
  obtain ⟨c21, h⟩ := h
  refine ⟨c21, ?_⟩
  have n22 := k8_nk K c21 (by decide)
  obtain ⟨b23, e24, h⟩ := h
  refine ⟨b23, e24, ?_⟩
  obtain ⟨c25, h⟩ := h
  refine ⟨c25, ?_⟩
  have n26 := k8_nk K c25 (by decide)
  intro x28 e27
  have h := h x28 e27
  have K := k8_I K e27 n26
  refine cm_X9_grant (kx_X9_grant h) h (fun x29 x30 p32 h g31 => ?_)
  have h := h g31
  have K := k8_tr K p32.2
  exact ⟨h, K⟩
set_option maxRecDepth 20000 in
set_option maxHeartbeats 1000000 in
theorem kx_X9_go_0 {Q : Int32 → HS → Prop} {v0 : Nat} {v1 : Int32} {v2 : Int32} {v3 : Int32} {S0 S : HS} (h : P_X9_go_0 Q v0 v1 v2 v3 S) (K : K8 S0 S) : P_X9_go_0 (fun r T => Q r T ∧ K8 S0 T) v0 v1 v2 v3 S := by
  delta P_X9_go_0 at h ⊢
  obtain ⟨c1, h⟩ := h
  refine ⟨c1, ?_⟩
  have n2 := k8_nk K c1 (by decide)
  obtain ⟨b3, e4, h⟩ := h
  refine ⟨b3, e4, ?_⟩
  obtain ⟨c5, h⟩ := h
  refine ⟨c5, ?_⟩
  have n6 := k8_nk K c5 (by decide)
  refine cm_X0_isOn (kx_X0_isOn h) h (fun x7 x8 p11 h g9 g10 => ?_)
  have h := h g9 g10
  have K := k8_tr K p11.2
  refine ⟨?_, ?_⟩
  · intro c12
    have h := h.1 c12
    exact kx_X9_go_45 h K
  · intro c13
    have h := h.2 c13
    obtain ⟨b14, e15, h⟩ := h
    refine ⟨b14, e15, ?_⟩
    obtain ⟨b16, e17, h⟩ := h
    refine ⟨b16, e17, ?_⟩
    obtain ⟨c18, h⟩ := h
    refine ⟨c18, ?_⟩
    have n19 := k8_nk K c18 (by decide)
    intro x21 e20
    have h := h x21 e20
    obtain ⟨c22, h⟩ := h
    refine ⟨c22, ?_⟩
    have n23 := k8_nk K c22 (by decide)
    have o24 := c22
    refine cm_X8_hasWalker (kx_X8_hasWalker h) h (fun x25 x26 p29 h g27 g28 => ?_)
    have h := h g27 g28
    have K := k8_tr K p29.2
    have o24 := gr_ob p29.2.1 o24
    refine ⟨?_, ?_⟩
    · intro c30
      have h := h.1 c30
      exact kx_X9_go_45 h K
    · intro c31
      have h := h.2 c31
      obtain ⟨b32, e33, h⟩ := h
      refine ⟨b32, e33, ?_⟩
      obtain ⟨c34, h⟩ := h
      refine ⟨c34, ?_⟩
      have n35 := k8_nk K c34 (by decide)
      have o36 := c34
      refine cm_X8_hasRoad (kx_X8_hasRoad h) h (fun x37 x38 p41 h g39 g40 => ?_)
      have h := h g39 g40
      have K := k8_tr K p41.2
      have o24 := gr_ob p41.2.1 o24
      have o36 := gr_ob p41.2.1 o36
      refine ⟨?_, ?_⟩
      · intro c42
        have h := h.1 c42
        exact kx_X9_go_45 h K
      · intro c43
        have h := h.2 c43
        refine cm_X9_isWay (kx_X9_isWay h) h (fun x44 x45 p48 h g46 g47 => ?_)
        have h := h g46 g47
        have K := k8_tr K p48.2
        have o24 := gr_ob p48.2.1 o24
        have o36 := gr_ob p48.2.1 o36
        refine ⟨?_, ?_⟩
        · intro c49
          have h := h.1 c49
          obtain ⟨b50, e51, h⟩ := h
          refine ⟨b50, e51, ?_⟩
          obtain ⟨c52, h⟩ := h
          refine ⟨c52, ?_⟩
          have n53 := k8_nk K c52 (by decide)
          have o54 := c52
          obtain ⟨b55, e56, h⟩ := h
          refine ⟨b55, e56, ?_⟩
          obtain ⟨b57, e58, h⟩ := h
          refine ⟨b57, e58, ?_⟩
          obtain ⟨c59, h⟩ := h
          refine ⟨c59, ?_⟩
          have n60 := k8_nk K c59 (by decide)
          intro x62 e61
          have h := h x62 e61
          obtain ⟨c63, h⟩ := h
          refine ⟨c63, ?_⟩
          have n64 := k8_nk K c63 (by decide)
          obtain ⟨c65, h⟩ := h
          refine ⟨c65, ?_⟩
          obtain ⟨b66, e67, h⟩ := h
          refine ⟨b66, e67, ?_⟩
          obtain ⟨b68, e69, h⟩ := h
          refine ⟨b68, e69, ?_⟩
          obtain ⟨c70, h⟩ := h
          refine ⟨c70, ?_⟩
          have n71 := k8_nk K c70 (by decide)
          have o72 := c70
          obtain ⟨b73, e74, h⟩ := h
          refine ⟨b73, e74, ?_⟩
          obtain ⟨c75, h⟩ := h
          refine ⟨c75, ?_⟩
          have n76 := k8_nk K c75 (by decide)
          obtain ⟨c77, h⟩ := h
          refine ⟨c77, ?_⟩
          obtain ⟨b78, e79, h⟩ := h
          refine ⟨b78, e79, ?_⟩
          obtain ⟨c80, h⟩ := h
          refine ⟨c80, ?_⟩
          have n81 := k8_nk K c80 (by decide)
          refine cm_X6_canGo (kx_X6_canGo h) h (fun x82 x83 p86 h g84 g85 => ?_)
          have h := h g84 g85
          have K := k8_tr K p86.2
          have o24 := gr_ob p86.2.1 o24
          have o36 := gr_ob p86.2.1 o36
          have o54 := gr_ob p86.2.1 o54
          have o72 := gr_ob p86.2.1 o72
          refine ⟨?_, ?_⟩
          · intro c87
            have h := h.1 c87
            obtain ⟨c88, h⟩ := h
            refine ⟨c88, ?_⟩
            have n89 := k8_nk K c88 (by decide)
            refine cm_X5_startOf (kx_X5_startOf h) h (fun x90 x91 p93 h g92 => ?_)
            have h := h g92
            have K := k8_tr K p93.2
            have o24 := gr_ob p93.2.1 o24
            have o36 := gr_ob p93.2.1 o36
            have o54 := gr_ob p93.2.1 o54
            have o72 := gr_ob p93.2.1 o72
            obtain ⟨b94, e95, h⟩ := h
            refine ⟨b94, e95, ?_⟩
            obtain ⟨c96, h⟩ := h
            refine ⟨c96, ?_⟩
            have n97 := k8_nk K c96 (by decide)
            obtain ⟨b98, e99, h⟩ := h
            refine ⟨b98, e99, ?_⟩
            obtain ⟨c100, h⟩ := h
            refine ⟨c100, ?_⟩
            have n101 := k8_nk K c100 (by decide)
            intro x103 e102
            have h := h x103 e102
            refine ⟨?_, ?_⟩
            · intro c104
              have h := h.1 c104
              obtain ⟨b105, e106, h⟩ := h
              refine ⟨b105, e106, ?_⟩
              obtain ⟨c107, h⟩ := h
              refine ⟨c107, ?_⟩
              have n108 := k8_nk K c107 (by decide)
              obtain ⟨b109, e110, h⟩ := h
              refine ⟨b109, e110, ?_⟩
              obtain ⟨c111, h⟩ := h
              refine ⟨c111, ?_⟩
              have n112 := k8_nk K c111 (by decide)
              intro x114 e113
              have h := h x114 e113
              refine cm_X5_minutesAt (kx_X5_minutesAt h) h (fun x115 x116 p118 h g117 => ?_)
              have h := h g117
              have K := k8_tr K p118.2
              have o24 := gr_ob p118.2.1 o24
              have o36 := gr_ob p118.2.1 o36
              have o54 := gr_ob p118.2.1 o54
              have o72 := gr_ob p118.2.1 o72
              intro x120 e119
              have h := h x120 e119
              refine ⟨?_, ?_⟩
              · intro c121
                have h := h.1 c121
                obtain ⟨b122, e123, h⟩ := h
                refine ⟨b122, e123, ?_⟩
                obtain ⟨c124, h⟩ := h
                refine ⟨c124, ?_⟩
                have n125 := k8_nk K c124 (by decide)
                refine cm_X0_keepForUndo (kx_X0_keepForUndo h) h (fun x126 p128 h g127 => ?_)
                have h := h g127
                have K := k8_tr K p128.2
                have o24 := gr_ob p128.2.1 o24
                have o36 := gr_ob p128.2.1 o36
                have o54 := gr_ob p128.2.1 o54
                have o72 := gr_ob p128.2.1 o72
                obtain ⟨b129, e130, h⟩ := h
                refine ⟨b129, e130, ?_⟩
                obtain ⟨b131, e132, h⟩ := h
                refine ⟨b131, e132, ?_⟩
                obtain ⟨c133, h⟩ := h
                refine ⟨c133, ?_⟩
                have n134 := k8_nk K c133 (by decide)
                obtain ⟨b135, e136, h⟩ := h
                refine ⟨b135, e136, ?_⟩
                obtain ⟨c137, h⟩ := h
                refine ⟨c137, ?_⟩
                have n138 := k8_nk K c137 (by decide)
                intro x140 e139
                have h := h x140 e139
                obtain ⟨c141, h⟩ := h
                refine ⟨c141, ?_⟩
                have n142 := k8_nk K c141 (by decide)
                have o143 := c141
                refine cm_X8_hourOf (kx_X8_hourOf h) h (fun x144 x145 p147 h g146 => ?_)
                have h := h g146
                have K := k8_tr K p147.2
                have o24 := gr_ob p147.2.1 o24
                have o36 := gr_ob p147.2.1 o36
                have o54 := gr_ob p147.2.1 o54
                have o72 := gr_ob p147.2.1 o72
                have o143 := gr_ob p147.2.1 o143
                obtain ⟨b148, e149, h⟩ := h
                refine ⟨b148, e149, ?_⟩
                obtain ⟨c150, h⟩ := h
                refine ⟨c150, ?_⟩
                have n151 := k8_nk K c150 (by decide)
                have o152 := c150
                refine cm_X8_hasHour (kx_X8_hasHour h) h (fun x153 x154 p157 h g155 g156 => ?_)
                have h := h g155 g156
                have K := k8_tr K p157.2
                have o24 := gr_ob p157.2.1 o24
                have o36 := gr_ob p157.2.1 o36
                have o54 := gr_ob p157.2.1 o54
                have o72 := gr_ob p157.2.1 o72
                have o143 := gr_ob p157.2.1 o143
                have o152 := gr_ob p157.2.1 o152
                refine ⟨?_, ?_⟩
                · intro c158
                  have h := h.1 c158
                  exact kx_X9_go_243 h K
                · intro c159
                  have h := h.2 c159
                  obtain ⟨b160, e161, h⟩ := h
                  refine ⟨b160, e161, ?_⟩
                  obtain ⟨c162, h⟩ := h
                  refine ⟨c162, ?_⟩
                  have n163 := k8_nk K c162 (by decide)
                  refine cm_X0_rainsIn (kx_X0_rainsIn h) h (fun x164 x165 p168 h g166 g167 => ?_)
                  have h := h g166 g167
                  have K := k8_tr K p168.2
                  have o24 := gr_ob p168.2.1 o24
                  have o36 := gr_ob p168.2.1 o36
                  have o54 := gr_ob p168.2.1 o54
                  have o72 := gr_ob p168.2.1 o72
                  have o143 := gr_ob p168.2.1 o143
                  have o152 := gr_ob p168.2.1 o152
                  refine ⟨?_, ?_⟩
                  · intro c169
                    have h := h.1 c169
                    exact kx_X9_go_243 h K
                  · intro c170
                    have h := h.2 c170
                    obtain ⟨b171, e172, h⟩ := h
                    refine ⟨b171, e172, ?_⟩
                    obtain ⟨b173, e174, h⟩ := h
                    refine ⟨b173, e174, ?_⟩
                    obtain ⟨c175, h⟩ := h
                    refine ⟨c175, ?_⟩
                    have n176 := k8_nk K c175 (by decide)
                    have o177 := c175
                    obtain ⟨b178, e179, h⟩ := h
                    refine ⟨b178, e179, ?_⟩
                    obtain ⟨c180, h⟩ := h
                    refine ⟨c180, ?_⟩
                    have n181 := k8_nk K c180 (by decide)
                    obtain ⟨c182, h⟩ := h
                    refine ⟨c182, ?_⟩
                    obtain ⟨b183, e184, h⟩ := h
                    refine ⟨b183, e184, ?_⟩
                    obtain ⟨c185, h⟩ := h
                    refine ⟨c185, ?_⟩
                    have n186 := k8_nk K c185 (by decide)
                    refine cm_X1_wetOf (kx_X1_wetOf h) h (fun x187 x188 p190 h g189 => ?_)
                    have h := h g189
                    have K := k8_tr K p190.2
                    have o24 := gr_ob p190.2.1 o24
                    have o36 := gr_ob p190.2.1 o36
                    have o54 := gr_ob p190.2.1 o54
                    have o72 := gr_ob p190.2.1 o72
                    have o143 := gr_ob p190.2.1 o143
                    have o152 := gr_ob p190.2.1 o152
                    have o177 := gr_ob p190.2.1 o177
                    obtain ⟨b191, e192, h⟩ := h
                    refine ⟨b191, e192, ?_⟩
                    obtain ⟨c193, h⟩ := h
                    refine ⟨c193, ?_⟩
                    have n194 := k8_nk K c193 (by decide)
                    obtain ⟨b195, e196, h⟩ := h
                    refine ⟨b195, e196, ?_⟩
                    obtain ⟨b197, e198, h⟩ := h
                    refine ⟨b197, e198, ?_⟩
                    obtain ⟨c199, h⟩ := h
                    refine ⟨c199, ?_⟩
                    have n200 := k8_nk K c199 (by decide)
                    obtain ⟨b201, e202, h⟩ := h
                    refine ⟨b201, e202, ?_⟩
                    obtain ⟨c203, h⟩ := h
                    refine ⟨c203, ?_⟩
                    have n204 := k8_nk K c203 (by decide)
                    refine cm_X2_addFaces (kx_X2_addFaces h) h (fun x205 p207 h g206 => ?_)
                    have h := h g206
                    have K := k8_tr K p207.2
                    have o24 := gr_ob p207.2.1 o24
                    have o36 := gr_ob p207.2.1 o36
                    have o54 := gr_ob p207.2.1 o54
                    have o72 := gr_ob p207.2.1 o72
                    have o143 := gr_ob p207.2.1 o143
                    have o152 := gr_ob p207.2.1 o152
                    have o177 := gr_ob p207.2.1 o177
                    exact kx_X9_go_243 h K
              · intro c208
                have h := h.2 c208
                refine cm_X9_refuse (kx_X9_refuse h) h (fun x209 x210 p212 h g211 => ?_)
                have h := h g211
                have K := k8_tr K p212.2
                have o24 := gr_ob p212.2.1 o24
                have o36 := gr_ob p212.2.1 o36
                have o54 := gr_ob p212.2.1 o54
                have o72 := gr_ob p212.2.1 o72
                exact ⟨h, K⟩
            · intro c213
              have h := h.2 c213
              refine cm_X9_refuse (kx_X9_refuse h) h (fun x214 x215 p217 h g216 => ?_)
              have h := h g216
              have K := k8_tr K p217.2
              have o24 := gr_ob p217.2.1 o24
              have o36 := gr_ob p217.2.1 o36
              have o54 := gr_ob p217.2.1 o54
              have o72 := gr_ob p217.2.1 o72
              exact ⟨h, K⟩
          · intro c218
            have h := h.2 c218
            refine cm_X9_refuse (kx_X9_refuse h) h (fun x219 x220 p222 h g221 => ?_)
            have h := h g221
            have K := k8_tr K p222.2
            have o24 := gr_ob p222.2.1 o24
            have o36 := gr_ob p222.2.1 o36
            have o54 := gr_ob p222.2.1 o54
            have o72 := gr_ob p222.2.1 o72
            exact ⟨h, K⟩
        · intro c223
          have h := h.2 c223
          exact kx_X9_go_45 h K
theorem kx_X9_go {Q : Int32 → HS → Prop} {v0 : Nat} {v1 : Int32} {v2 : Int32} {v3 : Int32} {S : HS} (h : P_X9_go v0 v1 v2 v3 Q S) : P_X9_go v0 v1 v2 v3 (fun r T => Q r T ∧ K8 S T) S := kx_X9_go_0 h (k8_rf S)
set_option maxRecDepth 20000 in
set_option maxHeartbeats 1000000 in
theorem kx_X9_got_17 {Q : Int64 → HS → Prop} {v0 : Nat} {S0 S : HS} (h : P_X9_got_17 Q v0 S) (K : K8 S0 S) : P_X9_got_17 (fun r T => Q r T ∧ K8 S0 T) v0 S := by
  delta P_X9_got_17 at h ⊢
  obtain ⟨c1, h⟩ := h
  refine ⟨c1, ?_⟩
  have n2 := k8_nk K c1 (by decide)
  refine cm_X9_refuse (kx_X9_refuse h) h (fun x3 x4 p6 h g5 => ?_)
  have h := h g5
  have K := k8_tr K p6.2
  exact ⟨h, K⟩
set_option maxRecDepth 20000 in
set_option maxHeartbeats 1000000 in
theorem kx_X9_got_0 {Q : Int64 → HS → Prop} {v0 : Nat} {v1 : Int32} {v2 : Int32} {S0 S : HS} (h : P_X9_got_0 Q v0 v1 v2 S) (K : K8 S0 S) : P_X9_got_0 (fun r T => Q r T ∧ K8 S0 T) v0 v1 v2 S := by
  delta P_X9_got_0 at h ⊢
  obtain ⟨c1, h⟩ := h
  refine ⟨c1, ?_⟩
  have n2 := k8_nk K c1 (by decide)
  obtain ⟨b3, e4, h⟩ := h
  refine ⟨b3, e4, ?_⟩
  obtain ⟨c5, h⟩ := h
  refine ⟨c5, ?_⟩
  have n6 := k8_nk K c5 (by decide)
  refine cm_X0_isOn (kx_X0_isOn h) h (fun x7 x8 p11 h g9 g10 => ?_)
  have h := h g9 g10
  have K := k8_tr K p11.2
  refine ⟨?_, ?_⟩
  · intro c12
    have h := h.1 c12
    exact kx_X9_got_17 h K
  · intro c13
    have h := h.2 c13
    refine cm_X9_isFace (kx_X9_isFace h) h (fun x14 x15 p18 h g16 g17 => ?_)
    have h := h g16 g17
    have K := k8_tr K p18.2
    refine ⟨?_, ?_⟩
    · intro c19
      have h := h.1 c19
      intro x21 e20
      have h := h x21 e20
      have K := k8_I K e20 n2
      obtain ⟨b22, e23, h⟩ := h
      refine ⟨b22, e23, ?_⟩
      obtain ⟨c24, h⟩ := h
      refine ⟨c24, ?_⟩
      have n25 := k8_nk K c24 (by decide)
      obtain ⟨b26, e27, h⟩ := h
      refine ⟨b26, e27, ?_⟩
      obtain ⟨c28, h⟩ := h
      refine ⟨c28, ?_⟩
      have n29 := k8_nk K c28 (by decide)
      obtain ⟨b30, e31, h⟩ := h
      refine ⟨b30, e31, ?_⟩
      obtain ⟨c32, h⟩ := h
      refine ⟨c32, ?_⟩
      have n33 := k8_nk K c32 (by decide)
      obtain ⟨c34, h⟩ := h
      refine ⟨c34, ?_⟩
      intro x36 e35
      have h := h x36 e35
      refine cm_X9_fraction (kx_X9_fraction h) h (fun x37 x38 p40 h g39 => ?_)
      have h := h g39
      have K := k8_tr K p40.2
      exact ⟨h, K⟩
    · intro c41
      have h := h.2 c41
      exact kx_X9_got_17 h K
theorem kx_X9_got {Q : Int64 → HS → Prop} {v0 : Nat} {v1 : Int32} {v2 : Int32} {S : HS} (h : P_X9_got v0 v1 v2 Q S) : P_X9_got v0 v1 v2 (fun r T => Q r T ∧ K8 S T) S := kx_X9_got_0 h (k8_rf S)
set_option maxRecDepth 20000 in
set_option maxHeartbeats 1000000 in
theorem kx_X9_held_0 {Q : Int32 → HS → Prop} {v0 : Nat} {v1 : Int32} {v2 : Int32} {v3 : Int32} {v4 : Int32} {v5 : Int32} {S0 S : HS} (h : P_X9_held_0 Q v0 v1 v2 v3 v4 v5 S) (K : K8 S0 S) : P_X9_held_0 (fun r T => Q r T ∧ K8 S0 T) v0 v1 v2 v3 v4 v5 S := by
  delta P_X9_held_0 at h ⊢
  obtain ⟨c1, h⟩ := h
  refine ⟨c1, ?_⟩
  have n2 := k8_nk K c1 (by decide)
  refine cm_X9_legTrouble (kx_X9_legTrouble h) h (fun x3 x4 p6 h g5 => ?_)
  have h := h g5
  have K := k8_tr K p6.2
  refine cm_X9_refusedBy (kx_X9_refusedBy h) h (fun x7 x8 p11 h g9 g10 => ?_)
  have h := h g9 g10
  have K := k8_tr K p11.2
  refine ⟨?_, ?_⟩
  · intro c12
    have h := h.1 c12
    obtain ⟨b13, e14, h⟩ := h
    refine ⟨b13, e14, ?_⟩
    obtain ⟨c15, h⟩ := h
    refine ⟨c15, ?_⟩
    have n16 := k8_nk K c15 (by decide)
    have o17 := c15
    obtain ⟨b18, e19, h⟩ := h
    refine ⟨b18, e19, ?_⟩
    obtain ⟨c20, h⟩ := h
    refine ⟨c20, ?_⟩
    have n21 := k8_nk K c20 (by decide)
    obtain ⟨c22, h⟩ := h
    refine ⟨c22, ?_⟩
    obtain ⟨b23, e24, h⟩ := h
    refine ⟨b23, e24, ?_⟩
    obtain ⟨c25, h⟩ := h
    refine ⟨c25, ?_⟩
    have n26 := k8_nk K c25 (by decide)
    intro x28 e27
    have h := h x28 e27
    refine ⟨?_, ?_⟩
    · intro c29
      have h := h.1 c29
      obtain ⟨b30, e31, h⟩ := h
      refine ⟨b30, e31, ?_⟩
      obtain ⟨b32, e33, h⟩ := h
      refine ⟨b32, e33, ?_⟩
      obtain ⟨c34, h⟩ := h
      refine ⟨c34, ?_⟩
      have n35 := k8_nk K c34 (by decide)
      have o36 := c34
      obtain ⟨b37, e38, h⟩ := h
      refine ⟨b37, e38, ?_⟩
      obtain ⟨c39, h⟩ := h
      refine ⟨c39, ?_⟩
      have n40 := k8_nk K c39 (by decide)
      obtain ⟨c41, h⟩ := h
      refine ⟨c41, ?_⟩
      obtain ⟨b42, e43, h⟩ := h
      refine ⟨b42, e43, ?_⟩
      obtain ⟨b44, e45, h⟩ := h
      refine ⟨b44, e45, ?_⟩
      obtain ⟨c46, h⟩ := h
      refine ⟨c46, ?_⟩
      have n47 := k8_nk K c46 (by decide)
      have o48 := c46
      obtain ⟨b49, e50, h⟩ := h
      refine ⟨b49, e50, ?_⟩
      obtain ⟨c51, h⟩ := h
      refine ⟨c51, ?_⟩
      have n52 := k8_nk K c51 (by decide)
      obtain ⟨c53, h⟩ := h
      refine ⟨c53, ?_⟩
      obtain ⟨b54, e55, h⟩ := h
      refine ⟨b54, e55, ?_⟩
      obtain ⟨c56, h⟩ := h
      refine ⟨c56, ?_⟩
      have n57 := k8_nk K c56 (by decide)
      refine cm_X1_lay (kx_X1_lay h) h (fun x58 p60 h g59 => ?_)
      have h := h g59
      have K := k8_tr K p60.2
      have o17 := gr_ob p60.2.1 o17
      have o36 := gr_ob p60.2.1 o36
      have o48 := gr_ob p60.2.1 o48
      obtain ⟨b61, e62, h⟩ := h
      refine ⟨b61, e62, ?_⟩
      obtain ⟨b63, e64, h⟩ := h
      refine ⟨b63, e64, ?_⟩
      obtain ⟨c65, h⟩ := h
      refine ⟨c65, ?_⟩
      have n66 := k8_nk K c65 (by decide)
      have o67 := c65
      obtain ⟨b68, e69, h⟩ := h
      refine ⟨b68, e69, ?_⟩
      obtain ⟨c70, h⟩ := h
      refine ⟨c70, ?_⟩
      have n71 := k8_nk K c70 (by decide)
      obtain ⟨c72, h⟩ := h
      refine ⟨c72, ?_⟩
      obtain ⟨b73, e74, h⟩ := h
      refine ⟨b73, e74, ?_⟩
      obtain ⟨c75, h⟩ := h
      refine ⟨c75, ?_⟩
      have n76 := k8_nk K c75 (by decide)
      refine cm_X1_isForward (kx_X1_isForward h) h (fun x77 x78 p81 h g79 g80 => ?_)
      have h := h g79 g80
      have K := k8_tr K p81.2
      have o17 := gr_ob p81.2.1 o17
      have o36 := gr_ob p81.2.1 o36
      have o48 := gr_ob p81.2.1 o48
      have o67 := gr_ob p81.2.1 o67
      refine ⟨?_, ?_⟩
      · intro c82
        have h := h.1 c82
        exact ⟨h, K⟩
      · intro c83
        have h := h.2 c83
        exact ⟨h, K⟩
    · intro c84
      have h := h.2 c84
      exact ⟨h, K⟩
  · intro c85
    have h := h.2 c85
    exact ⟨h, K⟩
theorem kx_X9_held {Q : Int32 → HS → Prop} {v0 : Nat} {v1 : Int32} {v2 : Int32} {v3 : Int32} {v4 : Int32} {v5 : Int32} {S : HS} (h : P_X9_held v0 v1 v2 v3 v4 v5 Q S) : P_X9_held v0 v1 v2 v3 v4 v5 (fun r T => Q r T ∧ K8 S T) S := kx_X9_held_0 h (k8_rf S)
set_option maxRecDepth 20000 in
set_option maxHeartbeats 1000000 in
theorem kx_X9_isTill_0 {Q : Int32 → HS → Prop} {v0 : Int32} {S0 S : HS} (h : P_X9_isTill_0 Q v0 S) (K : K8 S0 S) : P_X9_isTill_0 (fun r T => Q r T ∧ K8 S0 T) v0 S := by
  delta P_X9_isTill_0 at h ⊢
  refine ⟨?_, ?_⟩
  · intro c1
    have h := h.1 c1
    exact ⟨h, K⟩
  · intro c2
    have h := h.2 c2
    refine ⟨?_, ?_⟩
    · intro c3
      have h := h.1 c3
      exact ⟨h, K⟩
    · intro c4
      have h := h.2 c4
      exact ⟨h, K⟩
theorem kx_X9_isTill {Q : Int32 → HS → Prop} {v0 : Int32} {S : HS} (h : P_X9_isTill v0 Q S) : P_X9_isTill v0 (fun r T => Q r T ∧ K8 S T) S := kx_X9_isTill_0 h (k8_rf S)
set_option maxRecDepth 20000 in
set_option maxHeartbeats 1000000 in
theorem kx_X9_placesTrouble_38 {Q : Int32 → HS → Prop} {s0 : Int32} {S0 S : HS} (h : P_X9_placesTrouble_38 Q s0 S) (K : K8 S0 S) : P_X9_placesTrouble_38 (fun r T => Q r T ∧ K8 S0 T) s0 S := by
  delta P_X9_placesTrouble_38 at h ⊢
  refine ⟨?_, ?_⟩
  · intro c1
    have h := h.1 c1
    exact ⟨h, K⟩
  · intro c2
    have h := h.2 c2
    exact ⟨h, K⟩
set_option maxRecDepth 20000 in
set_option maxHeartbeats 1000000 in
theorem kx_X9_placesTrouble_37 {Q : Int32 → HS → Prop} {S0 S : HS} (h : P_X9_placesTrouble_37 Q S) (K : K8 S0 S) : P_X9_placesTrouble_37 (fun r T => Q r T ∧ K8 S0 T) S := by
  delta P_X9_placesTrouble_37 at h ⊢
  exact kx_X9_placesTrouble_38 h K
set_option maxRecDepth 20000 in
set_option maxHeartbeats 1000000 in
theorem kx_X9_placesTrouble_0 {Q : Int32 → HS → Prop} {v0 : Nat} {v1 : Int32} {v2 : Int32} {v3 : Int32} {S0 S : HS} (h : P_X9_placesTrouble_0 Q v0 v1 v2 v3 S) (K : K8 S0 S) : P_X9_placesTrouble_0 (fun r T => Q r T ∧ K8 S0 T) v0 v1 v2 v3 S := by
  delta P_X9_placesTrouble_0 at h ⊢
  obtain ⟨c1, h⟩ := h
  refine ⟨c1, ?_⟩
  have n2 := k8_nk K c1 (by decide)
  obtain ⟨b3, e4, h⟩ := h
  refine ⟨b3, e4, ?_⟩
  obtain ⟨c5, h⟩ := h
  refine ⟨c5, ?_⟩
  have n6 := k8_nk K c5 (by decide)
  have o7 := c5
  refine cm_X8_hasWalker (kx_X8_hasWalker h) h (fun x8 x9 p12 h g10 g11 => ?_)
  have h := h g10 g11
  have K := k8_tr K p12.2
  have o7 := gr_ob p12.2.1 o7
  refine ⟨?_, ?_⟩
  · intro c13
    have h := h.1 c13
    exact kx_X9_placesTrouble_37 h K
  · intro c14
    have h := h.2 c14
    obtain ⟨b15, e16, h⟩ := h
    refine ⟨b15, e16, ?_⟩
    obtain ⟨c17, h⟩ := h
    refine ⟨c17, ?_⟩
    have n18 := k8_nk K c17 (by decide)
    have o19 := c17
    refine cm_X8_hasPlace (kx_X8_hasPlace h) h (fun x20 x21 p24 h g22 g23 => ?_)
    have h := h g22 g23
    have K := k8_tr K p24.2
    have o7 := gr_ob p24.2.1 o7
    have o19 := gr_ob p24.2.1 o19
    refine ⟨?_, ?_⟩
    · intro c25
      have h := h.1 c25
      exact kx_X9_placesTrouble_37 h K
    · intro c26
      have h := h.2 c26
      obtain ⟨b27, e28, h⟩ := h
      refine ⟨b27, e28, ?_⟩
      obtain ⟨c29, h⟩ := h
      refine ⟨c29, ?_⟩
      have n30 := k8_nk K c29 (by decide)
      have o31 := c29
      refine cm_X8_hasPlace (kx_X8_hasPlace h) h (fun x32 x33 p36 h g34 g35 => ?_)
      have h := h g34 g35
      have K := k8_tr K p36.2
      have o7 := gr_ob p36.2.1 o7
      have o19 := gr_ob p36.2.1 o19
      have o31 := gr_ob p36.2.1 o31
      refine ⟨?_, ?_⟩
      · intro c37
        have h := h.1 c37
        exact kx_X9_placesTrouble_37 h K
      · intro c38
        have h := h.2 c38
        exact kx_X9_placesTrouble_38 h K
theorem kx_X9_placesTrouble {Q : Int32 → HS → Prop} {v0 : Nat} {v1 : Int32} {v2 : Int32} {v3 : Int32} {S : HS} (h : P_X9_placesTrouble v0 v1 v2 v3 Q S) : P_X9_placesTrouble v0 v1 v2 v3 (fun r T => Q r T ∧ K8 S T) S := kx_X9_placesTrouble_0 h (k8_rf S)
set_option maxRecDepth 20000 in
set_option maxHeartbeats 1000000 in
theorem kx_X9_wayTrouble_0 {Q : Int32 → HS → Prop} {v0 : Nat} {v1 : Int32} {v2 : Int32} {v3 : Int32} {v4 : Int32} {v5 : Int32} {S0 S : HS} (h : P_X9_wayTrouble_0 Q v0 v1 v2 v3 v4 v5 S) (K : K8 S0 S) : P_X9_wayTrouble_0 (fun r T => Q r T ∧ K8 S0 T) v0 v1 v2 v3 v4 v5 S := by
  delta P_X9_wayTrouble_0 at h ⊢
  obtain ⟨c1, h⟩ := h
  refine ⟨c1, ?_⟩
  have n2 := k8_nk K c1 (by decide)
  refine cm_X9_placesTrouble (kx_X9_placesTrouble h) h (fun x3 x4 p6 h g5 => ?_)
  have h := h g5
  have K := k8_tr K p6.2
  refine ⟨?_, ?_⟩
  · intro c7
    have h := h.1 c7
    refine cm_X9_isTill (kx_X9_isTill h) h (fun x8 x9 p12 h g10 g11 => ?_)
    have h := h g10 g11
    have K := k8_tr K p12.2
    refine ⟨?_, ?_⟩
    · intro c13
      have h := h.1 c13
      exact ⟨h, K⟩
    · intro c14
      have h := h.2 c14
      refine ⟨?_, ?_⟩
      · intro c15
        have h := h.1 c15
        exact ⟨h, K⟩
      · intro c16
        have h := h.2 c16
        refine ⟨?_, ?_⟩
        · intro c17
          have h := h.1 c17
          obtain ⟨b18, e19, h⟩ := h
          refine ⟨b18, e19, ?_⟩
          obtain ⟨b20, e21, h⟩ := h
          refine ⟨b20, e21, ?_⟩
          obtain ⟨b22, e23, h⟩ := h
          refine ⟨b22, e23, ?_⟩
          obtain ⟨c24, h⟩ := h
          refine ⟨c24, ?_⟩
          have n25 := k8_nk K c24 (by decide)
          have o26 := c24
          refine cm_X7_reckon (kx_X7_reckon h) h (fun x27 p29 h g28 => ?_)
          have h := h g28
          have K := k8_tr K p29.2
          have o26 := gr_ob p29.2.1 o26
          obtain ⟨b30, e31, h⟩ := h
          refine ⟨b30, e31, ?_⟩
          obtain ⟨c32, h⟩ := h
          refine ⟨c32, ?_⟩
          have n33 := k8_nk K c32 (by decide)
          have o34 := c32
          refine cm_X7_isOpen (kx_X7_isOpen h) h (fun x35 x36 p39 h g37 g38 => ?_)
          have h := h g37 g38
          have K := k8_tr K p39.2
          have o26 := gr_ob p39.2.1 o26
          have o34 := gr_ob p39.2.1 o34
          refine ⟨?_, ?_⟩
          · intro c40
            have h := h.1 c40
            exact ⟨h, K⟩
          · intro c41
            have h := h.2 c41
            exact ⟨h, K⟩
        · intro c42
          have h := h.2 c42
          exact ⟨h, K⟩
  · intro c43
    have h := h.2 c43
    exact ⟨h, K⟩
theorem kx_X9_wayTrouble {Q : Int32 → HS → Prop} {v0 : Nat} {v1 : Int32} {v2 : Int32} {v3 : Int32} {v4 : Int32} {v5 : Int32} {S : HS} (h : P_X9_wayTrouble v0 v1 v2 v3 v4 v5 Q S) : P_X9_wayTrouble v0 v1 v2 v3 v4 v5 (fun r T => Q r T ∧ K8 S T) S := kx_X9_wayTrouble_0 h (k8_rf S)
set_option maxRecDepth 20000 in
set_option maxHeartbeats 1000000 in
theorem kx_X9_least_0 {Q : Int64 → HS → Prop} {v0 : Nat} {v1 : Int32} {v2 : Int32} {v3 : Int32} {v4 : Int32} {v5 : Int32} {v6 : Int32} {S0 S : HS} (h : P_X9_least_0 Q v0 v1 v2 v3 v4 v5 v6 S) (K : K8 S0 S) : P_X9_least_0 (fun r T => Q r T ∧ K8 S0 T) v0 v1 v2 v3 v4 v5 v6 S := by
  delta P_X9_least_0 at h ⊢
  obtain ⟨c1, h⟩ := h
  refine ⟨c1, ?_⟩
  have n2 := k8_nk K c1 (by decide)
  refine cm_X9_wayTrouble (kx_X9_wayTrouble h) h (fun x3 x4 p6 h g5 => ?_)
  have h := h g5
  have K := k8_tr K p6.2
  refine cm_X9_refusedBy (kx_X9_refusedBy h) h (fun x7 x8 p11 h g9 g10 => ?_)
  have h := h g9 g10
  have K := k8_tr K p11.2
  refine ⟨?_, ?_⟩
  · intro c12
    have h := h.1 c12
    obtain ⟨b13, e14, h⟩ := h
    refine ⟨b13, e14, ?_⟩
    obtain ⟨c15, h⟩ := h
    refine ⟨c15, ?_⟩
    have n16 := k8_nk K c15 (by decide)
    have o17 := c15
    refine cm_X7_meanFrom (kx_X7_meanFrom h) h (fun x18 x19 p21 h g20 => ?_)
    have h := h g20
    have K := k8_tr K p21.2
    have o17 := gr_ob p21.2.1 o17
    refine cm_X9_fraction (kx_X9_fraction h) h (fun x22 x23 p25 h g24 => ?_)
    have h := h g24
    have K := k8_tr K p25.2
    have o17 := gr_ob p25.2.1 o17
    exact ⟨h, K⟩
  · intro c26
    have h := h.2 c26
    exact ⟨h, K⟩
theorem kx_X9_least {Q : Int64 → HS → Prop} {v0 : Nat} {v1 : Int32} {v2 : Int32} {v3 : Int32} {v4 : Int32} {v5 : Int32} {v6 : Int32} {S : HS} (h : P_X9_least v0 v1 v2 v3 v4 v5 v6 Q S) : P_X9_least v0 v1 v2 v3 v4 v5 v6 (fun r T => Q r T ∧ K8 S T) S := kx_X9_least_0 h (k8_rf S)
set_option maxRecDepth 20000 in
set_option maxHeartbeats 1000000 in
theorem kx_X9_lee_0 {Q : Int64 → HS → Prop} {v0 : Nat} {v1 : Int32} {v2 : Int32} {v3 : Int32} {v4 : Int32} {v5 : Int32} {v6 : Int32} {v7 : Int32} {S0 S : HS} (h : P_X9_lee_0 Q v0 v1 v2 v3 v4 v5 v6 v7 S) (K : K8 S0 S) : P_X9_lee_0 (fun r T => Q r T ∧ K8 S0 T) v0 v1 v2 v3 v4 v5 v6 v7 S := by
  delta P_X9_lee_0 at h ⊢
  obtain ⟨c1, h⟩ := h
  refine ⟨c1, ?_⟩
  have n2 := k8_nk K c1 (by decide)
  refine cm_X9_leeTrouble (kx_X9_leeTrouble h) h (fun x3 x4 p6 h g5 => ?_)
  have h := h g5
  have K := k8_tr K p6.2
  refine cm_X9_refusedBy (kx_X9_refusedBy h) h (fun x7 x8 p11 h g9 g10 => ?_)
  have h := h g9 g10
  have K := k8_tr K p11.2
  refine ⟨?_, ?_⟩
  · intro c12
    have h := h.1 c12
    obtain ⟨b13, e14, h⟩ := h
    refine ⟨b13, e14, ?_⟩
    obtain ⟨b15, e16, h⟩ := h
    refine ⟨b15, e16, ?_⟩
    obtain ⟨c17, h⟩ := h
    refine ⟨c17, ?_⟩
    have n18 := k8_nk K c17 (by decide)
    have o19 := c17
    obtain ⟨b20, e21, h⟩ := h
    refine ⟨b20, e21, ?_⟩
    obtain ⟨c22, h⟩ := h
    refine ⟨c22, ?_⟩
    have n23 := k8_nk K c22 (by decide)
    obtain ⟨c24, h⟩ := h
    refine ⟨c24, ?_⟩
    obtain ⟨b25, e26, h⟩ := h
    refine ⟨b25, e26, ?_⟩
    obtain ⟨b27, e28, h⟩ := h
    refine ⟨b27, e28, ?_⟩
    obtain ⟨c29, h⟩ := h
    refine ⟨c29, ?_⟩
    have n30 := k8_nk K c29 (by decide)
    have o31 := c29
    obtain ⟨b32, e33, h⟩ := h
    refine ⟨b32, e33, ?_⟩
    obtain ⟨c34, h⟩ := h
    refine ⟨c34, ?_⟩
    have n35 := k8_nk K c34 (by decide)
    obtain ⟨c36, h⟩ := h
    refine ⟨c36, ?_⟩
    obtain ⟨b37, e38, h⟩ := h
    refine ⟨b37, e38, ?_⟩
    obtain ⟨c39, h⟩ := h
    refine ⟨c39, ?_⟩
    have n40 := k8_nk K c39 (by decide)
    refine cm_X1_lay (kx_X1_lay h) h (fun x41 p43 h g42 => ?_)
    have h := h g42
    have K := k8_tr K p43.2
    have o19 := gr_ob p43.2.1 o19
    have o31 := gr_ob p43.2.1 o31
    obtain ⟨b44, e45, h⟩ := h
    refine ⟨b44, e45, ?_⟩
    obtain ⟨b46, e47, h⟩ := h
    refine ⟨b46, e47, ?_⟩
    obtain ⟨c48, h⟩ := h
    refine ⟨c48, ?_⟩
    have n49 := k8_nk K c48 (by decide)
    have o50 := c48
    obtain ⟨b51, e52, h⟩ := h
    refine ⟨b51, e52, ?_⟩
    obtain ⟨c53, h⟩ := h
    refine ⟨c53, ?_⟩
    have n54 := k8_nk K c53 (by decide)
    obtain ⟨c55, h⟩ := h
    refine ⟨c55, ?_⟩
    obtain ⟨b56, e57, h⟩ := h
    refine ⟨b56, e57, ?_⟩
    obtain ⟨b58, e59, h⟩ := h
    refine ⟨b58, e59, ?_⟩
    obtain ⟨c60, h⟩ := h
    refine ⟨c60, ?_⟩
    have n61 := k8_nk K c60 (by decide)
    have o62 := c60
    obtain ⟨b63, e64, h⟩ := h
    refine ⟨b63, e64, ?_⟩
    obtain ⟨c65, h⟩ := h
    refine ⟨c65, ?_⟩
    have n66 := k8_nk K c65 (by decide)
    obtain ⟨c67, h⟩ := h
    refine ⟨c67, ?_⟩
    obtain ⟨b68, e69, h⟩ := h
    refine ⟨b68, e69, ?_⟩
    obtain ⟨c70, h⟩ := h
    refine ⟨c70, ?_⟩
    have n71 := k8_nk K c70 (by decide)
    refine cm_X1_wetInLee (kx_X1_wetInLee h) h (fun x72 x73 p75 h g74 => ?_)
    have h := h g74
    have K := k8_tr K p75.2
    have o19 := gr_ob p75.2.1 o19
    have o31 := gr_ob p75.2.1 o31
    have o50 := gr_ob p75.2.1 o50
    have o62 := gr_ob p75.2.1 o62
    refine cm_X9_fraction (kx_X9_fraction h) h (fun x76 x77 p79 h g78 => ?_)
    have h := h g78
    have K := k8_tr K p79.2
    have o19 := gr_ob p79.2.1 o19
    have o31 := gr_ob p79.2.1 o31
    have o50 := gr_ob p79.2.1 o50
    have o62 := gr_ob p79.2.1 o62
    exact ⟨h, K⟩
  · intro c80
    have h := h.2 c80
    exact ⟨h, K⟩
theorem kx_X9_lee {Q : Int64 → HS → Prop} {v0 : Nat} {v1 : Int32} {v2 : Int32} {v3 : Int32} {v4 : Int32} {v5 : Int32} {v6 : Int32} {v7 : Int32} {S : HS} (h : P_X9_lee v0 v1 v2 v3 v4 v5 v6 v7 Q S) : P_X9_lee v0 v1 v2 v3 v4 v5 v6 v7 (fun r T => Q r T ∧ K8 S T) S := kx_X9_lee_0 h (k8_rf S)
set_option maxRecDepth 20000 in
set_option maxHeartbeats 1000000 in
theorem kx_X9_lies_54 {Q : Int32 → HS → Prop} {X20 X20_2 : Nat → Int32 → Int32 → HS → Prop} {v0 : Nat} {v1 : Int32} {v2 : Int32} {S0 S : HS} (h : P_X9_lies_54 Q X20 v0 v1 v2 S) (K : K8 S0 S) (hX20 : ∀ (u0 : Nat) (u1 : Int32) (u2 : Int32) (u3 : HS), X20 u0 u1 u2 u3 → K8 S0 u3 → X20_2 u0 u1 u2 u3) : P_X9_lies_54 (fun r T => Q r T ∧ K8 S0 T) X20_2 v0 v1 v2 S := by
  delta P_X9_lies_54 at h ⊢
  intro x2 e1
  have h := h x2 e1
  exact hX20 _ _ _ _ h K
set_option maxRecDepth 20000 in
set_option maxHeartbeats 1000000 in
theorem kxB_X9_lies_20 {Q : Int32 → HS → Prop} {X20 X20_2 : Nat → Int32 → Int32 → HS → Prop} {v0 : Nat} {v1 : Int32} {v2 : Int32} {S0 S : HS} (h : B_X9_lies_20 Q X20 v0 v1 v2 S) (K : K8 S0 S) (hX20 : ∀ (u0 : Nat) (u1 : Int32) (u2 : Int32) (u3 : HS), X20 u0 u1 u2 u3 → K8 S0 u3 → X20_2 u0 u1 u2 u3) : B_X9_lies_20 (fun r T => Q r T ∧ K8 S0 T) X20_2 v0 v1 v2 S := by
  delta B_X9_lies_20 at h ⊢
  obtain ⟨c1, h⟩ := h
  refine ⟨c1, ?_⟩
  have n2 := k8_nk K c1 (by decide)
  obtain ⟨b3, e4, h⟩ := h
  refine ⟨b3, e4, ?_⟩
  obtain ⟨c5, h⟩ := h
  refine ⟨c5, ?_⟩
  have n6 := k8_nk K c5 (by decide)
  have o7 := c5
  intro x9 e8
  have h := h x9 e8
  refine ⟨?_, ?_⟩
  · intro c10
    have h := h.1 c10
    refine cm_X9_grant (kx_X9_grant h) h (fun x11 x12 p14 h g13 => ?_)
    have h := h g13
    have K := k8_tr K p14.2
    have o7 := gr_ob p14.2.1 o7
    exact ⟨h, K⟩
  · intro c15
    have h := h.2 c15
    obtain ⟨b16, e17, h⟩ := h
    refine ⟨b16, e17, ?_⟩
    obtain ⟨b18, e19, h⟩ := h
    refine ⟨b18, e19, ?_⟩
    obtain ⟨c20, h⟩ := h
    refine ⟨c20, ?_⟩
    have n21 := k8_nk K c20 (by decide)
    refine cm_X1_findFit (kx_X1_findFit h) h (fun x22 x23 p25 h g24 => ?_)
    have h := h g24
    have K := k8_tr K p25.2
    have o7 := gr_ob p25.2.1 o7
    refine ⟨?_, ?_⟩
    · intro c26
      have h := h.1 c26
      exact kx_X9_lies_54 h K hX20
    · intro c27
      have h := h.2 c27
      intro x29 e28
      have h := h x29 e28
      exact kx_X9_lies_54 h K hX20
theorem kx_X9_lies_20 {Q : Int32 → HS → Prop} {v0 : Nat} {v1 : Int32} {v2 : Int32} {S0 S : HS} (h : P_X9_lies_20 Q v0 v1 v2 S) (K : K8 S0 S) : P_X9_lies_20 (fun r T => Q r T ∧ K8 S0 T) v0 v1 v2 S := h (fun v0 v1 v2 S => K8 S0 S → P_X9_lies_20 (fun r T => Q r T ∧ K8 S0 T) v0 v1 v2 S) (fun v0 v1 v2 S hB K => fd_X9_lies_20 (kxB_X9_lies_20 hB K (fun _ _ _ _ hx K => hx K))) K
set_option maxRecDepth 20000 in
set_option maxHeartbeats 1000000 in
theorem kx_X9_lies_0 {Q : Int32 → HS → Prop} {v0 : Nat} {S0 S : HS} (h : P_X9_lies_0 Q v0 S) (K : K8 S0 S) : P_X9_lies_0 (fun r T => Q r T ∧ K8 S0 T) v0 S := by
  delta P_X9_lies_0 at h ⊢
  obtain ⟨c1, h⟩ := h
  refine ⟨c1, ?_⟩
  have n2 := k8_nk K c1 (by decide)
  obtain ⟨b3, e4, h⟩ := h
  refine ⟨b3, e4, ?_⟩
  obtain ⟨c5, h⟩ := h
  refine ⟨c5, ?_⟩
  have n6 := k8_nk K c5 (by decide)
  have o7 := c5
  refine cm_X8_isTold (kx_X8_isTold h) h (fun x8 x9 p12 h g10 g11 => ?_)
  have h := h g10 g11
  have K := k8_tr K p12.2
  have o7 := gr_ob p12.2.1 o7
  refine ⟨?_, ?_⟩
  · intro c13
    have h := h.1 c13
    exact kx_X9_lies_20 h K
  · intro c14
    have h := h.2 c14
    refine cm_X9_refuse (kx_X9_refuse h) h (fun x15 x16 p18 h g17 => ?_)
    have h := h g17
    have K := k8_tr K p18.2
    have o7 := gr_ob p18.2.1 o7
    exact ⟨h, K⟩
theorem kx_X9_lies {Q : Int32 → HS → Prop} {v0 : Nat} {S : HS} (h : P_X9_lies v0 Q S) : P_X9_lies v0 (fun r T => Q r T ∧ K8 S T) S := kx_X9_lies_0 h (k8_rf S)
set_option maxRecDepth 20000 in
set_option maxHeartbeats 1000000 in
theorem kx_X9_mark_0 {Q : Int32 → HS → Prop} {v0 : Nat} {S0 S : HS} (h : P_X9_mark_0 Q v0 S) (K : K8 S0 S) : P_X9_mark_0 (fun r T => Q r T ∧ K8 S0 T) v0 S := by
  delta P_X9_mark_0 at h ⊢
  obtain ⟨c1, h⟩ := h
  refine ⟨c1, ?_⟩
  have n2 := k8_nk K c1 (by decide)
  obtain ⟨b3, e4, h⟩ := h
  refine ⟨b3, e4, ?_⟩
  obtain ⟨c5, h⟩ := h
  refine ⟨c5, ?_⟩
  have n6 := k8_nk K c5 (by decide)
  refine cm_X0_isOn (kx_X0_isOn h) h (fun x7 x8 p11 h g9 g10 => ?_)
  have h := h g9 g10
  have K := k8_tr K p11.2
  refine ⟨?_, ?_⟩
  · intro c12
    have h := h.1 c12
    obtain ⟨b13, e14, h⟩ := h
    refine ⟨b13, e14, ?_⟩
    obtain ⟨c15, h⟩ := h
    refine ⟨c15, ?_⟩
    have n16 := k8_nk K c15 (by decide)
    refine cm_X0_setMark (kx_X0_setMark h) h (fun x17 x18 p20 h g19 => ?_)
    have h := h g19
    have K := k8_tr K p20.2
    refine ⟨?_, ?_⟩
    · intro c21
      have h := h.1 c21
      refine cm_X9_grant (kx_X9_grant h) h (fun x22 x23 p25 h g24 => ?_)
      have h := h g24
      have K := k8_tr K p25.2
      exact ⟨h, K⟩
    · intro c26
      have h := h.2 c26
      refine cm_X9_refuse (kx_X9_refuse h) h (fun x27 x28 p30 h g29 => ?_)
      have h := h g29
      have K := k8_tr K p30.2
      exact ⟨h, K⟩
  · intro c31
    have h := h.2 c31
    refine cm_X9_refuse (kx_X9_refuse h) h (fun x32 x33 p35 h g34 => ?_)
    have h := h g34
    have K := k8_tr K p35.2
    exact ⟨h, K⟩
theorem kx_X9_mark {Q : Int32 → HS → Prop} {v0 : Nat} {S : HS} (h : P_X9_mark v0 Q S) : P_X9_mark v0 (fun r T => Q r T ∧ K8 S T) S := kx_X9_mark_0 h (k8_rf S)
set_option maxRecDepth 20000 in
set_option maxHeartbeats 1000000 in
theorem kx_X9_mean_0 {Q : Int64 → HS → Prop} {v0 : Nat} {v1 : Int32} {v2 : Int32} {v3 : Int32} {v4 : Int32} {v5 : Int32} {v6 : Int32} {S0 S : HS} (h : P_X9_mean_0 Q v0 v1 v2 v3 v4 v5 v6 S) (K : K8 S0 S) : P_X9_mean_0 (fun r T => Q r T ∧ K8 S0 T) v0 v1 v2 v3 v4 v5 v6 S := by
  delta P_X9_mean_0 at h ⊢
  obtain ⟨c1, h⟩ := h
  refine ⟨c1, ?_⟩
  have n2 := k8_nk K c1 (by decide)
  refine cm_X9_legTrouble (kx_X9_legTrouble h) h (fun x3 x4 p6 h g5 => ?_)
  have h := h g5
  have K := k8_tr K p6.2
  refine cm_X9_refusedBy (kx_X9_refusedBy h) h (fun x7 x8 p11 h g9 g10 => ?_)
  have h := h g9 g10
  have K := k8_tr K p11.2
  refine ⟨?_, ?_⟩
  · intro c12
    have h := h.1 c12
    obtain ⟨b13, e14, h⟩ := h
    refine ⟨b13, e14, ?_⟩
    obtain ⟨b15, e16, h⟩ := h
    refine ⟨b15, e16, ?_⟩
    obtain ⟨c17, h⟩ := h
    refine ⟨c17, ?_⟩
    have n18 := k8_nk K c17 (by decide)
    have o19 := c17
    obtain ⟨b20, e21, h⟩ := h
    refine ⟨b20, e21, ?_⟩
    obtain ⟨c22, h⟩ := h
    refine ⟨c22, ?_⟩
    have n23 := k8_nk K c22 (by decide)
    obtain ⟨c24, h⟩ := h
    refine ⟨c24, ?_⟩
    obtain ⟨b25, e26, h⟩ := h
    refine ⟨b25, e26, ?_⟩
    obtain ⟨b27, e28, h⟩ := h
    refine ⟨b27, e28, ?_⟩
    obtain ⟨c29, h⟩ := h
    refine ⟨c29, ?_⟩
    have n30 := k8_nk K c29 (by decide)
    have o31 := c29
    obtain ⟨b32, e33, h⟩ := h
    refine ⟨b32, e33, ?_⟩
    obtain ⟨c34, h⟩ := h
    refine ⟨c34, ?_⟩
    have n35 := k8_nk K c34 (by decide)
    obtain ⟨c36, h⟩ := h
    refine ⟨c36, ?_⟩
    obtain ⟨b37, e38, h⟩ := h
    refine ⟨b37, e38, ?_⟩
    obtain ⟨b39, e40, h⟩ := h
    refine ⟨b39, e40, ?_⟩
    obtain ⟨c41, h⟩ := h
    refine ⟨c41, ?_⟩
    have n42 := k8_nk K c41 (by decide)
    have o43 := c41
    obtain ⟨b44, e45, h⟩ := h
    refine ⟨b44, e45, ?_⟩
    obtain ⟨c46, h⟩ := h
    refine ⟨c46, ?_⟩
    have n47 := k8_nk K c46 (by decide)
    obtain ⟨c48, h⟩ := h
    refine ⟨c48, ?_⟩
    obtain ⟨b49, e50, h⟩ := h
    refine ⟨b49, e50, ?_⟩
    obtain ⟨c51, h⟩ := h
    refine ⟨c51, ?_⟩
    have n52 := k8_nk K c51 (by decide)
    refine cm_X1_wetOf (kx_X1_wetOf h) h (fun x53 x54 p56 h g55 => ?_)
    have h := h g55
    have K := k8_tr K p56.2
    have o19 := gr_ob p56.2.1 o19
    have o31 := gr_ob p56.2.1 o31
    have o43 := gr_ob p56.2.1 o43
    obtain ⟨b57, e58, h⟩ := h
    refine ⟨b57, e58, ?_⟩
    obtain ⟨c59, h⟩ := h
    refine ⟨c59, ?_⟩
    have n60 := k8_nk K c59 (by decide)
    have o61 := c59
    obtain ⟨b62, e63, h⟩ := h
    refine ⟨b62, e63, ?_⟩
    obtain ⟨c64, h⟩ := h
    refine ⟨c64, ?_⟩
    have n65 := k8_nk K c64 (by decide)
    obtain ⟨c66, h⟩ := h
    refine ⟨c66, ?_⟩
    obtain ⟨b67, e68, h⟩ := h
    refine ⟨b67, e68, ?_⟩
    obtain ⟨c69, h⟩ := h
    refine ⟨c69, ?_⟩
    have n70 := k8_nk K c69 (by decide)
    intro x72 e71
    have h := h x72 e71
    refine cm_X9_fraction (kx_X9_fraction h) h (fun x73 x74 p76 h g75 => ?_)
    have h := h g75
    have K := k8_tr K p76.2
    have o19 := gr_ob p76.2.1 o19
    have o31 := gr_ob p76.2.1 o31
    have o43 := gr_ob p76.2.1 o43
    have o61 := gr_ob p76.2.1 o61
    exact ⟨h, K⟩
  · intro c77
    have h := h.2 c77
    exact ⟨h, K⟩
theorem kx_X9_mean {Q : Int64 → HS → Prop} {v0 : Nat} {v1 : Int32} {v2 : Int32} {v3 : Int32} {v4 : Int32} {v5 : Int32} {v6 : Int32} {S : HS} (h : P_X9_mean v0 v1 v2 v3 v4 v5 v6 Q S) : P_X9_mean v0 v1 v2 v3 v4 v5 v6 (fun r T => Q r T ∧ K8 S T) S := kx_X9_mean_0 h (k8_rf S)
set_option maxRecDepth 20000 in
set_option maxHeartbeats 1000000 in
theorem kx_X9_minutes_22 {Q : Int32 → HS → Prop} {v0 : Nat} {S0 S : HS} (h : P_X9_minutes_22 Q v0 S) (K : K8 S0 S) : P_X9_minutes_22 (fun r T => Q r T ∧ K8 S0 T) v0 S := by
  delta P_X9_minutes_22 at h ⊢
  obtain ⟨c1, h⟩ := h
  refine ⟨c1, ?_⟩
  have n2 := k8_nk K c1 (by decide)
  refine cm_X9_refuse (kx_X9_refuse h) h (fun x3 x4 p6 h g5 => ?_)
  have h := h g5
  have K := k8_tr K p6.2
  exact ⟨h, K⟩
set_option maxRecDepth 20000 in
set_option maxHeartbeats 1000000 in
theorem kx_X9_minutes_0 {Q : Int32 → HS → Prop} {v0 : Nat} {v1 : Int32} {v2 : Int32} {v3 : Int32} {S0 S : HS} (h : P_X9_minutes_0 Q v0 v1 v2 v3 S) (K : K8 S0 S) : P_X9_minutes_0 (fun r T => Q r T ∧ K8 S0 T) v0 v1 v2 v3 S := by
  delta P_X9_minutes_0 at h ⊢
  obtain ⟨c1, h⟩ := h
  refine ⟨c1, ?_⟩
  have n2 := k8_nk K c1 (by decide)
  obtain ⟨b3, e4, h⟩ := h
  refine ⟨b3, e4, ?_⟩
  obtain ⟨c5, h⟩ := h
  refine ⟨c5, ?_⟩
  have n6 := k8_nk K c5 (by decide)
  have o7 := c5
  refine cm_X8_hasWalker (kx_X8_hasWalker h) h (fun x8 x9 p12 h g10 g11 => ?_)
  have h := h g10 g11
  have K := k8_tr K p12.2
  have o7 := gr_ob p12.2.1 o7
  refine ⟨?_, ?_⟩
  · intro c13
    have h := h.1 c13
    exact kx_X9_minutes_22 h K
  · intro c14
    have h := h.2 c14
    obtain ⟨b15, e16, h⟩ := h
    refine ⟨b15, e16, ?_⟩
    obtain ⟨c17, h⟩ := h
    refine ⟨c17, ?_⟩
    have n18 := k8_nk K c17 (by decide)
    have o19 := c17
    refine cm_X8_hasRoad (kx_X8_hasRoad h) h (fun x20 x21 p24 h g22 g23 => ?_)
    have h := h g22 g23
    have K := k8_tr K p24.2
    have o7 := gr_ob p24.2.1 o7
    have o19 := gr_ob p24.2.1 o19
    refine ⟨?_, ?_⟩
    · intro c25
      have h := h.1 c25
      obtain ⟨b26, e27, h⟩ := h
      refine ⟨b26, e27, ?_⟩
      obtain ⟨c28, h⟩ := h
      refine ⟨c28, ?_⟩
      have n29 := k8_nk K c28 (by decide)
      have o30 := c28
      obtain ⟨b31, e32, h⟩ := h
      refine ⟨b31, e32, ?_⟩
      obtain ⟨c33, h⟩ := h
      refine ⟨c33, ?_⟩
      have n34 := k8_nk K c33 (by decide)
      obtain ⟨c35, h⟩ := h
      refine ⟨c35, ?_⟩
      obtain ⟨b36, e37, h⟩ := h
      refine ⟨b36, e37, ?_⟩
      obtain ⟨c38, h⟩ := h
      refine ⟨c38, ?_⟩
      have n39 := k8_nk K c38 (by decide)
      refine cm_X6_canGo (kx_X6_canGo h) h (fun x40 x41 p44 h g42 g43 => ?_)
      have h := h g42 g43
      have K := k8_tr K p44.2
      have o7 := gr_ob p44.2.1 o7
      have o19 := gr_ob p44.2.1 o19
      have o30 := gr_ob p44.2.1 o30
      refine ⟨?_, ?_⟩
      · intro c45
        have h := h.1 c45
        obtain ⟨b46, e47, h⟩ := h
        refine ⟨b46, e47, ?_⟩
        obtain ⟨c48, h⟩ := h
        refine ⟨c48, ?_⟩
        have n49 := k8_nk K c48 (by decide)
        have o50 := c48
        obtain ⟨b51, e52, h⟩ := h
        refine ⟨b51, e52, ?_⟩
        obtain ⟨c53, h⟩ := h
        refine ⟨c53, ?_⟩
        have n54 := k8_nk K c53 (by decide)
        obtain ⟨c55, h⟩ := h
        refine ⟨c55, ?_⟩
        obtain ⟨b56, e57, h⟩ := h
        refine ⟨b56, e57, ?_⟩
        obtain ⟨c58, h⟩ := h
        refine ⟨c58, ?_⟩
        have n59 := k8_nk K c58 (by decide)
        refine cm_X5_minutesAt (kx_X5_minutesAt h) h (fun x60 x61 p63 h g62 => ?_)
        have h := h g62
        have K := k8_tr K p63.2
        have o7 := gr_ob p63.2.1 o7
        have o19 := gr_ob p63.2.1 o19
        have o30 := gr_ob p63.2.1 o30
        have o50 := gr_ob p63.2.1 o50
        refine cm_X9_grant (kx_X9_grant h) h (fun x64 x65 p67 h g66 => ?_)
        have h := h g66
        have K := k8_tr K p67.2
        have o7 := gr_ob p67.2.1 o7
        have o19 := gr_ob p67.2.1 o19
        have o30 := gr_ob p67.2.1 o30
        have o50 := gr_ob p67.2.1 o50
        exact ⟨h, K⟩
      · intro c68
        have h := h.2 c68
        refine cm_X9_refuse (kx_X9_refuse h) h (fun x69 x70 p72 h g71 => ?_)
        have h := h g71
        have K := k8_tr K p72.2
        have o7 := gr_ob p72.2.1 o7
        have o19 := gr_ob p72.2.1 o19
        have o30 := gr_ob p72.2.1 o30
        exact ⟨h, K⟩
    · intro c73
      have h := h.2 c73
      exact kx_X9_minutes_22 h K
theorem kx_X9_minutes {Q : Int32 → HS → Prop} {v0 : Nat} {v1 : Int32} {v2 : Int32} {v3 : Int32} {S : HS} (h : P_X9_minutes v0 v1 v2 v3 Q S) : P_X9_minutes v0 v1 v2 v3 (fun r T => Q r T ∧ K8 S T) S := kx_X9_minutes_0 h (k8_rf S)
set_option maxRecDepth 20000 in
set_option maxHeartbeats 1000000 in
theorem kx_X9_off_128 {Q : Int32 → HS → Prop} {X62 X62_2 : Nat → Int32 → Int32 → Int32 → Int32 → HS → Prop} {v0 : Nat} {v2 : Int32} {v4 : Int32} {v6 : Int32} {v7 : Int32} {S0 S : HS} (h : P_X9_off_128 Q X62 v0 v2 v4 v6 v7 S) (K : K8 S0 S) (hX62 : ∀ (u0 : Nat) (u1 : Int32) (u2 : Int32) (u3 : Int32) (u4 : Int32) (u5 : HS), X62 u0 u1 u2 u3 u4 u5 → K8 S0 u5 → X62_2 u0 u1 u2 u3 u4 u5) : P_X9_off_128 (fun r T => Q r T ∧ K8 S0 T) X62_2 v0 v2 v4 v6 v7 S := by
  delta P_X9_off_128 at h ⊢
  intro x2 e1
  have h := h x2 e1
  exact hX62 _ _ _ _ _ _ h K
set_option maxRecDepth 20000 in
set_option maxHeartbeats 1000000 in
theorem kx_X9_off_104 {Q : Int32 → HS → Prop} {X62 X62_2 : Nat → Int32 → Int32 → Int32 → Int32 → HS → Prop} {v0 : Nat} {v2 : Int32} {v4 : Int32} {v6 : Int32} {v7 : Int32} {s0 : Int32} {S0 S : HS} (h : P_X9_off_104 Q X62 v0 v2 v4 v6 v7 s0 S) (K : K8 S0 S) (hX62 : ∀ (u0 : Nat) (u1 : Int32) (u2 : Int32) (u3 : Int32) (u4 : Int32) (u5 : HS), X62 u0 u1 u2 u3 u4 u5 → K8 S0 u5 → X62_2 u0 u1 u2 u3 u4 u5) : P_X9_off_104 (fun r T => Q r T ∧ K8 S0 T) X62_2 v0 v2 v4 v6 v7 s0 S := by
  delta P_X9_off_104 at h ⊢
  obtain ⟨c1, h⟩ := h
  refine ⟨c1, ?_⟩
  have n2 := k8_nk K c1 (by decide)
  obtain ⟨b3, e4, h⟩ := h
  refine ⟨b3, e4, ?_⟩
  obtain ⟨c5, h⟩ := h
  refine ⟨c5, ?_⟩
  have n6 := k8_nk K c5 (by decide)
  have o7 := c5
  refine cm_X7_isOpen (kx_X7_isOpen h) h (fun x8 x9 p12 h g10 g11 => ?_)
  have h := h g10 g11
  have K := k8_tr K p12.2
  have o7 := gr_ob p12.2.1 o7
  refine ⟨?_, ?_⟩
  · intro c13
    have h := h.1 c13
    exact kx_X9_off_128 h K hX62
  · intro c14
    have h := h.2 c14
    refine ⟨?_, ?_⟩
    · intro c15
      have h := h.1 c15
      exact kx_X9_off_128 h K hX62
    · intro c16
      have h := h.2 c16
      exact kx_X9_off_128 h K hX62
set_option maxRecDepth 20000 in
set_option maxHeartbeats 1000000 in
theorem kx_X9_off_99 {Q : Int32 → HS → Prop} {X62 X62_2 : Nat → Int32 → Int32 → Int32 → Int32 → HS → Prop} {v0 : Nat} {v2 : Int32} {v4 : Int32} {v6 : Int32} {v7 : Int32} {S0 S : HS} (h : P_X9_off_99 Q X62 v0 v2 v4 v6 v7 S) (K : K8 S0 S) (hX62 : ∀ (u0 : Nat) (u1 : Int32) (u2 : Int32) (u3 : Int32) (u4 : Int32) (u5 : HS), X62 u0 u1 u2 u3 u4 u5 → K8 S0 u5 → X62_2 u0 u1 u2 u3 u4 u5) : P_X9_off_99 (fun r T => Q r T ∧ K8 S0 T) X62_2 v0 v2 v4 v6 v7 S := by
  delta P_X9_off_99 at h ⊢
  exact kx_X9_off_104 h K hX62
set_option maxRecDepth 20000 in
set_option maxHeartbeats 1000000 in
theorem kxB_X9_off_62 {Q : Int32 → HS → Prop} {X62 X62_2 : Nat → Int32 → Int32 → Int32 → Int32 → HS → Prop} {v0 : Nat} {v2 : Int32} {v4 : Int32} {v6 : Int32} {v7 : Int32} {S0 S : HS} (h : B_X9_off_62 Q X62 v0 v2 v4 v6 v7 S) (K : K8 S0 S) (hX62 : ∀ (u0 : Nat) (u1 : Int32) (u2 : Int32) (u3 : Int32) (u4 : Int32) (u5 : HS), X62 u0 u1 u2 u3 u4 u5 → K8 S0 u5 → X62_2 u0 u1 u2 u3 u4 u5) : B_X9_off_62 (fun r T => Q r T ∧ K8 S0 T) X62_2 v0 v2 v4 v6 v7 S := by
  delta B_X9_off_62 at h ⊢
  refine ⟨?_, ?_⟩
  · intro c1
    have h := h.1 c1
    refine ⟨?_, ?_⟩
    · intro c2
      have h := h.1 c2
      exact ⟨h, K⟩
    · intro c3
      have h := h.2 c3
      obtain ⟨c4, h⟩ := h
      refine ⟨c4, ?_⟩
      have n5 := k8_nk K c4 (by decide)
      refine cm_X9_refuse (kx_X9_refuse h) h (fun x6 x7 p9 h g8 => ?_)
      have h := h g8
      have K := k8_tr K p9.2
      exact ⟨h, K⟩
  · intro c10
    have h := h.2 c10
    refine ⟨?_, ?_⟩
    · intro c11
      have h := h.1 c11
      exact kx_X9_off_99 h K hX62
    · intro c12
      have h := h.2 c12
      obtain ⟨c13, h⟩ := h
      refine ⟨c13, ?_⟩
      have n14 := k8_nk K c13 (by decide)
      obtain ⟨b15, e16, h⟩ := h
      refine ⟨b15, e16, ?_⟩
      obtain ⟨c17, h⟩ := h
      refine ⟨c17, ?_⟩
      have n18 := k8_nk K c17 (by decide)
      have o19 := c17
      refine cm_X7_meanFrom (kx_X7_meanFrom h) h (fun x20 x21 p23 h g22 => ?_)
      have h := h g22
      have K := k8_tr K p23.2
      have o19 := gr_ob p23.2.1 o19
      obtain ⟨b24, e25, h⟩ := h
      refine ⟨b24, e25, ?_⟩
      obtain ⟨c26, h⟩ := h
      refine ⟨c26, ?_⟩
      have n27 := k8_nk K c26 (by decide)
      have o28 := c26
      refine cm_X7_meanFrom (kx_X7_meanFrom h) h (fun x29 x30 p32 h g31 => ?_)
      have h := h g31
      have K := k8_tr K p32.2
      have o19 := gr_ob p32.2.1 o19
      have o28 := gr_ob p32.2.1 o28
      refine ⟨?_, ?_⟩
      · intro c33
        have h := h.1 c33
        exact kx_X9_off_104 h K hX62
      · intro c34
        have h := h.2 c34
        exact kx_X9_off_99 h K hX62
theorem kx_X9_off_62 {Q : Int32 → HS → Prop} {v0 : Nat} {v2 : Int32} {v4 : Int32} {v6 : Int32} {v7 : Int32} {S0 S : HS} (h : P_X9_off_62 Q v0 v2 v4 v6 v7 S) (K : K8 S0 S) : P_X9_off_62 (fun r T => Q r T ∧ K8 S0 T) v0 v2 v4 v6 v7 S := h (fun v0 v2 v4 v6 v7 S => K8 S0 S → P_X9_off_62 (fun r T => Q r T ∧ K8 S0 T) v0 v2 v4 v6 v7 S) (fun v0 v2 v4 v6 v7 S hB K => fd_X9_off_62 (kxB_X9_off_62 hB K (fun _ _ _ _ _ _ hx K => hx K))) K
set_option maxRecDepth 20000 in
set_option maxHeartbeats 1000000 in
theorem kx_X9_off_25 {Q : Int32 → HS → Prop} {v0 : Nat} {v1 : Int32} {v2 : Int32} {v3 : Int32} {v4 : Int32} {v5 : Int32} {S0 S : HS} (h : P_X9_off_25 Q v0 v1 v2 v3 v4 v5 S) (K : K8 S0 S) : P_X9_off_25 (fun r T => Q r T ∧ K8 S0 T) v0 v1 v2 v3 v4 v5 S := by
  delta P_X9_off_25 at h ⊢
  obtain ⟨c1, h⟩ := h
  refine ⟨c1, ?_⟩
  have n2 := k8_nk K c1 (by decide)
  refine cm_X9_refusedBy (kx_X9_refusedBy h) h (fun x3 x4 p7 h g5 g6 => ?_)
  have h := h g5 g6
  have K := k8_tr K p7.2
  refine ⟨?_, ?_⟩
  · intro c8
    have h := h.1 c8
    obtain ⟨b9, e10, h⟩ := h
    refine ⟨b9, e10, ?_⟩
    obtain ⟨b11, e12, h⟩ := h
    refine ⟨b11, e12, ?_⟩
    obtain ⟨b13, e14, h⟩ := h
    refine ⟨b13, e14, ?_⟩
    obtain ⟨c15, h⟩ := h
    refine ⟨c15, ?_⟩
    have n16 := k8_nk K c15 (by decide)
    have o17 := c15
    refine cm_X7_reckon (kx_X7_reckon h) h (fun x18 p20 h g19 => ?_)
    have h := h g19
    have K := k8_tr K p20.2
    have o17 := gr_ob p20.2.1 o17
    exact kx_X9_off_62 h K
  · intro c21
    have h := h.2 c21
    exact ⟨h, K⟩
set_option maxRecDepth 20000 in
set_option maxHeartbeats 1000000 in
theorem kx_X9_off_0 {Q : Int32 → HS → Prop} {v0 : Nat} {v1 : Int32} {v2 : Int32} {v3 : Int32} {v4 : Int32} {S0 S : HS} (h : P_X9_off_0 Q v0 v1 v2 v3 v4 S) (K : K8 S0 S) : P_X9_off_0 (fun r T => Q r T ∧ K8 S0 T) v0 v1 v2 v3 v4 S := by
  delta P_X9_off_0 at h ⊢
  obtain ⟨c1, h⟩ := h
  refine ⟨c1, ?_⟩
  have n2 := k8_nk K c1 (by decide)
  refine cm_X9_placesTrouble (kx_X9_placesTrouble h) h (fun x3 x4 p6 h g5 => ?_)
  have h := h g5
  have K := k8_tr K p6.2
  refine ⟨?_, ?_⟩
  · intro c7
    have h := h.1 c7
    exact kx_X9_off_25 h K
  · intro c8
    have h := h.2 c8
    refine cm_X9_isTill (kx_X9_isTill h) h (fun x9 x10 p13 h g11 g12 => ?_)
    have h := h g11 g12
    have K := k8_tr K p13.2
    refine ⟨?_, ?_⟩
    · intro c14
      have h := h.1 c14
      exact kx_X9_off_25 h K
    · intro c15
      have h := h.2 c15
      exact kx_X9_off_25 h K
theorem kx_X9_off {Q : Int32 → HS → Prop} {v0 : Nat} {v1 : Int32} {v2 : Int32} {v3 : Int32} {v4 : Int32} {S : HS} (h : P_X9_off v0 v1 v2 v3 v4 Q S) : P_X9_off v0 v1 v2 v3 v4 (fun r T => Q r T ∧ K8 S T) S := kx_X9_off_0 h (k8_rf S)
set_option maxRecDepth 20000 in
set_option maxHeartbeats 1000000 in
theorem kx_X9_road_20 {Q : Int32 → HS → Prop} {v0 : Nat} {S0 S : HS} (h : P_X9_road_20 Q v0 S) (K : K8 S0 S) : P_X9_road_20 (fun r T => Q r T ∧ K8 S0 T) v0 S := by
  delta P_X9_road_20 at h ⊢
  obtain ⟨c1, h⟩ := h
  refine ⟨c1, ?_⟩
  have n2 := k8_nk K c1 (by decide)
  refine cm_X9_refuse (kx_X9_refuse h) h (fun x3 x4 p6 h g5 => ?_)
  have h := h g5
  have K := k8_tr K p6.2
  exact ⟨h, K⟩
set_option maxRecDepth 20000 in
set_option maxHeartbeats 1000000 in
theorem kx_X9_road_0 {Q : Int32 → HS → Prop} {v0 : Nat} {v1 : Int32} {v2 : Int32} {S0 S : HS} (h : P_X9_road_0 Q v0 v1 v2 S) (K : K8 S0 S) : P_X9_road_0 (fun r T => Q r T ∧ K8 S0 T) v0 v1 v2 S := by
  delta P_X9_road_0 at h ⊢
  obtain ⟨c1, h⟩ := h
  refine ⟨c1, ?_⟩
  have n2 := k8_nk K c1 (by decide)
  obtain ⟨b3, e4, h⟩ := h
  refine ⟨b3, e4, ?_⟩
  obtain ⟨c5, h⟩ := h
  refine ⟨c5, ?_⟩
  have n6 := k8_nk K c5 (by decide)
  have o7 := c5
  refine cm_X8_hasRoad (kx_X8_hasRoad h) h (fun x8 x9 p12 h g10 g11 => ?_)
  have h := h g10 g11
  have K := k8_tr K p12.2
  have o7 := gr_ob p12.2.1 o7
  refine ⟨?_, ?_⟩
  · intro c13
    have h := h.1 c13
    exact kx_X9_road_20 h K
  · intro c14
    have h := h.2 c14
    refine ⟨?_, ?_⟩
    · intro c15
      have h := h.1 c15
      exact kx_X9_road_20 h K
    · intro c16
      have h := h.2 c16
      refine ⟨?_, ?_⟩
      · intro c17
        have h := h.1 c17
        obtain ⟨b18, e19, h⟩ := h
        refine ⟨b18, e19, ?_⟩
        obtain ⟨c20, h⟩ := h
        refine ⟨c20, ?_⟩
        have n21 := k8_nk K c20 (by decide)
        have o22 := c20
        obtain ⟨b23, e24, h⟩ := h
        refine ⟨b23, e24, ?_⟩
        obtain ⟨c25, h⟩ := h
        refine ⟨c25, ?_⟩
        have n26 := k8_nk K c25 (by decide)
        obtain ⟨c27, h⟩ := h
        refine ⟨c27, ?_⟩
        obtain ⟨b28, e29, h⟩ := h
        refine ⟨b28, e29, ?_⟩
        obtain ⟨c30, h⟩ := h
        refine ⟨c30, ?_⟩
        have n31 := k8_nk K c30 (by decide)
        refine cm_X5_tell (kx_X5_tell h) h (fun x32 x33 p35 h g34 => ?_)
        have h := h g34
        have K := k8_tr K p35.2
        have o7 := gr_ob p35.2.1 o7
        have o22 := gr_ob p35.2.1 o22
        refine cm_X9_grant (kx_X9_grant h) h (fun x36 x37 p39 h g38 => ?_)
        have h := h g38
        have K := k8_tr K p39.2
        have o7 := gr_ob p39.2.1 o7
        have o22 := gr_ob p39.2.1 o22
        exact ⟨h, K⟩
      · intro c40
        have h := h.2 c40
        exact kx_X9_road_20 h K
theorem kx_X9_road {Q : Int32 → HS → Prop} {v0 : Nat} {v1 : Int32} {v2 : Int32} {S : HS} (h : P_X9_road v0 v1 v2 Q S) : P_X9_road v0 v1 v2 (fun r T => Q r T ∧ K8 S T) S := kx_X9_road_0 h (k8_rf S)
set_option maxRecDepth 20000 in
set_option maxHeartbeats 1000000 in
theorem kx_X9_round_0 {Q : Int64 → HS → Prop} {v0 : Nat} {v1 : Int32} {v2 : Int32} {v3 : Int32} {v4 : Int32} {S0 S : HS} (h : P_X9_round_0 Q v0 v1 v2 v3 v4 S) (K : K8 S0 S) : P_X9_round_0 (fun r T => Q r T ∧ K8 S0 T) v0 v1 v2 v3 v4 S := by
  delta P_X9_round_0 at h ⊢
  obtain ⟨c1, h⟩ := h
  refine ⟨c1, ?_⟩
  have n2 := k8_nk K c1 (by decide)
  refine cm_X9_tripTrouble (kx_X9_tripTrouble h) h (fun x3 x4 p6 h g5 => ?_)
  have h := h g5
  have K := k8_tr K p6.2
  refine cm_X9_refusedBy (kx_X9_refusedBy h) h (fun x7 x8 p11 h g9 g10 => ?_)
  have h := h g9 g10
  have K := k8_tr K p11.2
  refine ⟨?_, ?_⟩
  · intro c12
    have h := h.1 c12
    obtain ⟨b13, e14, h⟩ := h
    refine ⟨b13, e14, ?_⟩
    obtain ⟨b15, e16, h⟩ := h
    refine ⟨b15, e16, ?_⟩
    obtain ⟨c17, h⟩ := h
    refine ⟨c17, ?_⟩
    have n18 := k8_nk K c17 (by decide)
    have o19 := c17
    obtain ⟨b20, e21, h⟩ := h
    refine ⟨b20, e21, ?_⟩
    obtain ⟨c22, h⟩ := h
    refine ⟨c22, ?_⟩
    have n23 := k8_nk K c22 (by decide)
    obtain ⟨c24, h⟩ := h
    refine ⟨c24, ?_⟩
    obtain ⟨b25, e26, h⟩ := h
    refine ⟨b25, e26, ?_⟩
    obtain ⟨b27, e28, h⟩ := h
    refine ⟨b27, e28, ?_⟩
    obtain ⟨c29, h⟩ := h
    refine ⟨c29, ?_⟩
    have n30 := k8_nk K c29 (by decide)
    have o31 := c29
    obtain ⟨b32, e33, h⟩ := h
    refine ⟨b32, e33, ?_⟩
    obtain ⟨c34, h⟩ := h
    refine ⟨c34, ?_⟩
    have n35 := k8_nk K c34 (by decide)
    obtain ⟨c36, h⟩ := h
    refine ⟨c36, ?_⟩
    obtain ⟨b37, e38, h⟩ := h
    refine ⟨b37, e38, ?_⟩
    obtain ⟨b39, e40, h⟩ := h
    refine ⟨b39, e40, ?_⟩
    obtain ⟨c41, h⟩ := h
    refine ⟨c41, ?_⟩
    have n42 := k8_nk K c41 (by decide)
    have o43 := c41
    obtain ⟨b44, e45, h⟩ := h
    refine ⟨b44, e45, ?_⟩
    obtain ⟨c46, h⟩ := h
    refine ⟨c46, ?_⟩
    have n47 := k8_nk K c46 (by decide)
    obtain ⟨c48, h⟩ := h
    refine ⟨c48, ?_⟩
    obtain ⟨b49, e50, h⟩ := h
    refine ⟨b49, e50, ?_⟩
    obtain ⟨c51, h⟩ := h
    refine ⟨c51, ?_⟩
    have n52 := k8_nk K c51 (by decide)
    refine cm_X1_leastWet (kx_X1_leastWet h) h (fun x53 x54 p56 h g55 => ?_)
    have h := h g55
    have K := k8_tr K p56.2
    have o19 := gr_ob p56.2.1 o19
    have o31 := gr_ob p56.2.1 o31
    have o43 := gr_ob p56.2.1 o43
    obtain ⟨b57, e58, h⟩ := h
    refine ⟨b57, e58, ?_⟩
    obtain ⟨b59, e60, h⟩ := h
    refine ⟨b59, e60, ?_⟩
    obtain ⟨c61, h⟩ := h
    refine ⟨c61, ?_⟩
    have n62 := k8_nk K c61 (by decide)
    have o63 := c61
    obtain ⟨b64, e65, h⟩ := h
    refine ⟨b64, e65, ?_⟩
    obtain ⟨c66, h⟩ := h
    refine ⟨c66, ?_⟩
    have n67 := k8_nk K c66 (by decide)
    obtain ⟨c68, h⟩ := h
    refine ⟨c68, ?_⟩
    obtain ⟨b69, e70, h⟩ := h
    refine ⟨b69, e70, ?_⟩
    obtain ⟨b71, e72, h⟩ := h
    refine ⟨b71, e72, ?_⟩
    obtain ⟨c73, h⟩ := h
    refine ⟨c73, ?_⟩
    have n74 := k8_nk K c73 (by decide)
    have o75 := c73
    obtain ⟨b76, e77, h⟩ := h
    refine ⟨b76, e77, ?_⟩
    obtain ⟨c78, h⟩ := h
    refine ⟨c78, ?_⟩
    have n79 := k8_nk K c78 (by decide)
    obtain ⟨c80, h⟩ := h
    refine ⟨c80, ?_⟩
    obtain ⟨b81, e82, h⟩ := h
    refine ⟨b81, e82, ?_⟩
    obtain ⟨b83, e84, h⟩ := h
    refine ⟨b83, e84, ?_⟩
    obtain ⟨c85, h⟩ := h
    refine ⟨c85, ?_⟩
    have n86 := k8_nk K c85 (by decide)
    have o87 := c85
    obtain ⟨b88, e89, h⟩ := h
    refine ⟨b88, e89, ?_⟩
    obtain ⟨c90, h⟩ := h
    refine ⟨c90, ?_⟩
    have n91 := k8_nk K c90 (by decide)
    obtain ⟨c92, h⟩ := h
    refine ⟨c92, ?_⟩
    obtain ⟨b93, e94, h⟩ := h
    refine ⟨b93, e94, ?_⟩
    obtain ⟨c95, h⟩ := h
    refine ⟨c95, ?_⟩
    have n96 := k8_nk K c95 (by decide)
    refine cm_X1_leastWet (kx_X1_leastWet h) h (fun x97 x98 p100 h g99 => ?_)
    have h := h g99
    have K := k8_tr K p100.2
    have o19 := gr_ob p100.2.1 o19
    have o31 := gr_ob p100.2.1 o31
    have o43 := gr_ob p100.2.1 o43
    have o63 := gr_ob p100.2.1 o63
    have o75 := gr_ob p100.2.1 o75
    have o87 := gr_ob p100.2.1 o87
    refine cm_X9_fraction (kx_X9_fraction h) h (fun x101 x102 p104 h g103 => ?_)
    have h := h g103
    have K := k8_tr K p104.2
    have o19 := gr_ob p104.2.1 o19
    have o31 := gr_ob p104.2.1 o31
    have o43 := gr_ob p104.2.1 o43
    have o63 := gr_ob p104.2.1 o63
    have o75 := gr_ob p104.2.1 o75
    have o87 := gr_ob p104.2.1 o87
    exact ⟨h, K⟩
  · intro c105
    have h := h.2 c105
    exact ⟨h, K⟩
theorem kx_X9_round {Q : Int64 → HS → Prop} {v0 : Nat} {v1 : Int32} {v2 : Int32} {v3 : Int32} {v4 : Int32} {S : HS} (h : P_X9_round v0 v1 v2 v3 v4 Q S) : P_X9_round v0 v1 v2 v3 v4 (fun r T => Q r T ∧ K8 S T) S := kx_X9_round_0 h (k8_rf S)
set_option maxRecDepth 20000 in
set_option maxHeartbeats 1000000 in
theorem kx_X9_saves_0 {Q : Int64 → HS → Prop} {v0 : Nat} {v1 : Int32} {v2 : Int32} {v3 : Int32} {v4 : Int32} {v5 : Int32} {S0 S : HS} (h : P_X9_saves_0 Q v0 v1 v2 v3 v4 v5 S) (K : K8 S0 S) : P_X9_saves_0 (fun r T => Q r T ∧ K8 S0 T) v0 v1 v2 v3 v4 v5 S := by
  delta P_X9_saves_0 at h ⊢
  obtain ⟨c1, h⟩ := h
  refine ⟨c1, ?_⟩
  have n2 := k8_nk K c1 (by decide)
  refine cm_X9_tripTrouble (kx_X9_tripTrouble h) h (fun x3 x4 p6 h g5 => ?_)
  have h := h g5
  have K := k8_tr K p6.2
  refine cm_X9_refusedBy (kx_X9_refusedBy h) h (fun x7 x8 p11 h g9 g10 => ?_)
  have h := h g9 g10
  have K := k8_tr K p11.2
  refine ⟨?_, ?_⟩
  · intro c12
    have h := h.1 c12
    obtain ⟨b13, e14, h⟩ := h
    refine ⟨b13, e14, ?_⟩
    obtain ⟨c15, h⟩ := h
    refine ⟨c15, ?_⟩
    have n16 := k8_nk K c15 (by decide)
    have o17 := c15
    obtain ⟨b18, e19, h⟩ := h
    refine ⟨b18, e19, ?_⟩
    obtain ⟨c20, h⟩ := h
    refine ⟨c20, ?_⟩
    have n21 := k8_nk K c20 (by decide)
    obtain ⟨c22, h⟩ := h
    refine ⟨c22, ?_⟩
    obtain ⟨b23, e24, h⟩ := h
    refine ⟨b23, e24, ?_⟩
    obtain ⟨b25, e26, h⟩ := h
    refine ⟨b25, e26, ?_⟩
    obtain ⟨b27, e28, h⟩ := h
    refine ⟨b27, e28, ?_⟩
    obtain ⟨c29, h⟩ := h
    refine ⟨c29, ?_⟩
    have n30 := k8_nk K c29 (by decide)
    have o31 := c29
    obtain ⟨b32, e33, h⟩ := h
    refine ⟨b32, e33, ?_⟩
    obtain ⟨c34, h⟩ := h
    refine ⟨c34, ?_⟩
    have n35 := k8_nk K c34 (by decide)
    obtain ⟨c36, h⟩ := h
    refine ⟨c36, ?_⟩
    obtain ⟨b37, e38, h⟩ := h
    refine ⟨b37, e38, ?_⟩
    obtain ⟨b39, e40, h⟩ := h
    refine ⟨b39, e40, ?_⟩
    obtain ⟨c41, h⟩ := h
    refine ⟨c41, ?_⟩
    have n42 := k8_nk K c41 (by decide)
    have o43 := c41
    obtain ⟨b44, e45, h⟩ := h
    refine ⟨b44, e45, ?_⟩
    obtain ⟨c46, h⟩ := h
    refine ⟨c46, ?_⟩
    have n47 := k8_nk K c46 (by decide)
    obtain ⟨c48, h⟩ := h
    refine ⟨c48, ?_⟩
    obtain ⟨b49, e50, h⟩ := h
    refine ⟨b49, e50, ?_⟩
    obtain ⟨c51, h⟩ := h
    refine ⟨c51, ?_⟩
    have n52 := k8_nk K c51 (by decide)
    intro x54 e53
    have h := h x54 e53
    obtain ⟨c55, h⟩ := h
    refine ⟨c55, ?_⟩
    have n56 := k8_nk K c55 (by decide)
    refine cm_X1_wetOf (kx_X1_wetOf h) h (fun x57 x58 p60 h g59 => ?_)
    have h := h g59
    have K := k8_tr K p60.2
    have o17 := gr_ob p60.2.1 o17
    have o31 := gr_ob p60.2.1 o31
    have o43 := gr_ob p60.2.1 o43
    obtain ⟨b61, e62, h⟩ := h
    refine ⟨b61, e62, ?_⟩
    obtain ⟨b63, e64, h⟩ := h
    refine ⟨b63, e64, ?_⟩
    obtain ⟨c65, h⟩ := h
    refine ⟨c65, ?_⟩
    have n66 := k8_nk K c65 (by decide)
    have o67 := c65
    obtain ⟨b68, e69, h⟩ := h
    refine ⟨b68, e69, ?_⟩
    obtain ⟨c70, h⟩ := h
    refine ⟨c70, ?_⟩
    have n71 := k8_nk K c70 (by decide)
    obtain ⟨c72, h⟩ := h
    refine ⟨c72, ?_⟩
    obtain ⟨b73, e74, h⟩ := h
    refine ⟨b73, e74, ?_⟩
    obtain ⟨b75, e76, h⟩ := h
    refine ⟨b75, e76, ?_⟩
    obtain ⟨c77, h⟩ := h
    refine ⟨c77, ?_⟩
    have n78 := k8_nk K c77 (by decide)
    have o79 := c77
    obtain ⟨b80, e81, h⟩ := h
    refine ⟨b80, e81, ?_⟩
    obtain ⟨c82, h⟩ := h
    refine ⟨c82, ?_⟩
    have n83 := k8_nk K c82 (by decide)
    obtain ⟨c84, h⟩ := h
    refine ⟨c84, ?_⟩
    obtain ⟨b85, e86, h⟩ := h
    refine ⟨b85, e86, ?_⟩
    obtain ⟨c87, h⟩ := h
    refine ⟨c87, ?_⟩
    have n88 := k8_nk K c87 (by decide)
    refine cm_X1_leastWet (kx_X1_leastWet h) h (fun x89 x90 p92 h g91 => ?_)
    have h := h g91
    have K := k8_tr K p92.2
    have o17 := gr_ob p92.2.1 o17
    have o31 := gr_ob p92.2.1 o31
    have o43 := gr_ob p92.2.1 o43
    have o67 := gr_ob p92.2.1 o67
    have o79 := gr_ob p92.2.1 o79
    refine cm_X9_fraction (kx_X9_fraction h) h (fun x93 x94 p96 h g95 => ?_)
    have h := h g95
    have K := k8_tr K p96.2
    have o17 := gr_ob p96.2.1 o17
    have o31 := gr_ob p96.2.1 o31
    have o43 := gr_ob p96.2.1 o43
    have o67 := gr_ob p96.2.1 o67
    have o79 := gr_ob p96.2.1 o79
    exact ⟨h, K⟩
  · intro c97
    have h := h.2 c97
    exact ⟨h, K⟩
theorem kx_X9_saves {Q : Int64 → HS → Prop} {v0 : Nat} {v1 : Int32} {v2 : Int32} {v3 : Int32} {v4 : Int32} {v5 : Int32} {S : HS} (h : P_X9_saves v0 v1 v2 v3 v4 v5 Q S) : P_X9_saves v0 v1 v2 v3 v4 v5 (fun r T => Q r T ∧ K8 S T) S := kx_X9_saves_0 h (k8_rf S)
set_option maxRecDepth 20000 in
set_option maxHeartbeats 1000000 in
theorem kx_X9_soaked_27 {Q : Int32 → HS → Prop} {v0 : Nat} {S0 S : HS} (h : P_X9_soaked_27 Q v0 S) (K : K8 S0 S) : P_X9_soaked_27 (fun r T => Q r T ∧ K8 S0 T) v0 S := by
  delta P_X9_soaked_27 at h ⊢
  obtain ⟨c1, h⟩ := h
  refine ⟨c1, ?_⟩
  have n2 := k8_nk K c1 (by decide)
  refine cm_X9_refuse (kx_X9_refuse h) h (fun x3 x4 p6 h g5 => ?_)
  have h := h g5
  have K := k8_tr K p6.2
  exact ⟨h, K⟩
set_option maxRecDepth 20000 in
set_option maxHeartbeats 1000000 in
theorem kx_X9_soaked_88 {Q : Int32 → HS → Prop} {s0 : Nat} {s1 : Int32} {S0 S : HS} (h : P_X9_soaked_88 Q s0 s1 S) (K : K8 S0 S) : P_X9_soaked_88 (fun r T => Q r T ∧ K8 S0 T) s0 s1 S := by
  delta P_X9_soaked_88 at h ⊢
  obtain ⟨c1, h⟩ := h
  refine ⟨c1, ?_⟩
  have n2 := k8_nk K c1 (by decide)
  refine cm_X9_grant (kx_X9_grant h) h (fun x3 x4 p6 h g5 => ?_)
  have h := h g5
  have K := k8_tr K p6.2
  exact ⟨h, K⟩
set_option maxRecDepth 20000 in
set_option maxHeartbeats 1000000 in
theorem kx_X9_soaked_0 {Q : Int32 → HS → Prop} {v0 : Nat} {S0 S : HS} (h : P_X9_soaked_0 Q v0 S) (K : K8 S0 S) : P_X9_soaked_0 (fun r T => Q r T ∧ K8 S0 T) v0 S := by
  delta P_X9_soaked_0 at h ⊢
  obtain ⟨c1, h⟩ := h
  refine ⟨c1, ?_⟩
  have n2 := k8_nk K c1 (by decide)
  obtain ⟨b3, e4, h⟩ := h
  refine ⟨b3, e4, ?_⟩
  obtain ⟨c5, h⟩ := h
  refine ⟨c5, ?_⟩
  have n6 := k8_nk K c5 (by decide)
  refine cm_X0_isOn (kx_X0_isOn h) h (fun x7 x8 p11 h g9 g10 => ?_)
  have h := h g9 g10
  have K := k8_tr K p11.2
  refine ⟨?_, ?_⟩
  · intro c12
    have h := h.1 c12
    exact kx_X9_soaked_27 h K
  · intro c13
    have h := h.2 c13
    obtain ⟨b14, e15, h⟩ := h
    refine ⟨b14, e15, ?_⟩
    obtain ⟨b16, e17, h⟩ := h
    refine ⟨b16, e17, ?_⟩
    obtain ⟨c18, h⟩ := h
    refine ⟨c18, ?_⟩
    have n19 := k8_nk K c18 (by decide)
    intro x21 e20
    have h := h x21 e20
    obtain ⟨c22, h⟩ := h
    refine ⟨c22, ?_⟩
    have n23 := k8_nk K c22 (by decide)
    have o24 := c22
    refine cm_X8_hasWalker (kx_X8_hasWalker h) h (fun x25 x26 p29 h g27 g28 => ?_)
    have h := h g27 g28
    have K := k8_tr K p29.2
    have o24 := gr_ob p29.2.1 o24
    refine ⟨?_, ?_⟩
    · intro c30
      have h := h.1 c30
      obtain ⟨b31, e32, h⟩ := h
      refine ⟨b31, e32, ?_⟩
      obtain ⟨c33, h⟩ := h
      refine ⟨c33, ?_⟩
      have n34 := k8_nk K c33 (by decide)
      have o35 := c33
      obtain ⟨b36, e37, h⟩ := h
      refine ⟨b36, e37, ?_⟩
      obtain ⟨b38, e39, h⟩ := h
      refine ⟨b38, e39, ?_⟩
      obtain ⟨c40, h⟩ := h
      refine ⟨c40, ?_⟩
      have n41 := k8_nk K c40 (by decide)
      intro x43 e42
      have h := h x43 e42
      obtain ⟨c44, h⟩ := h
      refine ⟨c44, ?_⟩
      have n45 := k8_nk K c44 (by decide)
      obtain ⟨c46, h⟩ := h
      refine ⟨c46, ?_⟩
      obtain ⟨b47, e48, h⟩ := h
      refine ⟨b47, e48, ?_⟩
      obtain ⟨c49, h⟩ := h
      refine ⟨c49, ?_⟩
      have n50 := k8_nk K c49 (by decide)
      intro x52 e51
      have h := h x52 e51
      refine ⟨?_, ?_⟩
      · intro c53
        have h := h.1 c53
        obtain ⟨b54, e55, h⟩ := h
        refine ⟨b54, e55, ?_⟩
        obtain ⟨c56, h⟩ := h
        refine ⟨c56, ?_⟩
        have n57 := k8_nk K c56 (by decide)
        obtain ⟨b58, e59, h⟩ := h
        refine ⟨b58, e59, ?_⟩
        obtain ⟨c60, h⟩ := h
        refine ⟨c60, ?_⟩
        have n61 := k8_nk K c60 (by decide)
        refine cm_X2_allGot (kx_X2_allGot h) h (fun x62 x63 p65 h g64 => ?_)
        have h := h g64
        have K := k8_tr K p65.2
        have o24 := gr_ob p65.2.1 o24
        have o35 := gr_ob p65.2.1 o35
        refine cm_X9_coatParts (kx_X9_coatParts h) h (fun x66 x67 p69 h g68 => ?_)
        have h := h g68
        have K := k8_tr K p69.2
        have o24 := gr_ob p69.2.1 o24
        have o35 := gr_ob p69.2.1 o35
        refine ⟨?_, ?_⟩
        · intro c70
          have h := h.1 c70
          exact kx_X9_soaked_88 h K
        · intro c71
          have h := h.2 c71
          exact kx_X9_soaked_88 h K
      · intro c72
        have h := h.2 c72
        refine cm_X9_grant (kx_X9_grant h) h (fun x73 x74 p76 h g75 => ?_)
        have h := h g75
        have K := k8_tr K p76.2
        have o24 := gr_ob p76.2.1 o24
        have o35 := gr_ob p76.2.1 o35
        exact ⟨h, K⟩
    · intro c77
      have h := h.2 c77
      exact kx_X9_soaked_27 h K
theorem kx_X9_soaked {Q : Int32 → HS → Prop} {v0 : Nat} {S : HS} (h : P_X9_soaked v0 Q S) : P_X9_soaked v0 (fun r T => Q r T ∧ K8 S T) S := kx_X9_soaked_0 h (k8_rf S)
set_option maxRecDepth 20000 in
set_option maxHeartbeats 1000000 in
theorem kx_X9_stayTrouble_0 {Q : Int32 → HS → Prop} {v0 : Nat} {v1 : Int32} {S0 S : HS} (h : P_X9_stayTrouble_0 Q v0 v1 S) (K : K8 S0 S) : P_X9_stayTrouble_0 (fun r T => Q r T ∧ K8 S0 T) v0 v1 S := by
  delta P_X9_stayTrouble_0 at h ⊢
  obtain ⟨c1, h⟩ := h
  refine ⟨c1, ?_⟩
  have n2 := k8_nk K c1 (by decide)
  obtain ⟨b3, e4, h⟩ := h
  refine ⟨b3, e4, ?_⟩
  obtain ⟨c5, h⟩ := h
  refine ⟨c5, ?_⟩
  have n6 := k8_nk K c5 (by decide)
  refine cm_X0_isOn (kx_X0_isOn h) h (fun x7 x8 p11 h g9 g10 => ?_)
  have h := h g9 g10
  have K := k8_tr K p11.2
  refine ⟨?_, ?_⟩
  · intro c12
    have h := h.1 c12
    exact ⟨h, K⟩
  · intro c13
    have h := h.2 c13
    obtain ⟨b14, e15, h⟩ := h
    refine ⟨b14, e15, ?_⟩
    obtain ⟨b16, e17, h⟩ := h
    refine ⟨b16, e17, ?_⟩
    obtain ⟨c18, h⟩ := h
    refine ⟨c18, ?_⟩
    have n19 := k8_nk K c18 (by decide)
    intro x21 e20
    have h := h x21 e20
    obtain ⟨c22, h⟩ := h
    refine ⟨c22, ?_⟩
    have n23 := k8_nk K c22 (by decide)
    have o24 := c22
    refine cm_X8_hasWalker (kx_X8_hasWalker h) h (fun x25 x26 p29 h g27 g28 => ?_)
    have h := h g27 g28
    have K := k8_tr K p29.2
    have o24 := gr_ob p29.2.1 o24
    refine ⟨?_, ?_⟩
    · intro c30
      have h := h.1 c30
      refine ⟨?_, ?_⟩
      · intro c31
        have h := h.1 c31
        exact ⟨h, K⟩
      · intro c32
        have h := h.2 c32
        refine ⟨?_, ?_⟩
        · intro c33
          have h := h.1 c33
          obtain ⟨b34, e35, h⟩ := h
          refine ⟨b34, e35, ?_⟩
          obtain ⟨b36, e37, h⟩ := h
          refine ⟨b36, e37, ?_⟩
          obtain ⟨c38, h⟩ := h
          refine ⟨c38, ?_⟩
          have n39 := k8_nk K c38 (by decide)
          obtain ⟨b40, e41, h⟩ := h
          refine ⟨b40, e41, ?_⟩
          obtain ⟨c42, h⟩ := h
          refine ⟨c42, ?_⟩
          have n43 := k8_nk K c42 (by decide)
          intro x45 e44
          have h := h x45 e44
          obtain ⟨c46, h⟩ := h
          refine ⟨c46, ?_⟩
          have n47 := k8_nk K c46 (by decide)
          have o48 := c46
          refine cm_X8_canWait (kx_X8_canWait h) h (fun x49 x50 p53 h g51 g52 => ?_)
          have h := h g51 g52
          have K := k8_tr K p53.2
          have o24 := gr_ob p53.2.1 o24
          have o48 := gr_ob p53.2.1 o48
          refine ⟨?_, ?_⟩
          · intro c54
            have h := h.1 c54
            obtain ⟨b55, e56, h⟩ := h
            refine ⟨b55, e56, ?_⟩
            obtain ⟨c57, h⟩ := h
            refine ⟨c57, ?_⟩
            have n58 := k8_nk K c57 (by decide)
            obtain ⟨b59, e60, h⟩ := h
            refine ⟨b59, e60, ?_⟩
            obtain ⟨c61, h⟩ := h
            refine ⟨c61, ?_⟩
            have n62 := k8_nk K c61 (by decide)
            intro x64 e63
            have h := h x64 e63
            refine ⟨?_, ?_⟩
            · intro c65
              have h := h.1 c65
              exact ⟨h, K⟩
            · intro c66
              have h := h.2 c66
              exact ⟨h, K⟩
          · intro c67
            have h := h.2 c67
            exact ⟨h, K⟩
        · intro c68
          have h := h.2 c68
          exact ⟨h, K⟩
    · intro c69
      have h := h.2 c69
      exact ⟨h, K⟩
theorem kx_X9_stayTrouble {Q : Int32 → HS → Prop} {v0 : Nat} {v1 : Int32} {S : HS} (h : P_X9_stayTrouble v0 v1 Q S) : P_X9_stayTrouble v0 v1 (fun r T => Q r T ∧ K8 S T) S := kx_X9_stayTrouble_0 h (k8_rf S)
set_option maxRecDepth 20000 in
set_option maxHeartbeats 1000000 in
theorem kx_X9_stay_111 {Q : Int32 → HS → Prop} {X58 X58_2 : Nat → Int32 → Int64 → Int32 → HS → Prop} {v0 : Nat} {v1 : Int32} {v2 : Int64} {v4 : Int32} {S0 S : HS} (h : P_X9_stay_111 Q X58 v0 v1 v2 v4 S) (K : K8 S0 S) (hX58 : ∀ (u0 : Nat) (u1 : Int32) (u2 : Int64) (u3 : Int32) (u4 : HS), X58 u0 u1 u2 u3 u4 → K8 S0 u4 → X58_2 u0 u1 u2 u3 u4) : P_X9_stay_111 (fun r T => Q r T ∧ K8 S0 T) X58_2 v0 v1 v2 v4 S := by
  delta P_X9_stay_111 at h ⊢
  obtain ⟨c1, h⟩ := h
  refine ⟨c1, ?_⟩
  have n2 := k8_nk K c1 (by decide)
  obtain ⟨b3, e4, h⟩ := h
  refine ⟨b3, e4, ?_⟩
  obtain ⟨c5, h⟩ := h
  refine ⟨c5, ?_⟩
  have n6 := k8_nk K c5 (by decide)
  obtain ⟨b7, e8, h⟩ := h
  refine ⟨b7, e8, ?_⟩
  obtain ⟨c9, h⟩ := h
  refine ⟨c9, ?_⟩
  have n10 := k8_nk K c9 (by decide)
  intro x12 e11
  have h := h x12 e11
  intro x14 e13
  have h := h x14 e13
  intro x16 e15
  have h := h x16 e15
  have K := k8_I K e15 n10
  intro x18 e17
  have h := h x18 e17
  exact hX58 _ _ _ _ _ h K
set_option maxRecDepth 20000 in
set_option maxHeartbeats 1000000 in
theorem kxB_X9_stay_58 {Q : Int32 → HS → Prop} {X58 X58_2 : Nat → Int32 → Int64 → Int32 → HS → Prop} {v0 : Nat} {v1 : Int32} {v2 : Int64} {v4 : Int32} {S0 S : HS} (h : B_X9_stay_58 Q X58 v0 v1 v2 v4 S) (K : K8 S0 S) (hX58 : ∀ (u0 : Nat) (u1 : Int32) (u2 : Int64) (u3 : Int32) (u4 : HS), X58 u0 u1 u2 u3 u4 → K8 S0 u4 → X58_2 u0 u1 u2 u3 u4) : B_X9_stay_58 (fun r T => Q r T ∧ K8 S0 T) X58_2 v0 v1 v2 v4 S := by
  delta B_X9_stay_58 at h ⊢
  refine ⟨?_, ?_⟩
  · intro c1
    have h := h.1 c1
    exact ⟨h, K⟩
  · intro c2
    have h := h.2 c2
    obtain ⟨c3, h⟩ := h
    refine ⟨c3, ?_⟩
    have n4 := k8_nk K c3 (by decide)
    obtain ⟨b5, e6, h⟩ := h
    refine ⟨b5, e6, ?_⟩
    obtain ⟨b7, e8, h⟩ := h
    refine ⟨b7, e8, ?_⟩
    obtain ⟨b9, e10, h⟩ := h
    refine ⟨b9, e10, ?_⟩
    obtain ⟨c11, h⟩ := h
    refine ⟨c11, ?_⟩
    have n12 := k8_nk K c11 (by decide)
    obtain ⟨b13, e14, h⟩ := h
    refine ⟨b13, e14, ?_⟩
    obtain ⟨c15, h⟩ := h
    refine ⟨c15, ?_⟩
    have n16 := k8_nk K c15 (by decide)
    intro x18 e17
    have h := h x18 e17
    obtain ⟨c19, h⟩ := h
    refine ⟨c19, ?_⟩
    have n20 := k8_nk K c19 (by decide)
    have o21 := c19
    refine cm_X8_hourOf (kx_X8_hourOf h) h (fun x22 x23 p25 h g24 => ?_)
    have h := h g24
    have K := k8_tr K p25.2
    have o21 := gr_ob p25.2.1 o21
    obtain ⟨c26, h⟩ := h
    refine ⟨c26, ?_⟩
    have n27 := k8_nk K c26 (by decide)
    refine cm_X0_rainsIn (kx_X0_rainsIn h) h (fun x28 x29 p32 h g30 g31 => ?_)
    have h := h g30 g31
    have K := k8_tr K p32.2
    have o21 := gr_ob p32.2.1 o21
    refine ⟨?_, ?_⟩
    · intro c33
      have h := h.1 c33
      exact kx_X9_stay_111 h K hX58
    · intro c34
      have h := h.2 c34
      obtain ⟨b35, e36, h⟩ := h
      refine ⟨b35, e36, ?_⟩
      obtain ⟨c37, h⟩ := h
      refine ⟨c37, ?_⟩
      have n38 := k8_nk K c37 (by decide)
      obtain ⟨b39, e40, h⟩ := h
      refine ⟨b39, e40, ?_⟩
      obtain ⟨c41, h⟩ := h
      refine ⟨c41, ?_⟩
      have n42 := k8_nk K c41 (by decide)
      obtain ⟨b43, e44, h⟩ := h
      refine ⟨b43, e44, ?_⟩
      obtain ⟨c45, h⟩ := h
      refine ⟨c45, ?_⟩
      have n46 := k8_nk K c45 (by decide)
      obtain ⟨c47, h⟩ := h
      refine ⟨c47, ?_⟩
      intro x49 e48
      have h := h x49 e48
      intro x51 e50
      have h := h x51 e50
      obtain ⟨c52, h⟩ := h
      refine ⟨c52, ?_⟩
      intro x54 e53
      have h := h x54 e53
      have K := k8_J K e53
      have o21 := ob_wJ o21 e53
      exact kx_X9_stay_111 h K hX58
theorem kx_X9_stay_58 {Q : Int32 → HS → Prop} {v0 : Nat} {v1 : Int32} {v2 : Int64} {v4 : Int32} {S0 S : HS} (h : P_X9_stay_58 Q v0 v1 v2 v4 S) (K : K8 S0 S) : P_X9_stay_58 (fun r T => Q r T ∧ K8 S0 T) v0 v1 v2 v4 S := h (fun v0 v1 v2 v4 S => K8 S0 S → P_X9_stay_58 (fun r T => Q r T ∧ K8 S0 T) v0 v1 v2 v4 S) (fun v0 v1 v2 v4 S hB K => fd_X9_stay_58 (kxB_X9_stay_58 hB K (fun _ _ _ _ _ hx K => hx K))) K
set_option maxRecDepth 20000 in
set_option maxHeartbeats 1000000 in
theorem kx_X9_stay_0 {Q : Int32 → HS → Prop} {v0 : Nat} {v1 : Int32} {S0 S : HS} (h : P_X9_stay_0 Q v0 v1 S) (K : K8 S0 S) : P_X9_stay_0 (fun r T => Q r T ∧ K8 S0 T) v0 v1 S := by
  delta P_X9_stay_0 at h ⊢
  obtain ⟨c1, h⟩ := h
  refine ⟨c1, ?_⟩
  have n2 := k8_nk K c1 (by decide)
  refine cm_X9_stayTrouble (kx_X9_stayTrouble h) h (fun x3 x4 p6 h g5 => ?_)
  have h := h g5
  have K := k8_tr K p6.2
  refine cm_X9_refusedBy (kx_X9_refusedBy h) h (fun x7 x8 p11 h g9 g10 => ?_)
  have h := h g9 g10
  have K := k8_tr K p11.2
  refine ⟨?_, ?_⟩
  · intro c12
    have h := h.1 c12
    obtain ⟨b13, e14, h⟩ := h
    refine ⟨b13, e14, ?_⟩
    obtain ⟨c15, h⟩ := h
    refine ⟨c15, ?_⟩
    have n16 := k8_nk K c15 (by decide)
    refine cm_X0_keepForUndo (kx_X0_keepForUndo h) h (fun x17 p19 h g18 => ?_)
    have h := h g18
    have K := k8_tr K p19.2
    obtain ⟨b20, e21, h⟩ := h
    refine ⟨b20, e21, ?_⟩
    obtain ⟨b22, e23, h⟩ := h
    refine ⟨b22, e23, ?_⟩
    obtain ⟨c24, h⟩ := h
    refine ⟨c24, ?_⟩
    have n25 := k8_nk K c24 (by decide)
    have o26 := c24
    obtain ⟨b27, e28, h⟩ := h
    refine ⟨b27, e28, ?_⟩
    obtain ⟨b29, e30, h⟩ := h
    refine ⟨b29, e30, ?_⟩
    obtain ⟨c31, h⟩ := h
    refine ⟨c31, ?_⟩
    have n32 := k8_nk K c31 (by decide)
    intro x34 e33
    have h := h x34 e33
    obtain ⟨c35, h⟩ := h
    refine ⟨c35, ?_⟩
    have n36 := k8_nk K c35 (by decide)
    obtain ⟨c37, h⟩ := h
    refine ⟨c37, ?_⟩
    obtain ⟨b38, e39, h⟩ := h
    refine ⟨b38, e39, ?_⟩
    obtain ⟨b40, e41, h⟩ := h
    refine ⟨b40, e41, ?_⟩
    obtain ⟨c42, h⟩ := h
    refine ⟨c42, ?_⟩
    have n43 := k8_nk K c42 (by decide)
    obtain ⟨b44, e45, h⟩ := h
    refine ⟨b44, e45, ?_⟩
    obtain ⟨c46, h⟩ := h
    refine ⟨c46, ?_⟩
    have n47 := k8_nk K c46 (by decide)
    intro x49 e48
    have h := h x49 e48
    obtain ⟨c50, h⟩ := h
    refine ⟨c50, ?_⟩
    have n51 := k8_nk K c50 (by decide)
    have o52 := c50
    refine cm_X8_dripOn (kx_X8_dripOn h) h (fun x53 x54 p56 h g55 => ?_)
    have h := h g55
    have K := k8_tr K p56.2
    have o26 := gr_ob p56.2.1 o26
    have o52 := gr_ob p56.2.1 o52
    intro x58 e57
    have h := h x58 e57
    exact kx_X9_stay_58 h K
  · intro c59
    have h := h.2 c59
    exact ⟨h, K⟩
theorem kx_X9_stay {Q : Int32 → HS → Prop} {v0 : Nat} {v1 : Int32} {S : HS} (h : P_X9_stay v0 v1 Q S) : P_X9_stay v0 v1 (fun r T => Q r T ∧ K8 S T) S := kx_X9_stay_0 h (k8_rf S)
set_option maxRecDepth 20000 in
set_option maxHeartbeats 1000000 in
theorem kx_X9_step_61 {Q : Int32 → HS → Prop} {v0 : Nat} {S0 S : HS} (h : P_X9_step_61 Q v0 S) (K : K8 S0 S) : P_X9_step_61 (fun r T => Q r T ∧ K8 S0 T) v0 S := by
  delta P_X9_step_61 at h ⊢
  obtain ⟨c1, h⟩ := h
  refine ⟨c1, ?_⟩
  have n2 := k8_nk K c1 (by decide)
  refine cm_X9_refuse (kx_X9_refuse h) h (fun x3 x4 p6 h g5 => ?_)
  have h := h g5
  have K := k8_tr K p6.2
  exact ⟨h, K⟩
set_option maxRecDepth 20000 in
set_option maxHeartbeats 1000000 in
theorem kx_X9_step_0 {Q : Int32 → HS → Prop} {v0 : Nat} {v1 : Int32} {v2 : Int32} {v3 : Int32} {v4 : Int32} {v5 : Int32} {v6 : Int32} {S0 S : HS} (h : P_X9_step_0 Q v0 v1 v2 v3 v4 v5 v6 S) (K : K8 S0 S) : P_X9_step_0 (fun r T => Q r T ∧ K8 S0 T) v0 v1 v2 v3 v4 v5 v6 S := by
  delta P_X9_step_0 at h ⊢
  obtain ⟨c1, h⟩ := h
  refine ⟨c1, ?_⟩
  have n2 := k8_nk K c1 (by decide)
  refine cm_X9_wayTrouble (kx_X9_wayTrouble h) h (fun x3 x4 p6 h g5 => ?_)
  have h := h g5
  have K := k8_tr K p6.2
  refine cm_X9_refusedBy (kx_X9_refusedBy h) h (fun x7 x8 p11 h g9 g10 => ?_)
  have h := h g9 g10
  have K := k8_tr K p11.2
  refine ⟨?_, ?_⟩
  · intro c12
    have h := h.1 c12
    obtain ⟨b13, e14, h⟩ := h
    refine ⟨b13, e14, ?_⟩
    obtain ⟨b15, e16, h⟩ := h
    refine ⟨b15, e16, ?_⟩
    obtain ⟨c17, h⟩ := h
    refine ⟨c17, ?_⟩
    have n18 := k8_nk K c17 (by decide)
    have o19 := c17
    refine cm_X7_trace (kx_X7_trace h) h (fun x20 x21 p23 h g22 => ?_)
    have h := h g22
    have K := k8_tr K p23.2
    have o19 := gr_ob p23.2.1 o19
    refine ⟨?_, ?_⟩
    · intro c24
      have h := h.1 c24
      exact kx_X9_step_61 h K
    · intro c25
      have h := h.2 c25
      refine ⟨?_, ?_⟩
      · intro c26
        have h := h.1 c26
        exact kx_X9_step_61 h K
      · intro c27
        have h := h.2 c27
        obtain ⟨b28, e29, h⟩ := h
        refine ⟨b28, e29, ?_⟩
        obtain ⟨c30, h⟩ := h
        refine ⟨c30, ?_⟩
        have n31 := k8_nk K c30 (by decide)
        have o32 := c30
        obtain ⟨b33, e34, h⟩ := h
        refine ⟨b33, e34, ?_⟩
        have n35 := k8_nr K e34 o32 (by decide)
        obtain ⟨c36, h⟩ := h
        refine ⟨c36, ?_⟩
        refine ⟨?_, ?_⟩
        · intro c37
          have h := h.1 c37
          obtain ⟨b38, e39, h⟩ := h
          refine ⟨b38, e39, ?_⟩
          obtain ⟨c40, h⟩ := h
          refine ⟨c40, ?_⟩
          have n41 := k8_nk K c40 (by decide)
          have o42 := c40
          obtain ⟨b43, e44, h⟩ := h
          refine ⟨b43, e44, ?_⟩
          have n45 := k8_nr K e44 o42 (by decide)
          obtain ⟨c46, h⟩ := h
          refine ⟨c46, ?_⟩
          obtain ⟨c47, h⟩ := h
          refine ⟨c47, ?_⟩
          intro x49 e48
          have h := h x49 e48
          exact ⟨h, K⟩
        · intro c50
          have h := h.2 c50
          exact kx_X9_step_61 h K
  · intro c51
    have h := h.2 c51
    exact ⟨h, K⟩
theorem kx_X9_step {Q : Int32 → HS → Prop} {v0 : Nat} {v1 : Int32} {v2 : Int32} {v3 : Int32} {v4 : Int32} {v5 : Int32} {v6 : Int32} {S : HS} (h : P_X9_step v0 v1 v2 v3 v4 v5 v6 Q S) : P_X9_step v0 v1 v2 v3 v4 v5 v6 (fun r T => Q r T ∧ K8 S T) S := kx_X9_step_0 h (k8_rf S)
set_option maxRecDepth 20000 in
set_option maxHeartbeats 1000000 in
theorem kx_X9_steps_0 {Q : Int32 → HS → Prop} {v0 : Nat} {v1 : Int32} {v2 : Int32} {v3 : Int32} {v4 : Int32} {v5 : Int32} {S0 S : HS} (h : P_X9_steps_0 Q v0 v1 v2 v3 v4 v5 S) (K : K8 S0 S) : P_X9_steps_0 (fun r T => Q r T ∧ K8 S0 T) v0 v1 v2 v3 v4 v5 S := by
  delta P_X9_steps_0 at h ⊢
  obtain ⟨c1, h⟩ := h
  refine ⟨c1, ?_⟩
  have n2 := k8_nk K c1 (by decide)
  refine cm_X9_wayTrouble (kx_X9_wayTrouble h) h (fun x3 x4 p6 h g5 => ?_)
  have h := h g5
  have K := k8_tr K p6.2
  refine cm_X9_refusedBy (kx_X9_refusedBy h) h (fun x7 x8 p11 h g9 g10 => ?_)
  have h := h g9 g10
  have K := k8_tr K p11.2
  refine ⟨?_, ?_⟩
  · intro c12
    have h := h.1 c12
    obtain ⟨b13, e14, h⟩ := h
    refine ⟨b13, e14, ?_⟩
    obtain ⟨b15, e16, h⟩ := h
    refine ⟨b15, e16, ?_⟩
    obtain ⟨c17, h⟩ := h
    refine ⟨c17, ?_⟩
    have n18 := k8_nk K c17 (by decide)
    have o19 := c17
    refine cm_X7_trace (kx_X7_trace h) h (fun x20 x21 p23 h g22 => ?_)
    have h := h g22
    have K := k8_tr K p23.2
    have o19 := gr_ob p23.2.1 o19
    exact ⟨h, K⟩
  · intro c24
    have h := h.2 c24
    exact ⟨h, K⟩
theorem kx_X9_steps {Q : Int32 → HS → Prop} {v0 : Nat} {v1 : Int32} {v2 : Int32} {v3 : Int32} {v4 : Int32} {v5 : Int32} {S : HS} (h : P_X9_steps v0 v1 v2 v3 v4 v5 Q S) : P_X9_steps v0 v1 v2 v3 v4 v5 (fun r T => Q r T ∧ K8 S T) S := kx_X9_steps_0 h (k8_rf S)
set_option maxRecDepth 20000 in
set_option maxHeartbeats 1000000 in
theorem kx_X9_there_0 {Q : Int32 → HS → Prop} {v0 : Nat} {v1 : Int32} {v2 : Int32} {v3 : Int32} {v4 : Int32} {v5 : Int32} {S0 S : HS} (h : P_X9_there_0 Q v0 v1 v2 v3 v4 v5 S) (K : K8 S0 S) : P_X9_there_0 (fun r T => Q r T ∧ K8 S0 T) v0 v1 v2 v3 v4 v5 S := by
  delta P_X9_there_0 at h ⊢
  obtain ⟨c1, h⟩ := h
  refine ⟨c1, ?_⟩
  have n2 := k8_nk K c1 (by decide)
  refine cm_X9_wayTrouble (kx_X9_wayTrouble h) h (fun x3 x4 p6 h g5 => ?_)
  have h := h g5
  have K := k8_tr K p6.2
  refine cm_X9_refusedBy (kx_X9_refusedBy h) h (fun x7 x8 p11 h g9 g10 => ?_)
  have h := h g9 g10
  have K := k8_tr K p11.2
  refine ⟨?_, ?_⟩
  · intro c12
    have h := h.1 c12
    obtain ⟨b13, e14, h⟩ := h
    refine ⟨b13, e14, ?_⟩
    obtain ⟨c15, h⟩ := h
    refine ⟨c15, ?_⟩
    have n16 := k8_nk K c15 (by decide)
    have o17 := c15
    refine cm_X7_endFrom (kx_X7_endFrom h) h (fun x18 x19 p21 h g20 => ?_)
    have h := h g20
    have K := k8_tr K p21.2
    have o17 := gr_ob p21.2.1 o17
    exact ⟨h, K⟩
  · intro c22
    have h := h.2 c22
    exact ⟨h, K⟩
theorem kx_X9_there {Q : Int32 → HS → Prop} {v0 : Nat} {v1 : Int32} {v2 : Int32} {v3 : Int32} {v4 : Int32} {v5 : Int32} {S : HS} (h : P_X9_there v0 v1 v2 v3 v4 v5 Q S) : P_X9_there v0 v1 v2 v3 v4 v5 (fun r T => Q r T ∧ K8 S T) S := kx_X9_there_0 h (k8_rf S)
set_option maxRecDepth 20000 in
set_option maxHeartbeats 1000000 in
theorem kx_X9_undo_17 {Q : Int32 → HS → Prop} {s0 : Nat} {s1 : Int32} {S0 S : HS} (h : P_X9_undo_17 Q s0 s1 S) (K : K8 S0 S) : P_X9_undo_17 (fun r T => Q r T ∧ K8 S0 T) s0 s1 S := by
  delta P_X9_undo_17 at h ⊢
  obtain ⟨c1, h⟩ := h
  refine ⟨c1, ?_⟩
  have n2 := k8_nk K c1 (by decide)
  refine cm_X9_refusedBy (kx_X9_refusedBy h) h (fun x3 x4 p7 h g5 g6 => ?_)
  have h := h g5 g6
  have K := k8_tr K p7.2
  refine ⟨?_, ?_⟩
  · intro c8
    have h := h.1 c8
    exact ⟨h, K⟩
  · intro c9
    have h := h.2 c9
    exact ⟨h, K⟩
set_option maxRecDepth 20000 in
set_option maxHeartbeats 1000000 in
theorem kx_X9_undo_0 {Q : Int32 → HS → Prop} {v0 : Nat} {S0 S : HS} (h : P_X9_undo_0 Q v0 S) (K : K8 S0 S) : P_X9_undo_0 (fun r T => Q r T ∧ K8 S0 T) v0 S := by
  delta P_X9_undo_0 at h ⊢
  obtain ⟨c1, h⟩ := h
  refine ⟨c1, ?_⟩
  have n2 := k8_nk K c1 (by decide)
  obtain ⟨b3, e4, h⟩ := h
  refine ⟨b3, e4, ?_⟩
  obtain ⟨c5, h⟩ := h
  refine ⟨c5, ?_⟩
  have n6 := k8_nk K c5 (by decide)
  refine cm_X0_takeBack (kx_X0_takeBack h) h (fun x7 x8 p11 h g9 g10 => ?_)
  have h := h g9 g10
  have K := k8_tr K p11.2
  refine ⟨?_, ?_⟩
  · intro c12
    have h := h.1 c12
    exact kx_X9_undo_17 h K
  · intro c13
    have h := h.2 c13
    exact kx_X9_undo_17 h K
theorem kx_X9_undo {Q : Int32 → HS → Prop} {v0 : Nat} {S : HS} (h : P_X9_undo v0 Q S) : P_X9_undo v0 (fun r T => Q r T ∧ K8 S T) S := kx_X9_undo_0 h (k8_rf S)
set_option maxRecDepth 20000 in
set_option maxHeartbeats 1000000 in
theorem kx_X9_walker_21 {Q : Int32 → HS → Prop} {v0 : Nat} {S0 S : HS} (h : P_X9_walker_21 Q v0 S) (K : K8 S0 S) : P_X9_walker_21 (fun r T => Q r T ∧ K8 S0 T) v0 S := by
  delta P_X9_walker_21 at h ⊢
  obtain ⟨c1, h⟩ := h
  refine ⟨c1, ?_⟩
  have n2 := k8_nk K c1 (by decide)
  refine cm_X9_refuse (kx_X9_refuse h) h (fun x3 x4 p6 h g5 => ?_)
  have h := h g5
  have K := k8_tr K p6.2
  exact ⟨h, K⟩
set_option maxRecDepth 20000 in
set_option maxHeartbeats 1000000 in
theorem kx_X9_walker_0 {Q : Int32 → HS → Prop} {v0 : Nat} {v1 : Int32} {v2 : Int32} {S0 S : HS} (h : P_X9_walker_0 Q v0 v1 v2 S) (K : K8 S0 S) : P_X9_walker_0 (fun r T => Q r T ∧ K8 S0 T) v0 v1 v2 S := by
  delta P_X9_walker_0 at h ⊢
  obtain ⟨c1, h⟩ := h
  refine ⟨c1, ?_⟩
  have n2 := k8_nk K c1 (by decide)
  obtain ⟨b3, e4, h⟩ := h
  refine ⟨b3, e4, ?_⟩
  obtain ⟨c5, h⟩ := h
  refine ⟨c5, ?_⟩
  have n6 := k8_nk K c5 (by decide)
  have o7 := c5
  refine cm_X8_hasWalker (kx_X8_hasWalker h) h (fun x8 x9 p12 h g10 g11 => ?_)
  have h := h g10 g11
  have K := k8_tr K p12.2
  have o7 := gr_ob p12.2.1 o7
  refine ⟨?_, ?_⟩
  · intro c13
    have h := h.1 c13
    exact kx_X9_walker_21 h K
  · intro c14
    have h := h.2 c14
    refine ⟨?_, ?_⟩
    · intro c15
      have h := h.1 c15
      exact kx_X9_walker_21 h K
    · intro c16
      have h := h.2 c16
      refine ⟨?_, ?_⟩
      · intro c17
        have h := h.1 c17
        obtain ⟨b18, e19, h⟩ := h
        refine ⟨b18, e19, ?_⟩
        obtain ⟨c20, h⟩ := h
        refine ⟨c20, ?_⟩
        have n21 := k8_nk K c20 (by decide)
        have o22 := c20
        obtain ⟨b23, e24, h⟩ := h
        refine ⟨b23, e24, ?_⟩
        obtain ⟨c25, h⟩ := h
        refine ⟨c25, ?_⟩
        have n26 := k8_nk K c25 (by decide)
        obtain ⟨c27, h⟩ := h
        refine ⟨c27, ?_⟩
        obtain ⟨b28, e29, h⟩ := h
        refine ⟨b28, e29, ?_⟩
        obtain ⟨c30, h⟩ := h
        refine ⟨c30, ?_⟩
        have n31 := k8_nk K c30 (by decide)
        refine cm_X6_tell (kx_X6_tell h) h (fun x32 x33 p35 h g34 => ?_)
        have h := h g34
        have K := k8_tr K p35.2
        have o7 := gr_ob p35.2.1 o7
        have o22 := gr_ob p35.2.1 o22
        refine cm_X9_grant (kx_X9_grant h) h (fun x36 x37 p39 h g38 => ?_)
        have h := h g38
        have K := k8_tr K p39.2
        have o7 := gr_ob p39.2.1 o7
        have o22 := gr_ob p39.2.1 o22
        exact ⟨h, K⟩
      · intro c40
        have h := h.2 c40
        exact kx_X9_walker_21 h K
theorem kx_X9_walker {Q : Int32 → HS → Prop} {v0 : Nat} {v1 : Int32} {v2 : Int32} {S : HS} (h : P_X9_walker v0 v1 v2 Q S) : P_X9_walker v0 v1 v2 (fun r T => Q r T ∧ K8 S T) S := kx_X9_walker_0 h (k8_rf S)
set_option maxRecDepth 20000 in
set_option maxHeartbeats 1000000 in
theorem kx_X9_wet_0 {Q : Int64 → HS → Prop} {v0 : Nat} {v1 : Int32} {v2 : Int32} {v3 : Int32} {v4 : Int32} {v5 : Int32} {v6 : Int32} {S0 S : HS} (h : P_X9_wet_0 Q v0 v1 v2 v3 v4 v5 v6 S) (K : K8 S0 S) : P_X9_wet_0 (fun r T => Q r T ∧ K8 S0 T) v0 v1 v2 v3 v4 v5 v6 S := by
  delta P_X9_wet_0 at h ⊢
  obtain ⟨c1, h⟩ := h
  refine ⟨c1, ?_⟩
  have n2 := k8_nk K c1 (by decide)
  refine cm_X9_legTrouble (kx_X9_legTrouble h) h (fun x3 x4 p6 h g5 => ?_)
  have h := h g5
  have K := k8_tr K p6.2
  refine cm_X9_refusedBy (kx_X9_refusedBy h) h (fun x7 x8 p11 h g9 g10 => ?_)
  have h := h g9 g10
  have K := k8_tr K p11.2
  refine ⟨?_, ?_⟩
  · intro c12
    have h := h.1 c12
    obtain ⟨b13, e14, h⟩ := h
    refine ⟨b13, e14, ?_⟩
    obtain ⟨b15, e16, h⟩ := h
    refine ⟨b15, e16, ?_⟩
    obtain ⟨c17, h⟩ := h
    refine ⟨c17, ?_⟩
    have n18 := k8_nk K c17 (by decide)
    have o19 := c17
    obtain ⟨b20, e21, h⟩ := h
    refine ⟨b20, e21, ?_⟩
    obtain ⟨c22, h⟩ := h
    refine ⟨c22, ?_⟩
    have n23 := k8_nk K c22 (by decide)
    obtain ⟨c24, h⟩ := h
    refine ⟨c24, ?_⟩
    obtain ⟨b25, e26, h⟩ := h
    refine ⟨b25, e26, ?_⟩
    obtain ⟨b27, e28, h⟩ := h
    refine ⟨b27, e28, ?_⟩
    obtain ⟨c29, h⟩ := h
    refine ⟨c29, ?_⟩
    have n30 := k8_nk K c29 (by decide)
    have o31 := c29
    obtain ⟨b32, e33, h⟩ := h
    refine ⟨b32, e33, ?_⟩
    obtain ⟨c34, h⟩ := h
    refine ⟨c34, ?_⟩
    have n35 := k8_nk K c34 (by decide)
    obtain ⟨c36, h⟩ := h
    refine ⟨c36, ?_⟩
    obtain ⟨b37, e38, h⟩ := h
    refine ⟨b37, e38, ?_⟩
    obtain ⟨b39, e40, h⟩ := h
    refine ⟨b39, e40, ?_⟩
    obtain ⟨c41, h⟩ := h
    refine ⟨c41, ?_⟩
    have n42 := k8_nk K c41 (by decide)
    have o43 := c41
    obtain ⟨b44, e45, h⟩ := h
    refine ⟨b44, e45, ?_⟩
    obtain ⟨c46, h⟩ := h
    refine ⟨c46, ?_⟩
    have n47 := k8_nk K c46 (by decide)
    obtain ⟨c48, h⟩ := h
    refine ⟨c48, ?_⟩
    obtain ⟨b49, e50, h⟩ := h
    refine ⟨b49, e50, ?_⟩
    obtain ⟨c51, h⟩ := h
    refine ⟨c51, ?_⟩
    have n52 := k8_nk K c51 (by decide)
    refine cm_X1_wetOf (kx_X1_wetOf h) h (fun x53 x54 p56 h g55 => ?_)
    have h := h g55
    have K := k8_tr K p56.2
    have o19 := gr_ob p56.2.1 o19
    have o31 := gr_ob p56.2.1 o31
    have o43 := gr_ob p56.2.1 o43
    refine cm_X9_fraction (kx_X9_fraction h) h (fun x57 x58 p60 h g59 => ?_)
    have h := h g59
    have K := k8_tr K p60.2
    have o19 := gr_ob p60.2.1 o19
    have o31 := gr_ob p60.2.1 o31
    have o43 := gr_ob p60.2.1 o43
    exact ⟨h, K⟩
  · intro c61
    have h := h.2 c61
    exact ⟨h, K⟩
theorem kx_X9_wet {Q : Int64 → HS → Prop} {v0 : Nat} {v1 : Int32} {v2 : Int32} {v3 : Int32} {v4 : Int32} {v5 : Int32} {v6 : Int32} {S : HS} (h : P_X9_wet v0 v1 v2 v3 v4 v5 v6 Q S) : P_X9_wet v0 v1 v2 v3 v4 v5 v6 (fun r T => Q r T ∧ K8 S T) S := kx_X9_wet_0 h (k8_rf S)
set_option maxRecDepth 20000 in
set_option maxHeartbeats 1000000 in
theorem kx_X9_wetness_27 {Q : Int64 → HS → Prop} {v0 : Nat} {S0 S : HS} (h : P_X9_wetness_27 Q v0 S) (K : K8 S0 S) : P_X9_wetness_27 (fun r T => Q r T ∧ K8 S0 T) v0 S := by
  delta P_X9_wetness_27 at h ⊢
  obtain ⟨c1, h⟩ := h
  refine ⟨c1, ?_⟩
  have n2 := k8_nk K c1 (by decide)
  refine cm_X9_refuse (kx_X9_refuse h) h (fun x3 x4 p6 h g5 => ?_)
  have h := h g5
  have K := k8_tr K p6.2
  exact ⟨h, K⟩
set_option maxRecDepth 20000 in
set_option maxHeartbeats 1000000 in
theorem kx_X9_wetness_0 {Q : Int64 → HS → Prop} {v0 : Nat} {v1 : Int32} {S0 S : HS} (h : P_X9_wetness_0 Q v0 v1 S) (K : K8 S0 S) : P_X9_wetness_0 (fun r T => Q r T ∧ K8 S0 T) v0 v1 S := by
  delta P_X9_wetness_0 at h ⊢
  obtain ⟨c1, h⟩ := h
  refine ⟨c1, ?_⟩
  have n2 := k8_nk K c1 (by decide)
  obtain ⟨b3, e4, h⟩ := h
  refine ⟨b3, e4, ?_⟩
  obtain ⟨c5, h⟩ := h
  refine ⟨c5, ?_⟩
  have n6 := k8_nk K c5 (by decide)
  refine cm_X0_isOn (kx_X0_isOn h) h (fun x7 x8 p11 h g9 g10 => ?_)
  have h := h g9 g10
  have K := k8_tr K p11.2
  refine ⟨?_, ?_⟩
  · intro c12
    have h := h.1 c12
    exact kx_X9_wetness_27 h K
  · intro c13
    have h := h.2 c13
    obtain ⟨b14, e15, h⟩ := h
    refine ⟨b14, e15, ?_⟩
    obtain ⟨b16, e17, h⟩ := h
    refine ⟨b16, e17, ?_⟩
    obtain ⟨c18, h⟩ := h
    refine ⟨c18, ?_⟩
    have n19 := k8_nk K c18 (by decide)
    intro x21 e20
    have h := h x21 e20
    obtain ⟨c22, h⟩ := h
    refine ⟨c22, ?_⟩
    have n23 := k8_nk K c22 (by decide)
    have o24 := c22
    refine cm_X8_hasWalker (kx_X8_hasWalker h) h (fun x25 x26 p29 h g27 g28 => ?_)
    have h := h g27 g28
    have K := k8_tr K p29.2
    have o24 := gr_ob p29.2.1 o24
    refine ⟨?_, ?_⟩
    · intro c30
      have h := h.1 c30
      intro x32 e31
      have h := h x32 e31
      have K := k8_I K e31 n2
      have o24 := ob_wI o24 e31
      obtain ⟨b33, e34, h⟩ := h
      refine ⟨b33, e34, ?_⟩
      obtain ⟨c35, h⟩ := h
      refine ⟨c35, ?_⟩
      have n36 := k8_nk K c35 (by decide)
      obtain ⟨b37, e38, h⟩ := h
      refine ⟨b37, e38, ?_⟩
      obtain ⟨c39, h⟩ := h
      refine ⟨c39, ?_⟩
      have n40 := k8_nk K c39 (by decide)
      refine cm_X2_allGot (kx_X2_allGot h) h (fun x41 x42 p44 h g43 => ?_)
      have h := h g43
      have K := k8_tr K p44.2
      have o24 := gr_ob p44.2.1 o24
      obtain ⟨b45, e46, h⟩ := h
      refine ⟨b45, e46, ?_⟩
      obtain ⟨c47, h⟩ := h
      refine ⟨c47, ?_⟩
      have n48 := k8_nk K c47 (by decide)
      have o49 := c47
      obtain ⟨b50, e51, h⟩ := h
      refine ⟨b50, e51, ?_⟩
      obtain ⟨b52, e53, h⟩ := h
      refine ⟨b52, e53, ?_⟩
      obtain ⟨c54, h⟩ := h
      refine ⟨c54, ?_⟩
      have n55 := k8_nk K c54 (by decide)
      intro x57 e56
      have h := h x57 e56
      obtain ⟨c58, h⟩ := h
      refine ⟨c58, ?_⟩
      have n59 := k8_nk K c58 (by decide)
      obtain ⟨c60, h⟩ := h
      refine ⟨c60, ?_⟩
      obtain ⟨b61, e62, h⟩ := h
      refine ⟨b61, e62, ?_⟩
      refine cm_X9_coatParts (kx_X9_coatParts h) h (fun x63 x64 p66 h g65 => ?_)
      have h := h g65
      have K := k8_tr K p66.2
      have o24 := gr_ob p66.2.1 o24
      have o49 := gr_ob p66.2.1 o49
      intro x68 e67
      have h := h x68 e67
      intro x70 e69
      have h := h x70 e69
      refine cm_X9_fraction (kx_X9_fraction h) h (fun x71 x72 p74 h g73 => ?_)
      have h := h g73
      have K := k8_tr K p74.2
      have o24 := gr_ob p74.2.1 o24
      have o49 := gr_ob p74.2.1 o49
      exact ⟨h, K⟩
    · intro c75
      have h := h.2 c75
      exact kx_X9_wetness_27 h K
theorem kx_X9_wetness {Q : Int64 → HS → Prop} {v0 : Nat} {v1 : Int32} {S : HS} (h : P_X9_wetness v0 v1 Q S) : P_X9_wetness v0 v1 (fun r T => Q r T ∧ K8 S T) S := kx_X9_wetness_0 h (k8_rf S)
set_option maxRecDepth 20000 in
set_option maxHeartbeats 1000000 in
theorem kx_X9_world_12 {Q : Int32 → HS → Prop} {v0 : Nat} {S0 S : HS} (h : P_X9_world_12 Q v0 S) (K : K8 S0 S) : P_X9_world_12 (fun r T => Q r T ∧ K8 S0 T) v0 S := by
  delta P_X9_world_12 at h ⊢
  obtain ⟨c1, h⟩ := h
  refine ⟨c1, ?_⟩
  have n2 := k8_nk K c1 (by decide)
  refine cm_X9_refuse (kx_X9_refuse h) h (fun x3 x4 p6 h g5 => ?_)
  have h := h g5
  have K := k8_tr K p6.2
  exact ⟨h, K⟩
set_option maxRecDepth 20000 in
set_option maxHeartbeats 1000000 in
theorem kx_X9_world_0 {Q : Int32 → HS → Prop} {v0 : Nat} {v1 : Int32} {S0 S : HS} (h : P_X9_world_0 Q v0 v1 S) (K : K8 S0 S) : P_X9_world_0 (fun r T => Q r T ∧ K8 S0 T) v0 v1 S := by
  delta P_X9_world_0 at h ⊢
  refine ⟨?_, ?_⟩
  · intro c1
    have h := h.1 c1
    exact kx_X9_world_12 h K
  · intro c2
    have h := h.2 c2
    obtain ⟨c3, h⟩ := h
    refine ⟨c3, ?_⟩
    have n4 := k8_nk K c3 (by decide)
    have o5 := c3
    intro x7 e6
    have h := h x7 e6
    refine ⟨?_, ?_⟩
    · intro c8
      have h := h.1 c8
      obtain ⟨b9, e10, h⟩ := h
      refine ⟨b9, e10, ?_⟩
      obtain ⟨b11, e12, h⟩ := h
      refine ⟨b11, e12, ?_⟩
      obtain ⟨c13, h⟩ := h
      refine ⟨c13, ?_⟩
      have n14 := k8_nk K c13 (by decide)
      have o15 := c13
      refine cm_X4_read (kx_X4_read h) h (fun x16 x17 p20 h g18 g19 => ?_)
      have h := h g18 g19
      have K := k8_tr K p20.2
      have o5 := gr_ob p20.2.1 o5
      have o15 := gr_ob p20.2.1 o15
      intro x22 e21
      have h := h x22 e21
      have K := k8_I K e21 n4
      have o5 := ob_wI o5 e21
      have o15 := ob_wI o15 e21
      obtain ⟨b23, e24, h⟩ := h
      refine ⟨b23, e24, ?_⟩
      obtain ⟨c25, h⟩ := h
      refine ⟨c25, ?_⟩
      have n26 := k8_nk K c25 (by decide)
      have o27 := c25
      intro x29 e28
      have h := h x29 e28
      intro x31 e30
      have h := h x31 e30
      have K := k8_I K e30 n4
      have o5 := ob_wI o5 e30
      have o15 := ob_wI o15 e30
      have o27 := ob_wI o27 e30
      obtain ⟨b32, e33, h⟩ := h
      refine ⟨b32, e33, ?_⟩
      obtain ⟨c34, h⟩ := h
      refine ⟨c34, ?_⟩
      have n35 := k8_nk K c34 (by decide)
      have o36 := c34
      intro x38 e37
      have h := h x38 e37
      intro x40 e39
      have h := h x40 e39
      have K := k8_I K e39 n4
      have o5 := ob_wI o5 e39
      have o15 := ob_wI o15 e39
      have o27 := ob_wI o27 e39
      have o36 := ob_wI o36 e39
      refine ⟨?_, ?_⟩
      · intro c41
        have h := h.1 c41
        obtain ⟨b42, e43, h⟩ := h
        refine ⟨b42, e43, ?_⟩
        obtain ⟨b44, e45, h⟩ := h
        refine ⟨b44, e45, ?_⟩
        obtain ⟨c46, h⟩ := h
        refine ⟨c46, ?_⟩
        have n47 := k8_nk K c46 (by decide)
        have o48 := c46
        refine cm_X4_exchange (kx_X4_exchange h) h (fun x49 x50 p52 h g51 => ?_)
        have h := h g51
        have K := k8_tr K p52.2
        have o5 := gr_ob p52.2.1 o5
        have o15 := gr_ob p52.2.1 o15
        have o27 := gr_ob p52.2.1 o27
        have o36 := gr_ob p52.2.1 o36
        have o48 := gr_ob p52.2.1 o48
        intro x54 e53
        have h := h x54 e53
        have K := k8_R K e53 o5 (by decide) (by decide)
        have o5 := ob_wR o5 e53
        have o15 := ob_wR o15 e53
        have o27 := ob_wR o27 e53
        have o36 := ob_wR o36 e53
        have o48 := ob_wR o48 e53
        obtain ⟨b55, e56, h⟩ := h
        refine ⟨b55, e56, ?_⟩
        obtain ⟨c57, h⟩ := h
        refine ⟨c57, ?_⟩
        have n58 := k8_nk K c57 (by decide)
        have o59 := c57
        refine cm_X7_forget (kx_X7_forget h) h (fun x60 p62 h g61 => ?_)
        have h := h g61
        have K := k8_tr K p62.2
        have o5 := gr_ob p62.2.1 o5
        have o15 := gr_ob p62.2.1 o15
        have o27 := gr_ob p62.2.1 o27
        have o36 := gr_ob p62.2.1 o36
        have o48 := gr_ob p62.2.1 o48
        have o59 := gr_ob p62.2.1 o59
        obtain ⟨b63, e64, h⟩ := h
        refine ⟨b63, e64, ?_⟩
        obtain ⟨c65, h⟩ := h
        refine ⟨c65, ?_⟩
        have n66 := k8_nk K c65 (by decide)
        refine cm_X0_end (kx_X0_end h) h (fun x67 p69 h g68 => ?_)
        have h := h g68
        have K := k8_tr K p69.2
        have o5 := gr_ob p69.2.1 o5
        have o15 := gr_ob p69.2.1 o15
        have o27 := gr_ob p69.2.1 o27
        have o36 := gr_ob p69.2.1 o36
        have o48 := gr_ob p69.2.1 o48
        have o59 := gr_ob p69.2.1 o59
        obtain ⟨b70, e71, h⟩ := h
        refine ⟨b70, e71, ?_⟩
        obtain ⟨c72, h⟩ := h
        refine ⟨c72, ?_⟩
        have n73 := k8_nk K c72 (by decide)
        have o74 := c72
        intro x76 e75
        have h := h x76 e75
        refine cm_X9_grant (kx_X9_grant h) h (fun x77 x78 p80 h g79 => ?_)
        have h := h g79
        have K := k8_tr K p80.2
        have o5 := gr_ob p80.2.1 o5
        have o15 := gr_ob p80.2.1 o15
        have o27 := gr_ob p80.2.1 o27
        have o36 := gr_ob p80.2.1 o36
        have o48 := gr_ob p80.2.1 o48
        have o59 := gr_ob p80.2.1 o59
        have o74 := gr_ob p80.2.1 o74
        exact ⟨h, K⟩
      · intro c81
        have h := h.2 c81
        refine cm_X9_refuse (kx_X9_refuse h) h (fun x82 x83 p85 h g84 => ?_)
        have h := h g84
        have K := k8_tr K p85.2
        have o5 := gr_ob p85.2.1 o5
        have o15 := gr_ob p85.2.1 o15
        have o27 := gr_ob p85.2.1 o27
        have o36 := gr_ob p85.2.1 o36
        exact ⟨h, K⟩
    · intro c86
      have h := h.2 c86
      exact kx_X9_world_12 h K
theorem kx_X9_world {Q : Int32 → HS → Prop} {v0 : Nat} {v1 : Int32} {S : HS} (h : P_X9_world v0 v1 Q S) : P_X9_world v0 v1 (fun r T => Q r T ∧ K8 S T) S := kx_X9_world_0 h (k8_rf S)
set_option maxRecDepth 20000 in
set_option maxHeartbeats 1000000 in
theorem kx_X9_worst_0 {Q : Int32 → HS → Prop} {v0 : Nat} {v1 : Int32} {v2 : Int32} {v3 : Int32} {v4 : Int32} {S0 S : HS} (h : P_X9_worst_0 Q v0 v1 v2 v3 v4 S) (K : K8 S0 S) : P_X9_worst_0 (fun r T => Q r T ∧ K8 S0 T) v0 v1 v2 v3 v4 S := by
  delta P_X9_worst_0 at h ⊢
  obtain ⟨c1, h⟩ := h
  refine ⟨c1, ?_⟩
  have n2 := k8_nk K c1 (by decide)
  refine cm_X9_tripTrouble (kx_X9_tripTrouble h) h (fun x3 x4 p6 h g5 => ?_)
  have h := h g5
  have K := k8_tr K p6.2
  refine cm_X9_refusedBy (kx_X9_refusedBy h) h (fun x7 x8 p11 h g9 g10 => ?_)
  have h := h g9 g10
  have K := k8_tr K p11.2
  refine ⟨?_, ?_⟩
  · intro c12
    have h := h.1 c12
    obtain ⟨b13, e14, h⟩ := h
    refine ⟨b13, e14, ?_⟩
    obtain ⟨b15, e16, h⟩ := h
    refine ⟨b15, e16, ?_⟩
    obtain ⟨c17, h⟩ := h
    refine ⟨c17, ?_⟩
    have n18 := k8_nk K c17 (by decide)
    have o19 := c17
    obtain ⟨b20, e21, h⟩ := h
    refine ⟨b20, e21, ?_⟩
    obtain ⟨c22, h⟩ := h
    refine ⟨c22, ?_⟩
    have n23 := k8_nk K c22 (by decide)
    obtain ⟨c24, h⟩ := h
    refine ⟨c24, ?_⟩
    obtain ⟨b25, e26, h⟩ := h
    refine ⟨b25, e26, ?_⟩
    obtain ⟨b27, e28, h⟩ := h
    refine ⟨b27, e28, ?_⟩
    obtain ⟨c29, h⟩ := h
    refine ⟨c29, ?_⟩
    have n30 := k8_nk K c29 (by decide)
    have o31 := c29
    obtain ⟨b32, e33, h⟩ := h
    refine ⟨b32, e33, ?_⟩
    obtain ⟨c34, h⟩ := h
    refine ⟨c34, ?_⟩
    have n35 := k8_nk K c34 (by decide)
    obtain ⟨c36, h⟩ := h
    refine ⟨c36, ?_⟩
    obtain ⟨b37, e38, h⟩ := h
    refine ⟨b37, e38, ?_⟩
    obtain ⟨b39, e40, h⟩ := h
    refine ⟨b39, e40, ?_⟩
    obtain ⟨c41, h⟩ := h
    refine ⟨c41, ?_⟩
    have n42 := k8_nk K c41 (by decide)
    have o43 := c41
    obtain ⟨b44, e45, h⟩ := h
    refine ⟨b44, e45, ?_⟩
    obtain ⟨c46, h⟩ := h
    refine ⟨c46, ?_⟩
    have n47 := k8_nk K c46 (by decide)
    obtain ⟨c48, h⟩ := h
    refine ⟨c48, ?_⟩
    obtain ⟨b49, e50, h⟩ := h
    refine ⟨b49, e50, ?_⟩
    obtain ⟨c51, h⟩ := h
    refine ⟨c51, ?_⟩
    have n52 := k8_nk K c51 (by decide)
    refine cm_X1_worstSpeed (kx_X1_worstSpeed h) h (fun x53 x54 p56 h g55 => ?_)
    have h := h g55
    have K := k8_tr K p56.2
    have o19 := gr_ob p56.2.1 o19
    have o31 := gr_ob p56.2.1 o31
    have o43 := gr_ob p56.2.1 o43
    exact ⟨h, K⟩
  · intro c57
    have h := h.2 c57
    exact ⟨h, K⟩
theorem kx_X9_worst {Q : Int32 → HS → Prop} {v0 : Nat} {v1 : Int32} {v2 : Int32} {v3 : Int32} {v4 : Int32} {S : HS} (h : P_X9_worst v0 v1 v2 v3 v4 Q S) : P_X9_worst v0 v1 v2 v3 v4 (fun r T => Q r T ∧ K8 S T) S := kx_X9_worst_0 h (k8_rf S)
end
section
/-! the two worlds side by side -/
abbrev elT : List (Nat × Nat × Nat) := [(6, 3, 6), (8, 5, 12), (9, 6, 4)]
def INJ (w : Nat) (S : HS) : Prop := ∀ q ∈ elT, ∀ ra, fR S w q.1 = some ra → ∀ i j o, i < q.2.2 → j < q.2.2 → fR S ra i = some o → fR S ra j = some o → i = j
def WOb (w : Nat) (S : HS) (b : Nat) : Prop := b = w ∨ (∃ j ∈ ([7, 10, 11] : List Nat), fR S w j = some b) ∨ ∃ j ∈ ([6, 8, 9] : List Nat), ∃ ra i, fR S w j = some ra ∧ fR S ra i = some b
def WOi (w : Nat) (S : HS) (b : Nat) : Prop := b = w ∨ (∃ j ∈ ([7, 10, 11] : List Nat), fR S w j = some b) ∨ ∃ q ∈ elT, ∃ ra i, fR S w q.1 = some ra ∧ i < q.2.2 ∧ fR S ra i = some b
def NWa (w : Nat) (S : HS) : Prop := ∀ fl ∈ ([7, 10, 11] : List Nat), ∀ d, fR S w fl = some d → NWq S d
def DJ2 (w u : Nat) (S : HS) : Prop := (∀ b, WOi w S b → WOb u S b → False) ∧ ∀ b, WOi u S b → WOb w S b → False
/-- the class's two worlds -/
def CJ (c r w1 w2 : Nat) (S : HS) : Prop := fR S c 2 = some w1 ∧ fR S c 3 = some r ∧ fR S r 5 = some w2 ∧ ob S c 9 ∧ ob S r 4 ∧ ob S w1 8 ∧ ob S w2 8 ∧ (INJ w1 S ∧ NWa w1 S) ∧ (INJ w2 S ∧ NWa w2 S) ∧ DJ2 w1 w2 S
section C16
variable {c r w w1 w2 m rd a : Nat} {A : AS} {G : GC} {S T U : HS} {wi wr : List (Nat × Nat)}
theorem el_ex (hI : IV S) (ow : ob S w 8) {q : Nat × Nat × Nat} (hq : q ∈ elT) : ∃ ra, fR S w q.1 = some ra ∧ 17 ≤ hK S ra ∧ ra ∈ hL S ∧ ∀ i o, i < q.2.2 → fR S ra i = some o → ob S o q.2.1 := by
  simp only [List.mem_cons, List.not_mem_nil, or_false] at hq
  rcases hq with rfl | rfl | rfl
  · obtain ⟨ra, e, o, n⟩ := hI.1 (8, 6, 17, 6) (by decide) w ow
    refine ⟨ra, e, by rw [o.2]; decide, o.1, fun i b hi hb => ?_⟩
    obtain ⟨y, y1, y2⟩ := hI.2.1 17 (by decide) (by decide) ra o i (by rw [n.resolve_left (by decide)]; exact hi)
    cases y1.symm.trans hb
    exact y2
  · obtain ⟨ra, e, o, n⟩ := hI.1 (8, 8, 18, 12) (by decide) w ow
    refine ⟨ra, e, by rw [o.2]; decide, o.1, fun i b hi hb => ?_⟩
    obtain ⟨y, y1, y2⟩ := hI.2.1 18 (by decide) (by decide) ra o i (by rw [n.resolve_left (by decide)]; exact hi)
    cases y1.symm.trans hb
    exact y2
  · obtain ⟨ra, e, o, n⟩ := hI.1 (8, 9, 19, 4) (by decide) w ow
    refine ⟨ra, e, by rw [o.2]; decide, o.1, fun i b hi hb => ?_⟩
    obtain ⟨y, y1, y2⟩ := hI.2.1 19 (by decide) (by decide) ra o i (by rw [n.resolve_left (by decide)]; exact hi)
    cases y1.symm.trans hb
    exact y2
theorem d_ex (hI : IV S) (ow : ob S w 8) {fl : Nat} (hq : fl ∈ ([7, 10, 11] : List Nat)) : ∃ d, fR S w fl = some d ∧ ob S d 13 ∧ hN S d = (if fl = 7 then 8 else if fl = 10 then 4 else 20) := by
  simp only [List.mem_cons, List.not_mem_nil, or_false] at hq
  rcases hq with rfl | rfl | rfl
  · obtain ⟨d, e, o, n⟩ := hI.1 (8, 7, 13, 8) (by decide) w ow
    exact ⟨d, e, o, n.resolve_left (by decide)⟩
  · obtain ⟨d, e, o, n⟩ := hI.1 (8, 10, 13, 4) (by decide) w ow
    exact ⟨d, e, o, n.resolve_left (by decide)⟩
  · obtain ⟨d, e, o, n⟩ := hI.1 (8, 11, 13, 20) (by decide) w ow
    exact ⟨d, e, o, n.resolve_left (by decide)⟩
theorem wk_of (hI : IV S) (ow : ob S w 8) (inj : INJ w S) : WKd w S ∧ WKr w S := by
  refine ⟨⟨fun q hq => ?_, fun fl hf => ?_, fun f1 f2 d h1 h2 e1 e2 => ?_⟩, fun fl hf ra e => ?_⟩
  · obtain ⟨ra, e, -, -, k⟩ := el_ex hI ow hq
    exact ⟨ra, e, k, inj q hq ra e⟩
  · obtain ⟨d, e, o, -⟩ := d_ex hI ow hf
    exact ⟨d, e, o⟩
  · obtain ⟨d1, g1, -, n1⟩ := d_ex hI ow h1
    obtain ⟨d2, g2, -, n2⟩ := d_ex hI ow h2
    cases g1.symm.trans e1
    cases g2.symm.trans e2
    rw [n1] at n2
    simp only [List.mem_cons, List.not_mem_nil, or_false] at h1 h2
    rcases h1 with rfl | rfl | rfl <;> rcases h2 with rfl | rfl | rfl <;> first | rfl | (exact absurd n2 (by decide))
  · have hf2 : ∃ q ∈ elT, q.1 = fl := by
      simp only [List.mem_cons, List.not_mem_nil, or_false] at hf
      rcases hf with rfl | rfl | rfl
      · exact ⟨(6, 3, 6), by decide, rfl⟩
      · exact ⟨(8, 5, 12), by decide, rfl⟩
      · exact ⟨(9, 6, 4), by decide, rfl⟩
    obtain ⟨q, hq, rfl⟩ := hf2
    obtain ⟨ra', e', k1, k2, -⟩ := el_ex hI ow hq
    cases e'.symm.trans e
    exact ⟨k1, k2⟩
/-- of what kinds a world's things are -/
theorem woi_k (hI : IV S) (ow : ob S w 8) {b : Nat} (h : WOi w S b) : (ob S b 8 ∨ ob S b 3 ∨ ob S b 5 ∨ ob S b 6) ∨ (ob S b 13 ∧ ∃ fl ∈ ([7, 10, 11] : List Nat), fR S w fl = some b) := by
  rcases h with rfl | ⟨j, hj, e⟩ | ⟨q, hq, ra, i, e, hi, eb⟩
  · exact Or.inl (Or.inl ow)
  · obtain ⟨d, e', o, -⟩ := d_ex hI ow hj
    cases e'.symm.trans e
    exact Or.inr ⟨o, j, hj, e⟩
  · obtain ⟨ra', e', -, -, k⟩ := el_ex hI ow hq
    cases e'.symm.trans e
    have o := k i b hi eb
    simp only [List.mem_cons, List.not_mem_nil, or_false] at hq
    rcases hq with rfl | rfl | rfl
    · exact Or.inl (Or.inr (Or.inl o))
    · exact Or.inl (Or.inr (Or.inr (Or.inl o)))
    · exact Or.inl (Or.inr (Or.inr (Or.inr o)))
/-- joints that stay: of worlds and of rows of things -/
def FW (S T : HS) : Prop := (∀ x, ob S x 8 → ∀ j ∈ ([6, 7, 8, 9, 10, 11] : List Nat), fR T x j = fR S x j) ∧ ∀ x, x ∈ hL S → 17 ≤ hK S x → fR T x = fR S x
theorem inj_mv (hI : IV S) (ow : ob S w 8) (F : FW S T) (h : INJ w S) : INJ w T := by
  intro q hq ra e i j o hi hj h1 h2
  have hm : q.1 ∈ ([6, 7, 8, 9, 10, 11] : List Nat) := by
    simp only [List.mem_cons, List.not_mem_nil, or_false] at hq
    rcases hq with rfl | rfl | rfl <;> decide
  rw [F.1 w ow q.1 hm] at e
  obtain ⟨ra', e', k1, k2, -⟩ := el_ex hI ow hq
  cases e'.symm.trans e
  rw [F.2 ra k2 k1] at h1 h2
  exact h q hq ra e i j o hi hj h1 h2
theorem woi_mv (hI : IV S) (ow : ob S w 8) (F : FW S T) {b : Nat} : WOi w T b ↔ WOi w S b := by
  have f7 : ∀ j ∈ ([7, 10, 11] : List Nat), fR T w j = fR S w j := fun j hj => F.1 w ow j (by
    simp only [List.mem_cons, List.not_mem_nil, or_false] at hj
    rcases hj with rfl | rfl | rfl <;> decide)
  have f6 : ∀ q ∈ elT, fR T w q.1 = fR S w q.1 := fun q hq => F.1 w ow q.1 (by
    simp only [List.mem_cons, List.not_mem_nil, or_false] at hq
    rcases hq with rfl | rfl | rfl <;> decide)
  have fr : ∀ q ∈ elT, ∀ ra, fR S w q.1 = some ra → fR T ra = fR S ra := fun q hq ra e => by
    obtain ⟨ra', e', k1, k2, -⟩ := el_ex hI ow hq
    cases e'.symm.trans e
    exact F.2 ra k2 k1
  constructor
  · rintro (h | ⟨j, hj, e⟩ | ⟨q, hq, ra, i, e, hi, eb⟩)
    · exact Or.inl h
    · exact Or.inr (Or.inl ⟨j, hj, by rw [← f7 j hj]; exact e⟩)
    · rw [f6 q hq] at e
      exact Or.inr (Or.inr ⟨q, hq, ra, i, e, hi, by rw [← fr q hq ra e]; exact eb⟩)
  · rintro (h | ⟨j, hj, e⟩ | ⟨q, hq, ra, i, e, hi, eb⟩)
    · exact Or.inl h
    · exact Or.inr (Or.inl ⟨j, hj, by rw [f7 j hj]; exact e⟩)
    · exact Or.inr (Or.inr ⟨q, hq, ra, i, by rw [f6 q hq]; exact e, hi, by rw [fr q hq ra e]; exact eb⟩)
theorem wob_mv (hI : IV S) (ow : ob S w 8) (F : FW S T) {b : Nat} (h : WOb w T b) : WOb w S b := by
  rcases h with h | ⟨j, hj, e⟩ | ⟨j, hj, ra, i, e, eb⟩
  · exact Or.inl h
  · refine Or.inr (Or.inl ⟨j, hj, ?_⟩)
    rw [← F.1 w ow j (by
      simp only [List.mem_cons, List.not_mem_nil, or_false] at hj
      rcases hj with rfl | rfl | rfl <;> decide)]
    exact e
  · have hf2 : ∃ q ∈ elT, q.1 = j := by
      simp only [List.mem_cons, List.not_mem_nil, or_false] at hj
      rcases hj with rfl | rfl | rfl
      · exact ⟨(6, 3, 6), by decide, rfl⟩
      · exact ⟨(8, 5, 12), by decide, rfl⟩
      · exact ⟨(9, 6, 4), by decide, rfl⟩
    obtain ⟨q, hq, rfl⟩ := hf2
    rw [F.1 w ow q.1 (by
      simp only [List.mem_cons, List.not_mem_nil, or_false] at hq
      rcases hq with rfl | rfl | rfl <;> decide)] at e
    obtain ⟨ra', e', k1, k2, -⟩ := el_ex hI ow hq
    cases e'.symm.trans e
    rw [F.2 ra k2 k1] at eb
    exact Or.inr (Or.inr ⟨q.1, hj, ra, i, e, eb⟩)
theorem nwa_mv (hI : IV S) (ow : ob S w 8) (F : FW S T) (hn : ∀ d, ob S d 13 → NWq S d → NWq T d) (h : NWa w S) : NWa w T := by
  intro fl hf d e
  rw [F.1 w ow fl (by
    simp only [List.mem_cons, List.not_mem_nil, or_false] at hf
    rcases hf with rfl | rfl | rfl <;> decide)] at e
  obtain ⟨d', e', o, -⟩ := d_ex hI ow hf
  cases e'.symm.trans e
  exact hn d o (h fl hf d e)
theorem cj_mv (hI : IV S) (g : Gr S T) (F : FW S T) (hn : ∀ d, ob S d 13 → NWq S d → NWq T d) (h : CJ c r w1 w2 S) (e2 : fR T c 2 = fR S c 2) (e3 : fR T c 3 = fR S c 3) (e5 : fR T r 5 = fR S r 5) : CJ c r w1 w2 T := by
  obtain ⟨h1, h2, h3, o1, o2, o3, o4, ⟨i1, n1⟩, ⟨i2, n2⟩, d1, d2⟩ := h
  exact ⟨e2.trans h1, e3.trans h2, e5.trans h3, gr_ob g o1, gr_ob g o2, gr_ob g o3, gr_ob g o4, ⟨inj_mv hI o3 F i1, nwa_mv hI o3 F hn n1⟩, ⟨inj_mv hI o4 F i2, nwa_mv hI o4 F hn n2⟩, fun b p q => d1 b ((woi_mv hI o3 F).mp p) (wob_mv hI o4 F q), fun b p q => d2 b ((woi_mv hI o4 F).mp p) (wob_mv hI o3 F q)⟩
/-- the two worlds changed places -/
theorem cj_sw (hI : IV S) (g : Gr S T) (F : FW S T) (hn : ∀ d, ob S d 13 → NWq S d → NWq T d) (h : CJ c r w1 w2 S) (e2 : fR T c 2 = some w2) (e3 : fR T c 3 = fR S c 3) (e5 : fR T r 5 = some w1) : CJ c r w2 w1 T := by
  obtain ⟨h1, h2, h3, o1, o2, o3, o4, ⟨i1, n1⟩, ⟨i2, n2⟩, d1, d2⟩ := h
  exact ⟨e2, e3.trans h2, e5, gr_ob g o1, gr_ob g o2, gr_ob g o4, gr_ob g o3, ⟨inj_mv hI o4 F i2, nwa_mv hI o4 F hn n2⟩, ⟨inj_mv hI o3 F i1, nwa_mv hI o3 F hn n1⟩, fun b p q => d2 b ((woi_mv hI o4 F).mp p) (wob_mv hI o3 F q), fun b p q => d1 b ((woi_mv hI o3 F).mp p) (wob_mv hI o4 F q)⟩
/-- what was told stays told, where the world's things stay -/
theorem ctb_mv {B S' : HS} (hI : IV S) (ow : ob S w 8) (ab : ABd A) (e8 : ∀ j ∈ ([6, 7, 8, 9, 10, 11] : List Nat), fR B w j = fR S w j) (er : ∀ x, x ∈ hL S → 17 ≤ hK S x → fR B x = fR S x) (e8' : ∀ j ∈ ([6, 7, 8, 9, 10, 11] : List Nat), fR T w j = fR S w j) (er' : ∀ x, x ∈ hL S → 17 ≤ hK S x → fR T x = fR S x) (hb : ∀ b, WOi w S b → fI T b = fI S' b) (h : CtB w A G B S') : CtB w A G T T := by
  obtain ⟨h1, h2, h3, h4, h5⟩ := h
  have el : ∀ fl k M N cnt g, (fl, k, M) ∈ elT → fl ∈ ([6, 7, 8, 9, 10, 11] : List Nat) → cnt ≤ M → ElC fl N w cnt g B S' → ElC fl N w cnt g T T := by
    intro fl k M N cnt g hq hm hc h ra e i hi
    rw [e8' fl hm] at e
    obtain ⟨ra', e', k1, k2, -⟩ := el_ex hI ow hq
    cases e'.symm.trans e
    obtain ⟨o, q1, q2⟩ := h ra (by rw [e8 fl hm]; exact e) i hi
    rw [er ra k2 k1] at q1
    refine ⟨o, by rw [er' ra k2 k1]; exact q1, fun j hj => ?_⟩
    rw [hb o (Or.inr (Or.inr ⟨(fl, k, M), hq, ra, i, e, by show i < M; omega, q1⟩))]
    exact q2 j hj
  refine ⟨el 6 3 6 5 _ _ (by decide) (by decide) ab.2.1 h1, fun d e i hi => ?_, el 8 5 12 5 _ _ (by decide) (by decide) ab.2.2.2.1 h3, el 9 6 4 7 _ _ (by decide) (by decide) ab.2.2.2.2.1 h4, fun sw sf e1 e2 i hi => ?_⟩
  · rw [e8' 7 (by decide)] at e
    rw [hb d (Or.inr (Or.inl ⟨7, by decide, e⟩))]
    exact h2 d (by rw [e8 7 (by decide)]; exact e) i hi
  · rw [e8' 10 (by decide)] at e1
    rw [e8' 11 (by decide)] at e2
    rw [hb sw (Or.inr (Or.inl ⟨10, by decide, e1⟩)), hb sf (Or.inr (Or.inl ⟨11, by decide, e2⟩))]
    exact h5 sw sf (by rw [e8 10 (by decide)]; exact e1) (by rw [e8 11 (by decide)]; exact e2) i hi
/-- the reference's world, as told -/
def WRm (m rd : Nat) (A : AS) (G : GC) (S : HS) : Prop := fR S m 3 = some rd ∧ ob S rd 10 ∧ Cnt rd A S ∧ CtM rd A G S ∧ DMr m rd S ∧ ∀ i b, 7 ≤ i → i ≤ 27 → fR S rd i = some b → (ob S b 13 ∨ ob S b 15) ∧ NW8 S b
/-- both worlds tell the same -/
def WRa (c m : Nat) (A : AS) (G : GC) (S : HS) : Prop := ∃ r w1 w2, CJ c r w1 w2 S ∧ Cnt w1 A S ∧ CtB w1 A G S S ∧ ABd A ∧ ((fR S m 3 = none ∧ A = A00) ∨ ∃ rd, WRm m rd A G S)
end C16
/-! the two worlds stay alike -/
section C17
variable {c r w w1 w2 m rd a : Nat} {A : AS} {G : GC} {S T U : HS} {wi wr : List (Nat × Nat)}
abbrev keR : List (Nat × Nat) := [(9, 2), (9, 3), (4, 5), (8, 6), (8, 7), (8, 8), (8, 9), (8, 10), (8, 11), (11, 3)]
abbrev keI : List (Nat × Nat) := [(3, 0), (3, 1), (3, 2), (3, 3), (3, 4), (5, 0), (5, 1), (5, 2), (5, 3), (5, 4), (6, 0), (6, 1), (6, 2), (6, 3), (6, 4), (6, 5), (6, 6), (8, 0), (8, 1), (8, 2), (8, 3), (8, 4), (8, 5), (10, 0), (10, 1), (10, 2), (10, 3), (10, 4), (10, 5)]
/-- field by field -/
theorem ctb_mv2 (hI : IV S) (ow : ob S w 8) (ab : ABd A) (F : FW S T) (hbe : ∀ q ∈ elT, ∀ b, ob S b q.2.1 → ∀ j, j < (if q.1 = 9 then 7 else 5) → fI T b j = fI S b j) (hbd : ∀ b, ob S b 13 → (∃ fl ∈ ([7, 10, 11] : List Nat), fR S w fl = some b) → fI T b = fI S b) (h : CtB w A G S S) : CtB w A G T T := by
  obtain ⟨h1, h2, h3, h4, h5⟩ := h
  have el : ∀ fl k M N cnt g, (fl, k, M) ∈ elT → fl ∈ ([6, 7, 8, 9, 10, 11] : List Nat) → cnt ≤ M → N = (if fl = 9 then 7 else 5) → ElC fl N w cnt g S S → ElC fl N w cnt g T T := by
    intro fl k M N cnt g hq hm hc hN h ra e i hi
    rw [F.1 w ow fl hm] at e
    obtain ⟨ra', e', k1, k2, k3⟩ := el_ex hI ow hq
    cases e'.symm.trans e
    obtain ⟨o, q1, q2⟩ := h ra e i hi
    refine ⟨o, by rw [F.2 ra k2 k1]; exact q1, fun j hj => ?_⟩
    rw [hbe (fl, k, M) hq o (k3 i o (by show i < M; omega) q1) j (by rw [← hN]; exact hj)]
    exact q2 j hj
  have dd : ∀ fl ∈ ([7, 10, 11] : List Nat), ∀ d, fR S w fl = some d → fI T d = fI S d := fun fl hf d e => by
    obtain ⟨d', e', o, -⟩ := d_ex hI ow hf
    cases e'.symm.trans e
    exact hbd d o ⟨fl, hf, e⟩
  refine ⟨el 6 3 6 5 _ _ (by decide) (by decide) ab.2.1 rfl h1, fun d e i hi => ?_, el 8 5 12 5 _ _ (by decide) (by decide) ab.2.2.2.1 rfl h3, el 9 6 4 7 _ _ (by decide) (by decide) ab.2.2.2.2.1 rfl h4, fun sw sf e1 e2 i hi => ?_⟩
  · rw [F.1 w ow 7 (by decide)] at e
    rw [dd 7 (by decide) d e]
    exact h2 d e i hi
  · rw [F.1 w ow 10 (by decide)] at e1
    rw [F.1 w ow 11 (by decide)] at e2
    rw [dd 10 (by decide) sw e1, dd 11 (by decide) sf e2]
    exact h5 sw sf e1 e2 i hi
theorem cnt_f (h : Cnt w A S) (e : ∀ j, j < 6 → fI T w j = fI S w j) : Cnt w A T := by
  unfold Cnt
  rw [e 0 (by decide), e 1 (by decide), e 2 (by decide), e 3 (by decide), e 4 (by decide), e 5 (by decide)]
  exact h
theorem wrm_mv (g : Gr S T) (h : WRm m rd A G S) (e3 : fR T m 3 = fR S m 3) (er : ∀ i, i < 31 → fR T rd i = fR S rd i) (ei : ∀ j, j < 6 → fI T rd j = fI S rd j) (ea : ∀ b, (ob S b 13 ∨ ob S b 15) → NW8 S b → fI T b = fI S b ∧ NW8 T b) : WRm m rd A G T := by
  obtain ⟨h1, h2, h3, h4, h5, h6⟩ := h
  refine ⟨e3.trans h1, gr_ob g h2, cnt_f h3 ei, fun i b i1 i2 e z hz => ?_, ⟨fun i b i1 i2 e => ?_, fun i j b i1 i2 j1 j2 e e' => ?_⟩, fun i b i1 i2 e => ?_⟩
  · rw [er i (by omega)] at e
    have q := h6 i b i1 i2 e
    rw [(ea b q.1 q.2).1]
    exact h4 i b i1 i2 e z hz
  · rw [er i (by omega)] at e
    exact h5.1 i b i1 i2 e
  · rw [er i (by omega)] at e
    rw [er j (by omega)] at e'
    exact h5.2 i j b i1 i2 j1 j2 e e'
  · rw [er i (by omega)] at e
    have q := h6 i b i1 i2 e
    exact ⟨q.1.elim (fun o => Or.inl (gr_ob g o)) (fun o => Or.inr (gr_ob g o)), (ea b q.1 q.2).2⟩
/-- any call but world keeps the worlds alike -/
theorem wr_keep (hI : IV S) (om : ob S m 11) (h : WRa c m A G S) (K : K7 S T) (K' : K8 S T) (F : FRI wi wr S T) (hR : ∀ q ∈ keR, q ∉ wr) (h10 : ∀ i, i < 31 → (10, i) ∉ wr) (hi : ∀ q ∈ keI, q ∉ wi) : WRa c m A G T := by
  obtain ⟨r, w1, w2, J, h1, h2, h3, h4⟩ := h
  have FWf : FW S T := ⟨fun x ox j hj => F.2 8 j (by decide) (hR (8, j) (by
    simp only [List.mem_cons, List.not_mem_nil, or_false] at hj
    rcases hj with rfl | rfl | rfl | rfl | rfl | rfl <;> decide)) x ox, fun x hx hk => K.2.1 x (hK S x) hk ⟨hx, rfl⟩⟩
  have o1 := J.2.2.2.2.2.1
  refine ⟨r, w1, w2, cj_mv hI K.1 FWf (fun d o n => (K.2.2 d ⟨Or.inl o, n⟩).2) J (F.2 9 2 (by decide) (hR _ (by decide)) c J.2.2.2.1) (F.2 9 3 (by decide) (hR _ (by decide)) c J.2.2.2.1) (F.2 4 5 (by decide) (hR _ (by decide)) r J.2.2.2.2.1), cnt_f h1 (fun j hj => F.1 8 j (by decide) (hi (8, j) (by
    match j, hj with
    | 0, _ => decide
    | 1, _ => decide
    | 2, _ => decide
    | 3, _ => decide
    | 4, _ => decide
    | 5, _ => decide
    | j + 6, hj => exact absurd hj (by omega))) w1 o1), ctb_mv2 hI o1 h3 FWf (fun q hq b ob_ j hj => ?_) (fun b ob_ hb => ?_) h2, h3, ?_⟩
  · simp only [List.mem_cons, List.not_mem_nil, or_false] at hq
    rcases hq with rfl | rfl | rfl
    · have hj : j < 5 := hj
      exact F.1 3 j (by decide) (hi (3, j) (by
        match j, hj with
        | 0, _ => decide
        | 1, _ => decide
        | 2, _ => decide
        | 3, _ => decide
        | 4, _ => decide
        | j + 5, hj => exact absurd hj (by omega))) b ob_
    · have hj : j < 5 := hj
      exact F.1 5 j (by decide) (hi (5, j) (by
        match j, hj with
        | 0, _ => decide
        | 1, _ => decide
        | 2, _ => decide
        | 3, _ => decide
        | 4, _ => decide
        | j + 5, hj => exact absurd hj (by omega))) b ob_
    · have hj : j < 7 := hj
      exact F.1 6 j (by decide) (hi (6, j) (by
        match j, hj with
        | 0, _ => decide
        | 1, _ => decide
        | 2, _ => decide
        | 3, _ => decide
        | 4, _ => decide
        | 5, _ => decide
        | 6, _ => decide
        | j + 7, hj => exact absurd hj (by omega))) b ob_
  · obtain ⟨fl, hf, e⟩ := hb
    exact (K.2.2 b ⟨Or.inl ob_, J.2.2.2.2.2.2.2.1.2 fl hf b e⟩).1
  · have e3 := F.2 11 3 (by decide) (hR _ (by decide)) m om
    rcases h4 with ⟨n, hA⟩ | ⟨rd, hm⟩
    · exact Or.inl ⟨e3.trans n, hA⟩
    · refine Or.inr ⟨rd, wrm_mv K.1 hm e3 (fun i hi' => F.2 10 i (by decide) (h10 i hi') rd hm.2.1) (fun j hj => F.1 10 j (by decide) (hi (10, j) (by
        match j, hj with
        | 0, _ => decide
        | 1, _ => decide
        | 2, _ => decide
        | 3, _ => decide
        | 4, _ => decide
        | 5, _ => decide
        | j + 6, hj => exact absurd hj (by omega))) rd hm.2.1) (fun b o n => K'.2.2 b ⟨o, n⟩)⟩
end C17
/-! world(n) on both sides, with all that was told -/
/-- what world(n) comes to: all that was told, or nothing -/
noncomputable def RWs (f : Nat → Int32) (n : Nat) : Option (AS × GC) := match sAll f n 1000 0 A00 with
  | .inl A => some (A, gAll f n 1000 0 A00 G00)
  | .inr _ => none
noncomputable def RWo (f : Nat → Int32) (t : Nat) (v1 : Int32) : Option (AS × GC) := dc (v1 < 0 ∨ nI t < v1) none (RWs f v1.toNatClampNeg)
def WCe (c r w1 w2 : Nat) (S : HS) (R : Option (AS × GC)) (T : HS) : Prop := match R with
  | none => CJ c r w1 w2 T ∧ ∀ b, WOi w1 S b → fI T b = fI S b
  | some p => CJ c r w2 w1 T ∧ Cnt w2 p.1 T ∧ CtB w2 p.1 p.2 T T ∧ ABd p.1
def WMe (m : Nat) (S : HS) (R : Option (AS × GC)) (T : HS) : Prop := (∀ b, b ∈ hL S → b ≠ m → fI T b = fI S b ∧ fR T b = fR S b) ∧ (∀ j, j ≠ 3 → j ≠ 4 → fR T m j = fR S m j) ∧ (∀ x, x ∈ hL T → x ∈ hL S ∨ hK T x = 10 ∨ (12 ≤ hK T x ∧ hK T x < 16)) ∧ match R with
  | none => fR T m 3 = fR S m 3
  | some p => ∃ rd, fR T m 3 = some rd ∧ rd ∉ hL S ∧ ob T rd 10 ∧ CtM rd p.1 p.2 T ∧ Cnt rd p.1 T ∧ DMr m rd T ∧ ∀ i b, fR T rd i = some b → b ∉ hL S
section C18
variable {c r w w1 w2 m rd a t : Nat} {f : Nat → Int32} {v1 : Int32} {A : AS} {G : GC} {S T U : HS} {wi wr : List (Nat × Nat)} {Q : Int32 → HS → Prop}
theorem rw_bad (h : v1 < 0 ∨ nI t < v1) : RWo f t v1 = none := dc_y h
theorem rw_ok {n : Nat} (ht : t ≤ 900) (hn : n ≤ t) (hv : v1 = nI n) : RWo f t v1 = RWs f n := by
  unfold RWo
  rw [dc_n (no_bad ht n hn hv), hv, nI_cl (by omega)]
/-- a world's things are not the reader's own -/
theorem woi_no {nm nd : Nat} (hI : IV S) (J : CJ c r w1 w2 S) (h11 : fR S r 11 = some nm) (h12 : fR S r 12 = some nd) (onm : ob S nm 14) (ond : ob S nd 13) (dst : DSt w1 nd S) {b : Nat} (h : WOi w1 S b) : ¬ OwS_C r (sR S r 2 (some a)) b := by
  obtain ⟨j1, j2, j3, oc, orr, o1, o2, ⟨i1, n1⟩, ⟨i2, n2⟩, d1, d2⟩ := J
  have hne : ∀ x j, ¬ (x = r ∧ j = 2) → fR (sR S r 2 (some a)) x j = fR S x j := fun x j hx => u2_ne _ _ hx
  have kb := woi_k hI o1 h
  intro z
  rcases z with z | ⟨w, e, z⟩ | ⟨j, hj, e⟩
  · subst z
    rcases kb with (k | k | k | k) | ⟨k, -⟩ <;> exact absurd (ob_inj k orr) (by decide)
  · rw [hne r 5 (fun q => absurd q.2 (by decide))] at e
    cases j3.symm.trans e
    have nwr : w2 ≠ r := ob_ne o2 orr (by decide)
    refine d1 b h ?_
    rcases z with z | ⟨j, hj, e1⟩ | ⟨j, hj, ra, i, e1, e2⟩
    · exact Or.inl z
    · rw [hne w2 j (fun q => nwr q.1)] at e1
      exact Or.inr (Or.inl ⟨j, hj, e1⟩)
    · rw [hne w2 j (fun q => nwr q.1)] at e1
      have hra := (wk_of hI o2 i2).2 j hj ra e1
      have nra : ra ≠ r := fun q => by
        rw [q, orr.2] at hra
        exact absurd hra.1 (by decide)
      rw [hne ra i (fun q => nra q.1)] at e2
      exact Or.inr (Or.inr ⟨j, hj, ra, i, e1, e2⟩)
  · rw [hne r j (fun q => by
      rw [q.2] at hj
      exact absurd hj (by decide))] at e
    simp only [List.mem_cons, List.not_mem_nil, or_false] at hj
    rcases hj with rfl | rfl
    · cases h11.symm.trans e
      rcases kb with (k | k | k | k) | ⟨k, -⟩ <;> exact absurd (ob_inj k onm) (by decide)
    · cases h12.symm.trans e
      rcases kb with (k | k | k | k) | ⟨k, fl, hf, e3⟩
      · exact absurd (ob_inj k ond) (by decide)
      · exact absurd (ob_inj k ond) (by decide)
      · exact absurd (ob_inj k ond) (by decide)
      · exact absurd (ob_inj k ond) (by decide)
      · exact dst fl _ (by simpa using hf) e3 rfl
theorem dst_of (hI : IV S) (ow : ob S w 8) (orr : ob S r 4) {nd : Nat} (h12 : fR S r 12 = some nd) : DSt w nd S := by
  intro j b hj hb z
  obtain ⟨nd', e, -, n⟩ := hI.1 (4, 12, 13, 12) (by decide) r orr
  cases e.symm.trans h12
  obtain ⟨d, e', -, n'⟩ := d_ex hI ow (fl := j) (by simpa using hj)
  cases e'.symm.trans hb
  have n := n.resolve_left (by decide)
  rw [z, n] at n'
  rcases hj with rfl | rfl | rfl <;> exact absurd n' (by decide)
theorem ry_X9_world (hI : IV S) (P : TP 0 1 f t a c S) (ht : t ≤ 900) (J : CJ c r w1 w2 S) (h : P_X9_world c v1 Q S) : P_X9_world c v1 (fun x T => Q x T ∧ WCe c r w1 w2 S (RWo f t v1) T) S := by
  have J0 := J
  obtain ⟨j1, j2, j3, oc, orr, o1, o2, ⟨i1, n1⟩, ⟨i2, n2⟩, d1, d2⟩ := J0
  by_cases hb : v1 < 0 ∨ nI t < v1
  · rw [rw_bad hb]
    refine cm_X9_world (sp_X9_world_bad h (by rw [P.2.1]; exact hb)) h (fun x T hp h => ⟨h, ?_⟩)
    have e := hp.2.2
    have fr : fR T = fR S := by rw [e]; rfl
    refine ⟨cj_mv hI (by rw [e]; exact gr_rf S) ⟨fun x _ j _ => by rw [fr], fun x _ _ => by rw [fr]⟩ (fun d _ n => by rw [e]; exact n) J (by rw [fr]) (by rw [fr]) (by rw [fr]), fun b hb => ?_⟩
    refine row_o e (fun z => ?_)
    subst z
    rcases woi_k hI o1 hb with (k | k | k | k) | ⟨k, -⟩ <;> exact absurd (ob_inj k oc) (by decide)
  · obtain ⟨n, hn, hv⟩ := n_of ht (fun z => hb (Or.inl z)) (fun z => hb (Or.inr z))
    rw [rw_ok ht hn hv]
    obtain ⟨a', r', w', nm, nd, g1, g2, g3, g4, g5, g6⟩ := iv_rdy (f := f) (n := n) hI oc (by omega) (fun b hb j hj => by
      cases P.1.symm.trans hb
      exact P.2.2.2.2.2 j (by omega))
    cases j2.symm.trans g2
    have g3' := g3
    obtain ⟨r1, r2, r3, r11, r12, r5, p1, p2, p3, p4, p5⟩ := g3'
    cases j3.symm.trans r5
    have wk2 := wk_of hI o2 i2
    have hw := sq_X9_world_ok hI oc h hv g1 g2 g3 g4 wk2.1 wk2.2 g5 g6 (by
      rw [P.2.1]
      exact Int32.not_lt.mp (fun z => hb (Or.inr z)))
    have hk := cm_X9_world (kh_X9_world h) (kf_X9_world h) (Q3 := fun x T => Q x T ∧ KH S T ∧ Gr S T) (fun x T z y => ⟨z.1, z.2, y.2.1⟩)
    refine cm_X9_world hw hk (fun x T hp hq => ⟨hq.1, ?_⟩)
    obtain ⟨-, kh, gr⟩ := hq
    have hp := hp.2.2
    have nrc : r ≠ c := ob_ne orr oc (by decide)
    unfold RWs
    cases hR : sAll f n 1000 0 A00 with
    | inr e =>
      rw [hR] at hp
      obtain ⟨hp1, hp2⟩ := hp
      have FWf : FW S T := ⟨fun x ox j _ => hp2 x j (fun q => ob_ne ox orr (by decide) q.1), fun x hx hk => funext fun j => hp2 x j (fun q => by
        rw [q.1, orr.2] at hk
        exact absurd hk (by decide))⟩
      refine ⟨cj_mv hI gr FWf (fun d _ nd_ q hq x ox z => ?_) J (hp2 c 2 (fun q => nrc q.1.symm)) (hp2 c 3 (fun q => nrc q.1.symm)) (hp2 r 5 (fun q => absurd q.2 (by decide))), fun b hb => ?_⟩
      · have ox' : ob S x q.1 := ⟨by rw [← kh.1]; exact ox.1, by rw [← kh.2]; exact ox.2⟩
        have nk : q.1 ≠ 4 ∧ q.1 ≠ 9 := by
          simp only [List.mem_cons, List.not_mem_nil, or_false] at hq
          rcases hq with h | h | h | h | h | h | h | h <;> (rw [h]; decide)
        rw [hp2 x q.2 (fun y => ob_ne ox' orr nk.1 y.1)] at z
        exact nd_ q hq x ox' z
      · refine hp1 b (fun z => ?_) (woi_no hI J r11 r12 p3 p4 (dst_of hI o1 orr r12) hb)
        subst z
        rcases woi_k hI o1 hb with (k | k | k | k) | ⟨k, -⟩ <;> exact absurd (ob_inj k oc) (by decide)
    | inl A =>
      rw [hR] at hp
      obtain ⟨⟨V, v1', v2, v3, v4⟩, hp2, hp3, hp4, hp5, hp6⟩ := hp
      have FWf : FW S T := ⟨fun x ox j _ => hp2 x j (ob_ne ox oc (by decide)) (ob_ne ox orr (by decide)), fun x hx hk => funext fun j => hp2 x j (fun q => by
        rw [q, oc.2] at hk
        exact absurd hk (by decide)) (fun q => by
        rw [q, orr.2] at hk
        exact absurd hk (by decide))⟩
      refine ⟨cj_sw hI gr FWf (fun d _ nd_ q hq x ox z => ?_) J hp3 (hp4 3 (by decide)) (hp5.trans j1), ?_, ?_, v3⟩
      · have ox' : ob S x q.1 := ⟨by rw [← kh.1]; exact ox.1, by rw [← kh.2]; exact ox.2⟩
        have nk : q.1 ≠ 4 ∧ q.1 ≠ 9 := by
          simp only [List.mem_cons, List.not_mem_nil, or_false] at hq
          rcases hq with h | h | h | h | h | h | h | h <;> (rw [h]; decide)
        rw [hp2 x q.2 (ob_ne ox' oc nk.2) (ob_ne ox' orr nk.1)] at z
        exact nd_ q hq x ox' z
      · exact cn_row v2 (v4 w2 8 o2 (by decide) (by decide) (by decide))
      · have hne : ∀ x j, ¬ (x = r ∧ j = 2) → fR (sR S r 2 (some a')) x j = fR S x j := fun x j hx => u2_ne _ _ hx
        refine ctb_mv (S := S) hI o2 v3 (fun j _ => hne w2 j (fun q => ob_ne o2 orr (by decide) q.1)) (fun x hx hk => funext fun j => hne x j (fun q => by
          rw [q.1, orr.2] at hk
          exact absurd hk (by decide))) (fun j hj => FWf.1 w2 o2 j hj) (fun x hx hk => FWf.2 x hx hk) (fun b hb => ?_) v1'
        rcases woi_k hI o2 hb with (k | k | k | k) | ⟨k, -⟩
        · exact v4 b 8 k (by decide) (by decide) (by decide)
        · exact v4 b 3 k (by decide) (by decide) (by decide)
        · exact v4 b 5 k (by decide) (by decide) (by decide)
        · exact v4 b 6 k (by decide) (by decide) (by decide)
        · exact v4 b 13 k (by decide) (by decide) (by decide)
theorem ry_X11_world (P : TP 5 6 f t a m S) (ht : t ≤ 900) (hB : ∀ j, j < t → -128 ≤ (f j).toInt ∧ (f j).toInt ≤ 127) (h : P_X11_world m v1 Q S) : P_X11_world m v1 (fun x T => Q x T ∧ WMe m S (RWo f t v1) T) S := by
  by_cases hb : v1 < 0 ∨ nI t < v1
  · rw [rw_bad hb]
    refine cm_X11_world (sp_X11_world_bad h (by rw [P.2.1]; exact hb)) h (fun x T hp h => ⟨h, ?_⟩)
    have F := hp.2.2.1
    exact ⟨fun b _ hv => ⟨(F.2.2.2.2.1 b hv).1, by rw [F.2.2.2.1]⟩, fun j _ _ => by rw [F.2.2.2.1], fun x hx => Or.inl (by rw [← F.1]; exact hx), by rw [F.2.2.2.1]⟩
  · obtain ⟨n, hn, hv⟩ := n_of ht (fun z => hb (Or.inl z)) (fun z => hb (Or.inr z))
    rw [rw_ok ht hn hv]
    refine cm_X11_world (sq_X11_world_ok h hv (by omega) P.1 P.2.2.2.1 P.2.2.1 (fun j hj => P.2.2.2.2.2 j (by omega)) (fun j hj => hB j (by omega)) ?_) h (fun x T hp h => ⟨h, ?_⟩)
    · rw [P.2.1]
      exact Int32.not_lt.mp (fun z => hb (Or.inr z))
    obtain ⟨-, -, q1, q2, q3, q4⟩ := hp
    unfold RWs
    cases hR : sAll f n 1000 0 A00 with
    | inr e =>
      rw [hR] at q4
      exact ⟨q1, q2, q3, q4⟩
    | inl A =>
      rw [hR] at q4
      exact ⟨q1, q2, q3, q4⟩
end C18
/-! world on both sides keeps the worlds alike -/
section C19
variable {c r w w1 w2 m rd a t : Nat} {A : AS} {G : GC} {S T U : HS} {wi wr : List (Nat × Nat)} {R : Option (AS × GC)}
/-- what the reference's world(n) leaves of the rest -/
theorem me_x (e' : WMe m T R U) (g' : Gr T U) {x k : Nat} (ox : ob U x k) (hk : k ≠ 10 ∧ (k < 12 ∨ 16 ≤ k)) : ob T x k := by
  rcases e'.2.2.1 x ox.1 with z | z | z
  · exact ⟨z, (g' x z).2.1.symm.trans ox.2⟩
  · rw [ox.2] at z
    exact absurd z hk.1
  · rw [ox.2] at z
    omega
theorem me_f (om : ob T m 11) (e' : WMe m T R U) {x k j : Nat} (ox : ob T x k) (hj : k = 11 → j ≠ 3 ∧ j ≠ 4) : fR U x j = fR T x j := by
  by_cases z : x = m
  · subst z
    have := hj (ob_inj ox om)
    exact e'.2.1 j this.1 this.2
  · rw [(e'.1 x ox.1 z).2]
theorem me_nw (om : ob T m 11) (e' : WMe m T R U) (g' : Gr T U) (d : Nat) (h : NWq T d) : NWq U d := by
  intro q hq x ox z
  have hk : q.1 ≠ 10 ∧ (q.1 < 12 ∨ 16 ≤ q.1) ∧ (q.1 = 11 → q.2 ≠ 3 ∧ q.2 ≠ 4) := by
    simp only [List.mem_cons, List.not_mem_nil, or_false] at hq
    rcases hq with h | h | h | h | h | h | h | h <;> (rw [h]; decide)
  have oT := me_x e' g' ox ⟨hk.1, hk.2.1⟩
  rw [me_f om e' oT hk.2.2] at z
  exact h q hq x oT z
theorem nx_k {q : Nat × Nat} (hq : q ∈ nxT) : q.1 ≠ 10 ∧ (q.1 < 12 ∨ 16 ≤ q.1) ∧ (q.1 = 11 → q.2 ≠ 3 ∧ q.2 ≠ 4) := by
  simp only [List.mem_cons, List.not_mem_nil, or_false] at hq
  rcases hq with h | h | h | h | h | h | h | h | h | h | h | h <;> (rw [h]; decide)
theorem me_nw8 (om : ob T m 11) (e' : WMe m T R U) (g' : Gr T U) (d : Nat) (h : NW8 T d) : NW8 U d := by
  intro q hq x ox z
  have hk := nx_k hq
  have oT := me_x e' g' ox ⟨hk.1, hk.2.1⟩
  rw [me_f om e' oT hk.2.2] at z
  exact h q hq x oT z
theorem nx_in (hT : IV T) {q : Nat × Nat} (hq : q ∈ nxT) {x b : Nat} (ox : ob T x q.1) (e : fR T x q.2 = some b) : b ∈ hL T := by
  have hs : ∃ s ∈ shT, s.1 = q.1 ∧ s.2.1 = q.2 := by
    simp only [List.mem_cons, List.not_mem_nil, or_false] at hq
    rcases hq with rfl | rfl | rfl | rfl | rfl | rfl | rfl | rfl | rfl | rfl | rfl | rfl <;> decide
  obtain ⟨s, hs, h1, h2⟩ := hs
  obtain ⟨d, e1, e2, -⟩ := hT.1 s hs x (by rw [h1]; exact ox)
  rw [h2] at e1
  cases e1.symm.trans e
  exact e2.1
theorem rd_k (hU : IV U) (o : ob U rd 10) {i b : Nat} (h1 : 7 ≤ i) (h2 : i ≤ 27) (e : fR U rd i = some b) : ob U b 13 ∨ ob U b 15 := by
  have hs : ∀ i, i < 28 → 7 ≤ i → ∃ s ∈ shT, s.1 = 10 ∧ s.2.1 = i ∧ (s.2.2.1 = 13 ∨ s.2.2.1 = 15) := by decide
  obtain ⟨s, hs, q1, q2, q3⟩ := hs i (by omega) h1
  obtain ⟨d, e1, e2, -⟩ := hU.1 s hs rd (by rw [q1]; exact o)
  rw [q2] at e1
  cases e1.symm.trans e
  exact q3.elim (fun z => Or.inl (z ▸ e2)) (fun z => Or.inr (z ▸ e2))
/-- the class's side over the reference's world(n) -/
theorem cls_U (hT : IV T) (om : ob T m 11) (e' : WMe m T R U) (g' : Gr T U) (J : CJ c r w1 w2 T) (h1 : Cnt w1 A T) (h2 : CtB w1 A G T T) (ab : ABd A) : CJ c r w1 w2 U ∧ Cnt w1 A U ∧ CtB w1 A G U U := by
  have J0 := J
  obtain ⟨j1, j2, j3, oc, orr, o1, o2, -⟩ := J0
  have FWf : FW T U := ⟨fun x ox j _ => me_f om e' ox (fun z => absurd z (by decide)), fun x hx hk => funext fun j => me_f om e' (k := hK T x) ⟨hx, rfl⟩ (fun z => by
    rw [z] at hk
    exact absurd hk (by decide))⟩
  have row : ∀ b k, ob T b k → k ≠ 11 → fI U b = fI T b := fun b k ob_ hk => (e'.1 b ob_.1 (ob_ne ob_ om hk)).1
  refine ⟨cj_mv hT g' FWf (fun d _ n => me_nw om e' g' d n) J (me_f om e' oc (fun z => absurd z (by decide))) (me_f om e' oc (fun z => absurd z (by decide))) (me_f om e' orr (fun z => absurd z (by decide))), cn_row h1 (row w1 8 o1 (by decide)), ctb_mv (S := T) hT o1 ab (fun _ _ => rfl) (fun _ _ _ => rfl) (FWf.1 w1 o1) FWf.2 (fun b hb => ?_) h2⟩
  rcases woi_k hT o1 hb with (k | k | k | k) | ⟨k, -⟩
  · exact row b 8 k (by decide)
  · exact row b 3 k (by decide)
  · exact row b 5 k (by decide)
  · exact row b 6 k (by decide)
  · exact row b 13 k (by decide)
theorem wr_worldz (hI : IV S) (hT : IV T) (hU : IV U) (om : ob S m 11) (J : CJ c r w1 w2 S) (h1 : Cnt w1 A S) (h2 : CtB w1 A G S S) (h3 : ABd A) (h4 : (fR S m 3 = none ∧ A = A00) ∨ ∃ rd, WRm m rd A G S) (g : Gr S T) (K' : K8 S T) (F : FRI wi wr S T) (hR : (11, 3) ∉ wr) (h10 : ∀ i, i < 31 → (10, i) ∉ wr) (h10i : ∀ j, j < 6 → (10, j) ∉ wi) (hW8 : ∀ j ∈ ([6, 7, 8, 9, 10, 11] : List Nat), (8, j) ∉ wr) (g' : Gr T U) (e : WCe c r w1 w2 S R T) (e' : WMe m T R U) : ∃ A' G', WRa c m A' G' U ∧ ((R = none ∧ A' = A ∧ G' = G) ∨ R = some (A', G')) := by
  have omT := gr_ob g om
  have o1 := J.2.2.2.2.2.1
  cases R with
  | none =>
    obtain ⟨JT, rows⟩ := e
    have hw : fI T w1 = fI S w1 := rows w1 (Or.inl rfl)
    have oT := JT.2.2.2.2.2.1
    -- the joints of the world told are the same in T
    have c1 : Cnt w1 A T := cn_row h1 hw
    have FWf : (∀ j ∈ ([6, 7, 8, 9, 10, 11] : List Nat), fR T w1 j = fR S w1 j) ∧ ∀ x, x ∈ hL S → 17 ≤ hK S x → fR T x = fR S x := ⟨fun j hj => F.2 8 j (by decide) (hW8 j hj) w1 o1, fun x hx hk => K'.2.1 x (hK S x) hk ⟨hx, rfl⟩⟩
    have c2 : CtB w1 A G T T := ctb_mv (S := S) hI o1 h3 (fun _ _ => rfl) (fun _ _ _ => rfl) FWf.1 FWf.2 rows h2
    obtain ⟨q1, q2, q3⟩ := cls_U hT omT e' g' JT c1 c2 h3
    refine ⟨A, G, ⟨r, w1, w2, q1, q2, q3, h3, ?_⟩, Or.inl ⟨rfl, rfl, rfl⟩⟩
    have e3 : fR U m 3 = fR S m 3 := e'.2.2.2.trans (F.2 11 3 (by decide) hR m om)
    rcases h4 with ⟨n, hA⟩ | ⟨rd, hm⟩
    · exact Or.inl ⟨e3.trans n, hA⟩
    · have hmT : WRm m rd A G T := wrm_mv g hm (F.2 11 3 (by decide) hR m om) (fun i hi => F.2 10 i (by decide) (h10 i hi) rd hm.2.1) (fun j hj => F.1 10 j (by decide) (h10i j hj) rd hm.2.1) (fun b o n => K'.2.2 b ⟨o, n⟩)
      have nrm : rd ≠ m := ob_ne hmT.2.1 omT (by decide)
      exact Or.inr ⟨rd, wrm_mv g' hmT e'.2.2.2 (fun i _ => by rw [(e'.1 rd hmT.2.1.1 nrm).2]) (fun j _ => by rw [(e'.1 rd hmT.2.1.1 nrm).1]) (fun b o n => ⟨o.elim (fun o => (e'.1 b o.1 (ob_ne o omT (by decide))).1) (fun o => (e'.1 b o.1 (ob_ne o omT (by decide))).1), me_nw8 omT e' g' b n⟩)⟩
  | some p =>
    obtain ⟨JT, c1, c2, ab⟩ := e
    obtain ⟨q1, q2, q3⟩ := cls_U hT omT e' g' JT c1 c2 ab
    obtain ⟨rd, r1, r2, r3, r4, r5, r6, r7⟩ := e'.2.2.2
    refine ⟨p.1, p.2, ⟨r, w2, w1, q1, q2, q3, ab, Or.inr ⟨rd, r1, r3, r5, r4, r6, fun i b i1 i2 eb => ⟨rd_k hU r3 i1 i2 eb, fun q hq x ox z => ?_⟩⟩⟩, Or.inr rfl⟩
    have hk := nx_k hq
    have oT := me_x e' g' ox ⟨hk.1, hk.2.1⟩
    rw [me_f omT e' oT hk.2.2] at z
    exact r7 i b eb (nx_in hT hq oT z)
end C19
end
section
/-! what walker and road tell -/
section C20
variable {c m w : Nat} {A : AS} {G : GC} {S T : HS} {v1 v2 : Int32} {Q : Int32 → HS → Prop}
theorem sp_X8_hasWalker (hI : IV S) (ow : ob S w 8) (ab : ABd A) (hc : Cnt w A S) (h : P_X8_hasWalker w v1 Q S) : P_X8_hasWalker w v1 (fun x T => Q x T ∧ S = T ∧ ans (¬ v1 < 0 ∧ v1 < nI (aW A)) x) S := by
  delta P_X8_hasWalker P_X8_hasWalker_0
  refine ⟨fun c1 => ⟨h.1 c1, rfl, Or.inr ⟨fun z => z.1 c1, rfl⟩⟩, fun c1 => ?_⟩
  have h := h.2 c1
  obtain ⟨o, h⟩ := h
  refine ⟨o, fun x2 e2 => ?_⟩
  have h := h x2 e2
  have e2 := e2.trans hc.2.2.2.2.1
  refine ⟨fun c2 => ⟨h.1 c2, rfl, Or.inr ⟨fun z => ?_, rfl⟩⟩, fun c2 => ?_⟩
  · rw [e2] at c2
    exact absurd z.2 (Int32.not_lt.mpr c2)
  have h := h.2 c2
  obtain ⟨a4, e4, h⟩ := h
  refine ⟨a4, e4, ?_⟩
  obtain ⟨o4, h⟩ := h
  refine ⟨o4, ?_⟩
  rw [e2] at c2
  have c2 := Int32.not_le.mp c2
  obtain ⟨a5, e5, -, n5⟩ := hI.1 (8, 9, 19, 4) (by decide) w ow
  cases e5.symm.trans e4
  have n5 : hN S a4 = 4 := n5.resolve_left (by decide)
  refine ⟨fun c3 => ?_, fun c3 => ⟨h.2 c3, rfl, Or.inl ⟨⟨c1, c2⟩, rfl⟩⟩⟩
  rw [n5] at c3
  have q1 := le_i c3
  have q2 := lt_i c2
  have hb := ab.2.2.2.2.1
  rw [nI_i (by omega)] at q1 q2
  omega
theorem sp_X8_hasRoad (hI : IV S) (ow : ob S w 8) (ab : ABd A) (hc : Cnt w A S) (h : P_X8_hasRoad w v1 Q S) : P_X8_hasRoad w v1 (fun x T => Q x T ∧ S = T ∧ ans (¬ v1 < 0 ∧ v1 < nI (aR A)) x) S := by
  delta P_X8_hasRoad P_X8_hasRoad_0
  refine ⟨fun c1 => ⟨h.1 c1, rfl, Or.inr ⟨fun z => z.1 c1, rfl⟩⟩, fun c1 => ?_⟩
  have h := h.2 c1
  obtain ⟨o, h⟩ := h
  refine ⟨o, fun x2 e2 => ?_⟩
  have h := h x2 e2
  have e2 := e2.trans hc.2.2.2.1
  refine ⟨fun c2 => ⟨h.1 c2, rfl, Or.inr ⟨fun z => ?_, rfl⟩⟩, fun c2 => ?_⟩
  · rw [e2] at c2
    exact absurd z.2 (Int32.not_lt.mpr c2)
  have h := h.2 c2
  obtain ⟨a4, e4, h⟩ := h
  refine ⟨a4, e4, ?_⟩
  obtain ⟨o4, h⟩ := h
  refine ⟨o4, ?_⟩
  rw [e2] at c2
  have c2 := Int32.not_le.mp c2
  obtain ⟨a5, e5, -, n5⟩ := hI.1 (8, 8, 18, 12) (by decide) w ow
  cases e5.symm.trans e4
  have n5 : hN S a4 = 12 := n5.resolve_left (by decide)
  refine ⟨fun c3 => ?_, fun c3 => ⟨h.2 c3, rfl, Or.inl ⟨⟨c1, c2⟩, rfl⟩⟩⟩
  rw [n5] at c3
  have q1 := le_i c3
  have q2 := lt_i c2
  have hb := ab.2.2.2.1
  rw [nI_i (by omega)] at q1 q2
  omega
theorem sp_X11_isWalker (hm : (fR S m 3 = none ∧ A = A00) ∨ ∃ rd, WRm m rd A G S) (h : P_X11_isWalker m v1 Q S) : P_X11_isWalker m v1 (fun x T => Q x T ∧ S = T ∧ ans ((∃ rd, WRm m rd A G S) ∧ ¬ v1 < 0 ∧ v1 < nI (aW A)) x) S := by
  delta P_X11_isWalker P_X11_isWalker_0
  obtain ⟨o, h⟩ := h
  refine ⟨o, fun n => ⟨h.1 n, rfl, Or.inr ⟨fun z => ?_, rfl⟩⟩, fun a1 e1 => ?_⟩
  · obtain ⟨⟨rd, q⟩, -⟩ := z
    cases n.symm.trans q.1
  have h := h.2 a1 e1
  rcases hm with ⟨n, -⟩ | ⟨rd, hm⟩
  · cases n.symm.trans e1
  refine ⟨fun c1 => ⟨h.1 c1, rfl, Or.inr ⟨fun z => z.2.1 c1, rfl⟩⟩, fun c1 => ?_⟩
  have h := h.2 c1
  obtain ⟨a4, e4, h⟩ := h
  refine ⟨a4, e4, ?_⟩
  cases hm.1.symm.trans e4
  obtain ⟨o4, h⟩ := h
  refine ⟨o4, fun x5 e5 => ?_⟩
  have h := h x5 e5
  have e5 := e5.trans hm.2.2.1.2.2.2.2.1
  refine ⟨fun c2 => ⟨h.1 c2, rfl, Or.inr ⟨fun z => ?_, rfl⟩⟩, fun c2 => ⟨h.2 c2, rfl, Or.inl ⟨⟨⟨rd, hm⟩, c1, ?_⟩, rfl⟩⟩⟩
  · rw [e5] at c2
    exact absurd z.2.2 (Int32.not_lt.mpr c2)
  · rw [e5] at c2
    exact Int32.not_le.mp c2
theorem sp_X11_isRoad (hm : (fR S m 3 = none ∧ A = A00) ∨ ∃ rd, WRm m rd A G S) (h : P_X11_isRoad m v1 Q S) : P_X11_isRoad m v1 (fun x T => Q x T ∧ S = T ∧ ans ((∃ rd, WRm m rd A G S) ∧ ¬ v1 < 0 ∧ v1 < nI (aR A)) x) S := by
  delta P_X11_isRoad P_X11_isRoad_0
  obtain ⟨o, h⟩ := h
  refine ⟨o, fun n => ⟨h.1 n, rfl, Or.inr ⟨fun z => ?_, rfl⟩⟩, fun a1 e1 => ?_⟩
  · obtain ⟨⟨rd, q⟩, -⟩ := z
    cases n.symm.trans q.1
  have h := h.2 a1 e1
  rcases hm with ⟨n, -⟩ | ⟨rd, hm⟩
  · cases n.symm.trans e1
  refine ⟨fun c1 => ⟨h.1 c1, rfl, Or.inr ⟨fun z => z.2.1 c1, rfl⟩⟩, fun c1 => ?_⟩
  have h := h.2 c1
  obtain ⟨a4, e4, h⟩ := h
  refine ⟨a4, e4, ?_⟩
  cases hm.1.symm.trans e4
  obtain ⟨o4, h⟩ := h
  refine ⟨o4, fun x5 e5 => ?_⟩
  have h := h x5 e5
  have e5 := e5.trans hm.2.2.1.2.2.2.1
  refine ⟨fun c2 => ⟨h.1 c2, rfl, Or.inr ⟨fun z => ?_, rfl⟩⟩, fun c2 => ⟨h.2 c2, rfl, Or.inl ⟨⟨⟨rd, hm⟩, c1, ?_⟩, rfl⟩⟩⟩
  · rw [e5] at c2
    exact absurd z.2.2 (Int32.not_lt.mpr c2)
  · rw [e5] at c2
    exact Int32.not_le.mp c2
end C20
/-! the start -/
section C21a
variable {S S0 T : HS} {c m v0 : Nat} {QU : HS → Prop}
theorem sq_X11_init (h : P_X11_init v0 QU S) (E : S = nW S0 v0 11 0) : P_X11_init v0 (fun T => QU T ∧ ∃ F g, BX S T v0 F g ∧ (5, 12, 900) ∈ F ∧ g 6 = 0 ∧ g 13 = 0 ∧ g 2 = -1 ∧ g 1 = 0 ∧ ∀ e ∈ F, e.1 ≠ 3) S := by
  have hv : v0 ∈ hL S := by rw [E]; exact List.mem_append_right _ (List.mem_singleton.mpr rfl)
  have hz : fI S v0 = fun _ => 0 := by rw [E]; exact zero_new.2
  have b0 := bx_rf (S0 := S) (v := v0) (fun j b e => by rw [E, zero_new.1 j] at e; exact absurd e (by simp))
  rw [hz] at b0
  delta P_X11_init P_X11_init_0
  obtain ⟨oq1, h⟩ := h
  refine ⟨oq1, ?_⟩
  intro Sq2 eSq2
  have h := h Sq2 eSq2
  have b1 := bx_I b0 hv eSq2
  intro aq3 eaq3
  have h := h aq3 eaq3
  intro Sq4 eSq4
  have h := h Sq4 eSq4
  intro Sq5 eSq5
  have h := h Sq5 eSq5
  have b2 := bx_arr b1 hv eaq3 eSq4 eSq5 (by decide) (by decide)
  intro aq6 eaq6
  have h := h aq6 eaq6
  intro Sq7 eSq7
  have h := h Sq7 eSq7
  intro Sq8 eSq8
  have h := h Sq8 eSq8
  have b3 := bx_arr b2 hv eaq6 eSq7 eSq8 (by decide) (by decide)
  intro aq9 eaq9
  have h := h aq9 eaq9
  intro Sq10 eSq10
  have h := h Sq10 eSq10
  intro Sq11 eSq11
  have h := h Sq11 eSq11
  have b4 := bx_arr b3 hv eaq9 eSq10 eSq11 (by decide) (by decide)
  intro aq12 eaq12
  have h := h aq12 eaq12
  intro Sq13 eSq13
  have h := h Sq13 eSq13
  intro Sq14 eSq14
  have h := h Sq14 eSq14
  have b5 := bx_arr b4 hv eaq12 eSq13 eSq14 (by decide) (by decide)
  intro Sq15 eSq15
  have h := h Sq15 eSq15
  have b6 := bx_I b5 hv eSq15
  intro aq16 eaq16
  have h := h aq16 eaq16
  intro Sq17 eSq17
  have h := h Sq17 eSq17
  intro Sq18 eSq18
  have h := h Sq18 eSq18
  have b7 := bx_arr b6 hv eaq16 eSq17 eSq18 (by decide) (by decide)
  intro aq19 eaq19
  have h := h aq19 eaq19
  intro Sq20 eSq20
  have h := h Sq20 eSq20
  intro Sq21 eSq21
  have h := h Sq21 eSq21
  have b8 := bx_arr b7 hv eaq19 eSq20 eSq21 (by decide) (by decide)
  intro aq22 eaq22
  have h := h aq22 eaq22
  intro Sq23 eSq23
  have h := h Sq23 eSq23
  intro Sq24 eSq24
  have h := h Sq24 eSq24
  have b9 := bx_arr b8 hv eaq22 eSq23 eSq24 (by decide) (by decide)
  exact ⟨h, _, _, b9, by simp, by decide, by decide, by decide, by decide, by decide⟩
end C21a
section C21
variable {c r w w1 w2 m a3 : Nat} {S T U : HS}
theorem woi_wob {b : Nat} (h : WOi w S b) : WOb w S b := by
  rcases h with h | h | ⟨q, hq, ra, i, e, -, eb⟩
  · exact Or.inl h
  · exact Or.inr (Or.inl h)
  · exact Or.inr (Or.inr ⟨q.1, by
      simp only [List.mem_cons, List.not_mem_nil, or_false] at hq
      rcases hq with rfl | rfl | rfl <;> decide, ra, i, e, eb⟩)
theorem dj_of (u : UV S) (r1 : WKr w1 S) (r2 : WKr w2 S) (oc : ob S c 9) (orr : ob S r 4) (o1 : ob S w1 8) (o2 : ob S w2 8) (e1 : fR S c 2 = some w1) (e2 : fR S r 5 = some w2) (b : Nat) (h : WOb w1 S b) (g : WOb w2 S b) : False := by
  have ne : w1 ≠ w2 := fun z => by
    have := (u.2 c 2 r 5 w1 e1 (z ▸ e2)).1
    exact ob_ne oc orr (by decide) this
  have nk : ∀ x ra k, ob S x k → k < 17 → 17 ≤ hK S ra → x ≠ ra := fun x ra k ox hk hr z => by
    rw [← z, ox.2] at hr
    omega
  rcases h with h | ⟨j, hj, h⟩ | ⟨j, hj, ra, i, h, hb⟩
  · rcases g with g | ⟨j', hj', g⟩ | ⟨j', hj', ra', i', g, gb⟩
    · exact ne (h.symm.trans g)
    · exact ob_ne oc o2 (by decide) (u.2 c 2 w2 j' b (h ▸ e1) g).1
    · exact nk c ra' 9 oc (by decide) (r2 j' hj' ra' g).1 (u.2 c 2 ra' i' b (h ▸ e1) gb).1
  · rcases g with g | ⟨j', hj', g⟩ | ⟨j', hj', ra', i', g, gb⟩
    · exact ob_ne orr o1 (by decide) (u.2 r 5 w1 j b (g ▸ e2) h).1
    · exact ne (u.2 w1 j w2 j' b h g).1
    · exact nk w1 ra' 8 o1 (by decide) (r2 j' hj' ra' g).1 (u.2 w1 j ra' i' b h gb).1
  · rcases g with g | ⟨j', hj', g⟩ | ⟨j', hj', ra', i', g, gb⟩
    · exact nk r ra 4 orr (by decide) (r1 j hj ra h).1 (u.2 r 5 ra i b (g ▸ e2) hb).1
    · exact nk w2 ra 8 o2 (by decide) (r1 j hj ra h).1 (u.2 w2 j' ra i b g hb).1
    · have q := (u.2 ra i ra' i' b hb gb).1
      subst q
      exact ne (u.2 w1 j w2 j' ra h g).1
theorem cj_start (hI : IV S) (oc : ob S c 9) (u : UV S) : ∃ r w1 w2, CJ c r w1 w2 S := by
  obtain ⟨w1, e1, o1, -⟩ := hI.1 (9, 2, 8, 0) (by decide) c oc
  obtain ⟨r, er, orr, -⟩ := hI.1 (9, 3, 4, 0) (by decide) c oc
  obtain ⟨w2, e2, o2, -⟩ := hI.1 (4, 5, 8, 0) (by decide) r orr
  have inj : ∀ w, INJ w S := fun w q hq ra e i j o _ _ h1 h2 => (u.2 ra i ra j o h1 h2).2
  have nwa : ∀ w, ob S w 8 → NWa w S := fun w ow fl hf d e q hq x ox z => by
    have := (u.2 x q.2 w fl d z e).1
    rw [this] at ox
    have hk : q.1 ≠ 8 := by
      simp only [List.mem_cons, List.not_mem_nil, or_false] at hq
      rcases hq with h | h | h | h | h | h | h | h <;> (rw [h]; decide)
    exact hk (ob_inj ox ow)
  have k1 := (wk_of hI o1 (inj w1)).2
  have k2 := (wk_of hI o2 (inj w2)).2
  exact ⟨r, w1, w2, e1, er, e2, oc, orr, o1, o2, ⟨inj w1, nwa w1 o1⟩, ⟨inj w2, nwa w2 o2⟩, fun b p q => dj_of u k1 k2 oc orr o1 o2 e1 e2 b (woi_wob p) q, fun b p q => dj_of u k1 k2 oc orr o1 o2 e1 e2 b q (woi_wob p)⟩
theorem ctb_00 {B : HS} : CtB w A00 G00 B S := ⟨fun _ _ h hh => absurd hh (Nat.not_lt_zero h), fun _ _ h hh => absurd hh (Nat.not_lt_zero h), fun _ _ h hh => absurd hh (Nat.not_lt_zero h), fun _ _ h hh => absurd hh (Nat.not_lt_zero h), fun _ _ _ _ h hh => absurd hh (Nat.not_lt_zero h)⟩
/-- at the start both worlds tell nothing -/
theorem wr_start {F : List (Nat × Nat × Nat)} {g : Nat → Int32} (hI : IV S) (oc : ob S c 9) (u : UZ S) (hf : m ∉ hL S) (bx : BX (nW S m 11 0) T m F g) (h3 : ∀ e ∈ F, e.1 ≠ 3) (ha : a3 ∉ hL T) (e5 : U = nW T a3 14 1) : WRa c m A00 G00 U := by
  obtain ⟨r, w1, w2, J⟩ := cj_start hI oc u.1
  have gn : Gr S (nW S m 11 0) := gr_of_new rfl hf
  have mi : m ∈ hL (nW S m 11 0) := by
    show m ∈ hL S ++ [m]
    simp
  have gT : Gr S T := gr_tr gn bx.1
  have gU : Gr T U := gr_of_new e5 ha
  have g : Gr S U := gr_tr gT gU
  have row : ∀ x, x ∈ hL S → fI U x = fI S x ∧ fR U x = fR S x := fun x hx => by
    have xm : x ≠ m := fun z => hf (z ▸ hx)
    have xa : x ≠ a3 := fun z => ha (z ▸ (gT x hx).1)
    have q := bx.2.1 x (gn x hx).1 xm
    rw [e5]
    exact ⟨(va_up_ne _ _ xa).trans (q.1.trans (va_up_ne _ _ xm)), (va_up_ne _ _ xa).trans (q.2.2.trans (va_up_ne _ _ xm))⟩
  have ma : m ≠ a3 := fun z => ha (z ▸ (bx.1 m mi).1)
  have rowm : fR U m = fR T m := by rw [e5]; exact va_up_ne _ _ ma
  have kind : ∀ x k, ob U x k → (k = 7 ∨ k = 11) → x ∈ hL S ∨ x = m := fun x k ox hk => by
    rw [e5] at ox
    obtain ⟨o1, o2⟩ := ox
    have o1 : x ∈ hL T ++ [a3] := o1
    have o2 : va_up (hK T) a3 14 x = k := o2
    by_cases xa : x = a3
    · rw [xa, va_up_self] at o2
      omega
    · rw [va_up_ne _ _ xa] at o2
      rcases List.mem_append.mp o1 with z | z
      · rcases bx.2.2.1 x z with q | q
        · have q : x ∈ hL S ++ [m] := q
          rcases List.mem_append.mp q with q | q
          · exact Or.inl q
          · exact Or.inr (List.mem_singleton.mp q)
        · omega
      · exact absurd (List.mem_singleton.mp z) xa
  have J0 := J
  obtain ⟨j1, j2, j3, -, orr, o1, o2, -⟩ := J0
  have FWf : FW S U := ⟨fun x ox j _ => by rw [(row x ox.1).2], fun x hx _ => (row x hx).2⟩
  refine ⟨r, w1, w2, cj_mv hI g FWf (fun d od n q hq x ox z => ?_) J (by rw [(row c oc.1).2]) (by rw [(row c oc.1).2]) (by rw [(row r orr.1).2]), ?_, ctb_00, ⟨by decide, by decide, by decide, by decide, by decide, by decide⟩, Or.inl ⟨?_, rfl⟩⟩
  · have hk : q.1 = 7 ∨ q.1 = 11 := by
      simp only [List.mem_cons, List.not_mem_nil, or_false] at hq
      rcases hq with h | h | h | h | h | h | h | h <;> (rw [h]; decide)
    rcases kind x q.1 ox hk with hx | hx
    · rw [(row x hx).2] at z
      exact n q hq x ⟨hx, (g x hx).2.1.symm.trans ox.2⟩ z
    · rw [hx, rowm] at z
      rcases bx.2.2.2.2.1 q.2 d z with y | y
      · exact y.1 (gn d od.1).1
      · have y : va_up (fR S) m (fun _ => none) m q.2 = some d := y
        rw [va_up_self] at y
        cases y
  · unfold Cnt
    rw [(row w1 o1.1).1, u.2 w1 o1]
    exact ⟨rfl, rfl, rfl, rfl, rfl, rfl⟩
  · rw [rowm, bx.2.2.2.2.2.2.2.2 3 h3]
    exact congrFun (va_up_self (fR S) m (fun _ => none)) 3
end C21
end
