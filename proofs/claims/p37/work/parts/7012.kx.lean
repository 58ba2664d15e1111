set_option maxRecDepth 20000 in
set_option maxHeartbeats 1000000 in
theorem kx_X11_readPart_0 {Q : Int32 → HS → Prop} {v0 : Nat} {v1 : Nat} {v2 : Int32} {v3 : Int32} {S0 S : HS} (h : P_X11_readPart_0 Q v0 v1 v2 v3 S) (K : K8 S0 S) : P_X11_readPart_0 (fun r T => Q r T ∧ K8 S0 T) v0 v1 v2 v3 S := by
  delta P_X11_readPart_0 at h ⊢
  obtain ⟨c1, h⟩ := h
  refine ⟨c1, ?_⟩
  have n2 := k8_nk K c1 (by decide)
  have o3 := c1
  refine cm_X11_needs (kx_X11_needs h) h (fun x4 p6 h g5 => ?_)
  have h := h g5
  have K := k8_tr K p6.2
  have o3 := gr_ob p6.2.1 o3
  refine cm_X11_readWhole (kx_X11_readWhole h) h (fun x7 x8 p10 h g9 => ?_)
  have h := h g9
  have K := k8_tr K p10.2
  have o3 := gr_ob p10.2.1 o3
  exact ⟨h, K⟩
theorem kx_X11_readPart {Q : Int32 → HS → Prop} {v0 : Nat} {v1 : Nat} {v2 : Int32} {v3 : Int32} {S : HS} (h : P_X11_readPart v0 v1 v2 v3 Q S) : P_X11_readPart v0 v1 v2 v3 (fun r T => Q r T ∧ K8 S T) S := kx_X11_readPart_0 h (k8_rf S)
set_option maxRecDepth 20000 in
set_option maxHeartbeats 1000000 in
theorem kx_X11_readSide_64 {Q : Int32 → HS → Prop} {v0 : Nat} {v1 : Int32} {S0 S : HS} (h : P_X11_readSide_64 Q v0 v1 S) (K : K8 S0 S) : P_X11_readSide_64 (fun r T => Q r T ∧ K8 S0 T) v0 v1 S := by
  delta P_X11_readSide_64 at h ⊢
  obtain ⟨c1, h⟩ := h
  refine ⟨c1, ?_⟩
  have n2 := k8_nk K c1 (by decide)
  have o3 := c1
  refine cm_X11_goesOn (kx_X11_goesOn h) h (fun x4 p6 h g5 => ?_)
  have h := h g5
  have K := k8_tr K p6.2
  have o3 := gr_ob p6.2.1 o3
  exact ⟨h, K⟩
set_option maxRecDepth 20000 in
set_option maxHeartbeats 1000000 in
theorem kx_X11_readSide_53 {Q : Int32 → HS → Prop} {v0 : Nat} {s0 : Int32} {S0 S : HS} (h : P_X11_readSide_53 Q v0 s0 S) (K : K8 S0 S) : P_X11_readSide_53 (fun r T => Q r T ∧ K8 S0 T) v0 s0 S := by
  delta P_X11_readSide_53 at h ⊢
  refine ⟨?_, ?_⟩
  · intro c1
    have h := h.1 c1
    exact kx_X11_readSide_64 h K
  · intro c2
    have h := h.2 c2
    obtain ⟨c3, h⟩ := h
    refine ⟨c3, ?_⟩
    have n4 := k8_nk K c3 (by decide)
    have o5 := c3
    refine cm_X11_flaw (kx_X11_flaw h) h (fun x6 p8 h g7 => ?_)
    have h := h g7
    have K := k8_tr K p8.2
    have o5 := gr_ob p8.2.1 o5
    exact kx_X11_readSide_64 h K
set_option maxRecDepth 20000 in
set_option maxHeartbeats 1000000 in
theorem kx_X11_readSide_0 {Q : Int32 → HS → Prop} {v0 : Nat} {S0 S : HS} (h : P_X11_readSide_0 Q v0 S) (K : K8 S0 S) : P_X11_readSide_0 (fun r T => Q r T ∧ K8 S0 T) v0 S := by
  delta P_X11_readSide_0 at h ⊢
  obtain ⟨c1, h⟩ := h
  refine ⟨c1, ?_⟩
  have n2 := k8_nk K c1 (by decide)
  have o3 := c1
  refine cm_X11_isWord (kx_X11_isWord h) h (fun x4 x5 p8 h g6 g7 => ?_)
  have h := h g6 g7
  have K := k8_tr K p8.2
  have o3 := gr_ob p8.2.1 o3
  refine ⟨?_, ?_⟩
  · intro c9
    have h := h.1 c9
    refine cm_X11_isWord (kx_X11_isWord h) h (fun x10 x11 p14 h g12 g13 => ?_)
    have h := h g12 g13
    have K := k8_tr K p14.2
    have o3 := gr_ob p14.2.1 o3
    refine ⟨?_, ?_⟩
    · intro c15
      have h := h.1 c15
      refine cm_X11_isWord (kx_X11_isWord h) h (fun x16 x17 p20 h g18 g19 => ?_)
      have h := h g18 g19
      have K := k8_tr K p20.2
      have o3 := gr_ob p20.2.1 o3
      refine ⟨?_, ?_⟩
      · intro c21
        have h := h.1 c21
        refine cm_X11_isWord (kx_X11_isWord h) h (fun x22 x23 p26 h g24 g25 => ?_)
        have h := h g24 g25
        have K := k8_tr K p26.2
        have o3 := gr_ob p26.2.1 o3
        refine ⟨?_, ?_⟩
        · intro c27
          have h := h.1 c27
          exact kx_X11_readSide_53 h K
        · intro c28
          have h := h.2 c28
          exact kx_X11_readSide_53 h K
      · intro c29
        have h := h.2 c29
        exact kx_X11_readSide_53 h K
    · intro c30
      have h := h.2 c30
      exact kx_X11_readSide_53 h K
  · intro c31
    have h := h.2 c31
    exact kx_X11_readSide_53 h K
theorem kx_X11_readSide {Q : Int32 → HS → Prop} {v0 : Nat} {S : HS} (h : P_X11_readSide v0 Q S) : P_X11_readSide v0 (fun r T => Q r T ∧ K8 S T) S := kx_X11_readSide_0 h (k8_rf S)
set_option maxRecDepth 20000 in
set_option maxHeartbeats 1000000 in
theorem kx_X11_readWorld_15 {Q : HS → Prop} {v0 : Nat} {S0 S : HS} (h : P_X11_readWorld_15 Q v0 S) (K : K8 S0 S) : P_X11_readWorld_15 (fun T => Q T ∧ K8 S0 T) v0 S := by
  delta P_X11_readWorld_15 at h ⊢
  obtain ⟨c1, h⟩ := h
  refine ⟨c1, ?_⟩
  have n2 := k8_nk K c1 (by decide)
  have o3 := c1
  refine cm_X11_goesOn (kx_X11_goesOn h) h (fun x4 p6 h g5 => ?_)
  have h := h g5
  have K := k8_tr K p6.2
  have o3 := gr_ob p6.2.1 o3
  refine cm_X11_readPart (kx_X11_readPart h) h (fun x7 x8 p10 h g9 => ?_)
  have h := h g9
  have K := k8_tr K p10.2
  have o3 := gr_ob p10.2.1 o3
  intro x12 e11
  have h := h x12 e11
  refine ⟨?_, ?_⟩
  · intro c13
    have h := h.1 c13
    exact ⟨h, K⟩
  · intro c14
    have h := h.2 c14
    obtain ⟨b15, e16, h⟩ := h
    refine ⟨b15, e16, ?_⟩
    obtain ⟨c17, h⟩ := h
    refine ⟨c17, ?_⟩
    have n18 := k8_nk K c17 (by decide)
    intro x20 e19
    have h := h x20 e19
    have K := k8_I K e19 n18
    have o3 := ob_wI o3 e19
    exact ⟨h, K⟩
set_option maxRecDepth 20000 in
set_option maxHeartbeats 1000000 in
theorem kx_X11_readWorld_0 {Q : HS → Prop} {v0 : Nat} {S0 S : HS} (h : P_X11_readWorld_0 Q v0 S) (K : K8 S0 S) : P_X11_readWorld_0 (fun T => Q T ∧ K8 S0 T) v0 S := by
  delta P_X11_readWorld_0 at h ⊢
  obtain ⟨c1, h⟩ := h
  refine ⟨c1, ?_⟩
  have n2 := k8_nk K c1 (by decide)
  have o3 := c1
  obtain ⟨b4, e5, h⟩ := h
  refine ⟨b4, e5, ?_⟩
  obtain ⟨c6, h⟩ := h
  refine ⟨c6, ?_⟩
  have n7 := k8_nk K c6 (by decide)
  intro x9 e8
  have h := h x9 e8
  refine ⟨?_, ?_⟩
  · intro c10
    have h := h.1 c10
    exact kx_X11_readWorld_15 h K
  · intro c11
    have h := h.2 c11
    refine cm_X11_flaw (kx_X11_flaw h) h (fun x12 p14 h g13 => ?_)
    have h := h g13
    have K := k8_tr K p14.2
    have o3 := gr_ob p14.2.1 o3
    exact kx_X11_readWorld_15 h K
theorem kx_X11_readWorld {Q : HS → Prop} {v0 : Nat} {S : HS} (h : P_X11_readWorld v0 Q S) : P_X11_readWorld v0 (fun T => Q T ∧ K8 S T) S := kx_X11_readWorld_0 h (k8_rf S)
set_option maxRecDepth 20000 in
set_option maxHeartbeats 1000000 in
theorem kx_X11_road_22 {Q : Int32 → HS → Prop} {v0 : Nat} {S0 S : HS} (h : P_X11_road_22 Q v0 S) (K : K8 S0 S) : P_X11_road_22 (fun r T => Q r T ∧ K8 S0 T) v0 S := by
  delta P_X11_road_22 at h ⊢
  obtain ⟨c1, h⟩ := h
  refine ⟨c1, ?_⟩
  have n2 := k8_nk K c1 (by decide)
  have o3 := c1
  refine cm_X11_refused (kx_X11_refused h) h (fun x4 x5 p7 h g6 => ?_)
  have h := h g6
  have K := k8_tr K p7.2
  have o3 := gr_ob p7.2.1 o3
  exact ⟨h, K⟩
set_option maxRecDepth 20000 in
set_option maxHeartbeats 1000000 in
theorem kx_X11_road_0 {Q : Int32 → HS → Prop} {v0 : Nat} {v1 : Int32} {v2 : Int32} {S0 S : HS} (h : P_X11_road_0 Q v0 v1 v2 S) (K : K8 S0 S) : P_X11_road_0 (fun r T => Q r T ∧ K8 S0 T) v0 v1 v2 S := by
  delta P_X11_road_0 at h ⊢
  obtain ⟨c1, h⟩ := h
  refine ⟨c1, ?_⟩
  have n2 := k8_nk K c1 (by decide)
  have o3 := c1
  intro x5 e4
  have h := h x5 e4
  have K := k8_I K e4 n2
  have o3 := ob_wI o3 e4
  refine cm_X11_isRoad (kx_X11_isRoad h) h (fun x6 x7 p10 h g8 g9 => ?_)
  have h := h g8 g9
  have K := k8_tr K p10.2
  have o3 := gr_ob p10.2.1 o3
  refine ⟨?_, ?_⟩
  · intro c11
    have h := h.1 c11
    exact kx_X11_road_22 h K
  · intro c12
    have h := h.2 c12
    refine cm_X11_in (kx_X11_in h) h (fun x13 x14 p17 h g15 g16 => ?_)
    have h := h g15 g16
    have K := k8_tr K p17.2
    have o3 := gr_ob p17.2.1 o3
    refine ⟨?_, ?_⟩
    · intro c18
      have h := h.1 c18
      refine ⟨?_, ?_, ?_, ?_, ?_⟩
      · intro c19
        have h := h.1 c19
        obtain ⟨b20, e21, h⟩ := h
        refine ⟨b20, e21, ?_⟩
        obtain ⟨c22, h⟩ := h
        refine ⟨c22, ?_⟩
        have n23 := k8_nk K c22 (by decide)
        obtain ⟨b24, e25, h⟩ := h
        refine ⟨b24, e25, ?_⟩
        obtain ⟨c26, h⟩ := h
        refine ⟨c26, ?_⟩
        obtain ⟨c27, h⟩ := h
        refine ⟨c27, ?_⟩
        intro x29 e28
        have h := h x29 e28
        refine cm_X11_good (kx_X11_good h) h (fun x30 x31 p33 h g32 => ?_)
        have h := h g32
        have K := k8_tr K p33.2
        have o3 := gr_ob p33.2.1 o3
        exact ⟨h, K⟩
      · intro c34
        have h := h.2.1 c34
        obtain ⟨b35, e36, h⟩ := h
        refine ⟨b35, e36, ?_⟩
        obtain ⟨c37, h⟩ := h
        refine ⟨c37, ?_⟩
        have n38 := k8_nk K c37 (by decide)
        obtain ⟨b39, e40, h⟩ := h
        refine ⟨b39, e40, ?_⟩
        obtain ⟨c41, h⟩ := h
        refine ⟨c41, ?_⟩
        obtain ⟨c42, h⟩ := h
        refine ⟨c42, ?_⟩
        intro x44 e43
        have h := h x44 e43
        refine cm_X11_good (kx_X11_good h) h (fun x45 x46 p48 h g47 => ?_)
        have h := h g47
        have K := k8_tr K p48.2
        have o3 := gr_ob p48.2.1 o3
        exact ⟨h, K⟩
      · intro c49
        have h := h.2.2.1 c49
        obtain ⟨b50, e51, h⟩ := h
        refine ⟨b50, e51, ?_⟩
        obtain ⟨c52, h⟩ := h
        refine ⟨c52, ?_⟩
        have n53 := k8_nk K c52 (by decide)
        obtain ⟨b54, e55, h⟩ := h
        refine ⟨b54, e55, ?_⟩
        obtain ⟨c56, h⟩ := h
        refine ⟨c56, ?_⟩
        obtain ⟨c57, h⟩ := h
        refine ⟨c57, ?_⟩
        intro x59 e58
        have h := h x59 e58
        refine cm_X11_good (kx_X11_good h) h (fun x60 x61 p63 h g62 => ?_)
        have h := h g62
        have K := k8_tr K p63.2
        have o3 := gr_ob p63.2.1 o3
        exact ⟨h, K⟩
      · intro c64
        have h := h.2.2.2.1 c64
        obtain ⟨b65, e66, h⟩ := h
        refine ⟨b65, e66, ?_⟩
        obtain ⟨c67, h⟩ := h
        refine ⟨c67, ?_⟩
        have n68 := k8_nk K c67 (by decide)
        obtain ⟨b69, e70, h⟩ := h
        refine ⟨b69, e70, ?_⟩
        obtain ⟨c71, h⟩ := h
        refine ⟨c71, ?_⟩
        obtain ⟨c72, h⟩ := h
        refine ⟨c72, ?_⟩
        intro x74 e73
        have h := h x74 e73
        refine cm_X11_good (kx_X11_good h) h (fun x75 x76 p78 h g77 => ?_)
        have h := h g77
        have K := k8_tr K p78.2
        have o3 := gr_ob p78.2.1 o3
        exact ⟨h, K⟩
      · intro c79
        have h := h.2.2.2.2 c79
        obtain ⟨b80, e81, h⟩ := h
        refine ⟨b80, e81, ?_⟩
        obtain ⟨c82, h⟩ := h
        refine ⟨c82, ?_⟩
        have n83 := k8_nk K c82 (by decide)
        obtain ⟨b84, e85, h⟩ := h
        refine ⟨b84, e85, ?_⟩
        obtain ⟨c86, h⟩ := h
        refine ⟨c86, ?_⟩
        obtain ⟨c87, h⟩ := h
        refine ⟨c87, ?_⟩
        intro x89 e88
        have h := h x89 e88
        refine cm_X11_good (kx_X11_good h) h (fun x90 x91 p93 h g92 => ?_)
        have h := h g92
        have K := k8_tr K p93.2
        have o3 := gr_ob p93.2.1 o3
        exact ⟨h, K⟩
    · intro c94
      have h := h.2 c94
      exact kx_X11_road_22 h K
theorem kx_X11_road {Q : Int32 → HS → Prop} {v0 : Nat} {v1 : Int32} {v2 : Int32} {S : HS} (h : P_X11_road v0 v1 v2 Q S) : P_X11_road v0 v1 v2 (fun r T => Q r T ∧ K8 S T) S := kx_X11_road_0 h (k8_rf S)
set_option maxRecDepth 20000 in
set_option maxHeartbeats 1000000 in
theorem kx_X11_round_29 {Q : Int64 → HS → Prop} {v0 : Nat} {S0 S : HS} (h : P_X11_round_29 Q v0 S) (K : K8 S0 S) : P_X11_round_29 (fun r T => Q r T ∧ K8 S0 T) v0 S := by
  delta P_X11_round_29 at h ⊢
  obtain ⟨c1, h⟩ := h
  refine ⟨c1, ?_⟩
  have n2 := k8_nk K c1 (by decide)
  have o3 := c1
  refine cm_X11_refused (kx_X11_refused h) h (fun x4 x5 p7 h g6 => ?_)
  have h := h g6
  have K := k8_tr K p7.2
  have o3 := gr_ob p7.2.1 o3
  exact ⟨h, K⟩
set_option maxRecDepth 20000 in
set_option maxHeartbeats 1000000 in
theorem kx_X11_round_0 {Q : Int64 → HS → Prop} {v0 : Nat} {v1 : Int32} {v2 : Int32} {v3 : Int32} {v4 : Int32} {S0 S : HS} (h : P_X11_round_0 Q v0 v1 v2 v3 v4 S) (K : K8 S0 S) : P_X11_round_0 (fun r T => Q r T ∧ K8 S0 T) v0 v1 v2 v3 v4 S := by
  delta P_X11_round_0 at h ⊢
  obtain ⟨c1, h⟩ := h
  refine ⟨c1, ?_⟩
  have n2 := k8_nk K c1 (by decide)
  have o3 := c1
  intro x5 e4
  have h := h x5 e4
  have K := k8_I K e4 n2
  have o3 := ob_wI o3 e4
  refine cm_X11_isWalker (kx_X11_isWalker h) h (fun x6 x7 p10 h g8 g9 => ?_)
  have h := h g8 g9
  have K := k8_tr K p10.2
  have o3 := gr_ob p10.2.1 o3
  refine ⟨?_, ?_⟩
  · intro c11
    have h := h.1 c11
    exact kx_X11_round_29 h K
  · intro c12
    have h := h.2 c12
    refine cm_X11_isRoad (kx_X11_isRoad h) h (fun x13 x14 p17 h g15 g16 => ?_)
    have h := h g15 g16
    have K := k8_tr K p17.2
    have o3 := gr_ob p17.2.1 o3
    refine ⟨?_, ?_⟩
    · intro c18
      have h := h.1 c18
      exact kx_X11_round_29 h K
    · intro c19
      have h := h.2 c19
      refine cm_X11_isHour (kx_X11_isHour h) h (fun x20 x21 p24 h g22 g23 => ?_)
      have h := h g22 g23
      have K := k8_tr K p24.2
      have o3 := gr_ob p24.2.1 o3
      refine ⟨?_, ?_⟩
      · intro c25
        have h := h.1 c25
        refine cm_X11_wetAtBest (kx_X11_wetAtBest h) h (fun x26 x27 p29 h g28 => ?_)
        have h := h g28
        have K := k8_tr K p29.2
        have o3 := gr_ob p29.2.1 o3
        refine cm_X11_wetAtBest (kx_X11_wetAtBest h) h (fun x30 x31 p33 h g32 => ?_)
        have h := h g32
        have K := k8_tr K p33.2
        have o3 := gr_ob p33.2.1 o3
        refine cm_X11_told (kx_X11_told h) h (fun x34 x35 p37 h g36 => ?_)
        have h := h g36
        have K := k8_tr K p37.2
        have o3 := gr_ob p37.2.1 o3
        exact ⟨h, K⟩
      · intro c38
        have h := h.2 c38
        exact kx_X11_round_29 h K
theorem kx_X11_round {Q : Int64 → HS → Prop} {v0 : Nat} {v1 : Int32} {v2 : Int32} {v3 : Int32} {v4 : Int32} {S : HS} (h : P_X11_round v0 v1 v2 v3 v4 Q S) : P_X11_round v0 v1 v2 v3 v4 (fun r T => Q r T ∧ K8 S T) S := kx_X11_round_0 h (k8_rf S)
set_option maxRecDepth 20000 in
set_option maxHeartbeats 1000000 in
theorem kx_X11_saves_39 {Q : Int64 → HS → Prop} {v0 : Nat} {S0 S : HS} (h : P_X11_saves_39 Q v0 S) (K : K8 S0 S) : P_X11_saves_39 (fun r T => Q r T ∧ K8 S0 T) v0 S := by
  delta P_X11_saves_39 at h ⊢
  obtain ⟨c1, h⟩ := h
  refine ⟨c1, ?_⟩
  have n2 := k8_nk K c1 (by decide)
  have o3 := c1
  refine cm_X11_refused (kx_X11_refused h) h (fun x4 x5 p7 h g6 => ?_)
  have h := h g6
  have K := k8_tr K p7.2
  have o3 := gr_ob p7.2.1 o3
  exact ⟨h, K⟩
set_option maxRecDepth 20000 in
set_option maxHeartbeats 1000000 in
theorem kx_X11_saves_0 {Q : Int64 → HS → Prop} {v0 : Nat} {v1 : Int32} {v2 : Int32} {v3 : Int32} {v4 : Int32} {v5 : Int32} {S0 S : HS} (h : P_X11_saves_0 Q v0 v1 v2 v3 v4 v5 S) (K : K8 S0 S) : P_X11_saves_0 (fun r T => Q r T ∧ K8 S0 T) v0 v1 v2 v3 v4 v5 S := by
  delta P_X11_saves_0 at h ⊢
  obtain ⟨c1, h⟩ := h
  refine ⟨c1, ?_⟩
  have n2 := k8_nk K c1 (by decide)
  have o3 := c1
  intro x5 e4
  have h := h x5 e4
  have K := k8_I K e4 n2
  have o3 := ob_wI o3 e4
  refine cm_X11_isWalker (kx_X11_isWalker h) h (fun x6 x7 p10 h g8 g9 => ?_)
  have h := h g8 g9
  have K := k8_tr K p10.2
  have o3 := gr_ob p10.2.1 o3
  refine ⟨?_, ?_⟩
  · intro c11
    have h := h.1 c11
    exact kx_X11_saves_39 h K
  · intro c12
    have h := h.2 c12
    refine cm_X11_isRoad (kx_X11_isRoad h) h (fun x13 x14 p17 h g15 g16 => ?_)
    have h := h g15 g16
    have K := k8_tr K p17.2
    have o3 := gr_ob p17.2.1 o3
    refine ⟨?_, ?_⟩
    · intro c18
      have h := h.1 c18
      exact kx_X11_saves_39 h K
    · intro c19
      have h := h.2 c19
      refine cm_X11_in (kx_X11_in h) h (fun x20 x21 p24 h g22 g23 => ?_)
      have h := h g22 g23
      have K := k8_tr K p24.2
      have o3 := gr_ob p24.2.1 o3
      refine ⟨?_, ?_⟩
      · intro c25
        have h := h.1 c25
        exact kx_X11_saves_39 h K
      · intro c26
        have h := h.2 c26
        refine cm_X11_isHour (kx_X11_isHour h) h (fun x27 x28 p31 h g29 g30 => ?_)
        have h := h g29 g30
        have K := k8_tr K p31.2
        have o3 := gr_ob p31.2.1 o3
        refine ⟨?_, ?_⟩
        · intro c32
          have h := h.1 c32
          obtain ⟨b33, e34, h⟩ := h
          refine ⟨b33, e34, ?_⟩
          obtain ⟨c35, h⟩ := h
          refine ⟨c35, ?_⟩
          have n36 := k8_nk K c35 (by decide)
          obtain ⟨b37, e38, h⟩ := h
          refine ⟨b37, e38, ?_⟩
          obtain ⟨c39, h⟩ := h
          refine ⟨c39, ?_⟩
          obtain ⟨c40, h⟩ := h
          refine ⟨c40, ?_⟩
          intro x42 e41
          have h := h x42 e41
          refine cm_X11_wetOf (kx_X11_wetOf h) h (fun x43 x44 p46 h g45 => ?_)
          have h := h g45
          have K := k8_tr K p46.2
          have o3 := gr_ob p46.2.1 o3
          refine cm_X11_bestOf (kx_X11_bestOf h) h (fun x47 x48 p50 h g49 => ?_)
          have h := h g49
          have K := k8_tr K p50.2
          have o3 := gr_ob p50.2.1 o3
          refine cm_X11_wetOf (kx_X11_wetOf h) h (fun x51 x52 p54 h g53 => ?_)
          have h := h g53
          have K := k8_tr K p54.2
          have o3 := gr_ob p54.2.1 o3
          refine cm_X11_told (kx_X11_told h) h (fun x55 x56 p58 h g57 => ?_)
          have h := h g57
          have K := k8_tr K p58.2
          have o3 := gr_ob p58.2.1 o3
          exact ⟨h, K⟩
        · intro c59
          have h := h.2 c59
          exact kx_X11_saves_39 h K
theorem kx_X11_saves {Q : Int64 → HS → Prop} {v0 : Nat} {v1 : Int32} {v2 : Int32} {v3 : Int32} {v4 : Int32} {v5 : Int32} {S : HS} (h : P_X11_saves v0 v1 v2 v3 v4 v5 Q S) : P_X11_saves v0 v1 v2 v3 v4 v5 (fun r T => Q r T ∧ K8 S T) S := kx_X11_saves_0 h (k8_rf S)
set_option maxRecDepth 20000 in
set_option maxHeartbeats 1000000 in
theorem kx_X11_size_0 {Q : Int32 → HS → Prop} {v0 : Nat} {v1 : Int32} {S0 S : HS} (h : P_X11_size_0 Q v0 v1 S) (K : K8 S0 S) : P_X11_size_0 (fun r T => Q r T ∧ K8 S0 T) v0 v1 S := by
  delta P_X11_size_0 at h ⊢
  obtain ⟨c1, h⟩ := h
  refine ⟨c1, ?_⟩
  have n2 := k8_nk K c1 (by decide)
  have o3 := c1
  intro x5 e4
  have h := h x5 e4
  have K := k8_I K e4 n2
  have o3 := ob_wI o3 e4
  refine ⟨?_, ?_⟩
  · intro c6
    have h := h.1 c6
    refine cm_X11_in (kx_X11_in h) h (fun x7 x8 p11 h g9 g10 => ?_)
    have h := h g9 g10
    have K := k8_tr K p11.2
    have o3 := gr_ob p11.2.1 o3
    refine ⟨?_, ?_⟩
    · intro c12
      have h := h.1 c12
      refine ⟨?_, ?_⟩
      · intro c13
        have h := h.1 c13
        exact ⟨h, K⟩
      · intro x14 c15
        have h := h.2 x14 c15
        refine ⟨?_, ?_, ?_, ?_, ?_, ?_, ?_, ?_, ?_, ?_, ?_⟩
        · intro c16
          have h := h.1 c16
          intro x18 e17
          have h := h x18 e17
          exact ⟨h, K⟩
        · intro c19
          have h := h.2.1 c19
          obtain ⟨b20, e21, h⟩ := h
          refine ⟨b20, e21, ?_⟩
          obtain ⟨c22, h⟩ := h
          refine ⟨c22, ?_⟩
          have n23 := k8_nk K c22 (by decide)
          intro x25 e24
          have h := h x25 e24
          exact ⟨h, K⟩
        · intro c26
          have h := h.2.2.1 c26
          obtain ⟨b27, e28, h⟩ := h
          refine ⟨b27, e28, ?_⟩
          obtain ⟨c29, h⟩ := h
          refine ⟨c29, ?_⟩
          have n30 := k8_nk K c29 (by decide)
          intro x32 e31
          have h := h x32 e31
          exact ⟨h, K⟩
        · intro c33
          have h := h.2.2.2.1 c33
          obtain ⟨b34, e35, h⟩ := h
          refine ⟨b34, e35, ?_⟩
          obtain ⟨c36, h⟩ := h
          refine ⟨c36, ?_⟩
          have n37 := k8_nk K c36 (by decide)
          intro x39 e38
          have h := h x39 e38
          exact ⟨h, K⟩
        · intro c40
          have h := h.2.2.2.2.1 c40
          obtain ⟨b41, e42, h⟩ := h
          refine ⟨b41, e42, ?_⟩
          obtain ⟨c43, h⟩ := h
          refine ⟨c43, ?_⟩
          have n44 := k8_nk K c43 (by decide)
          intro x46 e45
          have h := h x46 e45
          exact ⟨h, K⟩
        · intro c47
          have h := h.2.2.2.2.2.1 c47
          obtain ⟨b48, e49, h⟩ := h
          refine ⟨b48, e49, ?_⟩
          obtain ⟨c50, h⟩ := h
          refine ⟨c50, ?_⟩
          have n51 := k8_nk K c50 (by decide)
          intro x53 e52
          have h := h x53 e52
          exact ⟨h, K⟩
        · intro c54
          have h := h.2.2.2.2.2.2.1 c54
          obtain ⟨b55, e56, h⟩ := h
          refine ⟨b55, e56, ?_⟩
          obtain ⟨c57, h⟩ := h
          refine ⟨c57, ?_⟩
          have n58 := k8_nk K c57 (by decide)
          intro x60 e59
          have h := h x60 e59
          exact ⟨h, K⟩
        · intro c61
          have h := h.2.2.2.2.2.2.2.1 c61
          intro x63 e62
          have h := h x63 e62
          exact ⟨h, K⟩
        · intro c64
          have h := h.2.2.2.2.2.2.2.2.1 c64
          refine cm_X11_isDay (kx_X11_isDay h) h (fun x65 x66 p69 h g67 g68 => ?_)
          have h := h g67 g68
          have K := k8_tr K p69.2
          have o3 := gr_ob p69.2.1 o3
          refine ⟨?_, ?_⟩
          · intro c70
            have h := h.1 c70
            exact ⟨h, K⟩
          · intro c71
            have h := h.2 c71
            obtain ⟨b72, e73, h⟩ := h
            refine ⟨b72, e73, ?_⟩
            obtain ⟨c74, h⟩ := h
            refine ⟨c74, ?_⟩
            have n75 := k8_nk K c74 (by decide)
            obtain ⟨c76, h⟩ := h
            refine ⟨c76, ?_⟩
            intro x78 e77
            have h := h x78 e77
            exact ⟨h, K⟩
        · intro c79
          have h := h.2.2.2.2.2.2.2.2.2.1 c79
          refine cm_X11_isDay (kx_X11_isDay h) h (fun x80 x81 p84 h g82 g83 => ?_)
          have h := h g82 g83
          have K := k8_tr K p84.2
          have o3 := gr_ob p84.2.1 o3
          refine ⟨?_, ?_⟩
          · intro c85
            have h := h.1 c85
            exact ⟨h, K⟩
          · intro c86
            have h := h.2 c86
            obtain ⟨b87, e88, h⟩ := h
            refine ⟨b87, e88, ?_⟩
            obtain ⟨c89, h⟩ := h
            refine ⟨c89, ?_⟩
            have n90 := k8_nk K c89 (by decide)
            obtain ⟨c91, h⟩ := h
            refine ⟨c91, ?_⟩
            intro x93 e92
            have h := h x93 e92
            exact ⟨h, K⟩
        · intro c94
          have h := h.2.2.2.2.2.2.2.2.2.2 c94
          intro x96 e95
          have h := h x96 e95
          exact ⟨h, K⟩
    · intro c97
      have h := h.2 c97
      exact ⟨h, K⟩
  · intro c98
    have h := h.2 c98
    intro x100 e99
    have h := h x100 e99
    exact ⟨h, K⟩
theorem kx_X11_size {Q : Int32 → HS → Prop} {v0 : Nat} {v1 : Int32} {S : HS} (h : P_X11_size v0 v1 Q S) : P_X11_size v0 v1 (fun r T => Q r T ∧ K8 S T) S := kx_X11_size_0 h (k8_rf S)
set_option maxRecDepth 20000 in
set_option maxHeartbeats 1000000 in
theorem kx_X11_soaked_57 {Q : Int32 → HS → Prop} {s0 : Nat} {s1 : Int32} {S0 S : HS} (h : P_X11_soaked_57 Q s0 s1 S) (K : K8 S0 S) : P_X11_soaked_57 (fun r T => Q r T ∧ K8 S0 T) s0 s1 S := by
  delta P_X11_soaked_57 at h ⊢
  obtain ⟨c1, h⟩ := h
  refine ⟨c1, ?_⟩
  have n2 := k8_nk K c1 (by decide)
  have o3 := c1
  refine cm_X11_good (kx_X11_good h) h (fun x4 x5 p7 h g6 => ?_)
  have h := h g6
  have K := k8_tr K p7.2
  have o3 := gr_ob p7.2.1 o3
  exact ⟨h, K⟩
set_option maxRecDepth 20000 in
set_option maxHeartbeats 1000000 in
theorem kx_X11_soaked_0 {Q : Int32 → HS → Prop} {v0 : Nat} {S0 S : HS} (h : P_X11_soaked_0 Q v0 S) (K : K8 S0 S) : P_X11_soaked_0 (fun r T => Q r T ∧ K8 S0 T) v0 S := by
  delta P_X11_soaked_0 at h ⊢
  obtain ⟨c1, h⟩ := h
  refine ⟨c1, ?_⟩
  have n2 := k8_nk K c1 (by decide)
  have o3 := c1
  intro x5 e4
  have h := h x5 e4
  have K := k8_I K e4 n2
  have o3 := ob_wI o3 e4
  refine cm_X11_isDay (kx_X11_isDay h) h (fun x6 x7 p10 h g8 g9 => ?_)
  have h := h g8 g9
  have K := k8_tr K p10.2
  have o3 := gr_ob p10.2.1 o3
  refine ⟨?_, ?_⟩
  · intro c11
    have h := h.1 c11
    obtain ⟨b12, e13, h⟩ := h
    refine ⟨b12, e13, ?_⟩
    obtain ⟨c14, h⟩ := h
    refine ⟨c14, ?_⟩
    have n15 := k8_nk K c14 (by decide)
    obtain ⟨b16, e17, h⟩ := h
    refine ⟨b16, e17, ?_⟩
    intro x19 e18
    have h := h x19 e18
    obtain ⟨c20, h⟩ := h
    refine ⟨c20, ?_⟩
    obtain ⟨c21, h⟩ := h
    refine ⟨c21, ?_⟩
    intro x23 e22
    have h := h x23 e22
    refine ⟨?_, ?_⟩
    · intro c24
      have h := h.1 c24
      refine cm_X11_gotInAll (kx_X11_gotInAll h) h (fun x25 x26 p28 h g27 => ?_)
      have h := h g27
      have K := k8_tr K p28.2
      have o3 := gr_ob p28.2.1 o3
      refine cm_X11_holds (kx_X11_holds h) h (fun x29 x30 p32 h g31 => ?_)
      have h := h g31
      have K := k8_tr K p32.2
      have o3 := gr_ob p32.2.1 o3
      refine ⟨?_, ?_⟩
      · intro c33
        have h := h.1 c33
        exact kx_X11_soaked_57 h K
      · intro c34
        have h := h.2 c34
        exact kx_X11_soaked_57 h K
    · intro c35
      have h := h.2 c35
      exact kx_X11_soaked_57 h K
  · intro c36
    have h := h.2 c36
    refine cm_X11_refused (kx_X11_refused h) h (fun x37 x38 p40 h g39 => ?_)
    have h := h g39
    have K := k8_tr K p40.2
    have o3 := gr_ob p40.2.1 o3
    exact ⟨h, K⟩
theorem kx_X11_soaked {Q : Int32 → HS → Prop} {v0 : Nat} {S : HS} (h : P_X11_soaked v0 Q S) : P_X11_soaked v0 (fun r T => Q r T ∧ K8 S T) S := kx_X11_soaked_0 h (k8_rf S)
set_option maxRecDepth 20000 in
set_option maxHeartbeats 1000000 in
theorem kx_X11_stay_133 {Q : Int32 → HS → Prop} {X84 X84_2 : Nat → Int32 → Int32 → Int32 → HS → Prop} {v0 : Nat} {v1 : Int32} {v2 : Int32} {v3 : Int32} {S0 S : HS} (h : P_X11_stay_133 Q X84 v0 v1 v2 v3 S) (K : K8 S0 S) (hX84 : ∀ (u0 : Nat) (u1 : Int32) (u2 : Int32) (u3 : Int32) (u4 : HS), X84 u0 u1 u2 u3 u4 → K8 S0 u4 → X84_2 u0 u1 u2 u3 u4) : P_X11_stay_133 (fun r T => Q r T ∧ K8 S0 T) X84_2 v0 v1 v2 v3 S := by
  delta P_X11_stay_133 at h ⊢
  obtain ⟨c1, h⟩ := h
  refine ⟨c1, ?_⟩
  have n2 := k8_nk K c1 (by decide)
  have o3 := c1
  obtain ⟨b4, e5, h⟩ := h
  refine ⟨b4, e5, ?_⟩
  obtain ⟨c6, h⟩ := h
  refine ⟨c6, ?_⟩
  have n7 := k8_nk K c6 (by decide)
  obtain ⟨c8, h⟩ := h
  refine ⟨c8, ?_⟩
  intro x10 e9
  have h := h x10 e9
  intro x12 e11
  have h := h x12 e11
  obtain ⟨c13, h⟩ := h
  refine ⟨c13, ?_⟩
  intro x15 e14
  have h := h x15 e14
  have K := k8_J K e14
  have o3 := ob_wJ o3 e14
  intro x17 e16
  have h := h x17 e16
  exact hX84 _ _ _ _ _ h K
set_option maxRecDepth 20000 in
set_option maxHeartbeats 1000000 in
theorem kxB_X11_stay_84 {Q : Int32 → HS → Prop} {X84 X84_2 : Nat → Int32 → Int32 → Int32 → HS → Prop} {v0 : Nat} {v1 : Int32} {v2 : Int32} {v3 : Int32} {S0 S : HS} (h : B_X11_stay_84 Q X84 v0 v1 v2 v3 S) (K : K8 S0 S) (hX84 : ∀ (u0 : Nat) (u1 : Int32) (u2 : Int32) (u3 : Int32) (u4 : HS), X84 u0 u1 u2 u3 u4 → K8 S0 u4 → X84_2 u0 u1 u2 u3 u4) : B_X11_stay_84 (fun r T => Q r T ∧ K8 S0 T) X84_2 v0 v1 v2 v3 S := by
  delta B_X11_stay_84 at h ⊢
  refine ⟨?_, ?_⟩
  · intro c1
    have h := h.1 c1
    obtain ⟨c2, h⟩ := h
    refine ⟨c2, ?_⟩
    have n3 := k8_nk K c2 (by decide)
    have o4 := c2
    refine cm_X11_granted (kx_X11_granted h) h (fun x5 x6 p9 h g7 g8 => ?_)
    have h := h g7 g8
    have K := k8_tr K p9.2
    have o4 := gr_ob p9.2.1 o4
    obtain ⟨c10, h⟩ := h
    refine ⟨c10, ?_⟩
    exact ⟨h, K⟩
  · intro c11
    have h := h.2 c11
    obtain ⟨c12, h⟩ := h
    refine ⟨c12, ?_⟩
    have n13 := k8_nk K c12 (by decide)
    have o14 := c12
    obtain ⟨b15, e16, h⟩ := h
    refine ⟨b15, e16, ?_⟩
    obtain ⟨c17, h⟩ := h
    refine ⟨c17, ?_⟩
    have n18 := k8_nk K c17 (by decide)
    obtain ⟨b19, e20, h⟩ := h
    refine ⟨b19, e20, ?_⟩
    obtain ⟨c21, h⟩ := h
    refine ⟨c21, ?_⟩
    obtain ⟨c22, h⟩ := h
    refine ⟨c22, ?_⟩
    intro x24 e23
    have h := h x24 e23
    refine ⟨?_, ?_⟩
    · intro c25
      have h := h.1 c25
      exact kx_X11_stay_133 h K hX84
    · intro c26
      have h := h.2 c26
      obtain ⟨b27, e28, h⟩ := h
      refine ⟨b27, e28, ?_⟩
      obtain ⟨c29, h⟩ := h
      refine ⟨c29, ?_⟩
      have n30 := k8_nk K c29 (by decide)
      obtain ⟨c31, h⟩ := h
      refine ⟨c31, ?_⟩
      intro x33 e32
      have h := h x33 e32
      refine cm_X11_rainsIn (kx_X11_rainsIn h) h (fun x34 x35 p38 h g36 g37 => ?_)
      have h := h g36 g37
      have K := k8_tr K p38.2
      have o14 := gr_ob p38.2.1 o14
      refine ⟨?_, ?_⟩
      · intro c39
        have h := h.1 c39
        exact kx_X11_stay_133 h K hX84
      · intro c40
        have h := h.2 c40
        obtain ⟨b41, e42, h⟩ := h
        refine ⟨b41, e42, ?_⟩
        obtain ⟨c43, h⟩ := h
        refine ⟨c43, ?_⟩
        have n44 := k8_nk K c43 (by decide)
        obtain ⟨c45, h⟩ := h
        refine ⟨c45, ?_⟩
        intro x47 e46
        have h := h x47 e46
        intro x49 e48
        have h := h x49 e48
        refine cm_X11_drips (kx_X11_drips h) h (fun x50 x51 p53 h g52 => ?_)
        have h := h g52
        have K := k8_tr K p53.2
        have o14 := gr_ob p53.2.1 o14
        intro x55 e54
        have h := h x55 e54
        obtain ⟨c56, h⟩ := h
        refine ⟨c56, ?_⟩
        intro x58 e57
        have h := h x58 e57
        have K := k8_J K e57
        have o14 := ob_wJ o14 e57
        exact kx_X11_stay_133 h K hX84
theorem kx_X11_stay_84 {Q : Int32 → HS → Prop} {v0 : Nat} {v1 : Int32} {v2 : Int32} {v3 : Int32} {S0 S : HS} (h : P_X11_stay_84 Q v0 v1 v2 v3 S) (K : K8 S0 S) : P_X11_stay_84 (fun r T => Q r T ∧ K8 S0 T) v0 v1 v2 v3 S := h (fun v0 v1 v2 v3 S => K8 S0 S → P_X11_stay_84 (fun r T => Q r T ∧ K8 S0 T) v0 v1 v2 v3 S) (fun v0 v1 v2 v3 S hB K => fd_X11_stay_84 (kxB_X11_stay_84 hB K (fun _ _ _ _ _ hx K => hx K))) K
set_option maxRecDepth 20000 in
set_option maxHeartbeats 1000000 in
theorem kx_X11_stay_0 {Q : Int32 → HS → Prop} {v0 : Nat} {v1 : Int32} {S0 S : HS} (h : P_X11_stay_0 Q v0 v1 S) (K : K8 S0 S) : P_X11_stay_0 (fun r T => Q r T ∧ K8 S0 T) v0 v1 S := by
  delta P_X11_stay_0 at h ⊢
  obtain ⟨c1, h⟩ := h
  refine ⟨c1, ?_⟩
  have n2 := k8_nk K c1 (by decide)
  have o3 := c1
  intro x5 e4
  have h := h x5 e4
  have K := k8_I K e4 n2
  have o3 := ob_wI o3 e4
  refine cm_X11_isDay (kx_X11_isDay h) h (fun x6 x7 p10 h g8 g9 => ?_)
  have h := h g8 g9
  have K := k8_tr K p10.2
  have o3 := gr_ob p10.2.1 o3
  refine ⟨?_, ?_⟩
  · intro c11
    have h := h.1 c11
    refine cm_X11_in (kx_X11_in h) h (fun x12 x13 p16 h g14 g15 => ?_)
    have h := h g14 g15
    have K := k8_tr K p16.2
    have o3 := gr_ob p16.2.1 o3
    refine ⟨?_, ?_⟩
    · intro c17
      have h := h.1 c17
      obtain ⟨b18, e19, h⟩ := h
      refine ⟨b18, e19, ?_⟩
      obtain ⟨c20, h⟩ := h
      refine ⟨c20, ?_⟩
      have n21 := k8_nk K c20 (by decide)
      obtain ⟨c22, h⟩ := h
      refine ⟨c22, ?_⟩
      intro x24 e23
      have h := h x24 e23
      intro x26 e25
      have h := h x26 e25
      refine cm_X11_canWait (kx_X11_canWait h) h (fun x27 x28 p31 h g29 g30 => ?_)
      have h := h g29 g30
      have K := k8_tr K p31.2
      have o3 := gr_ob p31.2.1 o3
      refine ⟨?_, ?_⟩
      · intro c32
        have h := h.1 c32
        obtain ⟨b33, e34, h⟩ := h
        refine ⟨b33, e34, ?_⟩
        obtain ⟨c35, h⟩ := h
        refine ⟨c35, ?_⟩
        have n36 := k8_nk K c35 (by decide)
        obtain ⟨c37, h⟩ := h
        refine ⟨c37, ?_⟩
        intro x39 e38
        have h := h x39 e38
        refine ⟨?_, ?_⟩
        · intro c40
          have h := h.1 c40
          refine cm_X11_keeps (kx_X11_keeps h) h (fun x41 p43 h g42 => ?_)
          have h := h g42
          have K := k8_tr K p43.2
          have o3 := gr_ob p43.2.1 o3
          exact kx_X11_stay_84 h K
        · intro c44
          have h := h.2 c44
          refine cm_X11_denied (kx_X11_denied h) h (fun x45 x46 p49 h g47 g48 => ?_)
          have h := h g47 g48
          have K := k8_tr K p49.2
          have o3 := gr_ob p49.2.1 o3
          obtain ⟨c50, h⟩ := h
          refine ⟨c50, ?_⟩
          exact ⟨h, K⟩
      · intro c51
        have h := h.2 c51
        refine cm_X11_denied (kx_X11_denied h) h (fun x52 x53 p56 h g54 g55 => ?_)
        have h := h g54 g55
        have K := k8_tr K p56.2
        have o3 := gr_ob p56.2.1 o3
        obtain ⟨c57, h⟩ := h
        refine ⟨c57, ?_⟩
        exact ⟨h, K⟩
    · intro c58
      have h := h.2 c58
      refine cm_X11_denied (kx_X11_denied h) h (fun x59 x60 p63 h g61 g62 => ?_)
      have h := h g61 g62
      have K := k8_tr K p63.2
      have o3 := gr_ob p63.2.1 o3
      obtain ⟨c64, h⟩ := h
      refine ⟨c64, ?_⟩
      exact ⟨h, K⟩
  · intro c65
    have h := h.2 c65
    refine cm_X11_denied (kx_X11_denied h) h (fun x66 x67 p70 h g68 g69 => ?_)
    have h := h g68 g69
    have K := k8_tr K p70.2
    have o3 := gr_ob p70.2.1 o3
    obtain ⟨c71, h⟩ := h
    refine ⟨c71, ?_⟩
    exact ⟨h, K⟩
theorem kx_X11_stay {Q : Int32 → HS → Prop} {v0 : Nat} {v1 : Int32} {S : HS} (h : P_X11_stay v0 v1 Q S) : P_X11_stay v0 v1 (fun r T => Q r T ∧ K8 S T) S := kx_X11_stay_0 h (k8_rf S)
set_option maxRecDepth 20000 in
set_option maxHeartbeats 1000000 in
theorem kx_X11_stepOf_117 {Q : Int32 → HS → Prop} {X9 X9_2 : Nat → Int32 → Int32 → Int32 → Int32 → HS → Prop} {v0 : Nat} {v4 : Int32} {v6 : Int32} {v7 : Int32} {s0 : Int32} {S0 S : HS} (h : P_X11_stepOf_117 Q X9 v0 v4 v6 v7 s0 S) (K : K8 S0 S) (hX9 : ∀ (u0 : Nat) (u1 : Int32) (u2 : Int32) (u3 : Int32) (u4 : Int32) (u5 : HS), X9 u0 u1 u2 u3 u4 u5 → K8 S0 u5 → X9_2 u0 u1 u2 u3 u4 u5) : P_X11_stepOf_117 (fun r T => Q r T ∧ K8 S0 T) X9_2 v0 v4 v6 v7 s0 S := by
  delta P_X11_stepOf_117 at h ⊢
  exact hX9 _ _ _ _ _ _ h K
set_option maxRecDepth 20000 in
set_option maxHeartbeats 1000000 in
theorem kx_X11_stepOf_82 {Q : Int32 → HS → Prop} {X9 X9_2 : Nat → Int32 → Int32 → Int32 → Int32 → HS → Prop} {v0 : Nat} {v4 : Int32} {v5 : Int32} {v7 : Int32} {v8 : Int32} {s0 : Int32} {s1 : Int32} {S0 S : HS} (h : P_X11_stepOf_82 Q X9 v0 v4 v5 v7 v8 s0 s1 S) (K : K8 S0 S) (hX9 : ∀ (u0 : Nat) (u1 : Int32) (u2 : Int32) (u3 : Int32) (u4 : Int32) (u5 : HS), X9 u0 u1 u2 u3 u4 u5 → K8 S0 u5 → X9_2 u0 u1 u2 u3 u4 u5) : P_X11_stepOf_82 (fun r T => Q r T ∧ K8 S0 T) X9_2 v0 v4 v5 v7 v8 s0 s1 S := by
  delta P_X11_stepOf_82 at h ⊢
  intro x2 e1
  have h := h x2 e1
  refine ⟨?_, ?_⟩
  · intro c3
    have h := h.1 c3
    obtain ⟨c4, h⟩ := h
    refine ⟨c4, ?_⟩
    have n5 := k8_nk K c4 (by decide)
    have o6 := c4
    obtain ⟨b7, e8, h⟩ := h
    refine ⟨b7, e8, ?_⟩
    intro x10 e9
    have h := h x10 e9
    intro x12 e11
    have h := h x12 e11
    intro x14 e13
    have h := h x14 e13
    obtain ⟨c15, h⟩ := h
    refine ⟨c15, ?_⟩
    have n16 := k8_nk K c15 (by decide)
    refine cm_X10_ends (kx_X10_ends h) h (fun x17 x18 p20 h g19 => ?_)
    have h := h g19
    have K := k8_tr K p20.2
    have o6 := gr_ob p20.2.1 o6
    exact kx_X11_stepOf_117 h K hX9
  · intro c21
    have h := h.2 c21
    exact kx_X11_stepOf_117 h K hX9
set_option maxRecDepth 20000 in
set_option maxHeartbeats 1000000 in
theorem kxB_X11_stepOf_9 {Q : Int32 → HS → Prop} {X9 X9_2 : Nat → Int32 → Int32 → Int32 → Int32 → HS → Prop} {v0 : Nat} {v4 : Int32} {v5 : Int32} {v6 : Int32} {v7 : Int32} {S0 S : HS} (h : B_X11_stepOf_9 Q X9 v0 v4 v5 v6 v7 S) (K : K8 S0 S) (hX9 : ∀ (u0 : Nat) (u1 : Int32) (u2 : Int32) (u3 : Int32) (u4 : Int32) (u5 : HS), X9 u0 u1 u2 u3 u4 u5 → K8 S0 u5 → X9_2 u0 u1 u2 u3 u4 u5) : B_X11_stepOf_9 (fun r T => Q r T ∧ K8 S0 T) X9_2 v0 v4 v5 v6 v7 S := by
  delta B_X11_stepOf_9 at h ⊢
  obtain ⟨c1, h⟩ := h
  refine ⟨c1, ?_⟩
  have n2 := k8_nk K c1 (by decide)
  have o3 := c1
  obtain ⟨b4, e5, h⟩ := h
  refine ⟨b4, e5, ?_⟩
  have n6 := k8_nr K e5 o3 (by decide)
  refine cm_X11_spotOf (kx_X11_spotOf h) h (fun x7 x8 p10 h g9 => ?_)
  have h := h g9
  have K := k8_tr K p10.2
  have o3 := gr_ob p10.2.1 o3
  obtain ⟨c11, h⟩ := h
  refine ⟨c11, ?_⟩
  obtain ⟨c12, h⟩ := h
  refine ⟨c12, ?_⟩
  intro x14 e13
  have h := h x14 e13
  refine ⟨?_, ?_⟩
  · intro c15
    have h := h.1 c15
    refine ⟨?_, ?_⟩
    · intro c16
      have h := h.1 c16
      exact ⟨h, K⟩
    · intro c17
      have h := h.2 c17
      exact ⟨h, K⟩
  · intro c18
    have h := h.2 c18
    obtain ⟨b19, e20, h⟩ := h
    refine ⟨b19, e20, ?_⟩
    have n21 := k8_nr K e20 o3 (by decide)
    refine cm_X11_spotOf (kx_X11_spotOf h) h (fun x22 x23 p25 h g24 => ?_)
    have h := h g24
    have K := k8_tr K p25.2
    have o3 := gr_ob p25.2.1 o3
    obtain ⟨c26, h⟩ := h
    refine ⟨c26, ?_⟩
    obtain ⟨c27, h⟩ := h
    refine ⟨c27, ?_⟩
    intro x29 e28
    have h := h x29 e28
    refine ⟨?_, ?_⟩
    · intro c30
      have h := h.1 c30
      intro x32 e31
      have h := h x32 e31
      refine ⟨?_, ?_⟩
      · intro c33
        have h := h.1 c33
        obtain ⟨b34, e35, h⟩ := h
        refine ⟨b34, e35, ?_⟩
        intro x37 e36
        have h := h x37 e36
        intro x39 e38
        have h := h x39 e38
        obtain ⟨c40, h⟩ := h
        refine ⟨c40, ?_⟩
        have n41 := k8_nk K c40 (by decide)
        refine cm_X10_minutes (kx_X10_minutes h) h (fun x42 x43 p45 h g44 => ?_)
        have h := h g44
        have K := k8_tr K p45.2
        have o3 := gr_ob p45.2.1 o3
        exact kx_X11_stepOf_82 h K hX9
      · intro c46
        have h := h.2 c46
        exact kx_X11_stepOf_82 h K hX9
    · intro c47
      have h := h.2 c47
      exact ⟨h, K⟩
theorem kx_X11_stepOf_9 {Q : Int32 → HS → Prop} {v0 : Nat} {v4 : Int32} {v5 : Int32} {v6 : Int32} {v7 : Int32} {S0 S : HS} (h : P_X11_stepOf_9 Q v0 v4 v5 v6 v7 S) (K : K8 S0 S) : P_X11_stepOf_9 (fun r T => Q r T ∧ K8 S0 T) v0 v4 v5 v6 v7 S := h (fun v0 v4 v5 v6 v7 S => K8 S0 S → P_X11_stepOf_9 (fun r T => Q r T ∧ K8 S0 T) v0 v4 v5 v6 v7 S) (fun v0 v4 v5 v6 v7 S hB K => fd_X11_stepOf_9 (kxB_X11_stepOf_9 hB K (fun _ _ _ _ _ _ hx K => hx K))) K
set_option maxRecDepth 20000 in
set_option maxHeartbeats 1000000 in
theorem kx_X11_stepOf_0 {Q : Int32 → HS → Prop} {v0 : Nat} {v2 : Int32} {v3 : Int32} {v4 : Int32} {S0 S : HS} (h : P_X11_stepOf_0 Q v0 v2 v3 v4 S) (K : K8 S0 S) : P_X11_stepOf_0 (fun r T => Q r T ∧ K8 S0 T) v0 v2 v3 v4 S := by
  delta P_X11_stepOf_0 at h ⊢
  exact kx_X11_stepOf_9 h K
theorem kx_X11_stepOf {Q : Int32 → HS → Prop} {v0 : Nat} {v1 : Int32} {v2 : Int32} {v3 : Int32} {v4 : Int32} {S : HS} (h : P_X11_stepOf v0 v1 v2 v3 v4 Q S) : P_X11_stepOf v0 v1 v2 v3 v4 (fun r T => Q r T ∧ K8 S T) S := kx_X11_stepOf_0 h (k8_rf S)
set_option maxRecDepth 20000 in
set_option maxHeartbeats 1000000 in
theorem kx_X11_step_49 {Q : Int32 → HS → Prop} {v0 : Nat} {s0 : Int32} {S0 S : HS} (h : P_X11_step_49 Q v0 s0 S) (K : K8 S0 S) : P_X11_step_49 (fun r T => Q r T ∧ K8 S0 T) v0 s0 S := by
  delta P_X11_step_49 at h ⊢
  refine ⟨?_, ?_⟩
  · intro c1
    have h := h.1 c1
    obtain ⟨c2, h⟩ := h
    refine ⟨c2, ?_⟩
    have n3 := k8_nk K c2 (by decide)
    have o4 := c2
    refine cm_X11_good (kx_X11_good h) h (fun x5 x6 p8 h g7 => ?_)
    have h := h g7
    have K := k8_tr K p8.2
    have o4 := gr_ob p8.2.1 o4
    exact ⟨h, K⟩
  · intro c9
    have h := h.2 c9
    obtain ⟨c10, h⟩ := h
    refine ⟨c10, ?_⟩
    have n11 := k8_nk K c10 (by decide)
    have o12 := c10
    refine cm_X11_refused (kx_X11_refused h) h (fun x13 x14 p16 h g15 => ?_)
    have h := h g15
    have K := k8_tr K p16.2
    have o12 := gr_ob p16.2.1 o12
    exact ⟨h, K⟩
set_option maxRecDepth 20000 in
set_option maxHeartbeats 1000000 in
theorem kx_X11_step_0 {Q : Int32 → HS → Prop} {v0 : Nat} {v1 : Int32} {v2 : Int32} {v3 : Int32} {v4 : Int32} {v5 : Int32} {v6 : Int32} {S0 S : HS} (h : P_X11_step_0 Q v0 v1 v2 v3 v4 v5 v6 S) (K : K8 S0 S) : P_X11_step_0 (fun r T => Q r T ∧ K8 S0 T) v0 v1 v2 v3 v4 v5 v6 S := by
  delta P_X11_step_0 at h ⊢
  obtain ⟨c1, h⟩ := h
  refine ⟨c1, ?_⟩
  have n2 := k8_nk K c1 (by decide)
  have o3 := c1
  intro x5 e4
  have h := h x5 e4
  have K := k8_I K e4 n2
  have o3 := ob_wI o3 e4
  refine cm_X11_refusesWay (kx_X11_refusesWay h) h (fun x6 x7 p9 h g8 => ?_)
  have h := h g8
  have K := k8_tr K p9.2
  have o3 := gr_ob p9.2.1 o3
  refine ⟨?_, ?_⟩
  · intro c10
    have h := h.1 c10
    refine ⟨?_, ?_⟩
    · intro c11
      have h := h.1 c11
      refine cm_X11_stepOf (kx_X11_stepOf h) h (fun x12 x13 p15 h g14 => ?_)
      have h := h g14
      have K := k8_tr K p15.2
      have o3 := gr_ob p15.2.1 o3
      exact kx_X11_step_49 h K
    · intro c16
      have h := h.2 c16
      exact kx_X11_step_49 h K
  · intro c17
    have h := h.2 c17
    refine cm_X11_refused (kx_X11_refused h) h (fun x18 x19 p21 h g20 => ?_)
    have h := h g20
    have K := k8_tr K p21.2
    have o3 := gr_ob p21.2.1 o3
    exact ⟨h, K⟩
theorem kx_X11_step {Q : Int32 → HS → Prop} {v0 : Nat} {v1 : Int32} {v2 : Int32} {v3 : Int32} {v4 : Int32} {v5 : Int32} {v6 : Int32} {S : HS} (h : P_X11_step v0 v1 v2 v3 v4 v5 v6 Q S) : P_X11_step v0 v1 v2 v3 v4 v5 v6 (fun r T => Q r T ∧ K8 S T) S := kx_X11_step_0 h (k8_rf S)
set_option maxRecDepth 20000 in
set_option maxHeartbeats 1000000 in
theorem kx_X11_steps_0 {Q : Int32 → HS → Prop} {v0 : Nat} {v1 : Int32} {v2 : Int32} {v3 : Int32} {v4 : Int32} {v5 : Int32} {S0 S : HS} (h : P_X11_steps_0 Q v0 v1 v2 v3 v4 v5 S) (K : K8 S0 S) : P_X11_steps_0 (fun r T => Q r T ∧ K8 S0 T) v0 v1 v2 v3 v4 v5 S := by
  delta P_X11_steps_0 at h ⊢
  obtain ⟨c1, h⟩ := h
  refine ⟨c1, ?_⟩
  have n2 := k8_nk K c1 (by decide)
  have o3 := c1
  intro x5 e4
  have h := h x5 e4
  have K := k8_I K e4 n2
  have o3 := ob_wI o3 e4
  refine cm_X11_refusesWay (kx_X11_refusesWay h) h (fun x6 x7 p9 h g8 => ?_)
  have h := h g8
  have K := k8_tr K p9.2
  have o3 := gr_ob p9.2.1 o3
  refine ⟨?_, ?_⟩
  · intro c10
    have h := h.1 c10
    refine cm_X11_stepOf (kx_X11_stepOf h) h (fun x11 x12 p14 h g13 => ?_)
    have h := h g13
    have K := k8_tr K p14.2
    have o3 := gr_ob p14.2.1 o3
    refine cm_X11_good (kx_X11_good h) h (fun x15 x16 p18 h g17 => ?_)
    have h := h g17
    have K := k8_tr K p18.2
    have o3 := gr_ob p18.2.1 o3
    exact ⟨h, K⟩
  · intro c19
    have h := h.2 c19
    refine cm_X11_refused (kx_X11_refused h) h (fun x20 x21 p23 h g22 => ?_)
    have h := h g22
    have K := k8_tr K p23.2
    have o3 := gr_ob p23.2.1 o3
    exact ⟨h, K⟩
theorem kx_X11_steps {Q : Int32 → HS → Prop} {v0 : Nat} {v1 : Int32} {v2 : Int32} {v3 : Int32} {v4 : Int32} {v5 : Int32} {S : HS} (h : P_X11_steps v0 v1 v2 v3 v4 v5 Q S) : P_X11_steps v0 v1 v2 v3 v4 v5 (fun r T => Q r T ∧ K8 S T) S := kx_X11_steps_0 h (k8_rf S)
set_option maxRecDepth 20000 in
set_option maxHeartbeats 1000000 in
theorem kx_X11_there_0 {Q : Int32 → HS → Prop} {v0 : Nat} {v1 : Int32} {v2 : Int32} {v3 : Int32} {v4 : Int32} {v5 : Int32} {S0 S : HS} (h : P_X11_there_0 Q v0 v1 v2 v3 v4 v5 S) (K : K8 S0 S) : P_X11_there_0 (fun r T => Q r T ∧ K8 S0 T) v0 v1 v2 v3 v4 v5 S := by
  delta P_X11_there_0 at h ⊢
  obtain ⟨c1, h⟩ := h
  refine ⟨c1, ?_⟩
  have n2 := k8_nk K c1 (by decide)
  have o3 := c1
  intro x5 e4
  have h := h x5 e4
  have K := k8_I K e4 n2
  have o3 := ob_wI o3 e4
  refine cm_X11_refusesWay (kx_X11_refusesWay h) h (fun x6 x7 p9 h g8 => ?_)
  have h := h g8
  have K := k8_tr K p9.2
  have o3 := gr_ob p9.2.1 o3
  refine ⟨?_, ?_⟩
  · intro c10
    have h := h.1 c10
    obtain ⟨b11, e12, h⟩ := h
    refine ⟨b11, e12, ?_⟩
    have n13 := k8_nr K e12 o3 (by decide)
    refine cm_X11_spotOf (kx_X11_spotOf h) h (fun x14 x15 p17 h g16 => ?_)
    have h := h g16
    have K := k8_tr K p17.2
    have o3 := gr_ob p17.2.1 o3
    obtain ⟨c18, h⟩ := h
    refine ⟨c18, ?_⟩
    obtain ⟨c19, h⟩ := h
    refine ⟨c19, ?_⟩
    intro x21 e20
    have h := h x21 e20
    refine cm_X11_good (kx_X11_good h) h (fun x22 x23 p25 h g24 => ?_)
    have h := h g24
    have K := k8_tr K p25.2
    have o3 := gr_ob p25.2.1 o3
    exact ⟨h, K⟩
  · intro c26
    have h := h.2 c26
    refine cm_X11_refused (kx_X11_refused h) h (fun x27 x28 p30 h g29 => ?_)
    have h := h g29
    have K := k8_tr K p30.2
    have o3 := gr_ob p30.2.1 o3
    exact ⟨h, K⟩
theorem kx_X11_there {Q : Int32 → HS → Prop} {v0 : Nat} {v1 : Int32} {v2 : Int32} {v3 : Int32} {v4 : Int32} {v5 : Int32} {S : HS} (h : P_X11_there v0 v1 v2 v3 v4 v5 Q S) : P_X11_there v0 v1 v2 v3 v4 v5 (fun r T => Q r T ∧ K8 S T) S := kx_X11_there_0 h (k8_rf S)
set_option maxRecDepth 20000 in
set_option maxHeartbeats 1000000 in
theorem kx_X11_trouble_0 {Q : Int32 → HS → Prop} {v0 : Nat} {S0 S : HS} (h : P_X11_trouble_0 Q v0 S) (K : K8 S0 S) : P_X11_trouble_0 (fun r T => Q r T ∧ K8 S0 T) v0 S := by
  delta P_X11_trouble_0 at h ⊢
  obtain ⟨c1, h⟩ := h
  refine ⟨c1, ?_⟩
  have n2 := k8_nk K c1 (by decide)
  have o3 := c1
  intro x5 e4
  have h := h x5 e4
  have K := k8_I K e4 n2
  have o3 := ob_wI o3 e4
  intro x7 e6
  have h := h x7 e6
  exact ⟨h, K⟩
theorem kx_X11_trouble {Q : Int32 → HS → Prop} {v0 : Nat} {S : HS} (h : P_X11_trouble v0 Q S) : P_X11_trouble v0 (fun r T => Q r T ∧ K8 S T) S := kx_X11_trouble_0 h (k8_rf S)
set_option maxRecDepth 20000 in
set_option maxHeartbeats 1000000 in
theorem kx_X11_undo_19 {Q : Int32 → HS → Prop} {v0 : Nat} {S0 S : HS} (h : P_X11_undo_19 Q v0 S) (K : K8 S0 S) : P_X11_undo_19 (fun r T => Q r T ∧ K8 S0 T) v0 S := by
  delta P_X11_undo_19 at h ⊢
  obtain ⟨c1, h⟩ := h
  refine ⟨c1, ?_⟩
  have n2 := k8_nk K c1 (by decide)
  have o3 := c1
  refine cm_X11_denied (kx_X11_denied h) h (fun x4 x5 p8 h g6 g7 => ?_)
  have h := h g6 g7
  have K := k8_tr K p8.2
  have o3 := gr_ob p8.2.1 o3
  obtain ⟨c9, h⟩ := h
  refine ⟨c9, ?_⟩
  exact ⟨h, K⟩
set_option maxRecDepth 20000 in
set_option maxHeartbeats 1000000 in
theorem kxB_X11_undo_38 {Q : Int32 → HS → Prop} {X38 X38_2 : Nat → Int32 → HS → Prop} {v0 : Nat} {v1 : Int32} {S0 S : HS} (h : B_X11_undo_38 Q X38 v0 v1 S) (K : K8 S0 S) (hX38 : ∀ (u0 : Nat) (u1 : Int32) (u2 : HS), X38 u0 u1 u2 → K8 S0 u2 → X38_2 u0 u1 u2) : B_X11_undo_38 (fun r T => Q r T ∧ K8 S0 T) X38_2 v0 v1 S := by
  delta B_X11_undo_38 at h ⊢
  refine ⟨?_, ?_⟩
  · intro c1
    have h := h.1 c1
    obtain ⟨c2, h⟩ := h
    refine ⟨c2, ?_⟩
    have n3 := k8_nk K c2 (by decide)
    have o4 := c2
    refine cm_X11_granted (kx_X11_granted h) h (fun x5 x6 p9 h g7 g8 => ?_)
    have h := h g7 g8
    have K := k8_tr K p9.2
    have o4 := gr_ob p9.2.1 o4
    obtain ⟨c10, h⟩ := h
    refine ⟨c10, ?_⟩
    exact ⟨h, K⟩
  · intro c11
    have h := h.2 c11
    obtain ⟨c12, h⟩ := h
    refine ⟨c12, ?_⟩
    have n13 := k8_nk K c12 (by decide)
    have o14 := c12
    obtain ⟨b15, e16, h⟩ := h
    refine ⟨b15, e16, ?_⟩
    obtain ⟨b17, e18, h⟩ := h
    refine ⟨b17, e18, ?_⟩
    intro x20 e19
    have h := h x20 e19
    obtain ⟨c21, h⟩ := h
    refine ⟨c21, ?_⟩
    have n22 := k8_nk K c21 (by decide)
    intro x24 e23
    have h := h x24 e23
    obtain ⟨c25, h⟩ := h
    refine ⟨c25, ?_⟩
    intro x27 e26
    have h := h x27 e26
    obtain ⟨c28, h⟩ := h
    refine ⟨c28, ?_⟩
    have n29 := k8_nk K c28 (by decide)
    obtain ⟨c30, h⟩ := h
    refine ⟨c30, ?_⟩
    intro x32 e31
    have h := h x32 e31
    have K := k8_J K e31
    have o14 := ob_wJ o14 e31
    intro x34 e33
    have h := h x34 e33
    exact hX38 _ _ _ h K
theorem kx_X11_undo_38 {Q : Int32 → HS → Prop} {v0 : Nat} {v1 : Int32} {S0 S : HS} (h : P_X11_undo_38 Q v0 v1 S) (K : K8 S0 S) : P_X11_undo_38 (fun r T => Q r T ∧ K8 S0 T) v0 v1 S := h (fun v0 v1 S => K8 S0 S → P_X11_undo_38 (fun r T => Q r T ∧ K8 S0 T) v0 v1 S) (fun v0 v1 S hB K => fd_X11_undo_38 (kxB_X11_undo_38 hB K (fun _ _ _ hx K => hx K))) K
set_option maxRecDepth 20000 in
set_option maxHeartbeats 1000000 in
theorem kx_X11_undo_0 {Q : Int32 → HS → Prop} {v0 : Nat} {S0 S : HS} (h : P_X11_undo_0 Q v0 S) (K : K8 S0 S) : P_X11_undo_0 (fun r T => Q r T ∧ K8 S0 T) v0 S := by
  delta P_X11_undo_0 at h ⊢
  obtain ⟨c1, h⟩ := h
  refine ⟨c1, ?_⟩
  have n2 := k8_nk K c1 (by decide)
  have o3 := c1
  intro x5 e4
  have h := h x5 e4
  have K := k8_I K e4 n2
  have o3 := ob_wI o3 e4
  refine cm_X11_isDay (kx_X11_isDay h) h (fun x6 x7 p10 h g8 g9 => ?_)
  have h := h g8 g9
  have K := k8_tr K p10.2
  have o3 := gr_ob p10.2.1 o3
  refine ⟨?_, ?_⟩
  · intro c11
    have h := h.1 c11
    exact kx_X11_undo_19 h K
  · intro c12
    have h := h.2 c12
    intro x14 e13
    have h := h x14 e13
    refine ⟨?_, ?_⟩
    · intro c15
      have h := h.1 c15
      intro x17 e16
      have h := h x17 e16
      intro x19 e18
      have h := h x19 e18
      intro x21 e20
      have h := h x21 e20
      have K := k8_I K e20 n2
      have o3 := ob_wI o3 e20
      exact kx_X11_undo_38 h K
    · intro c22
      have h := h.2 c22
      exact kx_X11_undo_19 h K
theorem kx_X11_undo {Q : Int32 → HS → Prop} {v0 : Nat} {S : HS} (h : P_X11_undo v0 Q S) : P_X11_undo v0 (fun r T => Q r T ∧ K8 S T) S := kx_X11_undo_0 h (k8_rf S)
set_option maxRecDepth 20000 in
set_option maxHeartbeats 1000000 in
theorem kx_X11_walker_23 {Q : Int32 → HS → Prop} {v0 : Nat} {S0 S : HS} (h : P_X11_walker_23 Q v0 S) (K : K8 S0 S) : P_X11_walker_23 (fun r T => Q r T ∧ K8 S0 T) v0 S := by
  delta P_X11_walker_23 at h ⊢
  obtain ⟨c1, h⟩ := h
  refine ⟨c1, ?_⟩
  have n2 := k8_nk K c1 (by decide)
  have o3 := c1
  refine cm_X11_refused (kx_X11_refused h) h (fun x4 x5 p7 h g6 => ?_)
  have h := h g6
  have K := k8_tr K p7.2
  have o3 := gr_ob p7.2.1 o3
  exact ⟨h, K⟩
set_option maxRecDepth 20000 in
set_option maxHeartbeats 1000000 in
theorem kx_X11_walker_0 {Q : Int32 → HS → Prop} {v0 : Nat} {v1 : Int32} {v2 : Int32} {S0 S : HS} (h : P_X11_walker_0 Q v0 v1 v2 S) (K : K8 S0 S) : P_X11_walker_0 (fun r T => Q r T ∧ K8 S0 T) v0 v1 v2 S := by
  delta P_X11_walker_0 at h ⊢
  obtain ⟨c1, h⟩ := h
  refine ⟨c1, ?_⟩
  have n2 := k8_nk K c1 (by decide)
  have o3 := c1
  intro x5 e4
  have h := h x5 e4
  have K := k8_I K e4 n2
  have o3 := ob_wI o3 e4
  refine cm_X11_isWalker (kx_X11_isWalker h) h (fun x6 x7 p10 h g8 g9 => ?_)
  have h := h g8 g9
  have K := k8_tr K p10.2
  have o3 := gr_ob p10.2.1 o3
  refine ⟨?_, ?_⟩
  · intro c11
    have h := h.1 c11
    exact kx_X11_walker_23 h K
  · intro c12
    have h := h.2 c12
    refine cm_X11_in (kx_X11_in h) h (fun x13 x14 p17 h g15 g16 => ?_)
    have h := h g15 g16
    have K := k8_tr K p17.2
    have o3 := gr_ob p17.2.1 o3
    refine ⟨?_, ?_⟩
    · intro c18
      have h := h.1 c18
      refine ⟨?_, ?_, ?_, ?_, ?_, ?_, ?_⟩
      · intro c19
        have h := h.1 c19
        obtain ⟨b20, e21, h⟩ := h
        refine ⟨b20, e21, ?_⟩
        obtain ⟨c22, h⟩ := h
        refine ⟨c22, ?_⟩
        have n23 := k8_nk K c22 (by decide)
        obtain ⟨b24, e25, h⟩ := h
        refine ⟨b24, e25, ?_⟩
        obtain ⟨c26, h⟩ := h
        refine ⟨c26, ?_⟩
        obtain ⟨c27, h⟩ := h
        refine ⟨c27, ?_⟩
        intro x29 e28
        have h := h x29 e28
        refine cm_X11_good (kx_X11_good h) h (fun x30 x31 p33 h g32 => ?_)
        have h := h g32
        have K := k8_tr K p33.2
        have o3 := gr_ob p33.2.1 o3
        exact ⟨h, K⟩
      · intro c34
        have h := h.2.1 c34
        obtain ⟨b35, e36, h⟩ := h
        refine ⟨b35, e36, ?_⟩
        obtain ⟨c37, h⟩ := h
        refine ⟨c37, ?_⟩
        have n38 := k8_nk K c37 (by decide)
        obtain ⟨b39, e40, h⟩ := h
        refine ⟨b39, e40, ?_⟩
        obtain ⟨c41, h⟩ := h
        refine ⟨c41, ?_⟩
        obtain ⟨c42, h⟩ := h
        refine ⟨c42, ?_⟩
        intro x44 e43
        have h := h x44 e43
        refine cm_X11_good (kx_X11_good h) h (fun x45 x46 p48 h g47 => ?_)
        have h := h g47
        have K := k8_tr K p48.2
        have o3 := gr_ob p48.2.1 o3
        exact ⟨h, K⟩
      · intro c49
        have h := h.2.2.1 c49
        obtain ⟨b50, e51, h⟩ := h
        refine ⟨b50, e51, ?_⟩
        obtain ⟨c52, h⟩ := h
        refine ⟨c52, ?_⟩
        have n53 := k8_nk K c52 (by decide)
        obtain ⟨b54, e55, h⟩ := h
        refine ⟨b54, e55, ?_⟩
        obtain ⟨c56, h⟩ := h
        refine ⟨c56, ?_⟩
        obtain ⟨c57, h⟩ := h
        refine ⟨c57, ?_⟩
        intro x59 e58
        have h := h x59 e58
        refine cm_X11_good (kx_X11_good h) h (fun x60 x61 p63 h g62 => ?_)
        have h := h g62
        have K := k8_tr K p63.2
        have o3 := gr_ob p63.2.1 o3
        exact ⟨h, K⟩
      · intro c64
        have h := h.2.2.2.1 c64
        obtain ⟨b65, e66, h⟩ := h
        refine ⟨b65, e66, ?_⟩
        obtain ⟨c67, h⟩ := h
        refine ⟨c67, ?_⟩
        have n68 := k8_nk K c67 (by decide)
        obtain ⟨b69, e70, h⟩ := h
        refine ⟨b69, e70, ?_⟩
        obtain ⟨c71, h⟩ := h
        refine ⟨c71, ?_⟩
        obtain ⟨c72, h⟩ := h
        refine ⟨c72, ?_⟩
        intro x74 e73
        have h := h x74 e73
        refine cm_X11_good (kx_X11_good h) h (fun x75 x76 p78 h g77 => ?_)
        have h := h g77
        have K := k8_tr K p78.2
        have o3 := gr_ob p78.2.1 o3
        exact ⟨h, K⟩
      · intro c79
        have h := h.2.2.2.2.1 c79
        obtain ⟨b80, e81, h⟩ := h
        refine ⟨b80, e81, ?_⟩
        obtain ⟨c82, h⟩ := h
        refine ⟨c82, ?_⟩
        have n83 := k8_nk K c82 (by decide)
        obtain ⟨b84, e85, h⟩ := h
        refine ⟨b84, e85, ?_⟩
        obtain ⟨c86, h⟩ := h
        refine ⟨c86, ?_⟩
        obtain ⟨c87, h⟩ := h
        refine ⟨c87, ?_⟩
        intro x89 e88
        have h := h x89 e88
        refine cm_X11_good (kx_X11_good h) h (fun x90 x91 p93 h g92 => ?_)
        have h := h g92
        have K := k8_tr K p93.2
        have o3 := gr_ob p93.2.1 o3
        exact ⟨h, K⟩
      · intro c94
        have h := h.2.2.2.2.2.1 c94
        obtain ⟨b95, e96, h⟩ := h
        refine ⟨b95, e96, ?_⟩
        obtain ⟨c97, h⟩ := h
        refine ⟨c97, ?_⟩
        have n98 := k8_nk K c97 (by decide)
        obtain ⟨b99, e100, h⟩ := h
        refine ⟨b99, e100, ?_⟩
        obtain ⟨c101, h⟩ := h
        refine ⟨c101, ?_⟩
        obtain ⟨c102, h⟩ := h
        refine ⟨c102, ?_⟩
        intro x104 e103
        have h := h x104 e103
        refine cm_X11_good (kx_X11_good h) h (fun x105 x106 p108 h g107 => ?_)
        have h := h g107
        have K := k8_tr K p108.2
        have o3 := gr_ob p108.2.1 o3
        exact ⟨h, K⟩
      · intro c109
        have h := h.2.2.2.2.2.2 c109
        obtain ⟨b110, e111, h⟩ := h
        refine ⟨b110, e111, ?_⟩
        obtain ⟨c112, h⟩ := h
        refine ⟨c112, ?_⟩
        have n113 := k8_nk K c112 (by decide)
        obtain ⟨b114, e115, h⟩ := h
        refine ⟨b114, e115, ?_⟩
        obtain ⟨c116, h⟩ := h
        refine ⟨c116, ?_⟩
        obtain ⟨c117, h⟩ := h
        refine ⟨c117, ?_⟩
        intro x119 e118
        have h := h x119 e118
        refine cm_X11_good (kx_X11_good h) h (fun x120 x121 p123 h g122 => ?_)
        have h := h g122
        have K := k8_tr K p123.2
        have o3 := gr_ob p123.2.1 o3
        exact ⟨h, K⟩
    · intro c124
      have h := h.2 c124
      exact kx_X11_walker_23 h K
theorem kx_X11_walker {Q : Int32 → HS → Prop} {v0 : Nat} {v1 : Int32} {v2 : Int32} {S : HS} (h : P_X11_walker v0 v1 v2 Q S) : P_X11_walker v0 v1 v2 (fun r T => Q r T ∧ K8 S T) S := kx_X11_walker_0 h (k8_rf S)
set_option maxRecDepth 20000 in
set_option maxHeartbeats 1000000 in
theorem kx_X11_wet_0 {Q : Int64 → HS → Prop} {v0 : Nat} {v1 : Int32} {v2 : Int32} {v3 : Int32} {v4 : Int32} {v5 : Int32} {v6 : Int32} {S0 S : HS} (h : P_X11_wet_0 Q v0 v1 v2 v3 v4 v5 v6 S) (K : K8 S0 S) : P_X11_wet_0 (fun r T => Q r T ∧ K8 S0 T) v0 v1 v2 v3 v4 v5 v6 S := by
  delta P_X11_wet_0 at h ⊢
  obtain ⟨c1, h⟩ := h
  refine ⟨c1, ?_⟩
  have n2 := k8_nk K c1 (by decide)
  have o3 := c1
  intro x5 e4
  have h := h x5 e4
  have K := k8_I K e4 n2
  have o3 := ob_wI o3 e4
  refine cm_X11_refuses (kx_X11_refuses h) h (fun x6 x7 p9 h g8 => ?_)
  have h := h g8
  have K := k8_tr K p9.2
  have o3 := gr_ob p9.2.1 o3
  refine ⟨?_, ?_⟩
  · intro c10
    have h := h.1 c10
    refine cm_X11_wetOf (kx_X11_wetOf h) h (fun x11 x12 p14 h g13 => ?_)
    have h := h g13
    have K := k8_tr K p14.2
    have o3 := gr_ob p14.2.1 o3
    refine cm_X11_told (kx_X11_told h) h (fun x15 x16 p18 h g17 => ?_)
    have h := h g17
    have K := k8_tr K p18.2
    have o3 := gr_ob p18.2.1 o3
    exact ⟨h, K⟩
  · intro c19
    have h := h.2 c19
    refine cm_X11_refused (kx_X11_refused h) h (fun x20 x21 p23 h g22 => ?_)
    have h := h g22
    have K := k8_tr K p23.2
    have o3 := gr_ob p23.2.1 o3
    exact ⟨h, K⟩
theorem kx_X11_wet {Q : Int64 → HS → Prop} {v0 : Nat} {v1 : Int32} {v2 : Int32} {v3 : Int32} {v4 : Int32} {v5 : Int32} {v6 : Int32} {S : HS} (h : P_X11_wet v0 v1 v2 v3 v4 v5 v6 Q S) : P_X11_wet v0 v1 v2 v3 v4 v5 v6 (fun r T => Q r T ∧ K8 S T) S := kx_X11_wet_0 h (k8_rf S)
set_option maxRecDepth 20000 in
set_option maxHeartbeats 1000000 in
theorem kx_X11_wetness_41 {Q : Int64 → HS → Prop} {v1 : Int32} {s0 : Nat} {s1 : Int64} {S0 S : HS} (h : P_X11_wetness_41 Q v1 s0 s1 S) (K : K8 S0 S) : P_X11_wetness_41 (fun r T => Q r T ∧ K8 S0 T) v1 s0 s1 S := by
  delta P_X11_wetness_41 at h ⊢
  obtain ⟨c1, h⟩ := h
  refine ⟨c1, ?_⟩
  have n2 := k8_nk K c1 (by decide)
  have o3 := c1
  refine cm_X11_told (kx_X11_told h) h (fun x4 x5 p7 h g6 => ?_)
  have h := h g6
  have K := k8_tr K p7.2
  have o3 := gr_ob p7.2.1 o3
  exact ⟨h, K⟩
set_option maxRecDepth 20000 in
set_option maxHeartbeats 1000000 in
theorem kx_X11_wetness_0 {Q : Int64 → HS → Prop} {v0 : Nat} {v1 : Int32} {S0 S : HS} (h : P_X11_wetness_0 Q v0 v1 S) (K : K8 S0 S) : P_X11_wetness_0 (fun r T => Q r T ∧ K8 S0 T) v0 v1 S := by
  delta P_X11_wetness_0 at h ⊢
  obtain ⟨c1, h⟩ := h
  refine ⟨c1, ?_⟩
  have n2 := k8_nk K c1 (by decide)
  have o3 := c1
  intro x5 e4
  have h := h x5 e4
  have K := k8_I K e4 n2
  have o3 := ob_wI o3 e4
  refine cm_X11_isDay (kx_X11_isDay h) h (fun x6 x7 p10 h g8 g9 => ?_)
  have h := h g8 g9
  have K := k8_tr K p10.2
  have o3 := gr_ob p10.2.1 o3
  refine ⟨?_, ?_⟩
  · intro c11
    have h := h.1 c11
    refine cm_X11_gotInAll (kx_X11_gotInAll h) h (fun x12 x13 p15 h g14 => ?_)
    have h := h g14
    have K := k8_tr K p15.2
    have o3 := gr_ob p15.2.1 o3
    refine cm_X11_holds (kx_X11_holds h) h (fun x16 x17 p19 h g18 => ?_)
    have h := h g18
    have K := k8_tr K p19.2
    have o3 := gr_ob p19.2.1 o3
    intro x21 e20
    have h := h x21 e20
    refine ⟨?_, ?_⟩
    · intro c22
      have h := h.1 c22
      exact kx_X11_wetness_41 h K
    · intro c23
      have h := h.2 c23
      exact kx_X11_wetness_41 h K
  · intro c24
    have h := h.2 c24
    refine cm_X11_refused (kx_X11_refused h) h (fun x25 x26 p28 h g27 => ?_)
    have h := h g27
    have K := k8_tr K p28.2
    have o3 := gr_ob p28.2.1 o3
    exact ⟨h, K⟩
theorem kx_X11_wetness {Q : Int64 → HS → Prop} {v0 : Nat} {v1 : Int32} {S : HS} (h : P_X11_wetness v0 v1 Q S) : P_X11_wetness v0 v1 (fun r T => Q r T ∧ K8 S T) S := kx_X11_wetness_0 h (k8_rf S)
set_option maxRecDepth 20000 in
set_option maxHeartbeats 1000000 in
theorem kx_X11_where_0 {Q : Int32 → HS → Prop} {v0 : Nat} {S0 S : HS} (h : P_X11_where_0 Q v0 S) (K : K8 S0 S) : P_X11_where_0 (fun r T => Q r T ∧ K8 S0 T) v0 S := by
  delta P_X11_where_0 at h ⊢
  obtain ⟨c1, h⟩ := h
  refine ⟨c1, ?_⟩
  have n2 := k8_nk K c1 (by decide)
  have o3 := c1
  intro x5 e4
  have h := h x5 e4
  have K := k8_I K e4 n2
  have o3 := ob_wI o3 e4
  intro x7 e6
  have h := h x7 e6
  exact ⟨h, K⟩
theorem kx_X11_where {Q : Int32 → HS → Prop} {v0 : Nat} {S : HS} (h : P_X11_where v0 Q S) : P_X11_where v0 (fun r T => Q r T ∧ K8 S T) S := kx_X11_where_0 h (k8_rf S)
set_option maxRecDepth 20000 in
set_option maxHeartbeats 1000000 in
theorem kx_X11_worst_39 {Q : Int32 → HS → Prop} {v0 : Nat} {S0 S : HS} (h : P_X11_worst_39 Q v0 S) (K : K8 S0 S) : P_X11_worst_39 (fun r T => Q r T ∧ K8 S0 T) v0 S := by
  delta P_X11_worst_39 at h ⊢
  obtain ⟨c1, h⟩ := h
  refine ⟨c1, ?_⟩
  have n2 := k8_nk K c1 (by decide)
  have o3 := c1
  refine cm_X11_refused (kx_X11_refused h) h (fun x4 x5 p7 h g6 => ?_)
  have h := h g6
  have K := k8_tr K p7.2
  have o3 := gr_ob p7.2.1 o3
  exact ⟨h, K⟩
set_option maxRecDepth 20000 in
set_option maxHeartbeats 1000000 in
theorem kx_X11_worst_106 {Q : Int32 → HS → Prop} {X62 X62_2 : Nat → Int32 → Int32 → Int32 → Int32 → Int32 → Int32 → HS → Prop} {v0 : Nat} {v1 : Int32} {v2 : Int32} {v3 : Int32} {v4 : Int32} {v5 : Int32} {v6 : Int32} {S0 S : HS} (h : P_X11_worst_106 Q X62 v0 v1 v2 v3 v4 v5 v6 S) (K : K8 S0 S) (hX62 : ∀ (u0 : Nat) (u1 : Int32) (u2 : Int32) (u3 : Int32) (u4 : Int32) (u5 : Int32) (u6 : Int32) (u7 : HS), X62 u0 u1 u2 u3 u4 u5 u6 u7 → K8 S0 u7 → X62_2 u0 u1 u2 u3 u4 u5 u6 u7) : P_X11_worst_106 (fun r T => Q r T ∧ K8 S0 T) X62_2 v0 v1 v2 v3 v4 v5 v6 S := by
  delta P_X11_worst_106 at h ⊢
  intro x2 e1
  have h := h x2 e1
  exact hX62 _ _ _ _ _ _ _ _ h K
set_option maxRecDepth 20000 in
set_option maxHeartbeats 1000000 in
theorem kxB_X11_worst_62 {Q : Int32 → HS → Prop} {X62 X62_2 : Nat → Int32 → Int32 → Int32 → Int32 → Int32 → Int32 → HS → Prop} {v0 : Nat} {v1 : Int32} {v2 : Int32} {v3 : Int32} {v4 : Int32} {v5 : Int32} {v6 : Int32} {S0 S : HS} (h : B_X11_worst_62 Q X62 v0 v1 v2 v3 v4 v5 v6 S) (K : K8 S0 S) (hX62 : ∀ (u0 : Nat) (u1 : Int32) (u2 : Int32) (u3 : Int32) (u4 : Int32) (u5 : Int32) (u6 : Int32) (u7 : HS), X62 u0 u1 u2 u3 u4 u5 u6 u7 → K8 S0 u7 → X62_2 u0 u1 u2 u3 u4 u5 u6 u7) : B_X11_worst_62 (fun r T => Q r T ∧ K8 S0 T) X62_2 v0 v1 v2 v3 v4 v5 v6 S := by
  delta B_X11_worst_62 at h ⊢
  obtain ⟨c1, h⟩ := h
  refine ⟨c1, ?_⟩
  have n2 := k8_nk K c1 (by decide)
  have o3 := c1
  obtain ⟨b4, e5, h⟩ := h
  refine ⟨b4, e5, ?_⟩
  obtain ⟨c6, h⟩ := h
  refine ⟨c6, ?_⟩
  have n7 := k8_nk K c6 (by decide)
  obtain ⟨b8, e9, h⟩ := h
  refine ⟨b8, e9, ?_⟩
  obtain ⟨c10, h⟩ := h
  refine ⟨c10, ?_⟩
  obtain ⟨c11, h⟩ := h
  refine ⟨c11, ?_⟩
  intro x13 e12
  have h := h x13 e12
  refine ⟨?_, ?_⟩
  · intro c14
    have h := h.1 c14
    refine cm_X11_good (kx_X11_good h) h (fun x15 x16 p18 h g17 => ?_)
    have h := h g17
    have K := k8_tr K p18.2
    have o3 := gr_ob p18.2.1 o3
    exact ⟨h, K⟩
  · intro c19
    have h := h.2 c19
    refine cm_X11_wetOf (kx_X11_wetOf h) h (fun x20 x21 p23 h g22 => ?_)
    have h := h g22
    have K := k8_tr K p23.2
    have o3 := gr_ob p23.2.1 o3
    refine cm_X11_wetOf (kx_X11_wetOf h) h (fun x24 x25 p27 h g26 => ?_)
    have h := h g26
    have K := k8_tr K p27.2
    have o3 := gr_ob p27.2.1 o3
    refine ⟨?_, ?_⟩
    · intro c28
      have h := h.1 c28
      exact kx_X11_worst_106 h K hX62
    · intro c29
      have h := h.2 c29
      exact kx_X11_worst_106 h K hX62
theorem kx_X11_worst_62 {Q : Int32 → HS → Prop} {v0 : Nat} {v1 : Int32} {v2 : Int32} {v3 : Int32} {v4 : Int32} {v5 : Int32} {v6 : Int32} {S0 S : HS} (h : P_X11_worst_62 Q v0 v1 v2 v3 v4 v5 v6 S) (K : K8 S0 S) : P_X11_worst_62 (fun r T => Q r T ∧ K8 S0 T) v0 v1 v2 v3 v4 v5 v6 S := h (fun v0 v1 v2 v3 v4 v5 v6 S => K8 S0 S → P_X11_worst_62 (fun r T => Q r T ∧ K8 S0 T) v0 v1 v2 v3 v4 v5 v6 S) (fun v0 v1 v2 v3 v4 v5 v6 S hB K => fd_X11_worst_62 (kxB_X11_worst_62 hB K (fun _ _ _ _ _ _ _ _ hx K => hx K))) K
set_option maxRecDepth 20000 in
set_option maxHeartbeats 1000000 in
theorem kx_X11_worst_0 {Q : Int32 → HS → Prop} {v0 : Nat} {v1 : Int32} {v2 : Int32} {v3 : Int32} {v4 : Int32} {S0 S : HS} (h : P_X11_worst_0 Q v0 v1 v2 v3 v4 S) (K : K8 S0 S) : P_X11_worst_0 (fun r T => Q r T ∧ K8 S0 T) v0 v1 v2 v3 v4 S := by
  delta P_X11_worst_0 at h ⊢
  obtain ⟨c1, h⟩ := h
  refine ⟨c1, ?_⟩
  have n2 := k8_nk K c1 (by decide)
  have o3 := c1
  intro x5 e4
  have h := h x5 e4
  have K := k8_I K e4 n2
  have o3 := ob_wI o3 e4
  refine cm_X11_isWalker (kx_X11_isWalker h) h (fun x6 x7 p10 h g8 g9 => ?_)
  have h := h g8 g9
  have K := k8_tr K p10.2
  have o3 := gr_ob p10.2.1 o3
  refine ⟨?_, ?_⟩
  · intro c11
    have h := h.1 c11
    exact kx_X11_worst_39 h K
  · intro c12
    have h := h.2 c12
    refine cm_X11_isRoad (kx_X11_isRoad h) h (fun x13 x14 p17 h g15 g16 => ?_)
    have h := h g15 g16
    have K := k8_tr K p17.2
    have o3 := gr_ob p17.2.1 o3
    refine ⟨?_, ?_⟩
    · intro c18
      have h := h.1 c18
      exact kx_X11_worst_39 h K
    · intro c19
      have h := h.2 c19
      refine cm_X11_in (kx_X11_in h) h (fun x20 x21 p24 h g22 g23 => ?_)
      have h := h g22 g23
      have K := k8_tr K p24.2
      have o3 := gr_ob p24.2.1 o3
      refine ⟨?_, ?_⟩
      · intro c25
        have h := h.1 c25
        exact kx_X11_worst_39 h K
      · intro c26
        have h := h.2 c26
        refine cm_X11_isHour (kx_X11_isHour h) h (fun x27 x28 p31 h g29 g30 => ?_)
        have h := h g29 g30
        have K := k8_tr K p31.2
        have o3 := gr_ob p31.2.1 o3
        refine ⟨?_, ?_⟩
        · intro c32
          have h := h.1 c32
          obtain ⟨b33, e34, h⟩ := h
          refine ⟨b33, e34, ?_⟩
          obtain ⟨c35, h⟩ := h
          refine ⟨c35, ?_⟩
          have n36 := k8_nk K c35 (by decide)
          obtain ⟨b37, e38, h⟩ := h
          refine ⟨b37, e38, ?_⟩
          obtain ⟨c39, h⟩ := h
          refine ⟨c39, ?_⟩
          obtain ⟨c40, h⟩ := h
          refine ⟨c40, ?_⟩
          intro x42 e41
          have h := h x42 e41
          intro x44 e43
          have h := h x44 e43
          exact kx_X11_worst_62 h K
        · intro c45
          have h := h.2 c45
          exact kx_X11_worst_39 h K
theorem kx_X11_worst {Q : Int32 → HS → Prop} {v0 : Nat} {v1 : Int32} {v2 : Int32} {v3 : Int32} {v4 : Int32} {S : HS} (h : P_X11_worst v0 v1 v2 v3 v4 Q S) : P_X11_worst v0 v1 v2 v3 v4 (fun r T => Q r T ∧ K8 S T) S := kx_X11_worst_0 h (k8_rf S)
set_option maxRecDepth 20000 in
set_option maxHeartbeats 1000000 in
theorem kx_X5_turnOf_17 {Q : Int32 → HS → Prop} {v2 : Nat} {s0 : Int32} {S0 S : HS} (h : P_X5_turnOf_17 Q v2 s0 S) (K : K8 S0 S) : P_X5_turnOf_17 (fun r T => Q r T ∧ K8 S0 T) v2 s0 S := by
  delta P_X5_turnOf_17 at h ⊢
  obtain ⟨c1, h⟩ := h
  refine ⟨c1, ?_⟩
  have n2 := k8_nk K c1 (by decide)
  intro x4 e3
  have h := h x4 e3
  exact ⟨h, K⟩
set_option maxRecDepth 20000 in
set_option maxHeartbeats 1000000 in
theorem kx_X5_turnOf_0 {Q : Int32 → HS → Prop} {v0 : Nat} {v1 : Int32} {v2 : Nat} {S0 S : HS} (h : P_X5_turnOf_0 Q v0 v1 v2 S) (K : K8 S0 S) : P_X5_turnOf_0 (fun r T => Q r T ∧ K8 S0 T) v0 v1 v2 S := by
  delta P_X5_turnOf_0 at h ⊢
  refine ⟨?_, ?_⟩
  · intro c1
    have h := h.1 c1
    obtain ⟨c2, h⟩ := h
    refine ⟨c2, ?_⟩
    have n3 := k8_nk K c2 (by decide)
    intro x5 e4
    have h := h x5 e4
    exact kx_X5_turnOf_17 h K
  · intro c6
    have h := h.2 c6
    obtain ⟨c7, h⟩ := h
    refine ⟨c7, ?_⟩
    have n8 := k8_nk K c7 (by decide)
    intro x10 e9
    have h := h x10 e9
    exact kx_X5_turnOf_17 h K
theorem kx_X5_turnOf {Q : Int32 → HS → Prop} {v0 : Nat} {v1 : Int32} {v2 : Nat} {S : HS} (h : P_X5_turnOf v0 v1 v2 Q S) : P_X5_turnOf v0 v1 v2 (fun r T => Q r T ∧ K8 S T) S := kx_X5_turnOf_0 h (k8_rf S)
set_option maxRecDepth 20000 in
set_option maxHeartbeats 1000000 in
theorem kx_X5_airAlong_0 {Q : Int32 → HS → Prop} {v0 : Nat} {v1 : Int32} {v2 : Nat} {S0 S : HS} (h : P_X5_airAlong_0 Q v0 v1 v2 S) (K : K8 S0 S) : P_X5_airAlong_0 (fun r T => Q r T ∧ K8 S0 T) v0 v1 v2 S := by
  delta P_X5_airAlong_0 at h ⊢
  obtain ⟨c1, h⟩ := h
  refine ⟨c1, ?_⟩
  have n2 := k8_nk K c1 (by decide)
  refine cm_X5_turnOf (kx_X5_turnOf h) h (fun x3 x4 p6 h g5 => ?_)
  have h := h g5
  have K := k8_tr K p6.2
  refine ⟨?_, ?_⟩
  · intro c7
    have h := h.1 c7
    refine ⟨?_, ?_⟩
    · intro c8
      have h := h.1 c8
      exact ⟨h, K⟩
    · intro c9
      have h := h.2 c9
      obtain ⟨c10, h⟩ := h
      refine ⟨c10, ?_⟩
      have n11 := k8_nk K c10 (by decide)
      intro x13 e12
      have h := h x13 e12
      exact ⟨h, K⟩
  · intro c14
    have h := h.2 c14
    obtain ⟨c15, h⟩ := h
    refine ⟨c15, ?_⟩
    have n16 := k8_nk K c15 (by decide)
    intro x18 e17
    have h := h x18 e17
    exact ⟨h, K⟩
theorem kx_X5_airAlong {Q : Int32 → HS → Prop} {v0 : Nat} {v1 : Int32} {v2 : Nat} {S : HS} (h : P_X5_airAlong v0 v1 v2 Q S) : P_X5_airAlong v0 v1 v2 (fun r T => Q r T ∧ K8 S T) S := kx_X5_airAlong_0 h (k8_rf S)
set_option maxRecDepth 20000 in
set_option maxHeartbeats 1000000 in
theorem kx_X1_lay_130 {Q : HS → Prop} {v0 : Nat} {v3 : Nat} {v7 : Int64} {v9 : Int32} {s0 : Nat} {s1 : Int32} {s2 : Int64} {S0 S : HS} (h : P_X1_lay_130 Q v0 v3 v7 v9 s0 s1 s2 S) (K : K8 S0 S) : P_X1_lay_130 (fun T => Q T ∧ K8 S0 T) v0 v3 v7 v9 s0 s1 s2 S := by
  delta P_X1_lay_130 at h ⊢
  obtain ⟨c1, h⟩ := h
  refine ⟨c1, ?_⟩
  have n2 := k8_nk K c1 (by decide)
  obtain ⟨c3, h⟩ := h
  refine ⟨c3, ?_⟩
  intro x5 e4
  have h := h x5 e4
  have K := k8_J K e4
  obtain ⟨c6, h⟩ := h
  refine ⟨c6, ?_⟩
  have n7 := k8_nk K c6 (by decide)
  obtain ⟨b8, e9, h⟩ := h
  refine ⟨b8, e9, ?_⟩
  refine ⟨?_, ?_⟩
  · intro c10
    have h := h.1 c10
    obtain ⟨c11, h⟩ := h
    refine ⟨c11, ?_⟩
    have n12 := k8_nk K c11 (by decide)
    obtain ⟨c13, h⟩ := h
    refine ⟨c13, ?_⟩
    intro x15 e14
    have h := h x15 e14
    have K := k8_J K e14
    exact ⟨h, K⟩
  · intro c16
    have h := h.2 c16
    obtain ⟨c17, h⟩ := h
    refine ⟨c17, ?_⟩
    have n18 := k8_nk K c17 (by decide)
    intro x20 e19
    have h := h x20 e19
    obtain ⟨c21, h⟩ := h
    refine ⟨c21, ?_⟩
    have n22 := k8_nk K c21 (by decide)
    intro x24 e23
    have h := h x24 e23
    obtain ⟨c25, h⟩ := h
    refine ⟨c25, ?_⟩
    intro x27 e26
    have h := h x27 e26
    have K := k8_J K e26
    exact ⟨h, K⟩
set_option maxRecDepth 20000 in
set_option maxHeartbeats 1000000 in
theorem kx_X1_lay_27 {Q : HS → Prop} {v0 : Nat} {v1 : Nat} {v2 : Int32} {v3 : Nat} {v4 : Int32} {s0 : Int64} {S0 S : HS} (h : P_X1_lay_27 Q v0 v1 v2 v3 v4 s0 S) (K : K8 S0 S) : P_X1_lay_27 (fun T => Q T ∧ K8 S0 T) v0 v1 v2 v3 v4 s0 S := by
  delta P_X1_lay_27 at h ⊢
  obtain ⟨c1, h⟩ := h
  refine ⟨c1, ?_⟩
  have n2 := k8_nk K c1 (by decide)
  intro x4 e3
  have h := h x4 e3
  intro x6 e5
  have h := h x6 e5
  obtain ⟨c7, h⟩ := h
  refine ⟨c7, ?_⟩
  have n8 := k8_nk K c7 (by decide)
  refine cm_X5_turnOf (kx_X5_turnOf h) h (fun x9 x10 p12 h g11 => ?_)
  have h := h g11
  have K := k8_tr K p12.2
  refine cm_X5_airAlong (kx_X5_airAlong h) h (fun x13 x14 p16 h g15 => ?_)
  have h := h g15
  have K := k8_tr K p16.2
  obtain ⟨c17, h⟩ := h
  refine ⟨c17, ?_⟩
  have n18 := k8_nk K c17 (by decide)
  obtain ⟨b19, e20, h⟩ := h
  refine ⟨b19, e20, ?_⟩
  intro x22 e21
  have h := h x22 e21
  obtain ⟨c23, h⟩ := h
  refine ⟨c23, ?_⟩
  have n24 := k8_nk K c23 (by decide)
  intro x26 e25
  have h := h x26 e25
  obtain ⟨c27, h⟩ := h
  refine ⟨c27, ?_⟩
  intro x29 e28
  have h := h x29 e28
  have K := k8_J K e28
  obtain ⟨b30, e31, h⟩ := h
  refine ⟨b30, e31, ?_⟩
  intro x33 e32
  have h := h x33 e32
  obtain ⟨c34, h⟩ := h
  refine ⟨c34, ?_⟩
  have n35 := k8_nk K c34 (by decide)
  intro x37 e36
  have h := h x37 e36
  obtain ⟨c38, h⟩ := h
  refine ⟨c38, ?_⟩
  intro x40 e39
  have h := h x40 e39
  have K := k8_J K e39
  obtain ⟨b41, e42, h⟩ := h
  refine ⟨b41, e42, ?_⟩
  intro x44 e43
  have h := h x44 e43
  obtain ⟨c45, h⟩ := h
  refine ⟨c45, ?_⟩
  have n46 := k8_nk K c45 (by decide)
  intro x48 e47
  have h := h x48 e47
  obtain ⟨c49, h⟩ := h
  refine ⟨c49, ?_⟩
  intro x51 e50
  have h := h x51 e50
  have K := k8_J K e50
  obtain ⟨b52, e53, h⟩ := h
  refine ⟨b52, e53, ?_⟩
  refine ⟨?_, ?_⟩
  · intro c54
    have h := h.1 c54
    exact kx_X1_lay_130 h K
  · intro c55
    have h := h.2 c55
    intro x57 e56
    have h := h x57 e56
    exact kx_X1_lay_130 h K
set_option maxRecDepth 20000 in
set_option maxHeartbeats 1000000 in
theorem kx_X1_lay_0 {Q : HS → Prop} {v0 : Nat} {v1 : Nat} {v2 : Int32} {v3 : Nat} {v4 : Int32} {S0 S : HS} (h : P_X1_lay_0 Q v0 v1 v2 v3 v4 S) (K : K8 S0 S) : P_X1_lay_0 (fun T => Q T ∧ K8 S0 T) v0 v1 v2 v3 v4 S := by
  delta P_X1_lay_0 at h ⊢
  refine ⟨?_, ?_⟩
  · intro c1
    have h := h.1 c1
    exact kx_X1_lay_27 h K
  · intro c2
    have h := h.2 c2
    obtain ⟨c3, h⟩ := h
    refine ⟨c3, ?_⟩
    have n4 := k8_nk K c3 (by decide)
    intro x6 e5
    have h := h x6 e5
    intro x8 e7
    have h := h x8 e7
    obtain ⟨c9, h⟩ := h
    refine ⟨c9, ?_⟩
    intro x11 e10
    have h := h x11 e10
    exact kx_X1_lay_27 h K
theorem kx_X1_lay {Q : HS → Prop} {v0 : Nat} {v1 : Nat} {v2 : Int32} {v3 : Nat} {v4 : Int32} {S : HS} (h : P_X1_lay v0 v1 v2 v3 v4 Q S) : P_X1_lay v0 v1 v2 v3 v4 (fun T => Q T ∧ K8 S T) S := kx_X1_lay_0 h (k8_rf S)
set_option maxRecDepth 20000 in
set_option maxHeartbeats 1000000 in
theorem kx_X6_shield_0 {Q : Int32 → HS → Prop} {v0 : Nat} {S0 S : HS} (h : P_X6_shield_0 Q v0 S) (K : K8 S0 S) : P_X6_shield_0 (fun r T => Q r T ∧ K8 S0 T) v0 S := by
  delta P_X6_shield_0 at h ⊢
  obtain ⟨c1, h⟩ := h
  refine ⟨c1, ?_⟩
  have n2 := k8_nk K c1 (by decide)
  intro x4 e3
  have h := h x4 e3
  refine ⟨?_, ?_⟩
  · intro c5
    have h := h.1 c5
    exact ⟨h, K⟩
  · intro c6
    have h := h.2 c6
    intro x8 e7
    have h := h x8 e7
    exact ⟨h, K⟩
theorem kx_X6_shield {Q : Int32 → HS → Prop} {v0 : Nat} {S : HS} (h : P_X6_shield v0 Q S) : P_X6_shield v0 (fun r T => Q r T ∧ K8 S T) S := kx_X6_shield_0 h (k8_rf S)
set_option maxRecDepth 20000 in
set_option maxHeartbeats 1000000 in
theorem kx_X1_isForward_0 {Q : Int32 → HS → Prop} {v0 : Nat} {v1 : Nat} {S0 S : HS} (h : P_X1_isForward_0 Q v0 v1 S) (K : K8 S0 S) : P_X1_isForward_0 (fun r T => Q r T ∧ K8 S0 T) v0 v1 S := by
  delta P_X1_isForward_0 at h ⊢
  obtain ⟨c1, h⟩ := h
  refine ⟨c1, ?_⟩
  have n2 := k8_nk K c1 (by decide)
  obtain ⟨b3, e4, h⟩ := h
  refine ⟨b3, e4, ?_⟩
  obtain ⟨c5, h⟩ := h
  refine ⟨c5, ?_⟩
  have n6 := k8_nk K c5 (by decide)
  obtain ⟨c7, h⟩ := h
  refine ⟨c7, ?_⟩
  intro x9 e8
  have h := h x9 e8
  obtain ⟨c10, h⟩ := h
  refine ⟨c10, ?_⟩
  have n11 := k8_nk K c10 (by decide)
  refine cm_X6_shield (kx_X6_shield h) h (fun x12 x13 p15 h g14 => ?_)
  have h := h g14
  have K := k8_tr K p15.2
  intro x17 e16
  have h := h x17 e16
  intro x19 e18
  have h := h x19 e18
  intro x21 e20
  have h := h x21 e20
  obtain ⟨b22, e23, h⟩ := h
  refine ⟨b22, e23, ?_⟩
  obtain ⟨c24, h⟩ := h
  refine ⟨c24, ?_⟩
  have n25 := k8_nk K c24 (by decide)
  obtain ⟨c26, h⟩ := h
  refine ⟨c26, ?_⟩
  intro x28 e27
  have h := h x28 e27
  refine cm_X6_shield (kx_X6_shield h) h (fun x29 x30 p32 h g31 => ?_)
  have h := h g31
  have K := k8_tr K p32.2
  intro x34 e33
  have h := h x34 e33
  intro x36 e35
  have h := h x36 e35
  intro x38 e37
  have h := h x38 e37
  refine ⟨?_, ?_⟩
  · intro c39
    have h := h.1 c39
    exact ⟨h, K⟩
  · intro c40
    have h := h.2 c40
    exact ⟨h, K⟩
theorem kx_X1_isForward {Q : Int32 → HS → Prop} {v0 : Nat} {v1 : Nat} {S : HS} (h : P_X1_isForward v0 v1 Q S) : P_X1_isForward v0 v1 (fun r T => Q r T ∧ K8 S T) S := kx_X1_isForward_0 h (k8_rf S)
set_option maxRecDepth 20000 in
set_option maxHeartbeats 1000000 in
theorem kx_X1_soak_35 {Q : Int64 → HS → Prop} {v0 : Nat} {v1 : Nat} {v2 : Int32} {v3 : Int32} {v5 : Int32} {s0 : Int32} {S0 S : HS} (h : P_X1_soak_35 Q v0 v1 v2 v3 v5 s0 S) (K : K8 S0 S) : P_X1_soak_35 (fun r T => Q r T ∧ K8 S0 T) v0 v1 v2 v3 v5 s0 S := by
  delta P_X1_soak_35 at h ⊢
  obtain ⟨c1, h⟩ := h
  refine ⟨c1, ?_⟩
  have n2 := k8_nk K c1 (by decide)
  obtain ⟨b3, e4, h⟩ := h
  refine ⟨b3, e4, ?_⟩
  obtain ⟨b5, e6, h⟩ := h
  refine ⟨b5, e6, ?_⟩
  obtain ⟨c7, h⟩ := h
  refine ⟨c7, ?_⟩
  have n8 := k8_nk K c7 (by decide)
  obtain ⟨c9, h⟩ := h
  refine ⟨c9, ?_⟩
  intro x11 e10
  have h := h x11 e10
  obtain ⟨c12, h⟩ := h
  refine ⟨c12, ?_⟩
  have n13 := k8_nk K c12 (by decide)
  intro x15 e14
  have h := h x15 e14
  intro x17 e16
  have h := h x17 e16
  obtain ⟨c18, h⟩ := h
  refine ⟨c18, ?_⟩
  have n19 := k8_nk K c18 (by decide)
  intro x21 e20
  have h := h x21 e20
  obtain ⟨c22, h⟩ := h
  refine ⟨c22, ?_⟩
  intro x24 e23
  have h := h x24 e23
  have K := k8_J K e23
  obtain ⟨b25, e26, h⟩ := h
  refine ⟨b25, e26, ?_⟩
  obtain ⟨b27, e28, h⟩ := h
  refine ⟨b27, e28, ?_⟩
  obtain ⟨c29, h⟩ := h
  refine ⟨c29, ?_⟩
  have n30 := k8_nk K c29 (by decide)
  obtain ⟨c31, h⟩ := h
  refine ⟨c31, ?_⟩
  intro x33 e32
  have h := h x33 e32
  intro x35 e34
  have h := h x35 e34
  intro x37 e36
  have h := h x37 e36
  obtain ⟨c38, h⟩ := h
  refine ⟨c38, ?_⟩
  have n39 := k8_nk K c38 (by decide)
  intro x41 e40
  have h := h x41 e40
  obtain ⟨c42, h⟩ := h
  refine ⟨c42, ?_⟩
  intro x44 e43
  have h := h x44 e43
  have K := k8_J K e43
  obtain ⟨b45, e46, h⟩ := h
  refine ⟨b45, e46, ?_⟩
  obtain ⟨b47, e48, h⟩ := h
  refine ⟨b47, e48, ?_⟩
  obtain ⟨c49, h⟩ := h
  refine ⟨c49, ?_⟩
  have n50 := k8_nk K c49 (by decide)
  obtain ⟨c51, h⟩ := h
  refine ⟨c51, ?_⟩
  intro x53 e52
  have h := h x53 e52
  intro x55 e54
  have h := h x55 e54
  intro x57 e56
  have h := h x57 e56
  obtain ⟨c58, h⟩ := h
  refine ⟨c58, ?_⟩
  have n59 := k8_nk K c58 (by decide)
  intro x61 e60
  have h := h x61 e60
  obtain ⟨c62, h⟩ := h
  refine ⟨c62, ?_⟩
  intro x64 e63
  have h := h x64 e63
  have K := k8_J K e63
  obtain ⟨b65, e66, h⟩ := h
  refine ⟨b65, e66, ?_⟩
  obtain ⟨b67, e68, h⟩ := h
  refine ⟨b67, e68, ?_⟩
  obtain ⟨c69, h⟩ := h
  refine ⟨c69, ?_⟩
  have n70 := k8_nk K c69 (by decide)
  obtain ⟨c71, h⟩ := h
  refine ⟨c71, ?_⟩
  intro x73 e72
  have h := h x73 e72
  intro x75 e74
  have h := h x75 e74
  obtain ⟨c76, h⟩ := h
  refine ⟨c76, ?_⟩
  have n77 := k8_nk K c76 (by decide)
  intro x79 e78
  have h := h x79 e78
  obtain ⟨c80, h⟩ := h
  refine ⟨c80, ?_⟩
  intro x82 e81
  have h := h x82 e81
  have K := k8_J K e81
  obtain ⟨b83, e84, h⟩ := h
  refine ⟨b83, e84, ?_⟩
  obtain ⟨b85, e86, h⟩ := h
  refine ⟨b85, e86, ?_⟩
  obtain ⟨c87, h⟩ := h
  refine ⟨c87, ?_⟩
  have n88 := k8_nk K c87 (by decide)
  obtain ⟨c89, h⟩ := h
  refine ⟨c89, ?_⟩
  intro x91 e90
  have h := h x91 e90
  intro x93 e92
  have h := h x93 e92
  obtain ⟨c94, h⟩ := h
  refine ⟨c94, ?_⟩
  have n95 := k8_nk K c94 (by decide)
  intro x97 e96
  have h := h x97 e96
  obtain ⟨c98, h⟩ := h
  refine ⟨c98, ?_⟩
  intro x100 e99
  have h := h x100 e99
  have K := k8_J K e99
  obtain ⟨b101, e102, h⟩ := h
  refine ⟨b101, e102, ?_⟩
  obtain ⟨c103, h⟩ := h
  refine ⟨c103, ?_⟩
  have n104 := k8_nk K c103 (by decide)
  obtain ⟨c105, h⟩ := h
  refine ⟨c105, ?_⟩
  intro x107 e106
  have h := h x107 e106
  obtain ⟨b108, e109, h⟩ := h
  refine ⟨b108, e109, ?_⟩
  obtain ⟨c110, h⟩ := h
  refine ⟨c110, ?_⟩
  have n111 := k8_nk K c110 (by decide)
  obtain ⟨c112, h⟩ := h
  refine ⟨c112, ?_⟩
  intro x114 e113
  have h := h x114 e113
  obtain ⟨b115, e116, h⟩ := h
  refine ⟨b115, e116, ?_⟩
  obtain ⟨c117, h⟩ := h
  refine ⟨c117, ?_⟩
  have n118 := k8_nk K c117 (by decide)
  obtain ⟨c119, h⟩ := h
  refine ⟨c119, ?_⟩
  intro x121 e120
  have h := h x121 e120
  obtain ⟨b122, e123, h⟩ := h
  refine ⟨b122, e123, ?_⟩
  obtain ⟨c124, h⟩ := h
  refine ⟨c124, ?_⟩
  have n125 := k8_nk K c124 (by decide)
  obtain ⟨c126, h⟩ := h
  refine ⟨c126, ?_⟩
  intro x128 e127
  have h := h x128 e127
  obtain ⟨b129, e130, h⟩ := h
  refine ⟨b129, e130, ?_⟩
  obtain ⟨c131, h⟩ := h
  refine ⟨c131, ?_⟩
  have n132 := k8_nk K c131 (by decide)
  obtain ⟨c133, h⟩ := h
  refine ⟨c133, ?_⟩
  intro x135 e134
  have h := h x135 e134
  exact ⟨h, K⟩
set_option maxRecDepth 20000 in
set_option maxHeartbeats 1000000 in
theorem kx_X1_soak_20 {Q : Int64 → HS → Prop} {v0 : Nat} {v1 : Nat} {v2 : Int32} {v3 : Int32} {v4 : Int32} {s0 : Int32} {S0 S : HS} (h : P_X1_soak_20 Q v0 v1 v2 v3 v4 s0 S) (K : K8 S0 S) : P_X1_soak_20 (fun r T => Q r T ∧ K8 S0 T) v0 v1 v2 v3 v4 s0 S := by
  delta P_X1_soak_20 at h ⊢
  refine ⟨?_, ?_⟩
  · intro c1
    have h := h.1 c1
    exact kx_X1_soak_35 h K
  · intro c2
    have h := h.2 c2
    obtain ⟨c3, h⟩ := h
    refine ⟨c3, ?_⟩
    have n4 := k8_nk K c3 (by decide)
    refine cm_X6_shield (kx_X6_shield h) h (fun x5 x6 p8 h g7 => ?_)
    have h := h g7
    have K := k8_tr K p8.2
    exact kx_X1_soak_35 h K
set_option maxRecDepth 20000 in
set_option maxHeartbeats 1000000 in
theorem kx_X1_soak_0 {Q : Int64 → HS → Prop} {v0 : Nat} {v1 : Nat} {v2 : Int32} {v3 : Int32} {S0 S : HS} (h : P_X1_soak_0 Q v0 v1 v2 v3 S) (K : K8 S0 S) : P_X1_soak_0 (fun r T => Q r T ∧ K8 S0 T) v0 v1 v2 v3 S := by
  delta P_X1_soak_0 at h ⊢
  obtain ⟨c1, h⟩ := h
  refine ⟨c1, ?_⟩
  have n2 := k8_nk K c1 (by decide)
  refine cm_X1_isForward (kx_X1_isForward h) h (fun x3 x4 p7 h g5 g6 => ?_)
  have h := h g5 g6
  have K := k8_tr K p7.2
  refine ⟨?_, ?_⟩
  · intro c8
    have h := h.1 c8
    obtain ⟨c9, h⟩ := h
    refine ⟨c9, ?_⟩
    have n10 := k8_nk K c9 (by decide)
    refine cm_X6_shield (kx_X6_shield h) h (fun x11 x12 p14 h g13 => ?_)
    have h := h g13
    have K := k8_tr K p14.2
    exact kx_X1_soak_20 h K
  · intro c15
    have h := h.2 c15
    exact kx_X1_soak_20 h K
theorem kx_X1_soak {Q : Int64 → HS → Prop} {v0 : Nat} {v1 : Nat} {v2 : Int32} {v3 : Int32} {S : HS} (h : P_X1_soak v0 v1 v2 v3 Q S) : P_X1_soak v0 v1 v2 v3 (fun r T => Q r T ∧ K8 S T) S := kx_X1_soak_0 h (k8_rf S)
set_option maxRecDepth 20000 in
set_option maxHeartbeats 1000000 in
theorem kx_X1_wetOf_0 {Q : Int64 → HS → Prop} {v0 : Nat} {v1 : Nat} {v2 : Nat} {v3 : Int32} {v4 : Nat} {v5 : Int32} {S0 S : HS} (h : P_X1_wetOf_0 Q v0 v1 v2 v3 v4 v5 S) (K : K8 S0 S) : P_X1_wetOf_0 (fun r T => Q r T ∧ K8 S0 T) v0 v1 v2 v3 v4 v5 S := by
  delta P_X1_wetOf_0 at h ⊢
  obtain ⟨c1, h⟩ := h
  refine ⟨c1, ?_⟩
  have n2 := k8_nk K c1 (by decide)
  refine cm_X1_lay (kx_X1_lay h) h (fun x3 p5 h g4 => ?_)
  have h := h g4
  have K := k8_tr K p5.2
  refine cm_X1_soak (kx_X1_soak h) h (fun x6 x7 p9 h g8 => ?_)
  have h := h g8
  have K := k8_tr K p9.2
  exact ⟨h, K⟩
theorem kx_X1_wetOf {Q : Int64 → HS → Prop} {v0 : Nat} {v1 : Nat} {v2 : Nat} {v3 : Int32} {v4 : Nat} {v5 : Int32} {S : HS} (h : P_X1_wetOf v0 v1 v2 v3 v4 v5 Q S) : P_X1_wetOf v0 v1 v2 v3 v4 v5 (fun r T => Q r T ∧ K8 S T) S := kx_X1_wetOf_0 h (k8_rf S)
set_option maxRecDepth 20000 in
set_option maxHeartbeats 1000000 in
theorem kx_X1_bestSpeed_55 {Q : Int32 → HS → Prop} {X17 X17_2 : Nat → Nat → Nat → Int32 → Nat → Int32 → Int64 → Int32 → HS → Prop} {v0 : Nat} {v1 : Nat} {v2 : Nat} {v3 : Int32} {v4 : Nat} {v5 : Int32} {v6 : Int64} {v8 : Int32} {S0 S : HS} (h : P_X1_bestSpeed_55 Q X17 v0 v1 v2 v3 v4 v5 v6 v8 S) (K : K8 S0 S) (hX17 : ∀ (u0 : Nat) (u1 : Nat) (u2 : Nat) (u3 : Int32) (u4 : Nat) (u5 : Int32) (u6 : Int64) (u7 : Int32) (u8 : HS), X17 u0 u1 u2 u3 u4 u5 u6 u7 u8 → K8 S0 u8 → X17_2 u0 u1 u2 u3 u4 u5 u6 u7 u8) : P_X1_bestSpeed_55 (fun r T => Q r T ∧ K8 S0 T) X17_2 v0 v1 v2 v3 v4 v5 v6 v8 S := by
  delta P_X1_bestSpeed_55 at h ⊢
  intro x2 e1
  have h := h x2 e1
  exact hX17 _ _ _ _ _ _ _ _ _ h K
set_option maxRecDepth 20000 in
set_option maxHeartbeats 1000000 in
theorem kxB_X1_bestSpeed_17 {Q : Int32 → HS → Prop} {X17 X17_2 : Nat → Nat → Nat → Int32 → Nat → Int32 → Int64 → Int32 → HS → Prop} {v0 : Nat} {v1 : Nat} {v2 : Nat} {v3 : Int32} {v4 : Nat} {v5 : Int32} {v6 : Int64} {v8 : Int32} {S0 S : HS} (h : B_X1_bestSpeed_17 Q X17 v0 v1 v2 v3 v4 v5 v6 v8 S) (K : K8 S0 S) (hX17 : ∀ (u0 : Nat) (u1 : Nat) (u2 : Nat) (u3 : Int32) (u4 : Nat) (u5 : Int32) (u6 : Int64) (u7 : Int32) (u8 : HS), X17 u0 u1 u2 u3 u4 u5 u6 u7 u8 → K8 S0 u8 → X17_2 u0 u1 u2 u3 u4 u5 u6 u7 u8) : B_X1_bestSpeed_17 (fun r T => Q r T ∧ K8 S0 T) X17_2 v0 v1 v2 v3 v4 v5 v6 v8 S := by
  delta B_X1_bestSpeed_17 at h ⊢
  obtain ⟨c1, h⟩ := h
  refine ⟨c1, ?_⟩
  have n2 := k8_nk K c1 (by decide)
  intro x4 e3
  have h := h x4 e3
  refine ⟨?_, ?_⟩
  · intro c5
    have h := h.1 c5
    exact ⟨h, K⟩
  · intro c6
    have h := h.2 c6
    obtain ⟨c7, h⟩ := h
    refine ⟨c7, ?_⟩
    have n8 := k8_nk K c7 (by decide)
    refine cm_X1_wetOf (kx_X1_wetOf h) h (fun x9 x10 p12 h g11 => ?_)
    have h := h g11
    have K := k8_tr K p12.2
    refine ⟨?_, ?_⟩
    · intro c13
      have h := h.1 c13
      exact kx_X1_bestSpeed_55 h K hX17
    · intro c14
      have h := h.2 c14
      exact kx_X1_bestSpeed_55 h K hX17
theorem kx_X1_bestSpeed_17 {Q : Int32 → HS → Prop} {v0 : Nat} {v1 : Nat} {v2 : Nat} {v3 : Int32} {v4 : Nat} {v5 : Int32} {v6 : Int64} {v8 : Int32} {S0 S : HS} (h : P_X1_bestSpeed_17 Q v0 v1 v2 v3 v4 v5 v6 v8 S) (K : K8 S0 S) : P_X1_bestSpeed_17 (fun r T => Q r T ∧ K8 S0 T) v0 v1 v2 v3 v4 v5 v6 v8 S := h (fun v0 v1 v2 v3 v4 v5 v6 v8 S => K8 S0 S → P_X1_bestSpeed_17 (fun r T => Q r T ∧ K8 S0 T) v0 v1 v2 v3 v4 v5 v6 v8 S) (fun v0 v1 v2 v3 v4 v5 v6 v8 S hB K => fd_X1_bestSpeed_17 (kxB_X1_bestSpeed_17 hB K (fun _ _ _ _ _ _ _ _ _ hx K => hx K))) K
set_option maxRecDepth 20000 in
set_option maxHeartbeats 1000000 in
theorem kx_X1_bestSpeed_0 {Q : Int32 → HS → Prop} {v0 : Nat} {v1 : Nat} {v2 : Nat} {v3 : Int32} {v4 : Nat} {S0 S : HS} (h : P_X1_bestSpeed_0 Q v0 v1 v2 v3 v4 S) (K : K8 S0 S) : P_X1_bestSpeed_0 (fun r T => Q r T ∧ K8 S0 T) v0 v1 v2 v3 v4 S := by
  delta P_X1_bestSpeed_0 at h ⊢
  obtain ⟨c1, h⟩ := h
  refine ⟨c1, ?_⟩
  have n2 := k8_nk K c1 (by decide)
  intro x4 e3
  have h := h x4 e3
  intro x6 e5
  have h := h x6 e5
  exact kx_X1_bestSpeed_17 h K
theorem kx_X1_bestSpeed {Q : Int32 → HS → Prop} {v0 : Nat} {v1 : Nat} {v2 : Nat} {v3 : Int32} {v4 : Nat} {S : HS} (h : P_X1_bestSpeed v0 v1 v2 v3 v4 Q S) : P_X1_bestSpeed v0 v1 v2 v3 v4 (fun r T => Q r T ∧ K8 S T) S := kx_X1_bestSpeed_0 h (k8_rf S)
set_option maxRecDepth 20000 in
set_option maxHeartbeats 1000000 in
theorem kx_X1_legsOf_0 {Q : Int32 → HS → Prop} {v0 : Nat} {S0 S : HS} (h : P_X1_legsOf_0 Q v0 S) (K : K8 S0 S) : P_X1_legsOf_0 (fun r T => Q r T ∧ K8 S0 T) v0 S := by
  delta P_X1_legsOf_0 at h ⊢
  obtain ⟨c1, h⟩ := h
  refine ⟨c1, ?_⟩
  have n2 := k8_nk K c1 (by decide)
  have o3 := c1
  intro x5 e4
  have h := h x5 e4
  intro x7 e6
  have h := h x7 e6
  exact ⟨h, K⟩
theorem kx_X1_legsOf {Q : Int32 → HS → Prop} {v0 : Nat} {S : HS} (h : P_X1_legsOf v0 Q S) : P_X1_legsOf v0 (fun r T => Q r T ∧ K8 S T) S := kx_X1_legsOf_0 h (k8_rf S)
set_option maxRecDepth 20000 in
set_option maxHeartbeats 1000000 in
theorem kx_X6_canGo_0 {Q : Int32 → HS → Prop} {v0 : Nat} {v1 : Int32} {S0 S : HS} (h : P_X6_canGo_0 Q v0 v1 S) (K : K8 S0 S) : P_X6_canGo_0 (fun r T => Q r T ∧ K8 S0 T) v0 v1 S := by
  delta P_X6_canGo_0 at h ⊢
  obtain ⟨c1, h⟩ := h
  refine ⟨c1, ?_⟩
  have n2 := k8_nk K c1 (by decide)
  intro x4 e3
  have h := h x4 e3
  refine ⟨?_, ?_⟩
  · intro c5
    have h := h.1 c5
    exact ⟨h, K⟩
  · intro c6
    have h := h.2 c6
    intro x8 e7
    have h := h x8 e7
    refine ⟨?_, ?_⟩
    · intro c9
      have h := h.1 c9
      exact ⟨h, K⟩
    · intro c10
      have h := h.2 c10
      refine ⟨?_, ?_⟩
      · intro c11
        have h := h.1 c11
        exact ⟨h, K⟩
      · intro c12
        have h := h.2 c12
        refine ⟨?_, ?_⟩
        · intro c13
          have h := h.1 c13
          exact ⟨h, K⟩
        · intro c14
          have h := h.2 c14
          exact ⟨h, K⟩
theorem kx_X6_canGo {Q : Int32 → HS → Prop} {v0 : Nat} {v1 : Int32} {S : HS} (h : P_X6_canGo v0 v1 Q S) : P_X6_canGo v0 v1 (fun r T => Q r T ∧ K8 S T) S := kx_X6_canGo_0 h (k8_rf S)
set_option maxRecDepth 20000 in
set_option maxHeartbeats 1000000 in
theorem kx_X8_hasRoad_0 {Q : Int32 → HS → Prop} {v0 : Nat} {v1 : Int32} {S0 S : HS} (h : P_X8_hasRoad_0 Q v0 v1 S) (K : K8 S0 S) : P_X8_hasRoad_0 (fun r T => Q r T ∧ K8 S0 T) v0 v1 S := by
  delta P_X8_hasRoad_0 at h ⊢
  refine ⟨?_, ?_⟩
  · intro c1
    have h := h.1 c1
    exact ⟨h, K⟩
  · intro c2
    have h := h.2 c2
    obtain ⟨c3, h⟩ := h
    refine ⟨c3, ?_⟩
    have n4 := k8_nk K c3 (by decide)
    have o5 := c3
    intro x7 e6
    have h := h x7 e6
    refine ⟨?_, ?_⟩
    · intro c8
      have h := h.1 c8
      exact ⟨h, K⟩
    · intro c9
      have h := h.2 c9
      obtain ⟨b10, e11, h⟩ := h
      refine ⟨b10, e11, ?_⟩
      obtain ⟨c12, h⟩ := h
      refine ⟨c12, ?_⟩
      have n13 := k8_nk K c12 (by decide)
      refine ⟨?_, ?_⟩
      · intro c14
        have h := h.1 c14
        exact ⟨h, K⟩
      · intro c15
        have h := h.2 c15
        exact ⟨h, K⟩
theorem kx_X8_hasRoad {Q : Int32 → HS → Prop} {v0 : Nat} {v1 : Int32} {S : HS} (h : P_X8_hasRoad v0 v1 Q S) : P_X8_hasRoad v0 v1 (fun r T => Q r T ∧ K8 S T) S := kx_X8_hasRoad_0 h (k8_rf S)
set_option maxRecDepth 20000 in
set_option maxHeartbeats 1000000 in
theorem kx_X8_hasSeen_0 {Q : Int32 → HS → Prop} {v0 : Nat} {v1 : Int32} {S0 S : HS} (h : P_X8_hasSeen_0 Q v0 v1 S) (K : K8 S0 S) : P_X8_hasSeen_0 (fun r T => Q r T ∧ K8 S0 T) v0 v1 S := by
  delta P_X8_hasSeen_0 at h ⊢
  refine ⟨?_, ?_⟩
  · intro c1
    have h := h.1 c1
    exact ⟨h, K⟩
  · intro c2
    have h := h.2 c2
    obtain ⟨c3, h⟩ := h
    refine ⟨c3, ?_⟩
    have n4 := k8_nk K c3 (by decide)
    have o5 := c3
    intro x7 e6
    have h := h x7 e6
    refine ⟨?_, ?_⟩
    · intro c8
      have h := h.1 c8
      exact ⟨h, K⟩
    · intro c9
      have h := h.2 c9
      obtain ⟨b10, e11, h⟩ := h
      refine ⟨b10, e11, ?_⟩
      have n12 := k8_nr K e11 o5 (by decide)
      obtain ⟨c13, h⟩ := h
      refine ⟨c13, ?_⟩
      refine ⟨?_, ?_⟩
      · intro c14
        have h := h.1 c14
        exact ⟨h, K⟩
      · intro c15
        have h := h.2 c15
        exact ⟨h, K⟩
theorem kx_X8_hasSeen {Q : Int32 → HS → Prop} {v0 : Nat} {v1 : Int32} {S : HS} (h : P_X8_hasSeen v0 v1 Q S) : P_X8_hasSeen v0 v1 (fun r T => Q r T ∧ K8 S T) S := kx_X8_hasSeen_0 h (k8_rf S)
set_option maxRecDepth 20000 in
set_option maxHeartbeats 1000000 in
theorem kx_X8_hasWalker_0 {Q : Int32 → HS → Prop} {v0 : Nat} {v1 : Int32} {S0 S : HS} (h : P_X8_hasWalker_0 Q v0 v1 S) (K : K8 S0 S) : P_X8_hasWalker_0 (fun r T => Q r T ∧ K8 S0 T) v0 v1 S := by
  delta P_X8_hasWalker_0 at h ⊢
  refine ⟨?_, ?_⟩
  · intro c1
    have h := h.1 c1
    exact ⟨h, K⟩
  · intro c2
    have h := h.2 c2
    obtain ⟨c3, h⟩ := h
    refine ⟨c3, ?_⟩
    have n4 := k8_nk K c3 (by decide)
    have o5 := c3
    intro x7 e6
    have h := h x7 e6
    refine ⟨?_, ?_⟩
    · intro c8
      have h := h.1 c8
      exact ⟨h, K⟩
    · intro c9
      have h := h.2 c9
      obtain ⟨b10, e11, h⟩ := h
      refine ⟨b10, e11, ?_⟩
      obtain ⟨c12, h⟩ := h
      refine ⟨c12, ?_⟩
      have n13 := k8_nk K c12 (by decide)
      refine ⟨?_, ?_⟩
      · intro c14
        have h := h.1 c14
        exact ⟨h, K⟩
      · intro c15
        have h := h.2 c15
        exact ⟨h, K⟩
theorem kx_X8_hasWalker {Q : Int32 → HS → Prop} {v0 : Nat} {v1 : Int32} {S : HS} (h : P_X8_hasWalker v0 v1 Q S) : P_X8_hasWalker v0 v1 (fun r T => Q r T ∧ K8 S T) S := kx_X8_hasWalker_0 h (k8_rf S)
set_option maxRecDepth 20000 in
set_option maxHeartbeats 1000000 in
theorem kxB_X1_fitCode_141 {Q : Int32 → HS → Prop} {X141 X141_2 : Nat → Nat → Int32 → Int32 → Int32 → Int32 → Int32 → HS → Prop} {v0 : Nat} {v1 : Nat} {v2 : Int32} {v4 : Int32} {v5 : Int32} {v6 : Int32} {v8 : Int32} {S0 S : HS} (h : B_X1_fitCode_141 Q X141 v0 v1 v2 v4 v5 v6 v8 S) (K : K8 S0 S) (hX141 : ∀ (u0 : Nat) (u1 : Nat) (u2 : Int32) (u3 : Int32) (u4 : Int32) (u5 : Int32) (u6 : Int32) (u7 : HS), X141 u0 u1 u2 u3 u4 u5 u6 u7 → K8 S0 u7 → X141_2 u0 u1 u2 u3 u4 u5 u6 u7) : B_X1_fitCode_141 (fun r T => Q r T ∧ K8 S0 T) X141_2 v0 v1 v2 v4 v5 v6 v8 S := by
  delta B_X1_fitCode_141 at h ⊢
  refine ⟨?_, ?_⟩
  · intro c1
    have h := h.1 c1
    intro x3 e2
    have h := h x3 e2
    intro x5 e4
    have h := h x5 e4
    exact ⟨h, K⟩
  · intro c6
    have h := h.2 c6
    obtain ⟨c7, h⟩ := h
    refine ⟨c7, ?_⟩
    have n8 := k8_nk K c7 (by decide)
    obtain ⟨b9, e10, h⟩ := h
    refine ⟨b9, e10, ?_⟩
    obtain ⟨c11, h⟩ := h
    refine ⟨c11, ?_⟩
    have n12 := k8_nk K c11 (by decide)
    obtain ⟨c13, h⟩ := h
    refine ⟨c13, ?_⟩
    intro x15 e14
    have h := h x15 e14
    obtain ⟨c16, h⟩ := h
    refine ⟨c16, ?_⟩
    have n17 := k8_nk K c16 (by decide)
    have o18 := c16
    obtain ⟨b19, e20, h⟩ := h
    refine ⟨b19, e20, ?_⟩
    have n21 := k8_nr K e20 o18 (by decide)
    obtain ⟨c22, h⟩ := h
    refine ⟨c22, ?_⟩
    intro x24 e23
    have h := h x24 e23
    obtain ⟨c25, h⟩ := h
    refine ⟨c25, ?_⟩
    intro x27 e26
    have h := h x27 e26
    refine ⟨?_, ?_⟩
    · intro c28
      have h := h.1 c28
      intro x30 e29
      have h := h x30 e29
      exact hX141 _ _ _ _ _ _ _ _ h K
    · intro c31
      have h := h.2 c31
      exact ⟨h, K⟩
theorem kx_X1_fitCode_141 {Q : Int32 → HS → Prop} {v0 : Nat} {v1 : Nat} {v2 : Int32} {v4 : Int32} {v5 : Int32} {v6 : Int32} {v8 : Int32} {S0 S : HS} (h : P_X1_fitCode_141 Q v0 v1 v2 v4 v5 v6 v8 S) (K : K8 S0 S) : P_X1_fitCode_141 (fun r T => Q r T ∧ K8 S0 T) v0 v1 v2 v4 v5 v6 v8 S := h (fun v0 v1 v2 v4 v5 v6 v8 S => K8 S0 S → P_X1_fitCode_141 (fun r T => Q r T ∧ K8 S0 T) v0 v1 v2 v4 v5 v6 v8 S) (fun v0 v1 v2 v4 v5 v6 v8 S hB K => fd_X1_fitCode_141 (kxB_X1_fitCode_141 hB K (fun _ _ _ _ _ _ _ _ hx K => hx K))) K
set_option maxRecDepth 20000 in
set_option maxHeartbeats 1000000 in
theorem kx_X1_fitCode_0 {Q : Int32 → HS → Prop} {v0 : Nat} {v1 : Nat} {v2 : Int32} {v3 : Int32} {S0 S : HS} (h : P_X1_fitCode_0 Q v0 v1 v2 v3 S) (K : K8 S0 S) : P_X1_fitCode_0 (fun r T => Q r T ∧ K8 S0 T) v0 v1 v2 v3 S := by
  delta P_X1_fitCode_0 at h ⊢
  refine ⟨?_, ?_⟩
  · intro c1
    have h := h.1 c1
    exact ⟨h, K⟩
  · intro c2
    have h := h.2 c2
    refine cm_X1_legsOf (kx_X1_legsOf h) h (fun x3 x4 p6 h g5 => ?_)
    have h := h g5
    have K := k8_tr K p6.2
    refine ⟨?_, ?_⟩
    · intro c7
      have h := h.1 c7
      exact ⟨h, K⟩
    · intro c8
      have h := h.2 c8
      obtain ⟨c9, h⟩ := h
      refine ⟨c9, ?_⟩
      have n10 := k8_nk K c9 (by decide)
      have o11 := c9
      refine cm_X8_hasSeen (kx_X8_hasSeen h) h (fun x12 x13 p16 h g14 g15 => ?_)
      have h := h g14 g15
      have K := k8_tr K p16.2
      have o11 := gr_ob p16.2.1 o11
      refine ⟨?_, ?_⟩
      · intro c17
        have h := h.1 c17
        exact ⟨h, K⟩
      · intro c18
        have h := h.2 c18
        intro x20 e19
        have h := h x20 e19
        refine ⟨?_, ?_⟩
        · intro c21
          have h := h.1 c21
          intro x23 e22
          have h := h x23 e22
          intro x25 e24
          have h := h x25 e24
          intro x27 e26
          have h := h x27 e26
          intro x29 e28
          have h := h x29 e28
          obtain ⟨c30, h⟩ := h
          refine ⟨c30, ?_⟩
          intro x32 e31
          have h := h x32 e31
          intro x34 e33
          have h := h x34 e33
          intro x36 e35
          have h := h x36 e35
          obtain ⟨c37, h⟩ := h
          refine ⟨c37, ?_⟩
          intro x39 e38
          have h := h x39 e38
          obtain ⟨b40, e41, h⟩ := h
          refine ⟨b40, e41, ?_⟩
          have n42 := k8_nr K e41 o11 (by decide)
          obtain ⟨c43, h⟩ := h
          refine ⟨c43, ?_⟩
          obtain ⟨c44, h⟩ := h
          refine ⟨c44, ?_⟩
          intro x46 e45
          have h := h x46 e45
          refine cm_X8_hasWalker (kx_X8_hasWalker h) h (fun x47 x48 p51 h g49 g50 => ?_)
          have h := h g49 g50
          have K := k8_tr K p51.2
          have o11 := gr_ob p51.2.1 o11
          refine ⟨?_, ?_⟩
          · intro c52
            have h := h.1 c52
            exact ⟨h, K⟩
          · intro c53
            have h := h.2 c53
            intro x55 e54
            have h := h x55 e54
            refine cm_X8_hasRoad (kx_X8_hasRoad h) h (fun x56 x57 p60 h g58 g59 => ?_)
            have h := h g58 g59
            have K := k8_tr K p60.2
            have o11 := gr_ob p60.2.1 o11
            refine ⟨?_, ?_⟩
            · intro c61
              have h := h.1 c61
              exact ⟨h, K⟩
            · intro c62
              have h := h.2 c62
              obtain ⟨b63, e64, h⟩ := h
              refine ⟨b63, e64, ?_⟩
              obtain ⟨c65, h⟩ := h
              refine ⟨c65, ?_⟩
              have n66 := k8_nk K c65 (by decide)
              obtain ⟨c67, h⟩ := h
              refine ⟨c67, ?_⟩
              obtain ⟨b68, e69, h⟩ := h
              refine ⟨b68, e69, ?_⟩
              obtain ⟨c70, h⟩ := h
              refine ⟨c70, ?_⟩
              have n71 := k8_nk K c70 (by decide)
              refine cm_X6_canGo (kx_X6_canGo h) h (fun x72 x73 p76 h g74 g75 => ?_)
              have h := h g74 g75
              have K := k8_tr K p76.2
              have o11 := gr_ob p76.2.1 o11
              refine ⟨?_, ?_⟩
              · intro c77
                have h := h.1 c77
                obtain ⟨b78, e79, h⟩ := h
                refine ⟨b78, e79, ?_⟩
                obtain ⟨c80, h⟩ := h
                refine ⟨c80, ?_⟩
                have n81 := k8_nk K c80 (by decide)
                obtain ⟨c82, h⟩ := h
                refine ⟨c82, ?_⟩
                obtain ⟨b83, e84, h⟩ := h
                refine ⟨b83, e84, ?_⟩
                obtain ⟨b85, e86, h⟩ := h
                refine ⟨b85, e86, ?_⟩
                intro x88 e87
                have h := h x88 e87
                obtain ⟨c89, h⟩ := h
                refine ⟨c89, ?_⟩
                have n90 := k8_nk K c89 (by decide)
                obtain ⟨c91, h⟩ := h
                refine ⟨c91, ?_⟩
                obtain ⟨b92, e93, h⟩ := h
                refine ⟨b92, e93, ?_⟩
                intro x95 e94
                have h := h x95 e94
                obtain ⟨b96, e97, h⟩ := h
                refine ⟨b96, e97, ?_⟩
                obtain ⟨c98, h⟩ := h
                refine ⟨c98, ?_⟩
                have n99 := k8_nk K c98 (by decide)
                obtain ⟨c100, h⟩ := h
                refine ⟨c100, ?_⟩
                obtain ⟨b101, e102, h⟩ := h
                refine ⟨b101, e102, ?_⟩
                obtain ⟨c103, h⟩ := h
                refine ⟨c103, ?_⟩
                have n104 := k8_nk K c103 (by decide)
                refine cm_X1_wetOf (kx_X1_wetOf h) h (fun x105 x106 p108 h g107 => ?_)
                have h := h g107
                have K := k8_tr K p108.2
                have o11 := gr_ob p108.2.1 o11
                exact kx_X1_fitCode_141 h K
              · intro c109
                have h := h.2 c109
                exact ⟨h, K⟩
        · intro c110
          have h := h.2 c110
          exact ⟨h, K⟩
theorem kx_X1_fitCode {Q : Int32 → HS → Prop} {v0 : Nat} {v1 : Nat} {v2 : Int32} {v3 : Int32} {S : HS} (h : P_X1_fitCode v0 v1 v2 v3 Q S) : P_X1_fitCode v0 v1 v2 v3 (fun r T => Q r T ∧ K8 S T) S := kx_X1_fitCode_0 h (k8_rf S)
set_option maxRecDepth 20000 in
set_option maxHeartbeats 1000000 in
theorem kx_X1_countFits_29 {Q : Int32 → HS → Prop} {X5 X5_2 : Nat → Nat → Int32 → Int32 → Int32 → HS → Prop} {v0 : Nat} {v1 : Nat} {v2 : Int32} {v3 : Int32} {v4 : Int32} {S0 S : HS} (h : P_X1_countFits_29 Q X5 v0 v1 v2 v3 v4 S) (K : K8 S0 S) (hX5 : ∀ (u0 : Nat) (u1 : Nat) (u2 : Int32) (u3 : Int32) (u4 : Int32) (u5 : HS), X5 u0 u1 u2 u3 u4 u5 → K8 S0 u5 → X5_2 u0 u1 u2 u3 u4 u5) : P_X1_countFits_29 (fun r T => Q r T ∧ K8 S0 T) X5_2 v0 v1 v2 v3 v4 S := by
  delta P_X1_countFits_29 at h ⊢
  intro x2 e1
  have h := h x2 e1
  exact hX5 _ _ _ _ _ _ h K
set_option maxRecDepth 20000 in
set_option maxHeartbeats 1000000 in
theorem kxB_X1_countFits_5 {Q : Int32 → HS → Prop} {X5 X5_2 : Nat → Nat → Int32 → Int32 → Int32 → HS → Prop} {v0 : Nat} {v1 : Nat} {v2 : Int32} {v3 : Int32} {v4 : Int32} {S0 S : HS} (h : B_X1_countFits_5 Q X5 v0 v1 v2 v3 v4 S) (K : K8 S0 S) (hX5 : ∀ (u0 : Nat) (u1 : Nat) (u2 : Int32) (u3 : Int32) (u4 : Int32) (u5 : HS), X5 u0 u1 u2 u3 u4 u5 → K8 S0 u5 → X5_2 u0 u1 u2 u3 u4 u5) : B_X1_countFits_5 (fun r T => Q r T ∧ K8 S0 T) X5_2 v0 v1 v2 v3 v4 S := by
  delta B_X1_countFits_5 at h ⊢
  refine cm_X1_legsOf (kx_X1_legsOf h) h (fun x1 x2 p4 h g3 => ?_)
  have h := h g3
  have K := k8_tr K p4.2
  refine ⟨?_, ?_⟩
  · intro c5
    have h := h.1 c5
    exact ⟨h, K⟩
  · intro c6
    have h := h.2 c6
    obtain ⟨c7, h⟩ := h
    refine ⟨c7, ?_⟩
    have n8 := k8_nk K c7 (by decide)
    refine cm_X1_fitCode (kx_X1_fitCode h) h (fun x9 x10 p12 h g11 => ?_)
    have h := h g11
    have K := k8_tr K p12.2
    refine ⟨?_, ?_⟩
    · intro c13
      have h := h.1 c13
      exact kx_X1_countFits_29 h K hX5
    · intro c14
      have h := h.2 c14
      intro x16 e15
      have h := h x16 e15
      exact kx_X1_countFits_29 h K hX5
theorem kx_X1_countFits_5 {Q : Int32 → HS → Prop} {v0 : Nat} {v1 : Nat} {v2 : Int32} {v3 : Int32} {v4 : Int32} {S0 S : HS} (h : P_X1_countFits_5 Q v0 v1 v2 v3 v4 S) (K : K8 S0 S) : P_X1_countFits_5 (fun r T => Q r T ∧ K8 S0 T) v0 v1 v2 v3 v4 S := h (fun v0 v1 v2 v3 v4 S => K8 S0 S → P_X1_countFits_5 (fun r T => Q r T ∧ K8 S0 T) v0 v1 v2 v3 v4 S) (fun v0 v1 v2 v3 v4 S hB K => fd_X1_countFits_5 (kxB_X1_countFits_5 hB K (fun _ _ _ _ _ _ hx K => hx K))) K
set_option maxRecDepth 20000 in
set_option maxHeartbeats 1000000 in
theorem kx_X1_countFits_0 {Q : Int32 → HS → Prop} {v0 : Nat} {v1 : Nat} {v2 : Int32} {S0 S : HS} (h : P_X1_countFits_0 Q v0 v1 v2 S) (K : K8 S0 S) : P_X1_countFits_0 (fun r T => Q r T ∧ K8 S0 T) v0 v1 v2 S := by
  delta P_X1_countFits_0 at h ⊢
  exact kx_X1_countFits_5 h K
theorem kx_X1_countFits {Q : Int32 → HS → Prop} {v0 : Nat} {v1 : Nat} {v2 : Int32} {S : HS} (h : P_X1_countFits v0 v1 v2 Q S) : P_X1_countFits v0 v1 v2 (fun r T => Q r T ∧ K8 S T) S := kx_X1_countFits_0 h (k8_rf S)
set_option maxRecDepth 20000 in
set_option maxHeartbeats 1000000 in
theorem kx_X1_findFit_48 {Q : Int32 → HS → Prop} {X6 X6_2 : Nat → Nat → Int32 → Int32 → Int32 → HS → Prop} {v0 : Nat} {v1 : Nat} {v2 : Int32} {v4 : Int32} {v5 : Int32} {S0 S : HS} (h : P_X1_findFit_48 Q X6 v0 v1 v2 v4 v5 S) (K : K8 S0 S) (hX6 : ∀ (u0 : Nat) (u1 : Nat) (u2 : Int32) (u3 : Int32) (u4 : Int32) (u5 : HS), X6 u0 u1 u2 u3 u4 u5 → K8 S0 u5 → X6_2 u0 u1 u2 u3 u4 u5) : P_X1_findFit_48 (fun r T => Q r T ∧ K8 S0 T) X6_2 v0 v1 v2 v4 v5 S := by
  delta P_X1_findFit_48 at h ⊢
  intro x2 e1
  have h := h x2 e1
  exact hX6 _ _ _ _ _ _ h K
set_option maxRecDepth 20000 in
set_option maxHeartbeats 1000000 in
theorem kx_X1_findFit_39 {Q : Int32 → HS → Prop} {X6 X6_2 : Nat → Nat → Int32 → Int32 → Int32 → HS → Prop} {v0 : Nat} {v1 : Nat} {v2 : Int32} {v4 : Int32} {v5 : Int32} {v6 : Int32} {S0 S : HS} (h : P_X1_findFit_39 Q X6 v0 v1 v2 v4 v5 v6 S) (K : K8 S0 S) (hX6 : ∀ (u0 : Nat) (u1 : Nat) (u2 : Int32) (u3 : Int32) (u4 : Int32) (u5 : HS), X6 u0 u1 u2 u3 u4 u5 → K8 S0 u5 → X6_2 u0 u1 u2 u3 u4 u5) : P_X1_findFit_39 (fun r T => Q r T ∧ K8 S0 T) X6_2 v0 v1 v2 v4 v5 v6 S := by
  delta P_X1_findFit_39 at h ⊢
  refine ⟨?_, ?_⟩
  · intro c1
    have h := h.1 c1
    exact kx_X1_findFit_48 h K hX6
  · intro c2
    have h := h.2 c2
    intro x4 e3
    have h := h x4 e3
    exact kx_X1_findFit_48 h K hX6
set_option maxRecDepth 20000 in
set_option maxHeartbeats 1000000 in
theorem kxB_X1_findFit_6 {Q : Int32 → HS → Prop} {X6 X6_2 : Nat → Nat → Int32 → Int32 → Int32 → HS → Prop} {v0 : Nat} {v1 : Nat} {v2 : Int32} {v4 : Int32} {v5 : Int32} {S0 S : HS} (h : B_X1_findFit_6 Q X6 v0 v1 v2 v4 v5 S) (K : K8 S0 S) (hX6 : ∀ (u0 : Nat) (u1 : Nat) (u2 : Int32) (u3 : Int32) (u4 : Int32) (u5 : HS), X6 u0 u1 u2 u3 u4 u5 → K8 S0 u5 → X6_2 u0 u1 u2 u3 u4 u5) : B_X1_findFit_6 (fun r T => Q r T ∧ K8 S0 T) X6_2 v0 v1 v2 v4 v5 S := by
  delta B_X1_findFit_6 at h ⊢
  refine cm_X1_legsOf (kx_X1_legsOf h) h (fun x1 x2 p4 h g3 => ?_)
  have h := h g3
  have K := k8_tr K p4.2
  refine ⟨?_, ?_⟩
  · intro c5
    have h := h.1 c5
    exact ⟨h, K⟩
  · intro c6
    have h := h.2 c6
    obtain ⟨c7, h⟩ := h
    refine ⟨c7, ?_⟩
    have n8 := k8_nk K c7 (by decide)
    refine cm_X1_fitCode (kx_X1_fitCode h) h (fun x9 x10 p12 h g11 => ?_)
    have h := h g11
    have K := k8_tr K p12.2
    refine ⟨?_, ?_⟩
    · intro c13
      have h := h.1 c13
      exact kx_X1_findFit_39 h K hX6
    · intro c14
      have h := h.2 c14
      refine ⟨?_, ?_⟩
      · intro c15
        have h := h.1 c15
        exact kx_X1_findFit_39 h K hX6
      · intro c16
        have h := h.2 c16
        exact ⟨h, K⟩
theorem kx_X1_findFit_6 {Q : Int32 → HS → Prop} {v0 : Nat} {v1 : Nat} {v2 : Int32} {v4 : Int32} {v5 : Int32} {S0 S : HS} (h : P_X1_findFit_6 Q v0 v1 v2 v4 v5 S) (K : K8 S0 S) : P_X1_findFit_6 (fun r T => Q r T ∧ K8 S0 T) v0 v1 v2 v4 v5 S := h (fun v0 v1 v2 v4 v5 S => K8 S0 S → P_X1_findFit_6 (fun r T => Q r T ∧ K8 S0 T) v0 v1 v2 v4 v5 S) (fun v0 v1 v2 v4 v5 S hB K => fd_X1_findFit_6 (kxB_X1_findFit_6 hB K (fun _ _ _ _ _ _ hx K => hx K))) K
set_option maxRecDepth 20000 in
set_option maxHeartbeats 1000000 in
theorem kx_X1_findFit_0 {Q : Int32 → HS → Prop} {v0 : Nat} {v1 : Nat} {v2 : Int32} {v3 : Int32} {S0 S : HS} (h : P_X1_findFit_0 Q v0 v1 v2 v3 S) (K : K8 S0 S) : P_X1_findFit_0 (fun r T => Q r T ∧ K8 S0 T) v0 v1 v2 v3 S := by
  delta P_X1_findFit_0 at h ⊢
  exact kx_X1_findFit_6 h K
theorem kx_X1_findFit {Q : Int32 → HS → Prop} {v0 : Nat} {v1 : Nat} {v2 : Int32} {v3 : Int32} {S : HS} (h : P_X1_findFit v0 v1 v2 v3 Q S) : P_X1_findFit v0 v1 v2 v3 (fun r T => Q r T ∧ K8 S T) S := kx_X1_findFit_0 h (k8_rf S)
set_option maxRecDepth 20000 in
set_option maxHeartbeats 1000000 in
theorem kx_X1_init_0 {Q : HS → Prop} {v0 : Nat} {S0 S : HS} (h : P_X1_init_0 Q v0 S) (K : K8 S0 S) : P_X1_init_0 (fun T => Q T ∧ K8 S0 T) v0 S := by
  delta P_X1_init_0 at h ⊢
  intro x2 e1
  have h := h x2 e1
  intro x4 e3
  have h := h x4 e3
  have n5 := k8_nf K e1
  have K := k8_W K e1 e3
  have o6 := ob_of_new e3
  obtain ⟨c7, h⟩ := h
  refine ⟨c7, ?_⟩
  have n8 := k8_nk K c7 (by decide)
  have o9 := c7
  intro x11 e10
  have h := h x11 e10
  have K := k8_R K e10 o9 (by decide) (by decide)
  have o6 := ob_wR o6 e10
  have o9 := ob_wR o9 e10
  intro x13 e12
  have h := h x13 e12
  intro x15 e14
  have h := h x15 e14
  have n16 := k8_nf K e12
  have K := k8_W K e12 e14
  have o6 := gr_ob (gr_of_new e14 e12) o6
  have o9 := gr_ob (gr_of_new e14 e12) o9
  have o17 := ob_of_new e14
  intro x19 e18
  have h := h x19 e18
  have K := k8_R K e18 o9 (by decide) (by decide)
  have o6 := ob_wR o6 e18
  have o9 := ob_wR o9 e18
  have o17 := ob_wR o17 e18
  exact ⟨h, K⟩
theorem kx_X1_init {Q : HS → Prop} {v0 : Nat} {S : HS} (h : P_X1_init v0 Q S) : P_X1_init v0 (fun T => Q T ∧ K8 S T) S := kx_X1_init_0 h (k8_rf S)
set_option maxRecDepth 20000 in
set_option maxHeartbeats 1000000 in
theorem kx_X1_leastWet_0 {Q : Int64 → HS → Prop} {v0 : Nat} {v1 : Nat} {v2 : Nat} {v3 : Int32} {v4 : Nat} {S0 S : HS} (h : P_X1_leastWet_0 Q v0 v1 v2 v3 v4 S) (K : K8 S0 S) : P_X1_leastWet_0 (fun r T => Q r T ∧ K8 S0 T) v0 v1 v2 v3 v4 S := by
  delta P_X1_leastWet_0 at h ⊢
  obtain ⟨c1, h⟩ := h
  refine ⟨c1, ?_⟩
  have n2 := k8_nk K c1 (by decide)
  refine cm_X1_bestSpeed (kx_X1_bestSpeed h) h (fun x3 x4 p6 h g5 => ?_)
  have h := h g5
  have K := k8_tr K p6.2
  refine cm_X1_wetOf (kx_X1_wetOf h) h (fun x7 x8 p10 h g9 => ?_)
  have h := h g9
  have K := k8_tr K p10.2
  exact ⟨h, K⟩
theorem kx_X1_leastWet {Q : Int64 → HS → Prop} {v0 : Nat} {v1 : Nat} {v2 : Nat} {v3 : Int32} {v4 : Nat} {S : HS} (h : P_X1_leastWet v0 v1 v2 v3 v4 Q S) : P_X1_leastWet v0 v1 v2 v3 v4 (fun r T => Q r T ∧ K8 S T) S := kx_X1_leastWet_0 h (k8_rf S)
set_option maxRecDepth 20000 in
set_option maxHeartbeats 1000000 in
theorem kx_X1_wetInLee_0 {Q : Int64 → HS → Prop} {v0 : Nat} {v1 : Nat} {v2 : Nat} {S0 S : HS} (h : P_X1_wetInLee_0 Q v0 v1 v2 S) (K : K8 S0 S) : P_X1_wetInLee_0 (fun r T => Q r T ∧ K8 S0 T) v0 v1 v2 S := by
  delta P_X1_wetInLee_0 at h ⊢
  obtain ⟨c1, h⟩ := h
  refine ⟨c1, ?_⟩
  have n2 := k8_nk K c1 (by decide)
  intro x4 e3
  have h := h x4 e3
  obtain ⟨c5, h⟩ := h
  refine ⟨c5, ?_⟩
  have n6 := k8_nk K c5 (by decide)
  refine cm_X1_soak (kx_X1_soak h) h (fun x7 x8 p10 h g9 => ?_)
  have h := h g9
  have K := k8_tr K p10.2
  obtain ⟨c11, h⟩ := h
  refine ⟨c11, ?_⟩
  have n12 := k8_nk K c11 (by decide)
  intro x14 e13
  have h := h x14 e13
  refine cm_X1_soak (kx_X1_soak h) h (fun x15 x16 p18 h g17 => ?_)
  have h := h g17
  have K := k8_tr K p18.2
  exact ⟨h, K⟩
theorem kx_X1_wetInLee {Q : Int64 → HS → Prop} {v0 : Nat} {v1 : Nat} {v2 : Nat} {S : HS} (h : P_X1_wetInLee v0 v1 v2 Q S) : P_X1_wetInLee v0 v1 v2 (fun r T => Q r T ∧ K8 S T) S := kx_X1_wetInLee_0 h (k8_rf S)
set_option maxRecDepth 20000 in
set_option maxHeartbeats 1000000 in
theorem kx_X1_worstSpeed_55 {Q : Int32 → HS → Prop} {X17 X17_2 : Nat → Nat → Nat → Int32 → Nat → Int32 → Int64 → Int32 → HS → Prop} {v0 : Nat} {v1 : Nat} {v2 : Nat} {v3 : Int32} {v4 : Nat} {v5 : Int32} {v6 : Int64} {v8 : Int32} {S0 S : HS} (h : P_X1_worstSpeed_55 Q X17 v0 v1 v2 v3 v4 v5 v6 v8 S) (K : K8 S0 S) (hX17 : ∀ (u0 : Nat) (u1 : Nat) (u2 : Nat) (u3 : Int32) (u4 : Nat) (u5 : Int32) (u6 : Int64) (u7 : Int32) (u8 : HS), X17 u0 u1 u2 u3 u4 u5 u6 u7 u8 → K8 S0 u8 → X17_2 u0 u1 u2 u3 u4 u5 u6 u7 u8) : P_X1_worstSpeed_55 (fun r T => Q r T ∧ K8 S0 T) X17_2 v0 v1 v2 v3 v4 v5 v6 v8 S := by
  delta P_X1_worstSpeed_55 at h ⊢
  intro x2 e1
  have h := h x2 e1
  exact hX17 _ _ _ _ _ _ _ _ _ h K
set_option maxRecDepth 20000 in
set_option maxHeartbeats 1000000 in
theorem kxB_X1_worstSpeed_17 {Q : Int32 → HS → Prop} {X17 X17_2 : Nat → Nat → Nat → Int32 → Nat → Int32 → Int64 → Int32 → HS → Prop} {v0 : Nat} {v1 : Nat} {v2 : Nat} {v3 : Int32} {v4 : Nat} {v5 : Int32} {v6 : Int64} {v8 : Int32} {S0 S : HS} (h : B_X1_worstSpeed_17 Q X17 v0 v1 v2 v3 v4 v5 v6 v8 S) (K : K8 S0 S) (hX17 : ∀ (u0 : Nat) (u1 : Nat) (u2 : Nat) (u3 : Int32) (u4 : Nat) (u5 : Int32) (u6 : Int64) (u7 : Int32) (u8 : HS), X17 u0 u1 u2 u3 u4 u5 u6 u7 u8 → K8 S0 u8 → X17_2 u0 u1 u2 u3 u4 u5 u6 u7 u8) : B_X1_worstSpeed_17 (fun r T => Q r T ∧ K8 S0 T) X17_2 v0 v1 v2 v3 v4 v5 v6 v8 S := by
  delta B_X1_worstSpeed_17 at h ⊢
  obtain ⟨c1, h⟩ := h
  refine ⟨c1, ?_⟩
  have n2 := k8_nk K c1 (by decide)
  intro x4 e3
  have h := h x4 e3
  refine ⟨?_, ?_⟩
  · intro c5
    have h := h.1 c5
    exact ⟨h, K⟩
  · intro c6
    have h := h.2 c6
    obtain ⟨c7, h⟩ := h
    refine ⟨c7, ?_⟩
    have n8 := k8_nk K c7 (by decide)
    refine cm_X1_wetOf (kx_X1_wetOf h) h (fun x9 x10 p12 h g11 => ?_)
    have h := h g11
    have K := k8_tr K p12.2
    refine ⟨?_, ?_⟩
    · intro c13
      have h := h.1 c13
      exact kx_X1_worstSpeed_55 h K hX17
    · intro c14
      have h := h.2 c14
      exact kx_X1_worstSpeed_55 h K hX17
theorem kx_X1_worstSpeed_17 {Q : Int32 → HS → Prop} {v0 : Nat} {v1 : Nat} {v2 : Nat} {v3 : Int32} {v4 : Nat} {v5 : Int32} {v6 : Int64} {v8 : Int32} {S0 S : HS} (h : P_X1_worstSpeed_17 Q v0 v1 v2 v3 v4 v5 v6 v8 S) (K : K8 S0 S) : P_X1_worstSpeed_17 (fun r T => Q r T ∧ K8 S0 T) v0 v1 v2 v3 v4 v5 v6 v8 S := h (fun v0 v1 v2 v3 v4 v5 v6 v8 S => K8 S0 S → P_X1_worstSpeed_17 (fun r T => Q r T ∧ K8 S0 T) v0 v1 v2 v3 v4 v5 v6 v8 S) (fun v0 v1 v2 v3 v4 v5 v6 v8 S hB K => fd_X1_worstSpeed_17 (kxB_X1_worstSpeed_17 hB K (fun _ _ _ _ _ _ _ _ _ hx K => hx K))) K
set_option maxRecDepth 20000 in
set_option maxHeartbeats 1000000 in
theorem kx_X1_worstSpeed_0 {Q : Int32 → HS → Prop} {v0 : Nat} {v1 : Nat} {v2 : Nat} {v3 : Int32} {v4 : Nat} {S0 S : HS} (h : P_X1_worstSpeed_0 Q v0 v1 v2 v3 v4 S) (K : K8 S0 S) : P_X1_worstSpeed_0 (fun r T => Q r T ∧ K8 S0 T) v0 v1 v2 v3 v4 S := by
  delta P_X1_worstSpeed_0 at h ⊢
  obtain ⟨c1, h⟩ := h
  refine ⟨c1, ?_⟩
  have n2 := k8_nk K c1 (by decide)
  intro x4 e3
  have h := h x4 e3
  intro x6 e5
  have h := h x6 e5
  exact kx_X1_worstSpeed_17 h K
theorem kx_X1_worstSpeed {Q : Int32 → HS → Prop} {v0 : Nat} {v1 : Nat} {v2 : Nat} {v3 : Int32} {v4 : Nat} {S : HS} (h : P_X1_worstSpeed v0 v1 v2 v3 v4 Q S) : P_X1_worstSpeed v0 v1 v2 v3 v4 (fun r T => Q r T ∧ K8 S T) S := kx_X1_worstSpeed_0 h (k8_rf S)
set_option maxRecDepth 20000 in
set_option maxHeartbeats 1000000 in
theorem kxB_X2_addFaces_2 {Q : HS → Prop} {X2 X2_2 : Nat → Nat → Int32 → HS → Prop} {v0 : Nat} {v1 : Nat} {v2 : Int32} {S0 S : HS} (h : B_X2_addFaces_2 Q X2 v0 v1 v2 S) (K : K8 S0 S) (hX2 : ∀ (u0 : Nat) (u1 : Nat) (u2 : Int32) (u3 : HS), X2 u0 u1 u2 u3 → K8 S0 u3 → X2_2 u0 u1 u2 u3) : B_X2_addFaces_2 (fun T => Q T ∧ K8 S0 T) X2_2 v0 v1 v2 S := by
  delta B_X2_addFaces_2 at h ⊢
  refine ⟨?_, ?_⟩
  · intro c1
    have h := h.1 c1
    exact ⟨h, K⟩
  · intro c2
    have h := h.2 c2
    obtain ⟨c3, h⟩ := h
    refine ⟨c3, ?_⟩
    have n4 := k8_nk K c3 (by decide)
    refine ⟨?_, ?_⟩
    · intro c5
      have h := h.1 c5
      exact ⟨h, K⟩
    · intro c6
      have h := h.2 c6
      obtain ⟨c7, h⟩ := h
      refine ⟨c7, ?_⟩
      have n8 := k8_nk K c7 (by decide)
      obtain ⟨b9, e10, h⟩ := h
      refine ⟨b9, e10, ?_⟩
      obtain ⟨c11, h⟩ := h
      refine ⟨c11, ?_⟩
      have n12 := k8_nk K c11 (by decide)
      obtain ⟨c13, h⟩ := h
      refine ⟨c13, ?_⟩
      intro x15 e14
      have h := h x15 e14
      obtain ⟨c16, h⟩ := h
      refine ⟨c16, ?_⟩
      intro x18 e17
      have h := h x18 e17
      intro x20 e19
      have h := h x20 e19
      obtain ⟨c21, h⟩ := h
      refine ⟨c21, ?_⟩
      intro x23 e22
      have h := h x23 e22
      have K := k8_J K e22
      intro x25 e24
      have h := h x25 e24
      exact hX2 _ _ _ _ h K
theorem kx_X2_addFaces_2 {Q : HS → Prop} {v0 : Nat} {v1 : Nat} {v2 : Int32} {S0 S : HS} (h : P_X2_addFaces_2 Q v0 v1 v2 S) (K : K8 S0 S) : P_X2_addFaces_2 (fun T => Q T ∧ K8 S0 T) v0 v1 v2 S := h (fun v0 v1 v2 S => K8 S0 S → P_X2_addFaces_2 (fun T => Q T ∧ K8 S0 T) v0 v1 v2 S) (fun v0 v1 v2 S hB K => fd_X2_addFaces_2 (kxB_X2_addFaces_2 hB K (fun _ _ _ _ hx K => hx K))) K
set_option maxRecDepth 20000 in
set_option maxHeartbeats 1000000 in
theorem kx_X2_addFaces_0 {Q : HS → Prop} {v0 : Nat} {v1 : Nat} {S0 S : HS} (h : P_X2_addFaces_0 Q v0 v1 S) (K : K8 S0 S) : P_X2_addFaces_0 (fun T => Q T ∧ K8 S0 T) v0 v1 S := by
  delta P_X2_addFaces_0 at h ⊢
  exact kx_X2_addFaces_2 h K
theorem kx_X2_addFaces {Q : HS → Prop} {v0 : Nat} {v1 : Nat} {S : HS} (h : P_X2_addFaces v0 v1 Q S) : P_X2_addFaces v0 v1 (fun T => Q T ∧ K8 S T) S := kx_X2_addFaces_0 h (k8_rf S)
set_option maxRecDepth 20000 in
set_option maxHeartbeats 1000000 in
theorem kxB_X2_allGot_4 {Q : Int64 → HS → Prop} {X4 X4_2 : Nat → Int64 → Int32 → HS → Prop} {v0 : Nat} {v1 : Int64} {v3 : Int32} {S0 S : HS} (h : B_X2_allGot_4 Q X4 v0 v1 v3 S) (K : K8 S0 S) (hX4 : ∀ (u0 : Nat) (u1 : Int64) (u2 : Int32) (u3 : HS), X4 u0 u1 u2 u3 → K8 S0 u3 → X4_2 u0 u1 u2 u3) : B_X2_allGot_4 (fun r T => Q r T ∧ K8 S0 T) X4_2 v0 v1 v3 S := by
  delta B_X2_allGot_4 at h ⊢
  refine ⟨?_, ?_⟩
  · intro c1
    have h := h.1 c1
    exact ⟨h, K⟩
  · intro c2
    have h := h.2 c2
    obtain ⟨c3, h⟩ := h
    refine ⟨c3, ?_⟩
    have n4 := k8_nk K c3 (by decide)
    obtain ⟨b5, e6, h⟩ := h
    refine ⟨b5, e6, ?_⟩
    obtain ⟨c7, h⟩ := h
    refine ⟨c7, ?_⟩
    have n8 := k8_nk K c7 (by decide)
    obtain ⟨c9, h⟩ := h
    refine ⟨c9, ?_⟩
    intro x11 e10
    have h := h x11 e10
    intro x13 e12
    have h := h x13 e12
    intro x15 e14
    have h := h x15 e14
    exact hX4 _ _ _ _ h K
theorem kx_X2_allGot_4 {Q : Int64 → HS → Prop} {v0 : Nat} {v1 : Int64} {v3 : Int32} {S0 S : HS} (h : P_X2_allGot_4 Q v0 v1 v3 S) (K : K8 S0 S) : P_X2_allGot_4 (fun r T => Q r T ∧ K8 S0 T) v0 v1 v3 S := h (fun v0 v1 v3 S => K8 S0 S → P_X2_allGot_4 (fun r T => Q r T ∧ K8 S0 T) v0 v1 v3 S) (fun v0 v1 v3 S hB K => fd_X2_allGot_4 (kxB_X2_allGot_4 hB K (fun _ _ _ _ hx K => hx K))) K
set_option maxRecDepth 20000 in
set_option maxHeartbeats 1000000 in
theorem kx_X2_allGot_0 {Q : Int64 → HS → Prop} {v0 : Nat} {S0 S : HS} (h : P_X2_allGot_0 Q v0 S) (K : K8 S0 S) : P_X2_allGot_0 (fun r T => Q r T ∧ K8 S0 T) v0 S := by
  delta P_X2_allGot_0 at h ⊢
  exact kx_X2_allGot_4 h K
theorem kx_X2_allGot {Q : Int64 → HS → Prop} {v0 : Nat} {S : HS} (h : P_X2_allGot v0 Q S) : P_X2_allGot v0 (fun r T => Q r T ∧ K8 S T) S := kx_X2_allGot_0 h (k8_rf S)
set_option maxRecDepth 20000 in
set_option maxHeartbeats 1000000 in
theorem kx_X3_init_0 {Q : HS → Prop} {v0 : Nat} {S0 S : HS} (h : P_X3_init_0 Q v0 S) (K : K8 S0 S) : P_X3_init_0 (fun T => Q T ∧ K8 S0 T) v0 S := by
  delta P_X3_init_0 at h ⊢
  exact ⟨h, K⟩
theorem kx_X3_init {Q : HS → Prop} {v0 : Nat} {S : HS} (h : P_X3_init v0 Q S) : P_X3_init v0 (fun T => Q T ∧ K8 S T) S := kx_X3_init_0 h (k8_rf S)
set_option maxRecDepth 20000 in
set_option maxHeartbeats 1000000 in
theorem kx_X4_fail_0 {Q : Int32 → HS → Prop} {v0 : Nat} {v1 : Int32} {S0 S : HS} (h : P_X4_fail_0 Q v0 v1 S) (K : K8 S0 S) : P_X4_fail_0 (fun r T => Q r T ∧ K8 S0 T) v0 v1 S := by
  delta P_X4_fail_0 at h ⊢
  obtain ⟨c1, h⟩ := h
  refine ⟨c1, ?_⟩
  have n2 := k8_nk K c1 (by decide)
  have o3 := c1
  intro x5 e4
  have h := h x5 e4
  have K := k8_I K e4 n2
  have o3 := ob_wI o3 e4
  intro x7 e6
  have h := h x7 e6
  intro x9 e8
  have h := h x9 e8
  have K := k8_I K e8 n2
  have o3 := ob_wI o3 e8
  exact ⟨h, K⟩
theorem kx_X4_fail {Q : Int32 → HS → Prop} {v0 : Nat} {v1 : Int32} {S : HS} (h : P_X4_fail v0 v1 Q S) : P_X4_fail v0 v1 (fun r T => Q r T ∧ K8 S T) S := kx_X4_fail_0 h (k8_rf S)
set_option maxRecDepth 20000 in
set_option maxHeartbeats 1000000 in
theorem kx_X4_sortAt_58 {Q : Int32 → HS → Prop} {v2 : Int32} {S0 S : HS} (h : P_X4_sortAt_58 Q v2 S) (K : K8 S0 S) : P_X4_sortAt_58 (fun r T => Q r T ∧ K8 S0 T) v2 S := by
  delta P_X4_sortAt_58 at h ⊢
  refine ⟨?_, ?_, ?_, ?_⟩
  · intro c1
    have h := h.1 c1
    exact ⟨h, K⟩
  · intro c2
    have h := h.2.1 c2
    exact ⟨h, K⟩
  · intro c3
    have h := h.2.2.1 c3
    exact ⟨h, K⟩
  · intro c4
    have h := h.2.2.2 c4
    exact ⟨h, K⟩
set_option maxRecDepth 20000 in
set_option maxHeartbeats 1000000 in
theorem kx_X4_sortAt_44 {Q : Int32 → HS → Prop} {v2 : Int32} {S0 S : HS} (h : P_X4_sortAt_44 Q v2 S) (K : K8 S0 S) : P_X4_sortAt_44 (fun r T => Q r T ∧ K8 S0 T) v2 S := by
  delta P_X4_sortAt_44 at h ⊢
  refine ⟨?_, ?_⟩
  · intro c1
    have h := h.1 c1
    exact kx_X4_sortAt_58 h K
  · intro c2
    have h := h.2 c2
    refine ⟨?_, ?_⟩
    · intro c3
      have h := h.1 c3
      exact kx_X4_sortAt_58 h K
    · intro c4
      have h := h.2 c4
      exact ⟨h, K⟩
set_option maxRecDepth 20000 in
set_option maxHeartbeats 1000000 in
theorem kx_X4_sortAt_0 {Q : Int32 → HS → Prop} {v0 : Nat} {v1 : Int32} {S0 S : HS} (h : P_X4_sortAt_0 Q v0 v1 S) (K : K8 S0 S) : P_X4_sortAt_0 (fun r T => Q r T ∧ K8 S0 T) v0 v1 S := by
  delta P_X4_sortAt_0 at h ⊢
  refine ⟨?_, ?_⟩
  · intro c1
    have h := h.1 c1
    exact ⟨h, K⟩
  · intro c2
    have h := h.2 c2
    obtain ⟨c3, h⟩ := h
    refine ⟨c3, ?_⟩
    have n4 := k8_nk K c3 (by decide)
    have o5 := c3
    intro x7 e6
    have h := h x7 e6
    refine ⟨?_, ?_⟩
    · intro c8
      have h := h.1 c8
      exact ⟨h, K⟩
    · intro c9
      have h := h.2 c9
      obtain ⟨b10, e11, h⟩ := h
      refine ⟨b10, e11, ?_⟩
      obtain ⟨c12, h⟩ := h
      refine ⟨c12, ?_⟩
      have n13 := k8_nk K c12 (by decide)
      refine ⟨?_, ?_⟩
      · intro c14
        have h := h.1 c14
        obtain ⟨b15, e16, h⟩ := h
        refine ⟨b15, e16, ?_⟩
        obtain ⟨c17, h⟩ := h
        refine ⟨c17, ?_⟩
        have n18 := k8_nk K c17 (by decide)
        obtain ⟨c19, h⟩ := h
        refine ⟨c19, ?_⟩
        intro x21 e20
        have h := h x21 e20
        refine ⟨?_, ?_⟩
        · intro c22
          have h := h.1 c22
          exact kx_X4_sortAt_44 h K
        · intro c23
          have h := h.2 c23
          refine ⟨?_, ?_⟩
          · intro c24
            have h := h.1 c24
            exact kx_X4_sortAt_44 h K
          · intro c25
            have h := h.2 c25
            exact ⟨h, K⟩
      · intro c26
        have h := h.2 c26
        exact ⟨h, K⟩
theorem kx_X4_sortAt {Q : Int32 → HS → Prop} {v0 : Nat} {v1 : Int32} {S : HS} (h : P_X4_sortAt v0 v1 Q S) : P_X4_sortAt v0 v1 (fun r T => Q r T ∧ K8 S T) S := kx_X4_sortAt_0 h (k8_rf S)
set_option maxRecDepth 20000 in
set_option maxHeartbeats 1000000 in
theorem kx_X4_next_201 {Q : HS → Prop} {X118 X118_2 : Nat → Int32 → Int32 → Int32 → Int32 → HS → Prop} {v0 : Nat} {v1 : Int32} {v2 : Int32} {v3 : Int32} {v4 : Int32} {S0 S : HS} (h : P_X4_next_201 Q X118 v0 v1 v2 v3 v4 S) (K : K8 S0 S) (hX118 : ∀ (u0 : Nat) (u1 : Int32) (u2 : Int32) (u3 : Int32) (u4 : Int32) (u5 : HS), X118 u0 u1 u2 u3 u4 u5 → K8 S0 u5 → X118_2 u0 u1 u2 u3 u4 u5) : P_X4_next_201 (fun T => Q T ∧ K8 S0 T) X118_2 v0 v1 v2 v3 v4 S := by
  delta P_X4_next_201 at h ⊢
  obtain ⟨c1, h⟩ := h
  refine ⟨c1, ?_⟩
  have n2 := k8_nk K c1 (by decide)
  have o3 := c1
  intro x5 e4
  have h := h x5 e4
  intro x7 e6
  have h := h x7 e6
  intro x9 e8
  have h := h x9 e8
  have K := k8_I K e8 n2
  have o3 := ob_wI o3 e8
  intro x11 e10
  have h := h x11 e10
  exact hX118 _ _ _ _ _ _ h K
set_option maxRecDepth 20000 in
set_option maxHeartbeats 1000000 in
theorem kx_X4_next_195 {Q : HS → Prop} {X118 X118_2 : Nat → Int32 → Int32 → Int32 → Int32 → HS → Prop} {v0 : Nat} {v1 : Int32} {v2 : Int32} {v3 : Int32} {v4 : Int32} {s0 : Nat} {s1 : Int64} {s2 : Int32} {s3 : Int32} {S0 S : HS} (h : P_X4_next_195 Q X118 v0 v1 v2 v3 v4 s0 s1 s2 s3 S) (K : K8 S0 S) (hX118 : ∀ (u0 : Nat) (u1 : Int32) (u2 : Int32) (u3 : Int32) (u4 : Int32) (u5 : HS), X118 u0 u1 u2 u3 u4 u5 → K8 S0 u5 → X118_2 u0 u1 u2 u3 u4 u5) : P_X4_next_195 (fun T => Q T ∧ K8 S0 T) X118_2 v0 v1 v2 v3 v4 s0 s1 s2 s3 S := by
  delta P_X4_next_195 at h ⊢
  obtain ⟨c1, h⟩ := h
  refine ⟨c1, ?_⟩
  have n2 := k8_nk K c1 (by decide)
  have o3 := c1
  intro x5 e4
  have h := h x5 e4
  intro x7 e6
  have h := h x7 e6
  have K := k8_J K e6
  have o3 := ob_wJ o3 e6
  exact kx_X4_next_201 h K hX118
set_option maxRecDepth 20000 in
set_option maxHeartbeats 1000000 in
theorem kx_X4_next_240 {Q : HS → Prop} {v0 : Nat} {v1 : Int32} {S0 S : HS} (h : P_X4_next_240 Q v0 v1 S) (K : K8 S0 S) : P_X4_next_240 (fun T => Q T ∧ K8 S0 T) v0 v1 S := by
  delta P_X4_next_240 at h ⊢
  refine ⟨?_, ?_⟩
  · intro c1
    have h := h.1 c1
    exact ⟨h, K⟩
  · intro c2
    have h := h.2 c2
    obtain ⟨c3, h⟩ := h
    refine ⟨c3, ?_⟩
    have n4 := k8_nk K c3 (by decide)
    have o5 := c3
    intro x7 e6
    have h := h x7 e6
    refine ⟨?_, ?_⟩
    · intro c8
      have h := h.1 c8
      exact ⟨h, K⟩
    · intro c9
      have h := h.2 c9
      intro x11 e10
      have h := h x11 e10
      intro x13 e12
      have h := h x13 e12
      intro x15 e14
      have h := h x15 e14
      have K := k8_I K e14 n4
      have o5 := ob_wI o5 e14
      exact ⟨h, K⟩
set_option maxRecDepth 20000 in
set_option maxHeartbeats 1000000 in
theorem kx_X4_next_217 {Q : HS → Prop} {v0 : Nat} {v1 : Int32} {v2 : Int32} {S0 S : HS} (h : P_X4_next_217 Q v0 v1 v2 S) (K : K8 S0 S) : P_X4_next_217 (fun T => Q T ∧ K8 S0 T) v0 v1 v2 S := by
  delta P_X4_next_217 at h ⊢
  refine ⟨?_, ?_⟩
  · intro c1
    have h := h.1 c1
    exact kx_X4_next_240 h K
  · intro c2
    have h := h.2 c2
    obtain ⟨c3, h⟩ := h
    refine ⟨c3, ?_⟩
    have n4 := k8_nk K c3 (by decide)
    have o5 := c3
    intro x7 e6
    have h := h x7 e6
    intro x9 e8
    have h := h x9 e8
    refine ⟨?_, ?_⟩
    · intro c10
      have h := h.1 c10
      exact kx_X4_next_240 h K
    · intro c11
      have h := h.2 c11
      intro x13 e12
      have h := h x13 e12
      have K := k8_I K e12 n4
      have o5 := ob_wI o5 e12
      exact kx_X4_next_240 h K
set_option maxRecDepth 20000 in
set_option maxHeartbeats 1000000 in
theorem kxB_X4_next_118 {Q : HS → Prop} {X118 X118_2 : Nat → Int32 → Int32 → Int32 → Int32 → HS → Prop} {v0 : Nat} {v1 : Int32} {v2 : Int32} {v3 : Int32} {v4 : Int32} {S0 S : HS} (h : B_X4_next_118 Q X118 v0 v1 v2 v3 v4 S) (K : K8 S0 S) (hX118 : ∀ (u0 : Nat) (u1 : Int32) (u2 : Int32) (u3 : Int32) (u4 : Int32) (u5 : HS), X118 u0 u1 u2 u3 u4 u5 → K8 S0 u5 → X118_2 u0 u1 u2 u3 u4 u5) : B_X4_next_118 (fun T => Q T ∧ K8 S0 T) X118_2 v0 v1 v2 v3 v4 S := by
  delta B_X4_next_118 at h ⊢
  refine ⟨?_, ?_⟩
  · intro c1
    have h := h.1 c1
    exact kx_X4_next_217 h K
  · intro c2
    have h := h.2 c2
    refine ⟨?_, ?_⟩
    · intro c3
      have h := h.1 c3
      exact kx_X4_next_217 h K
    · intro c4
      have h := h.2 c4
      obtain ⟨c5, h⟩ := h
      refine ⟨c5, ?_⟩
      have n6 := k8_nk K c5 (by decide)
      have o7 := c5
      intro x9 e8
      have h := h x9 e8
      refine cm_X4_sortAt (kx_X4_sortAt h) h (fun x10 x11 p13 h g12 => ?_)
      have h := h g12
      have K := k8_tr K p13.2
      have o7 := gr_ob p13.2.1 o7
      intro x15 e14
      have h := h x15 e14
      refine ⟨?_, ?_⟩
      · intro c16
        have h := h.1 c16
        exact kx_X4_next_217 h K
      · intro c17
        have h := h.2 c17
        refine ⟨?_, ?_⟩
        · intro c18
          have h := h.1 c18
          exact kx_X4_next_201 h K hX118
        · intro c19
          have h := h.2 c19
          intro x21 e20
          have h := h x21 e20
          obtain ⟨b22, e23, h⟩ := h
          refine ⟨b22, e23, ?_⟩
          obtain ⟨c24, h⟩ := h
          refine ⟨c24, ?_⟩
          have n25 := k8_nk K c24 (by decide)
          refine ⟨?_, ?_⟩
          · intro c26
            have h := h.1 c26
            exact kx_X4_next_201 h K hX118
          · intro c27
            have h := h.2 c27
            intro x29 e28
            have h := h x29 e28
            obtain ⟨b30, e31, h⟩ := h
            refine ⟨b30, e31, ?_⟩
            intro x33 e32
            have h := h x33 e32
            obtain ⟨c34, h⟩ := h
            refine ⟨c34, ?_⟩
            have n35 := k8_nk K c34 (by decide)
            obtain ⟨c36, h⟩ := h
            refine ⟨c36, ?_⟩
            intro x38 e37
            have h := h x38 e37
            intro x40 e39
            have h := h x40 e39
            refine ⟨?_, ?_⟩
            · intro c41
              have h := h.1 c41
              exact kx_X4_next_195 h K hX118
            · intro c42
              have h := h.2 c42
              exact kx_X4_next_195 h K hX118
theorem kx_X4_next_118 {Q : HS → Prop} {v0 : Nat} {v1 : Int32} {v2 : Int32} {v3 : Int32} {v4 : Int32} {S0 S : HS} (h : P_X4_next_118 Q v0 v1 v2 v3 v4 S) (K : K8 S0 S) : P_X4_next_118 (fun T => Q T ∧ K8 S0 T) v0 v1 v2 v3 v4 S := h (fun v0 v1 v2 v3 v4 S => K8 S0 S → P_X4_next_118 (fun T => Q T ∧ K8 S0 T) v0 v1 v2 v3 v4 S) (fun v0 v1 v2 v3 v4 S hB K => fd_X4_next_118 (kxB_X4_next_118 hB K (fun _ _ _ _ _ _ hx K => hx K))) K
set_option maxRecDepth 20000 in
set_option maxHeartbeats 1000000 in
theorem kx_X4_next_114 {Q : HS → Prop} {v0 : Nat} {v1 : Int32} {v2 : Int32} {s0 : Int32} {S0 S : HS} (h : P_X4_next_114 Q v0 v1 v2 s0 S) (K : K8 S0 S) : P_X4_next_114 (fun T => Q T ∧ K8 S0 T) v0 v1 v2 s0 S := by
  delta P_X4_next_114 at h ⊢
  exact kx_X4_next_118 h K
set_option maxRecDepth 20000 in
set_option maxHeartbeats 1000000 in
theorem kx_X4_next_98 {Q : HS → Prop} {v0 : Nat} {v1 : Int32} {s0 : Int32} {S0 S : HS} (h : P_X4_next_98 Q v0 v1 s0 S) (K : K8 S0 S) : P_X4_next_98 (fun T => Q T ∧ K8 S0 T) v0 v1 s0 S := by
  delta P_X4_next_98 at h ⊢
  obtain ⟨c1, h⟩ := h
  refine ⟨c1, ?_⟩
  have n2 := k8_nk K c1 (by decide)
  have o3 := c1
  intro x5 e4
  have h := h x5 e4
  refine ⟨?_, ?_⟩
  · intro c6
    have h := h.1 c6
    exact kx_X4_next_114 h K
  · intro c7
    have h := h.2 c7
    exact kx_X4_next_114 h K
set_option maxRecDepth 20000 in
set_option maxHeartbeats 1000000 in
theorem kx_X4_next_83 {Q : HS → Prop} {v0 : Nat} {s0 : Int32} {S0 S : HS} (h : P_X4_next_83 Q v0 s0 S) (K : K8 S0 S) : P_X4_next_83 (fun T => Q T ∧ K8 S0 T) v0 s0 S := by
  delta P_X4_next_83 at h ⊢
  obtain ⟨c1, h⟩ := h
  refine ⟨c1, ?_⟩
  have n2 := k8_nk K c1 (by decide)
  have o3 := c1
  intro x5 e4
  have h := h x5 e4
  refine ⟨?_, ?_⟩
  · intro c6
    have h := h.1 c6
    exact kx_X4_next_98 h K
  · intro c7
    have h := h.2 c7
    exact kx_X4_next_98 h K
set_option maxRecDepth 20000 in
set_option maxHeartbeats 1000000 in
theorem kx_X4_next_78 {Q : HS → Prop} {v0 : Nat} {S0 S : HS} (h : P_X4_next_78 Q v0 S) (K : K8 S0 S) : P_X4_next_78 (fun T => Q T ∧ K8 S0 T) v0 S := by
  delta P_X4_next_78 at h ⊢
  exact kx_X4_next_83 h K
set_option maxRecDepth 20000 in
set_option maxHeartbeats 1000000 in
theorem kx_X4_next_37 {Q : HS → Prop} {v0 : Nat} {S0 S : HS} (h : P_X4_next_37 Q v0 S) (K : K8 S0 S) : P_X4_next_37 (fun T => Q T ∧ K8 S0 T) v0 S := by
  delta P_X4_next_37 at h ⊢
  obtain ⟨c1, h⟩ := h
  refine ⟨c1, ?_⟩
  have n2 := k8_nk K c1 (by decide)
  have o3 := c1
  intro x5 e4
  have h := h x5 e4
  intro x7 e6
  have h := h x7 e6
  have K := k8_I K e6 n2
  have o3 := ob_wI o3 e6
  intro x9 e8
  have h := h x9 e8
  refine cm_X4_sortAt (kx_X4_sortAt h) h (fun x10 x11 p13 h g12 => ?_)
  have h := h g12
  have K := k8_tr K p13.2
  have o3 := gr_ob p13.2.1 o3
  intro x15 e14
  have h := h x15 e14
  have K := k8_I K e14 n2
  have o3 := ob_wI o3 e14
  intro x17 e16
  have h := h x17 e16
  have K := k8_J K e16
  have o3 := ob_wJ o3 e16
  intro x19 e18
  have h := h x19 e18
  refine ⟨?_, ?_⟩
  · intro c20
    have h := h.1 c20
    exact kx_X4_next_78 h K
  · intro c21
    have h := h.2 c21
    intro x23 e22
    have h := h x23 e22
    refine ⟨?_, ?_⟩
    · intro c24
      have h := h.1 c24
      exact kx_X4_next_83 h K
    · intro c25
      have h := h.2 c25
      exact kx_X4_next_78 h K
set_option maxRecDepth 20000 in
set_option maxHeartbeats 1000000 in
theorem kxB_X4_next_2 {Q : HS → Prop} {X2 X2_2 : Nat → Int32 → HS → Prop} {v0 : Nat} {v1 : Int32} {S0 S : HS} (h : B_X4_next_2 Q X2 v0 v1 S) (K : K8 S0 S) (hX2 : ∀ (u0 : Nat) (u1 : Int32) (u2 : HS), X2 u0 u1 u2 → K8 S0 u2 → X2_2 u0 u1 u2) : B_X4_next_2 (fun T => Q T ∧ K8 S0 T) X2_2 v0 v1 S := by
  delta B_X4_next_2 at h ⊢
  refine ⟨?_, ?_⟩
  · intro c1
    have h := h.1 c1
    exact kx_X4_next_37 h K
  · intro c2
    have h := h.2 c2
    obtain ⟨c3, h⟩ := h
    refine ⟨c3, ?_⟩
    have n4 := k8_nk K c3 (by decide)
    have o5 := c3
    intro x7 e6
    have h := h x7 e6
    refine cm_X4_sortAt (kx_X4_sortAt h) h (fun x8 x9 p11 h g10 => ?_)
    have h := h g10
    have K := k8_tr K p11.2
    have o5 := gr_ob p11.2.1 o5
    refine ⟨?_, ?_⟩
    · intro c12
      have h := h.1 c12
      exact kx_X4_next_37 h K
    · intro c13
      have h := h.2 c13
      intro x15 e14
      have h := h x15 e14
      intro x17 e16
      have h := h x17 e16
      intro x19 e18
      have h := h x19 e18
      have K := k8_I K e18 n4
      have o5 := ob_wI o5 e18
      intro x21 e20
      have h := h x21 e20
      exact hX2 _ _ _ h K
theorem kx_X4_next_2 {Q : HS → Prop} {v0 : Nat} {v1 : Int32} {S0 S : HS} (h : P_X4_next_2 Q v0 v1 S) (K : K8 S0 S) : P_X4_next_2 (fun T => Q T ∧ K8 S0 T) v0 v1 S := h (fun v0 v1 S => K8 S0 S → P_X4_next_2 (fun T => Q T ∧ K8 S0 T) v0 v1 S) (fun v0 v1 S hB K => fd_X4_next_2 (kxB_X4_next_2 hB K (fun _ _ _ hx K => hx K))) K
set_option maxRecDepth 20000 in
set_option maxHeartbeats 1000000 in
theorem kx_X4_next_0 {Q : HS → Prop} {v0 : Nat} {S0 S : HS} (h : P_X4_next_0 Q v0 S) (K : K8 S0 S) : P_X4_next_0 (fun T => Q T ∧ K8 S0 T) v0 S := by
  delta P_X4_next_0 at h ⊢
  exact kx_X4_next_2 h K
theorem kx_X4_next {Q : HS → Prop} {v0 : Nat} {S : HS} (h : P_X4_next v0 Q S) : P_X4_next v0 (fun T => Q T ∧ K8 S T) S := kx_X4_next_0 h (k8_rf S)
set_option maxRecDepth 20000 in
set_option maxHeartbeats 1000000 in
theorem kx_X4_whole_34 {Q : Int32 → HS → Prop} {v0 : Nat} {S0 S : HS} (h : P_X4_whole_34 Q v0 S) (K : K8 S0 S) : P_X4_whole_34 (fun r T => Q r T ∧ K8 S0 T) v0 S := by
  delta P_X4_whole_34 at h ⊢
  obtain ⟨c1, h⟩ := h
  refine ⟨c1, ?_⟩
  have n2 := k8_nk K c1 (by decide)
  have o3 := c1
  refine cm_X4_fail (kx_X4_fail h) h (fun x4 x5 p8 h g6 g7 => ?_)
  have h := h g6 g7
  have K := k8_tr K p8.2
  have o3 := gr_ob p8.2.1 o3
  obtain ⟨c9, h⟩ := h
  refine ⟨c9, ?_⟩
  exact ⟨h, K⟩
set_option maxRecDepth 20000 in
set_option maxHeartbeats 1000000 in
theorem kx_X4_whole_0 {Q : Int32 → HS → Prop} {v0 : Nat} {v1 : Int32} {v2 : Int32} {S0 S : HS} (h : P_X4_whole_0 Q v0 v1 v2 S) (K : K8 S0 S) : P_X4_whole_0 (fun r T => Q r T ∧ K8 S0 T) v0 v1 v2 S := by
  delta P_X4_whole_0 at h ⊢
  obtain ⟨c1, h⟩ := h
  refine ⟨c1, ?_⟩
  have n2 := k8_nk K c1 (by decide)
  have o3 := c1
  intro x5 e4
  have h := h x5 e4
  refine ⟨?_, ?_⟩
  · intro c6
    have h := h.1 c6
    intro x8 e7
    have h := h x8 e7
    refine ⟨?_, ?_⟩
    · intro c9
      have h := h.1 c9
      exact kx_X4_whole_34 h K
    · intro c10
      have h := h.2 c10
      intro x12 e11
      have h := h x12 e11
      refine ⟨?_, ?_⟩
      · intro c13
        have h := h.1 c13
        intro x15 e14
        have h := h x15 e14
        intro x17 e16
        have h := h x17 e16
        intro x19 e18
        have h := h x19 e18
        have K := k8_I K e18 n2
        have o3 := ob_wI o3 e18
        refine cm_X4_next (kx_X4_next h) h (fun x20 p22 h g21 => ?_)
        have h := h g21
        have K := k8_tr K p22.2
        have o3 := gr_ob p22.2.1 o3
        exact ⟨h, K⟩
      · intro c23
        have h := h.2 c23
        exact kx_X4_whole_34 h K
  · intro c24
    have h := h.2 c24
    refine cm_X4_fail (kx_X4_fail h) h (fun x25 x26 p29 h g27 g28 => ?_)
    have h := h g27 g28
    have K := k8_tr K p29.2
    have o3 := gr_ob p29.2.1 o3
    obtain ⟨c30, h⟩ := h
    refine ⟨c30, ?_⟩
    exact ⟨h, K⟩
theorem kx_X4_whole {Q : Int32 → HS → Prop} {v0 : Nat} {v1 : Int32} {v2 : Int32} {S : HS} (h : P_X4_whole v0 v1 v2 Q S) : P_X4_whole v0 v1 v2 (fun r T => Q r T ∧ K8 S T) S := kx_X4_whole_0 h (k8_rf S)
set_option maxRecDepth 20000 in
set_option maxHeartbeats 1000000 in
theorem kxB_X4_is_15 {Q : Int32 → HS → Prop} {X15 X15_2 : Nat → Nat → Int64 → Int32 → HS → Prop} {v0 : Nat} {v1 : Nat} {v2 : Int64} {v4 : Int32} {S0 S : HS} (h : B_X4_is_15 Q X15 v0 v1 v2 v4 S) (K : K8 S0 S) (hX15 : ∀ (u0 : Nat) (u1 : Nat) (u2 : Int64) (u3 : Int32) (u4 : HS), X15 u0 u1 u2 u3 u4 → K8 S0 u4 → X15_2 u0 u1 u2 u3 u4) : B_X4_is_15 (fun r T => Q r T ∧ K8 S0 T) X15_2 v0 v1 v2 v4 S := by
  delta B_X4_is_15 at h ⊢
  obtain ⟨c1, h⟩ := h
  refine ⟨c1, ?_⟩
  intro x3 e2
  have h := h x3 e2
  refine ⟨?_, ?_⟩
  · intro c4
    have h := h.1 c4
    obtain ⟨c5, h⟩ := h
    refine ⟨c5, ?_⟩
    have n6 := k8_nk K c5 (by decide)
    have o7 := c5
    intro x9 e8
    have h := h x9 e8
    refine ⟨?_, ?_⟩
    · intro c10
      have h := h.1 c10
      exact ⟨h, K⟩
    · intro c11
      have h := h.2 c11
      exact ⟨h, K⟩
  · intro c12
    have h := h.2 c12
    obtain ⟨c13, h⟩ := h
    refine ⟨c13, ?_⟩
    obtain ⟨c14, h⟩ := h
    refine ⟨c14, ?_⟩
    intro x16 e15
    have h := h x16 e15
    intro x18 e17
    have h := h x18 e17
    intro x20 e19
    have h := h x20 e19
    exact hX15 _ _ _ _ _ h K
theorem kx_X4_is_15 {Q : Int32 → HS → Prop} {v0 : Nat} {v1 : Nat} {v2 : Int64} {v4 : Int32} {S0 S : HS} (h : P_X4_is_15 Q v0 v1 v2 v4 S) (K : K8 S0 S) : P_X4_is_15 (fun r T => Q r T ∧ K8 S0 T) v0 v1 v2 v4 S := h (fun v0 v1 v2 v4 S => K8 S0 S → P_X4_is_15 (fun r T => Q r T ∧ K8 S0 T) v0 v1 v2 v4 S) (fun v0 v1 v2 v4 S hB K => fd_X4_is_15 (kxB_X4_is_15 hB K (fun _ _ _ _ _ hx K => hx K))) K
set_option maxRecDepth 20000 in
set_option maxHeartbeats 1000000 in
theorem kx_X4_is_0 {Q : Int32 → HS → Prop} {v0 : Nat} {v1 : Nat} {S0 S : HS} (h : P_X4_is_0 Q v0 v1 S) (K : K8 S0 S) : P_X4_is_0 (fun r T => Q r T ∧ K8 S0 T) v0 v1 S := by
  delta P_X4_is_0 at h ⊢
  obtain ⟨c1, h⟩ := h
  refine ⟨c1, ?_⟩
  have n2 := k8_nk K c1 (by decide)
  have o3 := c1
  intro x5 e4
  have h := h x5 e4
  refine ⟨?_, ?_⟩
  · intro c6
    have h := h.1 c6
    exact kx_X4_is_15 h K
  · intro c7
    have h := h.2 c7
    exact ⟨h, K⟩
theorem kx_X4_is {Q : Int32 → HS → Prop} {v0 : Nat} {v1 : Nat} {S : HS} (h : P_X4_is v0 v1 Q S) : P_X4_is v0 v1 (fun r T => Q r T ∧ K8 S T) S := kx_X4_is_0 h (k8_rf S)
set_option maxRecDepth 20000 in
set_option maxHeartbeats 1000000 in
theorem kx_X4_word_0 {Q : Int32 → HS → Prop} {v0 : Nat} {v1 : Nat} {S0 S : HS} (h : P_X4_word_0 Q v0 v1 S) (K : K8 S0 S) : P_X4_word_0 (fun r T => Q r T ∧ K8 S0 T) v0 v1 S := by
  delta P_X4_word_0 at h ⊢
  obtain ⟨c1, h⟩ := h
  refine ⟨c1, ?_⟩
  have n2 := k8_nk K c1 (by decide)
  have o3 := c1
  refine cm_X4_is (kx_X4_is h) h (fun x4 x5 p8 h g6 g7 => ?_)
  have h := h g6 g7
  have K := k8_tr K p8.2
  have o3 := gr_ob p8.2.1 o3
  refine ⟨?_, ?_⟩
  · intro c9
    have h := h.1 c9
    refine cm_X4_next (kx_X4_next h) h (fun x10 p12 h g11 => ?_)
    have h := h g11
    have K := k8_tr K p12.2
    have o3 := gr_ob p12.2.1 o3
    exact ⟨h, K⟩
  · intro c13
    have h := h.2 c13
    refine cm_X4_fail (kx_X4_fail h) h (fun x14 x15 p18 h g16 g17 => ?_)
    have h := h g16 g17
    have K := k8_tr K p18.2
    have o3 := gr_ob p18.2.1 o3
    obtain ⟨c19, h⟩ := h
    refine ⟨c19, ?_⟩
    exact ⟨h, K⟩
theorem kx_X4_word {Q : Int32 → HS → Prop} {v0 : Nat} {v1 : Nat} {S : HS} (h : P_X4_word v0 v1 Q S) : P_X4_word v0 v1 (fun r T => Q r T ∧ K8 S T) S := kx_X4_word_0 h (k8_rf S)
set_option maxRecDepth 20000 in
set_option maxHeartbeats 1000000 in
theorem kx_X4_wordAndWhole_0 {Q : Int32 → HS → Prop} {v0 : Nat} {v1 : Nat} {v2 : Int32} {v3 : Int32} {S0 S : HS} (h : P_X4_wordAndWhole_0 Q v0 v1 v2 v3 S) (K : K8 S0 S) : P_X4_wordAndWhole_0 (fun r T => Q r T ∧ K8 S0 T) v0 v1 v2 v3 S := by
  delta P_X4_wordAndWhole_0 at h ⊢
  obtain ⟨c1, h⟩ := h
  refine ⟨c1, ?_⟩
  have n2 := k8_nk K c1 (by decide)
  have o3 := c1
  refine cm_X4_word (kx_X4_word h) h (fun x4 x5 p8 h g6 g7 => ?_)
  have h := h g6 g7
  have K := k8_tr K p8.2
  have o3 := gr_ob p8.2.1 o3
  refine ⟨?_, ?_⟩
  · intro c9
    have h := h.1 c9
    exact ⟨h, K⟩
  · intro c10
    have h := h.2 c10
    refine cm_X4_whole (kx_X4_whole h) h (fun x11 x12 p15 h g13 g14 => ?_)
    have h := h g13 g14
    have K := k8_tr K p15.2
    have o3 := gr_ob p15.2.1 o3
    refine ⟨?_, ?_⟩
    · intro c16
      have h := h.1 c16
      exact ⟨h, K⟩
    · intro c17
      have h := h.2 c17
      exact ⟨h, K⟩
theorem kx_X4_wordAndWhole {Q : Int32 → HS → Prop} {v0 : Nat} {v1 : Nat} {v2 : Int32} {v3 : Int32} {S : HS} (h : P_X4_wordAndWhole v0 v1 v2 v3 Q S) : P_X4_wordAndWhole v0 v1 v2 v3 (fun r T => Q r T ∧ K8 S T) S := kx_X4_wordAndWhole_0 h (k8_rf S)
set_option maxRecDepth 20000 in
set_option maxHeartbeats 1000000 in
theorem kx_X6_shape_16 {Q : HS → Prop} {v0 : Nat} {v1 : Int32} {v2 : Int32} {v3 : Int32} {s0 : Int32} {S0 S : HS} (h : P_X6_shape_16 Q v0 v1 v2 v3 s0 S) (K : K8 S0 S) : P_X6_shape_16 (fun T => Q T ∧ K8 S0 T) v0 v1 v2 v3 s0 S := by
  delta P_X6_shape_16 at h ⊢
  obtain ⟨c1, h⟩ := h
  refine ⟨c1, ?_⟩
  have n2 := k8_nk K c1 (by decide)
  intro x4 e3
  have h := h x4 e3
  intro x6 e5
  have h := h x6 e5
  have K := k8_I K e5 n2
  intro x8 e7
  have h := h x8 e7
  intro x10 e9
  have h := h x10 e9
  have K := k8_I K e9 n2
  intro x12 e11
  have h := h x12 e11
  intro x14 e13
  have h := h x14 e13
  have K := k8_I K e13 n2
  exact ⟨h, K⟩
set_option maxRecDepth 20000 in
set_option maxHeartbeats 1000000 in
theorem kx_X6_shape_0 {Q : HS → Prop} {v0 : Nat} {v1 : Int32} {v2 : Int32} {v3 : Int32} {S0 S : HS} (h : P_X6_shape_0 Q v0 v1 v2 v3 S) (K : K8 S0 S) : P_X6_shape_0 (fun T => Q T ∧ K8 S0 T) v0 v1 v2 v3 S := by
  delta P_X6_shape_0 at h ⊢
  obtain ⟨c1, h⟩ := h
  refine ⟨c1, ?_⟩
  have n2 := k8_nk K c1 (by decide)
  intro x4 e3
  have h := h x4 e3
  refine ⟨?_, ?_⟩
  · intro c5
    have h := h.1 c5
    exact kx_X6_shape_16 h K
  · intro c6
    have h := h.2 c6
    intro x8 e7
    have h := h x8 e7
    exact kx_X6_shape_16 h K
theorem kx_X6_shape {Q : HS → Prop} {v0 : Nat} {v1 : Int32} {v2 : Int32} {v3 : Int32} {S : HS} (h : P_X6_shape v0 v1 v2 v3 Q S) : P_X6_shape v0 v1 v2 v3 (fun T => Q T ∧ K8 S T) S := kx_X6_shape_0 h (k8_rf S)
set_option maxRecDepth 20000 in
set_option maxHeartbeats 1000000 in
theorem kx_X4_bodyOf_58 {Q : Int32 → HS → Prop} {v0 : Nat} {v1 : Nat} {v2 : Int32} {v3 : Int32} {s0 : Int32} {S0 S : HS} (h : P_X4_bodyOf_58 Q v0 v1 v2 v3 s0 S) (K : K8 S0 S) : P_X4_bodyOf_58 (fun r T => Q r T ∧ K8 S0 T) v0 v1 v2 v3 s0 S := by
  delta P_X4_bodyOf_58 at h ⊢
  obtain ⟨c1, h⟩ := h
  refine ⟨c1, ?_⟩
  have n2 := k8_nk K c1 (by decide)
  have o3 := c1
  refine cm_X4_wordAndWhole (kx_X4_wordAndWhole h) h (fun x4 x5 p8 h g6 g7 => ?_)
  have h := h g6 g7
  have K := k8_tr K p8.2
  have o3 := gr_ob p8.2.1 o3
  refine ⟨?_, ?_⟩
  · intro c9
    have h := h.1 c9
    intro x11 e10
    have h := h x11 e10
    obtain ⟨c12, h⟩ := h
    refine ⟨c12, ?_⟩
    have n13 := k8_nk K c12 (by decide)
    refine cm_X6_shape (kx_X6_shape h) h (fun x14 p16 h g15 => ?_)
    have h := h g15
    have K := k8_tr K p16.2
    have o3 := gr_ob p16.2.1 o3
    exact ⟨h, K⟩
  · intro c17
    have h := h.2 c17
    exact ⟨h, K⟩
set_option maxRecDepth 20000 in
set_option maxHeartbeats 1000000 in
theorem kx_X4_bodyOf_0 {Q : Int32 → HS → Prop} {v0 : Nat} {v1 : Nat} {S0 S : HS} (h : P_X4_bodyOf_0 Q v0 v1 S) (K : K8 S0 S) : P_X4_bodyOf_0 (fun r T => Q r T ∧ K8 S0 T) v0 v1 S := by
  delta P_X4_bodyOf_0 at h ⊢
  obtain ⟨c1, h⟩ := h
  refine ⟨c1, ?_⟩
  have n2 := k8_nk K c1 (by decide)
  have o3 := c1
  refine cm_X4_wordAndWhole (kx_X4_wordAndWhole h) h (fun x4 x5 p8 h g6 g7 => ?_)
  have h := h g6 g7
  have K := k8_tr K p8.2
  have o3 := gr_ob p8.2.1 o3
  refine ⟨?_, ?_⟩
  · intro c9
    have h := h.1 c9
    intro x11 e10
    have h := h x11 e10
    refine cm_X4_wordAndWhole (kx_X4_wordAndWhole h) h (fun x12 x13 p16 h g14 g15 => ?_)
    have h := h g14 g15
    have K := k8_tr K p16.2
    have o3 := gr_ob p16.2.1 o3
    refine ⟨?_, ?_⟩
    · intro c17
      have h := h.1 c17
      intro x19 e18
      have h := h x19 e18
      obtain ⟨c20, h⟩ := h
      refine ⟨c20, ?_⟩
      have n21 := k8_nk K c20 (by decide)
      intro x23 e22
      have h := h x23 e22
      refine ⟨?_, ?_⟩
      · intro c24
        have h := h.1 c24
        exact kx_X4_bodyOf_58 h K
      · intro c25
        have h := h.2 c25
        intro x27 e26
        have h := h x27 e26
        exact kx_X4_bodyOf_58 h K
    · intro c28
      have h := h.2 c28
      exact ⟨h, K⟩
  · intro c29
    have h := h.2 c29
    exact ⟨h, K⟩
theorem kx_X4_bodyOf {Q : Int32 → HS → Prop} {v0 : Nat} {v1 : Nat} {S : HS} (h : P_X4_bodyOf v0 v1 Q S) : P_X4_bodyOf v0 v1 (fun r T => Q r T ∧ K8 S T) S := kx_X4_bodyOf_0 h (k8_rf S)
set_option maxRecDepth 20000 in
set_option maxHeartbeats 1000000 in
theorem kx_X4_canBeName_86 {Q : Int32 → HS → Prop} {v0 : Nat} {s0 : Int32} {S0 S : HS} (h : P_X4_canBeName_86 Q v0 s0 S) (K : K8 S0 S) : P_X4_canBeName_86 (fun r T => Q r T ∧ K8 S0 T) v0 s0 S := by
  delta P_X4_canBeName_86 at h ⊢
  obtain ⟨c1, h⟩ := h
  refine ⟨c1, ?_⟩
  have n2 := k8_nk K c1 (by decide)
  have o3 := c1
  intro x5 e4
  have h := h x5 e4
  refine ⟨?_, ?_⟩
  · intro c6
    have h := h.1 c6
    exact ⟨h, K⟩
  · intro c7
    have h := h.2 c7
    refine ⟨?_, ?_⟩
    · intro c8
      have h := h.1 c8
      exact ⟨h, K⟩
    · intro c9
      have h := h.2 c9
      exact ⟨h, K⟩
set_option maxRecDepth 20000 in
set_option maxHeartbeats 1000000 in
theorem kx_X4_canBeName_81 {Q : Int32 → HS → Prop} {v0 : Nat} {S0 S : HS} (h : P_X4_canBeName_81 Q v0 S) (K : K8 S0 S) : P_X4_canBeName_81 (fun r T => Q r T ∧ K8 S0 T) v0 S := by
  delta P_X4_canBeName_81 at h ⊢
  exact kx_X4_canBeName_86 h K
set_option maxRecDepth 20000 in
set_option maxHeartbeats 1000000 in
theorem kx_X4_canBeName_0 {Q : Int32 → HS → Prop} {v0 : Nat} {S0 S : HS} (h : P_X4_canBeName_0 Q v0 S) (K : K8 S0 S) : P_X4_canBeName_0 (fun r T => Q r T ∧ K8 S0 T) v0 S := by
  delta P_X4_canBeName_0 at h ⊢
  obtain ⟨c1, h⟩ := h
  refine ⟨c1, ?_⟩
  have n2 := k8_nk K c1 (by decide)
  have o3 := c1
  refine cm_X4_is (kx_X4_is h) h (fun x4 x5 p8 h g6 g7 => ?_)
  have h := h g6 g7
  have K := k8_tr K p8.2
  have o3 := gr_ob p8.2.1 o3
  refine ⟨?_, ?_⟩
  · intro c9
    have h := h.1 c9
    exact kx_X4_canBeName_81 h K
  · intro c10
    have h := h.2 c10
    refine cm_X4_is (kx_X4_is h) h (fun x11 x12 p15 h g13 g14 => ?_)
    have h := h g13 g14
    have K := k8_tr K p15.2
    have o3 := gr_ob p15.2.1 o3
    refine ⟨?_, ?_⟩
    · intro c16
      have h := h.1 c16
      exact kx_X4_canBeName_81 h K
    · intro c17
      have h := h.2 c17
      refine cm_X4_is (kx_X4_is h) h (fun x18 x19 p22 h g20 g21 => ?_)
      have h := h g20 g21
      have K := k8_tr K p22.2
      have o3 := gr_ob p22.2.1 o3
      refine ⟨?_, ?_⟩
      · intro c23
        have h := h.1 c23
        exact kx_X4_canBeName_81 h K
      · intro c24
        have h := h.2 c24
        refine cm_X4_is (kx_X4_is h) h (fun x25 x26 p29 h g27 g28 => ?_)
        have h := h g27 g28
        have K := k8_tr K p29.2
        have o3 := gr_ob p29.2.1 o3
        refine ⟨?_, ?_⟩
        · intro c30
          have h := h.1 c30
          exact kx_X4_canBeName_81 h K
        · intro c31
          have h := h.2 c31
          refine cm_X4_is (kx_X4_is h) h (fun x32 x33 p36 h g34 g35 => ?_)
          have h := h g34 g35
          have K := k8_tr K p36.2
          have o3 := gr_ob p36.2.1 o3
          refine ⟨?_, ?_⟩
          · intro c37
            have h := h.1 c37
            exact kx_X4_canBeName_81 h K
          · intro c38
            have h := h.2 c38
            refine cm_X4_is (kx_X4_is h) h (fun x39 x40 p43 h g41 g42 => ?_)
            have h := h g41 g42
            have K := k8_tr K p43.2
            have o3 := gr_ob p43.2.1 o3
            refine ⟨?_, ?_⟩
            · intro c44
              have h := h.1 c44
              exact kx_X4_canBeName_81 h K
            · intro c45
              have h := h.2 c45
              refine cm_X4_is (kx_X4_is h) h (fun x46 x47 p50 h g48 g49 => ?_)
              have h := h g48 g49
              have K := k8_tr K p50.2
              have o3 := gr_ob p50.2.1 o3
              refine ⟨?_, ?_⟩
              · intro c51
                have h := h.1 c51
                exact kx_X4_canBeName_81 h K
              · intro c52
                have h := h.2 c52
                refine cm_X4_is (kx_X4_is h) h (fun x53 x54 p57 h g55 g56 => ?_)
                have h := h g55 g56
                have K := k8_tr K p57.2
                have o3 := gr_ob p57.2.1 o3
                refine ⟨?_, ?_⟩
                · intro c58
                  have h := h.1 c58
                  exact kx_X4_canBeName_81 h K
                · intro c59
                  have h := h.2 c59
                  refine cm_X4_is (kx_X4_is h) h (fun x60 x61 p64 h g62 g63 => ?_)
                  have h := h g62 g63
                  have K := k8_tr K p64.2
                  have o3 := gr_ob p64.2.1 o3
                  refine ⟨?_, ?_⟩
                  · intro c65
                    have h := h.1 c65
                    exact kx_X4_canBeName_86 h K
                  · intro c66
                    have h := h.2 c66
                    exact kx_X4_canBeName_81 h K
theorem kx_X4_canBeName {Q : Int32 → HS → Prop} {v0 : Nat} {S : HS} (h : P_X4_canBeName v0 Q S) : P_X4_canBeName v0 (fun r T => Q r T ∧ K8 S T) S := kx_X4_canBeName_0 h (k8_rf S)
set_option maxRecDepth 20000 in
set_option maxHeartbeats 1000000 in
theorem kx_X4_exchange_0 {Q : Nat → HS → Prop} {v0 : Nat} {v1 : Nat} {S0 S : HS} (h : P_X4_exchange_0 Q v0 v1 S) (K : K8 S0 S) : P_X4_exchange_0 (fun r T => Q r T ∧ K8 S0 T) v0 v1 S := by
  delta P_X4_exchange_0 at h ⊢
  obtain ⟨c1, h⟩ := h
  refine ⟨c1, ?_⟩
  have n2 := k8_nk K c1 (by decide)
  have o3 := c1
  obtain ⟨b4, e5, h⟩ := h
  refine ⟨b4, e5, ?_⟩
  intro x7 e6
  have h := h x7 e6
  have K := k8_R K e6 o3 (by decide) (by decide)
  have o3 := ob_wR o3 e6
  exact ⟨h, K⟩
theorem kx_X4_exchange {Q : Nat → HS → Prop} {v0 : Nat} {v1 : Nat} {S : HS} (h : P_X4_exchange v0 v1 Q S) : P_X4_exchange v0 v1 (fun r T => Q r T ∧ K8 S T) S := kx_X4_exchange_0 h (k8_rf S)
set_option maxRecDepth 20000 in
set_option maxHeartbeats 1000000 in
theorem kxB_X4_findName_2 {Q : Int32 → HS → Prop} {X2 X2_2 : Nat → Int32 → HS → Prop} {v0 : Nat} {v1 : Int32} {S0 S : HS} (h : B_X4_findName_2 Q X2 v0 v1 S) (K : K8 S0 S) (hX2 : ∀ (u0 : Nat) (u1 : Int32) (u2 : HS), X2 u0 u1 u2 → K8 S0 u2 → X2_2 u0 u1 u2) : B_X4_findName_2 (fun r T => Q r T ∧ K8 S0 T) X2_2 v0 v1 S := by
  delta B_X4_findName_2 at h ⊢
  obtain ⟨c1, h⟩ := h
  refine ⟨c1, ?_⟩
  have n2 := k8_nk K c1 (by decide)
  have o3 := c1
  intro x5 e4
  have h := h x5 e4
  refine ⟨?_, ?_⟩
  · intro c6
    have h := h.1 c6
    exact ⟨h, K⟩
  · intro c7
    have h := h.2 c7
    refine ⟨?_, ?_⟩
    · intro c8
      have h := h.1 c8
      exact ⟨h, K⟩
    · intro c9
      have h := h.2 c9
      obtain ⟨b10, e11, h⟩ := h
      refine ⟨b10, e11, ?_⟩
      obtain ⟨c12, h⟩ := h
      refine ⟨c12, ?_⟩
      have n13 := k8_nk K c12 (by decide)
      obtain ⟨c14, h⟩ := h
      refine ⟨c14, ?_⟩
      intro x16 e15
      have h := h x16 e15
      intro x18 e17
      have h := h x18 e17
      refine ⟨?_, ?_⟩
      · intro c19
        have h := h.1 c19
        intro x21 e20
        have h := h x21 e20
        exact hX2 _ _ _ h K
      · intro c22
        have h := h.2 c22
        obtain ⟨b23, e24, h⟩ := h
        refine ⟨b23, e24, ?_⟩
        have n25 := k8_nr K e24 o3 (by decide)
        obtain ⟨c26, h⟩ := h
        refine ⟨c26, ?_⟩
        obtain ⟨c27, h⟩ := h
        refine ⟨c27, ?_⟩
        intro x29 e28
        have h := h x29 e28
        exact ⟨h, K⟩
theorem kx_X4_findName_2 {Q : Int32 → HS → Prop} {v0 : Nat} {v1 : Int32} {S0 S : HS} (h : P_X4_findName_2 Q v0 v1 S) (K : K8 S0 S) : P_X4_findName_2 (fun r T => Q r T ∧ K8 S0 T) v0 v1 S := h (fun v0 v1 S => K8 S0 S → P_X4_findName_2 (fun r T => Q r T ∧ K8 S0 T) v0 v1 S) (fun v0 v1 S hB K => fd_X4_findName_2 (kxB_X4_findName_2 hB K (fun _ _ _ hx K => hx K))) K
set_option maxRecDepth 20000 in
set_option maxHeartbeats 1000000 in
theorem kx_X4_findName_0 {Q : Int32 → HS → Prop} {v0 : Nat} {S0 S : HS} (h : P_X4_findName_0 Q v0 S) (K : K8 S0 S) : P_X4_findName_0 (fun r T => Q r T ∧ K8 S0 T) v0 S := by
  delta P_X4_findName_0 at h ⊢
  exact kx_X4_findName_2 h K
theorem kx_X4_findName {Q : Int32 → HS → Prop} {v0 : Nat} {S : HS} (h : P_X4_findName v0 Q S) : P_X4_findName v0 (fun r T => Q r T ∧ K8 S T) S := kx_X4_findName_0 h (k8_rf S)
set_option maxRecDepth 20000 in
set_option maxHeartbeats 1000000 in
theorem kx_X8_isTold_0 {Q : Int32 → HS → Prop} {v0 : Nat} {S0 S : HS} (h : P_X8_isTold_0 Q v0 S) (K : K8 S0 S) : P_X8_isTold_0 (fun r T => Q r T ∧ K8 S0 T) v0 S := by
  delta P_X8_isTold_0 at h ⊢
  obtain ⟨c1, h⟩ := h
  refine ⟨c1, ?_⟩
  have n2 := k8_nk K c1 (by decide)
  have o3 := c1
  intro x5 e4
  have h := h x5 e4
  refine ⟨?_, ?_⟩
  · intro c6
    have h := h.1 c6
    exact ⟨h, K⟩
  · intro c7
    have h := h.2 c7
    exact ⟨h, K⟩
theorem kx_X8_isTold {Q : Int32 → HS → Prop} {v0 : Nat} {S : HS} (h : P_X8_isTold v0 Q S) : P_X8_isTold v0 (fun r T => Q r T ∧ K8 S T) S := kx_X8_isTold_0 h (k8_rf S)
set_option maxRecDepth 20000 in
set_option maxHeartbeats 1000000 in
theorem kx_X4_hasRoom_0 {Q : Int32 → HS → Prop} {v0 : Nat} {v1 : Int32} {v2 : Int32} {S0 S : HS} (h : P_X4_hasRoom_0 Q v0 v1 v2 S) (K : K8 S0 S) : P_X4_hasRoom_0 (fun r T => Q r T ∧ K8 S0 T) v0 v1 v2 S := by
  delta P_X4_hasRoom_0 at h ⊢
  obtain ⟨c1, h⟩ := h
  refine ⟨c1, ?_⟩
  have n2 := k8_nk K c1 (by decide)
  have o3 := c1
  obtain ⟨b4, e5, h⟩ := h
  refine ⟨b4, e5, ?_⟩
  obtain ⟨c6, h⟩ := h
  refine ⟨c6, ?_⟩
  have n7 := k8_nk K c6 (by decide)
  have o8 := c6
  refine cm_X8_isTold (kx_X8_isTold h) h (fun x9 x10 p13 h g11 g12 => ?_)
  have h := h g11 g12
  have K := k8_tr K p13.2
  have o3 := gr_ob p13.2.1 o3
  have o8 := gr_ob p13.2.1 o8
  refine ⟨?_, ?_⟩
  · intro c14
    have h := h.1 c14
    refine ⟨?_, ?_⟩
    · intro c15
      have h := h.1 c15
      refine cm_X4_next (kx_X4_next h) h (fun x16 p18 h g17 => ?_)
      have h := h g17
      have K := k8_tr K p18.2
      have o3 := gr_ob p18.2.1 o3
      have o8 := gr_ob p18.2.1 o8
      exact ⟨h, K⟩
    · intro c19
      have h := h.2 c19
      refine cm_X4_fail (kx_X4_fail h) h (fun x20 x21 p24 h g22 g23 => ?_)
      have h := h g22 g23
      have K := k8_tr K p24.2
      have o3 := gr_ob p24.2.1 o3
      have o8 := gr_ob p24.2.1 o8
      obtain ⟨c25, h⟩ := h
      refine ⟨c25, ?_⟩
      exact ⟨h, K⟩
  · intro c26
    have h := h.2 c26
    refine cm_X4_fail (kx_X4_fail h) h (fun x27 x28 p31 h g29 g30 => ?_)
    have h := h g29 g30
    have K := k8_tr K p31.2
    have o3 := gr_ob p31.2.1 o3
    have o8 := gr_ob p31.2.1 o8
    obtain ⟨c32, h⟩ := h
    refine ⟨c32, ?_⟩
    exact ⟨h, K⟩
theorem kx_X4_hasRoom {Q : Int32 → HS → Prop} {v0 : Nat} {v1 : Int32} {v2 : Int32} {S : HS} (h : P_X4_hasRoom v0 v1 v2 Q S) : P_X4_hasRoom v0 v1 v2 (fun r T => Q r T ∧ K8 S T) S := kx_X4_hasRoom_0 h (k8_rf S)
set_option maxRecDepth 20000 in
set_option maxHeartbeats 1000000 in
theorem kx_X5_init_0 {Q : HS → Prop} {v0 : Nat} {S0 S : HS} (h : P_X5_init_0 Q v0 S) (K : K8 S0 S) : P_X5_init_0 (fun T => Q T ∧ K8 S0 T) v0 S := by
  delta P_X5_init_0 at h ⊢
  exact ⟨h, K⟩
theorem kx_X5_init {Q : HS → Prop} {v0 : Nat} {S : HS} (h : P_X5_init v0 Q S) : P_X5_init v0 (fun T => Q T ∧ K8 S T) S := kx_X5_init_0 h (k8_rf S)
set_option maxRecDepth 20000 in
set_option maxHeartbeats 1000000 in
theorem kx_X6_init_0 {Q : HS → Prop} {v0 : Nat} {S0 S : HS} (h : P_X6_init_0 Q v0 S) (K : K8 S0 S) : P_X6_init_0 (fun T => Q T ∧ K8 S0 T) v0 S := by
  delta P_X6_init_0 at h ⊢
  exact ⟨h, K⟩
theorem kx_X6_init {Q : HS → Prop} {v0 : Nat} {S : HS} (h : P_X6_init v0 Q S) : P_X6_init v0 (fun T => Q T ∧ K8 S T) S := kx_X6_init_0 h (k8_rf S)
set_option maxRecDepth 20000 in
set_option maxHeartbeats 1000000 in
theorem kx_X4_kindOf_0 {Q : Int32 → HS → Prop} {v0 : Nat} {v1 : Nat} {S0 S : HS} (h : P_X4_kindOf_0 Q v0 v1 S) (K : K8 S0 S) : P_X4_kindOf_0 (fun r T => Q r T ∧ K8 S0 T) v0 v1 S := by
  delta P_X4_kindOf_0 at h ⊢
  obtain ⟨c1, h⟩ := h
  refine ⟨c1, ?_⟩
  have n2 := k8_nk K c1 (by decide)
  have o3 := c1
  intro x5 e4
  have h := h x5 e4
  have K := k8_I K e4 n2
  have o3 := ob_wI o3 e4
  refine cm_X4_is (kx_X4_is h) h (fun x6 x7 p10 h g8 g9 => ?_)
  have h := h g8 g9
  have K := k8_tr K p10.2
  have o3 := gr_ob p10.2.1 o3
  refine ⟨?_, ?_⟩
  · intro c11
    have h := h.1 c11
    refine cm_X4_is (kx_X4_is h) h (fun x12 x13 p16 h g14 g15 => ?_)
    have h := h g14 g15
    have K := k8_tr K p16.2
    have o3 := gr_ob p16.2.1 o3
    refine ⟨?_, ?_⟩
    · intro c17
      have h := h.1 c17
      refine cm_X4_is (kx_X4_is h) h (fun x18 x19 p22 h g20 g21 => ?_)
      have h := h g20 g21
      have K := k8_tr K p22.2
      have o3 := gr_ob p22.2.1 o3
      refine ⟨?_, ?_⟩
      · intro c23
        have h := h.1 c23
        obtain ⟨c24, h⟩ := h
        refine ⟨c24, ?_⟩
        have n25 := k8_nk K c24 (by decide)
        intro x27 e26
        have h := h x27 e26
        have K := k8_I K e26 n25
        have o3 := ob_wI o3 e26
        refine cm_X4_word (kx_X4_word h) h (fun x28 x29 p32 h g30 g31 => ?_)
        have h := h g30 g31
        have K := k8_tr K p32.2
        have o3 := gr_ob p32.2.1 o3
        intro x34 e33
        have h := h x34 e33
        intro x36 e35
        have h := h x36 e35
        have K := k8_I K e35 n25
        have o3 := ob_wI o3 e35
        obtain ⟨c37, h⟩ := h
        refine ⟨c37, ?_⟩
        exact ⟨h, K⟩
      · intro c38
        have h := h.2 c38
        obtain ⟨c39, h⟩ := h
        refine ⟨c39, ?_⟩
        have n40 := k8_nk K c39 (by decide)
        intro x42 e41
        have h := h x42 e41
        have K := k8_I K e41 n40
        have o3 := ob_wI o3 e41
        refine cm_X4_wordAndWhole (kx_X4_wordAndWhole h) h (fun x43 x44 p47 h g45 g46 => ?_)
        have h := h g45 g46
        have K := k8_tr K p47.2
        have o3 := gr_ob p47.2.1 o3
        intro x49 e48
        have h := h x49 e48
        intro x51 e50
        have h := h x51 e50
        have K := k8_I K e50 n40
        have o3 := ob_wI o3 e50
        obtain ⟨c52, h⟩ := h
        refine ⟨c52, ?_⟩
        exact ⟨h, K⟩
    · intro c53
      have h := h.2 c53
      obtain ⟨c54, h⟩ := h
      refine ⟨c54, ?_⟩
      have n55 := k8_nk K c54 (by decide)
      intro x57 e56
      have h := h x57 e56
      have K := k8_I K e56 n55
      have o3 := ob_wI o3 e56
      refine cm_X4_wordAndWhole (kx_X4_wordAndWhole h) h (fun x58 x59 p62 h g60 g61 => ?_)
      have h := h g60 g61
      have K := k8_tr K p62.2
      have o3 := gr_ob p62.2.1 o3
      intro x64 e63
      have h := h x64 e63
      intro x66 e65
      have h := h x66 e65
      have K := k8_I K e65 n55
      have o3 := ob_wI o3 e65
      obtain ⟨c67, h⟩ := h
      refine ⟨c67, ?_⟩
      exact ⟨h, K⟩
  · intro c68
    have h := h.2 c68
    obtain ⟨c69, h⟩ := h
    refine ⟨c69, ?_⟩
    have n70 := k8_nk K c69 (by decide)
    intro x72 e71
    have h := h x72 e71
    have K := k8_I K e71 n70
    have o3 := ob_wI o3 e71
    refine cm_X4_wordAndWhole (kx_X4_wordAndWhole h) h (fun x73 x74 p77 h g75 g76 => ?_)
    have h := h g75 g76
    have K := k8_tr K p77.2
    have o3 := gr_ob p77.2.1 o3
    intro x79 e78
    have h := h x79 e78
    intro x81 e80
    have h := h x81 e80
    have K := k8_I K e80 n70
    have o3 := ob_wI o3 e80
    obtain ⟨c82, h⟩ := h
    refine ⟨c82, ?_⟩
    exact ⟨h, K⟩
theorem kx_X4_kindOf {Q : Int32 → HS → Prop} {v0 : Nat} {v1 : Nat} {S : HS} (h : P_X4_kindOf v0 v1 Q S) : P_X4_kindOf v0 v1 (fun r T => Q r T ∧ K8 S T) S := kx_X4_kindOf_0 h (k8_rf S)
set_option maxRecDepth 20000 in
set_option maxHeartbeats 1000000 in
theorem kx_X4_newName_69 {Q : Int32 → HS → Prop} {v0 : Nat} {S0 S : HS} (h : P_X4_newName_69 Q v0 S) (K : K8 S0 S) : P_X4_newName_69 (fun r T => Q r T ∧ K8 S0 T) v0 S := by
  delta P_X4_newName_69 at h ⊢
  obtain ⟨c1, h⟩ := h
  refine ⟨c1, ?_⟩
  have n2 := k8_nk K c1 (by decide)
  have o3 := c1
  refine cm_X4_next (kx_X4_next h) h (fun x4 p6 h g5 => ?_)
  have h := h g5
  have K := k8_tr K p6.2
  have o3 := gr_ob p6.2.1 o3
  exact ⟨h, K⟩
set_option maxRecDepth 20000 in
set_option maxHeartbeats 1000000 in
theorem kx_X4_newName_0 {Q : Int32 → HS → Prop} {v0 : Nat} {v1 : Int32} {S0 S : HS} (h : P_X4_newName_0 Q v0 v1 S) (K : K8 S0 S) : P_X4_newName_0 (fun r T => Q r T ∧ K8 S0 T) v0 v1 S := by
  delta P_X4_newName_0 at h ⊢
  obtain ⟨c1, h⟩ := h
  refine ⟨c1, ?_⟩
  have n2 := k8_nk K c1 (by decide)
  have o3 := c1
  refine cm_X4_canBeName (kx_X4_canBeName h) h (fun x4 x5 p8 h g6 g7 => ?_)
  have h := h g6 g7
  have K := k8_tr K p8.2
  have o3 := gr_ob p8.2.1 o3
  refine ⟨?_, ?_⟩
  · intro c9
    have h := h.1 c9
    refine cm_X4_findName (kx_X4_findName h) h (fun x10 x11 p13 h g12 => ?_)
    have h := h g12
    have K := k8_tr K p13.2
    have o3 := gr_ob p13.2.1 o3
    refine ⟨?_, ?_⟩
    · intro c14
      have h := h.1 c14
      intro x16 e15
      have h := h x16 e15
      refine ⟨?_, ?_⟩
      · intro c17
        have h := h.1 c17
        exact kx_X4_newName_69 h K
      · intro c18
        have h := h.2 c18
        obtain ⟨b19, e20, h⟩ := h
        refine ⟨b19, e20, ?_⟩
        intro x22 e21
        have h := h x22 e21
        intro x24 e23
        have h := h x24 e23
        obtain ⟨c25, h⟩ := h
        refine ⟨c25, ?_⟩
        have n26 := k8_nk K c25 (by decide)
        obtain ⟨c27, h⟩ := h
        refine ⟨c27, ?_⟩
        intro x29 e28
        have h := h x29 e28
        have K := k8_J K e28
        have o3 := ob_wJ o3 e28
        obtain ⟨b30, e31, h⟩ := h
        refine ⟨b30, e31, ?_⟩
        have n32 := k8_nr K e31 o3 (by decide)
        intro x34 e33
        have h := h x34 e33
        obtain ⟨c35, h⟩ := h
        refine ⟨c35, ?_⟩
        obtain ⟨c36, h⟩ := h
        refine ⟨c36, ?_⟩
        intro x38 e37
        have h := h x38 e37
        have K := k8_I K e37 n32
        have o3 := ob_wI o3 e37
        intro x40 e39
        have h := h x40 e39
        intro x42 e41
        have h := h x42 e41
        intro x44 e43
        have h := h x44 e43
        have K := k8_I K e43 n2
        have o3 := ob_wI o3 e43
        exact kx_X4_newName_69 h K
    · intro c45
      have h := h.2 c45
      refine cm_X4_fail (kx_X4_fail h) h (fun x46 x47 p50 h g48 g49 => ?_)
      have h := h g48 g49
      have K := k8_tr K p50.2
      have o3 := gr_ob p50.2.1 o3
      obtain ⟨c51, h⟩ := h
      refine ⟨c51, ?_⟩
      exact ⟨h, K⟩
  · intro c52
    have h := h.2 c52
    refine cm_X4_fail (kx_X4_fail h) h (fun x53 x54 p57 h g55 g56 => ?_)
    have h := h g55 g56
    have K := k8_tr K p57.2
    have o3 := gr_ob p57.2.1 o3
    obtain ⟨c58, h⟩ := h
    refine ⟨c58, ?_⟩
    exact ⟨h, K⟩
theorem kx_X4_newName {Q : Int32 → HS → Prop} {v0 : Nat} {v1 : Int32} {S : HS} (h : P_X4_newName v0 v1 Q S) : P_X4_newName v0 v1 (fun r T => Q r T ∧ K8 S T) S := kx_X4_newName_0 h (k8_rf S)
set_option maxRecDepth 20000 in
set_option maxHeartbeats 1000000 in
theorem kx_X8_clear_0 {Q : HS → Prop} {v0 : Nat} {S0 S : HS} (h : P_X8_clear_0 Q v0 S) (K : K8 S0 S) : P_X8_clear_0 (fun T => Q T ∧ K8 S0 T) v0 S := by
  delta P_X8_clear_0 at h ⊢
  obtain ⟨c1, h⟩ := h
  refine ⟨c1, ?_⟩
  have n2 := k8_nk K c1 (by decide)
  have o3 := c1
  intro x5 e4
  have h := h x5 e4
  have K := k8_I K e4 n2
  have o3 := ob_wI o3 e4
  intro x7 e6
  have h := h x7 e6
  have K := k8_I K e6 n2
  have o3 := ob_wI o3 e6
  intro x9 e8
  have h := h x9 e8
  have K := k8_I K e8 n2
  have o3 := ob_wI o3 e8
  intro x11 e10
  have h := h x11 e10
  have K := k8_I K e10 n2
  have o3 := ob_wI o3 e10
  intro x13 e12
  have h := h x13 e12
  have K := k8_I K e12 n2
  have o3 := ob_wI o3 e12
  intro x15 e14
  have h := h x15 e14
  have K := k8_I K e14 n2
  have o3 := ob_wI o3 e14
  exact ⟨h, K⟩
theorem kx_X8_clear {Q : HS → Prop} {v0 : Nat} {S : HS} (h : P_X8_clear v0 Q S) : P_X8_clear v0 (fun T => Q T ∧ K8 S T) S := kx_X8_clear_0 h (k8_rf S)
set_option maxRecDepth 20000 in
set_option maxHeartbeats 1000000 in
theorem kx_X4_open_0 {Q : HS → Prop} {v0 : Nat} {v1 : Nat} {v2 : Int32} {S0 S : HS} (h : P_X4_open_0 Q v0 v1 v2 S) (K : K8 S0 S) : P_X4_open_0 (fun T => Q T ∧ K8 S0 T) v0 v1 v2 S := by
  delta P_X4_open_0 at h ⊢
  obtain ⟨c1, h⟩ := h
  refine ⟨c1, ?_⟩
  have n2 := k8_nk K c1 (by decide)
  have o3 := c1
  intro x5 e4
  have h := h x5 e4
  have K := k8_R K e4 o3 (by decide) (by decide)
  have o3 := ob_wR o3 e4
  obtain ⟨c6, h⟩ := h
  refine ⟨c6, ?_⟩
  have n7 := k8_nk K c6 (by decide)
  intro x9 e8
  have h := h x9 e8
  intro x11 e10
  have h := h x11 e10
  have K := k8_I K e10 n2
  have o3 := ob_wI o3 e10
  intro x13 e12
  have h := h x13 e12
  have K := k8_I K e12 n2
  have o3 := ob_wI o3 e12
  intro x15 e14
  have h := h x15 e14
  have K := k8_I K e14 n2
  have o3 := ob_wI o3 e14
  intro x17 e16
  have h := h x17 e16
  have K := k8_I K e16 n2
  have o3 := ob_wI o3 e16
  intro x19 e18
  have h := h x19 e18
  have K := k8_I K e18 n2
  have o3 := ob_wI o3 e18
  obtain ⟨b20, e21, h⟩ := h
  refine ⟨b20, e21, ?_⟩
  obtain ⟨c22, h⟩ := h
  refine ⟨c22, ?_⟩
  have n23 := k8_nk K c22 (by decide)
  have o24 := c22
  refine cm_X8_clear (kx_X8_clear h) h (fun x25 p27 h g26 => ?_)
  have h := h g26
  have K := k8_tr K p27.2
  have o3 := gr_ob p27.2.1 o3
  have o24 := gr_ob p27.2.1 o24
  refine cm_X4_next (kx_X4_next h) h (fun x28 p30 h g29 => ?_)
  have h := h g29
  have K := k8_tr K p30.2
  have o3 := gr_ob p30.2.1 o3
  have o24 := gr_ob p30.2.1 o24
  exact ⟨h, K⟩
theorem kx_X4_open {Q : HS → Prop} {v0 : Nat} {v1 : Nat} {v2 : Int32} {S : HS} (h : P_X4_open v0 v1 v2 Q S) : P_X4_open v0 v1 v2 (fun T => Q T ∧ K8 S T) S := kx_X4_open_0 h (k8_rf S)
set_option maxRecDepth 20000 in
set_option maxHeartbeats 1000000 in
theorem kx_X4_placeBut_29 {Q : Int32 → HS → Prop} {v0 : Nat} {S0 S : HS} (h : P_X4_placeBut_29 Q v0 S) (K : K8 S0 S) : P_X4_placeBut_29 (fun r T => Q r T ∧ K8 S0 T) v0 S := by
  delta P_X4_placeBut_29 at h ⊢
  obtain ⟨c1, h⟩ := h
  refine ⟨c1, ?_⟩
  have n2 := k8_nk K c1 (by decide)
  have o3 := c1
  refine cm_X4_fail (kx_X4_fail h) h (fun x4 x5 p8 h g6 g7 => ?_)
  have h := h g6 g7
  have K := k8_tr K p8.2
  have o3 := gr_ob p8.2.1 o3
  obtain ⟨c9, h⟩ := h
  refine ⟨c9, ?_⟩
  exact ⟨h, K⟩
set_option maxRecDepth 20000 in
set_option maxHeartbeats 1000000 in
theorem kx_X4_placeBut_0 {Q : Int32 → HS → Prop} {v0 : Nat} {v1 : Int32} {S0 S : HS} (h : P_X4_placeBut_0 Q v0 v1 S) (K : K8 S0 S) : P_X4_placeBut_0 (fun r T => Q r T ∧ K8 S0 T) v0 v1 S := by
  delta P_X4_placeBut_0 at h ⊢
  obtain ⟨c1, h⟩ := h
  refine ⟨c1, ?_⟩
  have n2 := k8_nk K c1 (by decide)
  have o3 := c1
  refine cm_X4_canBeName (kx_X4_canBeName h) h (fun x4 x5 p8 h g6 g7 => ?_)
  have h := h g6 g7
  have K := k8_tr K p8.2
  have o3 := gr_ob p8.2.1 o3
  refine ⟨?_, ?_⟩
  · intro c9
    have h := h.1 c9
    refine cm_X4_findName (kx_X4_findName h) h (fun x10 x11 p13 h g12 => ?_)
    have h := h g12
    have K := k8_tr K p13.2
    have o3 := gr_ob p13.2.1 o3
    refine ⟨?_, ?_⟩
    · intro c14
      have h := h.1 c14
      exact kx_X4_placeBut_29 h K
    · intro c15
      have h := h.2 c15
      refine ⟨?_, ?_⟩
      · intro c16
        have h := h.1 c16
        refine ⟨?_, ?_⟩
        · intro c17
          have h := h.1 c17
          intro x19 e18
          have h := h x19 e18
          have K := k8_I K e18 n2
          have o3 := ob_wI o3 e18
          refine cm_X4_next (kx_X4_next h) h (fun x20 p22 h g21 => ?_)
          have h := h g21
          have K := k8_tr K p22.2
          have o3 := gr_ob p22.2.1 o3
          exact ⟨h, K⟩
        · intro c23
          have h := h.2 c23
          refine cm_X4_fail (kx_X4_fail h) h (fun x24 x25 p28 h g26 g27 => ?_)
          have h := h g26 g27
          have K := k8_tr K p28.2
          have o3 := gr_ob p28.2.1 o3
          obtain ⟨c29, h⟩ := h
          refine ⟨c29, ?_⟩
          exact ⟨h, K⟩
      · intro c30
        have h := h.2 c30
        exact kx_X4_placeBut_29 h K
  · intro c31
    have h := h.2 c31
    refine cm_X4_fail (kx_X4_fail h) h (fun x32 x33 p36 h g34 g35 => ?_)
    have h := h g34 g35
    have K := k8_tr K p36.2
    have o3 := gr_ob p36.2.1 o3
    obtain ⟨c37, h⟩ := h
    refine ⟨c37, ?_⟩
    exact ⟨h, K⟩
theorem kx_X4_placeBut {Q : Int32 → HS → Prop} {v0 : Nat} {v1 : Int32} {S : HS} (h : P_X4_placeBut v0 v1 Q S) : P_X4_placeBut v0 v1 (fun r T => Q r T ∧ K8 S T) S := kx_X4_placeBut_0 h (k8_rf S)
set_option maxRecDepth 20000 in
set_option maxHeartbeats 1000000 in
theorem kx_X4_placeLine_64 {Q : Int32 → HS → Prop} {v0 : Nat} {v1 : Int32} {S0 S : HS} (h : P_X4_placeLine_64 Q v0 v1 S) (K : K8 S0 S) : P_X4_placeLine_64 (fun r T => Q r T ∧ K8 S0 T) v0 v1 S := by
  delta P_X4_placeLine_64 at h ⊢
  obtain ⟨c1, h⟩ := h
  refine ⟨c1, ?_⟩
  have n2 := k8_nk K c1 (by decide)
  have o3 := c1
  obtain ⟨b4, e5, h⟩ := h
  refine ⟨b4, e5, ?_⟩
  obtain ⟨c6, h⟩ := h
  refine ⟨c6, ?_⟩
  have n7 := k8_nk K c6 (by decide)
  have o8 := c6
  obtain ⟨b9, e10, h⟩ := h
  refine ⟨b9, e10, ?_⟩
  have n11 := k8_nr K e10 o8 (by decide)
  obtain ⟨b12, e13, h⟩ := h
  refine ⟨b12, e13, ?_⟩
  obtain ⟨c14, h⟩ := h
  refine ⟨c14, ?_⟩
  have n15 := k8_nk K c14 (by decide)
  have o16 := c14
  intro x18 e17
  have h := h x18 e17
  obtain ⟨c19, h⟩ := h
  refine ⟨c19, ?_⟩
  obtain ⟨c20, h⟩ := h
  refine ⟨c20, ?_⟩
  intro x22 e21
  have h := h x22 e21
  have K := k8_I K e21 n11
  have o3 := ob_wI o3 e21
  have o8 := ob_wI o8 e21
  have o16 := ob_wI o16 e21
  obtain ⟨b23, e24, h⟩ := h
  refine ⟨b23, e24, ?_⟩
  obtain ⟨c25, h⟩ := h
  refine ⟨c25, ?_⟩
  have n26 := k8_nk K c25 (by decide)
  have o27 := c25
  intro x29 e28
  have h := h x29 e28
  intro x31 e30
  have h := h x31 e30
  intro x33 e32
  have h := h x33 e32
  have K := k8_I K e32 n26
  have o3 := ob_wI o3 e32
  have o8 := ob_wI o8 e32
  have o16 := ob_wI o16 e32
  have o27 := ob_wI o27 e32
  exact ⟨h, K⟩
set_option maxRecDepth 20000 in
set_option maxHeartbeats 1000000 in
theorem kx_X4_placeLine_0 {Q : Int32 → HS → Prop} {v0 : Nat} {S0 S : HS} (h : P_X4_placeLine_0 Q v0 S) (K : K8 S0 S) : P_X4_placeLine_0 (fun r T => Q r T ∧ K8 S0 T) v0 S := by
  delta P_X4_placeLine_0 at h ⊢
  obtain ⟨c1, h⟩ := h
  refine ⟨c1, ?_⟩
  have n2 := k8_nk K c1 (by decide)
  have o3 := c1
  obtain ⟨b4, e5, h⟩ := h
  refine ⟨b4, e5, ?_⟩
  obtain ⟨c6, h⟩ := h
  refine ⟨c6, ?_⟩
  have n7 := k8_nk K c6 (by decide)
  have o8 := c6
  intro x10 e9
  have h := h x10 e9
  refine cm_X4_newName (kx_X4_newName h) h (fun x11 x12 p15 h g13 g14 => ?_)
  have h := h g13 g14
  have K := k8_tr K p15.2
  have o3 := gr_ob p15.2.1 o3
  have o8 := gr_ob p15.2.1 o8
  refine ⟨?_, ?_⟩
  · intro c16
    have h := h.1 c16
    refine cm_X4_is (kx_X4_is h) h (fun x17 x18 p21 h g19 g20 => ?_)
    have h := h g19 g20
    have K := k8_tr K p21.2
    have o3 := gr_ob p21.2.1 o3
    have o8 := gr_ob p21.2.1 o8
    refine ⟨?_, ?_⟩
    · intro c22
      have h := h.1 c22
      refine cm_X4_is (kx_X4_is h) h (fun x23 x24 p27 h g25 g26 => ?_)
      have h := h g25 g26
      have K := k8_tr K p27.2
      have o3 := gr_ob p27.2.1 o3
      have o8 := gr_ob p27.2.1 o8
      refine ⟨?_, ?_⟩
      · intro c28
        have h := h.1 c28
        exact kx_X4_placeLine_64 h K
      · intro c29
        have h := h.2 c29
        refine cm_X4_wordAndWhole (kx_X4_wordAndWhole h) h (fun x30 x31 p34 h g32 g33 => ?_)
        have h := h g32 g33
        have K := k8_tr K p34.2
        have o3 := gr_ob p34.2.1 o3
        have o8 := gr_ob p34.2.1 o8
        refine ⟨?_, ?_⟩
        · intro c35
          have h := h.1 c35
          intro x37 e36
          have h := h x37 e36
          exact kx_X4_placeLine_64 h K
        · intro c38
          have h := h.2 c38
          exact ⟨h, K⟩
    · intro c39
      have h := h.2 c39
      refine cm_X4_next (kx_X4_next h) h (fun x40 p42 h g41 => ?_)
      have h := h g41
      have K := k8_tr K p42.2
      have o3 := gr_ob p42.2.1 o3
      have o8 := gr_ob p42.2.1 o8
      exact kx_X4_placeLine_64 h K
  · intro c43
    have h := h.2 c43
    exact ⟨h, K⟩
theorem kx_X4_placeLine {Q : Int32 → HS → Prop} {v0 : Nat} {S : HS} (h : P_X4_placeLine v0 Q S) : P_X4_placeLine v0 (fun r T => Q r T ∧ K8 S T) S := kx_X4_placeLine_0 h (k8_rf S)
set_option maxRecDepth 20000 in
set_option maxHeartbeats 1000000 in
theorem kx_X4_side_74 {Q : Int32 → HS → Prop} {v0 : Nat} {S0 S : HS} (h : P_X4_side_74 Q v0 S) (K : K8 S0 S) : P_X4_side_74 (fun r T => Q r T ∧ K8 S0 T) v0 S := by
  delta P_X4_side_74 at h ⊢
  obtain ⟨c1, h⟩ := h
  refine ⟨c1, ?_⟩
  have n2 := k8_nk K c1 (by decide)
  have o3 := c1
  refine cm_X4_next (kx_X4_next h) h (fun x4 p6 h g5 => ?_)
  have h := h g5
  have K := k8_tr K p6.2
  have o3 := gr_ob p6.2.1 o3
  exact ⟨h, K⟩
set_option maxRecDepth 20000 in
set_option maxHeartbeats 1000000 in
theorem kx_X4_side_0 {Q : Int32 → HS → Prop} {v0 : Nat} {S0 S : HS} (h : P_X4_side_0 Q v0 S) (K : K8 S0 S) : P_X4_side_0 (fun r T => Q r T ∧ K8 S0 T) v0 S := by
  delta P_X4_side_0 at h ⊢
  obtain ⟨c1, h⟩ := h
  refine ⟨c1, ?_⟩
  have n2 := k8_nk K c1 (by decide)
  have o3 := c1
  refine cm_X4_is (kx_X4_is h) h (fun x4 x5 p8 h g6 g7 => ?_)
  have h := h g6 g7
  have K := k8_tr K p8.2
  have o3 := gr_ob p8.2.1 o3
  refine ⟨?_, ?_⟩
  · intro c9
    have h := h.1 c9
    refine cm_X4_is (kx_X4_is h) h (fun x10 x11 p14 h g12 g13 => ?_)
    have h := h g12 g13
    have K := k8_tr K p14.2
    have o3 := gr_ob p14.2.1 o3
    refine ⟨?_, ?_⟩
    · intro c15
      have h := h.1 c15
      refine cm_X4_is (kx_X4_is h) h (fun x16 x17 p20 h g18 g19 => ?_)
      have h := h g18 g19
      have K := k8_tr K p20.2
      have o3 := gr_ob p20.2.1 o3
      refine ⟨?_, ?_⟩
      · intro c21
        have h := h.1 c21
        refine cm_X4_is (kx_X4_is h) h (fun x22 x23 p26 h g24 g25 => ?_)
        have h := h g24 g25
        have K := k8_tr K p26.2
        have o3 := gr_ob p26.2.1 o3
        refine ⟨?_, ?_⟩
        · intro c27
          have h := h.1 c27
          refine cm_X4_fail (kx_X4_fail h) h (fun x28 x29 p32 h g30 g31 => ?_)
          have h := h g30 g31
          have K := k8_tr K p32.2
          have o3 := gr_ob p32.2.1 o3
          obtain ⟨c33, h⟩ := h
          refine ⟨c33, ?_⟩
          exact ⟨h, K⟩
        · intro c34
          have h := h.2 c34
          intro x36 e35
          have h := h x36 e35
          have K := k8_I K e35 n2
          have o3 := ob_wI o3 e35
          exact kx_X4_side_74 h K
      · intro c37
        have h := h.2 c37
        intro x39 e38
        have h := h x39 e38
        have K := k8_I K e38 n2
        have o3 := ob_wI o3 e38
        exact kx_X4_side_74 h K
    · intro c40
      have h := h.2 c40
      intro x42 e41
      have h := h x42 e41
      have K := k8_I K e41 n2
      have o3 := ob_wI o3 e41
      exact kx_X4_side_74 h K
  · intro c43
    have h := h.2 c43
    intro x45 e44
    have h := h x45 e44
    have K := k8_I K e44 n2
    have o3 := ob_wI o3 e44
    exact kx_X4_side_74 h K
theorem kx_X4_side {Q : Int32 → HS → Prop} {v0 : Nat} {S : HS} (h : P_X4_side v0 Q S) : P_X4_side v0 (fun r T => Q r T ∧ K8 S T) S := kx_X4_side_0 h (k8_rf S)
set_option maxRecDepth 20000 in
set_option maxHeartbeats 1000000 in
theorem kx_X4_rainLine_0 {Q : Int32 → HS → Prop} {v0 : Nat} {S0 S : HS} (h : P_X4_rainLine_0 Q v0 S) (K : K8 S0 S) : P_X4_rainLine_0 (fun r T => Q r T ∧ K8 S0 T) v0 S := by
  delta P_X4_rainLine_0 at h ⊢
  obtain ⟨c1, h⟩ := h
  refine ⟨c1, ?_⟩
  have n2 := k8_nk K c1 (by decide)
  have o3 := c1
  obtain ⟨b4, e5, h⟩ := h
  refine ⟨b4, e5, ?_⟩
  obtain ⟨c6, h⟩ := h
  refine ⟨c6, ?_⟩
  have n7 := k8_nk K c6 (by decide)
  have o8 := c6
  obtain ⟨b9, e10, h⟩ := h
  refine ⟨b9, e10, ?_⟩
  obtain ⟨b11, e12, h⟩ := h
  refine ⟨b11, e12, ?_⟩
  obtain ⟨c13, h⟩ := h
  refine ⟨c13, ?_⟩
  have n14 := k8_nk K c13 (by decide)
  have o15 := c13
  intro x17 e16
  have h := h x17 e16
  obtain ⟨c18, h⟩ := h
  refine ⟨c18, ?_⟩
  have n19 := k8_nk K c18 (by decide)
  obtain ⟨c20, h⟩ := h
  refine ⟨c20, ?_⟩
  obtain ⟨b21, e22, h⟩ := h
  refine ⟨b21, e22, ?_⟩
  refine cm_X4_wordAndWhole (kx_X4_wordAndWhole h) h (fun x23 x24 p27 h g25 g26 => ?_)
  have h := h g25 g26
  have K := k8_tr K p27.2
  have o3 := gr_ob p27.2.1 o3
  have o8 := gr_ob p27.2.1 o8
  have o15 := gr_ob p27.2.1 o15
  refine ⟨?_, ?_⟩
  · intro c28
    have h := h.1 c28
    intro x30 e29
    have h := h x30 e29
    obtain ⟨c31, h⟩ := h
    refine ⟨c31, ?_⟩
    have n32 := k8_nk K c31 (by decide)
    intro x34 e33
    have h := h x34 e33
    have K := k8_I K e33 n32
    have o3 := ob_wI o3 e33
    have o8 := ob_wI o8 e33
    have o15 := ob_wI o15 e33
    refine cm_X4_wordAndWhole (kx_X4_wordAndWhole h) h (fun x35 x36 p39 h g37 g38 => ?_)
    have h := h g37 g38
    have K := k8_tr K p39.2
    have o3 := gr_ob p39.2.1 o3
    have o8 := gr_ob p39.2.1 o8
    have o15 := gr_ob p39.2.1 o15
    refine ⟨?_, ?_⟩
    · intro c40
      have h := h.1 c40
      intro x42 e41
      have h := h x42 e41
      intro x44 e43
      have h := h x44 e43
      have K := k8_I K e43 n32
      have o3 := ob_wI o3 e43
      have o8 := ob_wI o8 e43
      have o15 := ob_wI o15 e43
      refine cm_X4_word (kx_X4_word h) h (fun x45 x46 p49 h g47 g48 => ?_)
      have h := h g47 g48
      have K := k8_tr K p49.2
      have o3 := gr_ob p49.2.1 o3
      have o8 := gr_ob p49.2.1 o8
      have o15 := gr_ob p49.2.1 o15
      refine ⟨?_, ?_⟩
      · intro c50
        have h := h.1 c50
        exact ⟨h, K⟩
      · intro c51
        have h := h.2 c51
        refine cm_X4_side (kx_X4_side h) h (fun x52 x53 p56 h g54 g55 => ?_)
        have h := h g54 g55
        have K := k8_tr K p56.2
        have o3 := gr_ob p56.2.1 o3
        have o8 := gr_ob p56.2.1 o8
        have o15 := gr_ob p56.2.1 o15
        refine ⟨?_, ?_⟩
        · intro c57
          have h := h.1 c57
          intro x59 e58
          have h := h x59 e58
          intro x61 e60
          have h := h x61 e60
          have K := k8_I K e60 n32
          have o3 := ob_wI o3 e60
          have o8 := ob_wI o8 e60
          have o15 := ob_wI o15 e60
          refine cm_X4_whole (kx_X4_whole h) h (fun x62 x63 p66 h g64 g65 => ?_)
          have h := h g64 g65
          have K := k8_tr K p66.2
          have o3 := gr_ob p66.2.1 o3
          have o8 := gr_ob p66.2.1 o8
          have o15 := gr_ob p66.2.1 o15
          refine ⟨?_, ?_⟩
          · intro c67
            have h := h.1 c67
            intro x69 e68
            have h := h x69 e68
            intro x71 e70
            have h := h x71 e70
            have K := k8_I K e70 n32
            have o3 := ob_wI o3 e70
            have o8 := ob_wI o8 e70
            have o15 := ob_wI o15 e70
            refine cm_X4_wordAndWhole (kx_X4_wordAndWhole h) h (fun x72 x73 p76 h g74 g75 => ?_)
            have h := h g74 g75
            have K := k8_tr K p76.2
            have o3 := gr_ob p76.2.1 o3
            have o8 := gr_ob p76.2.1 o8
            have o15 := gr_ob p76.2.1 o15
            refine ⟨?_, ?_⟩
            · intro c77
              have h := h.1 c77
              intro x79 e78
              have h := h x79 e78
              intro x81 e80
              have h := h x81 e80
              have K := k8_I K e80 n32
              have o3 := ob_wI o3 e80
              have o8 := ob_wI o8 e80
              have o15 := ob_wI o15 e80
              obtain ⟨b82, e83, h⟩ := h
              refine ⟨b82, e83, ?_⟩
              obtain ⟨c84, h⟩ := h
              refine ⟨c84, ?_⟩
              have n85 := k8_nk K c84 (by decide)
              have o86 := c84
              intro x88 e87
              have h := h x88 e87
              intro x90 e89
              have h := h x90 e89
              intro x92 e91
              have h := h x92 e91
              have K := k8_I K e91 n85
              have o3 := ob_wI o3 e91
              have o8 := ob_wI o8 e91
              have o15 := ob_wI o15 e91
              have o86 := ob_wI o86 e91
              exact ⟨h, K⟩
            · intro c93
              have h := h.2 c93
              exact ⟨h, K⟩
          · intro c94
            have h := h.2 c94
            exact ⟨h, K⟩
        · intro c95
          have h := h.2 c95
          exact ⟨h, K⟩
    · intro c96
      have h := h.2 c96
      exact ⟨h, K⟩
  · intro c97
    have h := h.2 c97
    exact ⟨h, K⟩
theorem kx_X4_rainLine {Q : Int32 → HS → Prop} {v0 : Nat} {S : HS} (h : P_X4_rainLine v0 Q S) : P_X4_rainLine v0 (fun r T => Q r T ∧ K8 S T) S := kx_X4_rainLine_0 h (k8_rf S)
set_option maxRecDepth 20000 in
set_option maxHeartbeats 1000000 in
theorem kx_X4_roadLine_130 {Q : Int32 → HS → Prop} {v0 : Nat} {S0 S : HS} (h : P_X4_roadLine_130 Q v0 S) (K : K8 S0 S) : P_X4_roadLine_130 (fun r T => Q r T ∧ K8 S0 T) v0 S := by
  delta P_X4_roadLine_130 at h ⊢
  obtain ⟨c1, h⟩ := h
  refine ⟨c1, ?_⟩
  have n2 := k8_nk K c1 (by decide)
  have o3 := c1
  obtain ⟨b4, e5, h⟩ := h
  refine ⟨b4, e5, ?_⟩
  obtain ⟨c6, h⟩ := h
  refine ⟨c6, ?_⟩
  have n7 := k8_nk K c6 (by decide)
  have o8 := c6
  intro x10 e9
  have h := h x10 e9
  intro x12 e11
  have h := h x12 e11
  intro x14 e13
  have h := h x14 e13
  have K := k8_I K e13 n7
  have o3 := ob_wI o3 e13
  have o8 := ob_wI o8 e13
  exact ⟨h, K⟩
set_option maxRecDepth 20000 in
set_option maxHeartbeats 1000000 in
theorem kx_X4_roadLine_0 {Q : Int32 → HS → Prop} {v0 : Nat} {S0 S : HS} (h : P_X4_roadLine_0 Q v0 S) (K : K8 S0 S) : P_X4_roadLine_0 (fun r T => Q r T ∧ K8 S0 T) v0 S := by
  delta P_X4_roadLine_0 at h ⊢
  obtain ⟨c1, h⟩ := h
  refine ⟨c1, ?_⟩
  have n2 := k8_nk K c1 (by decide)
  have o3 := c1
  obtain ⟨b4, e5, h⟩ := h
  refine ⟨b4, e5, ?_⟩
  obtain ⟨c6, h⟩ := h
  refine ⟨c6, ?_⟩
  have n7 := k8_nk K c6 (by decide)
  have o8 := c6
  obtain ⟨b9, e10, h⟩ := h
  refine ⟨b9, e10, ?_⟩
  obtain ⟨b11, e12, h⟩ := h
  refine ⟨b11, e12, ?_⟩
  obtain ⟨c13, h⟩ := h
  refine ⟨c13, ?_⟩
  have n14 := k8_nk K c13 (by decide)
  have o15 := c13
  intro x17 e16
  have h := h x17 e16
  obtain ⟨c18, h⟩ := h
  refine ⟨c18, ?_⟩
  have n19 := k8_nk K c18 (by decide)
  obtain ⟨c20, h⟩ := h
  refine ⟨c20, ?_⟩
  obtain ⟨b21, e22, h⟩ := h
  refine ⟨b21, e22, ?_⟩
  refine cm_X4_placeBut (kx_X4_placeBut h) h (fun x23 x24 p27 h g25 g26 => ?_)
  have h := h g25 g26
  have K := k8_tr K p27.2
  have o3 := gr_ob p27.2.1 o3
  have o8 := gr_ob p27.2.1 o8
  have o15 := gr_ob p27.2.1 o15
  refine ⟨?_, ?_⟩
  · intro c28
    have h := h.1 c28
    intro x30 e29
    have h := h x30 e29
    obtain ⟨c31, h⟩ := h
    refine ⟨c31, ?_⟩
    have n32 := k8_nk K c31 (by decide)
    intro x34 e33
    have h := h x34 e33
    have K := k8_I K e33 n32
    have o3 := ob_wI o3 e33
    have o8 := ob_wI o8 e33
    have o15 := ob_wI o15 e33
    refine cm_X4_side (kx_X4_side h) h (fun x35 x36 p39 h g37 g38 => ?_)
    have h := h g37 g38
    have K := k8_tr K p39.2
    have o3 := gr_ob p39.2.1 o3
    have o8 := gr_ob p39.2.1 o8
    have o15 := gr_ob p39.2.1 o15
    refine ⟨?_, ?_⟩
    · intro c40
      have h := h.1 c40
      intro x42 e41
      have h := h x42 e41
      intro x44 e43
      have h := h x44 e43
      have K := k8_I K e43 n32
      have o3 := ob_wI o3 e43
      have o8 := ob_wI o8 e43
      have o15 := ob_wI o15 e43
      refine cm_X4_whole (kx_X4_whole h) h (fun x45 x46 p49 h g47 g48 => ?_)
      have h := h g47 g48
      have K := k8_tr K p49.2
      have o3 := gr_ob p49.2.1 o3
      have o8 := gr_ob p49.2.1 o8
      have o15 := gr_ob p49.2.1 o15
      refine ⟨?_, ?_⟩
      · intro c50
        have h := h.1 c50
        intro x52 e51
        have h := h x52 e51
        intro x54 e53
        have h := h x54 e53
        have K := k8_I K e53 n32
        have o3 := ob_wI o3 e53
        have o8 := ob_wI o8 e53
        have o15 := ob_wI o15 e53
        intro x56 e55
        have h := h x56 e55
        refine cm_X4_placeBut (kx_X4_placeBut h) h (fun x57 x58 p61 h g59 g60 => ?_)
        have h := h g59 g60
        have K := k8_tr K p61.2
        have o3 := gr_ob p61.2.1 o3
        have o8 := gr_ob p61.2.1 o8
        have o15 := gr_ob p61.2.1 o15
        refine ⟨?_, ?_⟩
        · intro c62
          have h := h.1 c62
          intro x64 e63
          have h := h x64 e63
          intro x66 e65
          have h := h x66 e65
          have K := k8_I K e65 n32
          have o3 := ob_wI o3 e65
          have o8 := ob_wI o8 e65
          have o15 := ob_wI o15 e65
          intro x68 e67
          have h := h x68 e67
          have K := k8_I K e67 n32
          have o3 := ob_wI o3 e67
          have o8 := ob_wI o8 e67
          have o15 := ob_wI o15 e67
          refine cm_X4_is (kx_X4_is h) h (fun x69 x70 p73 h g71 g72 => ?_)
          have h := h g71 g72
          have K := k8_tr K p73.2
          have o3 := gr_ob p73.2.1 o3
          have o8 := gr_ob p73.2.1 o8
          have o15 := gr_ob p73.2.1 o15
          refine ⟨?_, ?_⟩
          · intro c74
            have h := h.1 c74
            exact kx_X4_roadLine_130 h K
          · intro c75
            have h := h.2 c75
            intro x77 e76
            have h := h x77 e76
            refine cm_X4_wordAndWhole (kx_X4_wordAndWhole h) h (fun x78 x79 p82 h g80 g81 => ?_)
            have h := h g80 g81
            have K := k8_tr K p82.2
            have o3 := gr_ob p82.2.1 o3
            have o8 := gr_ob p82.2.1 o8
            have o15 := gr_ob p82.2.1 o15
            refine ⟨?_, ?_⟩
            · intro c83
              have h := h.1 c83
              intro x85 e84
              have h := h x85 e84
              intro x87 e86
              have h := h x87 e86
              have K := k8_I K e86 n32
              have o3 := ob_wI o3 e86
              have o8 := ob_wI o8 e86
              have o15 := ob_wI o15 e86
              exact kx_X4_roadLine_130 h K
            · intro c88
              have h := h.2 c88
              exact ⟨h, K⟩
        · intro c89
          have h := h.2 c89
          exact ⟨h, K⟩
      · intro c90
        have h := h.2 c90
        exact ⟨h, K⟩
    · intro c91
      have h := h.2 c91
      exact ⟨h, K⟩
  · intro c92
    have h := h.2 c92
    exact ⟨h, K⟩
theorem kx_X4_roadLine {Q : Int32 → HS → Prop} {v0 : Nat} {S : HS} (h : P_X4_roadLine v0 Q S) : P_X4_roadLine v0 (fun r T => Q r T ∧ K8 S T) S := kx_X4_roadLine_0 h (k8_rf S)
set_option maxRecDepth 20000 in
set_option maxHeartbeats 1000000 in
theorem kx_X4_sign_0 {Q : Int32 → HS → Prop} {v0 : Nat} {v1 : Int32} {S0 S : HS} (h : P_X4_sign_0 Q v0 v1 S) (K : K8 S0 S) : P_X4_sign_0 (fun r T => Q r T ∧ K8 S0 T) v0 v1 S := by
  delta P_X4_sign_0 at h ⊢
  obtain ⟨c1, h⟩ := h
  refine ⟨c1, ?_⟩
  have n2 := k8_nk K c1 (by decide)
  have o3 := c1
  intro x5 e4
  have h := h x5 e4
  refine ⟨?_, ?_⟩
  · intro c6
    have h := h.1 c6
    refine cm_X4_next (kx_X4_next h) h (fun x7 p9 h g8 => ?_)
    have h := h g8
    have K := k8_tr K p9.2
    have o3 := gr_ob p9.2.1 o3
    exact ⟨h, K⟩
  · intro c10
    have h := h.2 c10
    refine cm_X4_fail (kx_X4_fail h) h (fun x11 x12 p15 h g13 g14 => ?_)
    have h := h g13 g14
    have K := k8_tr K p15.2
    have o3 := gr_ob p15.2.1 o3
    obtain ⟨c16, h⟩ := h
    refine ⟨c16, ?_⟩
    exact ⟨h, K⟩
theorem kx_X4_sign {Q : Int32 → HS → Prop} {v0 : Nat} {v1 : Int32} {S : HS} (h : P_X4_sign v0 v1 Q S) : P_X4_sign v0 v1 (fun r T => Q r T ∧ K8 S T) S := kx_X4_sign_0 h (k8_rf S)
set_option maxRecDepth 20000 in
set_option maxHeartbeats 1000000 in
theorem kx_X4_someWalker_0 {Q : Int32 → HS → Prop} {v0 : Nat} {S0 S : HS} (h : P_X4_someWalker_0 Q v0 S) (K : K8 S0 S) : P_X4_someWalker_0 (fun r T => Q r T ∧ K8 S0 T) v0 S := by
  delta P_X4_someWalker_0 at h ⊢
  obtain ⟨c1, h⟩ := h
  refine ⟨c1, ?_⟩
  have n2 := k8_nk K c1 (by decide)
  have o3 := c1
  refine cm_X4_canBeName (kx_X4_canBeName h) h (fun x4 x5 p8 h g6 g7 => ?_)
  have h := h g6 g7
  have K := k8_tr K p8.2
  have o3 := gr_ob p8.2.1 o3
  refine ⟨?_, ?_⟩
  · intro c9
    have h := h.1 c9
    refine cm_X4_findName (kx_X4_findName h) h (fun x10 x11 p13 h g12 => ?_)
    have h := h g12
    have K := k8_tr K p13.2
    have o3 := gr_ob p13.2.1 o3
    refine ⟨?_, ?_⟩
    · intro c14
      have h := h.1 c14
      intro x16 e15
      have h := h x16 e15
      intro x18 e17
      have h := h x18 e17
      have K := k8_I K e17 n2
      have o3 := ob_wI o3 e17
      refine cm_X4_next (kx_X4_next h) h (fun x19 p21 h g20 => ?_)
      have h := h g20
      have K := k8_tr K p21.2
      have o3 := gr_ob p21.2.1 o3
      exact ⟨h, K⟩
    · intro c22
      have h := h.2 c22
      refine cm_X4_fail (kx_X4_fail h) h (fun x23 x24 p27 h g25 g26 => ?_)
      have h := h g25 g26
      have K := k8_tr K p27.2
      have o3 := gr_ob p27.2.1 o3
      obtain ⟨c28, h⟩ := h
      refine ⟨c28, ?_⟩
      exact ⟨h, K⟩
  · intro c29
    have h := h.2 c29
    refine cm_X4_fail (kx_X4_fail h) h (fun x30 x31 p34 h g32 g33 => ?_)
    have h := h g32 g33
    have K := k8_tr K p34.2
    have o3 := gr_ob p34.2.1 o3
    obtain ⟨c35, h⟩ := h
    refine ⟨c35, ?_⟩
    exact ⟨h, K⟩
theorem kx_X4_someWalker {Q : Int32 → HS → Prop} {v0 : Nat} {S : HS} (h : P_X4_someWalker v0 Q S) : P_X4_someWalker v0 (fun r T => Q r T ∧ K8 S T) S := kx_X4_someWalker_0 h (k8_rf S)
set_option maxRecDepth 20000 in
set_option maxHeartbeats 1000000 in
theorem kx_X4_seenLine_47 {Q : Int32 → HS → Prop} {X30 X30_2 : Nat → Int32 → HS → Prop} {v0 : Nat} {v1 : Int32} {S0 S : HS} (h : P_X4_seenLine_47 Q X30 v0 v1 S) (K : K8 S0 S) (hX30 : ∀ (u0 : Nat) (u1 : Int32) (u2 : HS), X30 u0 u1 u2 → K8 S0 u2 → X30_2 u0 u1 u2) : P_X4_seenLine_47 (fun r T => Q r T ∧ K8 S0 T) X30_2 v0 v1 S := by
  delta P_X4_seenLine_47 at h ⊢
  obtain ⟨c1, h⟩ := h
  refine ⟨c1, ?_⟩
  have n2 := k8_nk K c1 (by decide)
  have o3 := c1
  refine cm_X4_whole (kx_X4_whole h) h (fun x4 x5 p8 h g6 g7 => ?_)
  have h := h g6 g7
  have K := k8_tr K p8.2
  have o3 := gr_ob p8.2.1 o3
  refine ⟨?_, ?_⟩
  · intro c9
    have h := h.1 c9
    obtain ⟨b10, e11, h⟩ := h
    refine ⟨b10, e11, ?_⟩
    obtain ⟨c12, h⟩ := h
    refine ⟨c12, ?_⟩
    have n13 := k8_nk K c12 (by decide)
    have o14 := c12
    obtain ⟨b15, e16, h⟩ := h
    refine ⟨b15, e16, ?_⟩
    have n17 := k8_nr K e16 o14 (by decide)
    obtain ⟨b18, e19, h⟩ := h
    refine ⟨b18, e19, ?_⟩
    obtain ⟨c20, h⟩ := h
    refine ⟨c20, ?_⟩
    have n21 := k8_nk K c20 (by decide)
    have o22 := c20
    intro x24 e23
    have h := h x24 e23
    intro x26 e25
    have h := h x26 e25
    obtain ⟨c27, h⟩ := h
    refine ⟨c27, ?_⟩
    obtain ⟨c28, h⟩ := h
    refine ⟨c28, ?_⟩
    intro x30 e29
    have h := h x30 e29
    have K := k8_I K e29 n17
    have o3 := ob_wI o3 e29
    have o14 := ob_wI o14 e29
    have o22 := ob_wI o22 e29
    intro x32 e31
    have h := h x32 e31
    exact hX30 _ _ _ h K
  · intro c33
    have h := h.2 c33
    exact ⟨h, K⟩
set_option maxRecDepth 20000 in
set_option maxHeartbeats 1000000 in
theorem kxB_X4_seenLine_30 {Q : Int32 → HS → Prop} {X30 X30_2 : Nat → Int32 → HS → Prop} {v0 : Nat} {v1 : Int32} {S0 S : HS} (h : B_X4_seenLine_30 Q X30 v0 v1 S) (K : K8 S0 S) (hX30 : ∀ (u0 : Nat) (u1 : Int32) (u2 : HS), X30 u0 u1 u2 → K8 S0 u2 → X30_2 u0 u1 u2) : B_X4_seenLine_30 (fun r T => Q r T ∧ K8 S0 T) X30_2 v0 v1 S := by
  delta B_X4_seenLine_30 at h ⊢
  refine ⟨?_, ?_⟩
  · intro c1
    have h := h.1 c1
    obtain ⟨c2, h⟩ := h
    refine ⟨c2, ?_⟩
    have n3 := k8_nk K c2 (by decide)
    have o4 := c2
    obtain ⟨b5, e6, h⟩ := h
    refine ⟨b5, e6, ?_⟩
    obtain ⟨c7, h⟩ := h
    refine ⟨c7, ?_⟩
    have n8 := k8_nk K c7 (by decide)
    have o9 := c7
    intro x11 e10
    have h := h x11 e10
    intro x13 e12
    have h := h x13 e12
    intro x15 e14
    have h := h x15 e14
    have K := k8_I K e14 n8
    have o4 := ob_wI o4 e14
    have o9 := ob_wI o9 e14
    exact ⟨h, K⟩
  · intro c16
    have h := h.2 c16
    refine ⟨?_, ?_⟩
    · intro c17
      have h := h.1 c17
      exact kx_X4_seenLine_47 h K hX30
    · intro c18
      have h := h.2 c18
      obtain ⟨c19, h⟩ := h
      refine ⟨c19, ?_⟩
      have n20 := k8_nk K c19 (by decide)
      have o21 := c19
      refine cm_X4_sign (kx_X4_sign h) h (fun x22 x23 p26 h g24 g25 => ?_)
      have h := h g24 g25
      have K := k8_tr K p26.2
      have o21 := gr_ob p26.2.1 o21
      refine ⟨?_, ?_⟩
      · intro c27
        have h := h.1 c27
        exact ⟨h, K⟩
      · intro c28
        have h := h.2 c28
        exact kx_X4_seenLine_47 h K hX30
theorem kx_X4_seenLine_30 {Q : Int32 → HS → Prop} {v0 : Nat} {v1 : Int32} {S0 S : HS} (h : P_X4_seenLine_30 Q v0 v1 S) (K : K8 S0 S) : P_X4_seenLine_30 (fun r T => Q r T ∧ K8 S0 T) v0 v1 S := h (fun v0 v1 S => K8 S0 S → P_X4_seenLine_30 (fun r T => Q r T ∧ K8 S0 T) v0 v1 S) (fun v0 v1 S hB K => fd_X4_seenLine_30 (kxB_X4_seenLine_30 hB K (fun _ _ _ hx K => hx K))) K
set_option maxRecDepth 20000 in
set_option maxHeartbeats 1000000 in
theorem kx_X4_seenLine_0 {Q : Int32 → HS → Prop} {v0 : Nat} {S0 S : HS} (h : P_X4_seenLine_0 Q v0 S) (K : K8 S0 S) : P_X4_seenLine_0 (fun r T => Q r T ∧ K8 S0 T) v0 S := by
  delta P_X4_seenLine_0 at h ⊢
  obtain ⟨c1, h⟩ := h
  refine ⟨c1, ?_⟩
  have n2 := k8_nk K c1 (by decide)
  have o3 := c1
  refine cm_X4_someWalker (kx_X4_someWalker h) h (fun x4 x5 p8 h g6 g7 => ?_)
  have h := h g6 g7
  have K := k8_tr K p8.2
  have o3 := gr_ob p8.2.1 o3
  refine ⟨?_, ?_⟩
  · intro c9
    have h := h.1 c9
    obtain ⟨b10, e11, h⟩ := h
    refine ⟨b10, e11, ?_⟩
    obtain ⟨c12, h⟩ := h
    refine ⟨c12, ?_⟩
    have n13 := k8_nk K c12 (by decide)
    have o14 := c12
    obtain ⟨b15, e16, h⟩ := h
    refine ⟨b15, e16, ?_⟩
    have n17 := k8_nr K e16 o14 (by decide)
    obtain ⟨b18, e19, h⟩ := h
    refine ⟨b18, e19, ?_⟩
    obtain ⟨c20, h⟩ := h
    refine ⟨c20, ?_⟩
    have n21 := k8_nk K c20 (by decide)
    have o22 := c20
    intro x24 e23
    have h := h x24 e23
    intro x26 e25
    have h := h x26 e25
    obtain ⟨c27, h⟩ := h
    refine ⟨c27, ?_⟩
    obtain ⟨c28, h⟩ := h
    refine ⟨c28, ?_⟩
    intro x30 e29
    have h := h x30 e29
    have K := k8_I K e29 n17
    have o3 := ob_wI o3 e29
    have o14 := ob_wI o14 e29
    have o22 := ob_wI o22 e29
    exact kx_X4_seenLine_30 h K
  · intro c31
    have h := h.2 c31
    exact ⟨h, K⟩
theorem kx_X4_seenLine {Q : Int32 → HS → Prop} {v0 : Nat} {S : HS} (h : P_X4_seenLine v0 Q S) : P_X4_seenLine v0 (fun r T => Q r T ∧ K8 S T) S := kx_X4_seenLine_0 h (k8_rf S)
set_option maxRecDepth 20000 in
set_option maxHeartbeats 1000000 in
theorem kx_X4_walkerLine_0 {Q : Int32 → HS → Prop} {v0 : Nat} {S0 S : HS} (h : P_X4_walkerLine_0 Q v0 S) (K : K8 S0 S) : P_X4_walkerLine_0 (fun r T => Q r T ∧ K8 S0 T) v0 S := by
  delta P_X4_walkerLine_0 at h ⊢
  obtain ⟨c1, h⟩ := h
  refine ⟨c1, ?_⟩
  have n2 := k8_nk K c1 (by decide)
  have o3 := c1
  obtain ⟨b4, e5, h⟩ := h
  refine ⟨b4, e5, ?_⟩
  obtain ⟨c6, h⟩ := h
  refine ⟨c6, ?_⟩
  have n7 := k8_nk K c6 (by decide)
  have o8 := c6
  obtain ⟨b9, e10, h⟩ := h
  refine ⟨b9, e10, ?_⟩
  obtain ⟨b11, e12, h⟩ := h
  refine ⟨b11, e12, ?_⟩
  obtain ⟨c13, h⟩ := h
  refine ⟨c13, ?_⟩
  have n14 := k8_nk K c13 (by decide)
  have o15 := c13
  intro x17 e16
  have h := h x17 e16
  obtain ⟨c18, h⟩ := h
  refine ⟨c18, ?_⟩
  have n19 := k8_nk K c18 (by decide)
  obtain ⟨c20, h⟩ := h
  refine ⟨c20, ?_⟩
  obtain ⟨b21, e22, h⟩ := h
  refine ⟨b21, e22, ?_⟩
  obtain ⟨b23, e24, h⟩ := h
  refine ⟨b23, e24, ?_⟩
  obtain ⟨c25, h⟩ := h
  refine ⟨c25, ?_⟩
  have n26 := k8_nk K c25 (by decide)
  have o27 := c25
  intro x29 e28
  have h := h x29 e28
  refine cm_X4_newName (kx_X4_newName h) h (fun x30 x31 p34 h g32 g33 => ?_)
  have h := h g32 g33
  have K := k8_tr K p34.2
  have o3 := gr_ob p34.2.1 o3
  have o8 := gr_ob p34.2.1 o8
  have o15 := gr_ob p34.2.1 o15
  have o27 := gr_ob p34.2.1 o27
  refine ⟨?_, ?_⟩
  · intro c35
    have h := h.1 c35
    exact ⟨h, K⟩
  · intro c36
    have h := h.2 c36
    refine cm_X4_kindOf (kx_X4_kindOf h) h (fun x37 x38 p41 h g39 g40 => ?_)
    have h := h g39 g40
    have K := k8_tr K p41.2
    have o3 := gr_ob p41.2.1 o3
    have o8 := gr_ob p41.2.1 o8
    have o15 := gr_ob p41.2.1 o15
    have o27 := gr_ob p41.2.1 o27
    refine ⟨?_, ?_⟩
    · intro c42
      have h := h.1 c42
      exact ⟨h, K⟩
    · intro c43
      have h := h.2 c43
      refine cm_X4_bodyOf (kx_X4_bodyOf h) h (fun x44 x45 p48 h g46 g47 => ?_)
      have h := h g46 g47
      have K := k8_tr K p48.2
      have o3 := gr_ob p48.2.1 o3
      have o8 := gr_ob p48.2.1 o8
      have o15 := gr_ob p48.2.1 o15
      have o27 := gr_ob p48.2.1 o27
      refine ⟨?_, ?_⟩
      · intro c49
        have h := h.1 c49
        refine cm_X4_wordAndWhole (kx_X4_wordAndWhole h) h (fun x50 x51 p54 h g52 g53 => ?_)
        have h := h g52 g53
        have K := k8_tr K p54.2
        have o3 := gr_ob p54.2.1 o3
        have o8 := gr_ob p54.2.1 o8
        have o15 := gr_ob p54.2.1 o15
        have o27 := gr_ob p54.2.1 o27
        refine ⟨?_, ?_⟩
        · intro c55
          have h := h.1 c55
          intro x57 e56
          have h := h x57 e56
          obtain ⟨c58, h⟩ := h
          refine ⟨c58, ?_⟩
          have n59 := k8_nk K c58 (by decide)
          intro x61 e60
          have h := h x61 e60
          have K := k8_I K e60 n59
          have o3 := ob_wI o3 e60
          have o8 := ob_wI o8 e60
          have o15 := ob_wI o15 e60
          have o27 := ob_wI o27 e60
          intro x63 e62
          have h := h x63 e62
          refine cm_X4_wordAndWhole (kx_X4_wordAndWhole h) h (fun x64 x65 p68 h g66 g67 => ?_)
          have h := h g66 g67
          have K := k8_tr K p68.2
          have o3 := gr_ob p68.2.1 o3
          have o8 := gr_ob p68.2.1 o8
          have o15 := gr_ob p68.2.1 o15
          have o27 := gr_ob p68.2.1 o27
          refine ⟨?_, ?_⟩
          · intro c69
            have h := h.1 c69
            intro x71 e70
            have h := h x71 e70
            intro x73 e72
            have h := h x73 e72
            have K := k8_I K e72 n59
            have o3 := ob_wI o3 e72
            have o8 := ob_wI o8 e72
            have o15 := ob_wI o15 e72
            have o27 := ob_wI o27 e72
            obtain ⟨b74, e75, h⟩ := h
            refine ⟨b74, e75, ?_⟩
            obtain ⟨c76, h⟩ := h
            refine ⟨c76, ?_⟩
            have n77 := k8_nk K c76 (by decide)
            have o78 := c76
            intro x80 e79
            have h := h x80 e79
            intro x82 e81
            have h := h x82 e81
            intro x84 e83
            have h := h x84 e83
            have K := k8_I K e83 n77
            have o3 := ob_wI o3 e83
            have o8 := ob_wI o8 e83
            have o15 := ob_wI o15 e83
            have o27 := ob_wI o27 e83
            have o78 := ob_wI o78 e83
            exact ⟨h, K⟩
          · intro c85
            have h := h.2 c85
            exact ⟨h, K⟩
        · intro c86
          have h := h.2 c86
          exact ⟨h, K⟩
      · intro c87
        have h := h.2 c87
        exact ⟨h, K⟩
theorem kx_X4_walkerLine {Q : Int32 → HS → Prop} {v0 : Nat} {S : HS} (h : P_X4_walkerLine v0 Q S) : P_X4_walkerLine v0 (fun r T => Q r T ∧ K8 S T) S := kx_X4_walkerLine_0 h (k8_rf S)
set_option maxRecDepth 20000 in
set_option maxHeartbeats 1000000 in
theorem kx_X4_worldLine_0 {Q : Int32 → HS → Prop} {v0 : Nat} {S0 S : HS} (h : P_X4_worldLine_0 Q v0 S) (K : K8 S0 S) : P_X4_worldLine_0 (fun r T => Q r T ∧ K8 S0 T) v0 S := by
  delta P_X4_worldLine_0 at h ⊢
  obtain ⟨c1, h⟩ := h
  refine ⟨c1, ?_⟩
  have n2 := k8_nk K c1 (by decide)
  have o3 := c1
  obtain ⟨b4, e5, h⟩ := h
  refine ⟨b4, e5, ?_⟩
  obtain ⟨c6, h⟩ := h
  refine ⟨c6, ?_⟩
  have n7 := k8_nk K c6 (by decide)
  have o8 := c6
  refine cm_X8_isTold (kx_X8_isTold h) h (fun x9 x10 p13 h g11 g12 => ?_)
  have h := h g11 g12
  have K := k8_tr K p13.2
  have o3 := gr_ob p13.2.1 o3
  have o8 := gr_ob p13.2.1 o8
  refine ⟨?_, ?_⟩
  · intro c14
    have h := h.1 c14
    refine cm_X4_next (kx_X4_next h) h (fun x15 p17 h g16 => ?_)
    have h := h g16
    have K := k8_tr K p17.2
    have o3 := gr_ob p17.2.1 o3
    have o8 := gr_ob p17.2.1 o8
    refine cm_X4_wordAndWhole (kx_X4_wordAndWhole h) h (fun x18 x19 p22 h g20 g21 => ?_)
    have h := h g20 g21
    have K := k8_tr K p22.2
    have o3 := gr_ob p22.2.1 o3
    have o8 := gr_ob p22.2.1 o8
    refine ⟨?_, ?_⟩
    · intro c23
      have h := h.1 c23
      obtain ⟨b24, e25, h⟩ := h
      refine ⟨b24, e25, ?_⟩
      intro x27 e26
      have h := h x27 e26
      obtain ⟨c28, h⟩ := h
      refine ⟨c28, ?_⟩
      have n29 := k8_nk K c28 (by decide)
      have o30 := c28
      intro x32 e31
      have h := h x32 e31
      have K := k8_I K e31 n29
      have o3 := ob_wI o3 e31
      have o8 := ob_wI o8 e31
      have o30 := ob_wI o30 e31
      exact ⟨h, K⟩
    · intro c33
      have h := h.2 c33
      exact ⟨h, K⟩
  · intro c34
    have h := h.2 c34
    refine cm_X4_fail (kx_X4_fail h) h (fun x35 x36 p39 h g37 g38 => ?_)
    have h := h g37 g38
    have K := k8_tr K p39.2
    have o3 := gr_ob p39.2.1 o3
    have o8 := gr_ob p39.2.1 o8
    obtain ⟨c40, h⟩ := h
    refine ⟨c40, ?_⟩
    exact ⟨h, K⟩
theorem kx_X4_worldLine {Q : Int32 → HS → Prop} {v0 : Nat} {S : HS} (h : P_X4_worldLine v0 Q S) : P_X4_worldLine v0 (fun r T => Q r T ∧ K8 S T) S := kx_X4_worldLine_0 h (k8_rf S)
set_option maxRecDepth 20000 in
set_option maxHeartbeats 1000000 in
theorem kx_X4_read_280 {Q : Int32 → HS → Prop} {v0 : Nat} {S0 S : HS} (h : P_X4_read_280 Q v0 S) (K : K8 S0 S) : P_X4_read_280 (fun r T => Q r T ∧ K8 S0 T) v0 S := by
  delta P_X4_read_280 at h ⊢
  obtain ⟨c1, h⟩ := h
  refine ⟨c1, ?_⟩
  have n2 := k8_nk K c1 (by decide)
  have o3 := c1
  refine cm_X4_fail (kx_X4_fail h) h (fun x4 x5 p8 h g6 g7 => ?_)
  have h := h g6 g7
  have K := k8_tr K p8.2
  have o3 := gr_ob p8.2.1 o3
  refine ⟨?_, ?_⟩
  · intro c9
    have h := h.1 c9
    exact ⟨h, K⟩
  · intro c10
    have h := h.2 c10
    exact ⟨h, K⟩
set_option maxRecDepth 20000 in
set_option maxHeartbeats 1000000 in
theorem kx_X4_read_295 {Q : Int32 → HS → Prop} {X8 X8_2 : Nat → Int32 → HS → Prop} {v0 : Nat} {v3 : Int32} {v4 : Int32} {S0 S : HS} (h : P_X4_read_295 Q X8 v0 v3 v4 S) (K : K8 S0 S) (hX8 : ∀ (u0 : Nat) (u1 : Int32) (u2 : HS), X8 u0 u1 u2 → K8 S0 u2 → X8_2 u0 u1 u2) : P_X4_read_295 (fun r T => Q r T ∧ K8 S0 T) X8_2 v0 v3 v4 S := by
  delta P_X4_read_295 at h ⊢
  refine ⟨?_, ?_⟩
  · intro c1
    have h := h.1 c1
    exact ⟨h, K⟩
  · intro c2
    have h := h.2 c2
    obtain ⟨c3, h⟩ := h
    refine ⟨c3, ?_⟩
    have n4 := k8_nk K c3 (by decide)
    have o5 := c3
    refine cm_X4_sign (kx_X4_sign h) h (fun x6 x7 p10 h g8 g9 => ?_)
    have h := h g8 g9
    have K := k8_tr K p10.2
    have o5 := gr_ob p10.2.1 o5
    refine ⟨?_, ?_⟩
    · intro c11
      have h := h.1 c11
      intro x13 e12
      have h := h x13 e12
      exact hX8 _ _ _ h K
    · intro c14
      have h := h.2 c14
      exact ⟨h, K⟩
set_option maxRecDepth 20000 in
set_option maxHeartbeats 1000000 in
theorem kx_X4_read_248 {Q : Int32 → HS → Prop} {X8 X8_2 : Nat → Int32 → HS → Prop} {v0 : Nat} {v3 : Int32} {v4 : Int32} {S0 S : HS} (h : P_X4_read_248 Q X8 v0 v3 v4 S) (K : K8 S0 S) (hX8 : ∀ (u0 : Nat) (u1 : Int32) (u2 : HS), X8 u0 u1 u2 → K8 S0 u2 → X8_2 u0 u1 u2) : P_X4_read_248 (fun r T => Q r T ∧ K8 S0 T) X8_2 v0 v3 v4 S := by
  delta P_X4_read_248 at h ⊢
  refine ⟨?_, ?_⟩
  · intro c1
    have h := h.1 c1
    exact kx_X4_read_295 h K hX8
  · intro c2
    have h := h.2 c2
    obtain ⟨c3, h⟩ := h
    refine ⟨c3, ?_⟩
    have n4 := k8_nk K c3 (by decide)
    have o5 := c3
    intro x7 e6
    have h := h x7 e6
    refine ⟨?_, ?_⟩
    · intro c8
      have h := h.1 c8
      exact kx_X4_read_295 h K hX8
    · intro c9
      have h := h.2 c9
      obtain ⟨b10, e11, h⟩ := h
      refine ⟨b10, e11, ?_⟩
      obtain ⟨c12, h⟩ := h
      refine ⟨c12, ?_⟩
      have n13 := k8_nk K c12 (by decide)
      have o14 := c12
      intro x16 e15
      have h := h x16 e15
      refine ⟨?_, ?_⟩
      · intro c17
        have h := h.1 c17
        exact kx_X4_read_280 h K
      · intro c18
        have h := h.2 c18
        obtain ⟨b19, e20, h⟩ := h
        refine ⟨b19, e20, ?_⟩
        obtain ⟨c21, h⟩ := h
        refine ⟨c21, ?_⟩
        have n22 := k8_nk K c21 (by decide)
        have o23 := c21
        intro x25 e24
        have h := h x25 e24
        refine ⟨?_, ?_⟩
        · intro c26
          have h := h.1 c26
          exact ⟨h, K⟩
        · intro c27
          have h := h.2 c27
          exact kx_X4_read_280 h K
set_option maxRecDepth 20000 in
set_option maxHeartbeats 1000000 in
theorem kx_X4_read_70 {Q : Int32 → HS → Prop} {X8 X8_2 : Nat → Int32 → HS → Prop} {v0 : Nat} {v3 : Int32} {s0 : Int32} {S0 S : HS} (h : P_X4_read_70 Q X8 v0 v3 s0 S) (K : K8 S0 S) (hX8 : ∀ (u0 : Nat) (u1 : Int32) (u2 : HS), X8 u0 u1 u2 → K8 S0 u2 → X8_2 u0 u1 u2) : P_X4_read_70 (fun r T => Q r T ∧ K8 S0 T) X8_2 v0 v3 s0 S := by
  delta P_X4_read_70 at h ⊢
  exact kx_X4_read_248 h K hX8
set_option maxRecDepth 20000 in
set_option maxHeartbeats 1000000 in
theorem kx_X4_read_69 {Q : Int32 → HS → Prop} {X8 X8_2 : Nat → Int32 → HS → Prop} {v0 : Nat} {v3 : Int32} {S0 S : HS} (h : P_X4_read_69 Q X8 v0 v3 S) (K : K8 S0 S) (hX8 : ∀ (u0 : Nat) (u1 : Int32) (u2 : HS), X8 u0 u1 u2 → K8 S0 u2 → X8_2 u0 u1 u2) : P_X4_read_69 (fun r T => Q r T ∧ K8 S0 T) X8_2 v0 v3 S := by
  delta P_X4_read_69 at h ⊢
  exact kx_X4_read_70 h K hX8
set_option maxRecDepth 20000 in
set_option maxHeartbeats 1000000 in
theorem kx_X4_read_112 {Q : Int32 → HS → Prop} {X8 X8_2 : Nat → Int32 → HS → Prop} {v0 : Nat} {v3 : Int32} {s0 : Int32} {S0 S : HS} (h : P_X4_read_112 Q X8 v0 v3 s0 S) (K : K8 S0 S) (hX8 : ∀ (u0 : Nat) (u1 : Int32) (u2 : HS), X8 u0 u1 u2 → K8 S0 u2 → X8_2 u0 u1 u2) : P_X4_read_112 (fun r T => Q r T ∧ K8 S0 T) X8_2 v0 v3 s0 S := by
  delta P_X4_read_112 at h ⊢
  exact kx_X4_read_248 h K hX8
set_option maxRecDepth 20000 in
set_option maxHeartbeats 1000000 in
theorem kx_X4_read_111 {Q : Int32 → HS → Prop} {X8 X8_2 : Nat → Int32 → HS → Prop} {v0 : Nat} {v3 : Int32} {S0 S : HS} (h : P_X4_read_111 Q X8 v0 v3 S) (K : K8 S0 S) (hX8 : ∀ (u0 : Nat) (u1 : Int32) (u2 : HS), X8 u0 u1 u2 → K8 S0 u2 → X8_2 u0 u1 u2) : P_X4_read_111 (fun r T => Q r T ∧ K8 S0 T) X8_2 v0 v3 S := by
  delta P_X4_read_111 at h ⊢
  exact kx_X4_read_112 h K hX8
set_option maxRecDepth 20000 in
set_option maxHeartbeats 1000000 in
theorem kx_X4_read_154 {Q : Int32 → HS → Prop} {X8 X8_2 : Nat → Int32 → HS → Prop} {v0 : Nat} {v3 : Int32} {s0 : Int32} {S0 S : HS} (h : P_X4_read_154 Q X8 v0 v3 s0 S) (K : K8 S0 S) (hX8 : ∀ (u0 : Nat) (u1 : Int32) (u2 : HS), X8 u0 u1 u2 → K8 S0 u2 → X8_2 u0 u1 u2) : P_X4_read_154 (fun r T => Q r T ∧ K8 S0 T) X8_2 v0 v3 s0 S := by
  delta P_X4_read_154 at h ⊢
  exact kx_X4_read_248 h K hX8
set_option maxRecDepth 20000 in
set_option maxHeartbeats 1000000 in
theorem kx_X4_read_153 {Q : Int32 → HS → Prop} {X8 X8_2 : Nat → Int32 → HS → Prop} {v0 : Nat} {v3 : Int32} {S0 S : HS} (h : P_X4_read_153 Q X8 v0 v3 S) (K : K8 S0 S) (hX8 : ∀ (u0 : Nat) (u1 : Int32) (u2 : HS), X8 u0 u1 u2 → K8 S0 u2 → X8_2 u0 u1 u2) : P_X4_read_153 (fun r T => Q r T ∧ K8 S0 T) X8_2 v0 v3 S := by
  delta P_X4_read_153 at h ⊢
  exact kx_X4_read_154 h K hX8
set_option maxRecDepth 20000 in
set_option maxHeartbeats 1000000 in
theorem kx_X4_read_195 {Q : Int32 → HS → Prop} {X8 X8_2 : Nat → Int32 → HS → Prop} {v0 : Nat} {v3 : Int32} {s0 : Int32} {S0 S : HS} (h : P_X4_read_195 Q X8 v0 v3 s0 S) (K : K8 S0 S) (hX8 : ∀ (u0 : Nat) (u1 : Int32) (u2 : HS), X8 u0 u1 u2 → K8 S0 u2 → X8_2 u0 u1 u2) : P_X4_read_195 (fun r T => Q r T ∧ K8 S0 T) X8_2 v0 v3 s0 S := by
  delta P_X4_read_195 at h ⊢
  exact kx_X4_read_248 h K hX8
set_option maxRecDepth 20000 in
set_option maxHeartbeats 1000000 in
theorem kx_X4_read_194 {Q : Int32 → HS → Prop} {X8 X8_2 : Nat → Int32 → HS → Prop} {v0 : Nat} {v3 : Int32} {S0 S : HS} (h : P_X4_read_194 Q X8 v0 v3 S) (K : K8 S0 S) (hX8 : ∀ (u0 : Nat) (u1 : Int32) (u2 : HS), X8 u0 u1 u2 → K8 S0 u2 → X8_2 u0 u1 u2) : P_X4_read_194 (fun r T => Q r T ∧ K8 S0 T) X8_2 v0 v3 S := by
  delta P_X4_read_194 at h ⊢
  exact kx_X4_read_195 h K hX8
set_option maxRecDepth 20000 in
set_option maxHeartbeats 1000000 in
theorem kx_X4_read_236 {Q : Int32 → HS → Prop} {X8 X8_2 : Nat → Int32 → HS → Prop} {v0 : Nat} {v3 : Int32} {s0 : Int32} {S0 S : HS} (h : P_X4_read_236 Q X8 v0 v3 s0 S) (K : K8 S0 S) (hX8 : ∀ (u0 : Nat) (u1 : Int32) (u2 : HS), X8 u0 u1 u2 → K8 S0 u2 → X8_2 u0 u1 u2) : P_X4_read_236 (fun r T => Q r T ∧ K8 S0 T) X8_2 v0 v3 s0 S := by
  delta P_X4_read_236 at h ⊢
  exact kx_X4_read_248 h K hX8
set_option maxRecDepth 20000 in
set_option maxHeartbeats 1000000 in
theorem kx_X4_read_235 {Q : Int32 → HS → Prop} {X8 X8_2 : Nat → Int32 → HS → Prop} {v0 : Nat} {v3 : Int32} {S0 S : HS} (h : P_X4_read_235 Q X8 v0 v3 S) (K : K8 S0 S) (hX8 : ∀ (u0 : Nat) (u1 : Int32) (u2 : HS), X8 u0 u1 u2 → K8 S0 u2 → X8_2 u0 u1 u2) : P_X4_read_235 (fun r T => Q r T ∧ K8 S0 T) X8_2 v0 v3 S := by
  delta P_X4_read_235 at h ⊢
  exact kx_X4_read_236 h K hX8
set_option maxRecDepth 20000 in
set_option maxHeartbeats 1000000 in
theorem kxB_X4_read_8 {Q : Int32 → HS → Prop} {X8 X8_2 : Nat → Int32 → HS → Prop} {v0 : Nat} {v3 : Int32} {S0 S : HS} (h : B_X4_read_8 Q X8 v0 v3 S) (K : K8 S0 S) (hX8 : ∀ (u0 : Nat) (u1 : Int32) (u2 : HS), X8 u0 u1 u2 → K8 S0 u2 → X8_2 u0 u1 u2) : B_X4_read_8 (fun r T => Q r T ∧ K8 S0 T) X8_2 v0 v3 S := by
  delta B_X4_read_8 at h ⊢
  refine ⟨?_, ?_⟩
  · intro c1
    have h := h.1 c1
    obtain ⟨c2, h⟩ := h
    refine ⟨c2, ?_⟩
    have n3 := k8_nk K c2 (by decide)
    have o4 := c2
    refine cm_X4_fail (kx_X4_fail h) h (fun x5 x6 p9 h g7 g8 => ?_)
    have h := h g7 g8
    have K := k8_tr K p9.2
    have o4 := gr_ob p9.2.1 o4
    obtain ⟨c10, h⟩ := h
    refine ⟨c10, ?_⟩
    exact ⟨h, K⟩
  · intro c11
    have h := h.2 c11
    obtain ⟨c12, h⟩ := h
    refine ⟨c12, ?_⟩
    have n13 := k8_nk K c12 (by decide)
    have o14 := c12
    refine cm_X4_is (kx_X4_is h) h (fun x15 x16 p19 h g17 g18 => ?_)
    have h := h g17 g18
    have K := k8_tr K p19.2
    have o14 := gr_ob p19.2.1 o14
    refine ⟨?_, ?_⟩
    · intro c20
      have h := h.1 c20
      refine cm_X4_is (kx_X4_is h) h (fun x21 x22 p25 h g23 g24 => ?_)
      have h := h g23 g24
      have K := k8_tr K p25.2
      have o14 := gr_ob p25.2.1 o14
      refine ⟨?_, ?_⟩
      · intro c26
        have h := h.1 c26
        refine cm_X4_is (kx_X4_is h) h (fun x27 x28 p31 h g29 g30 => ?_)
        have h := h g29 g30
        have K := k8_tr K p31.2
        have o14 := gr_ob p31.2.1 o14
        refine ⟨?_, ?_⟩
        · intro c32
          have h := h.1 c32
          refine cm_X4_is (kx_X4_is h) h (fun x33 x34 p37 h g35 g36 => ?_)
          have h := h g35 g36
          have K := k8_tr K p37.2
          have o14 := gr_ob p37.2.1 o14
          refine ⟨?_, ?_⟩
          · intro c38
            have h := h.1 c38
            refine cm_X4_is (kx_X4_is h) h (fun x39 x40 p43 h g41 g42 => ?_)
            have h := h g41 g42
            have K := k8_tr K p43.2
            have o14 := gr_ob p43.2.1 o14
            refine ⟨?_, ?_⟩
            · intro c44
              have h := h.1 c44
              refine cm_X4_is (kx_X4_is h) h (fun x45 x46 p49 h g47 g48 => ?_)
              have h := h g47 g48
              have K := k8_tr K p49.2
              have o14 := gr_ob p49.2.1 o14
              refine ⟨?_, ?_⟩
              · intro c50
                have h := h.1 c50
                refine cm_X4_fail (kx_X4_fail h) h (fun x51 x52 p55 h g53 g54 => ?_)
                have h := h g53 g54
                have K := k8_tr K p55.2
                have o14 := gr_ob p55.2.1 o14
                exact kx_X4_read_248 h K hX8
              · intro c56
                have h := h.2 c56
                obtain ⟨b57, e58, h⟩ := h
                refine ⟨b57, e58, ?_⟩
                obtain ⟨c59, h⟩ := h
                refine ⟨c59, ?_⟩
                have n60 := k8_nk K c59 (by decide)
                have o61 := c59
                intro x63 e62
                have h := h x63 e62
                refine cm_X4_hasRoom (kx_X4_hasRoom h) h (fun x64 x65 p68 h g66 g67 => ?_)
                have h := h g66 g67
                have K := k8_tr K p68.2
                have o14 := gr_ob p68.2.1 o14
                have o61 := gr_ob p68.2.1 o61
                refine ⟨?_, ?_⟩
                · intro c69
                  have h := h.1 c69
                  exact kx_X4_read_235 h K hX8
                · intro c70
                  have h := h.2 c70
                  refine cm_X4_seenLine (kx_X4_seenLine h) h (fun x71 x72 p75 h g73 g74 => ?_)
                  have h := h g73 g74
                  have K := k8_tr K p75.2
                  have o14 := gr_ob p75.2.1 o14
                  have o61 := gr_ob p75.2.1 o61
                  refine ⟨?_, ?_⟩
                  · intro c76
                    have h := h.1 c76
                    exact kx_X4_read_235 h K hX8
                  · intro c77
                    have h := h.2 c77
                    exact kx_X4_read_236 h K hX8
            · intro c78
              have h := h.2 c78
              obtain ⟨b79, e80, h⟩ := h
              refine ⟨b79, e80, ?_⟩
              obtain ⟨c81, h⟩ := h
              refine ⟨c81, ?_⟩
              have n82 := k8_nk K c81 (by decide)
              have o83 := c81
              intro x85 e84
              have h := h x85 e84
              refine cm_X4_hasRoom (kx_X4_hasRoom h) h (fun x86 x87 p90 h g88 g89 => ?_)
              have h := h g88 g89
              have K := k8_tr K p90.2
              have o14 := gr_ob p90.2.1 o14
              have o83 := gr_ob p90.2.1 o83
              refine ⟨?_, ?_⟩
              · intro c91
                have h := h.1 c91
                exact kx_X4_read_194 h K hX8
              · intro c92
                have h := h.2 c92
                refine cm_X4_walkerLine (kx_X4_walkerLine h) h (fun x93 x94 p97 h g95 g96 => ?_)
                have h := h g95 g96
                have K := k8_tr K p97.2
                have o14 := gr_ob p97.2.1 o14
                have o83 := gr_ob p97.2.1 o83
                refine ⟨?_, ?_⟩
                · intro c98
                  have h := h.1 c98
                  exact kx_X4_read_194 h K hX8
                · intro c99
                  have h := h.2 c99
                  exact kx_X4_read_195 h K hX8
          · intro c100
            have h := h.2 c100
            obtain ⟨b101, e102, h⟩ := h
            refine ⟨b101, e102, ?_⟩
            obtain ⟨c103, h⟩ := h
            refine ⟨c103, ?_⟩
            have n104 := k8_nk K c103 (by decide)
            have o105 := c103
            intro x107 e106
            have h := h x107 e106
            refine cm_X4_hasRoom (kx_X4_hasRoom h) h (fun x108 x109 p112 h g110 g111 => ?_)
            have h := h g110 g111
            have K := k8_tr K p112.2
            have o14 := gr_ob p112.2.1 o14
            have o105 := gr_ob p112.2.1 o105
            refine ⟨?_, ?_⟩
            · intro c113
              have h := h.1 c113
              exact kx_X4_read_153 h K hX8
            · intro c114
              have h := h.2 c114
              refine cm_X4_roadLine (kx_X4_roadLine h) h (fun x115 x116 p119 h g117 g118 => ?_)
              have h := h g117 g118
              have K := k8_tr K p119.2
              have o14 := gr_ob p119.2.1 o14
              have o105 := gr_ob p119.2.1 o105
              refine ⟨?_, ?_⟩
              · intro c120
                have h := h.1 c120
                exact kx_X4_read_153 h K hX8
              · intro c121
                have h := h.2 c121
                exact kx_X4_read_154 h K hX8
        · intro c122
          have h := h.2 c122
          obtain ⟨b123, e124, h⟩ := h
          refine ⟨b123, e124, ?_⟩
          obtain ⟨c125, h⟩ := h
          refine ⟨c125, ?_⟩
          have n126 := k8_nk K c125 (by decide)
          have o127 := c125
          intro x129 e128
          have h := h x129 e128
          refine cm_X4_hasRoom (kx_X4_hasRoom h) h (fun x130 x131 p134 h g132 g133 => ?_)
          have h := h g132 g133
          have K := k8_tr K p134.2
          have o14 := gr_ob p134.2.1 o14
          have o127 := gr_ob p134.2.1 o127
          refine ⟨?_, ?_⟩
          · intro c135
            have h := h.1 c135
            exact kx_X4_read_111 h K hX8
          · intro c136
            have h := h.2 c136
            refine cm_X4_placeLine (kx_X4_placeLine h) h (fun x137 x138 p141 h g139 g140 => ?_)
            have h := h g139 g140
            have K := k8_tr K p141.2
            have o14 := gr_ob p141.2.1 o14
            have o127 := gr_ob p141.2.1 o127
            refine ⟨?_, ?_⟩
            · intro c142
              have h := h.1 c142
              exact kx_X4_read_111 h K hX8
            · intro c143
              have h := h.2 c143
              exact kx_X4_read_112 h K hX8
      · intro c144
        have h := h.2 c144
        obtain ⟨b145, e146, h⟩ := h
        refine ⟨b145, e146, ?_⟩
        obtain ⟨c147, h⟩ := h
        refine ⟨c147, ?_⟩
        have n148 := k8_nk K c147 (by decide)
        have o149 := c147
        intro x151 e150
        have h := h x151 e150
        refine cm_X4_hasRoom (kx_X4_hasRoom h) h (fun x152 x153 p156 h g154 g155 => ?_)
        have h := h g154 g155
        have K := k8_tr K p156.2
        have o14 := gr_ob p156.2.1 o14
        have o149 := gr_ob p156.2.1 o149
        refine ⟨?_, ?_⟩
        · intro c157
          have h := h.1 c157
          exact kx_X4_read_69 h K hX8
        · intro c158
          have h := h.2 c158
          refine cm_X4_rainLine (kx_X4_rainLine h) h (fun x159 x160 p163 h g161 g162 => ?_)
          have h := h g161 g162
          have K := k8_tr K p163.2
          have o14 := gr_ob p163.2.1 o14
          have o149 := gr_ob p163.2.1 o149
          refine ⟨?_, ?_⟩
          · intro c164
            have h := h.1 c164
            exact kx_X4_read_69 h K hX8
          · intro c165
            have h := h.2 c165
            exact kx_X4_read_70 h K hX8
    · intro c166
      have h := h.2 c166
      refine cm_X4_worldLine (kx_X4_worldLine h) h (fun x167 x168 p171 h g169 g170 => ?_)
      have h := h g169 g170
      have K := k8_tr K p171.2
      have o14 := gr_ob p171.2.1 o14
      exact kx_X4_read_248 h K hX8
theorem kx_X4_read_8 {Q : Int32 → HS → Prop} {v0 : Nat} {v3 : Int32} {S0 S : HS} (h : P_X4_read_8 Q v0 v3 S) (K : K8 S0 S) : P_X4_read_8 (fun r T => Q r T ∧ K8 S0 T) v0 v3 S := h (fun v0 v3 S => K8 S0 S → P_X4_read_8 (fun r T => Q r T ∧ K8 S0 T) v0 v3 S) (fun v0 v3 S hB K => fd_X4_read_8 (kxB_X4_read_8 hB K (fun _ _ _ hx K => hx K))) K
set_option maxRecDepth 20000 in
set_option maxHeartbeats 1000000 in
theorem kx_X4_read_0 {Q : Int32 → HS → Prop} {v0 : Nat} {v1 : Nat} {v2 : Int32} {S0 S : HS} (h : P_X4_read_0 Q v0 v1 v2 S) (K : K8 S0 S) : P_X4_read_0 (fun r T => Q r T ∧ K8 S0 T) v0 v1 v2 S := by
  delta P_X4_read_0 at h ⊢
  obtain ⟨c1, h⟩ := h
  refine ⟨c1, ?_⟩
  have n2 := k8_nk K c1 (by decide)
  have o3 := c1
  refine cm_X4_open (kx_X4_open h) h (fun x4 p6 h g5 => ?_)
  have h := h g5
  have K := k8_tr K p6.2
  have o3 := gr_ob p6.2.1 o3
  exact kx_X4_read_8 h K
theorem kx_X4_read {Q : Int32 → HS → Prop} {v0 : Nat} {v1 : Nat} {v2 : Int32} {S : HS} (h : P_X4_read v0 v1 v2 Q S) : P_X4_read v0 v1 v2 (fun r T => Q r T ∧ K8 S T) S := kx_X4_read_0 h (k8_rf S)
set_option maxRecDepth 20000 in
set_option maxHeartbeats 1000000 in
theorem kx_X5_endOf_0 {Q : Int32 → HS → Prop} {v0 : Nat} {v1 : Int32} {S0 S : HS} (h : P_X5_endOf_0 Q v0 v1 S) (K : K8 S0 S) : P_X5_endOf_0 (fun r T => Q r T ∧ K8 S0 T) v0 v1 S := by
  delta P_X5_endOf_0 at h ⊢
  refine ⟨?_, ?_⟩
  · intro c1
    have h := h.1 c1
    obtain ⟨c2, h⟩ := h
    refine ⟨c2, ?_⟩
    have n3 := k8_nk K c2 (by decide)
    intro x5 e4
    have h := h x5 e4
    exact ⟨h, K⟩
  · intro c6
    have h := h.2 c6
    obtain ⟨c7, h⟩ := h
    refine ⟨c7, ?_⟩
    have n8 := k8_nk K c7 (by decide)
    intro x10 e9
    have h := h x10 e9
    exact ⟨h, K⟩
theorem kx_X5_endOf {Q : Int32 → HS → Prop} {v0 : Nat} {v1 : Int32} {S : HS} (h : P_X5_endOf v0 v1 Q S) : P_X5_endOf v0 v1 (fun r T => Q r T ∧ K8 S T) S := kx_X5_endOf_0 h (k8_rf S)
set_option maxRecDepth 20000 in
set_option maxHeartbeats 1000000 in
theorem kx_X5_minutesAt_0 {Q : Int32 → HS → Prop} {v0 : Nat} {v1 : Int32} {S0 S : HS} (h : P_X5_minutesAt_0 Q v0 v1 S) (K : K8 S0 S) : P_X5_minutesAt_0 (fun r T => Q r T ∧ K8 S0 T) v0 v1 S := by
  delta P_X5_minutesAt_0 at h ⊢
  refine ⟨?_, ?_⟩
  · intro c1
    have h := h.1 c1
    exact ⟨h, K⟩
  · intro c2
    have h := h.2 c2
    obtain ⟨c3, h⟩ := h
    refine ⟨c3, ?_⟩
    have n4 := k8_nk K c3 (by decide)
    intro x6 e5
    have h := h x6 e5
    obtain ⟨c7, h⟩ := h
    refine ⟨c7, ?_⟩
    intro x9 e8
    have h := h x9 e8
    exact ⟨h, K⟩
theorem kx_X5_minutesAt {Q : Int32 → HS → Prop} {v0 : Nat} {v1 : Int32} {S : HS} (h : P_X5_minutesAt v0 v1 Q S) : P_X5_minutesAt v0 v1 (fun r T => Q r T ∧ K8 S T) S := kx_X5_minutesAt_0 h (k8_rf S)
set_option maxRecDepth 20000 in
set_option maxHeartbeats 1000000 in
theorem kx_X5_startOf_0 {Q : Int32 → HS → Prop} {v0 : Nat} {v1 : Int32} {S0 S : HS} (h : P_X5_startOf_0 Q v0 v1 S) (K : K8 S0 S) : P_X5_startOf_0 (fun r T => Q r T ∧ K8 S0 T) v0 v1 S := by
  delta P_X5_startOf_0 at h ⊢
  refine ⟨?_, ?_⟩
  · intro c1
    have h := h.1 c1
    obtain ⟨c2, h⟩ := h
    refine ⟨c2, ?_⟩
    have n3 := k8_nk K c2 (by decide)
    intro x5 e4
    have h := h x5 e4
    exact ⟨h, K⟩
  · intro c6
    have h := h.2 c6
    obtain ⟨c7, h⟩ := h
    refine ⟨c7, ?_⟩
    have n8 := k8_nk K c7 (by decide)
    intro x10 e9
    have h := h x10 e9
    exact ⟨h, K⟩
theorem kx_X5_startOf {Q : Int32 → HS → Prop} {v0 : Nat} {v1 : Int32} {S : HS} (h : P_X5_startOf v0 v1 Q S) : P_X5_startOf v0 v1 (fun r T => Q r T ∧ K8 S T) S := kx_X5_startOf_0 h (k8_rf S)
set_option maxRecDepth 20000 in
set_option maxHeartbeats 1000000 in
theorem kx_X5_tell_0 {Q : Int32 → HS → Prop} {v0 : Nat} {v1 : Int32} {S0 S : HS} (h : P_X5_tell_0 Q v0 v1 S) (K : K8 S0 S) : P_X5_tell_0 (fun r T => Q r T ∧ K8 S0 T) v0 v1 S := by
  delta P_X5_tell_0 at h ⊢
  refine ⟨?_, ?_, ?_, ?_, ?_⟩
  · intro c1
    have h := h.1 c1
    obtain ⟨c2, h⟩ := h
    refine ⟨c2, ?_⟩
    have n3 := k8_nk K c2 (by decide)
    intro x5 e4
    have h := h x5 e4
    exact ⟨h, K⟩
  · intro c6
    have h := h.2.1 c6
    obtain ⟨c7, h⟩ := h
    refine ⟨c7, ?_⟩
    have n8 := k8_nk K c7 (by decide)
    intro x10 e9
    have h := h x10 e9
    exact ⟨h, K⟩
  · intro c11
    have h := h.2.2.1 c11
    obtain ⟨c12, h⟩ := h
    refine ⟨c12, ?_⟩
    have n13 := k8_nk K c12 (by decide)
    intro x15 e14
    have h := h x15 e14
    exact ⟨h, K⟩
  · intro c16
    have h := h.2.2.2.1 c16
    obtain ⟨c17, h⟩ := h
    refine ⟨c17, ?_⟩
    have n18 := k8_nk K c17 (by decide)
    intro x20 e19
    have h := h x20 e19
    exact ⟨h, K⟩
  · intro c21
    have h := h.2.2.2.2 c21
    obtain ⟨c22, h⟩ := h
    refine ⟨c22, ?_⟩
    have n23 := k8_nk K c22 (by decide)
    intro x25 e24
    have h := h x25 e24
    exact ⟨h, K⟩
theorem kx_X5_tell {Q : Int32 → HS → Prop} {v0 : Nat} {v1 : Int32} {S : HS} (h : P_X5_tell v0 v1 Q S) : P_X5_tell v0 v1 (fun r T => Q r T ∧ K8 S T) S := kx_X5_tell_0 h (k8_rf S)
set_option maxRecDepth 20000 in
set_option maxHeartbeats 1000000 in
theorem kx_X5_touches_0 {Q : Int32 → HS → Prop} {v0 : Nat} {v1 : Int32} {S0 S : HS} (h : P_X5_touches_0 Q v0 v1 S) (K : K8 S0 S) : P_X5_touches_0 (fun r T => Q r T ∧ K8 S0 T) v0 v1 S := by
  delta P_X5_touches_0 at h ⊢
  obtain ⟨c1, h⟩ := h
  refine ⟨c1, ?_⟩
  have n2 := k8_nk K c1 (by decide)
  intro x4 e3
  have h := h x4 e3
  refine ⟨?_, ?_⟩
  · intro c5
    have h := h.1 c5
    exact ⟨h, K⟩
  · intro c6
    have h := h.2 c6
    intro x8 e7
    have h := h x8 e7
    refine ⟨?_, ?_⟩
    · intro c9
      have h := h.1 c9
      exact ⟨h, K⟩
    · intro c10
      have h := h.2 c10
      exact ⟨h, K⟩
theorem kx_X5_touches {Q : Int32 → HS → Prop} {v0 : Nat} {v1 : Int32} {S : HS} (h : P_X5_touches v0 v1 Q S) : P_X5_touches v0 v1 (fun r T => Q r T ∧ K8 S T) S := kx_X5_touches_0 h (k8_rf S)
set_option maxRecDepth 20000 in
set_option maxHeartbeats 1000000 in
theorem kx_X6_tell_0 {Q : Int32 → HS → Prop} {v0 : Nat} {v1 : Int32} {S0 S : HS} (h : P_X6_tell_0 Q v0 v1 S) (K : K8 S0 S) : P_X6_tell_0 (fun r T => Q r T ∧ K8 S0 T) v0 v1 S := by
  delta P_X6_tell_0 at h ⊢
  refine ⟨?_, ?_, ?_, ?_, ?_, ?_, ?_⟩
  · intro c1
    have h := h.1 c1
    obtain ⟨c2, h⟩ := h
    refine ⟨c2, ?_⟩
    have n3 := k8_nk K c2 (by decide)
    intro x5 e4
    have h := h x5 e4
    exact ⟨h, K⟩
  · intro c6
    have h := h.2.1 c6
    obtain ⟨c7, h⟩ := h
    refine ⟨c7, ?_⟩
    have n8 := k8_nk K c7 (by decide)
    intro x10 e9
    have h := h x10 e9
    exact ⟨h, K⟩
  · intro c11
    have h := h.2.2.1 c11
    obtain ⟨c12, h⟩ := h
    refine ⟨c12, ?_⟩
    have n13 := k8_nk K c12 (by decide)
    intro x15 e14
    have h := h x15 e14
    exact ⟨h, K⟩
  · intro c16
    have h := h.2.2.2.1 c16
    obtain ⟨c17, h⟩ := h
    refine ⟨c17, ?_⟩
    have n18 := k8_nk K c17 (by decide)
    intro x20 e19
    have h := h x20 e19
    exact ⟨h, K⟩
  · intro c21
    have h := h.2.2.2.2.1 c21
    obtain ⟨c22, h⟩ := h
    refine ⟨c22, ?_⟩
    have n23 := k8_nk K c22 (by decide)
    intro x25 e24
    have h := h x25 e24
    exact ⟨h, K⟩
  · intro c26
    have h := h.2.2.2.2.2.1 c26
    obtain ⟨c27, h⟩ := h
    refine ⟨c27, ?_⟩
    have n28 := k8_nk K c27 (by decide)
    intro x30 e29
    have h := h x30 e29
    exact ⟨h, K⟩
  · intro c31
    have h := h.2.2.2.2.2.2 c31
    obtain ⟨c32, h⟩ := h
    refine ⟨c32, ?_⟩
    have n33 := k8_nk K c32 (by decide)
    intro x35 e34
    have h := h x35 e34
    exact ⟨h, K⟩
theorem kx_X6_tell {Q : Int32 → HS → Prop} {v0 : Nat} {v1 : Int32} {S : HS} (h : P_X6_tell v0 v1 Q S) : P_X6_tell v0 v1 (fun r T => Q r T ∧ K8 S T) S := kx_X6_tell_0 h (k8_rf S)
set_option maxRecDepth 20000 in
set_option maxHeartbeats 1000000 in
theorem kx_X7_addMove_0 {Q : HS → Prop} {v0 : Nat} {v1 : Int32} {v2 : Int32} {v3 : Int32} {v4 : Int64} {v6 : Int32} {S0 S : HS} (h : P_X7_addMove_0 Q v0 v1 v2 v3 v4 v6 S) (K : K8 S0 S) : P_X7_addMove_0 (fun T => Q T ∧ K8 S0 T) v0 v1 v2 v3 v4 v6 S := by
  delta P_X7_addMove_0 at h ⊢
  obtain ⟨c1, h⟩ := h
  refine ⟨c1, ?_⟩
  have n2 := k8_nk K c1 (by decide)
  have o3 := c1
  intro x5 e4
  have h := h x5 e4
  refine ⟨?_, ?_⟩
  · intro c6
    have h := h.1 c6
    exact ⟨h, K⟩
  · intro c7
    have h := h.2 c7
    intro x9 e8
    have h := h x9 e8
    refine ⟨?_, ?_⟩
    · intro c10
      have h := h.1 c10
      exact ⟨h, K⟩
    · intro c11
      have h := h.2 c11
      intro x13 e12
      have h := h x13 e12
      refine ⟨?_, ?_⟩
      · intro c14
        have h := h.1 c14
        obtain ⟨b15, e16, h⟩ := h
        refine ⟨b15, e16, ?_⟩
        have n17 := k8_nr K e16 o3 (by decide)
        intro x19 e18
        have h := h x19 e18
        obtain ⟨c20, h⟩ := h
        refine ⟨c20, ?_⟩
        intro x22 e21
        have h := h x22 e21
        obtain ⟨c23, h⟩ := h
        refine ⟨c23, ?_⟩
        intro x25 e24
        have h := h x25 e24
        have K := k8_I K e24 n17
        have o3 := ob_wI o3 e24
        obtain ⟨b26, e27, h⟩ := h
        refine ⟨b26, e27, ?_⟩
        have n28 := k8_nr K e27 o3 (by decide)
        intro x30 e29
        have h := h x30 e29
        obtain ⟨c31, h⟩ := h
        refine ⟨c31, ?_⟩
        intro x33 e32
        have h := h x33 e32
        obtain ⟨c34, h⟩ := h
        refine ⟨c34, ?_⟩
        intro x36 e35
        have h := h x36 e35
        have K := k8_I K e35 n28
        have o3 := ob_wI o3 e35
        obtain ⟨b37, e38, h⟩ := h
        refine ⟨b37, e38, ?_⟩
        have n39 := k8_nr K e38 o3 (by decide)
        intro x41 e40
        have h := h x41 e40
        obtain ⟨c42, h⟩ := h
        refine ⟨c42, ?_⟩
        obtain ⟨c43, h⟩ := h
        refine ⟨c43, ?_⟩
        intro x45 e44
        have h := h x45 e44
        have K := k8_I K e44 n39
        have o3 := ob_wI o3 e44
        obtain ⟨b46, e47, h⟩ := h
        refine ⟨b46, e47, ?_⟩
        intro x49 e48
        have h := h x49 e48
        obtain ⟨c50, h⟩ := h
        refine ⟨c50, ?_⟩
        have n51 := k8_nk K c50 (by decide)
        intro x53 e52
        have h := h x53 e52
        obtain ⟨c54, h⟩ := h
        refine ⟨c54, ?_⟩
        intro x56 e55
        have h := h x56 e55
        have K := k8_J K e55
        have o3 := ob_wJ o3 e55
        obtain ⟨b57, e58, h⟩ := h
        refine ⟨b57, e58, ?_⟩
        have n59 := k8_nr K e58 o3 (by decide)
        intro x61 e60
        have h := h x61 e60
        obtain ⟨c62, h⟩ := h
        refine ⟨c62, ?_⟩
        obtain ⟨c63, h⟩ := h
        refine ⟨c63, ?_⟩
        intro x65 e64
        have h := h x65 e64
        have K := k8_I K e64 n59
        have o3 := ob_wI o3 e64
        intro x67 e66
        have h := h x67 e66
        intro x69 e68
        have h := h x69 e68
        intro x71 e70
        have h := h x71 e70
        have K := k8_I K e70 n2
        have o3 := ob_wI o3 e70
        exact ⟨h, K⟩
      · intro c72
        have h := h.2 c72
        exact ⟨h, K⟩
theorem kx_X7_addMove {Q : HS → Prop} {v0 : Nat} {v1 : Int32} {v2 : Int32} {v3 : Int32} {v4 : Int64} {v6 : Int32} {S : HS} (h : P_X7_addMove v0 v1 v2 v3 v4 v6 Q S) : P_X7_addMove v0 v1 v2 v3 v4 v6 (fun T => Q T ∧ K8 S T) S := kx_X7_addMove_0 h (k8_rf S)
set_option maxRecDepth 20000 in
set_option maxHeartbeats 1000000 in
theorem kx_X7_addLeg_82 {Q : HS → Prop} {v0 : Nat} {v1 : Nat} {v2 : Int32} {v4 : Int64} {v6 : Int32} {v7 : Int32} {S0 S : HS} (h : P_X7_addLeg_82 Q v0 v1 v2 v4 v6 v7 S) (K : K8 S0 S) : P_X7_addLeg_82 (fun T => Q T ∧ K8 S0 T) v0 v1 v2 v4 v6 v7 S := by
  delta P_X7_addLeg_82 at h ⊢
  obtain ⟨c1, h⟩ := h
  refine ⟨c1, ?_⟩
  have n2 := k8_nk K c1 (by decide)
  refine cm_X5_startOf (kx_X5_startOf h) h (fun x3 x4 p6 h g5 => ?_)
  have h := h g5
  have K := k8_tr K p6.2
  refine cm_X5_endOf (kx_X5_endOf h) h (fun x7 x8 p10 h g9 => ?_)
  have h := h g9
  have K := k8_tr K p10.2
  obtain ⟨c11, h⟩ := h
  refine ⟨c11, ?_⟩
  have n12 := k8_nk K c11 (by decide)
  have o13 := c11
  refine cm_X7_addMove (kx_X7_addMove h) h (fun x14 p16 h g15 => ?_)
  have h := h g15
  have K := k8_tr K p16.2
  have o13 := gr_ob p16.2.1 o13
  exact ⟨h, K⟩
set_option maxRecDepth 20000 in
set_option maxHeartbeats 1000000 in
theorem kx_X7_addLeg_0 {Q : HS → Prop} {v0 : Nat} {v1 : Nat} {v2 : Int32} {v3 : Int32} {v4 : Int64} {v6 : Int32} {S0 S : HS} (h : P_X7_addLeg_0 Q v0 v1 v2 v3 v4 v6 S) (K : K8 S0 S) : P_X7_addLeg_0 (fun T => Q T ∧ K8 S0 T) v0 v1 v2 v3 v4 v6 S := by
  delta P_X7_addLeg_0 at h ⊢
  obtain ⟨c1, h⟩ := h
  refine ⟨c1, ?_⟩
  have n2 := k8_nk K c1 (by decide)
  refine cm_X5_minutesAt (kx_X5_minutesAt h) h (fun x3 x4 p6 h g5 => ?_)
  have h := h g5
  have K := k8_tr K p6.2
  obtain ⟨c7, h⟩ := h
  refine ⟨c7, ?_⟩
  have n8 := k8_nk K c7 (by decide)
  have o9 := c7
  intro x11 e10
  have h := h x11 e10
  intro x13 e12
  have h := h x13 e12
  refine ⟨?_, ?_⟩
  · intro c14
    have h := h.1 c14
    exact kx_X7_addLeg_82 h K
  · intro c15
    have h := h.2 c15
    refine ⟨?_, ?_⟩
    · intro c16
      have h := h.1 c16
      exact kx_X7_addLeg_82 h K
    · intro c17
      have h := h.2 c17
      obtain ⟨b18, e19, h⟩ := h
      refine ⟨b18, e19, ?_⟩
      have n20 := k8_nr K e19 o9 (by decide)
      obtain ⟨c21, h⟩ := h
      refine ⟨c21, ?_⟩
      obtain ⟨c22, h⟩ := h
      refine ⟨c22, ?_⟩
      intro x24 e23
      have h := h x24 e23
      intro x26 e25
      have h := h x26 e25
      intro x28 e27
      have h := h x28 e27
      refine ⟨?_, ?_⟩
      · intro c29
        have h := h.1 c29
        exact kx_X7_addLeg_82 h K
      · intro c30
        have h := h.2 c30
        obtain ⟨b31, e32, h⟩ := h
        refine ⟨b31, e32, ?_⟩
        have n33 := k8_nr K e32 o9 (by decide)
        obtain ⟨c34, h⟩ := h
        refine ⟨c34, ?_⟩
        obtain ⟨c35, h⟩ := h
        refine ⟨c35, ?_⟩
        intro x37 e36
        have h := h x37 e36
        refine ⟨?_, ?_⟩
        · intro c38
          have h := h.1 c38
          exact kx_X7_addLeg_82 h K
        · intro c39
          have h := h.2 c39
          obtain ⟨b40, e41, h⟩ := h
          refine ⟨b40, e41, ?_⟩
          obtain ⟨c42, h⟩ := h
          refine ⟨c42, ?_⟩
          have n43 := k8_nk K c42 (by decide)
          obtain ⟨c44, h⟩ := h
          refine ⟨c44, ?_⟩
          intro x46 e45
          have h := h x46 e45
          refine ⟨?_, ?_⟩
          · intro c47
            have h := h.1 c47
            intro x49 e48
            have h := h x49 e48
            have K := k8_I K e48 n8
            have o9 := ob_wI o9 e48
            exact kx_X7_addLeg_82 h K
          · intro c50
            have h := h.2 c50
            exact ⟨h, K⟩
theorem kx_X7_addLeg {Q : HS → Prop} {v0 : Nat} {v1 : Nat} {v2 : Int32} {v3 : Int32} {v4 : Int64} {v6 : Int32} {S : HS} (h : P_X7_addLeg v0 v1 v2 v3 v4 v6 Q S) : P_X7_addLeg v0 v1 v2 v3 v4 v6 (fun T => Q T ∧ K8 S T) S := kx_X7_addLeg_0 h (k8_rf S)
set_option maxRecDepth 20000 in
set_option maxHeartbeats 1000000 in
theorem kx_X7_keyOf_0 {Q : Int64 → HS → Prop} {v0 : Nat} {v1 : Int32} {v2 : Int32} {S0 S : HS} (h : P_X7_keyOf_0 Q v0 v1 v2 S) (K : K8 S0 S) : P_X7_keyOf_0 (fun r T => Q r T ∧ K8 S0 T) v0 v1 v2 S := by
  delta P_X7_keyOf_0 at h ⊢
  intro x2 e1
  have h := h x2 e1
  refine ⟨?_, ?_⟩
  · intro c3
    have h := h.1 c3
    exact ⟨h, K⟩
  · intro c4
    have h := h.2 c4
    obtain ⟨c5, h⟩ := h
    refine ⟨c5, ?_⟩
    have n6 := k8_nk K c5 (by decide)
    have o7 := c5
    obtain ⟨b8, e9, h⟩ := h
    refine ⟨b8, e9, ?_⟩
    obtain ⟨c10, h⟩ := h
    refine ⟨c10, ?_⟩
    have n11 := k8_nk K c10 (by decide)
    refine ⟨?_, ?_⟩
    · intro c12
      have h := h.1 c12
      exact ⟨h, K⟩
    · intro c13
      have h := h.2 c13
      obtain ⟨b14, e15, h⟩ := h
      refine ⟨b14, e15, ?_⟩
      obtain ⟨c16, h⟩ := h
      refine ⟨c16, ?_⟩
      have n17 := k8_nk K c16 (by decide)
      obtain ⟨c18, h⟩ := h
      refine ⟨c18, ?_⟩
      intro x20 e19
      have h := h x20 e19
      exact ⟨h, K⟩
theorem kx_X7_keyOf {Q : Int64 → HS → Prop} {v0 : Nat} {v1 : Int32} {v2 : Int32} {S : HS} (h : P_X7_keyOf v0 v1 v2 Q S) : P_X7_keyOf v0 v1 v2 (fun r T => Q r T ∧ K8 S T) S := kx_X7_keyOf_0 h (k8_rf S)
set_option maxRecDepth 20000 in
set_option maxHeartbeats 1000000 in
theorem kx_X7_endFrom_0 {Q : Int32 → HS → Prop} {v0 : Nat} {v1 : Int32} {v2 : Int32} {S0 S : HS} (h : P_X7_endFrom_0 Q v0 v1 v2 S) (K : K8 S0 S) : P_X7_endFrom_0 (fun r T => Q r T ∧ K8 S0 T) v0 v1 v2 S := by
  delta P_X7_endFrom_0 at h ⊢
  obtain ⟨c1, h⟩ := h
  refine ⟨c1, ?_⟩
  have n2 := k8_nk K c1 (by decide)
  have o3 := c1
  refine cm_X7_keyOf (kx_X7_keyOf h) h (fun x4 x5 p7 h g6 => ?_)
  have h := h g6
  have K := k8_tr K p7.2
  have o3 := gr_ob p7.2.1 o3
  intro x9 e8
  have h := h x9 e8
  exact ⟨h, K⟩
theorem kx_X7_endFrom {Q : Int32 → HS → Prop} {v0 : Nat} {v1 : Int32} {v2 : Int32} {S : HS} (h : P_X7_endFrom v0 v1 v2 Q S) : P_X7_endFrom v0 v1 v2 (fun r T => Q r T ∧ K8 S T) S := kx_X7_endFrom_0 h (k8_rf S)
set_option maxRecDepth 20000 in
set_option maxHeartbeats 1000000 in
theorem kx_X7_forget_0 {Q : HS → Prop} {v0 : Nat} {S0 S : HS} (h : P_X7_forget_0 Q v0 S) (K : K8 S0 S) : P_X7_forget_0 (fun T => Q T ∧ K8 S0 T) v0 S := by
  delta P_X7_forget_0 at h ⊢
  obtain ⟨c1, h⟩ := h
  refine ⟨c1, ?_⟩
  have n2 := k8_nk K c1 (by decide)
  have o3 := c1
  intro x5 e4
  have h := h x5 e4
  have K := k8_I K e4 n2
  have o3 := ob_wI o3 e4
  exact ⟨h, K⟩
theorem kx_X7_forget {Q : HS → Prop} {v0 : Nat} {S : HS} (h : P_X7_forget v0 Q S) : P_X7_forget v0 (fun T => Q T ∧ K8 S T) S := kx_X7_forget_0 h (k8_rf S)
set_option maxRecDepth 20000 in
set_option maxHeartbeats 1000000 in
theorem kx_X7_init_0 {Q : HS → Prop} {v0 : Nat} {S0 S : HS} (h : P_X7_init_0 Q v0 S) (K : K8 S0 S) : P_X7_init_0 (fun T => Q T ∧ K8 S0 T) v0 S := by
  delta P_X7_init_0 at h ⊢
  intro x2 e1
  have h := h x2 e1
  intro x4 e3
  have h := h x4 e3
  have n5 := k8_nf K e1
  have K := k8_W K e1 e3
  have o6 := ob_of_new e3
  obtain ⟨c7, h⟩ := h
  refine ⟨c7, ?_⟩
  have n8 := k8_nk K c7 (by decide)
  have o9 := c7
  intro x11 e10
  have h := h x11 e10
  have K := k8_S K e10 o9 n5 (by decide)
  have o6 := ob_wR o6 e10
  have o9 := ob_wR o9 e10
  intro x13 e12
  have h := h x13 e12
  intro x15 e14
  have h := h x15 e14
  have n16 := k8_nf K e12
  have K := k8_W K e12 e14
  have o6 := gr_ob (gr_of_new e14 e12) o6
  have o9 := gr_ob (gr_of_new e14 e12) o9
  have o17 := ob_of_new e14
  intro x19 e18
  have h := h x19 e18
  have K := k8_R K e18 o9 (by decide) (by decide)
  have o6 := ob_wR o6 e18
  have o9 := ob_wR o9 e18
  have o17 := ob_wR o17 e18
  intro x21 e20
  have h := h x21 e20
  intro x23 e22
  have h := h x23 e22
  have n24 := k8_nf K e20
  have K := k8_W K e20 e22
  have o6 := gr_ob (gr_of_new e22 e20) o6
  have o9 := gr_ob (gr_of_new e22 e20) o9
  have o17 := gr_ob (gr_of_new e22 e20) o17
  have o25 := ob_of_new e22
  intro x27 e26
  have h := h x27 e26
  have K := k8_S K e26 o9 n24 (by decide)
  have o6 := ob_wR o6 e26
  have o9 := ob_wR o9 e26
  have o17 := ob_wR o17 e26
  have o25 := ob_wR o25 e26
  intro x29 e28
  have h := h x29 e28
  intro x31 e30
  have h := h x31 e30
  have n32 := k8_nf K e28
  have K := k8_W K e28 e30
  have o6 := gr_ob (gr_of_new e30 e28) o6
  have o9 := gr_ob (gr_of_new e30 e28) o9
  have o17 := gr_ob (gr_of_new e30 e28) o17
  have o25 := gr_ob (gr_of_new e30 e28) o25
  have o33 := ob_of_new e30
  intro x35 e34
  have h := h x35 e34
  have K := k8_S K e34 o9 n32 (by decide)
  have o6 := ob_wR o6 e34
  have o9 := ob_wR o9 e34
  have o17 := ob_wR o17 e34
  have o25 := ob_wR o25 e34
  have o33 := ob_wR o33 e34
  intro x37 e36
  have h := h x37 e36
  intro x39 e38
  have h := h x39 e38
  have n40 := k8_nf K e36
  have K := k8_W K e36 e38
  have o6 := gr_ob (gr_of_new e38 e36) o6
  have o9 := gr_ob (gr_of_new e38 e36) o9
  have o17 := gr_ob (gr_of_new e38 e36) o17
  have o25 := gr_ob (gr_of_new e38 e36) o25
  have o33 := gr_ob (gr_of_new e38 e36) o33
  have o41 := ob_of_new e38
  intro x43 e42
  have h := h x43 e42
  have K := k8_S K e42 o9 n40 (by decide)
  have o6 := ob_wR o6 e42
  have o9 := ob_wR o9 e42
  have o17 := ob_wR o17 e42
  have o25 := ob_wR o25 e42
  have o33 := ob_wR o33 e42
  have o41 := ob_wR o41 e42
  intro x45 e44
  have h := h x45 e44
  intro x47 e46
  have h := h x47 e46
  have n48 := k8_nf K e44
  have K := k8_W K e44 e46
  have o6 := gr_ob (gr_of_new e46 e44) o6
  have o9 := gr_ob (gr_of_new e46 e44) o9
  have o17 := gr_ob (gr_of_new e46 e44) o17
  have o25 := gr_ob (gr_of_new e46 e44) o25
  have o33 := gr_ob (gr_of_new e46 e44) o33
  have o41 := gr_ob (gr_of_new e46 e44) o41
  have o49 := ob_of_new e46
  intro x51 e50
  have h := h x51 e50
  have K := k8_S K e50 o9 n48 (by decide)
  have o6 := ob_wR o6 e50
  have o9 := ob_wR o9 e50
  have o17 := ob_wR o17 e50
  have o25 := ob_wR o25 e50
  have o33 := ob_wR o33 e50
  have o41 := ob_wR o41 e50
  have o49 := ob_wR o49 e50
  intro x53 e52
  have h := h x53 e52
  intro x55 e54
  have h := h x55 e54
  have n56 := k8_nf K e52
  have K := k8_W K e52 e54
  have o6 := gr_ob (gr_of_new e54 e52) o6
  have o9 := gr_ob (gr_of_new e54 e52) o9
  have o17 := gr_ob (gr_of_new e54 e52) o17
  have o25 := gr_ob (gr_of_new e54 e52) o25
  have o33 := gr_ob (gr_of_new e54 e52) o33
  have o41 := gr_ob (gr_of_new e54 e52) o41
  have o49 := gr_ob (gr_of_new e54 e52) o49
  have o57 := ob_of_new e54
  intro x59 e58
  have h := h x59 e58
  have K := k8_R K e58 o9 (by decide) (by decide)
  have o6 := ob_wR o6 e58
  have o9 := ob_wR o9 e58
  have o17 := ob_wR o17 e58
  have o25 := ob_wR o25 e58
  have o33 := ob_wR o33 e58
  have o41 := ob_wR o41 e58
  have o49 := ob_wR o49 e58
  have o57 := ob_wR o57 e58
  intro x61 e60
  have h := h x61 e60
  intro x63 e62
  have h := h x63 e62
  have n64 := k8_nf K e60
  have K := k8_W K e60 e62
  have o6 := gr_ob (gr_of_new e62 e60) o6
  have o9 := gr_ob (gr_of_new e62 e60) o9
  have o17 := gr_ob (gr_of_new e62 e60) o17
  have o25 := gr_ob (gr_of_new e62 e60) o25
  have o33 := gr_ob (gr_of_new e62 e60) o33
  have o41 := gr_ob (gr_of_new e62 e60) o41
  have o49 := gr_ob (gr_of_new e62 e60) o49
  have o57 := gr_ob (gr_of_new e62 e60) o57
  have o65 := ob_of_new e62
  intro x67 e66
  have h := h x67 e66
  have K := k8_S K e66 o9 n64 (by decide)
  have o6 := ob_wR o6 e66
  have o9 := ob_wR o9 e66
  have o17 := ob_wR o17 e66
  have o25 := ob_wR o25 e66
  have o33 := ob_wR o33 e66
  have o41 := ob_wR o41 e66
  have o49 := ob_wR o49 e66
  have o57 := ob_wR o57 e66
  have o65 := ob_wR o65 e66
  intro x69 e68
  have h := h x69 e68
  have K := k8_I K e68 n8
  have o6 := ob_wI o6 e68
  have o9 := ob_wI o9 e68
  have o17 := ob_wI o17 e68
  have o25 := ob_wI o25 e68
  have o33 := ob_wI o33 e68
  have o41 := ob_wI o41 e68
  have o49 := ob_wI o49 e68
  have o57 := ob_wI o57 e68
  have o65 := ob_wI o65 e68
  intro x71 e70
  have h := h x71 e70
  have K := k8_I K e70 n8
  have o6 := ob_wI o6 e70
  have o9 := ob_wI o9 e70
  have o17 := ob_wI o17 e70
  have o25 := ob_wI o25 e70
  have o33 := ob_wI o33 e70
  have o41 := ob_wI o41 e70
  have o49 := ob_wI o49 e70
  have o57 := ob_wI o57 e70
  have o65 := ob_wI o65 e70
  intro x73 e72
  have h := h x73 e72
  have K := k8_I K e72 n8
  have o6 := ob_wI o6 e72
  have o9 := ob_wI o9 e72
  have o17 := ob_wI o17 e72
  have o25 := ob_wI o25 e72
  have o33 := ob_wI o33 e72
  have o41 := ob_wI o41 e72
  have o49 := ob_wI o49 e72
  have o57 := ob_wI o57 e72
  have o65 := ob_wI o65 e72
  intro x75 e74
  have h := h x75 e74
  have K := k8_I K e74 n8
  have o6 := ob_wI o6 e74
  have o9 := ob_wI o9 e74
  have o17 := ob_wI o17 e74
  have o25 := ob_wI o25 e74
  have o33 := ob_wI o33 e74
  have o41 := ob_wI o41 e74
  have o49 := ob_wI o49 e74
  have o57 := ob_wI o57 e74
  have o65 := ob_wI o65 e74
  exact ⟨h, K⟩
theorem kx_X7_init {Q : HS → Prop} {v0 : Nat} {S : HS} (h : P_X7_init v0 Q S) : P_X7_init v0 (fun T => Q T ∧ K8 S T) S := kx_X7_init_0 h (k8_rf S)
set_option maxRecDepth 20000 in
set_option maxHeartbeats 1000000 in
theorem kx_X7_isOpen_0 {Q : Int32 → HS → Prop} {v0 : Nat} {v1 : Int32} {v2 : Int32} {S0 S : HS} (h : P_X7_isOpen_0 Q v0 v1 v2 S) (K : K8 S0 S) : P_X7_isOpen_0 (fun r T => Q r T ∧ K8 S0 T) v0 v1 v2 S := by
  delta P_X7_isOpen_0 at h ⊢
  obtain ⟨c1, h⟩ := h
  refine ⟨c1, ?_⟩
  have n2 := k8_nk K c1 (by decide)
  have o3 := c1
  refine cm_X7_keyOf (kx_X7_keyOf h) h (fun x4 x5 p7 h g6 => ?_)
  have h := h g6
  have K := k8_tr K p7.2
  have o3 := gr_ob p7.2.1 o3
  refine ⟨?_, ?_⟩
  · intro c8
    have h := h.1 c8
    exact ⟨h, K⟩
  · intro c9
    have h := h.2 c9
    exact ⟨h, K⟩
theorem kx_X7_isOpen {Q : Int32 → HS → Prop} {v0 : Nat} {v1 : Int32} {v2 : Int32} {S : HS} (h : P_X7_isOpen v0 v1 v2 Q S) : P_X7_isOpen v0 v1 v2 (fun r T => Q r T ∧ K8 S T) S := kx_X7_isOpen_0 h (k8_rf S)
set_option maxRecDepth 20000 in
set_option maxHeartbeats 1000000 in
theorem kx_X7_makeRows_0 {Q : HS → Prop} {v0 : Nat} {S0 S : HS} (h : P_X7_makeRows_0 Q v0 S) (K : K8 S0 S) : P_X7_makeRows_0 (fun T => Q T ∧ K8 S0 T) v0 S := by
  delta P_X7_makeRows_0 at h ⊢
  intro x2 e1
  have h := h x2 e1
  intro x4 e3
  have h := h x4 e3
  have n5 := k8_nf K e1
  have K := k8_W K e1 e3
  have o6 := ob_of_new e3
  obtain ⟨c7, h⟩ := h
  refine ⟨c7, ?_⟩
  have n8 := k8_nk K c7 (by decide)
  have o9 := c7
  intro x11 e10
  have h := h x11 e10
  have K := k8_S K e10 o9 n5 (by decide)
  have o6 := ob_wR o6 e10
  have o9 := ob_wR o9 e10
  intro x13 e12
  have h := h x13 e12
  intro x15 e14
  have h := h x15 e14
  have n16 := k8_nf K e12
  have K := k8_W K e12 e14
  have o6 := gr_ob (gr_of_new e14 e12) o6
  have o9 := gr_ob (gr_of_new e14 e12) o9
  have o17 := ob_of_new e14
  intro x19 e18
  have h := h x19 e18
  have K := k8_R K e18 o9 (by decide) (by decide)
  have o6 := ob_wR o6 e18
  have o9 := ob_wR o9 e18
  have o17 := ob_wR o17 e18
  intro x21 e20
  have h := h x21 e20
  intro x23 e22
  have h := h x23 e22
  have n24 := k8_nf K e20
  have K := k8_W K e20 e22
  have o6 := gr_ob (gr_of_new e22 e20) o6
  have o9 := gr_ob (gr_of_new e22 e20) o9
  have o17 := gr_ob (gr_of_new e22 e20) o17
  have o25 := ob_of_new e22
  intro x27 e26
  have h := h x27 e26
  have K := k8_S K e26 o9 n24 (by decide)
  have o6 := ob_wR o6 e26
  have o9 := ob_wR o9 e26
  have o17 := ob_wR o17 e26
  have o25 := ob_wR o25 e26
  intro x29 e28
  have h := h x29 e28
  intro x31 e30
  have h := h x31 e30
  have n32 := k8_nf K e28
  have K := k8_W K e28 e30
  have o6 := gr_ob (gr_of_new e30 e28) o6
  have o9 := gr_ob (gr_of_new e30 e28) o9
  have o17 := gr_ob (gr_of_new e30 e28) o17
  have o25 := gr_ob (gr_of_new e30 e28) o25
  have o33 := ob_of_new e30
  intro x35 e34
  have h := h x35 e34
  have K := k8_S K e34 o9 n32 (by decide)
  have o6 := ob_wR o6 e34
  have o9 := ob_wR o9 e34
  have o17 := ob_wR o17 e34
  have o25 := ob_wR o25 e34
  have o33 := ob_wR o33 e34
  intro x37 e36
  have h := h x37 e36
  intro x39 e38
  have h := h x39 e38
  have n40 := k8_nf K e36
  have K := k8_W K e36 e38
  have o6 := gr_ob (gr_of_new e38 e36) o6
  have o9 := gr_ob (gr_of_new e38 e36) o9
  have o17 := gr_ob (gr_of_new e38 e36) o17
  have o25 := gr_ob (gr_of_new e38 e36) o25
  have o33 := gr_ob (gr_of_new e38 e36) o33
  have o41 := ob_of_new e38
  intro x43 e42
  have h := h x43 e42
  have K := k8_S K e42 o9 n40 (by decide)
  have o6 := ob_wR o6 e42
  have o9 := ob_wR o9 e42
  have o17 := ob_wR o17 e42
  have o25 := ob_wR o25 e42
  have o33 := ob_wR o33 e42
  have o41 := ob_wR o41 e42
  intro x45 e44
  have h := h x45 e44
  intro x47 e46
  have h := h x47 e46
  have n48 := k8_nf K e44
  have K := k8_W K e44 e46
  have o6 := gr_ob (gr_of_new e46 e44) o6
  have o9 := gr_ob (gr_of_new e46 e44) o9
  have o17 := gr_ob (gr_of_new e46 e44) o17
  have o25 := gr_ob (gr_of_new e46 e44) o25
  have o33 := gr_ob (gr_of_new e46 e44) o33
  have o41 := gr_ob (gr_of_new e46 e44) o41
  have o49 := ob_of_new e46
  intro x51 e50
  have h := h x51 e50
  have K := k8_S K e50 o9 n48 (by decide)
  have o6 := ob_wR o6 e50
  have o9 := ob_wR o9 e50
  have o17 := ob_wR o17 e50
  have o25 := ob_wR o25 e50
  have o33 := ob_wR o33 e50
  have o41 := ob_wR o41 e50
  have o49 := ob_wR o49 e50
  intro x53 e52
  have h := h x53 e52
  intro x55 e54
  have h := h x55 e54
  have n56 := k8_nf K e52
  have K := k8_W K e52 e54
  have o6 := gr_ob (gr_of_new e54 e52) o6
  have o9 := gr_ob (gr_of_new e54 e52) o9
  have o17 := gr_ob (gr_of_new e54 e52) o17
  have o25 := gr_ob (gr_of_new e54 e52) o25
  have o33 := gr_ob (gr_of_new e54 e52) o33
  have o41 := gr_ob (gr_of_new e54 e52) o41
  have o49 := gr_ob (gr_of_new e54 e52) o49
  have o57 := ob_of_new e54
  intro x59 e58
  have h := h x59 e58
  have K := k8_R K e58 o9 (by decide) (by decide)
  have o6 := ob_wR o6 e58
  have o9 := ob_wR o9 e58
  have o17 := ob_wR o17 e58
  have o25 := ob_wR o25 e58
  have o33 := ob_wR o33 e58
  have o41 := ob_wR o41 e58
  have o49 := ob_wR o49 e58
  have o57 := ob_wR o57 e58
  intro x61 e60
  have h := h x61 e60
  intro x63 e62
  have h := h x63 e62
  have n64 := k8_nf K e60
  have K := k8_W K e60 e62
  have o6 := gr_ob (gr_of_new e62 e60) o6
  have o9 := gr_ob (gr_of_new e62 e60) o9
  have o17 := gr_ob (gr_of_new e62 e60) o17
  have o25 := gr_ob (gr_of_new e62 e60) o25
  have o33 := gr_ob (gr_of_new e62 e60) o33
  have o41 := gr_ob (gr_of_new e62 e60) o41
  have o49 := gr_ob (gr_of_new e62 e60) o49
  have o57 := gr_ob (gr_of_new e62 e60) o57
  have o65 := ob_of_new e62
  intro x67 e66
  have h := h x67 e66
  have K := k8_S K e66 o9 n64 (by decide)
  have o6 := ob_wR o6 e66
  have o9 := ob_wR o9 e66
  have o17 := ob_wR o17 e66
  have o25 := ob_wR o25 e66
  have o33 := ob_wR o33 e66
  have o41 := ob_wR o41 e66
  have o49 := ob_wR o49 e66
  have o57 := ob_wR o57 e66
  have o65 := ob_wR o65 e66
  exact ⟨h, K⟩
theorem kx_X7_makeRows {Q : HS → Prop} {v0 : Nat} {S : HS} (h : P_X7_makeRows v0 Q S) : P_X7_makeRows v0 (fun T => Q T ∧ K8 S T) S := kx_X7_makeRows_0 h (k8_rf S)
set_option maxRecDepth 20000 in
set_option maxHeartbeats 1000000 in
theorem kx_X7_meanFrom_0 {Q : Int64 → HS → Prop} {v0 : Nat} {v1 : Int32} {v2 : Int32} {S0 S : HS} (h : P_X7_meanFrom_0 Q v0 v1 v2 S) (K : K8 S0 S) : P_X7_meanFrom_0 (fun r T => Q r T ∧ K8 S0 T) v0 v1 v2 S := by
  delta P_X7_meanFrom_0 at h ⊢
  obtain ⟨c1, h⟩ := h
  refine ⟨c1, ?_⟩
  have n2 := k8_nk K c1 (by decide)
  have o3 := c1
  refine cm_X7_keyOf (kx_X7_keyOf h) h (fun x4 x5 p7 h g6 => ?_)
  have h := h g6
  have K := k8_tr K p7.2
  have o3 := gr_ob p7.2.1 o3
  intro x9 e8
  have h := h x9 e8
  exact ⟨h, K⟩
theorem kx_X7_meanFrom {Q : Int64 → HS → Prop} {v0 : Nat} {v1 : Int32} {v2 : Int32} {S : HS} (h : P_X7_meanFrom v0 v1 v2 Q S) : P_X7_meanFrom v0 v1 v2 (fun r T => Q r T ∧ K8 S T) S := kx_X7_meanFrom_0 h (k8_rf S)
set_option maxRecDepth 20000 in
set_option maxHeartbeats 1000000 in
theorem kx_X8_hasPlace_0 {Q : Int32 → HS → Prop} {v0 : Nat} {v1 : Int32} {S0 S : HS} (h : P_X8_hasPlace_0 Q v0 v1 S) (K : K8 S0 S) : P_X8_hasPlace_0 (fun r T => Q r T ∧ K8 S0 T) v0 v1 S := by
  delta P_X8_hasPlace_0 at h ⊢
  refine ⟨?_, ?_⟩
  · intro c1
    have h := h.1 c1
    exact ⟨h, K⟩
  · intro c2
    have h := h.2 c2
    obtain ⟨c3, h⟩ := h
    refine ⟨c3, ?_⟩
    have n4 := k8_nk K c3 (by decide)
    have o5 := c3
    intro x7 e6
    have h := h x7 e6
    refine ⟨?_, ?_⟩
    · intro c8
      have h := h.1 c8
      exact ⟨h, K⟩
    · intro c9
      have h := h.2 c9
      obtain ⟨b10, e11, h⟩ := h
      refine ⟨b10, e11, ?_⟩
      have n12 := k8_nr K e11 o5 (by decide)
      obtain ⟨c13, h⟩ := h
      refine ⟨c13, ?_⟩
      refine ⟨?_, ?_⟩
      · intro c14
        have h := h.1 c14
        exact ⟨h, K⟩
      · intro c15
        have h := h.2 c15
        exact ⟨h, K⟩
theorem kx_X8_hasPlace {Q : Int32 → HS → Prop} {v0 : Nat} {v1 : Int32} {S : HS} (h : P_X8_hasPlace v0 v1 Q S) : P_X8_hasPlace v0 v1 (fun r T => Q r T ∧ K8 S T) S := kx_X8_hasPlace_0 h (k8_rf S)
set_option maxRecDepth 20000 in
set_option maxHeartbeats 1000000 in
theorem kx_X8_canWait_0 {Q : Int32 → HS → Prop} {v0 : Nat} {v1 : Int32} {S0 S : HS} (h : P_X8_canWait_0 Q v0 v1 S) (K : K8 S0 S) : P_X8_canWait_0 (fun r T => Q r T ∧ K8 S0 T) v0 v1 S := by
  delta P_X8_canWait_0 at h ⊢
  obtain ⟨c1, h⟩ := h
  refine ⟨c1, ?_⟩
  have n2 := k8_nk K c1 (by decide)
  have o3 := c1
  refine cm_X8_hasPlace (kx_X8_hasPlace h) h (fun x4 x5 p8 h g6 g7 => ?_)
  have h := h g6 g7
  have K := k8_tr K p8.2
  have o3 := gr_ob p8.2.1 o3
  refine ⟨?_, ?_⟩
  · intro c9
    have h := h.1 c9
    exact ⟨h, K⟩
  · intro c10
    have h := h.2 c10
    obtain ⟨b11, e12, h⟩ := h
    refine ⟨b11, e12, ?_⟩
    have n13 := k8_nr K e12 o3 (by decide)
    obtain ⟨c14, h⟩ := h
    refine ⟨c14, ?_⟩
    obtain ⟨c15, h⟩ := h
    refine ⟨c15, ?_⟩
    intro x17 e16
    have h := h x17 e16
    refine ⟨?_, ?_⟩
    · intro c18
      have h := h.1 c18
      exact ⟨h, K⟩
    · intro c19
      have h := h.2 c19
      exact ⟨h, K⟩
theorem kx_X8_canWait {Q : Int32 → HS → Prop} {v0 : Nat} {v1 : Int32} {S : HS} (h : P_X8_canWait v0 v1 Q S) : P_X8_canWait v0 v1 (fun r T => Q r T ∧ K8 S T) S := kx_X8_canWait_0 h (k8_rf S)
set_option maxRecDepth 20000 in
set_option maxHeartbeats 1000000 in
theorem kx_X8_dripOn_0 {Q : Int32 → HS → Prop} {v0 : Nat} {v1 : Nat} {v2 : Int32} {S0 S : HS} (h : P_X8_dripOn_0 Q v0 v1 v2 S) (K : K8 S0 S) : P_X8_dripOn_0 (fun r T => Q r T ∧ K8 S0 T) v0 v1 v2 S := by
  delta P_X8_dripOn_0 at h ⊢
  obtain ⟨c1, h⟩ := h
  refine ⟨c1, ?_⟩
  have n2 := k8_nk K c1 (by decide)
  have o3 := c1
  refine cm_X8_canWait (kx_X8_canWait h) h (fun x4 x5 p8 h g6 g7 => ?_)
  have h := h g6 g7
  have K := k8_tr K p8.2
  have o3 := gr_ob p8.2.1 o3
  refine ⟨?_, ?_⟩
  · intro c9
    have h := h.1 c9
    exact ⟨h, K⟩
  · intro c10
    have h := h.2 c10
    obtain ⟨b11, e12, h⟩ := h
    refine ⟨b11, e12, ?_⟩
    have n13 := k8_nr K e12 o3 (by decide)
    obtain ⟨c14, h⟩ := h
    refine ⟨c14, ?_⟩
    obtain ⟨c15, h⟩ := h
    refine ⟨c15, ?_⟩
    intro x17 e16
    have h := h x17 e16
    obtain ⟨c18, h⟩ := h
    refine ⟨c18, ?_⟩
    have n19 := k8_nk K c18 (by decide)
    intro x21 e20
    have h := h x21 e20
    refine cm_X6_shield (kx_X6_shield h) h (fun x22 x23 p25 h g24 => ?_)
    have h := h g24
    have K := k8_tr K p25.2
    have o3 := gr_ob p25.2.1 o3
    intro x27 e26
    have h := h x27 e26
    exact ⟨h, K⟩
theorem kx_X8_dripOn {Q : Int32 → HS → Prop} {v0 : Nat} {v1 : Nat} {v2 : Int32} {S : HS} (h : P_X8_dripOn v0 v1 v2 Q S) : P_X8_dripOn v0 v1 v2 (fun r T => Q r T ∧ K8 S T) S := kx_X8_dripOn_0 h (k8_rf S)
set_option maxRecDepth 20000 in
set_option maxHeartbeats 1000000 in
theorem kx_X8_hasHour_0 {Q : Int32 → HS → Prop} {v0 : Nat} {v1 : Int32} {S0 S : HS} (h : P_X8_hasHour_0 Q v0 v1 S) (K : K8 S0 S) : P_X8_hasHour_0 (fun r T => Q r T ∧ K8 S0 T) v0 v1 S := by
  delta P_X8_hasHour_0 at h ⊢
  refine ⟨?_, ?_⟩
  · intro c1
    have h := h.1 c1
    exact ⟨h, K⟩
  · intro c2
    have h := h.2 c2
    obtain ⟨c3, h⟩ := h
    refine ⟨c3, ?_⟩
    have n4 := k8_nk K c3 (by decide)
    have o5 := c3
    intro x7 e6
    have h := h x7 e6
    refine ⟨?_, ?_⟩
    · intro c8
      have h := h.1 c8
      exact ⟨h, K⟩
    · intro c9
      have h := h.2 c9
      obtain ⟨b10, e11, h⟩ := h
      refine ⟨b10, e11, ?_⟩
      obtain ⟨c12, h⟩ := h
      refine ⟨c12, ?_⟩
      have n13 := k8_nk K c12 (by decide)
      refine ⟨?_, ?_⟩
      · intro c14
        have h := h.1 c14
        exact ⟨h, K⟩
      · intro c15
        have h := h.2 c15
        exact ⟨h, K⟩
theorem kx_X8_hasHour {Q : Int32 → HS → Prop} {v0 : Nat} {v1 : Int32} {S : HS} (h : P_X8_hasHour v0 v1 Q S) : P_X8_hasHour v0 v1 (fun r T => Q r T ∧ K8 S T) S := kx_X8_hasHour_0 h (k8_rf S)
set_option maxRecDepth 20000 in
set_option maxHeartbeats 1000000 in
theorem kx_X7_price_134 {Q : HS → Prop} {X51 X51_2 : Nat → Nat → Nat → Int32 → Nat → Int32 → Int32 → HS → Prop} {X86 X86_2 : Nat → Nat → Nat → Int32 → Nat → Int32 → Int32 → Nat → Int32 → Int32 → HS → Prop} {v0 : Nat} {v1 : Nat} {v2 : Nat} {v3 : Int32} {v4 : Nat} {v5 : Int32} {v6 : Int32} {v7 : Nat} {v8 : Int32} {v9 : Int32} {s0 : Int64} {S0 S : HS} (h : P_X7_price_134 Q X51 X86 v0 v1 v2 v3 v4 v5 v6 v7 v8 v9 s0 S) (K : K8 S0 S) (hX51 : ∀ (u0 : Nat) (u1 : Nat) (u2 : Nat) (u3 : Int32) (u4 : Nat) (u5 : Int32) (u6 : Int32) (u7 : HS), X51 u0 u1 u2 u3 u4 u5 u6 u7 → K8 S0 u7 → X51_2 u0 u1 u2 u3 u4 u5 u6 u7) (hX86 : ∀ (u0 : Nat) (u1 : Nat) (u2 : Nat) (u3 : Int32) (u4 : Nat) (u5 : Int32) (u6 : Int32) (u7 : Nat) (u8 : Int32) (u9 : Int32) (u10 : HS), X86 u0 u1 u2 u3 u4 u5 u6 u7 u8 u9 u10 → K8 S0 u10 → X86_2 u0 u1 u2 u3 u4 u5 u6 u7 u8 u9 u10) : P_X7_price_134 (fun T => Q T ∧ K8 S0 T) X51_2 X86_2 v0 v1 v2 v3 v4 v5 v6 v7 v8 v9 s0 S := by
  delta P_X7_price_134 at h ⊢
  intro x2 e1
  have h := h x2 e1
  obtain ⟨c3, h⟩ := h
  refine ⟨c3, ?_⟩
  have n4 := k8_nk K c3 (by decide)
  have o5 := c3
  refine cm_X7_addLeg (kx_X7_addLeg h) h (fun x6 p8 h g7 => ?_)
  have h := h g7
  have K := k8_tr K p8.2
  have o5 := gr_ob p8.2.1 o5
  intro x10 e9
  have h := h x10 e9
  exact hX86 _ _ _ _ _ _ _ _ _ _ _ h K
set_option maxRecDepth 20000 in
set_option maxHeartbeats 1000000 in
theorem kxB_X7_price_86 {Q : HS → Prop} {X51 X51_2 : Nat → Nat → Nat → Int32 → Nat → Int32 → Int32 → HS → Prop} {X86 X86_2 : Nat → Nat → Nat → Int32 → Nat → Int32 → Int32 → Nat → Int32 → Int32 → HS → Prop} {v0 : Nat} {v1 : Nat} {v2 : Nat} {v3 : Int32} {v4 : Nat} {v5 : Int32} {v6 : Int32} {v7 : Nat} {v8 : Int32} {v9 : Int32} {S0 S : HS} (h : B_X7_price_86 Q X51 X86 v0 v1 v2 v3 v4 v5 v6 v7 v8 v9 S) (K : K8 S0 S) (hX51 : ∀ (u0 : Nat) (u1 : Nat) (u2 : Nat) (u3 : Int32) (u4 : Nat) (u5 : Int32) (u6 : Int32) (u7 : HS), X51 u0 u1 u2 u3 u4 u5 u6 u7 → K8 S0 u7 → X51_2 u0 u1 u2 u3 u4 u5 u6 u7) (hX86 : ∀ (u0 : Nat) (u1 : Nat) (u2 : Nat) (u3 : Int32) (u4 : Nat) (u5 : Int32) (u6 : Int32) (u7 : Nat) (u8 : Int32) (u9 : Int32) (u10 : HS), X86 u0 u1 u2 u3 u4 u5 u6 u7 u8 u9 u10 → K8 S0 u10 → X86_2 u0 u1 u2 u3 u4 u5 u6 u7 u8 u9 u10) : B_X7_price_86 (fun T => Q T ∧ K8 S0 T) X51_2 X86_2 v0 v1 v2 v3 v4 v5 v6 v7 v8 v9 S := by
  delta B_X7_price_86 at h ⊢
  obtain ⟨c1, h⟩ := h
  refine ⟨c1, ?_⟩
  have n2 := k8_nk K c1 (by decide)
  intro x4 e3
  have h := h x4 e3
  refine ⟨?_, ?_⟩
  · intro c5
    have h := h.1 c5
    intro x7 e6
    have h := h x7 e6
    exact hX51 _ _ _ _ _ _ _ _ h K
  · intro c8
    have h := h.2 c8
    refine ⟨?_, ?_⟩
    · intro c9
      have h := h.1 c9
      obtain ⟨c10, h⟩ := h
      refine ⟨c10, ?_⟩
      have n11 := k8_nk K c10 (by decide)
      have o12 := c10
      obtain ⟨b13, e14, h⟩ := h
      refine ⟨b13, e14, ?_⟩
      obtain ⟨c15, h⟩ := h
      refine ⟨c15, ?_⟩
      have n16 := k8_nk K c15 (by decide)
      obtain ⟨c17, h⟩ := h
      refine ⟨c17, ?_⟩
      obtain ⟨b18, e19, h⟩ := h
      refine ⟨b18, e19, ?_⟩
      obtain ⟨c20, h⟩ := h
      refine ⟨c20, ?_⟩
      have n21 := k8_nk K c20 (by decide)
      refine cm_X1_wetOf (kx_X1_wetOf h) h (fun x22 x23 p25 h g24 => ?_)
      have h := h g24
      have K := k8_tr K p25.2
      have o12 := gr_ob p25.2.1 o12
      obtain ⟨b26, e27, h⟩ := h
      refine ⟨b26, e27, ?_⟩
      obtain ⟨c28, h⟩ := h
      refine ⟨c28, ?_⟩
      have n29 := k8_nk K c28 (by decide)
      obtain ⟨c30, h⟩ := h
      refine ⟨c30, ?_⟩
      obtain ⟨b31, e32, h⟩ := h
      refine ⟨b31, e32, ?_⟩
      obtain ⟨c33, h⟩ := h
      refine ⟨c33, ?_⟩
      have n34 := k8_nk K c33 (by decide)
      intro x36 e35
      have h := h x36 e35
      exact kx_X7_price_134 h K hX51 hX86
    · intro c37
      have h := h.2 c37
      exact kx_X7_price_134 h K hX51 hX86
theorem kx_X7_price_86 {Q : HS → Prop} {X51 X51_2 : Nat → Nat → Nat → Int32 → Nat → Int32 → Int32 → HS → Prop} {v0 : Nat} {v1 : Nat} {v2 : Nat} {v3 : Int32} {v4 : Nat} {v5 : Int32} {v6 : Int32} {v7 : Nat} {v8 : Int32} {v9 : Int32} {S0 S : HS} (h : P_X7_price_86 Q X51 v0 v1 v2 v3 v4 v5 v6 v7 v8 v9 S) (K : K8 S0 S) (hX51 : ∀ (u0 : Nat) (u1 : Nat) (u2 : Nat) (u3 : Int32) (u4 : Nat) (u5 : Int32) (u6 : Int32) (u7 : HS), X51 u0 u1 u2 u3 u4 u5 u6 u7 → K8 S0 u7 → X51_2 u0 u1 u2 u3 u4 u5 u6 u7) : P_X7_price_86 (fun T => Q T ∧ K8 S0 T) X51_2 v0 v1 v2 v3 v4 v5 v6 v7 v8 v9 S := h (fun v0 v1 v2 v3 v4 v5 v6 v7 v8 v9 S => K8 S0 S → P_X7_price_86 (fun T => Q T ∧ K8 S0 T) X51_2 v0 v1 v2 v3 v4 v5 v6 v7 v8 v9 S) (fun v0 v1 v2 v3 v4 v5 v6 v7 v8 v9 S hB K => fd_X7_price_86 (kxB_X7_price_86 hB K hX51 (fun _ _ _ _ _ _ _ _ _ _ _ hx K => hx K))) K
set_option maxRecDepth 20000 in
set_option maxHeartbeats 1000000 in
theorem kx_X7_price_245 {Q : HS → Prop} {X179 X179_2 : Nat → Nat → Int32 → Nat → Int32 → Int32 → HS → Prop} {v0 : Nat} {v1 : Nat} {v3 : Int32} {v4 : Nat} {v5 : Int32} {v6 : Int32} {S0 S : HS} (h : P_X7_price_245 Q X179 v0 v1 v3 v4 v5 v6 S) (K : K8 S0 S) (hX179 : ∀ (u0 : Nat) (u1 : Nat) (u2 : Int32) (u3 : Nat) (u4 : Int32) (u5 : Int32) (u6 : HS), X179 u0 u1 u2 u3 u4 u5 u6 → K8 S0 u6 → X179_2 u0 u1 u2 u3 u4 u5 u6) : P_X7_price_245 (fun T => Q T ∧ K8 S0 T) X179_2 v0 v1 v3 v4 v5 v6 S := by
  delta P_X7_price_245 at h ⊢
  intro x2 e1
  have h := h x2 e1
  exact hX179 _ _ _ _ _ _ _ h K
set_option maxRecDepth 20000 in
set_option maxHeartbeats 1000000 in
theorem kx_X7_price_230 {Q : HS → Prop} {X179 X179_2 : Nat → Nat → Int32 → Nat → Int32 → Int32 → HS → Prop} {v0 : Nat} {v1 : Nat} {v3 : Int32} {v4 : Nat} {v5 : Int32} {v6 : Int32} {s0 : Int64} {S0 S : HS} (h : P_X7_price_230 Q X179 v0 v1 v3 v4 v5 v6 s0 S) (K : K8 S0 S) (hX179 : ∀ (u0 : Nat) (u1 : Nat) (u2 : Int32) (u3 : Nat) (u4 : Int32) (u5 : Int32) (u6 : HS), X179 u0 u1 u2 u3 u4 u5 u6 → K8 S0 u6 → X179_2 u0 u1 u2 u3 u4 u5 u6) : P_X7_price_230 (fun T => Q T ∧ K8 S0 T) X179_2 v0 v1 v3 v4 v5 v6 s0 S := by
  delta P_X7_price_230 at h ⊢
  obtain ⟨c1, h⟩ := h
  refine ⟨c1, ?_⟩
  have n2 := k8_nk K c1 (by decide)
  have o3 := c1
  refine cm_X7_addMove (kx_X7_addMove h) h (fun x4 p6 h g5 => ?_)
  have h := h g5
  have K := k8_tr K p6.2
  have o3 := gr_ob p6.2.1 o3
  exact kx_X7_price_245 h K hX179
set_option maxRecDepth 20000 in
set_option maxHeartbeats 1000000 in
theorem kxB_X7_price_179 {Q : HS → Prop} {X179 X179_2 : Nat → Nat → Int32 → Nat → Int32 → Int32 → HS → Prop} {v0 : Nat} {v1 : Nat} {v3 : Int32} {v4 : Nat} {v5 : Int32} {v6 : Int32} {S0 S : HS} (h : B_X7_price_179 Q X179 v0 v1 v3 v4 v5 v6 S) (K : K8 S0 S) (hX179 : ∀ (u0 : Nat) (u1 : Nat) (u2 : Int32) (u3 : Nat) (u4 : Int32) (u5 : Int32) (u6 : HS), X179 u0 u1 u2 u3 u4 u5 u6 → K8 S0 u6 → X179_2 u0 u1 u2 u3 u4 u5 u6) : B_X7_price_179 (fun T => Q T ∧ K8 S0 T) X179_2 v0 v1 v3 v4 v5 v6 S := by
  delta B_X7_price_179 at h ⊢
  obtain ⟨c1, h⟩ := h
  refine ⟨c1, ?_⟩
  have n2 := k8_nk K c1 (by decide)
  have o3 := c1
  intro x5 e4
  have h := h x5 e4
  refine ⟨?_, ?_⟩
  · intro c6
    have h := h.1 c6
    exact ⟨h, K⟩
  · intro c7
    have h := h.2 c7
    refine cm_X8_canWait (kx_X8_canWait h) h (fun x8 x9 p12 h g10 g11 => ?_)
    have h := h g10 g11
    have K := k8_tr K p12.2
    have o3 := gr_ob p12.2.1 o3
    refine ⟨?_, ?_⟩
    · intro c13
      have h := h.1 c13
      exact kx_X7_price_245 h K hX179
    · intro c14
      have h := h.2 c14
      refine ⟨?_, ?_⟩
      · intro c15
        have h := h.1 c15
        refine cm_X8_dripOn (kx_X8_dripOn h) h (fun x16 x17 p19 h g18 => ?_)
        have h := h g18
        have K := k8_tr K p19.2
        have o3 := gr_ob p19.2.1 o3
        obtain ⟨b20, e21, h⟩ := h
        refine ⟨b20, e21, ?_⟩
        obtain ⟨c22, h⟩ := h
        refine ⟨c22, ?_⟩
        have n23 := k8_nk K c22 (by decide)
        obtain ⟨c24, h⟩ := h
        refine ⟨c24, ?_⟩
        obtain ⟨b25, e26, h⟩ := h
        refine ⟨b25, e26, ?_⟩
        obtain ⟨c27, h⟩ := h
        refine ⟨c27, ?_⟩
        have n28 := k8_nk K c27 (by decide)
        intro x30 e29
        have h := h x30 e29
        exact kx_X7_price_230 h K hX179
      · intro c31
        have h := h.2 c31
        exact kx_X7_price_230 h K hX179
theorem kx_X7_price_179 {Q : HS → Prop} {v0 : Nat} {v1 : Nat} {v3 : Int32} {v4 : Nat} {v5 : Int32} {v6 : Int32} {S0 S : HS} (h : P_X7_price_179 Q v0 v1 v3 v4 v5 v6 S) (K : K8 S0 S) : P_X7_price_179 (fun T => Q T ∧ K8 S0 T) v0 v1 v3 v4 v5 v6 S := h (fun v0 v1 v3 v4 v5 v6 S => K8 S0 S → P_X7_price_179 (fun T => Q T ∧ K8 S0 T) v0 v1 v3 v4 v5 v6 S) (fun v0 v1 v3 v4 v5 v6 S hB K => fd_X7_price_179 (kxB_X7_price_179 hB K (fun _ _ _ _ _ _ _ hx K => hx K))) K
set_option maxRecDepth 20000 in
set_option maxHeartbeats 1000000 in
theorem kxB_X7_price_51 {Q : HS → Prop} {X51 X51_2 : Nat → Nat → Nat → Int32 → Nat → Int32 → Int32 → HS → Prop} {v0 : Nat} {v1 : Nat} {v2 : Nat} {v3 : Int32} {v4 : Nat} {v5 : Int32} {v6 : Int32} {S0 S : HS} (h : B_X7_price_51 Q X51 v0 v1 v2 v3 v4 v5 v6 S) (K : K8 S0 S) (hX51 : ∀ (u0 : Nat) (u1 : Nat) (u2 : Nat) (u3 : Int32) (u4 : Nat) (u5 : Int32) (u6 : Int32) (u7 : HS), X51 u0 u1 u2 u3 u4 u5 u6 u7 → K8 S0 u7 → X51_2 u0 u1 u2 u3 u4 u5 u6 u7) : B_X7_price_51 (fun T => Q T ∧ K8 S0 T) X51_2 v0 v1 v2 v3 v4 v5 v6 S := by
  delta B_X7_price_51 at h ⊢
  obtain ⟨c1, h⟩ := h
  refine ⟨c1, ?_⟩
  have n2 := k8_nk K c1 (by decide)
  have o3 := c1
  intro x5 e4
  have h := h x5 e4
  refine ⟨?_, ?_⟩
  · intro c6
    have h := h.1 c6
    exact kx_X7_price_179 h K
  · intro c7
    have h := h.2 c7
    obtain ⟨b8, e9, h⟩ := h
    refine ⟨b8, e9, ?_⟩
    intro x11 e10
    have h := h x11 e10
    obtain ⟨c12, h⟩ := h
    refine ⟨c12, ?_⟩
    have n13 := k8_nk K c12 (by decide)
    obtain ⟨c14, h⟩ := h
    refine ⟨c14, ?_⟩
    obtain ⟨b15, e16, h⟩ := h
    refine ⟨b15, e16, ?_⟩
    intro x18 e17
    have h := h x18 e17
    obtain ⟨c19, h⟩ := h
    refine ⟨c19, ?_⟩
    have n20 := k8_nk K c19 (by decide)
    intro x22 e21
    have h := h x22 e21
    exact kx_X7_price_86 h K hX51
theorem kx_X7_price_51 {Q : HS → Prop} {v0 : Nat} {v1 : Nat} {v2 : Nat} {v3 : Int32} {v4 : Nat} {v5 : Int32} {v6 : Int32} {S0 S : HS} (h : P_X7_price_51 Q v0 v1 v2 v3 v4 v5 v6 S) (K : K8 S0 S) : P_X7_price_51 (fun T => Q T ∧ K8 S0 T) v0 v1 v2 v3 v4 v5 v6 S := h (fun v0 v1 v2 v3 v4 v5 v6 S => K8 S0 S → P_X7_price_51 (fun T => Q T ∧ K8 S0 T) v0 v1 v2 v3 v4 v5 v6 S) (fun v0 v1 v2 v3 v4 v5 v6 S hB K => fd_X7_price_51 (kxB_X7_price_51 hB K (fun _ _ _ _ _ _ _ _ hx K => hx K))) K
set_option maxRecDepth 20000 in
set_option maxHeartbeats 1000000 in
theorem kx_X7_price_46 {Q : HS → Prop} {v0 : Nat} {v1 : Nat} {v2 : Nat} {v3 : Int32} {v4 : Nat} {s0 : Int32} {S0 S : HS} (h : P_X7_price_46 Q v0 v1 v2 v3 v4 s0 S) (K : K8 S0 S) : P_X7_price_46 (fun T => Q T ∧ K8 S0 T) v0 v1 v2 v3 v4 s0 S := by
  delta P_X7_price_46 at h ⊢
  exact kx_X7_price_51 h K
set_option maxRecDepth 20000 in
set_option maxHeartbeats 1000000 in
theorem kx_X7_price_0 {Q : HS → Prop} {v0 : Nat} {v1 : Nat} {v2 : Nat} {v3 : Int32} {S0 S : HS} (h : P_X7_price_0 Q v0 v1 v2 v3 S) (K : K8 S0 S) : P_X7_price_0 (fun T => Q T ∧ K8 S0 T) v0 v1 v2 v3 S := by
  delta P_X7_price_0 at h ⊢
  obtain ⟨c1, h⟩ := h
  refine ⟨c1, ?_⟩
  have n2 := k8_nk K c1 (by decide)
  have o3 := c1
  intro x5 e4
  have h := h x5 e4
  have K := k8_I K e4 n2
  have o3 := ob_wI o3 e4
  intro x7 e6
  have h := h x7 e6
  have K := k8_I K e6 n2
  have o3 := ob_wI o3 e6
  intro x9 e8
  have h := h x9 e8
  obtain ⟨c10, h⟩ := h
  refine ⟨c10, ?_⟩
  have n11 := k8_nk K c10 (by decide)
  have o12 := c10
  refine cm_X8_hasWalker (kx_X8_hasWalker h) h (fun x13 x14 p17 h g15 g16 => ?_)
  have h := h g15 g16
  have K := k8_tr K p17.2
  have o3 := gr_ob p17.2.1 o3
  have o12 := gr_ob p17.2.1 o12
  refine ⟨?_, ?_⟩
  · intro c18
    have h := h.1 c18
    obtain ⟨b19, e20, h⟩ := h
    refine ⟨b19, e20, ?_⟩
    intro x22 e21
    have h := h x22 e21
    obtain ⟨c23, h⟩ := h
    refine ⟨c23, ?_⟩
    have n24 := k8_nk K c23 (by decide)
    obtain ⟨c25, h⟩ := h
    refine ⟨c25, ?_⟩
    obtain ⟨b26, e27, h⟩ := h
    refine ⟨b26, e27, ?_⟩
    refine cm_X8_hasHour (kx_X8_hasHour h) h (fun x28 x29 p32 h g30 g31 => ?_)
    have h := h g30 g31
    have K := k8_tr K p32.2
    have o3 := gr_ob p32.2.1 o3
    have o12 := gr_ob p32.2.1 o12
    refine ⟨?_, ?_⟩
    · intro c33
      have h := h.1 c33
      exact kx_X7_price_46 h K
    · intro c34
      have h := h.2 c34
      exact kx_X7_price_46 h K
  · intro c35
    have h := h.2 c35
    exact ⟨h, K⟩
theorem kx_X7_price {Q : HS → Prop} {v0 : Nat} {v1 : Nat} {v2 : Nat} {v3 : Int32} {S : HS} (h : P_X7_price v0 v1 v2 v3 Q S) : P_X7_price v0 v1 v2 v3 (fun T => Q T ∧ K8 S T) S := kx_X7_price_0 h (k8_rf S)
set_option maxRecDepth 20000 in
set_option maxHeartbeats 1000000 in
theorem kx_X7_reckonMinute_40 {Q : HS → Prop} {X2 X2_2 : Nat → Int32 → Int32 → Int32 → HS → Prop} {v0 : Nat} {v1 : Int32} {v2 : Int32} {v3 : Int32} {s0 : Nat} {s1 : Int32} {s2 : Int64} {S0 S : HS} (h : P_X7_reckonMinute_40 Q X2 v0 v1 v2 v3 s0 s1 s2 S) (K : K8 S0 S) (hX2 : ∀ (u0 : Nat) (u1 : Int32) (u2 : Int32) (u3 : Int32) (u4 : HS), X2 u0 u1 u2 u3 u4 → K8 S0 u4 → X2_2 u0 u1 u2 u3 u4) : P_X7_reckonMinute_40 (fun T => Q T ∧ K8 S0 T) X2_2 v0 v1 v2 v3 s0 s1 s2 S := by
  delta P_X7_reckonMinute_40 at h ⊢
  obtain ⟨c1, h⟩ := h
  refine ⟨c1, ?_⟩
  have n2 := k8_nk K c1 (by decide)
  obtain ⟨c3, h⟩ := h
  refine ⟨c3, ?_⟩
  intro x5 e4
  have h := h x5 e4
  have K := k8_J K e4
  obtain ⟨c6, h⟩ := h
  refine ⟨c6, ?_⟩
  have n7 := k8_nk K c6 (by decide)
  have o8 := c6
  obtain ⟨b9, e10, h⟩ := h
  refine ⟨b9, e10, ?_⟩
  have n11 := k8_nr K e10 o8 (by decide)
  obtain ⟨c12, h⟩ := h
  refine ⟨c12, ?_⟩
  obtain ⟨c13, h⟩ := h
  refine ⟨c13, ?_⟩
  intro x15 e14
  have h := h x15 e14
  have K := k8_I K e14 n11
  have o8 := ob_wI o8 e14
  intro x17 e16
  have h := h x17 e16
  exact hX2 _ _ _ _ _ h K
set_option maxRecDepth 20000 in
set_option maxHeartbeats 1000000 in
theorem kx_X7_reckonMinute_219 {Q : HS → Prop} {X62 X62_2 : Nat → Int32 → Int32 → HS → Prop} {v0 : Nat} {v2 : Int32} {v3 : Int32} {S0 S : HS} (h : P_X7_reckonMinute_219 Q X62 v0 v2 v3 S) (K : K8 S0 S) (hX62 : ∀ (u0 : Nat) (u1 : Int32) (u2 : Int32) (u3 : HS), X62 u0 u1 u2 u3 → K8 S0 u3 → X62_2 u0 u1 u2 u3) : P_X7_reckonMinute_219 (fun T => Q T ∧ K8 S0 T) X62_2 v0 v2 v3 S := by
  delta P_X7_reckonMinute_219 at h ⊢
  intro x2 e1
  have h := h x2 e1
  exact hX62 _ _ _ _ h K
set_option maxRecDepth 20000 in
set_option maxHeartbeats 1000000 in
theorem kx_X7_reckonMinute_117 {Q : HS → Prop} {X62 X62_2 : Nat → Int32 → Int32 → HS → Prop} {v0 : Nat} {v2 : Int32} {v3 : Int32} {v4 : Int32} {v5 : Int32} {s0 : Int32} {S0 S : HS} (h : P_X7_reckonMinute_117 Q X62 v0 v2 v3 v4 v5 s0 S) (K : K8 S0 S) (hX62 : ∀ (u0 : Nat) (u1 : Int32) (u2 : Int32) (u3 : HS), X62 u0 u1 u2 u3 → K8 S0 u3 → X62_2 u0 u1 u2 u3) : P_X7_reckonMinute_117 (fun T => Q T ∧ K8 S0 T) X62_2 v0 v2 v3 v4 v5 s0 S := by
  delta P_X7_reckonMinute_117 at h ⊢
  refine ⟨?_, ?_⟩
  · intro c1
    have h := h.1 c1
    exact kx_X7_reckonMinute_219 h K hX62
  · intro c2
    have h := h.2 c2
    refine ⟨?_, ?_⟩
    · intro c3
      have h := h.1 c3
      exact kx_X7_reckonMinute_219 h K hX62
    · intro c4
      have h := h.2 c4
      obtain ⟨c5, h⟩ := h
      refine ⟨c5, ?_⟩
      have n6 := k8_nk K c5 (by decide)
      have o7 := c5
      obtain ⟨b8, e9, h⟩ := h
      refine ⟨b8, e9, ?_⟩
      obtain ⟨c10, h⟩ := h
      refine ⟨c10, ?_⟩
      have n11 := k8_nk K c10 (by decide)
      refine ⟨?_, ?_⟩
      · intro c12
        have h := h.1 c12
        exact kx_X7_reckonMinute_219 h K hX62
      · intro c13
        have h := h.2 c13
        refine ⟨?_, ?_⟩
        · intro c14
          have h := h.1 c14
          exact kx_X7_reckonMinute_219 h K hX62
        · intro c15
          have h := h.2 c15
          obtain ⟨b16, e17, h⟩ := h
          refine ⟨b16, e17, ?_⟩
          obtain ⟨c18, h⟩ := h
          refine ⟨c18, ?_⟩
          have n19 := k8_nk K c18 (by decide)
          refine ⟨?_, ?_⟩
          · intro c20
            have h := h.1 c20
            exact kx_X7_reckonMinute_219 h K hX62
          · intro c21
            have h := h.2 c21
            obtain ⟨b22, e23, h⟩ := h
            refine ⟨b22, e23, ?_⟩
            obtain ⟨c24, h⟩ := h
            refine ⟨c24, ?_⟩
            have n25 := k8_nk K c24 (by decide)
            obtain ⟨c26, h⟩ := h
            refine ⟨c26, ?_⟩
            intro x28 e27
            have h := h x28 e27
            refine ⟨?_, ?_⟩
            · intro c29
              have h := h.1 c29
              exact kx_X7_reckonMinute_219 h K hX62
            · intro c30
              have h := h.2 c30
              obtain ⟨b31, e32, h⟩ := h
              refine ⟨b31, e32, ?_⟩
              obtain ⟨c33, h⟩ := h
              refine ⟨c33, ?_⟩
              have n34 := k8_nk K c33 (by decide)
              obtain ⟨c35, h⟩ := h
              refine ⟨c35, ?_⟩
              intro x37 e36
              have h := h x37 e36
              obtain ⟨b38, e39, h⟩ := h
              refine ⟨b38, e39, ?_⟩
              obtain ⟨c40, h⟩ := h
              refine ⟨c40, ?_⟩
              have n41 := k8_nk K c40 (by decide)
              obtain ⟨c42, h⟩ := h
              refine ⟨c42, ?_⟩
              intro x44 e43
              have h := h x44 e43
              intro x46 e45
              have h := h x46 e45
              obtain ⟨b47, e48, h⟩ := h
              refine ⟨b47, e48, ?_⟩
              obtain ⟨c49, h⟩ := h
              refine ⟨c49, ?_⟩
              have n50 := k8_nk K c49 (by decide)
              obtain ⟨c51, h⟩ := h
              refine ⟨c51, ?_⟩
              intro x53 e52
              have h := h x53 e52
              refine ⟨?_, ?_⟩
              · intro c54
                have h := h.1 c54
                exact kx_X7_reckonMinute_219 h K hX62
              · intro c55
                have h := h.2 c55
                obtain ⟨b56, e57, h⟩ := h
                refine ⟨b56, e57, ?_⟩
                obtain ⟨c58, h⟩ := h
                refine ⟨c58, ?_⟩
                have n59 := k8_nk K c58 (by decide)
                obtain ⟨c60, h⟩ := h
                refine ⟨c60, ?_⟩
                intro x62 e61
                have h := h x62 e61
                have K := k8_J K e61
                have o7 := ob_wJ o7 e61
                obtain ⟨b63, e64, h⟩ := h
                refine ⟨b63, e64, ?_⟩
                have n65 := k8_nr K e64 o7 (by decide)
                obtain ⟨b66, e67, h⟩ := h
                refine ⟨b66, e67, ?_⟩
                have n68 := k8_nr K e67 o7 (by decide)
                obtain ⟨c69, h⟩ := h
                refine ⟨c69, ?_⟩
                obtain ⟨c70, h⟩ := h
                refine ⟨c70, ?_⟩
                intro x72 e71
                have h := h x72 e71
                obtain ⟨c73, h⟩ := h
                refine ⟨c73, ?_⟩
                obtain ⟨c74, h⟩ := h
                refine ⟨c74, ?_⟩
                intro x76 e75
                have h := h x76 e75
                have K := k8_I K e75 n65
                have o7 := ob_wI o7 e75
                exact kx_X7_reckonMinute_219 h K hX62
set_option maxRecDepth 20000 in
set_option maxHeartbeats 1000000 in
theorem kxB_X7_reckonMinute_62 {Q : HS → Prop} {X62 X62_2 : Nat → Int32 → Int32 → HS → Prop} {v0 : Nat} {v2 : Int32} {v3 : Int32} {S0 S : HS} (h : B_X7_reckonMinute_62 Q X62 v0 v2 v3 S) (K : K8 S0 S) (hX62 : ∀ (u0 : Nat) (u1 : Int32) (u2 : Int32) (u3 : HS), X62 u0 u1 u2 u3 → K8 S0 u3 → X62_2 u0 u1 u2 u3) : B_X7_reckonMinute_62 (fun T => Q T ∧ K8 S0 T) X62_2 v0 v2 v3 S := by
  delta B_X7_reckonMinute_62 at h ⊢
  obtain ⟨c1, h⟩ := h
  refine ⟨c1, ?_⟩
  have n2 := k8_nk K c1 (by decide)
  have o3 := c1
  intro x5 e4
  have h := h x5 e4
  refine ⟨?_, ?_⟩
  · intro c6
    have h := h.1 c6
    exact ⟨h, K⟩
  · intro c7
    have h := h.2 c7
    refine ⟨?_, ?_⟩
    · intro c8
      have h := h.1 c8
      exact ⟨h, K⟩
    · intro c9
      have h := h.2 c9
      obtain ⟨b10, e11, h⟩ := h
      refine ⟨b10, e11, ?_⟩
      have n12 := k8_nr K e11 o3 (by decide)
      obtain ⟨c13, h⟩ := h
      refine ⟨c13, ?_⟩
      obtain ⟨c14, h⟩ := h
      refine ⟨c14, ?_⟩
      intro x16 e15
      have h := h x16 e15
      intro x18 e17
      have h := h x18 e17
      obtain ⟨b19, e20, h⟩ := h
      refine ⟨b19, e20, ?_⟩
      have n21 := k8_nr K e20 o3 (by decide)
      obtain ⟨c22, h⟩ := h
      refine ⟨c22, ?_⟩
      obtain ⟨c23, h⟩ := h
      refine ⟨c23, ?_⟩
      intro x25 e24
      have h := h x25 e24
      intro x27 e26
      have h := h x27 e26
      obtain ⟨b28, e29, h⟩ := h
      refine ⟨b28, e29, ?_⟩
      have n30 := k8_nr K e29 o3 (by decide)
      obtain ⟨c31, h⟩ := h
      refine ⟨c31, ?_⟩
      obtain ⟨c32, h⟩ := h
      refine ⟨c32, ?_⟩
      intro x34 e33
      have h := h x34 e33
      intro x36 e35
      have h := h x36 e35
      refine ⟨?_, ?_⟩
      · intro c37
        have h := h.1 c37
        exact kx_X7_reckonMinute_117 h K hX62
      · intro c38
        have h := h.2 c38
        exact kx_X7_reckonMinute_117 h K hX62
theorem kx_X7_reckonMinute_62 {Q : HS → Prop} {v0 : Nat} {v2 : Int32} {v3 : Int32} {S0 S : HS} (h : P_X7_reckonMinute_62 Q v0 v2 v3 S) (K : K8 S0 S) : P_X7_reckonMinute_62 (fun T => Q T ∧ K8 S0 T) v0 v2 v3 S := h (fun v0 v2 v3 S => K8 S0 S → P_X7_reckonMinute_62 (fun T => Q T ∧ K8 S0 T) v0 v2 v3 S) (fun v0 v2 v3 S hB K => fd_X7_reckonMinute_62 (kxB_X7_reckonMinute_62 hB K (fun _ _ _ _ hx K => hx K))) K
set_option maxRecDepth 20000 in
set_option maxHeartbeats 1000000 in
theorem kx_X7_reckonMinute_60 {Q : HS → Prop} {v0 : Nat} {v2 : Int32} {S0 S : HS} (h : P_X7_reckonMinute_60 Q v0 v2 S) (K : K8 S0 S) : P_X7_reckonMinute_60 (fun T => Q T ∧ K8 S0 T) v0 v2 S := by
  delta P_X7_reckonMinute_60 at h ⊢
  exact kx_X7_reckonMinute_62 h K
set_option maxRecDepth 20000 in
set_option maxHeartbeats 1000000 in
theorem kxB_X7_reckonMinute_2 {Q : HS → Prop} {X2 X2_2 : Nat → Int32 → Int32 → Int32 → HS → Prop} {v0 : Nat} {v1 : Int32} {v2 : Int32} {v3 : Int32} {S0 S : HS} (h : B_X7_reckonMinute_2 Q X2 v0 v1 v2 v3 S) (K : K8 S0 S) (hX2 : ∀ (u0 : Nat) (u1 : Int32) (u2 : Int32) (u3 : Int32) (u4 : HS), X2 u0 u1 u2 u3 u4 → K8 S0 u4 → X2_2 u0 u1 u2 u3 u4) : B_X7_reckonMinute_2 (fun T => Q T ∧ K8 S0 T) X2_2 v0 v1 v2 v3 S := by
  delta B_X7_reckonMinute_2 at h ⊢
  refine ⟨?_, ?_⟩
  · intro c1
    have h := h.1 c1
    exact kx_X7_reckonMinute_60 h K
  · intro c2
    have h := h.2 c2
    refine ⟨?_, ?_⟩
    · intro c3
      have h := h.1 c3
      exact kx_X7_reckonMinute_60 h K
    · intro c4
      have h := h.2 c4
      obtain ⟨c5, h⟩ := h
      refine ⟨c5, ?_⟩
      have n6 := k8_nk K c5 (by decide)
      have o7 := c5
      obtain ⟨b8, e9, h⟩ := h
      refine ⟨b8, e9, ?_⟩
      intro x11 e10
      have h := h x11 e10
      refine ⟨?_, ?_⟩
      · intro c12
        have h := h.1 c12
        exact kx_X7_reckonMinute_40 h K hX2
      · intro c13
        have h := h.2 c13
        exact kx_X7_reckonMinute_40 h K hX2
theorem kx_X7_reckonMinute_2 {Q : HS → Prop} {v0 : Nat} {v1 : Int32} {v2 : Int32} {v3 : Int32} {S0 S : HS} (h : P_X7_reckonMinute_2 Q v0 v1 v2 v3 S) (K : K8 S0 S) : P_X7_reckonMinute_2 (fun T => Q T ∧ K8 S0 T) v0 v1 v2 v3 S := h (fun v0 v1 v2 v3 S => K8 S0 S → P_X7_reckonMinute_2 (fun T => Q T ∧ K8 S0 T) v0 v1 v2 v3 S) (fun v0 v1 v2 v3 S hB K => fd_X7_reckonMinute_2 (kxB_X7_reckonMinute_2 hB K (fun _ _ _ _ _ hx K => hx K))) K
set_option maxRecDepth 20000 in
set_option maxHeartbeats 1000000 in
theorem kx_X7_reckonMinute_0 {Q : HS → Prop} {v0 : Nat} {v1 : Int32} {v2 : Int32} {S0 S : HS} (h : P_X7_reckonMinute_0 Q v0 v1 v2 S) (K : K8 S0 S) : P_X7_reckonMinute_0 (fun T => Q T ∧ K8 S0 T) v0 v1 v2 S := by
  delta P_X7_reckonMinute_0 at h ⊢
  exact kx_X7_reckonMinute_2 h K
theorem kx_X7_reckonMinute {Q : HS → Prop} {v0 : Nat} {v1 : Int32} {v2 : Int32} {S : HS} (h : P_X7_reckonMinute v0 v1 v2 Q S) : P_X7_reckonMinute v0 v1 v2 (fun T => Q T ∧ K8 S T) S := kx_X7_reckonMinute_0 h (k8_rf S)
set_option maxRecDepth 20000 in
set_option maxHeartbeats 1000000 in
theorem kx_X8_hourOf_0 {Q : Int32 → HS → Prop} {v0 : Nat} {v1 : Int32} {S0 S : HS} (h : P_X8_hourOf_0 Q v0 v1 S) (K : K8 S0 S) : P_X8_hourOf_0 (fun r T => Q r T ∧ K8 S0 T) v0 v1 S := by
  delta P_X8_hourOf_0 at h ⊢
  obtain ⟨c1, h⟩ := h
  refine ⟨c1, ?_⟩
  have n2 := k8_nk K c1 (by decide)
  have o3 := c1
  intro x5 e4
  have h := h x5 e4
  refine ⟨?_, ?_⟩
  · intro c6
    have h := h.1 c6
    exact ⟨h, K⟩
  · intro c7
    have h := h.2 c7
    intro x9 e8
    have h := h x9 e8
    obtain ⟨c10, h⟩ := h
    refine ⟨c10, ?_⟩
    intro x12 e11
    have h := h x12 e11
    exact ⟨h, K⟩
theorem kx_X8_hourOf {Q : Int32 → HS → Prop} {v0 : Nat} {v1 : Int32} {S : HS} (h : P_X8_hourOf v0 v1 Q S) : P_X8_hourOf v0 v1 (fun r T => Q r T ∧ K8 S T) S := kx_X8_hourOf_0 h (k8_rf S)
set_option maxRecDepth 20000 in
set_option maxHeartbeats 1000000 in
theorem kx_X7_reckon_120 {Q : HS → Prop} {X76 X76_2 : Nat → Nat → Nat → Int32 → Int32 → HS → Prop} {v0 : Nat} {v1 : Nat} {v2 : Nat} {v6 : Int32} {v7 : Int32} {S0 S : HS} (h : P_X7_reckon_120 Q X76 v0 v1 v2 v6 v7 S) (K : K8 S0 S) (hX76 : ∀ (u0 : Nat) (u1 : Nat) (u2 : Nat) (u3 : Int32) (u4 : Int32) (u5 : HS), X76 u0 u1 u2 u3 u4 u5 → K8 S0 u5 → X76_2 u0 u1 u2 u3 u4 u5) : P_X7_reckon_120 (fun T => Q T ∧ K8 S0 T) X76_2 v0 v1 v2 v6 v7 S := by
  delta P_X7_reckon_120 at h ⊢
  obtain ⟨c1, h⟩ := h
  refine ⟨c1, ?_⟩
  have n2 := k8_nk K c1 (by decide)
  have o3 := c1
  intro x5 e4
  have h := h x5 e4
  obtain ⟨c6, h⟩ := h
  refine ⟨c6, ?_⟩
  have n7 := k8_nk K c6 (by decide)
  have o8 := c6
  refine cm_X7_reckonMinute (kx_X7_reckonMinute h) h (fun x9 p11 h g10 => ?_)
  have h := h g10
  have K := k8_tr K p11.2
  have o3 := gr_ob p11.2.1 o3
  have o8 := gr_ob p11.2.1 o8
  intro x13 e12
  have h := h x13 e12
  have K := k8_I K e12 n7
  have o3 := ob_wI o3 e12
  have o8 := ob_wI o8 e12
  intro x15 e14
  have h := h x15 e14
  exact hX76 _ _ _ _ _ _ h K
set_option maxRecDepth 20000 in
set_option maxHeartbeats 1000000 in
theorem kxB_X7_reckon_76 {Q : HS → Prop} {X76 X76_2 : Nat → Nat → Nat → Int32 → Int32 → HS → Prop} {v0 : Nat} {v1 : Nat} {v2 : Nat} {v6 : Int32} {v7 : Int32} {S0 S : HS} (h : B_X7_reckon_76 Q X76 v0 v1 v2 v6 v7 S) (K : K8 S0 S) (hX76 : ∀ (u0 : Nat) (u1 : Nat) (u2 : Nat) (u3 : Int32) (u4 : Int32) (u5 : HS), X76 u0 u1 u2 u3 u4 u5 → K8 S0 u5 → X76_2 u0 u1 u2 u3 u4 u5) : B_X7_reckon_76 (fun T => Q T ∧ K8 S0 T) X76_2 v0 v1 v2 v6 v7 S := by
  delta B_X7_reckon_76 at h ⊢
  refine ⟨?_, ?_⟩
  · intro c1
    have h := h.1 c1
    exact ⟨h, K⟩
  · intro c2
    have h := h.2 c2
    refine ⟨?_, ?_⟩
    · intro c3
      have h := h.1 c3
      exact ⟨h, K⟩
    · intro c4
      have h := h.2 c4
      obtain ⟨c5, h⟩ := h
      refine ⟨c5, ?_⟩
      have n6 := k8_nk K c5 (by decide)
      have o7 := c5
      refine cm_X8_hourOf (kx_X8_hourOf h) h (fun x8 x9 p11 h g10 => ?_)
      have h := h g10
      have K := k8_tr K p11.2
      have o7 := gr_ob p11.2.1 o7
      intro x13 e12
      have h := h x13 e12
      intro x15 e14
      have h := h x15 e14
      obtain ⟨c16, h⟩ := h
      refine ⟨c16, ?_⟩
      have n17 := k8_nk K c16 (by decide)
      have o18 := c16
      intro x20 e19
      have h := h x20 e19
      refine ⟨?_, ?_⟩
      · intro c21
        have h := h.1 c21
        exact kx_X7_reckon_120 h K hX76
      · intro c22
        have h := h.2 c22
        refine cm_X7_price (kx_X7_price h) h (fun x23 p25 h g24 => ?_)
        have h := h g24
        have K := k8_tr K p25.2
        have o7 := gr_ob p25.2.1 o7
        have o18 := gr_ob p25.2.1 o18
        exact kx_X7_reckon_120 h K hX76
theorem kx_X7_reckon_76 {Q : HS → Prop} {v0 : Nat} {v1 : Nat} {v2 : Nat} {v6 : Int32} {v7 : Int32} {S0 S : HS} (h : P_X7_reckon_76 Q v0 v1 v2 v6 v7 S) (K : K8 S0 S) : P_X7_reckon_76 (fun T => Q T ∧ K8 S0 T) v0 v1 v2 v6 v7 S := h (fun v0 v1 v2 v6 v7 S => K8 S0 S → P_X7_reckon_76 (fun T => Q T ∧ K8 S0 T) v0 v1 v2 v6 v7 S) (fun v0 v1 v2 v6 v7 S hB K => fd_X7_reckon_76 (kxB_X7_reckon_76 hB K (fun _ _ _ _ _ _ hx K => hx K))) K
set_option maxRecDepth 20000 in
set_option maxHeartbeats 1000000 in
theorem kx_X7_reckon_68 {Q : HS → Prop} {v0 : Nat} {v1 : Nat} {v2 : Nat} {v6 : Int32} {S0 S : HS} (h : P_X7_reckon_68 Q v0 v1 v2 v6 S) (K : K8 S0 S) : P_X7_reckon_68 (fun T => Q T ∧ K8 S0 T) v0 v1 v2 v6 S := by
  delta P_X7_reckon_68 at h ⊢
  obtain ⟨c1, h⟩ := h
  refine ⟨c1, ?_⟩
  have n2 := k8_nk K c1 (by decide)
  have o3 := c1
  intro x5 e4
  have h := h x5 e4
  intro x7 e6
  have h := h x7 e6
  exact kx_X7_reckon_76 h K
set_option maxRecDepth 20000 in
set_option maxHeartbeats 1000000 in
theorem kx_X7_reckon_38 {Q : HS → Prop} {v0 : Nat} {v1 : Nat} {v2 : Nat} {v3 : Int32} {v4 : Int32} {v5 : Int32} {v6 : Int32} {S0 S : HS} (h : P_X7_reckon_38 Q v0 v1 v2 v3 v4 v5 v6 S) (K : K8 S0 S) : P_X7_reckon_38 (fun T => Q T ∧ K8 S0 T) v0 v1 v2 v3 v4 v5 v6 S := by
  delta P_X7_reckon_38 at h ⊢
  obtain ⟨c1, h⟩ := h
  refine ⟨c1, ?_⟩
  have n2 := k8_nk K c1 (by decide)
  have o3 := c1
  intro x5 e4
  have h := h x5 e4
  have K := k8_I K e4 n2
  have o3 := ob_wI o3 e4
  intro x7 e6
  have h := h x7 e6
  have K := k8_I K e6 n2
  have o3 := ob_wI o3 e6
  intro x9 e8
  have h := h x9 e8
  have K := k8_I K e8 n2
  have o3 := ob_wI o3 e8
  intro x11 e10
  have h := h x11 e10
  intro x13 e12
  have h := h x13 e12
  have K := k8_I K e12 n2
  have o3 := ob_wI o3 e12
  intro x15 e14
  have h := h x15 e14
  have K := k8_I K e14 n2
  have o3 := ob_wI o3 e14
  exact kx_X7_reckon_68 h K
set_option maxRecDepth 20000 in
set_option maxHeartbeats 1000000 in
theorem kx_X7_reckon_12 {Q : HS → Prop} {v0 : Nat} {v1 : Nat} {v2 : Nat} {v3 : Int32} {v4 : Int32} {v5 : Int32} {v6 : Int32} {S0 S : HS} (h : P_X7_reckon_12 Q v0 v1 v2 v3 v4 v5 v6 S) (K : K8 S0 S) : P_X7_reckon_12 (fun T => Q T ∧ K8 S0 T) v0 v1 v2 v3 v4 v5 v6 S := by
  delta P_X7_reckon_12 at h ⊢
  obtain ⟨c1, h⟩ := h
  refine ⟨c1, ?_⟩
  have n2 := k8_nk K c1 (by decide)
  have o3 := c1
  intro x5 e4
  have h := h x5 e4
  refine ⟨?_, ?_⟩
  · intro c6
    have h := h.1 c6
    exact kx_X7_reckon_38 h K
  · intro c7
    have h := h.2 c7
    intro x9 e8
    have h := h x9 e8
    refine ⟨?_, ?_⟩
    · intro c10
      have h := h.1 c10
      exact kx_X7_reckon_38 h K
    · intro c11
      have h := h.2 c11
      intro x13 e12
      have h := h x13 e12
      refine ⟨?_, ?_⟩
      · intro c14
        have h := h.1 c14
        exact kx_X7_reckon_68 h K
      · intro c15
        have h := h.2 c15
        exact kx_X7_reckon_38 h K
set_option maxRecDepth 20000 in
set_option maxHeartbeats 1000000 in
theorem kx_X7_reckon_0 {Q : HS → Prop} {v0 : Nat} {v1 : Nat} {v2 : Nat} {v3 : Int32} {v4 : Int32} {v5 : Int32} {v6 : Int32} {S0 S : HS} (h : P_X7_reckon_0 Q v0 v1 v2 v3 v4 v5 v6 S) (K : K8 S0 S) : P_X7_reckon_0 (fun T => Q T ∧ K8 S0 T) v0 v1 v2 v3 v4 v5 v6 S := by
  delta P_X7_reckon_0 at h ⊢
  obtain ⟨c1, h⟩ := h
  refine ⟨c1, ?_⟩
  have n2 := k8_nk K c1 (by decide)
  have o3 := c1
  obtain ⟨b4, e5, h⟩ := h
  refine ⟨b4, e5, ?_⟩
  obtain ⟨c6, h⟩ := h
  refine ⟨c6, ?_⟩
  have n7 := k8_nk K c6 (by decide)
  refine ⟨?_, ?_⟩
  · intro c8
    have h := h.1 c8
    exact kx_X7_reckon_12 h K
  · intro c9
    have h := h.2 c9
    refine cm_X7_makeRows (kx_X7_makeRows h) h (fun x10 p12 h g11 => ?_)
    have h := h g11
    have K := k8_tr K p12.2
    have o3 := gr_ob p12.2.1 o3
    exact kx_X7_reckon_12 h K
theorem kx_X7_reckon {Q : HS → Prop} {v0 : Nat} {v1 : Nat} {v2 : Nat} {v3 : Int32} {v4 : Int32} {v5 : Int32} {v6 : Int32} {S : HS} (h : P_X7_reckon v0 v1 v2 v3 v4 v5 v6 Q S) : P_X7_reckon v0 v1 v2 v3 v4 v5 v6 (fun T => Q T ∧ K8 S T) S := kx_X7_reckon_0 h (k8_rf S)
set_option maxRecDepth 20000 in
set_option maxHeartbeats 1000000 in
theorem kx_X7_trace_143 {Q : Int32 → HS → Prop} {X9 X9_2 : Nat → Nat → Int32 → Int32 → Int32 → HS → Prop} {v0 : Nat} {v1 : Nat} {v4 : Int32} {v5 : Int32} {v6 : Int32} {S0 S : HS} (h : P_X7_trace_143 Q X9 v0 v1 v4 v5 v6 S) (K : K8 S0 S) (hX9 : ∀ (u0 : Nat) (u1 : Nat) (u2 : Int32) (u3 : Int32) (u4 : Int32) (u5 : HS), X9 u0 u1 u2 u3 u4 u5 → K8 S0 u5 → X9_2 u0 u1 u2 u3 u4 u5) : P_X7_trace_143 (fun r T => Q r T ∧ K8 S0 T) X9_2 v0 v1 v4 v5 v6 S := by
  delta P_X7_trace_143 at h ⊢
  intro x2 e1
  have h := h x2 e1
  exact hX9 _ _ _ _ _ _ h K
set_option maxRecDepth 20000 in
set_option maxHeartbeats 1000000 in
theorem kx_X7_trace_56 {Q : Int32 → HS → Prop} {X9 X9_2 : Nat → Nat → Int32 → Int32 → Int32 → HS → Prop} {v0 : Nat} {v1 : Nat} {v4 : Int32} {v5 : Int32} {v6 : Int32} {s0 : Int32} {S0 S : HS} (h : P_X7_trace_56 Q X9 v0 v1 v4 v5 v6 s0 S) (K : K8 S0 S) (hX9 : ∀ (u0 : Nat) (u1 : Nat) (u2 : Int32) (u3 : Int32) (u4 : Int32) (u5 : HS), X9 u0 u1 u2 u3 u4 u5 → K8 S0 u5 → X9_2 u0 u1 u2 u3 u4 u5) : P_X7_trace_56 (fun r T => Q r T ∧ K8 S0 T) X9_2 v0 v1 v4 v5 v6 s0 S := by
  delta P_X7_trace_56 at h ⊢
  refine ⟨?_, ?_⟩
  · intro c1
    have h := h.1 c1
    obtain ⟨c2, h⟩ := h
    refine ⟨c2, ?_⟩
    have n3 := k8_nk K c2 (by decide)
    have o4 := c2
    obtain ⟨b5, e6, h⟩ := h
    refine ⟨b5, e6, ?_⟩
    have n7 := k8_nr K e6 o4 (by decide)
    obtain ⟨c8, h⟩ := h
    refine ⟨c8, ?_⟩
    obtain ⟨c9, h⟩ := h
    refine ⟨c9, ?_⟩
    intro x11 e10
    have h := h x11 e10
    have K := k8_I K e10 n7
    have o4 := ob_wI o4 e10
    refine ⟨?_, ?_⟩
    · intro c12
      have h := h.1 c12
      intro x14 e13
      have h := h x14 e13
      obtain ⟨c15, h⟩ := h
      refine ⟨c15, ?_⟩
      have n16 := k8_nk K c15 (by decide)
      have o17 := c15
      refine cm_X8_hasRoad (kx_X8_hasRoad h) h (fun x18 x19 p22 h g20 g21 => ?_)
      have h := h g20 g21
      have K := k8_tr K p22.2
      have o4 := gr_ob p22.2.1 o4
      have o17 := gr_ob p22.2.1 o17
      refine ⟨?_, ?_⟩
      · intro c23
        have h := h.1 c23
        exact kx_X7_trace_143 h K hX9
      · intro c24
        have h := h.2 c24
        obtain ⟨b25, e26, h⟩ := h
        refine ⟨b25, e26, ?_⟩
        intro x28 e27
        have h := h x28 e27
        obtain ⟨c29, h⟩ := h
        refine ⟨c29, ?_⟩
        have n30 := k8_nk K c29 (by decide)
        obtain ⟨c31, h⟩ := h
        refine ⟨c31, ?_⟩
        obtain ⟨b32, e33, h⟩ := h
        refine ⟨b32, e33, ?_⟩
        intro x35 e34
        have h := h x35 e34
        intro x37 e36
        have h := h x37 e36
        obtain ⟨c38, h⟩ := h
        refine ⟨c38, ?_⟩
        have n39 := k8_nk K c38 (by decide)
        refine cm_X5_endOf (kx_X5_endOf h) h (fun x40 x41 p43 h g42 => ?_)
        have h := h g42
        have K := k8_tr K p43.2
        have o4 := gr_ob p43.2.1 o4
        have o17 := gr_ob p43.2.1 o17
        intro x45 e44
        have h := h x45 e44
        refine cm_X5_minutesAt (kx_X5_minutesAt h) h (fun x46 x47 p49 h g48 => ?_)
        have h := h g48
        have K := k8_tr K p49.2
        have o4 := gr_ob p49.2.1 o4
        have o17 := gr_ob p49.2.1 o17
        intro x51 e50
        have h := h x51 e50
        exact kx_X7_trace_143 h K hX9
    · intro c52
      have h := h.2 c52
      intro x54 e53
      have h := h x54 e53
      exact kx_X7_trace_143 h K hX9
  · intro c55
    have h := h.2 c55
    exact ⟨h, K⟩
set_option maxRecDepth 20000 in
set_option maxHeartbeats 1000000 in
theorem kx_X7_trace_55 {Q : Int32 → HS → Prop} {X9 X9_2 : Nat → Nat → Int32 → Int32 → Int32 → HS → Prop} {v0 : Nat} {v1 : Nat} {v4 : Int32} {v5 : Int32} {v6 : Int32} {S0 S : HS} (h : P_X7_trace_55 Q X9 v0 v1 v4 v5 v6 S) (K : K8 S0 S) (hX9 : ∀ (u0 : Nat) (u1 : Nat) (u2 : Int32) (u3 : Int32) (u4 : Int32) (u5 : HS), X9 u0 u1 u2 u3 u4 u5 → K8 S0 u5 → X9_2 u0 u1 u2 u3 u4 u5) : P_X7_trace_55 (fun r T => Q r T ∧ K8 S0 T) X9_2 v0 v1 v4 v5 v6 S := by
  delta P_X7_trace_55 at h ⊢
  exact kx_X7_trace_56 h K hX9
set_option maxRecDepth 20000 in
set_option maxHeartbeats 1000000 in
theorem kxB_X7_trace_9 {Q : Int32 → HS → Prop} {X9 X9_2 : Nat → Nat → Int32 → Int32 → Int32 → HS → Prop} {v0 : Nat} {v1 : Nat} {v4 : Int32} {v5 : Int32} {v6 : Int32} {S0 S : HS} (h : B_X7_trace_9 Q X9 v0 v1 v4 v5 v6 S) (K : K8 S0 S) (hX9 : ∀ (u0 : Nat) (u1 : Nat) (u2 : Int32) (u3 : Int32) (u4 : Int32) (u5 : HS), X9 u0 u1 u2 u3 u4 u5 → K8 S0 u5 → X9_2 u0 u1 u2 u3 u4 u5) : B_X7_trace_9 (fun r T => Q r T ∧ K8 S0 T) X9_2 v0 v1 v4 v5 v6 S := by
  delta B_X7_trace_9 at h ⊢
  obtain ⟨c1, h⟩ := h
  refine ⟨c1, ?_⟩
  have n2 := k8_nk K c1 (by decide)
  have o3 := c1
  obtain ⟨b4, e5, h⟩ := h
  refine ⟨b4, e5, ?_⟩
  have n6 := k8_nr K e5 o3 (by decide)
  obtain ⟨c7, h⟩ := h
  refine ⟨c7, ?_⟩
  refine ⟨?_, ?_⟩
  · intro c8
    have h := h.1 c8
    obtain ⟨b9, e10, h⟩ := h
    refine ⟨b9, e10, ?_⟩
    have n11 := k8_nr K e10 o3 (by decide)
    obtain ⟨c12, h⟩ := h
    refine ⟨c12, ?_⟩
    exact ⟨h, K⟩
  · intro c13
    have h := h.2 c13
    intro x15 e14
    have h := h x15 e14
    refine ⟨?_, ?_⟩
    · intro c16
      have h := h.1 c16
      exact kx_X7_trace_55 h K hX9
    · intro c17
      have h := h.2 c17
      obtain ⟨b18, e19, h⟩ := h
      refine ⟨b18, e19, ?_⟩
      have n20 := k8_nr K e19 o3 (by decide)
      obtain ⟨c21, h⟩ := h
      refine ⟨c21, ?_⟩
      refine ⟨?_, ?_⟩
      · intro c22
        have h := h.1 c22
        exact kx_X7_trace_55 h K hX9
      · intro c23
        have h := h.2 c23
        obtain ⟨b24, e25, h⟩ := h
        refine ⟨b24, e25, ?_⟩
        have n26 := k8_nr K e25 o3 (by decide)
        obtain ⟨c27, h⟩ := h
        refine ⟨c27, ?_⟩
        obtain ⟨c28, h⟩ := h
        refine ⟨c28, ?_⟩
        intro x30 e29
        have h := h x30 e29
        exact kx_X7_trace_56 h K hX9
theorem kx_X7_trace_9 {Q : Int32 → HS → Prop} {v0 : Nat} {v1 : Nat} {v4 : Int32} {v5 : Int32} {v6 : Int32} {S0 S : HS} (h : P_X7_trace_9 Q v0 v1 v4 v5 v6 S) (K : K8 S0 S) : P_X7_trace_9 (fun r T => Q r T ∧ K8 S0 T) v0 v1 v4 v5 v6 S := h (fun v0 v1 v4 v5 v6 S => K8 S0 S → P_X7_trace_9 (fun r T => Q r T ∧ K8 S0 T) v0 v1 v4 v5 v6 S) (fun v0 v1 v4 v5 v6 S hB K => fd_X7_trace_9 (kxB_X7_trace_9 hB K (fun _ _ _ _ _ _ hx K => hx K))) K
set_option maxRecDepth 20000 in
set_option maxHeartbeats 1000000 in
theorem kx_X7_trace_0 {Q : Int32 → HS → Prop} {v0 : Nat} {v1 : Nat} {v2 : Int32} {v3 : Int32} {S0 S : HS} (h : P_X7_trace_0 Q v0 v1 v2 v3 S) (K : K8 S0 S) : P_X7_trace_0 (fun r T => Q r T ∧ K8 S0 T) v0 v1 v2 v3 S := by
  delta P_X7_trace_0 at h ⊢
  exact kx_X7_trace_9 h K
theorem kx_X7_trace {Q : Int32 → HS → Prop} {v0 : Nat} {v1 : Nat} {v2 : Int32} {v3 : Int32} {S : HS} (h : P_X7_trace v0 v1 v2 v3 Q S) : P_X7_trace v0 v1 v2 v3 (fun r T => Q r T ∧ K8 S T) S := kx_X7_trace_0 h (k8_rf S)
set_option maxRecDepth 20000 in
set_option maxHeartbeats 1000000 in
theorem kx_X9_grant_0 {Q : Int32 → HS → Prop} {v0 : Nat} {v1 : Int32} {S0 S : HS} (h : P_X9_grant_0 Q v0 v1 S) (K : K8 S0 S) : P_X9_grant_0 (fun r T => Q r T ∧ K8 S0 T) v0 v1 S := by
  delta P_X9_grant_0 at h ⊢
  obtain ⟨c1, h⟩ := h
  refine ⟨c1, ?_⟩
  have n2 := k8_nk K c1 (by decide)
  intro x4 e3
  have h := h x4 e3
  have K := k8_I K e3 n2
  exact ⟨h, K⟩
theorem kx_X9_grant {Q : Int32 → HS → Prop} {v0 : Nat} {v1 : Int32} {S : HS} (h : P_X9_grant v0 v1 Q S) : P_X9_grant v0 v1 (fun r T => Q r T ∧ K8 S T) S := kx_X9_grant_0 h (k8_rf S)
set_option maxRecDepth 20000 in
set_option maxHeartbeats 1000000 in
theorem kx_X9_isWay_0 {Q : Int32 → HS → Prop} {v0 : Int32} {S0 S : HS} (h : P_X9_isWay_0 Q v0 S) (K : K8 S0 S) : P_X9_isWay_0 (fun r T => Q r T ∧ K8 S0 T) v0 S := by
  delta P_X9_isWay_0 at h ⊢
  refine ⟨?_, ?_⟩
  · intro c1
    have h := h.1 c1
    exact ⟨h, K⟩
  · intro c2
    have h := h.2 c2
    refine ⟨?_, ?_⟩
    · intro c3
      have h := h.1 c3
      exact ⟨h, K⟩
    · intro c4
      have h := h.2 c4
      exact ⟨h, K⟩
theorem kx_X9_isWay {Q : Int32 → HS → Prop} {v0 : Int32} {S : HS} (h : P_X9_isWay v0 Q S) : P_X9_isWay v0 (fun r T => Q r T ∧ K8 S T) S := kx_X9_isWay_0 h (k8_rf S)
set_option maxRecDepth 20000 in
set_option maxHeartbeats 1000000 in
theorem kx_X9_air_0 {Q : Int32 → HS → Prop} {v0 : Nat} {v1 : Int32} {v2 : Int32} {v3 : Int32} {S0 S : HS} (h : P_X9_air_0 Q v0 v1 v2 v3 S) (K : K8 S0 S) : P_X9_air_0 (fun r T => Q r T ∧ K8 S0 T) v0 v1 v2 v3 S := by
  delta P_X9_air_0 at h ⊢
  obtain ⟨c1, h⟩ := h
  refine ⟨c1, ?_⟩
  have n2 := k8_nk K c1 (by decide)
  obtain ⟨b3, e4, h⟩ := h
  refine ⟨b3, e4, ?_⟩
  obtain ⟨c5, h⟩ := h
  refine ⟨c5, ?_⟩
  have n6 := k8_nk K c5 (by decide)
  have o7 := c5
  refine cm_X8_hasRoad (kx_X8_hasRoad h) h (fun x8 x9 p12 h g10 g11 => ?_)
  have h := h g10 g11
  have K := k8_tr K p12.2
  have o7 := gr_ob p12.2.1 o7
  refine ⟨?_, ?_⟩
  · intro c13
    have h := h.1 c13
    intro x15 e14
    have h := h x15 e14
    have K := k8_I K e14 n2
    have o7 := ob_wI o7 e14
    exact ⟨h, K⟩
  · intro c16
    have h := h.2 c16
    refine cm_X9_isWay (kx_X9_isWay h) h (fun x17 x18 p21 h g19 g20 => ?_)
    have h := h g19 g20
    have K := k8_tr K p21.2
    have o7 := gr_ob p21.2.1 o7
    refine ⟨?_, ?_⟩
    · intro c22
      have h := h.1 c22
      intro x24 e23
      have h := h x24 e23
      have K := k8_I K e23 n2
      have o7 := ob_wI o7 e23
      exact ⟨h, K⟩
    · intro c25
      have h := h.2 c25
      obtain ⟨b26, e27, h⟩ := h
      refine ⟨b26, e27, ?_⟩
      obtain ⟨c28, h⟩ := h
      refine ⟨c28, ?_⟩
      have n29 := k8_nk K c28 (by decide)
      have o30 := c28
      refine cm_X8_hasHour (kx_X8_hasHour h) h (fun x31 x32 p35 h g33 g34 => ?_)
      have h := h g33 g34
      have K := k8_tr K p35.2
      have o7 := gr_ob p35.2.1 o7
      have o30 := gr_ob p35.2.1 o30
      refine ⟨?_, ?_⟩
      · intro c36
        have h := h.1 c36
        obtain ⟨b37, e38, h⟩ := h
        refine ⟨b37, e38, ?_⟩
        obtain ⟨c39, h⟩ := h
        refine ⟨c39, ?_⟩
        have n40 := k8_nk K c39 (by decide)
        have o41 := c39
        obtain ⟨b42, e43, h⟩ := h
        refine ⟨b42, e43, ?_⟩
        obtain ⟨c44, h⟩ := h
        refine ⟨c44, ?_⟩
        have n45 := k8_nk K c44 (by decide)
        obtain ⟨c46, h⟩ := h
        refine ⟨c46, ?_⟩
        obtain ⟨b47, e48, h⟩ := h
        refine ⟨b47, e48, ?_⟩
        obtain ⟨b49, e50, h⟩ := h
        refine ⟨b49, e50, ?_⟩
        obtain ⟨c51, h⟩ := h
        refine ⟨c51, ?_⟩
        have n52 := k8_nk K c51 (by decide)
        have o53 := c51
        obtain ⟨b54, e55, h⟩ := h
        refine ⟨b54, e55, ?_⟩
        obtain ⟨c56, h⟩ := h
        refine ⟨c56, ?_⟩
        have n57 := k8_nk K c56 (by decide)
        obtain ⟨c58, h⟩ := h
        refine ⟨c58, ?_⟩
        obtain ⟨b59, e60, h⟩ := h
        refine ⟨b59, e60, ?_⟩
        obtain ⟨c61, h⟩ := h
        refine ⟨c61, ?_⟩
        have n62 := k8_nk K c61 (by decide)
        refine cm_X5_airAlong (kx_X5_airAlong h) h (fun x63 x64 p66 h g65 => ?_)
        have h := h g65
        have K := k8_tr K p66.2
        have o7 := gr_ob p66.2.1 o7
        have o30 := gr_ob p66.2.1 o30
        have o41 := gr_ob p66.2.1 o41
        have o53 := gr_ob p66.2.1 o53
        refine cm_X9_grant (kx_X9_grant h) h (fun x67 x68 p70 h g69 => ?_)
        have h := h g69
        have K := k8_tr K p70.2
        have o7 := gr_ob p70.2.1 o7
        have o30 := gr_ob p70.2.1 o30
        have o41 := gr_ob p70.2.1 o41
        have o53 := gr_ob p70.2.1 o53
        exact ⟨h, K⟩
      · intro c71
        have h := h.2 c71
        intro x73 e72
        have h := h x73 e72
        have K := k8_I K e72 n2
        have o7 := ob_wI o7 e72
        have o30 := ob_wI o30 e72
        exact ⟨h, K⟩
theorem kx_X9_air {Q : Int32 → HS → Prop} {v0 : Nat} {v1 : Int32} {v2 : Int32} {v3 : Int32} {S : HS} (h : P_X9_air v0 v1 v2 v3 Q S) : P_X9_air v0 v1 v2 v3 (fun r T => Q r T ∧ K8 S T) S := kx_X9_air_0 h (k8_rf S)
set_option maxRecDepth 20000 in
set_option maxHeartbeats 1000000 in
theorem kx_X9_refusedBy_0 {Q : Int32 → HS → Prop} {v0 : Nat} {v1 : Int32} {S0 S : HS} (h : P_X9_refusedBy_0 Q v0 v1 S) (K : K8 S0 S) : P_X9_refusedBy_0 (fun r T => Q r T ∧ K8 S0 T) v0 v1 S := by
  delta P_X9_refusedBy_0 at h ⊢
  obtain ⟨c1, h⟩ := h
  refine ⟨c1, ?_⟩
  have n2 := k8_nk K c1 (by decide)
  intro x4 e3
  have h := h x4 e3
  have K := k8_I K e3 n2
  refine ⟨?_, ?_⟩
  · intro c5
    have h := h.1 c5
    exact ⟨h, K⟩
  · intro c6
    have h := h.2 c6
    exact ⟨h, K⟩
theorem kx_X9_refusedBy {Q : Int32 → HS → Prop} {v0 : Nat} {v1 : Int32} {S : HS} (h : P_X9_refusedBy v0 v1 Q S) : P_X9_refusedBy v0 v1 (fun r T => Q r T ∧ K8 S T) S := kx_X9_refusedBy_0 h (k8_rf S)
set_option maxRecDepth 20000 in
set_option maxHeartbeats 1000000 in
theorem kx_X9_back_17 {Q : Int32 → HS → Prop} {s0 : Nat} {s1 : Int32} {S0 S : HS} (h : P_X9_back_17 Q s0 s1 S) (K : K8 S0 S) : P_X9_back_17 (fun r T => Q r T ∧ K8 S0 T) s0 s1 S := by
  delta P_X9_back_17 at h ⊢
  obtain ⟨c1, h⟩ := h
  refine ⟨c1, ?_⟩
  have n2 := k8_nk K c1 (by decide)
  refine cm_X9_refusedBy (kx_X9_refusedBy h) h (fun x3 x4 p7 h g5 g6 => ?_)
  have h := h g5 g6
  have K := k8_tr K p7.2
  refine ⟨?_, ?_⟩
  · intro c8
    have h := h.1 c8
    exact ⟨h, K⟩
  · intro c9
    have h := h.2 c9
    exact ⟨h, K⟩
set_option maxRecDepth 20000 in
set_option maxHeartbeats 1000000 in
theorem kx_X9_back_0 {Q : Int32 → HS → Prop} {v0 : Nat} {v1 : Int32} {S0 S : HS} (h : P_X9_back_0 Q v0 v1 S) (K : K8 S0 S) : P_X9_back_0 (fun r T => Q r T ∧ K8 S0 T) v0 v1 S := by
  delta P_X9_back_0 at h ⊢
  obtain ⟨c1, h⟩ := h
  refine ⟨c1, ?_⟩
  have n2 := k8_nk K c1 (by decide)
  obtain ⟨b3, e4, h⟩ := h
  refine ⟨b3, e4, ?_⟩
  obtain ⟨c5, h⟩ := h
  refine ⟨c5, ?_⟩
  have n6 := k8_nk K c5 (by decide)
  refine cm_X0_returnTo (kx_X0_returnTo h) h (fun x7 x8 p11 h g9 g10 => ?_)
  have h := h g9 g10
  have K := k8_tr K p11.2
  refine ⟨?_, ?_⟩
  · intro c12
    have h := h.1 c12
    exact kx_X9_back_17 h K
  · intro c13
    have h := h.2 c13
    exact kx_X9_back_17 h K
theorem kx_X9_back {Q : Int32 → HS → Prop} {v0 : Nat} {v1 : Int32} {S : HS} (h : P_X9_back v0 v1 Q S) : P_X9_back v0 v1 (fun r T => Q r T ∧ K8 S T) S := kx_X9_back_0 h (k8_rf S)
set_option maxRecDepth 20000 in
set_option maxHeartbeats 1000000 in
theorem kx_X9_tripTrouble_46 {Q : Int32 → HS → Prop} {s0 : Int32} {S0 S : HS} (h : P_X9_tripTrouble_46 Q s0 S) (K : K8 S0 S) : P_X9_tripTrouble_46 (fun r T => Q r T ∧ K8 S0 T) s0 S := by
  delta P_X9_tripTrouble_46 at h ⊢
  refine ⟨?_, ?_⟩
  · intro c1
    have h := h.1 c1
    exact ⟨h, K⟩
  · intro c2
    have h := h.2 c2
    exact ⟨h, K⟩
set_option maxRecDepth 20000 in
set_option maxHeartbeats 1000000 in
theorem kx_X9_tripTrouble_45 {Q : Int32 → HS → Prop} {S0 S : HS} (h : P_X9_tripTrouble_45 Q S) (K : K8 S0 S) : P_X9_tripTrouble_45 (fun r T => Q r T ∧ K8 S0 T) S := by
  delta P_X9_tripTrouble_45 at h ⊢
  exact kx_X9_tripTrouble_46 h K
set_option maxRecDepth 20000 in
set_option maxHeartbeats 1000000 in
theorem kx_X9_tripTrouble_0 {Q : Int32 → HS → Prop} {v0 : Nat} {v1 : Int32} {v2 : Int32} {v3 : Int32} {v4 : Int32} {S0 S : HS} (h : P_X9_tripTrouble_0 Q v0 v1 v2 v3 v4 S) (K : K8 S0 S) : P_X9_tripTrouble_0 (fun r T => Q r T ∧ K8 S0 T) v0 v1 v2 v3 v4 S := by
  delta P_X9_tripTrouble_0 at h ⊢
  obtain ⟨c1, h⟩ := h
  refine ⟨c1, ?_⟩
  have n2 := k8_nk K c1 (by decide)
  obtain ⟨b3, e4, h⟩ := h
  refine ⟨b3, e4, ?_⟩
  obtain ⟨c5, h⟩ := h
  refine ⟨c5, ?_⟩
  have n6 := k8_nk K c5 (by decide)
  have o7 := c5
  refine cm_X8_hasWalker (kx_X8_hasWalker h) h (fun x8 x9 p12 h g10 g11 => ?_)
  have h := h g10 g11
  have K := k8_tr K p12.2
  have o7 := gr_ob p12.2.1 o7
  refine ⟨?_, ?_⟩
  · intro c13
    have h := h.1 c13
    exact kx_X9_tripTrouble_45 h K
  · intro c14
    have h := h.2 c14
    obtain ⟨b15, e16, h⟩ := h
    refine ⟨b15, e16, ?_⟩
    obtain ⟨c17, h⟩ := h
    refine ⟨c17, ?_⟩
    have n18 := k8_nk K c17 (by decide)
    have o19 := c17
    refine cm_X8_hasRoad (kx_X8_hasRoad h) h (fun x20 x21 p24 h g22 g23 => ?_)
    have h := h g22 g23
    have K := k8_tr K p24.2
    have o7 := gr_ob p24.2.1 o7
    have o19 := gr_ob p24.2.1 o19
    refine ⟨?_, ?_⟩
    · intro c25
      have h := h.1 c25
      exact kx_X9_tripTrouble_45 h K
    · intro c26
      have h := h.2 c26
      refine cm_X9_isWay (kx_X9_isWay h) h (fun x27 x28 p31 h g29 g30 => ?_)
      have h := h g29 g30
      have K := k8_tr K p31.2
      have o7 := gr_ob p31.2.1 o7
      have o19 := gr_ob p31.2.1 o19
      refine ⟨?_, ?_⟩
      · intro c32
        have h := h.1 c32
        exact kx_X9_tripTrouble_45 h K
      · intro c33
        have h := h.2 c33
        obtain ⟨b34, e35, h⟩ := h
        refine ⟨b34, e35, ?_⟩
        obtain ⟨c36, h⟩ := h
        refine ⟨c36, ?_⟩
        have n37 := k8_nk K c36 (by decide)
        have o38 := c36
        refine cm_X8_hasHour (kx_X8_hasHour h) h (fun x39 x40 p43 h g41 g42 => ?_)
        have h := h g41 g42
        have K := k8_tr K p43.2
        have o7 := gr_ob p43.2.1 o7
        have o19 := gr_ob p43.2.1 o19
        have o38 := gr_ob p43.2.1 o38
        refine ⟨?_, ?_⟩
        · intro c44
          have h := h.1 c44
          exact kx_X9_tripTrouble_45 h K
        · intro c45
          have h := h.2 c45
          exact kx_X9_tripTrouble_46 h K
theorem kx_X9_tripTrouble {Q : Int32 → HS → Prop} {v0 : Nat} {v1 : Int32} {v2 : Int32} {v3 : Int32} {v4 : Int32} {S : HS} (h : P_X9_tripTrouble v0 v1 v2 v3 v4 Q S) : P_X9_tripTrouble v0 v1 v2 v3 v4 (fun r T => Q r T ∧ K8 S T) S := kx_X9_tripTrouble_0 h (k8_rf S)
set_option maxRecDepth 20000 in
set_option maxHeartbeats 1000000 in
theorem kx_X9_best_0 {Q : Int32 → HS → Prop} {v0 : Nat} {v1 : Int32} {v2 : Int32} {v3 : Int32} {v4 : Int32} {S0 S : HS} (h : P_X9_best_0 Q v0 v1 v2 v3 v4 S) (K : K8 S0 S) : P_X9_best_0 (fun r T => Q r T ∧ K8 S0 T) v0 v1 v2 v3 v4 S := by
  delta P_X9_best_0 at h ⊢
  obtain ⟨c1, h⟩ := h
  refine ⟨c1, ?_⟩
  have n2 := k8_nk K c1 (by decide)
  refine cm_X9_tripTrouble (kx_X9_tripTrouble h) h (fun x3 x4 p6 h g5 => ?_)
  have h := h g5
  have K := k8_tr K p6.2
  refine cm_X9_refusedBy (kx_X9_refusedBy h) h (fun x7 x8 p11 h g9 g10 => ?_)
  have h := h g9 g10
  have K := k8_tr K p11.2
  refine ⟨?_, ?_⟩
  · intro c12
    have h := h.1 c12
    obtain ⟨b13, e14, h⟩ := h
    refine ⟨b13, e14, ?_⟩
    obtain ⟨b15, e16, h⟩ := h
    refine ⟨b15, e16, ?_⟩
    obtain ⟨c17, h⟩ := h
    refine ⟨c17, ?_⟩
    have n18 := k8_nk K c17 (by decide)
    have o19 := c17
    obtain ⟨b20, e21, h⟩ := h
    refine ⟨b20, e21, ?_⟩
    obtain ⟨c22, h⟩ := h
    refine ⟨c22, ?_⟩
    have n23 := k8_nk K c22 (by decide)
    obtain ⟨c24, h⟩ := h
    refine ⟨c24, ?_⟩
    obtain ⟨b25, e26, h⟩ := h
    refine ⟨b25, e26, ?_⟩
    obtain ⟨b27, e28, h⟩ := h
    refine ⟨b27, e28, ?_⟩
    obtain ⟨c29, h⟩ := h
    refine ⟨c29, ?_⟩
    have n30 := k8_nk K c29 (by decide)
    have o31 := c29
    obtain ⟨b32, e33, h⟩ := h
    refine ⟨b32, e33, ?_⟩
    obtain ⟨c34, h⟩ := h
    refine ⟨c34, ?_⟩
    have n35 := k8_nk K c34 (by decide)
    obtain ⟨c36, h⟩ := h
    refine ⟨c36, ?_⟩
    obtain ⟨b37, e38, h⟩ := h
    refine ⟨b37, e38, ?_⟩
    obtain ⟨b39, e40, h⟩ := h
    refine ⟨b39, e40, ?_⟩
    obtain ⟨c41, h⟩ := h
    refine ⟨c41, ?_⟩
    have n42 := k8_nk K c41 (by decide)
    have o43 := c41
    obtain ⟨b44, e45, h⟩ := h
    refine ⟨b44, e45, ?_⟩
    obtain ⟨c46, h⟩ := h
    refine ⟨c46, ?_⟩
    have n47 := k8_nk K c46 (by decide)
    obtain ⟨c48, h⟩ := h
    refine ⟨c48, ?_⟩
    obtain ⟨b49, e50, h⟩ := h
    refine ⟨b49, e50, ?_⟩
    obtain ⟨c51, h⟩ := h
    refine ⟨c51, ?_⟩
    have n52 := k8_nk K c51 (by decide)
    refine cm_X1_bestSpeed (kx_X1_bestSpeed h) h (fun x53 x54 p56 h g55 => ?_)
    have h := h g55
    have K := k8_tr K p56.2
    have o19 := gr_ob p56.2.1 o19
    have o31 := gr_ob p56.2.1 o31
    have o43 := gr_ob p56.2.1 o43
    exact ⟨h, K⟩
  · intro c57
    have h := h.2 c57
    exact ⟨h, K⟩
theorem kx_X9_best {Q : Int32 → HS → Prop} {v0 : Nat} {v1 : Int32} {v2 : Int32} {v3 : Int32} {v4 : Int32} {S : HS} (h : P_X9_best v0 v1 v2 v3 v4 Q S) : P_X9_best v0 v1 v2 v3 v4 (fun r T => Q r T ∧ K8 S T) S := kx_X9_best_0 h (k8_rf S)
set_option maxRecDepth 20000 in
set_option maxHeartbeats 1000000 in
theorem kx_X9_coatParts_0 {Q : Int64 → HS → Prop} {v0 : Nat} {S0 S : HS} (h : P_X9_coatParts_0 Q v0 S) (K : K8 S0 S) : P_X9_coatParts_0 (fun r T => Q r T ∧ K8 S0 T) v0 S := by
  delta P_X9_coatParts_0 at h ⊢
  obtain ⟨c1, h⟩ := h
  refine ⟨c1, ?_⟩
  have n2 := k8_nk K c1 (by decide)
  intro x4 e3
  have h := h x4 e3
  refine ⟨?_, ?_⟩
  · intro c5
    have h := h.1 c5
    exact ⟨h, K⟩
  · intro c6
    have h := h.2 c6
    intro x8 e7
    have h := h x8 e7
    exact ⟨h, K⟩
theorem kx_X9_coatParts {Q : Int64 → HS → Prop} {v0 : Nat} {S : HS} (h : P_X9_coatParts v0 Q S) : P_X9_coatParts v0 (fun r T => Q r T ∧ K8 S T) S := kx_X9_coatParts_0 h (k8_rf S)
