section
set_option maxRecDepth 20000 in
set_option maxHeartbeats 1000000 in
theorem kw_X11_road_22 {Q : Int32 → HS → Prop} {v0 : Nat} {S0 S : HS} (h : P_X11_road_22 Q v0 S) (K : K7 S0 S) : P_X11_road_22 (fun r T => Q r T ∧ K7 S0 T) v0 S := by
  delta P_X11_road_22 at h ⊢
  obtain ⟨c1, h⟩ := h
  refine ⟨c1, ?_⟩
  have n2 := k7_nk K c1 (by decide)
  have o3 := c1
  refine cm_X11_refused (kw_X11_refused h) h (fun x4 x5 p7 h g6 => ?_)
  have h := h g6
  have K := k7_tr K p7.2
  have o3 := gr_ob p7.2.1 o3
  exact ⟨h, K⟩
set_option maxRecDepth 20000 in
set_option maxHeartbeats 1000000 in
theorem kw_X11_road_0 {Q : Int32 → HS → Prop} {v0 : Nat} {v1 : Int32} {v2 : Int32} {S0 S : HS} (h : P_X11_road_0 Q v0 v1 v2 S) (K : K7 S0 S) : P_X11_road_0 (fun r T => Q r T ∧ K7 S0 T) v0 v1 v2 S := by
  delta P_X11_road_0 at h ⊢
  obtain ⟨c1, h⟩ := h
  refine ⟨c1, ?_⟩
  have n2 := k7_nk K c1 (by decide)
  have o3 := c1
  intro x5 e4
  have h := h x5 e4
  have K := k7_I K e4 n2
  have o3 := ob_wI o3 e4
  refine cm_X11_isRoad (kw_X11_isRoad h) h (fun x6 x7 p10 h g8 g9 => ?_)
  have h := h g8 g9
  have K := k7_tr K p10.2
  have o3 := gr_ob p10.2.1 o3
  refine ⟨?_, ?_⟩
  · intro c11
    have h := h.1 c11
    exact kw_X11_road_22 h K
  · intro c12
    have h := h.2 c12
    refine cm_X11_in (kw_X11_in h) h (fun x13 x14 p17 h g15 g16 => ?_)
    have h := h g15 g16
    have K := k7_tr K p17.2
    have o3 := gr_ob p17.2.1 o3
    refine ⟨?_, ?_⟩
    · intro c18
      have h := h.1 c18
      refine ⟨?_, ?_, ?_, ?_, ?_⟩
      · intro c19
        have h := h.1 c19
        obtain ⟨b20, e21, h⟩ := h
        refine ⟨b20, e21, ?_⟩
        obtain ⟨c22, h⟩ := h
        refine ⟨c22, ?_⟩
        have n23 := k7_nk K c22 (by decide)
        obtain ⟨b24, e25, h⟩ := h
        refine ⟨b24, e25, ?_⟩
        obtain ⟨c26, h⟩ := h
        refine ⟨c26, ?_⟩
        obtain ⟨c27, h⟩ := h
        refine ⟨c27, ?_⟩
        intro x29 e28
        have h := h x29 e28
        refine cm_X11_good (kw_X11_good h) h (fun x30 x31 p33 h g32 => ?_)
        have h := h g32
        have K := k7_tr K p33.2
        have o3 := gr_ob p33.2.1 o3
        exact ⟨h, K⟩
      · intro c34
        have h := h.2.1 c34
        obtain ⟨b35, e36, h⟩ := h
        refine ⟨b35, e36, ?_⟩
        obtain ⟨c37, h⟩ := h
        refine ⟨c37, ?_⟩
        have n38 := k7_nk K c37 (by decide)
        obtain ⟨b39, e40, h⟩ := h
        refine ⟨b39, e40, ?_⟩
        obtain ⟨c41, h⟩ := h
        refine ⟨c41, ?_⟩
        obtain ⟨c42, h⟩ := h
        refine ⟨c42, ?_⟩
        intro x44 e43
        have h := h x44 e43
        refine cm_X11_good (kw_X11_good h) h (fun x45 x46 p48 h g47 => ?_)
        have h := h g47
        have K := k7_tr K p48.2
        have o3 := gr_ob p48.2.1 o3
        exact ⟨h, K⟩
      · intro c49
        have h := h.2.2.1 c49
        obtain ⟨b50, e51, h⟩ := h
        refine ⟨b50, e51, ?_⟩
        obtain ⟨c52, h⟩ := h
        refine ⟨c52, ?_⟩
        have n53 := k7_nk K c52 (by decide)
        obtain ⟨b54, e55, h⟩ := h
        refine ⟨b54, e55, ?_⟩
        obtain ⟨c56, h⟩ := h
        refine ⟨c56, ?_⟩
        obtain ⟨c57, h⟩ := h
        refine ⟨c57, ?_⟩
        intro x59 e58
        have h := h x59 e58
        refine cm_X11_good (kw_X11_good h) h (fun x60 x61 p63 h g62 => ?_)
        have h := h g62
        have K := k7_tr K p63.2
        have o3 := gr_ob p63.2.1 o3
        exact ⟨h, K⟩
      · intro c64
        have h := h.2.2.2.1 c64
        obtain ⟨b65, e66, h⟩ := h
        refine ⟨b65, e66, ?_⟩
        obtain ⟨c67, h⟩ := h
        refine ⟨c67, ?_⟩
        have n68 := k7_nk K c67 (by decide)
        obtain ⟨b69, e70, h⟩ := h
        refine ⟨b69, e70, ?_⟩
        obtain ⟨c71, h⟩ := h
        refine ⟨c71, ?_⟩
        obtain ⟨c72, h⟩ := h
        refine ⟨c72, ?_⟩
        intro x74 e73
        have h := h x74 e73
        refine cm_X11_good (kw_X11_good h) h (fun x75 x76 p78 h g77 => ?_)
        have h := h g77
        have K := k7_tr K p78.2
        have o3 := gr_ob p78.2.1 o3
        exact ⟨h, K⟩
      · intro c79
        have h := h.2.2.2.2 c79
        obtain ⟨b80, e81, h⟩ := h
        refine ⟨b80, e81, ?_⟩
        obtain ⟨c82, h⟩ := h
        refine ⟨c82, ?_⟩
        have n83 := k7_nk K c82 (by decide)
        obtain ⟨b84, e85, h⟩ := h
        refine ⟨b84, e85, ?_⟩
        obtain ⟨c86, h⟩ := h
        refine ⟨c86, ?_⟩
        obtain ⟨c87, h⟩ := h
        refine ⟨c87, ?_⟩
        intro x89 e88
        have h := h x89 e88
        refine cm_X11_good (kw_X11_good h) h (fun x90 x91 p93 h g92 => ?_)
        have h := h g92
        have K := k7_tr K p93.2
        have o3 := gr_ob p93.2.1 o3
        exact ⟨h, K⟩
    · intro c94
      have h := h.2 c94
      exact kw_X11_road_22 h K
theorem kw_X11_road {Q : Int32 → HS → Prop} {v0 : Nat} {v1 : Int32} {v2 : Int32} {S : HS} (h : P_X11_road v0 v1 v2 Q S) : P_X11_road v0 v1 v2 (fun r T => Q r T ∧ K7 S T) S := kw_X11_road_0 h (k7_rf S)
set_option maxRecDepth 20000 in
set_option maxHeartbeats 1000000 in
theorem kw_X11_round_29 {Q : Int64 → HS → Prop} {v0 : Nat} {S0 S : HS} (h : P_X11_round_29 Q v0 S) (K : K7 S0 S) : P_X11_round_29 (fun r T => Q r T ∧ K7 S0 T) v0 S := by
  delta P_X11_round_29 at h ⊢
  obtain ⟨c1, h⟩ := h
  refine ⟨c1, ?_⟩
  have n2 := k7_nk K c1 (by decide)
  have o3 := c1
  refine cm_X11_refused (kw_X11_refused h) h (fun x4 x5 p7 h g6 => ?_)
  have h := h g6
  have K := k7_tr K p7.2
  have o3 := gr_ob p7.2.1 o3
  exact ⟨h, K⟩
set_option maxRecDepth 20000 in
set_option maxHeartbeats 1000000 in
theorem kw_X11_round_0 {Q : Int64 → HS → Prop} {v0 : Nat} {v1 : Int32} {v2 : Int32} {v3 : Int32} {v4 : Int32} {S0 S : HS} (h : P_X11_round_0 Q v0 v1 v2 v3 v4 S) (K : K7 S0 S) : P_X11_round_0 (fun r T => Q r T ∧ K7 S0 T) v0 v1 v2 v3 v4 S := by
  delta P_X11_round_0 at h ⊢
  obtain ⟨c1, h⟩ := h
  refine ⟨c1, ?_⟩
  have n2 := k7_nk K c1 (by decide)
  have o3 := c1
  intro x5 e4
  have h := h x5 e4
  have K := k7_I K e4 n2
  have o3 := ob_wI o3 e4
  refine cm_X11_isWalker (kw_X11_isWalker h) h (fun x6 x7 p10 h g8 g9 => ?_)
  have h := h g8 g9
  have K := k7_tr K p10.2
  have o3 := gr_ob p10.2.1 o3
  refine ⟨?_, ?_⟩
  · intro c11
    have h := h.1 c11
    exact kw_X11_round_29 h K
  · intro c12
    have h := h.2 c12
    refine cm_X11_isRoad (kw_X11_isRoad h) h (fun x13 x14 p17 h g15 g16 => ?_)
    have h := h g15 g16
    have K := k7_tr K p17.2
    have o3 := gr_ob p17.2.1 o3
    refine ⟨?_, ?_⟩
    · intro c18
      have h := h.1 c18
      exact kw_X11_round_29 h K
    · intro c19
      have h := h.2 c19
      refine cm_X11_isHour (kw_X11_isHour h) h (fun x20 x21 p24 h g22 g23 => ?_)
      have h := h g22 g23
      have K := k7_tr K p24.2
      have o3 := gr_ob p24.2.1 o3
      refine ⟨?_, ?_⟩
      · intro c25
        have h := h.1 c25
        refine cm_X11_wetAtBest (kw_X11_wetAtBest h) h (fun x26 x27 p29 h g28 => ?_)
        have h := h g28
        have K := k7_tr K p29.2
        have o3 := gr_ob p29.2.1 o3
        refine cm_X11_wetAtBest (kw_X11_wetAtBest h) h (fun x30 x31 p33 h g32 => ?_)
        have h := h g32
        have K := k7_tr K p33.2
        have o3 := gr_ob p33.2.1 o3
        refine cm_X11_told (kw_X11_told h) h (fun x34 x35 p37 h g36 => ?_)
        have h := h g36
        have K := k7_tr K p37.2
        have o3 := gr_ob p37.2.1 o3
        exact ⟨h, K⟩
      · intro c38
        have h := h.2 c38
        exact kw_X11_round_29 h K
theorem kw_X11_round {Q : Int64 → HS → Prop} {v0 : Nat} {v1 : Int32} {v2 : Int32} {v3 : Int32} {v4 : Int32} {S : HS} (h : P_X11_round v0 v1 v2 v3 v4 Q S) : P_X11_round v0 v1 v2 v3 v4 (fun r T => Q r T ∧ K7 S T) S := kw_X11_round_0 h (k7_rf S)
set_option maxRecDepth 20000 in
set_option maxHeartbeats 1000000 in
theorem kw_X11_saves_39 {Q : Int64 → HS → Prop} {v0 : Nat} {S0 S : HS} (h : P_X11_saves_39 Q v0 S) (K : K7 S0 S) : P_X11_saves_39 (fun r T => Q r T ∧ K7 S0 T) v0 S := by
  delta P_X11_saves_39 at h ⊢
  obtain ⟨c1, h⟩ := h
  refine ⟨c1, ?_⟩
  have n2 := k7_nk K c1 (by decide)
  have o3 := c1
  refine cm_X11_refused (kw_X11_refused h) h (fun x4 x5 p7 h g6 => ?_)
  have h := h g6
  have K := k7_tr K p7.2
  have o3 := gr_ob p7.2.1 o3
  exact ⟨h, K⟩
set_option maxRecDepth 20000 in
set_option maxHeartbeats 1000000 in
theorem kw_X11_saves_0 {Q : Int64 → HS → Prop} {v0 : Nat} {v1 : Int32} {v2 : Int32} {v3 : Int32} {v4 : Int32} {v5 : Int32} {S0 S : HS} (h : P_X11_saves_0 Q v0 v1 v2 v3 v4 v5 S) (K : K7 S0 S) : P_X11_saves_0 (fun r T => Q r T ∧ K7 S0 T) v0 v1 v2 v3 v4 v5 S := by
  delta P_X11_saves_0 at h ⊢
  obtain ⟨c1, h⟩ := h
  refine ⟨c1, ?_⟩
  have n2 := k7_nk K c1 (by decide)
  have o3 := c1
  intro x5 e4
  have h := h x5 e4
  have K := k7_I K e4 n2
  have o3 := ob_wI o3 e4
  refine cm_X11_isWalker (kw_X11_isWalker h) h (fun x6 x7 p10 h g8 g9 => ?_)
  have h := h g8 g9
  have K := k7_tr K p10.2
  have o3 := gr_ob p10.2.1 o3
  refine ⟨?_, ?_⟩
  · intro c11
    have h := h.1 c11
    exact kw_X11_saves_39 h K
  · intro c12
    have h := h.2 c12
    refine cm_X11_isRoad (kw_X11_isRoad h) h (fun x13 x14 p17 h g15 g16 => ?_)
    have h := h g15 g16
    have K := k7_tr K p17.2
    have o3 := gr_ob p17.2.1 o3
    refine ⟨?_, ?_⟩
    · intro c18
      have h := h.1 c18
      exact kw_X11_saves_39 h K
    · intro c19
      have h := h.2 c19
      refine cm_X11_in (kw_X11_in h) h (fun x20 x21 p24 h g22 g23 => ?_)
      have h := h g22 g23
      have K := k7_tr K p24.2
      have o3 := gr_ob p24.2.1 o3
      refine ⟨?_, ?_⟩
      · intro c25
        have h := h.1 c25
        exact kw_X11_saves_39 h K
      · intro c26
        have h := h.2 c26
        refine cm_X11_isHour (kw_X11_isHour h) h (fun x27 x28 p31 h g29 g30 => ?_)
        have h := h g29 g30
        have K := k7_tr K p31.2
        have o3 := gr_ob p31.2.1 o3
        refine ⟨?_, ?_⟩
        · intro c32
          have h := h.1 c32
          obtain ⟨b33, e34, h⟩ := h
          refine ⟨b33, e34, ?_⟩
          obtain ⟨c35, h⟩ := h
          refine ⟨c35, ?_⟩
          have n36 := k7_nk K c35 (by decide)
          obtain ⟨b37, e38, h⟩ := h
          refine ⟨b37, e38, ?_⟩
          obtain ⟨c39, h⟩ := h
          refine ⟨c39, ?_⟩
          obtain ⟨c40, h⟩ := h
          refine ⟨c40, ?_⟩
          intro x42 e41
          have h := h x42 e41
          refine cm_X11_wetOf (kw_X11_wetOf h) h (fun x43 x44 p46 h g45 => ?_)
          have h := h g45
          have K := k7_tr K p46.2
          have o3 := gr_ob p46.2.1 o3
          refine cm_X11_bestOf (kw_X11_bestOf h) h (fun x47 x48 p50 h g49 => ?_)
          have h := h g49
          have K := k7_tr K p50.2
          have o3 := gr_ob p50.2.1 o3
          refine cm_X11_wetOf (kw_X11_wetOf h) h (fun x51 x52 p54 h g53 => ?_)
          have h := h g53
          have K := k7_tr K p54.2
          have o3 := gr_ob p54.2.1 o3
          refine cm_X11_told (kw_X11_told h) h (fun x55 x56 p58 h g57 => ?_)
          have h := h g57
          have K := k7_tr K p58.2
          have o3 := gr_ob p58.2.1 o3
          exact ⟨h, K⟩
        · intro c59
          have h := h.2 c59
          exact kw_X11_saves_39 h K
theorem kw_X11_saves {Q : Int64 → HS → Prop} {v0 : Nat} {v1 : Int32} {v2 : Int32} {v3 : Int32} {v4 : Int32} {v5 : Int32} {S : HS} (h : P_X11_saves v0 v1 v2 v3 v4 v5 Q S) : P_X11_saves v0 v1 v2 v3 v4 v5 (fun r T => Q r T ∧ K7 S T) S := kw_X11_saves_0 h (k7_rf S)
set_option maxRecDepth 20000 in
set_option maxHeartbeats 1000000 in
theorem kw_X11_size_0 {Q : Int32 → HS → Prop} {v0 : Nat} {v1 : Int32} {S0 S : HS} (h : P_X11_size_0 Q v0 v1 S) (K : K7 S0 S) : P_X11_size_0 (fun r T => Q r T ∧ K7 S0 T) v0 v1 S := by
  delta P_X11_size_0 at h ⊢
  obtain ⟨c1, h⟩ := h
  refine ⟨c1, ?_⟩
  have n2 := k7_nk K c1 (by decide)
  have o3 := c1
  intro x5 e4
  have h := h x5 e4
  have K := k7_I K e4 n2
  have o3 := ob_wI o3 e4
  refine ⟨?_, ?_⟩
  · intro c6
    have h := h.1 c6
    refine cm_X11_in (kw_X11_in h) h (fun x7 x8 p11 h g9 g10 => ?_)
    have h := h g9 g10
    have K := k7_tr K p11.2
    have o3 := gr_ob p11.2.1 o3
    refine ⟨?_, ?_⟩
    · intro c12
      have h := h.1 c12
      refine ⟨?_, ?_⟩
      · intro c13
        have h := h.1 c13
        exact ⟨h, K⟩
      · intro x14 c15
        have h := h.2 x14 c15
        refine ⟨?_, ?_, ?_, ?_, ?_, ?_, ?_, ?_, ?_, ?_, ?_⟩
        · intro c16
          have h := h.1 c16
          intro x18 e17
          have h := h x18 e17
          exact ⟨h, K⟩
        · intro c19
          have h := h.2.1 c19
          obtain ⟨b20, e21, h⟩ := h
          refine ⟨b20, e21, ?_⟩
          obtain ⟨c22, h⟩ := h
          refine ⟨c22, ?_⟩
          have n23 := k7_nk K c22 (by decide)
          intro x25 e24
          have h := h x25 e24
          exact ⟨h, K⟩
        · intro c26
          have h := h.2.2.1 c26
          obtain ⟨b27, e28, h⟩ := h
          refine ⟨b27, e28, ?_⟩
          obtain ⟨c29, h⟩ := h
          refine ⟨c29, ?_⟩
          have n30 := k7_nk K c29 (by decide)
          intro x32 e31
          have h := h x32 e31
          exact ⟨h, K⟩
        · intro c33
          have h := h.2.2.2.1 c33
          obtain ⟨b34, e35, h⟩ := h
          refine ⟨b34, e35, ?_⟩
          obtain ⟨c36, h⟩ := h
          refine ⟨c36, ?_⟩
          have n37 := k7_nk K c36 (by decide)
          intro x39 e38
          have h := h x39 e38
          exact ⟨h, K⟩
        · intro c40
          have h := h.2.2.2.2.1 c40
          obtain ⟨b41, e42, h⟩ := h
          refine ⟨b41, e42, ?_⟩
          obtain ⟨c43, h⟩ := h
          refine ⟨c43, ?_⟩
          have n44 := k7_nk K c43 (by decide)
          intro x46 e45
          have h := h x46 e45
          exact ⟨h, K⟩
        · intro c47
          have h := h.2.2.2.2.2.1 c47
          obtain ⟨b48, e49, h⟩ := h
          refine ⟨b48, e49, ?_⟩
          obtain ⟨c50, h⟩ := h
          refine ⟨c50, ?_⟩
          have n51 := k7_nk K c50 (by decide)
          intro x53 e52
          have h := h x53 e52
          exact ⟨h, K⟩
        · intro c54
          have h := h.2.2.2.2.2.2.1 c54
          obtain ⟨b55, e56, h⟩ := h
          refine ⟨b55, e56, ?_⟩
          obtain ⟨c57, h⟩ := h
          refine ⟨c57, ?_⟩
          have n58 := k7_nk K c57 (by decide)
          intro x60 e59
          have h := h x60 e59
          exact ⟨h, K⟩
        · intro c61
          have h := h.2.2.2.2.2.2.2.1 c61
          intro x63 e62
          have h := h x63 e62
          exact ⟨h, K⟩
        · intro c64
          have h := h.2.2.2.2.2.2.2.2.1 c64
          refine cm_X11_isDay (kw_X11_isDay h) h (fun x65 x66 p69 h g67 g68 => ?_)
          have h := h g67 g68
          have K := k7_tr K p69.2
          have o3 := gr_ob p69.2.1 o3
          refine ⟨?_, ?_⟩
          · intro c70
            have h := h.1 c70
            exact ⟨h, K⟩
          · intro c71
            have h := h.2 c71
            obtain ⟨b72, e73, h⟩ := h
            refine ⟨b72, e73, ?_⟩
            obtain ⟨c74, h⟩ := h
            refine ⟨c74, ?_⟩
            have n75 := k7_nk K c74 (by decide)
            obtain ⟨c76, h⟩ := h
            refine ⟨c76, ?_⟩
            intro x78 e77
            have h := h x78 e77
            exact ⟨h, K⟩
        · intro c79
          have h := h.2.2.2.2.2.2.2.2.2.1 c79
          refine cm_X11_isDay (kw_X11_isDay h) h (fun x80 x81 p84 h g82 g83 => ?_)
          have h := h g82 g83
          have K := k7_tr K p84.2
          have o3 := gr_ob p84.2.1 o3
          refine ⟨?_, ?_⟩
          · intro c85
            have h := h.1 c85
            exact ⟨h, K⟩
          · intro c86
            have h := h.2 c86
            obtain ⟨b87, e88, h⟩ := h
            refine ⟨b87, e88, ?_⟩
            obtain ⟨c89, h⟩ := h
            refine ⟨c89, ?_⟩
            have n90 := k7_nk K c89 (by decide)
            obtain ⟨c91, h⟩ := h
            refine ⟨c91, ?_⟩
            intro x93 e92
            have h := h x93 e92
            exact ⟨h, K⟩
        · intro c94
          have h := h.2.2.2.2.2.2.2.2.2.2 c94
          intro x96 e95
          have h := h x96 e95
          exact ⟨h, K⟩
    · intro c97
      have h := h.2 c97
      exact ⟨h, K⟩
  · intro c98
    have h := h.2 c98
    intro x100 e99
    have h := h x100 e99
    exact ⟨h, K⟩
theorem kw_X11_size {Q : Int32 → HS → Prop} {v0 : Nat} {v1 : Int32} {S : HS} (h : P_X11_size v0 v1 Q S) : P_X11_size v0 v1 (fun r T => Q r T ∧ K7 S T) S := kw_X11_size_0 h (k7_rf S)
set_option maxRecDepth 20000 in
set_option maxHeartbeats 1000000 in
theorem kw_X11_soaked_57 {Q : Int32 → HS → Prop} {s0 : Nat} {s1 : Int32} {S0 S : HS} (h : P_X11_soaked_57 Q s0 s1 S) (K : K7 S0 S) : P_X11_soaked_57 (fun r T => Q r T ∧ K7 S0 T) s0 s1 S := by
  delta P_X11_soaked_57 at h ⊢
  obtain ⟨c1, h⟩ := h
  refine ⟨c1, ?_⟩
  have n2 := k7_nk K c1 (by decide)
  have o3 := c1
  refine cm_X11_good (kw_X11_good h) h (fun x4 x5 p7 h g6 => ?_)
  have h := h g6
  have K := k7_tr K p7.2
  have o3 := gr_ob p7.2.1 o3
  exact ⟨h, K⟩
set_option maxRecDepth 20000 in
set_option maxHeartbeats 1000000 in
theorem kw_X11_soaked_0 {Q : Int32 → HS → Prop} {v0 : Nat} {S0 S : HS} (h : P_X11_soaked_0 Q v0 S) (K : K7 S0 S) : P_X11_soaked_0 (fun r T => Q r T ∧ K7 S0 T) v0 S := by
  delta P_X11_soaked_0 at h ⊢
  obtain ⟨c1, h⟩ := h
  refine ⟨c1, ?_⟩
  have n2 := k7_nk K c1 (by decide)
  have o3 := c1
  intro x5 e4
  have h := h x5 e4
  have K := k7_I K e4 n2
  have o3 := ob_wI o3 e4
  refine cm_X11_isDay (kw_X11_isDay h) h (fun x6 x7 p10 h g8 g9 => ?_)
  have h := h g8 g9
  have K := k7_tr K p10.2
  have o3 := gr_ob p10.2.1 o3
  refine ⟨?_, ?_⟩
  · intro c11
    have h := h.1 c11
    obtain ⟨b12, e13, h⟩ := h
    refine ⟨b12, e13, ?_⟩
    obtain ⟨c14, h⟩ := h
    refine ⟨c14, ?_⟩
    have n15 := k7_nk K c14 (by decide)
    obtain ⟨b16, e17, h⟩ := h
    refine ⟨b16, e17, ?_⟩
    intro x19 e18
    have h := h x19 e18
    obtain ⟨c20, h⟩ := h
    refine ⟨c20, ?_⟩
    obtain ⟨c21, h⟩ := h
    refine ⟨c21, ?_⟩
    intro x23 e22
    have h := h x23 e22
    refine ⟨?_, ?_⟩
    · intro c24
      have h := h.1 c24
      refine cm_X11_gotInAll (kw_X11_gotInAll h) h (fun x25 x26 p28 h g27 => ?_)
      have h := h g27
      have K := k7_tr K p28.2
      have o3 := gr_ob p28.2.1 o3
      refine cm_X11_holds (kw_X11_holds h) h (fun x29 x30 p32 h g31 => ?_)
      have h := h g31
      have K := k7_tr K p32.2
      have o3 := gr_ob p32.2.1 o3
      refine ⟨?_, ?_⟩
      · intro c33
        have h := h.1 c33
        exact kw_X11_soaked_57 h K
      · intro c34
        have h := h.2 c34
        exact kw_X11_soaked_57 h K
    · intro c35
      have h := h.2 c35
      exact kw_X11_soaked_57 h K
  · intro c36
    have h := h.2 c36
    refine cm_X11_refused (kw_X11_refused h) h (fun x37 x38 p40 h g39 => ?_)
    have h := h g39
    have K := k7_tr K p40.2
    have o3 := gr_ob p40.2.1 o3
    exact ⟨h, K⟩
theorem kw_X11_soaked {Q : Int32 → HS → Prop} {v0 : Nat} {S : HS} (h : P_X11_soaked v0 Q S) : P_X11_soaked v0 (fun r T => Q r T ∧ K7 S T) S := kw_X11_soaked_0 h (k7_rf S)
set_option maxRecDepth 20000 in
set_option maxHeartbeats 1000000 in
theorem kw_X11_stay_133 {Q : Int32 → HS → Prop} {X84 X84_2 : Nat → Int32 → Int32 → Int32 → HS → Prop} {v0 : Nat} {v1 : Int32} {v2 : Int32} {v3 : Int32} {S0 S : HS} (h : P_X11_stay_133 Q X84 v0 v1 v2 v3 S) (K : K7 S0 S) (hX84 : ∀ (u0 : Nat) (u1 : Int32) (u2 : Int32) (u3 : Int32) (u4 : HS), X84 u0 u1 u2 u3 u4 → K7 S0 u4 → X84_2 u0 u1 u2 u3 u4) : P_X11_stay_133 (fun r T => Q r T ∧ K7 S0 T) X84_2 v0 v1 v2 v3 S := by
  delta P_X11_stay_133 at h ⊢
  obtain ⟨c1, h⟩ := h
  refine ⟨c1, ?_⟩
  have n2 := k7_nk K c1 (by decide)
  have o3 := c1
  obtain ⟨b4, e5, h⟩ := h
  refine ⟨b4, e5, ?_⟩
  obtain ⟨c6, h⟩ := h
  refine ⟨c6, ?_⟩
  have n7 := k7_nk K c6 (by decide)
  obtain ⟨c8, h⟩ := h
  refine ⟨c8, ?_⟩
  intro x10 e9
  have h := h x10 e9
  intro x12 e11
  have h := h x12 e11
  obtain ⟨c13, h⟩ := h
  refine ⟨c13, ?_⟩
  intro x15 e14
  have h := h x15 e14
  have K := k7_J K e14
  have o3 := ob_wJ o3 e14
  intro x17 e16
  have h := h x17 e16
  exact hX84 _ _ _ _ _ h K
set_option maxRecDepth 20000 in
set_option maxHeartbeats 1000000 in
theorem kwB_X11_stay_84 {Q : Int32 → HS → Prop} {X84 X84_2 : Nat → Int32 → Int32 → Int32 → HS → Prop} {v0 : Nat} {v1 : Int32} {v2 : Int32} {v3 : Int32} {S0 S : HS} (h : B_X11_stay_84 Q X84 v0 v1 v2 v3 S) (K : K7 S0 S) (hX84 : ∀ (u0 : Nat) (u1 : Int32) (u2 : Int32) (u3 : Int32) (u4 : HS), X84 u0 u1 u2 u3 u4 → K7 S0 u4 → X84_2 u0 u1 u2 u3 u4) : B_X11_stay_84 (fun r T => Q r T ∧ K7 S0 T) X84_2 v0 v1 v2 v3 S := by
  delta B_X11_stay_84 at h ⊢
  refine ⟨?_, ?_⟩
  · intro c1
    have h := h.1 c1
    obtain ⟨c2, h⟩ := h
    refine ⟨c2, ?_⟩
    have n3 := k7_nk K c2 (by decide)
    have o4 := c2
    refine cm_X11_granted (kw_X11_granted h) h (fun x5 x6 p9 h g7 g8 => ?_)
    have h := h g7 g8
    have K := k7_tr K p9.2
    have o4 := gr_ob p9.2.1 o4
    obtain ⟨c10, h⟩ := h
    refine ⟨c10, ?_⟩
    exact ⟨h, K⟩
  · intro c11
    have h := h.2 c11
    obtain ⟨c12, h⟩ := h
    refine ⟨c12, ?_⟩
    have n13 := k7_nk K c12 (by decide)
    have o14 := c12
    obtain ⟨b15, e16, h⟩ := h
    refine ⟨b15, e16, ?_⟩
    obtain ⟨c17, h⟩ := h
    refine ⟨c17, ?_⟩
    have n18 := k7_nk K c17 (by decide)
    obtain ⟨b19, e20, h⟩ := h
    refine ⟨b19, e20, ?_⟩
    obtain ⟨c21, h⟩ := h
    refine ⟨c21, ?_⟩
    obtain ⟨c22, h⟩ := h
    refine ⟨c22, ?_⟩
    intro x24 e23
    have h := h x24 e23
    refine ⟨?_, ?_⟩
    · intro c25
      have h := h.1 c25
      exact kw_X11_stay_133 h K hX84
    · intro c26
      have h := h.2 c26
      obtain ⟨b27, e28, h⟩ := h
      refine ⟨b27, e28, ?_⟩
      obtain ⟨c29, h⟩ := h
      refine ⟨c29, ?_⟩
      have n30 := k7_nk K c29 (by decide)
      obtain ⟨c31, h⟩ := h
      refine ⟨c31, ?_⟩
      intro x33 e32
      have h := h x33 e32
      refine cm_X11_rainsIn (kw_X11_rainsIn h) h (fun x34 x35 p38 h g36 g37 => ?_)
      have h := h g36 g37
      have K := k7_tr K p38.2
      have o14 := gr_ob p38.2.1 o14
      refine ⟨?_, ?_⟩
      · intro c39
        have h := h.1 c39
        exact kw_X11_stay_133 h K hX84
      · intro c40
        have h := h.2 c40
        obtain ⟨b41, e42, h⟩ := h
        refine ⟨b41, e42, ?_⟩
        obtain ⟨c43, h⟩ := h
        refine ⟨c43, ?_⟩
        have n44 := k7_nk K c43 (by decide)
        obtain ⟨c45, h⟩ := h
        refine ⟨c45, ?_⟩
        intro x47 e46
        have h := h x47 e46
        intro x49 e48
        have h := h x49 e48
        refine cm_X11_drips (kw_X11_drips h) h (fun x50 x51 p53 h g52 => ?_)
        have h := h g52
        have K := k7_tr K p53.2
        have o14 := gr_ob p53.2.1 o14
        intro x55 e54
        have h := h x55 e54
        obtain ⟨c56, h⟩ := h
        refine ⟨c56, ?_⟩
        intro x58 e57
        have h := h x58 e57
        have K := k7_J K e57
        have o14 := ob_wJ o14 e57
        exact kw_X11_stay_133 h K hX84
theorem kw_X11_stay_84 {Q : Int32 → HS → Prop} {v0 : Nat} {v1 : Int32} {v2 : Int32} {v3 : Int32} {S0 S : HS} (h : P_X11_stay_84 Q v0 v1 v2 v3 S) (K : K7 S0 S) : P_X11_stay_84 (fun r T => Q r T ∧ K7 S0 T) v0 v1 v2 v3 S := h (fun v0 v1 v2 v3 S => K7 S0 S → P_X11_stay_84 (fun r T => Q r T ∧ K7 S0 T) v0 v1 v2 v3 S) (fun v0 v1 v2 v3 S hB K => fd_X11_stay_84 (kwB_X11_stay_84 hB K (fun _ _ _ _ _ hx K => hx K))) K
set_option maxRecDepth 20000 in
set_option maxHeartbeats 1000000 in
theorem kw_X11_stay_0 {Q : Int32 → HS → Prop} {v0 : Nat} {v1 : Int32} {S0 S : HS} (h : P_X11_stay_0 Q v0 v1 S) (K : K7 S0 S) : P_X11_stay_0 (fun r T => Q r T ∧ K7 S0 T) v0 v1 S := by
  delta P_X11_stay_0 at h ⊢
  obtain ⟨c1, h⟩ := h
  refine ⟨c1, ?_⟩
  have n2 := k7_nk K c1 (by decide)
  have o3 := c1
  intro x5 e4
  have h := h x5 e4
  have K := k7_I K e4 n2
  have o3 := ob_wI o3 e4
  refine cm_X11_isDay (kw_X11_isDay h) h (fun x6 x7 p10 h g8 g9 => ?_)
  have h := h g8 g9
  have K := k7_tr K p10.2
  have o3 := gr_ob p10.2.1 o3
  refine ⟨?_, ?_⟩
  · intro c11
    have h := h.1 c11
    refine cm_X11_in (kw_X11_in h) h (fun x12 x13 p16 h g14 g15 => ?_)
    have h := h g14 g15
    have K := k7_tr K p16.2
    have o3 := gr_ob p16.2.1 o3
    refine ⟨?_, ?_⟩
    · intro c17
      have h := h.1 c17
      obtain ⟨b18, e19, h⟩ := h
      refine ⟨b18, e19, ?_⟩
      obtain ⟨c20, h⟩ := h
      refine ⟨c20, ?_⟩
      have n21 := k7_nk K c20 (by decide)
      obtain ⟨c22, h⟩ := h
      refine ⟨c22, ?_⟩
      intro x24 e23
      have h := h x24 e23
      intro x26 e25
      have h := h x26 e25
      refine cm_X11_canWait (kw_X11_canWait h) h (fun x27 x28 p31 h g29 g30 => ?_)
      have h := h g29 g30
      have K := k7_tr K p31.2
      have o3 := gr_ob p31.2.1 o3
      refine ⟨?_, ?_⟩
      · intro c32
        have h := h.1 c32
        obtain ⟨b33, e34, h⟩ := h
        refine ⟨b33, e34, ?_⟩
        obtain ⟨c35, h⟩ := h
        refine ⟨c35, ?_⟩
        have n36 := k7_nk K c35 (by decide)
        obtain ⟨c37, h⟩ := h
        refine ⟨c37, ?_⟩
        intro x39 e38
        have h := h x39 e38
        refine ⟨?_, ?_⟩
        · intro c40
          have h := h.1 c40
          refine cm_X11_keeps (kw_X11_keeps h) h (fun x41 p43 h g42 => ?_)
          have h := h g42
          have K := k7_tr K p43.2
          have o3 := gr_ob p43.2.1 o3
          exact kw_X11_stay_84 h K
        · intro c44
          have h := h.2 c44
          refine cm_X11_denied (kw_X11_denied h) h (fun x45 x46 p49 h g47 g48 => ?_)
          have h := h g47 g48
          have K := k7_tr K p49.2
          have o3 := gr_ob p49.2.1 o3
          obtain ⟨c50, h⟩ := h
          refine ⟨c50, ?_⟩
          exact ⟨h, K⟩
      · intro c51
        have h := h.2 c51
        refine cm_X11_denied (kw_X11_denied h) h (fun x52 x53 p56 h g54 g55 => ?_)
        have h := h g54 g55
        have K := k7_tr K p56.2
        have o3 := gr_ob p56.2.1 o3
        obtain ⟨c57, h⟩ := h
        refine ⟨c57, ?_⟩
        exact ⟨h, K⟩
    · intro c58
      have h := h.2 c58
      refine cm_X11_denied (kw_X11_denied h) h (fun x59 x60 p63 h g61 g62 => ?_)
      have h := h g61 g62
      have K := k7_tr K p63.2
      have o3 := gr_ob p63.2.1 o3
      obtain ⟨c64, h⟩ := h
      refine ⟨c64, ?_⟩
      exact ⟨h, K⟩
  · intro c65
    have h := h.2 c65
    refine cm_X11_denied (kw_X11_denied h) h (fun x66 x67 p70 h g68 g69 => ?_)
    have h := h g68 g69
    have K := k7_tr K p70.2
    have o3 := gr_ob p70.2.1 o3
    obtain ⟨c71, h⟩ := h
    refine ⟨c71, ?_⟩
    exact ⟨h, K⟩
theorem kw_X11_stay {Q : Int32 → HS → Prop} {v0 : Nat} {v1 : Int32} {S : HS} (h : P_X11_stay v0 v1 Q S) : P_X11_stay v0 v1 (fun r T => Q r T ∧ K7 S T) S := kw_X11_stay_0 h (k7_rf S)
set_option maxRecDepth 20000 in
set_option maxHeartbeats 1000000 in
theorem kw_X11_stepOf_117 {Q : Int32 → HS → Prop} {X9 X9_2 : Nat → Int32 → Int32 → Int32 → Int32 → HS → Prop} {v0 : Nat} {v4 : Int32} {v6 : Int32} {v7 : Int32} {s0 : Int32} {S0 S : HS} (h : P_X11_stepOf_117 Q X9 v0 v4 v6 v7 s0 S) (K : K7 S0 S) (hX9 : ∀ (u0 : Nat) (u1 : Int32) (u2 : Int32) (u3 : Int32) (u4 : Int32) (u5 : HS), X9 u0 u1 u2 u3 u4 u5 → K7 S0 u5 → X9_2 u0 u1 u2 u3 u4 u5) : P_X11_stepOf_117 (fun r T => Q r T ∧ K7 S0 T) X9_2 v0 v4 v6 v7 s0 S := by
  delta P_X11_stepOf_117 at h ⊢
  exact hX9 _ _ _ _ _ _ h K
set_option maxRecDepth 20000 in
set_option maxHeartbeats 1000000 in
theorem kw_X11_stepOf_82 {Q : Int32 → HS → Prop} {X9 X9_2 : Nat → Int32 → Int32 → Int32 → Int32 → HS → Prop} {v0 : Nat} {v4 : Int32} {v5 : Int32} {v7 : Int32} {v8 : Int32} {s0 : Int32} {s1 : Int32} {S0 S : HS} (h : P_X11_stepOf_82 Q X9 v0 v4 v5 v7 v8 s0 s1 S) (K : K7 S0 S) (hX9 : ∀ (u0 : Nat) (u1 : Int32) (u2 : Int32) (u3 : Int32) (u4 : Int32) (u5 : HS), X9 u0 u1 u2 u3 u4 u5 → K7 S0 u5 → X9_2 u0 u1 u2 u3 u4 u5) : P_X11_stepOf_82 (fun r T => Q r T ∧ K7 S0 T) X9_2 v0 v4 v5 v7 v8 s0 s1 S := by
  delta P_X11_stepOf_82 at h ⊢
  intro x2 e1
  have h := h x2 e1
  refine ⟨?_, ?_⟩
  · intro c3
    have h := h.1 c3
    obtain ⟨c4, h⟩ := h
    refine ⟨c4, ?_⟩
    have n5 := k7_nk K c4 (by decide)
    have o6 := c4
    obtain ⟨b7, e8, h⟩ := h
    refine ⟨b7, e8, ?_⟩
    intro x10 e9
    have h := h x10 e9
    intro x12 e11
    have h := h x12 e11
    intro x14 e13
    have h := h x14 e13
    obtain ⟨c15, h⟩ := h
    refine ⟨c15, ?_⟩
    have n16 := k7_nk K c15 (by decide)
    refine cm_X10_ends (kw_X10_ends h) h (fun x17 x18 p20 h g19 => ?_)
    have h := h g19
    have K := k7_tr K p20.2
    have o6 := gr_ob p20.2.1 o6
    exact kw_X11_stepOf_117 h K hX9
  · intro c21
    have h := h.2 c21
    exact kw_X11_stepOf_117 h K hX9
set_option maxRecDepth 20000 in
set_option maxHeartbeats 1000000 in
theorem kwB_X11_stepOf_9 {Q : Int32 → HS → Prop} {X9 X9_2 : Nat → Int32 → Int32 → Int32 → Int32 → HS → Prop} {v0 : Nat} {v4 : Int32} {v5 : Int32} {v6 : Int32} {v7 : Int32} {S0 S : HS} (h : B_X11_stepOf_9 Q X9 v0 v4 v5 v6 v7 S) (K : K7 S0 S) (hX9 : ∀ (u0 : Nat) (u1 : Int32) (u2 : Int32) (u3 : Int32) (u4 : Int32) (u5 : HS), X9 u0 u1 u2 u3 u4 u5 → K7 S0 u5 → X9_2 u0 u1 u2 u3 u4 u5) : B_X11_stepOf_9 (fun r T => Q r T ∧ K7 S0 T) X9_2 v0 v4 v5 v6 v7 S := by
  delta B_X11_stepOf_9 at h ⊢
  obtain ⟨c1, h⟩ := h
  refine ⟨c1, ?_⟩
  have n2 := k7_nk K c1 (by decide)
  have o3 := c1
  obtain ⟨b4, e5, h⟩ := h
  refine ⟨b4, e5, ?_⟩
  have n6 := k7_nr K e5 o3 (by decide)
  refine cm_X11_spotOf (kw_X11_spotOf h) h (fun x7 x8 p10 h g9 => ?_)
  have h := h g9
  have K := k7_tr K p10.2
  have o3 := gr_ob p10.2.1 o3
  obtain ⟨c11, h⟩ := h
  refine ⟨c11, ?_⟩
  obtain ⟨c12, h⟩ := h
  refine ⟨c12, ?_⟩
  intro x14 e13
  have h := h x14 e13
  refine ⟨?_, ?_⟩
  · intro c15
    have h := h.1 c15
    refine ⟨?_, ?_⟩
    · intro c16
      have h := h.1 c16
      exact ⟨h, K⟩
    · intro c17
      have h := h.2 c17
      exact ⟨h, K⟩
  · intro c18
    have h := h.2 c18
    obtain ⟨b19, e20, h⟩ := h
    refine ⟨b19, e20, ?_⟩
    have n21 := k7_nr K e20 o3 (by decide)
    refine cm_X11_spotOf (kw_X11_spotOf h) h (fun x22 x23 p25 h g24 => ?_)
    have h := h g24
    have K := k7_tr K p25.2
    have o3 := gr_ob p25.2.1 o3
    obtain ⟨c26, h⟩ := h
    refine ⟨c26, ?_⟩
    obtain ⟨c27, h⟩ := h
    refine ⟨c27, ?_⟩
    intro x29 e28
    have h := h x29 e28
    refine ⟨?_, ?_⟩
    · intro c30
      have h := h.1 c30
      intro x32 e31
      have h := h x32 e31
      refine ⟨?_, ?_⟩
      · intro c33
        have h := h.1 c33
        obtain ⟨b34, e35, h⟩ := h
        refine ⟨b34, e35, ?_⟩
        intro x37 e36
        have h := h x37 e36
        intro x39 e38
        have h := h x39 e38
        obtain ⟨c40, h⟩ := h
        refine ⟨c40, ?_⟩
        have n41 := k7_nk K c40 (by decide)
        refine cm_X10_minutes (kw_X10_minutes h) h (fun x42 x43 p45 h g44 => ?_)
        have h := h g44
        have K := k7_tr K p45.2
        have o3 := gr_ob p45.2.1 o3
        exact kw_X11_stepOf_82 h K hX9
      · intro c46
        have h := h.2 c46
        exact kw_X11_stepOf_82 h K hX9
    · intro c47
      have h := h.2 c47
      exact ⟨h, K⟩
theorem kw_X11_stepOf_9 {Q : Int32 → HS → Prop} {v0 : Nat} {v4 : Int32} {v5 : Int32} {v6 : Int32} {v7 : Int32} {S0 S : HS} (h : P_X11_stepOf_9 Q v0 v4 v5 v6 v7 S) (K : K7 S0 S) : P_X11_stepOf_9 (fun r T => Q r T ∧ K7 S0 T) v0 v4 v5 v6 v7 S := h (fun v0 v4 v5 v6 v7 S => K7 S0 S → P_X11_stepOf_9 (fun r T => Q r T ∧ K7 S0 T) v0 v4 v5 v6 v7 S) (fun v0 v4 v5 v6 v7 S hB K => fd_X11_stepOf_9 (kwB_X11_stepOf_9 hB K (fun _ _ _ _ _ _ hx K => hx K))) K
set_option maxRecDepth 20000 in
set_option maxHeartbeats 1000000 in
theorem kw_X11_stepOf_0 {Q : Int32 → HS → Prop} {v0 : Nat} {v2 : Int32} {v3 : Int32} {v4 : Int32} {S0 S : HS} (h : P_X11_stepOf_0 Q v0 v2 v3 v4 S) (K : K7 S0 S) : P_X11_stepOf_0 (fun r T => Q r T ∧ K7 S0 T) v0 v2 v3 v4 S := by
  delta P_X11_stepOf_0 at h ⊢
  exact kw_X11_stepOf_9 h K
theorem kw_X11_stepOf {Q : Int32 → HS → Prop} {v0 : Nat} {v1 : Int32} {v2 : Int32} {v3 : Int32} {v4 : Int32} {S : HS} (h : P_X11_stepOf v0 v1 v2 v3 v4 Q S) : P_X11_stepOf v0 v1 v2 v3 v4 (fun r T => Q r T ∧ K7 S T) S := kw_X11_stepOf_0 h (k7_rf S)
set_option maxRecDepth 20000 in
set_option maxHeartbeats 1000000 in
theorem kw_X11_step_49 {Q : Int32 → HS → Prop} {v0 : Nat} {s0 : Int32} {S0 S : HS} (h : P_X11_step_49 Q v0 s0 S) (K : K7 S0 S) : P_X11_step_49 (fun r T => Q r T ∧ K7 S0 T) v0 s0 S := by
  delta P_X11_step_49 at h ⊢
  refine ⟨?_, ?_⟩
  · intro c1
    have h := h.1 c1
    obtain ⟨c2, h⟩ := h
    refine ⟨c2, ?_⟩
    have n3 := k7_nk K c2 (by decide)
    have o4 := c2
    refine cm_X11_good (kw_X11_good h) h (fun x5 x6 p8 h g7 => ?_)
    have h := h g7
    have K := k7_tr K p8.2
    have o4 := gr_ob p8.2.1 o4
    exact ⟨h, K⟩
  · intro c9
    have h := h.2 c9
    obtain ⟨c10, h⟩ := h
    refine ⟨c10, ?_⟩
    have n11 := k7_nk K c10 (by decide)
    have o12 := c10
    refine cm_X11_refused (kw_X11_refused h) h (fun x13 x14 p16 h g15 => ?_)
    have h := h g15
    have K := k7_tr K p16.2
    have o12 := gr_ob p16.2.1 o12
    exact ⟨h, K⟩
set_option maxRecDepth 20000 in
set_option maxHeartbeats 1000000 in
theorem kw_X11_step_0 {Q : Int32 → HS → Prop} {v0 : Nat} {v1 : Int32} {v2 : Int32} {v3 : Int32} {v4 : Int32} {v5 : Int32} {v6 : Int32} {S0 S : HS} (h : P_X11_step_0 Q v0 v1 v2 v3 v4 v5 v6 S) (K : K7 S0 S) : P_X11_step_0 (fun r T => Q r T ∧ K7 S0 T) v0 v1 v2 v3 v4 v5 v6 S := by
  delta P_X11_step_0 at h ⊢
  obtain ⟨c1, h⟩ := h
  refine ⟨c1, ?_⟩
  have n2 := k7_nk K c1 (by decide)
  have o3 := c1
  intro x5 e4
  have h := h x5 e4
  have K := k7_I K e4 n2
  have o3 := ob_wI o3 e4
  refine cm_X11_refusesWay (kw_X11_refusesWay h) h (fun x6 x7 p9 h g8 => ?_)
  have h := h g8
  have K := k7_tr K p9.2
  have o3 := gr_ob p9.2.1 o3
  refine ⟨?_, ?_⟩
  · intro c10
    have h := h.1 c10
    refine ⟨?_, ?_⟩
    · intro c11
      have h := h.1 c11
      refine cm_X11_stepOf (kw_X11_stepOf h) h (fun x12 x13 p15 h g14 => ?_)
      have h := h g14
      have K := k7_tr K p15.2
      have o3 := gr_ob p15.2.1 o3
      exact kw_X11_step_49 h K
    · intro c16
      have h := h.2 c16
      exact kw_X11_step_49 h K
  · intro c17
    have h := h.2 c17
    refine cm_X11_refused (kw_X11_refused h) h (fun x18 x19 p21 h g20 => ?_)
    have h := h g20
    have K := k7_tr K p21.2
    have o3 := gr_ob p21.2.1 o3
    exact ⟨h, K⟩
theorem kw_X11_step {Q : Int32 → HS → Prop} {v0 : Nat} {v1 : Int32} {v2 : Int32} {v3 : Int32} {v4 : Int32} {v5 : Int32} {v6 : Int32} {S : HS} (h : P_X11_step v0 v1 v2 v3 v4 v5 v6 Q S) : P_X11_step v0 v1 v2 v3 v4 v5 v6 (fun r T => Q r T ∧ K7 S T) S := kw_X11_step_0 h (k7_rf S)
set_option maxRecDepth 20000 in
set_option maxHeartbeats 1000000 in
theorem kw_X11_steps_0 {Q : Int32 → HS → Prop} {v0 : Nat} {v1 : Int32} {v2 : Int32} {v3 : Int32} {v4 : Int32} {v5 : Int32} {S0 S : HS} (h : P_X11_steps_0 Q v0 v1 v2 v3 v4 v5 S) (K : K7 S0 S) : P_X11_steps_0 (fun r T => Q r T ∧ K7 S0 T) v0 v1 v2 v3 v4 v5 S := by
  delta P_X11_steps_0 at h ⊢
  obtain ⟨c1, h⟩ := h
  refine ⟨c1, ?_⟩
  have n2 := k7_nk K c1 (by decide)
  have o3 := c1
  intro x5 e4
  have h := h x5 e4
  have K := k7_I K e4 n2
  have o3 := ob_wI o3 e4
  refine cm_X11_refusesWay (kw_X11_refusesWay h) h (fun x6 x7 p9 h g8 => ?_)
  have h := h g8
  have K := k7_tr K p9.2
  have o3 := gr_ob p9.2.1 o3
  refine ⟨?_, ?_⟩
  · intro c10
    have h := h.1 c10
    refine cm_X11_stepOf (kw_X11_stepOf h) h (fun x11 x12 p14 h g13 => ?_)
    have h := h g13
    have K := k7_tr K p14.2
    have o3 := gr_ob p14.2.1 o3
    refine cm_X11_good (kw_X11_good h) h (fun x15 x16 p18 h g17 => ?_)
    have h := h g17
    have K := k7_tr K p18.2
    have o3 := gr_ob p18.2.1 o3
    exact ⟨h, K⟩
  · intro c19
    have h := h.2 c19
    refine cm_X11_refused (kw_X11_refused h) h (fun x20 x21 p23 h g22 => ?_)
    have h := h g22
    have K := k7_tr K p23.2
    have o3 := gr_ob p23.2.1 o3
    exact ⟨h, K⟩
theorem kw_X11_steps {Q : Int32 → HS → Prop} {v0 : Nat} {v1 : Int32} {v2 : Int32} {v3 : Int32} {v4 : Int32} {v5 : Int32} {S : HS} (h : P_X11_steps v0 v1 v2 v3 v4 v5 Q S) : P_X11_steps v0 v1 v2 v3 v4 v5 (fun r T => Q r T ∧ K7 S T) S := kw_X11_steps_0 h (k7_rf S)
set_option maxRecDepth 20000 in
set_option maxHeartbeats 1000000 in
theorem kw_X11_there_0 {Q : Int32 → HS → Prop} {v0 : Nat} {v1 : Int32} {v2 : Int32} {v3 : Int32} {v4 : Int32} {v5 : Int32} {S0 S : HS} (h : P_X11_there_0 Q v0 v1 v2 v3 v4 v5 S) (K : K7 S0 S) : P_X11_there_0 (fun r T => Q r T ∧ K7 S0 T) v0 v1 v2 v3 v4 v5 S := by
  delta P_X11_there_0 at h ⊢
  obtain ⟨c1, h⟩ := h
  refine ⟨c1, ?_⟩
  have n2 := k7_nk K c1 (by decide)
  have o3 := c1
  intro x5 e4
  have h := h x5 e4
  have K := k7_I K e4 n2
  have o3 := ob_wI o3 e4
  refine cm_X11_refusesWay (kw_X11_refusesWay h) h (fun x6 x7 p9 h g8 => ?_)
  have h := h g8
  have K := k7_tr K p9.2
  have o3 := gr_ob p9.2.1 o3
  refine ⟨?_, ?_⟩
  · intro c10
    have h := h.1 c10
    obtain ⟨b11, e12, h⟩ := h
    refine ⟨b11, e12, ?_⟩
    have n13 := k7_nr K e12 o3 (by decide)
    refine cm_X11_spotOf (kw_X11_spotOf h) h (fun x14 x15 p17 h g16 => ?_)
    have h := h g16
    have K := k7_tr K p17.2
    have o3 := gr_ob p17.2.1 o3
    obtain ⟨c18, h⟩ := h
    refine ⟨c18, ?_⟩
    obtain ⟨c19, h⟩ := h
    refine ⟨c19, ?_⟩
    intro x21 e20
    have h := h x21 e20
    refine cm_X11_good (kw_X11_good h) h (fun x22 x23 p25 h g24 => ?_)
    have h := h g24
    have K := k7_tr K p25.2
    have o3 := gr_ob p25.2.1 o3
    exact ⟨h, K⟩
  · intro c26
    have h := h.2 c26
    refine cm_X11_refused (kw_X11_refused h) h (fun x27 x28 p30 h g29 => ?_)
    have h := h g29
    have K := k7_tr K p30.2
    have o3 := gr_ob p30.2.1 o3
    exact ⟨h, K⟩
theorem kw_X11_there {Q : Int32 → HS → Prop} {v0 : Nat} {v1 : Int32} {v2 : Int32} {v3 : Int32} {v4 : Int32} {v5 : Int32} {S : HS} (h : P_X11_there v0 v1 v2 v3 v4 v5 Q S) : P_X11_there v0 v1 v2 v3 v4 v5 (fun r T => Q r T ∧ K7 S T) S := kw_X11_there_0 h (k7_rf S)
set_option maxRecDepth 20000 in
set_option maxHeartbeats 1000000 in
theorem kw_X11_trouble_0 {Q : Int32 → HS → Prop} {v0 : Nat} {S0 S : HS} (h : P_X11_trouble_0 Q v0 S) (K : K7 S0 S) : P_X11_trouble_0 (fun r T => Q r T ∧ K7 S0 T) v0 S := by
  delta P_X11_trouble_0 at h ⊢
  obtain ⟨c1, h⟩ := h
  refine ⟨c1, ?_⟩
  have n2 := k7_nk K c1 (by decide)
  have o3 := c1
  intro x5 e4
  have h := h x5 e4
  have K := k7_I K e4 n2
  have o3 := ob_wI o3 e4
  intro x7 e6
  have h := h x7 e6
  exact ⟨h, K⟩
theorem kw_X11_trouble {Q : Int32 → HS → Prop} {v0 : Nat} {S : HS} (h : P_X11_trouble v0 Q S) : P_X11_trouble v0 (fun r T => Q r T ∧ K7 S T) S := kw_X11_trouble_0 h (k7_rf S)
set_option maxRecDepth 20000 in
set_option maxHeartbeats 1000000 in
theorem kw_X11_undo_19 {Q : Int32 → HS → Prop} {v0 : Nat} {S0 S : HS} (h : P_X11_undo_19 Q v0 S) (K : K7 S0 S) : P_X11_undo_19 (fun r T => Q r T ∧ K7 S0 T) v0 S := by
  delta P_X11_undo_19 at h ⊢
  obtain ⟨c1, h⟩ := h
  refine ⟨c1, ?_⟩
  have n2 := k7_nk K c1 (by decide)
  have o3 := c1
  refine cm_X11_denied (kw_X11_denied h) h (fun x4 x5 p8 h g6 g7 => ?_)
  have h := h g6 g7
  have K := k7_tr K p8.2
  have o3 := gr_ob p8.2.1 o3
  obtain ⟨c9, h⟩ := h
  refine ⟨c9, ?_⟩
  exact ⟨h, K⟩
set_option maxRecDepth 20000 in
set_option maxHeartbeats 1000000 in
theorem kwB_X11_undo_38 {Q : Int32 → HS → Prop} {X38 X38_2 : Nat → Int32 → HS → Prop} {v0 : Nat} {v1 : Int32} {S0 S : HS} (h : B_X11_undo_38 Q X38 v0 v1 S) (K : K7 S0 S) (hX38 : ∀ (u0 : Nat) (u1 : Int32) (u2 : HS), X38 u0 u1 u2 → K7 S0 u2 → X38_2 u0 u1 u2) : B_X11_undo_38 (fun r T => Q r T ∧ K7 S0 T) X38_2 v0 v1 S := by
  delta B_X11_undo_38 at h ⊢
  refine ⟨?_, ?_⟩
  · intro c1
    have h := h.1 c1
    obtain ⟨c2, h⟩ := h
    refine ⟨c2, ?_⟩
    have n3 := k7_nk K c2 (by decide)
    have o4 := c2
    refine cm_X11_granted (kw_X11_granted h) h (fun x5 x6 p9 h g7 g8 => ?_)
    have h := h g7 g8
    have K := k7_tr K p9.2
    have o4 := gr_ob p9.2.1 o4
    obtain ⟨c10, h⟩ := h
    refine ⟨c10, ?_⟩
    exact ⟨h, K⟩
  · intro c11
    have h := h.2 c11
    obtain ⟨c12, h⟩ := h
    refine ⟨c12, ?_⟩
    have n13 := k7_nk K c12 (by decide)
    have o14 := c12
    obtain ⟨b15, e16, h⟩ := h
    refine ⟨b15, e16, ?_⟩
    obtain ⟨b17, e18, h⟩ := h
    refine ⟨b17, e18, ?_⟩
    intro x20 e19
    have h := h x20 e19
    obtain ⟨c21, h⟩ := h
    refine ⟨c21, ?_⟩
    have n22 := k7_nk K c21 (by decide)
    intro x24 e23
    have h := h x24 e23
    obtain ⟨c25, h⟩ := h
    refine ⟨c25, ?_⟩
    intro x27 e26
    have h := h x27 e26
    obtain ⟨c28, h⟩ := h
    refine ⟨c28, ?_⟩
    have n29 := k7_nk K c28 (by decide)
    obtain ⟨c30, h⟩ := h
    refine ⟨c30, ?_⟩
    intro x32 e31
    have h := h x32 e31
    have K := k7_J K e31
    have o14 := ob_wJ o14 e31
    intro x34 e33
    have h := h x34 e33
    exact hX38 _ _ _ h K
theorem kw_X11_undo_38 {Q : Int32 → HS → Prop} {v0 : Nat} {v1 : Int32} {S0 S : HS} (h : P_X11_undo_38 Q v0 v1 S) (K : K7 S0 S) : P_X11_undo_38 (fun r T => Q r T ∧ K7 S0 T) v0 v1 S := h (fun v0 v1 S => K7 S0 S → P_X11_undo_38 (fun r T => Q r T ∧ K7 S0 T) v0 v1 S) (fun v0 v1 S hB K => fd_X11_undo_38 (kwB_X11_undo_38 hB K (fun _ _ _ hx K => hx K))) K
set_option maxRecDepth 20000 in
set_option maxHeartbeats 1000000 in
theorem kw_X11_undo_0 {Q : Int32 → HS → Prop} {v0 : Nat} {S0 S : HS} (h : P_X11_undo_0 Q v0 S) (K : K7 S0 S) : P_X11_undo_0 (fun r T => Q r T ∧ K7 S0 T) v0 S := by
  delta P_X11_undo_0 at h ⊢
  obtain ⟨c1, h⟩ := h
  refine ⟨c1, ?_⟩
  have n2 := k7_nk K c1 (by decide)
  have o3 := c1
  intro x5 e4
  have h := h x5 e4
  have K := k7_I K e4 n2
  have o3 := ob_wI o3 e4
  refine cm_X11_isDay (kw_X11_isDay h) h (fun x6 x7 p10 h g8 g9 => ?_)
  have h := h g8 g9
  have K := k7_tr K p10.2
  have o3 := gr_ob p10.2.1 o3
  refine ⟨?_, ?_⟩
  · intro c11
    have h := h.1 c11
    exact kw_X11_undo_19 h K
  · intro c12
    have h := h.2 c12
    intro x14 e13
    have h := h x14 e13
    refine ⟨?_, ?_⟩
    · intro c15
      have h := h.1 c15
      intro x17 e16
      have h := h x17 e16
      intro x19 e18
      have h := h x19 e18
      intro x21 e20
      have h := h x21 e20
      have K := k7_I K e20 n2
      have o3 := ob_wI o3 e20
      exact kw_X11_undo_38 h K
    · intro c22
      have h := h.2 c22
      exact kw_X11_undo_19 h K
theorem kw_X11_undo {Q : Int32 → HS → Prop} {v0 : Nat} {S : HS} (h : P_X11_undo v0 Q S) : P_X11_undo v0 (fun r T => Q r T ∧ K7 S T) S := kw_X11_undo_0 h (k7_rf S)
set_option maxRecDepth 20000 in
set_option maxHeartbeats 1000000 in
theorem kw_X11_walker_23 {Q : Int32 → HS → Prop} {v0 : Nat} {S0 S : HS} (h : P_X11_walker_23 Q v0 S) (K : K7 S0 S) : P_X11_walker_23 (fun r T => Q r T ∧ K7 S0 T) v0 S := by
  delta P_X11_walker_23 at h ⊢
  obtain ⟨c1, h⟩ := h
  refine ⟨c1, ?_⟩
  have n2 := k7_nk K c1 (by decide)
  have o3 := c1
  refine cm_X11_refused (kw_X11_refused h) h (fun x4 x5 p7 h g6 => ?_)
  have h := h g6
  have K := k7_tr K p7.2
  have o3 := gr_ob p7.2.1 o3
  exact ⟨h, K⟩
set_option maxRecDepth 20000 in
set_option maxHeartbeats 1000000 in
theorem kw_X11_walker_0 {Q : Int32 → HS → Prop} {v0 : Nat} {v1 : Int32} {v2 : Int32} {S0 S : HS} (h : P_X11_walker_0 Q v0 v1 v2 S) (K : K7 S0 S) : P_X11_walker_0 (fun r T => Q r T ∧ K7 S0 T) v0 v1 v2 S := by
  delta P_X11_walker_0 at h ⊢
  obtain ⟨c1, h⟩ := h
  refine ⟨c1, ?_⟩
  have n2 := k7_nk K c1 (by decide)
  have o3 := c1
  intro x5 e4
  have h := h x5 e4
  have K := k7_I K e4 n2
  have o3 := ob_wI o3 e4
  refine cm_X11_isWalker (kw_X11_isWalker h) h (fun x6 x7 p10 h g8 g9 => ?_)
  have h := h g8 g9
  have K := k7_tr K p10.2
  have o3 := gr_ob p10.2.1 o3
  refine ⟨?_, ?_⟩
  · intro c11
    have h := h.1 c11
    exact kw_X11_walker_23 h K
  · intro c12
    have h := h.2 c12
    refine cm_X11_in (kw_X11_in h) h (fun x13 x14 p17 h g15 g16 => ?_)
    have h := h g15 g16
    have K := k7_tr K p17.2
    have o3 := gr_ob p17.2.1 o3
    refine ⟨?_, ?_⟩
    · intro c18
      have h := h.1 c18
      refine ⟨?_, ?_, ?_, ?_, ?_, ?_, ?_⟩
      · intro c19
        have h := h.1 c19
        obtain ⟨b20, e21, h⟩ := h
        refine ⟨b20, e21, ?_⟩
        obtain ⟨c22, h⟩ := h
        refine ⟨c22, ?_⟩
        have n23 := k7_nk K c22 (by decide)
        obtain ⟨b24, e25, h⟩ := h
        refine ⟨b24, e25, ?_⟩
        obtain ⟨c26, h⟩ := h
        refine ⟨c26, ?_⟩
        obtain ⟨c27, h⟩ := h
        refine ⟨c27, ?_⟩
        intro x29 e28
        have h := h x29 e28
        refine cm_X11_good (kw_X11_good h) h (fun x30 x31 p33 h g32 => ?_)
        have h := h g32
        have K := k7_tr K p33.2
        have o3 := gr_ob p33.2.1 o3
        exact ⟨h, K⟩
      · intro c34
        have h := h.2.1 c34
        obtain ⟨b35, e36, h⟩ := h
        refine ⟨b35, e36, ?_⟩
        obtain ⟨c37, h⟩ := h
        refine ⟨c37, ?_⟩
        have n38 := k7_nk K c37 (by decide)
        obtain ⟨b39, e40, h⟩ := h
        refine ⟨b39, e40, ?_⟩
        obtain ⟨c41, h⟩ := h
        refine ⟨c41, ?_⟩
        obtain ⟨c42, h⟩ := h
        refine ⟨c42, ?_⟩
        intro x44 e43
        have h := h x44 e43
        refine cm_X11_good (kw_X11_good h) h (fun x45 x46 p48 h g47 => ?_)
        have h := h g47
        have K := k7_tr K p48.2
        have o3 := gr_ob p48.2.1 o3
        exact ⟨h, K⟩
      · intro c49
        have h := h.2.2.1 c49
        obtain ⟨b50, e51, h⟩ := h
        refine ⟨b50, e51, ?_⟩
        obtain ⟨c52, h⟩ := h
        refine ⟨c52, ?_⟩
        have n53 := k7_nk K c52 (by decide)
        obtain ⟨b54, e55, h⟩ := h
        refine ⟨b54, e55, ?_⟩
        obtain ⟨c56, h⟩ := h
        refine ⟨c56, ?_⟩
        obtain ⟨c57, h⟩ := h
        refine ⟨c57, ?_⟩
        intro x59 e58
        have h := h x59 e58
        refine cm_X11_good (kw_X11_good h) h (fun x60 x61 p63 h g62 => ?_)
        have h := h g62
        have K := k7_tr K p63.2
        have o3 := gr_ob p63.2.1 o3
        exact ⟨h, K⟩
      · intro c64
        have h := h.2.2.2.1 c64
        obtain ⟨b65, e66, h⟩ := h
        refine ⟨b65, e66, ?_⟩
        obtain ⟨c67, h⟩ := h
        refine ⟨c67, ?_⟩
        have n68 := k7_nk K c67 (by decide)
        obtain ⟨b69, e70, h⟩ := h
        refine ⟨b69, e70, ?_⟩
        obtain ⟨c71, h⟩ := h
        refine ⟨c71, ?_⟩
        obtain ⟨c72, h⟩ := h
        refine ⟨c72, ?_⟩
        intro x74 e73
        have h := h x74 e73
        refine cm_X11_good (kw_X11_good h) h (fun x75 x76 p78 h g77 => ?_)
        have h := h g77
        have K := k7_tr K p78.2
        have o3 := gr_ob p78.2.1 o3
        exact ⟨h, K⟩
      · intro c79
        have h := h.2.2.2.2.1 c79
        obtain ⟨b80, e81, h⟩ := h
        refine ⟨b80, e81, ?_⟩
        obtain ⟨c82, h⟩ := h
        refine ⟨c82, ?_⟩
        have n83 := k7_nk K c82 (by decide)
        obtain ⟨b84, e85, h⟩ := h
        refine ⟨b84, e85, ?_⟩
        obtain ⟨c86, h⟩ := h
        refine ⟨c86, ?_⟩
        obtain ⟨c87, h⟩ := h
        refine ⟨c87, ?_⟩
        intro x89 e88
        have h := h x89 e88
        refine cm_X11_good (kw_X11_good h) h (fun x90 x91 p93 h g92 => ?_)
        have h := h g92
        have K := k7_tr K p93.2
        have o3 := gr_ob p93.2.1 o3
        exact ⟨h, K⟩
      · intro c94
        have h := h.2.2.2.2.2.1 c94
        obtain ⟨b95, e96, h⟩ := h
        refine ⟨b95, e96, ?_⟩
        obtain ⟨c97, h⟩ := h
        refine ⟨c97, ?_⟩
        have n98 := k7_nk K c97 (by decide)
        obtain ⟨b99, e100, h⟩ := h
        refine ⟨b99, e100, ?_⟩
        obtain ⟨c101, h⟩ := h
        refine ⟨c101, ?_⟩
        obtain ⟨c102, h⟩ := h
        refine ⟨c102, ?_⟩
        intro x104 e103
        have h := h x104 e103
        refine cm_X11_good (kw_X11_good h) h (fun x105 x106 p108 h g107 => ?_)
        have h := h g107
        have K := k7_tr K p108.2
        have o3 := gr_ob p108.2.1 o3
        exact ⟨h, K⟩
      · intro c109
        have h := h.2.2.2.2.2.2 c109
        obtain ⟨b110, e111, h⟩ := h
        refine ⟨b110, e111, ?_⟩
        obtain ⟨c112, h⟩ := h
        refine ⟨c112, ?_⟩
        have n113 := k7_nk K c112 (by decide)
        obtain ⟨b114, e115, h⟩ := h
        refine ⟨b114, e115, ?_⟩
        obtain ⟨c116, h⟩ := h
        refine ⟨c116, ?_⟩
        obtain ⟨c117, h⟩ := h
        refine ⟨c117, ?_⟩
        intro x119 e118
        have h := h x119 e118
        refine cm_X11_good (kw_X11_good h) h (fun x120 x121 p123 h g122 => ?_)
        have h := h g122
        have K := k7_tr K p123.2
        have o3 := gr_ob p123.2.1 o3
        exact ⟨h, K⟩
    · intro c124
      have h := h.2 c124
      exact kw_X11_walker_23 h K
theorem kw_X11_walker {Q : Int32 → HS → Prop} {v0 : Nat} {v1 : Int32} {v2 : Int32} {S : HS} (h : P_X11_walker v0 v1 v2 Q S) : P_X11_walker v0 v1 v2 (fun r T => Q r T ∧ K7 S T) S := kw_X11_walker_0 h (k7_rf S)
set_option maxRecDepth 20000 in
set_option maxHeartbeats 1000000 in
theorem kw_X11_wet_0 {Q : Int64 → HS → Prop} {v0 : Nat} {v1 : Int32} {v2 : Int32} {v3 : Int32} {v4 : Int32} {v5 : Int32} {v6 : Int32} {S0 S : HS} (h : P_X11_wet_0 Q v0 v1 v2 v3 v4 v5 v6 S) (K : K7 S0 S) : P_X11_wet_0 (fun r T => Q r T ∧ K7 S0 T) v0 v1 v2 v3 v4 v5 v6 S := by
  delta P_X11_wet_0 at h ⊢
  obtain ⟨c1, h⟩ := h
  refine ⟨c1, ?_⟩
  have n2 := k7_nk K c1 (by decide)
  have o3 := c1
  intro x5 e4
  have h := h x5 e4
  have K := k7_I K e4 n2
  have o3 := ob_wI o3 e4
  refine cm_X11_refuses (kw_X11_refuses h) h (fun x6 x7 p9 h g8 => ?_)
  have h := h g8
  have K := k7_tr K p9.2
  have o3 := gr_ob p9.2.1 o3
  refine ⟨?_, ?_⟩
  · intro c10
    have h := h.1 c10
    refine cm_X11_wetOf (kw_X11_wetOf h) h (fun x11 x12 p14 h g13 => ?_)
    have h := h g13
    have K := k7_tr K p14.2
    have o3 := gr_ob p14.2.1 o3
    refine cm_X11_told (kw_X11_told h) h (fun x15 x16 p18 h g17 => ?_)
    have h := h g17
    have K := k7_tr K p18.2
    have o3 := gr_ob p18.2.1 o3
    exact ⟨h, K⟩
  · intro c19
    have h := h.2 c19
    refine cm_X11_refused (kw_X11_refused h) h (fun x20 x21 p23 h g22 => ?_)
    have h := h g22
    have K := k7_tr K p23.2
    have o3 := gr_ob p23.2.1 o3
    exact ⟨h, K⟩
theorem kw_X11_wet {Q : Int64 → HS → Prop} {v0 : Nat} {v1 : Int32} {v2 : Int32} {v3 : Int32} {v4 : Int32} {v5 : Int32} {v6 : Int32} {S : HS} (h : P_X11_wet v0 v1 v2 v3 v4 v5 v6 Q S) : P_X11_wet v0 v1 v2 v3 v4 v5 v6 (fun r T => Q r T ∧ K7 S T) S := kw_X11_wet_0 h (k7_rf S)
set_option maxRecDepth 20000 in
set_option maxHeartbeats 1000000 in
theorem kw_X11_wetness_41 {Q : Int64 → HS → Prop} {v1 : Int32} {s0 : Nat} {s1 : Int64} {S0 S : HS} (h : P_X11_wetness_41 Q v1 s0 s1 S) (K : K7 S0 S) : P_X11_wetness_41 (fun r T => Q r T ∧ K7 S0 T) v1 s0 s1 S := by
  delta P_X11_wetness_41 at h ⊢
  obtain ⟨c1, h⟩ := h
  refine ⟨c1, ?_⟩
  have n2 := k7_nk K c1 (by decide)
  have o3 := c1
  refine cm_X11_told (kw_X11_told h) h (fun x4 x5 p7 h g6 => ?_)
  have h := h g6
  have K := k7_tr K p7.2
  have o3 := gr_ob p7.2.1 o3
  exact ⟨h, K⟩
set_option maxRecDepth 20000 in
set_option maxHeartbeats 1000000 in
theorem kw_X11_wetness_0 {Q : Int64 → HS → Prop} {v0 : Nat} {v1 : Int32} {S0 S : HS} (h : P_X11_wetness_0 Q v0 v1 S) (K : K7 S0 S) : P_X11_wetness_0 (fun r T => Q r T ∧ K7 S0 T) v0 v1 S := by
  delta P_X11_wetness_0 at h ⊢
  obtain ⟨c1, h⟩ := h
  refine ⟨c1, ?_⟩
  have n2 := k7_nk K c1 (by decide)
  have o3 := c1
  intro x5 e4
  have h := h x5 e4
  have K := k7_I K e4 n2
  have o3 := ob_wI o3 e4
  refine cm_X11_isDay (kw_X11_isDay h) h (fun x6 x7 p10 h g8 g9 => ?_)
  have h := h g8 g9
  have K := k7_tr K p10.2
  have o3 := gr_ob p10.2.1 o3
  refine ⟨?_, ?_⟩
  · intro c11
    have h := h.1 c11
    refine cm_X11_gotInAll (kw_X11_gotInAll h) h (fun x12 x13 p15 h g14 => ?_)
    have h := h g14
    have K := k7_tr K p15.2
    have o3 := gr_ob p15.2.1 o3
    refine cm_X11_holds (kw_X11_holds h) h (fun x16 x17 p19 h g18 => ?_)
    have h := h g18
    have K := k7_tr K p19.2
    have o3 := gr_ob p19.2.1 o3
    intro x21 e20
    have h := h x21 e20
    refine ⟨?_, ?_⟩
    · intro c22
      have h := h.1 c22
      exact kw_X11_wetness_41 h K
    · intro c23
      have h := h.2 c23
      exact kw_X11_wetness_41 h K
  · intro c24
    have h := h.2 c24
    refine cm_X11_refused (kw_X11_refused h) h (fun x25 x26 p28 h g27 => ?_)
    have h := h g27
    have K := k7_tr K p28.2
    have o3 := gr_ob p28.2.1 o3
    exact ⟨h, K⟩
theorem kw_X11_wetness {Q : Int64 → HS → Prop} {v0 : Nat} {v1 : Int32} {S : HS} (h : P_X11_wetness v0 v1 Q S) : P_X11_wetness v0 v1 (fun r T => Q r T ∧ K7 S T) S := kw_X11_wetness_0 h (k7_rf S)
set_option maxRecDepth 20000 in
set_option maxHeartbeats 1000000 in
theorem kw_X11_where_0 {Q : Int32 → HS → Prop} {v0 : Nat} {S0 S : HS} (h : P_X11_where_0 Q v0 S) (K : K7 S0 S) : P_X11_where_0 (fun r T => Q r T ∧ K7 S0 T) v0 S := by
  delta P_X11_where_0 at h ⊢
  obtain ⟨c1, h⟩ := h
  refine ⟨c1, ?_⟩
  have n2 := k7_nk K c1 (by decide)
  have o3 := c1
  intro x5 e4
  have h := h x5 e4
  have K := k7_I K e4 n2
  have o3 := ob_wI o3 e4
  intro x7 e6
  have h := h x7 e6
  exact ⟨h, K⟩
theorem kw_X11_where {Q : Int32 → HS → Prop} {v0 : Nat} {S : HS} (h : P_X11_where v0 Q S) : P_X11_where v0 (fun r T => Q r T ∧ K7 S T) S := kw_X11_where_0 h (k7_rf S)
set_option maxRecDepth 20000 in
set_option maxHeartbeats 1000000 in
theorem kw_X11_worst_39 {Q : Int32 → HS → Prop} {v0 : Nat} {S0 S : HS} (h : P_X11_worst_39 Q v0 S) (K : K7 S0 S) : P_X11_worst_39 (fun r T => Q r T ∧ K7 S0 T) v0 S := by
  delta P_X11_worst_39 at h ⊢
  obtain ⟨c1, h⟩ := h
  refine ⟨c1, ?_⟩
  have n2 := k7_nk K c1 (by decide)
  have o3 := c1
  refine cm_X11_refused (kw_X11_refused h) h (fun x4 x5 p7 h g6 => ?_)
  have h := h g6
  have K := k7_tr K p7.2
  have o3 := gr_ob p7.2.1 o3
  exact ⟨h, K⟩
set_option maxRecDepth 20000 in
set_option maxHeartbeats 1000000 in
theorem kw_X11_worst_106 {Q : Int32 → HS → Prop} {X62 X62_2 : Nat → Int32 → Int32 → Int32 → Int32 → Int32 → Int32 → HS → Prop} {v0 : Nat} {v1 : Int32} {v2 : Int32} {v3 : Int32} {v4 : Int32} {v5 : Int32} {v6 : Int32} {S0 S : HS} (h : P_X11_worst_106 Q X62 v0 v1 v2 v3 v4 v5 v6 S) (K : K7 S0 S) (hX62 : ∀ (u0 : Nat) (u1 : Int32) (u2 : Int32) (u3 : Int32) (u4 : Int32) (u5 : Int32) (u6 : Int32) (u7 : HS), X62 u0 u1 u2 u3 u4 u5 u6 u7 → K7 S0 u7 → X62_2 u0 u1 u2 u3 u4 u5 u6 u7) : P_X11_worst_106 (fun r T => Q r T ∧ K7 S0 T) X62_2 v0 v1 v2 v3 v4 v5 v6 S := by
  delta P_X11_worst_106 at h ⊢
  intro x2 e1
  have h := h x2 e1
  exact hX62 _ _ _ _ _ _ _ _ h K
set_option maxRecDepth 20000 in
set_option maxHeartbeats 1000000 in
theorem kwB_X11_worst_62 {Q : Int32 → HS → Prop} {X62 X62_2 : Nat → Int32 → Int32 → Int32 → Int32 → Int32 → Int32 → HS → Prop} {v0 : Nat} {v1 : Int32} {v2 : Int32} {v3 : Int32} {v4 : Int32} {v5 : Int32} {v6 : Int32} {S0 S : HS} (h : B_X11_worst_62 Q X62 v0 v1 v2 v3 v4 v5 v6 S) (K : K7 S0 S) (hX62 : ∀ (u0 : Nat) (u1 : Int32) (u2 : Int32) (u3 : Int32) (u4 : Int32) (u5 : Int32) (u6 : Int32) (u7 : HS), X62 u0 u1 u2 u3 u4 u5 u6 u7 → K7 S0 u7 → X62_2 u0 u1 u2 u3 u4 u5 u6 u7) : B_X11_worst_62 (fun r T => Q r T ∧ K7 S0 T) X62_2 v0 v1 v2 v3 v4 v5 v6 S := by
  delta B_X11_worst_62 at h ⊢
  obtain ⟨c1, h⟩ := h
  refine ⟨c1, ?_⟩
  have n2 := k7_nk K c1 (by decide)
  have o3 := c1
  obtain ⟨b4, e5, h⟩ := h
  refine ⟨b4, e5, ?_⟩
  obtain ⟨c6, h⟩ := h
  refine ⟨c6, ?_⟩
  have n7 := k7_nk K c6 (by decide)
  obtain ⟨b8, e9, h⟩ := h
  refine ⟨b8, e9, ?_⟩
  obtain ⟨c10, h⟩ := h
  refine ⟨c10, ?_⟩
  obtain ⟨c11, h⟩ := h
  refine ⟨c11, ?_⟩
  intro x13 e12
  have h := h x13 e12
  refine ⟨?_, ?_⟩
  · intro c14
    have h := h.1 c14
    refine cm_X11_good (kw_X11_good h) h (fun x15 x16 p18 h g17 => ?_)
    have h := h g17
    have K := k7_tr K p18.2
    have o3 := gr_ob p18.2.1 o3
    exact ⟨h, K⟩
  · intro c19
    have h := h.2 c19
    refine cm_X11_wetOf (kw_X11_wetOf h) h (fun x20 x21 p23 h g22 => ?_)
    have h := h g22
    have K := k7_tr K p23.2
    have o3 := gr_ob p23.2.1 o3
    refine cm_X11_wetOf (kw_X11_wetOf h) h (fun x24 x25 p27 h g26 => ?_)
    have h := h g26
    have K := k7_tr K p27.2
    have o3 := gr_ob p27.2.1 o3
    refine ⟨?_, ?_⟩
    · intro c28
      have h := h.1 c28
      exact kw_X11_worst_106 h K hX62
    · intro c29
      have h := h.2 c29
      exact kw_X11_worst_106 h K hX62
theorem kw_X11_worst_62 {Q : Int32 → HS → Prop} {v0 : Nat} {v1 : Int32} {v2 : Int32} {v3 : Int32} {v4 : Int32} {v5 : Int32} {v6 : Int32} {S0 S : HS} (h : P_X11_worst_62 Q v0 v1 v2 v3 v4 v5 v6 S) (K : K7 S0 S) : P_X11_worst_62 (fun r T => Q r T ∧ K7 S0 T) v0 v1 v2 v3 v4 v5 v6 S := h (fun v0 v1 v2 v3 v4 v5 v6 S => K7 S0 S → P_X11_worst_62 (fun r T => Q r T ∧ K7 S0 T) v0 v1 v2 v3 v4 v5 v6 S) (fun v0 v1 v2 v3 v4 v5 v6 S hB K => fd_X11_worst_62 (kwB_X11_worst_62 hB K (fun _ _ _ _ _ _ _ _ hx K => hx K))) K
set_option maxRecDepth 20000 in
set_option maxHeartbeats 1000000 in
theorem kw_X11_worst_0 {Q : Int32 → HS → Prop} {v0 : Nat} {v1 : Int32} {v2 : Int32} {v3 : Int32} {v4 : Int32} {S0 S : HS} (h : P_X11_worst_0 Q v0 v1 v2 v3 v4 S) (K : K7 S0 S) : P_X11_worst_0 (fun r T => Q r T ∧ K7 S0 T) v0 v1 v2 v3 v4 S := by
  delta P_X11_worst_0 at h ⊢
  obtain ⟨c1, h⟩ := h
  refine ⟨c1, ?_⟩
  have n2 := k7_nk K c1 (by decide)
  have o3 := c1
  intro x5 e4
  have h := h x5 e4
  have K := k7_I K e4 n2
  have o3 := ob_wI o3 e4
  refine cm_X11_isWalker (kw_X11_isWalker h) h (fun x6 x7 p10 h g8 g9 => ?_)
  have h := h g8 g9
  have K := k7_tr K p10.2
  have o3 := gr_ob p10.2.1 o3
  refine ⟨?_, ?_⟩
  · intro c11
    have h := h.1 c11
    exact kw_X11_worst_39 h K
  · intro c12
    have h := h.2 c12
    refine cm_X11_isRoad (kw_X11_isRoad h) h (fun x13 x14 p17 h g15 g16 => ?_)
    have h := h g15 g16
    have K := k7_tr K p17.2
    have o3 := gr_ob p17.2.1 o3
    refine ⟨?_, ?_⟩
    · intro c18
      have h := h.1 c18
      exact kw_X11_worst_39 h K
    · intro c19
      have h := h.2 c19
      refine cm_X11_in (kw_X11_in h) h (fun x20 x21 p24 h g22 g23 => ?_)
      have h := h g22 g23
      have K := k7_tr K p24.2
      have o3 := gr_ob p24.2.1 o3
      refine ⟨?_, ?_⟩
      · intro c25
        have h := h.1 c25
        exact kw_X11_worst_39 h K
      · intro c26
        have h := h.2 c26
        refine cm_X11_isHour (kw_X11_isHour h) h (fun x27 x28 p31 h g29 g30 => ?_)
        have h := h g29 g30
        have K := k7_tr K p31.2
        have o3 := gr_ob p31.2.1 o3
        refine ⟨?_, ?_⟩
        · intro c32
          have h := h.1 c32
          obtain ⟨b33, e34, h⟩ := h
          refine ⟨b33, e34, ?_⟩
          obtain ⟨c35, h⟩ := h
          refine ⟨c35, ?_⟩
          have n36 := k7_nk K c35 (by decide)
          obtain ⟨b37, e38, h⟩ := h
          refine ⟨b37, e38, ?_⟩
          obtain ⟨c39, h⟩ := h
          refine ⟨c39, ?_⟩
          obtain ⟨c40, h⟩ := h
          refine ⟨c40, ?_⟩
          intro x42 e41
          have h := h x42 e41
          intro x44 e43
          have h := h x44 e43
          exact kw_X11_worst_62 h K
        · intro c45
          have h := h.2 c45
          exact kw_X11_worst_39 h K
theorem kw_X11_worst {Q : Int32 → HS → Prop} {v0 : Nat} {v1 : Int32} {v2 : Int32} {v3 : Int32} {v4 : Int32} {S : HS} (h : P_X11_worst v0 v1 v2 v3 v4 Q S) : P_X11_worst v0 v1 v2 v3 v4 (fun r T => Q r T ∧ K7 S T) S := kw_X11_worst_0 h (k7_rf S)
set_option maxRecDepth 20000 in
set_option maxHeartbeats 1000000 in
theorem kw_X5_turnOf_17 {Q : Int32 → HS → Prop} {v2 : Nat} {s0 : Int32} {S0 S : HS} (h : P_X5_turnOf_17 Q v2 s0 S) (K : K7 S0 S) : P_X5_turnOf_17 (fun r T => Q r T ∧ K7 S0 T) v2 s0 S := by
  delta P_X5_turnOf_17 at h ⊢
  obtain ⟨c1, h⟩ := h
  refine ⟨c1, ?_⟩
  have n2 := k7_nk K c1 (by decide)
  intro x4 e3
  have h := h x4 e3
  exact ⟨h, K⟩
set_option maxRecDepth 20000 in
set_option maxHeartbeats 1000000 in
theorem kw_X5_turnOf_0 {Q : Int32 → HS → Prop} {v0 : Nat} {v1 : Int32} {v2 : Nat} {S0 S : HS} (h : P_X5_turnOf_0 Q v0 v1 v2 S) (K : K7 S0 S) : P_X5_turnOf_0 (fun r T => Q r T ∧ K7 S0 T) v0 v1 v2 S := by
  delta P_X5_turnOf_0 at h ⊢
  refine ⟨?_, ?_⟩
  · intro c1
    have h := h.1 c1
    obtain ⟨c2, h⟩ := h
    refine ⟨c2, ?_⟩
    have n3 := k7_nk K c2 (by decide)
    intro x5 e4
    have h := h x5 e4
    exact kw_X5_turnOf_17 h K
  · intro c6
    have h := h.2 c6
    obtain ⟨c7, h⟩ := h
    refine ⟨c7, ?_⟩
    have n8 := k7_nk K c7 (by decide)
    intro x10 e9
    have h := h x10 e9
    exact kw_X5_turnOf_17 h K
theorem kw_X5_turnOf {Q : Int32 → HS → Prop} {v0 : Nat} {v1 : Int32} {v2 : Nat} {S : HS} (h : P_X5_turnOf v0 v1 v2 Q S) : P_X5_turnOf v0 v1 v2 (fun r T => Q r T ∧ K7 S T) S := kw_X5_turnOf_0 h (k7_rf S)
set_option maxRecDepth 20000 in
set_option maxHeartbeats 1000000 in
theorem kw_X5_airAlong_0 {Q : Int32 → HS → Prop} {v0 : Nat} {v1 : Int32} {v2 : Nat} {S0 S : HS} (h : P_X5_airAlong_0 Q v0 v1 v2 S) (K : K7 S0 S) : P_X5_airAlong_0 (fun r T => Q r T ∧ K7 S0 T) v0 v1 v2 S := by
  delta P_X5_airAlong_0 at h ⊢
  obtain ⟨c1, h⟩ := h
  refine ⟨c1, ?_⟩
  have n2 := k7_nk K c1 (by decide)
  refine cm_X5_turnOf (kw_X5_turnOf h) h (fun x3 x4 p6 h g5 => ?_)
  have h := h g5
  have K := k7_tr K p6.2
  refine ⟨?_, ?_⟩
  · intro c7
    have h := h.1 c7
    refine ⟨?_, ?_⟩
    · intro c8
      have h := h.1 c8
      exact ⟨h, K⟩
    · intro c9
      have h := h.2 c9
      obtain ⟨c10, h⟩ := h
      refine ⟨c10, ?_⟩
      have n11 := k7_nk K c10 (by decide)
      intro x13 e12
      have h := h x13 e12
      exact ⟨h, K⟩
  · intro c14
    have h := h.2 c14
    obtain ⟨c15, h⟩ := h
    refine ⟨c15, ?_⟩
    have n16 := k7_nk K c15 (by decide)
    intro x18 e17
    have h := h x18 e17
    exact ⟨h, K⟩
theorem kw_X5_airAlong {Q : Int32 → HS → Prop} {v0 : Nat} {v1 : Int32} {v2 : Nat} {S : HS} (h : P_X5_airAlong v0 v1 v2 Q S) : P_X5_airAlong v0 v1 v2 (fun r T => Q r T ∧ K7 S T) S := kw_X5_airAlong_0 h (k7_rf S)
set_option maxRecDepth 20000 in
set_option maxHeartbeats 1000000 in
theorem kw_X1_lay_130 {Q : HS → Prop} {v0 : Nat} {v3 : Nat} {v7 : Int64} {v9 : Int32} {s0 : Nat} {s1 : Int32} {s2 : Int64} {S0 S : HS} (h : P_X1_lay_130 Q v0 v3 v7 v9 s0 s1 s2 S) (K : K7 S0 S) : P_X1_lay_130 (fun T => Q T ∧ K7 S0 T) v0 v3 v7 v9 s0 s1 s2 S := by
  delta P_X1_lay_130 at h ⊢
  obtain ⟨c1, h⟩ := h
  refine ⟨c1, ?_⟩
  have n2 := k7_nk K c1 (by decide)
  obtain ⟨c3, h⟩ := h
  refine ⟨c3, ?_⟩
  intro x5 e4
  have h := h x5 e4
  have K := k7_J K e4
  obtain ⟨c6, h⟩ := h
  refine ⟨c6, ?_⟩
  have n7 := k7_nk K c6 (by decide)
  obtain ⟨b8, e9, h⟩ := h
  refine ⟨b8, e9, ?_⟩
  refine ⟨?_, ?_⟩
  · intro c10
    have h := h.1 c10
    obtain ⟨c11, h⟩ := h
    refine ⟨c11, ?_⟩
    have n12 := k7_nk K c11 (by decide)
    obtain ⟨c13, h⟩ := h
    refine ⟨c13, ?_⟩
    intro x15 e14
    have h := h x15 e14
    have K := k7_J K e14
    exact ⟨h, K⟩
  · intro c16
    have h := h.2 c16
    obtain ⟨c17, h⟩ := h
    refine ⟨c17, ?_⟩
    have n18 := k7_nk K c17 (by decide)
    intro x20 e19
    have h := h x20 e19
    obtain ⟨c21, h⟩ := h
    refine ⟨c21, ?_⟩
    have n22 := k7_nk K c21 (by decide)
    intro x24 e23
    have h := h x24 e23
    obtain ⟨c25, h⟩ := h
    refine ⟨c25, ?_⟩
    intro x27 e26
    have h := h x27 e26
    have K := k7_J K e26
    exact ⟨h, K⟩
set_option maxRecDepth 20000 in
set_option maxHeartbeats 1000000 in
theorem kw_X1_lay_27 {Q : HS → Prop} {v0 : Nat} {v1 : Nat} {v2 : Int32} {v3 : Nat} {v4 : Int32} {s0 : Int64} {S0 S : HS} (h : P_X1_lay_27 Q v0 v1 v2 v3 v4 s0 S) (K : K7 S0 S) : P_X1_lay_27 (fun T => Q T ∧ K7 S0 T) v0 v1 v2 v3 v4 s0 S := by
  delta P_X1_lay_27 at h ⊢
  obtain ⟨c1, h⟩ := h
  refine ⟨c1, ?_⟩
  have n2 := k7_nk K c1 (by decide)
  intro x4 e3
  have h := h x4 e3
  intro x6 e5
  have h := h x6 e5
  obtain ⟨c7, h⟩ := h
  refine ⟨c7, ?_⟩
  have n8 := k7_nk K c7 (by decide)
  refine cm_X5_turnOf (kw_X5_turnOf h) h (fun x9 x10 p12 h g11 => ?_)
  have h := h g11
  have K := k7_tr K p12.2
  refine cm_X5_airAlong (kw_X5_airAlong h) h (fun x13 x14 p16 h g15 => ?_)
  have h := h g15
  have K := k7_tr K p16.2
  obtain ⟨c17, h⟩ := h
  refine ⟨c17, ?_⟩
  have n18 := k7_nk K c17 (by decide)
  obtain ⟨b19, e20, h⟩ := h
  refine ⟨b19, e20, ?_⟩
  intro x22 e21
  have h := h x22 e21
  obtain ⟨c23, h⟩ := h
  refine ⟨c23, ?_⟩
  have n24 := k7_nk K c23 (by decide)
  intro x26 e25
  have h := h x26 e25
  obtain ⟨c27, h⟩ := h
  refine ⟨c27, ?_⟩
  intro x29 e28
  have h := h x29 e28
  have K := k7_J K e28
  obtain ⟨b30, e31, h⟩ := h
  refine ⟨b30, e31, ?_⟩
  intro x33 e32
  have h := h x33 e32
  obtain ⟨c34, h⟩ := h
  refine ⟨c34, ?_⟩
  have n35 := k7_nk K c34 (by decide)
  intro x37 e36
  have h := h x37 e36
  obtain ⟨c38, h⟩ := h
  refine ⟨c38, ?_⟩
  intro x40 e39
  have h := h x40 e39
  have K := k7_J K e39
  obtain ⟨b41, e42, h⟩ := h
  refine ⟨b41, e42, ?_⟩
  intro x44 e43
  have h := h x44 e43
  obtain ⟨c45, h⟩ := h
  refine ⟨c45, ?_⟩
  have n46 := k7_nk K c45 (by decide)
  intro x48 e47
  have h := h x48 e47
  obtain ⟨c49, h⟩ := h
  refine ⟨c49, ?_⟩
  intro x51 e50
  have h := h x51 e50
  have K := k7_J K e50
  obtain ⟨b52, e53, h⟩ := h
  refine ⟨b52, e53, ?_⟩
  refine ⟨?_, ?_⟩
  · intro c54
    have h := h.1 c54
    exact kw_X1_lay_130 h K
  · intro c55
    have h := h.2 c55
    intro x57 e56
    have h := h x57 e56
    exact kw_X1_lay_130 h K
set_option maxRecDepth 20000 in
set_option maxHeartbeats 1000000 in
theorem kw_X1_lay_0 {Q : HS → Prop} {v0 : Nat} {v1 : Nat} {v2 : Int32} {v3 : Nat} {v4 : Int32} {S0 S : HS} (h : P_X1_lay_0 Q v0 v1 v2 v3 v4 S) (K : K7 S0 S) : P_X1_lay_0 (fun T => Q T ∧ K7 S0 T) v0 v1 v2 v3 v4 S := by
  delta P_X1_lay_0 at h ⊢
  refine ⟨?_, ?_⟩
  · intro c1
    have h := h.1 c1
    exact kw_X1_lay_27 h K
  · intro c2
    have h := h.2 c2
    obtain ⟨c3, h⟩ := h
    refine ⟨c3, ?_⟩
    have n4 := k7_nk K c3 (by decide)
    intro x6 e5
    have h := h x6 e5
    intro x8 e7
    have h := h x8 e7
    obtain ⟨c9, h⟩ := h
    refine ⟨c9, ?_⟩
    intro x11 e10
    have h := h x11 e10
    exact kw_X1_lay_27 h K
theorem kw_X1_lay {Q : HS → Prop} {v0 : Nat} {v1 : Nat} {v2 : Int32} {v3 : Nat} {v4 : Int32} {S : HS} (h : P_X1_lay v0 v1 v2 v3 v4 Q S) : P_X1_lay v0 v1 v2 v3 v4 (fun T => Q T ∧ K7 S T) S := kw_X1_lay_0 h (k7_rf S)
set_option maxRecDepth 20000 in
set_option maxHeartbeats 1000000 in
theorem kw_X6_shield_0 {Q : Int32 → HS → Prop} {v0 : Nat} {S0 S : HS} (h : P_X6_shield_0 Q v0 S) (K : K7 S0 S) : P_X6_shield_0 (fun r T => Q r T ∧ K7 S0 T) v0 S := by
  delta P_X6_shield_0 at h ⊢
  obtain ⟨c1, h⟩ := h
  refine ⟨c1, ?_⟩
  have n2 := k7_nk K c1 (by decide)
  intro x4 e3
  have h := h x4 e3
  refine ⟨?_, ?_⟩
  · intro c5
    have h := h.1 c5
    exact ⟨h, K⟩
  · intro c6
    have h := h.2 c6
    intro x8 e7
    have h := h x8 e7
    exact ⟨h, K⟩
theorem kw_X6_shield {Q : Int32 → HS → Prop} {v0 : Nat} {S : HS} (h : P_X6_shield v0 Q S) : P_X6_shield v0 (fun r T => Q r T ∧ K7 S T) S := kw_X6_shield_0 h (k7_rf S)
set_option maxRecDepth 20000 in
set_option maxHeartbeats 1000000 in
theorem kw_X1_isForward_0 {Q : Int32 → HS → Prop} {v0 : Nat} {v1 : Nat} {S0 S : HS} (h : P_X1_isForward_0 Q v0 v1 S) (K : K7 S0 S) : P_X1_isForward_0 (fun r T => Q r T ∧ K7 S0 T) v0 v1 S := by
  delta P_X1_isForward_0 at h ⊢
  obtain ⟨c1, h⟩ := h
  refine ⟨c1, ?_⟩
  have n2 := k7_nk K c1 (by decide)
  obtain ⟨b3, e4, h⟩ := h
  refine ⟨b3, e4, ?_⟩
  obtain ⟨c5, h⟩ := h
  refine ⟨c5, ?_⟩
  have n6 := k7_nk K c5 (by decide)
  obtain ⟨c7, h⟩ := h
  refine ⟨c7, ?_⟩
  intro x9 e8
  have h := h x9 e8
  obtain ⟨c10, h⟩ := h
  refine ⟨c10, ?_⟩
  have n11 := k7_nk K c10 (by decide)
  refine cm_X6_shield (kw_X6_shield h) h (fun x12 x13 p15 h g14 => ?_)
  have h := h g14
  have K := k7_tr K p15.2
  intro x17 e16
  have h := h x17 e16
  intro x19 e18
  have h := h x19 e18
  intro x21 e20
  have h := h x21 e20
  obtain ⟨b22, e23, h⟩ := h
  refine ⟨b22, e23, ?_⟩
  obtain ⟨c24, h⟩ := h
  refine ⟨c24, ?_⟩
  have n25 := k7_nk K c24 (by decide)
  obtain ⟨c26, h⟩ := h
  refine ⟨c26, ?_⟩
  intro x28 e27
  have h := h x28 e27
  refine cm_X6_shield (kw_X6_shield h) h (fun x29 x30 p32 h g31 => ?_)
  have h := h g31
  have K := k7_tr K p32.2
  intro x34 e33
  have h := h x34 e33
  intro x36 e35
  have h := h x36 e35
  intro x38 e37
  have h := h x38 e37
  refine ⟨?_, ?_⟩
  · intro c39
    have h := h.1 c39
    exact ⟨h, K⟩
  · intro c40
    have h := h.2 c40
    exact ⟨h, K⟩
theorem kw_X1_isForward {Q : Int32 → HS → Prop} {v0 : Nat} {v1 : Nat} {S : HS} (h : P_X1_isForward v0 v1 Q S) : P_X1_isForward v0 v1 (fun r T => Q r T ∧ K7 S T) S := kw_X1_isForward_0 h (k7_rf S)
set_option maxRecDepth 20000 in
set_option maxHeartbeats 1000000 in
theorem kw_X1_soak_35 {Q : Int64 → HS → Prop} {v0 : Nat} {v1 : Nat} {v2 : Int32} {v3 : Int32} {v5 : Int32} {s0 : Int32} {S0 S : HS} (h : P_X1_soak_35 Q v0 v1 v2 v3 v5 s0 S) (K : K7 S0 S) : P_X1_soak_35 (fun r T => Q r T ∧ K7 S0 T) v0 v1 v2 v3 v5 s0 S := by
  delta P_X1_soak_35 at h ⊢
  obtain ⟨c1, h⟩ := h
  refine ⟨c1, ?_⟩
  have n2 := k7_nk K c1 (by decide)
  obtain ⟨b3, e4, h⟩ := h
  refine ⟨b3, e4, ?_⟩
  obtain ⟨b5, e6, h⟩ := h
  refine ⟨b5, e6, ?_⟩
  obtain ⟨c7, h⟩ := h
  refine ⟨c7, ?_⟩
  have n8 := k7_nk K c7 (by decide)
  obtain ⟨c9, h⟩ := h
  refine ⟨c9, ?_⟩
  intro x11 e10
  have h := h x11 e10
  obtain ⟨c12, h⟩ := h
  refine ⟨c12, ?_⟩
  have n13 := k7_nk K c12 (by decide)
  intro x15 e14
  have h := h x15 e14
  intro x17 e16
  have h := h x17 e16
  obtain ⟨c18, h⟩ := h
  refine ⟨c18, ?_⟩
  have n19 := k7_nk K c18 (by decide)
  intro x21 e20
  have h := h x21 e20
  obtain ⟨c22, h⟩ := h
  refine ⟨c22, ?_⟩
  intro x24 e23
  have h := h x24 e23
  have K := k7_J K e23
  obtain ⟨b25, e26, h⟩ := h
  refine ⟨b25, e26, ?_⟩
  obtain ⟨b27, e28, h⟩ := h
  refine ⟨b27, e28, ?_⟩
  obtain ⟨c29, h⟩ := h
  refine ⟨c29, ?_⟩
  have n30 := k7_nk K c29 (by decide)
  obtain ⟨c31, h⟩ := h
  refine ⟨c31, ?_⟩
  intro x33 e32
  have h := h x33 e32
  intro x35 e34
  have h := h x35 e34
  intro x37 e36
  have h := h x37 e36
  obtain ⟨c38, h⟩ := h
  refine ⟨c38, ?_⟩
  have n39 := k7_nk K c38 (by decide)
  intro x41 e40
  have h := h x41 e40
  obtain ⟨c42, h⟩ := h
  refine ⟨c42, ?_⟩
  intro x44 e43
  have h := h x44 e43
  have K := k7_J K e43
  obtain ⟨b45, e46, h⟩ := h
  refine ⟨b45, e46, ?_⟩
  obtain ⟨b47, e48, h⟩ := h
  refine ⟨b47, e48, ?_⟩
  obtain ⟨c49, h⟩ := h
  refine ⟨c49, ?_⟩
  have n50 := k7_nk K c49 (by decide)
  obtain ⟨c51, h⟩ := h
  refine ⟨c51, ?_⟩
  intro x53 e52
  have h := h x53 e52
  intro x55 e54
  have h := h x55 e54
  intro x57 e56
  have h := h x57 e56
  obtain ⟨c58, h⟩ := h
  refine ⟨c58, ?_⟩
  have n59 := k7_nk K c58 (by decide)
  intro x61 e60
  have h := h x61 e60
  obtain ⟨c62, h⟩ := h
  refine ⟨c62, ?_⟩
  intro x64 e63
  have h := h x64 e63
  have K := k7_J K e63
  obtain ⟨b65, e66, h⟩ := h
  refine ⟨b65, e66, ?_⟩
  obtain ⟨b67, e68, h⟩ := h
  refine ⟨b67, e68, ?_⟩
  obtain ⟨c69, h⟩ := h
  refine ⟨c69, ?_⟩
  have n70 := k7_nk K c69 (by decide)
  obtain ⟨c71, h⟩ := h
  refine ⟨c71, ?_⟩
  intro x73 e72
  have h := h x73 e72
  intro x75 e74
  have h := h x75 e74
  obtain ⟨c76, h⟩ := h
  refine ⟨c76, ?_⟩
  have n77 := k7_nk K c76 (by decide)
  intro x79 e78
  have h := h x79 e78
  obtain ⟨c80, h⟩ := h
  refine ⟨c80, ?_⟩
  intro x82 e81
  have h := h x82 e81
  have K := k7_J K e81
  obtain ⟨b83, e84, h⟩ := h
  refine ⟨b83, e84, ?_⟩
  obtain ⟨b85, e86, h⟩ := h
  refine ⟨b85, e86, ?_⟩
  obtain ⟨c87, h⟩ := h
  refine ⟨c87, ?_⟩
  have n88 := k7_nk K c87 (by decide)
  obtain ⟨c89, h⟩ := h
  refine ⟨c89, ?_⟩
  intro x91 e90
  have h := h x91 e90
  intro x93 e92
  have h := h x93 e92
  obtain ⟨c94, h⟩ := h
  refine ⟨c94, ?_⟩
  have n95 := k7_nk K c94 (by decide)
  intro x97 e96
  have h := h x97 e96
  obtain ⟨c98, h⟩ := h
  refine ⟨c98, ?_⟩
  intro x100 e99
  have h := h x100 e99
  have K := k7_J K e99
  obtain ⟨b101, e102, h⟩ := h
  refine ⟨b101, e102, ?_⟩
  obtain ⟨c103, h⟩ := h
  refine ⟨c103, ?_⟩
  have n104 := k7_nk K c103 (by decide)
  obtain ⟨c105, h⟩ := h
  refine ⟨c105, ?_⟩
  intro x107 e106
  have h := h x107 e106
  obtain ⟨b108, e109, h⟩ := h
  refine ⟨b108, e109, ?_⟩
  obtain ⟨c110, h⟩ := h
  refine ⟨c110, ?_⟩
  have n111 := k7_nk K c110 (by decide)
  obtain ⟨c112, h⟩ := h
  refine ⟨c112, ?_⟩
  intro x114 e113
  have h := h x114 e113
  obtain ⟨b115, e116, h⟩ := h
  refine ⟨b115, e116, ?_⟩
  obtain ⟨c117, h⟩ := h
  refine ⟨c117, ?_⟩
  have n118 := k7_nk K c117 (by decide)
  obtain ⟨c119, h⟩ := h
  refine ⟨c119, ?_⟩
  intro x121 e120
  have h := h x121 e120
  obtain ⟨b122, e123, h⟩ := h
  refine ⟨b122, e123, ?_⟩
  obtain ⟨c124, h⟩ := h
  refine ⟨c124, ?_⟩
  have n125 := k7_nk K c124 (by decide)
  obtain ⟨c126, h⟩ := h
  refine ⟨c126, ?_⟩
  intro x128 e127
  have h := h x128 e127
  obtain ⟨b129, e130, h⟩ := h
  refine ⟨b129, e130, ?_⟩
  obtain ⟨c131, h⟩ := h
  refine ⟨c131, ?_⟩
  have n132 := k7_nk K c131 (by decide)
  obtain ⟨c133, h⟩ := h
  refine ⟨c133, ?_⟩
  intro x135 e134
  have h := h x135 e134
  exact ⟨h, K⟩
set_option maxRecDepth 20000 in
set_option maxHeartbeats 1000000 in
theorem kw_X1_soak_20 {Q : Int64 → HS → Prop} {v0 : Nat} {v1 : Nat} {v2 : Int32} {v3 : Int32} {v4 : Int32} {s0 : Int32} {S0 S : HS} (h : P_X1_soak_20 Q v0 v1 v2 v3 v4 s0 S) (K : K7 S0 S) : P_X1_soak_20 (fun r T => Q r T ∧ K7 S0 T) v0 v1 v2 v3 v4 s0 S := by
  delta P_X1_soak_20 at h ⊢
  refine ⟨?_, ?_⟩
  · intro c1
    have h := h.1 c1
    exact kw_X1_soak_35 h K
  · intro c2
    have h := h.2 c2
    obtain ⟨c3, h⟩ := h
    refine ⟨c3, ?_⟩
    have n4 := k7_nk K c3 (by decide)
    refine cm_X6_shield (kw_X6_shield h) h (fun x5 x6 p8 h g7 => ?_)
    have h := h g7
    have K := k7_tr K p8.2
    exact kw_X1_soak_35 h K
set_option maxRecDepth 20000 in
set_option maxHeartbeats 1000000 in
theorem kw_X1_soak_0 {Q : Int64 → HS → Prop} {v0 : Nat} {v1 : Nat} {v2 : Int32} {v3 : Int32} {S0 S : HS} (h : P_X1_soak_0 Q v0 v1 v2 v3 S) (K : K7 S0 S) : P_X1_soak_0 (fun r T => Q r T ∧ K7 S0 T) v0 v1 v2 v3 S := by
  delta P_X1_soak_0 at h ⊢
  obtain ⟨c1, h⟩ := h
  refine ⟨c1, ?_⟩
  have n2 := k7_nk K c1 (by decide)
  refine cm_X1_isForward (kw_X1_isForward h) h (fun x3 x4 p7 h g5 g6 => ?_)
  have h := h g5 g6
  have K := k7_tr K p7.2
  refine ⟨?_, ?_⟩
  · intro c8
    have h := h.1 c8
    obtain ⟨c9, h⟩ := h
    refine ⟨c9, ?_⟩
    have n10 := k7_nk K c9 (by decide)
    refine cm_X6_shield (kw_X6_shield h) h (fun x11 x12 p14 h g13 => ?_)
    have h := h g13
    have K := k7_tr K p14.2
    exact kw_X1_soak_20 h K
  · intro c15
    have h := h.2 c15
    exact kw_X1_soak_20 h K
theorem kw_X1_soak {Q : Int64 → HS → Prop} {v0 : Nat} {v1 : Nat} {v2 : Int32} {v3 : Int32} {S : HS} (h : P_X1_soak v0 v1 v2 v3 Q S) : P_X1_soak v0 v1 v2 v3 (fun r T => Q r T ∧ K7 S T) S := kw_X1_soak_0 h (k7_rf S)
set_option maxRecDepth 20000 in
set_option maxHeartbeats 1000000 in
theorem kw_X1_wetOf_0 {Q : Int64 → HS → Prop} {v0 : Nat} {v1 : Nat} {v2 : Nat} {v3 : Int32} {v4 : Nat} {v5 : Int32} {S0 S : HS} (h : P_X1_wetOf_0 Q v0 v1 v2 v3 v4 v5 S) (K : K7 S0 S) : P_X1_wetOf_0 (fun r T => Q r T ∧ K7 S0 T) v0 v1 v2 v3 v4 v5 S := by
  delta P_X1_wetOf_0 at h ⊢
  obtain ⟨c1, h⟩ := h
  refine ⟨c1, ?_⟩
  have n2 := k7_nk K c1 (by decide)
  refine cm_X1_lay (kw_X1_lay h) h (fun x3 p5 h g4 => ?_)
  have h := h g4
  have K := k7_tr K p5.2
  refine cm_X1_soak (kw_X1_soak h) h (fun x6 x7 p9 h g8 => ?_)
  have h := h g8
  have K := k7_tr K p9.2
  exact ⟨h, K⟩
theorem kw_X1_wetOf {Q : Int64 → HS → Prop} {v0 : Nat} {v1 : Nat} {v2 : Nat} {v3 : Int32} {v4 : Nat} {v5 : Int32} {S : HS} (h : P_X1_wetOf v0 v1 v2 v3 v4 v5 Q S) : P_X1_wetOf v0 v1 v2 v3 v4 v5 (fun r T => Q r T ∧ K7 S T) S := kw_X1_wetOf_0 h (k7_rf S)
set_option maxRecDepth 20000 in
set_option maxHeartbeats 1000000 in
theorem kw_X1_bestSpeed_55 {Q : Int32 → HS → Prop} {X17 X17_2 : Nat → Nat → Nat → Int32 → Nat → Int32 → Int64 → Int32 → HS → Prop} {v0 : Nat} {v1 : Nat} {v2 : Nat} {v3 : Int32} {v4 : Nat} {v5 : Int32} {v6 : Int64} {v8 : Int32} {S0 S : HS} (h : P_X1_bestSpeed_55 Q X17 v0 v1 v2 v3 v4 v5 v6 v8 S) (K : K7 S0 S) (hX17 : ∀ (u0 : Nat) (u1 : Nat) (u2 : Nat) (u3 : Int32) (u4 : Nat) (u5 : Int32) (u6 : Int64) (u7 : Int32) (u8 : HS), X17 u0 u1 u2 u3 u4 u5 u6 u7 u8 → K7 S0 u8 → X17_2 u0 u1 u2 u3 u4 u5 u6 u7 u8) : P_X1_bestSpeed_55 (fun r T => Q r T ∧ K7 S0 T) X17_2 v0 v1 v2 v3 v4 v5 v6 v8 S := by
  delta P_X1_bestSpeed_55 at h ⊢
  intro x2 e1
  have h := h x2 e1
  exact hX17 _ _ _ _ _ _ _ _ _ h K
set_option maxRecDepth 20000 in
set_option maxHeartbeats 1000000 in
theorem kwB_X1_bestSpeed_17 {Q : Int32 → HS → Prop} {X17 X17_2 : Nat → Nat → Nat → Int32 → Nat → Int32 → Int64 → Int32 → HS → Prop} {v0 : Nat} {v1 : Nat} {v2 : Nat} {v3 : Int32} {v4 : Nat} {v5 : Int32} {v6 : Int64} {v8 : Int32} {S0 S : HS} (h : B_X1_bestSpeed_17 Q X17 v0 v1 v2 v3 v4 v5 v6 v8 S) (K : K7 S0 S) (hX17 : ∀ (u0 : Nat) (u1 : Nat) (u2 : Nat) (u3 : Int32) (u4 : Nat) (u5 : Int32) (u6 : Int64) (u7 : Int32) (u8 : HS), X17 u0 u1 u2 u3 u4 u5 u6 u7 u8 → K7 S0 u8 → X17_2 u0 u1 u2 u3 u4 u5 u6 u7 u8) : B_X1_bestSpeed_17 (fun r T => Q r T ∧ K7 S0 T) X17_2 v0 v1 v2 v3 v4 v5 v6 v8 S := by
  delta B_X1_bestSpeed_17 at h ⊢
  obtain ⟨c1, h⟩ := h
  refine ⟨c1, ?_⟩
  have n2 := k7_nk K c1 (by decide)
  intro x4 e3
  have h := h x4 e3
  refine ⟨?_, ?_⟩
  · intro c5
    have h := h.1 c5
    exact ⟨h, K⟩
  · intro c6
    have h := h.2 c6
    obtain ⟨c7, h⟩ := h
    refine ⟨c7, ?_⟩
    have n8 := k7_nk K c7 (by decide)
    refine cm_X1_wetOf (kw_X1_wetOf h) h (fun x9 x10 p12 h g11 => ?_)
    have h := h g11
    have K := k7_tr K p12.2
    refine ⟨?_, ?_⟩
    · intro c13
      have h := h.1 c13
      exact kw_X1_bestSpeed_55 h K hX17
    · intro c14
      have h := h.2 c14
      exact kw_X1_bestSpeed_55 h K hX17
theorem kw_X1_bestSpeed_17 {Q : Int32 → HS → Prop} {v0 : Nat} {v1 : Nat} {v2 : Nat} {v3 : Int32} {v4 : Nat} {v5 : Int32} {v6 : Int64} {v8 : Int32} {S0 S : HS} (h : P_X1_bestSpeed_17 Q v0 v1 v2 v3 v4 v5 v6 v8 S) (K : K7 S0 S) : P_X1_bestSpeed_17 (fun r T => Q r T ∧ K7 S0 T) v0 v1 v2 v3 v4 v5 v6 v8 S := h (fun v0 v1 v2 v3 v4 v5 v6 v8 S => K7 S0 S → P_X1_bestSpeed_17 (fun r T => Q r T ∧ K7 S0 T) v0 v1 v2 v3 v4 v5 v6 v8 S) (fun v0 v1 v2 v3 v4 v5 v6 v8 S hB K => fd_X1_bestSpeed_17 (kwB_X1_bestSpeed_17 hB K (fun _ _ _ _ _ _ _ _ _ hx K => hx K))) K
set_option maxRecDepth 20000 in
set_option maxHeartbeats 1000000 in
theorem kw_X1_bestSpeed_0 {Q : Int32 → HS → Prop} {v0 : Nat} {v1 : Nat} {v2 : Nat} {v3 : Int32} {v4 : Nat} {S0 S : HS} (h : P_X1_bestSpeed_0 Q v0 v1 v2 v3 v4 S) (K : K7 S0 S) : P_X1_bestSpeed_0 (fun r T => Q r T ∧ K7 S0 T) v0 v1 v2 v3 v4 S := by
  delta P_X1_bestSpeed_0 at h ⊢
  obtain ⟨c1, h⟩ := h
  refine ⟨c1, ?_⟩
  have n2 := k7_nk K c1 (by decide)
  intro x4 e3
  have h := h x4 e3
  intro x6 e5
  have h := h x6 e5
  exact kw_X1_bestSpeed_17 h K
theorem kw_X1_bestSpeed {Q : Int32 → HS → Prop} {v0 : Nat} {v1 : Nat} {v2 : Nat} {v3 : Int32} {v4 : Nat} {S : HS} (h : P_X1_bestSpeed v0 v1 v2 v3 v4 Q S) : P_X1_bestSpeed v0 v1 v2 v3 v4 (fun r T => Q r T ∧ K7 S T) S := kw_X1_bestSpeed_0 h (k7_rf S)
set_option maxRecDepth 20000 in
set_option maxHeartbeats 1000000 in
theorem kw_X1_legsOf_0 {Q : Int32 → HS → Prop} {v0 : Nat} {S0 S : HS} (h : P_X1_legsOf_0 Q v0 S) (K : K7 S0 S) : P_X1_legsOf_0 (fun r T => Q r T ∧ K7 S0 T) v0 S := by
  delta P_X1_legsOf_0 at h ⊢
  obtain ⟨c1, h⟩ := h
  refine ⟨c1, ?_⟩
  have n2 := k7_nk K c1 (by decide)
  intro x4 e3
  have h := h x4 e3
  intro x6 e5
  have h := h x6 e5
  exact ⟨h, K⟩
theorem kw_X1_legsOf {Q : Int32 → HS → Prop} {v0 : Nat} {S : HS} (h : P_X1_legsOf v0 Q S) : P_X1_legsOf v0 (fun r T => Q r T ∧ K7 S T) S := kw_X1_legsOf_0 h (k7_rf S)
set_option maxRecDepth 20000 in
set_option maxHeartbeats 1000000 in
theorem kw_X6_canGo_0 {Q : Int32 → HS → Prop} {v0 : Nat} {v1 : Int32} {S0 S : HS} (h : P_X6_canGo_0 Q v0 v1 S) (K : K7 S0 S) : P_X6_canGo_0 (fun r T => Q r T ∧ K7 S0 T) v0 v1 S := by
  delta P_X6_canGo_0 at h ⊢
  obtain ⟨c1, h⟩ := h
  refine ⟨c1, ?_⟩
  have n2 := k7_nk K c1 (by decide)
  intro x4 e3
  have h := h x4 e3
  refine ⟨?_, ?_⟩
  · intro c5
    have h := h.1 c5
    exact ⟨h, K⟩
  · intro c6
    have h := h.2 c6
    intro x8 e7
    have h := h x8 e7
    refine ⟨?_, ?_⟩
    · intro c9
      have h := h.1 c9
      exact ⟨h, K⟩
    · intro c10
      have h := h.2 c10
      refine ⟨?_, ?_⟩
      · intro c11
        have h := h.1 c11
        exact ⟨h, K⟩
      · intro c12
        have h := h.2 c12
        refine ⟨?_, ?_⟩
        · intro c13
          have h := h.1 c13
          exact ⟨h, K⟩
        · intro c14
          have h := h.2 c14
          exact ⟨h, K⟩
theorem kw_X6_canGo {Q : Int32 → HS → Prop} {v0 : Nat} {v1 : Int32} {S : HS} (h : P_X6_canGo v0 v1 Q S) : P_X6_canGo v0 v1 (fun r T => Q r T ∧ K7 S T) S := kw_X6_canGo_0 h (k7_rf S)
set_option maxRecDepth 20000 in
set_option maxHeartbeats 1000000 in
theorem kw_X8_hasRoad_0 {Q : Int32 → HS → Prop} {v0 : Nat} {v1 : Int32} {S0 S : HS} (h : P_X8_hasRoad_0 Q v0 v1 S) (K : K7 S0 S) : P_X8_hasRoad_0 (fun r T => Q r T ∧ K7 S0 T) v0 v1 S := by
  delta P_X8_hasRoad_0 at h ⊢
  refine ⟨?_, ?_⟩
  · intro c1
    have h := h.1 c1
    exact ⟨h, K⟩
  · intro c2
    have h := h.2 c2
    obtain ⟨c3, h⟩ := h
    refine ⟨c3, ?_⟩
    have n4 := k7_nk K c3 (by decide)
    intro x6 e5
    have h := h x6 e5
    refine ⟨?_, ?_⟩
    · intro c7
      have h := h.1 c7
      exact ⟨h, K⟩
    · intro c8
      have h := h.2 c8
      obtain ⟨b9, e10, h⟩ := h
      refine ⟨b9, e10, ?_⟩
      obtain ⟨c11, h⟩ := h
      refine ⟨c11, ?_⟩
      have n12 := k7_nk K c11 (by decide)
      refine ⟨?_, ?_⟩
      · intro c13
        have h := h.1 c13
        exact ⟨h, K⟩
      · intro c14
        have h := h.2 c14
        exact ⟨h, K⟩
theorem kw_X8_hasRoad {Q : Int32 → HS → Prop} {v0 : Nat} {v1 : Int32} {S : HS} (h : P_X8_hasRoad v0 v1 Q S) : P_X8_hasRoad v0 v1 (fun r T => Q r T ∧ K7 S T) S := kw_X8_hasRoad_0 h (k7_rf S)
set_option maxRecDepth 20000 in
set_option maxHeartbeats 1000000 in
theorem kw_X8_hasSeen_0 {Q : Int32 → HS → Prop} {v0 : Nat} {v1 : Int32} {S0 S : HS} (h : P_X8_hasSeen_0 Q v0 v1 S) (K : K7 S0 S) : P_X8_hasSeen_0 (fun r T => Q r T ∧ K7 S0 T) v0 v1 S := by
  delta P_X8_hasSeen_0 at h ⊢
  refine ⟨?_, ?_⟩
  · intro c1
    have h := h.1 c1
    exact ⟨h, K⟩
  · intro c2
    have h := h.2 c2
    obtain ⟨c3, h⟩ := h
    refine ⟨c3, ?_⟩
    have n4 := k7_nk K c3 (by decide)
    intro x6 e5
    have h := h x6 e5
    refine ⟨?_, ?_⟩
    · intro c7
      have h := h.1 c7
      exact ⟨h, K⟩
    · intro c8
      have h := h.2 c8
      obtain ⟨b9, e10, h⟩ := h
      refine ⟨b9, e10, ?_⟩
      obtain ⟨c11, h⟩ := h
      refine ⟨c11, ?_⟩
      refine ⟨?_, ?_⟩
      · intro c12
        have h := h.1 c12
        exact ⟨h, K⟩
      · intro c13
        have h := h.2 c13
        exact ⟨h, K⟩
theorem kw_X8_hasSeen {Q : Int32 → HS → Prop} {v0 : Nat} {v1 : Int32} {S : HS} (h : P_X8_hasSeen v0 v1 Q S) : P_X8_hasSeen v0 v1 (fun r T => Q r T ∧ K7 S T) S := kw_X8_hasSeen_0 h (k7_rf S)
set_option maxRecDepth 20000 in
set_option maxHeartbeats 1000000 in
theorem kw_X8_hasWalker_0 {Q : Int32 → HS → Prop} {v0 : Nat} {v1 : Int32} {S0 S : HS} (h : P_X8_hasWalker_0 Q v0 v1 S) (K : K7 S0 S) : P_X8_hasWalker_0 (fun r T => Q r T ∧ K7 S0 T) v0 v1 S := by
  delta P_X8_hasWalker_0 at h ⊢
  refine ⟨?_, ?_⟩
  · intro c1
    have h := h.1 c1
    exact ⟨h, K⟩
  · intro c2
    have h := h.2 c2
    obtain ⟨c3, h⟩ := h
    refine ⟨c3, ?_⟩
    have n4 := k7_nk K c3 (by decide)
    intro x6 e5
    have h := h x6 e5
    refine ⟨?_, ?_⟩
    · intro c7
      have h := h.1 c7
      exact ⟨h, K⟩
    · intro c8
      have h := h.2 c8
      obtain ⟨b9, e10, h⟩ := h
      refine ⟨b9, e10, ?_⟩
      obtain ⟨c11, h⟩ := h
      refine ⟨c11, ?_⟩
      have n12 := k7_nk K c11 (by decide)
      refine ⟨?_, ?_⟩
      · intro c13
        have h := h.1 c13
        exact ⟨h, K⟩
      · intro c14
        have h := h.2 c14
        exact ⟨h, K⟩
theorem kw_X8_hasWalker {Q : Int32 → HS → Prop} {v0 : Nat} {v1 : Int32} {S : HS} (h : P_X8_hasWalker v0 v1 Q S) : P_X8_hasWalker v0 v1 (fun r T => Q r T ∧ K7 S T) S := kw_X8_hasWalker_0 h (k7_rf S)
set_option maxRecDepth 20000 in
set_option maxHeartbeats 1000000 in
theorem kwB_X1_fitCode_141 {Q : Int32 → HS → Prop} {X141 X141_2 : Nat → Nat → Int32 → Int32 → Int32 → Int32 → Int32 → HS → Prop} {v0 : Nat} {v1 : Nat} {v2 : Int32} {v4 : Int32} {v5 : Int32} {v6 : Int32} {v8 : Int32} {S0 S : HS} (h : B_X1_fitCode_141 Q X141 v0 v1 v2 v4 v5 v6 v8 S) (K : K7 S0 S) (hX141 : ∀ (u0 : Nat) (u1 : Nat) (u2 : Int32) (u3 : Int32) (u4 : Int32) (u5 : Int32) (u6 : Int32) (u7 : HS), X141 u0 u1 u2 u3 u4 u5 u6 u7 → K7 S0 u7 → X141_2 u0 u1 u2 u3 u4 u5 u6 u7) : B_X1_fitCode_141 (fun r T => Q r T ∧ K7 S0 T) X141_2 v0 v1 v2 v4 v5 v6 v8 S := by
  delta B_X1_fitCode_141 at h ⊢
  refine ⟨?_, ?_⟩
  · intro c1
    have h := h.1 c1
    intro x3 e2
    have h := h x3 e2
    intro x5 e4
    have h := h x5 e4
    exact ⟨h, K⟩
  · intro c6
    have h := h.2 c6
    obtain ⟨c7, h⟩ := h
    refine ⟨c7, ?_⟩
    have n8 := k7_nk K c7 (by decide)
    obtain ⟨b9, e10, h⟩ := h
    refine ⟨b9, e10, ?_⟩
    obtain ⟨c11, h⟩ := h
    refine ⟨c11, ?_⟩
    have n12 := k7_nk K c11 (by decide)
    obtain ⟨c13, h⟩ := h
    refine ⟨c13, ?_⟩
    intro x15 e14
    have h := h x15 e14
    obtain ⟨c16, h⟩ := h
    refine ⟨c16, ?_⟩
    have n17 := k7_nk K c16 (by decide)
    obtain ⟨b18, e19, h⟩ := h
    refine ⟨b18, e19, ?_⟩
    obtain ⟨c20, h⟩ := h
    refine ⟨c20, ?_⟩
    intro x22 e21
    have h := h x22 e21
    obtain ⟨c23, h⟩ := h
    refine ⟨c23, ?_⟩
    intro x25 e24
    have h := h x25 e24
    refine ⟨?_, ?_⟩
    · intro c26
      have h := h.1 c26
      intro x28 e27
      have h := h x28 e27
      exact hX141 _ _ _ _ _ _ _ _ h K
    · intro c29
      have h := h.2 c29
      exact ⟨h, K⟩
theorem kw_X1_fitCode_141 {Q : Int32 → HS → Prop} {v0 : Nat} {v1 : Nat} {v2 : Int32} {v4 : Int32} {v5 : Int32} {v6 : Int32} {v8 : Int32} {S0 S : HS} (h : P_X1_fitCode_141 Q v0 v1 v2 v4 v5 v6 v8 S) (K : K7 S0 S) : P_X1_fitCode_141 (fun r T => Q r T ∧ K7 S0 T) v0 v1 v2 v4 v5 v6 v8 S := h (fun v0 v1 v2 v4 v5 v6 v8 S => K7 S0 S → P_X1_fitCode_141 (fun r T => Q r T ∧ K7 S0 T) v0 v1 v2 v4 v5 v6 v8 S) (fun v0 v1 v2 v4 v5 v6 v8 S hB K => fd_X1_fitCode_141 (kwB_X1_fitCode_141 hB K (fun _ _ _ _ _ _ _ _ hx K => hx K))) K
set_option maxRecDepth 20000 in
set_option maxHeartbeats 1000000 in
theorem kw_X1_fitCode_0 {Q : Int32 → HS → Prop} {v0 : Nat} {v1 : Nat} {v2 : Int32} {v3 : Int32} {S0 S : HS} (h : P_X1_fitCode_0 Q v0 v1 v2 v3 S) (K : K7 S0 S) : P_X1_fitCode_0 (fun r T => Q r T ∧ K7 S0 T) v0 v1 v2 v3 S := by
  delta P_X1_fitCode_0 at h ⊢
  refine ⟨?_, ?_⟩
  · intro c1
    have h := h.1 c1
    exact ⟨h, K⟩
  · intro c2
    have h := h.2 c2
    refine cm_X1_legsOf (kw_X1_legsOf h) h (fun x3 x4 p6 h g5 => ?_)
    have h := h g5
    have K := k7_tr K p6.2
    refine ⟨?_, ?_⟩
    · intro c7
      have h := h.1 c7
      exact ⟨h, K⟩
    · intro c8
      have h := h.2 c8
      obtain ⟨c9, h⟩ := h
      refine ⟨c9, ?_⟩
      have n10 := k7_nk K c9 (by decide)
      refine cm_X8_hasSeen (kw_X8_hasSeen h) h (fun x11 x12 p15 h g13 g14 => ?_)
      have h := h g13 g14
      have K := k7_tr K p15.2
      refine ⟨?_, ?_⟩
      · intro c16
        have h := h.1 c16
        exact ⟨h, K⟩
      · intro c17
        have h := h.2 c17
        intro x19 e18
        have h := h x19 e18
        refine ⟨?_, ?_⟩
        · intro c20
          have h := h.1 c20
          intro x22 e21
          have h := h x22 e21
          intro x24 e23
          have h := h x24 e23
          intro x26 e25
          have h := h x26 e25
          intro x28 e27
          have h := h x28 e27
          obtain ⟨c29, h⟩ := h
          refine ⟨c29, ?_⟩
          intro x31 e30
          have h := h x31 e30
          intro x33 e32
          have h := h x33 e32
          intro x35 e34
          have h := h x35 e34
          obtain ⟨c36, h⟩ := h
          refine ⟨c36, ?_⟩
          intro x38 e37
          have h := h x38 e37
          obtain ⟨b39, e40, h⟩ := h
          refine ⟨b39, e40, ?_⟩
          obtain ⟨c41, h⟩ := h
          refine ⟨c41, ?_⟩
          obtain ⟨c42, h⟩ := h
          refine ⟨c42, ?_⟩
          intro x44 e43
          have h := h x44 e43
          refine cm_X8_hasWalker (kw_X8_hasWalker h) h (fun x45 x46 p49 h g47 g48 => ?_)
          have h := h g47 g48
          have K := k7_tr K p49.2
          refine ⟨?_, ?_⟩
          · intro c50
            have h := h.1 c50
            exact ⟨h, K⟩
          · intro c51
            have h := h.2 c51
            intro x53 e52
            have h := h x53 e52
            refine cm_X8_hasRoad (kw_X8_hasRoad h) h (fun x54 x55 p58 h g56 g57 => ?_)
            have h := h g56 g57
            have K := k7_tr K p58.2
            refine ⟨?_, ?_⟩
            · intro c59
              have h := h.1 c59
              exact ⟨h, K⟩
            · intro c60
              have h := h.2 c60
              obtain ⟨b61, e62, h⟩ := h
              refine ⟨b61, e62, ?_⟩
              obtain ⟨c63, h⟩ := h
              refine ⟨c63, ?_⟩
              have n64 := k7_nk K c63 (by decide)
              obtain ⟨c65, h⟩ := h
              refine ⟨c65, ?_⟩
              obtain ⟨b66, e67, h⟩ := h
              refine ⟨b66, e67, ?_⟩
              obtain ⟨c68, h⟩ := h
              refine ⟨c68, ?_⟩
              have n69 := k7_nk K c68 (by decide)
              refine cm_X6_canGo (kw_X6_canGo h) h (fun x70 x71 p74 h g72 g73 => ?_)
              have h := h g72 g73
              have K := k7_tr K p74.2
              refine ⟨?_, ?_⟩
              · intro c75
                have h := h.1 c75
                obtain ⟨b76, e77, h⟩ := h
                refine ⟨b76, e77, ?_⟩
                obtain ⟨c78, h⟩ := h
                refine ⟨c78, ?_⟩
                have n79 := k7_nk K c78 (by decide)
                obtain ⟨c80, h⟩ := h
                refine ⟨c80, ?_⟩
                obtain ⟨b81, e82, h⟩ := h
                refine ⟨b81, e82, ?_⟩
                obtain ⟨b83, e84, h⟩ := h
                refine ⟨b83, e84, ?_⟩
                intro x86 e85
                have h := h x86 e85
                obtain ⟨c87, h⟩ := h
                refine ⟨c87, ?_⟩
                have n88 := k7_nk K c87 (by decide)
                obtain ⟨c89, h⟩ := h
                refine ⟨c89, ?_⟩
                obtain ⟨b90, e91, h⟩ := h
                refine ⟨b90, e91, ?_⟩
                intro x93 e92
                have h := h x93 e92
                obtain ⟨b94, e95, h⟩ := h
                refine ⟨b94, e95, ?_⟩
                obtain ⟨c96, h⟩ := h
                refine ⟨c96, ?_⟩
                have n97 := k7_nk K c96 (by decide)
                obtain ⟨c98, h⟩ := h
                refine ⟨c98, ?_⟩
                obtain ⟨b99, e100, h⟩ := h
                refine ⟨b99, e100, ?_⟩
                obtain ⟨c101, h⟩ := h
                refine ⟨c101, ?_⟩
                have n102 := k7_nk K c101 (by decide)
                refine cm_X1_wetOf (kw_X1_wetOf h) h (fun x103 x104 p106 h g105 => ?_)
                have h := h g105
                have K := k7_tr K p106.2
                exact kw_X1_fitCode_141 h K
              · intro c107
                have h := h.2 c107
                exact ⟨h, K⟩
        · intro c108
          have h := h.2 c108
          exact ⟨h, K⟩
theorem kw_X1_fitCode {Q : Int32 → HS → Prop} {v0 : Nat} {v1 : Nat} {v2 : Int32} {v3 : Int32} {S : HS} (h : P_X1_fitCode v0 v1 v2 v3 Q S) : P_X1_fitCode v0 v1 v2 v3 (fun r T => Q r T ∧ K7 S T) S := kw_X1_fitCode_0 h (k7_rf S)
set_option maxRecDepth 20000 in
set_option maxHeartbeats 1000000 in
theorem kw_X1_countFits_29 {Q : Int32 → HS → Prop} {X5 X5_2 : Nat → Nat → Int32 → Int32 → Int32 → HS → Prop} {v0 : Nat} {v1 : Nat} {v2 : Int32} {v3 : Int32} {v4 : Int32} {S0 S : HS} (h : P_X1_countFits_29 Q X5 v0 v1 v2 v3 v4 S) (K : K7 S0 S) (hX5 : ∀ (u0 : Nat) (u1 : Nat) (u2 : Int32) (u3 : Int32) (u4 : Int32) (u5 : HS), X5 u0 u1 u2 u3 u4 u5 → K7 S0 u5 → X5_2 u0 u1 u2 u3 u4 u5) : P_X1_countFits_29 (fun r T => Q r T ∧ K7 S0 T) X5_2 v0 v1 v2 v3 v4 S := by
  delta P_X1_countFits_29 at h ⊢
  intro x2 e1
  have h := h x2 e1
  exact hX5 _ _ _ _ _ _ h K
set_option maxRecDepth 20000 in
set_option maxHeartbeats 1000000 in
theorem kwB_X1_countFits_5 {Q : Int32 → HS → Prop} {X5 X5_2 : Nat → Nat → Int32 → Int32 → Int32 → HS → Prop} {v0 : Nat} {v1 : Nat} {v2 : Int32} {v3 : Int32} {v4 : Int32} {S0 S : HS} (h : B_X1_countFits_5 Q X5 v0 v1 v2 v3 v4 S) (K : K7 S0 S) (hX5 : ∀ (u0 : Nat) (u1 : Nat) (u2 : Int32) (u3 : Int32) (u4 : Int32) (u5 : HS), X5 u0 u1 u2 u3 u4 u5 → K7 S0 u5 → X5_2 u0 u1 u2 u3 u4 u5) : B_X1_countFits_5 (fun r T => Q r T ∧ K7 S0 T) X5_2 v0 v1 v2 v3 v4 S := by
  delta B_X1_countFits_5 at h ⊢
  refine cm_X1_legsOf (kw_X1_legsOf h) h (fun x1 x2 p4 h g3 => ?_)
  have h := h g3
  have K := k7_tr K p4.2
  refine ⟨?_, ?_⟩
  · intro c5
    have h := h.1 c5
    exact ⟨h, K⟩
  · intro c6
    have h := h.2 c6
    obtain ⟨c7, h⟩ := h
    refine ⟨c7, ?_⟩
    have n8 := k7_nk K c7 (by decide)
    refine cm_X1_fitCode (kw_X1_fitCode h) h (fun x9 x10 p12 h g11 => ?_)
    have h := h g11
    have K := k7_tr K p12.2
    refine ⟨?_, ?_⟩
    · intro c13
      have h := h.1 c13
      exact kw_X1_countFits_29 h K hX5
    · intro c14
      have h := h.2 c14
      intro x16 e15
      have h := h x16 e15
      exact kw_X1_countFits_29 h K hX5
theorem kw_X1_countFits_5 {Q : Int32 → HS → Prop} {v0 : Nat} {v1 : Nat} {v2 : Int32} {v3 : Int32} {v4 : Int32} {S0 S : HS} (h : P_X1_countFits_5 Q v0 v1 v2 v3 v4 S) (K : K7 S0 S) : P_X1_countFits_5 (fun r T => Q r T ∧ K7 S0 T) v0 v1 v2 v3 v4 S := h (fun v0 v1 v2 v3 v4 S => K7 S0 S → P_X1_countFits_5 (fun r T => Q r T ∧ K7 S0 T) v0 v1 v2 v3 v4 S) (fun v0 v1 v2 v3 v4 S hB K => fd_X1_countFits_5 (kwB_X1_countFits_5 hB K (fun _ _ _ _ _ _ hx K => hx K))) K
set_option maxRecDepth 20000 in
set_option maxHeartbeats 1000000 in
theorem kw_X1_countFits_0 {Q : Int32 → HS → Prop} {v0 : Nat} {v1 : Nat} {v2 : Int32} {S0 S : HS} (h : P_X1_countFits_0 Q v0 v1 v2 S) (K : K7 S0 S) : P_X1_countFits_0 (fun r T => Q r T ∧ K7 S0 T) v0 v1 v2 S := by
  delta P_X1_countFits_0 at h ⊢
  exact kw_X1_countFits_5 h K
theorem kw_X1_countFits {Q : Int32 → HS → Prop} {v0 : Nat} {v1 : Nat} {v2 : Int32} {S : HS} (h : P_X1_countFits v0 v1 v2 Q S) : P_X1_countFits v0 v1 v2 (fun r T => Q r T ∧ K7 S T) S := kw_X1_countFits_0 h (k7_rf S)
set_option maxRecDepth 20000 in
set_option maxHeartbeats 1000000 in
theorem kw_X1_findFit_48 {Q : Int32 → HS → Prop} {X6 X6_2 : Nat → Nat → Int32 → Int32 → Int32 → HS → Prop} {v0 : Nat} {v1 : Nat} {v2 : Int32} {v4 : Int32} {v5 : Int32} {S0 S : HS} (h : P_X1_findFit_48 Q X6 v0 v1 v2 v4 v5 S) (K : K7 S0 S) (hX6 : ∀ (u0 : Nat) (u1 : Nat) (u2 : Int32) (u3 : Int32) (u4 : Int32) (u5 : HS), X6 u0 u1 u2 u3 u4 u5 → K7 S0 u5 → X6_2 u0 u1 u2 u3 u4 u5) : P_X1_findFit_48 (fun r T => Q r T ∧ K7 S0 T) X6_2 v0 v1 v2 v4 v5 S := by
  delta P_X1_findFit_48 at h ⊢
  intro x2 e1
  have h := h x2 e1
  exact hX6 _ _ _ _ _ _ h K
set_option maxRecDepth 20000 in
set_option maxHeartbeats 1000000 in
theorem kw_X1_findFit_39 {Q : Int32 → HS → Prop} {X6 X6_2 : Nat → Nat → Int32 → Int32 → Int32 → HS → Prop} {v0 : Nat} {v1 : Nat} {v2 : Int32} {v4 : Int32} {v5 : Int32} {v6 : Int32} {S0 S : HS} (h : P_X1_findFit_39 Q X6 v0 v1 v2 v4 v5 v6 S) (K : K7 S0 S) (hX6 : ∀ (u0 : Nat) (u1 : Nat) (u2 : Int32) (u3 : Int32) (u4 : Int32) (u5 : HS), X6 u0 u1 u2 u3 u4 u5 → K7 S0 u5 → X6_2 u0 u1 u2 u3 u4 u5) : P_X1_findFit_39 (fun r T => Q r T ∧ K7 S0 T) X6_2 v0 v1 v2 v4 v5 v6 S := by
  delta P_X1_findFit_39 at h ⊢
  refine ⟨?_, ?_⟩
  · intro c1
    have h := h.1 c1
    exact kw_X1_findFit_48 h K hX6
  · intro c2
    have h := h.2 c2
    intro x4 e3
    have h := h x4 e3
    exact kw_X1_findFit_48 h K hX6
set_option maxRecDepth 20000 in
set_option maxHeartbeats 1000000 in
theorem kwB_X1_findFit_6 {Q : Int32 → HS → Prop} {X6 X6_2 : Nat → Nat → Int32 → Int32 → Int32 → HS → Prop} {v0 : Nat} {v1 : Nat} {v2 : Int32} {v4 : Int32} {v5 : Int32} {S0 S : HS} (h : B_X1_findFit_6 Q X6 v0 v1 v2 v4 v5 S) (K : K7 S0 S) (hX6 : ∀ (u0 : Nat) (u1 : Nat) (u2 : Int32) (u3 : Int32) (u4 : Int32) (u5 : HS), X6 u0 u1 u2 u3 u4 u5 → K7 S0 u5 → X6_2 u0 u1 u2 u3 u4 u5) : B_X1_findFit_6 (fun r T => Q r T ∧ K7 S0 T) X6_2 v0 v1 v2 v4 v5 S := by
  delta B_X1_findFit_6 at h ⊢
  refine cm_X1_legsOf (kw_X1_legsOf h) h (fun x1 x2 p4 h g3 => ?_)
  have h := h g3
  have K := k7_tr K p4.2
  refine ⟨?_, ?_⟩
  · intro c5
    have h := h.1 c5
    exact ⟨h, K⟩
  · intro c6
    have h := h.2 c6
    obtain ⟨c7, h⟩ := h
    refine ⟨c7, ?_⟩
    have n8 := k7_nk K c7 (by decide)
    refine cm_X1_fitCode (kw_X1_fitCode h) h (fun x9 x10 p12 h g11 => ?_)
    have h := h g11
    have K := k7_tr K p12.2
    refine ⟨?_, ?_⟩
    · intro c13
      have h := h.1 c13
      exact kw_X1_findFit_39 h K hX6
    · intro c14
      have h := h.2 c14
      refine ⟨?_, ?_⟩
      · intro c15
        have h := h.1 c15
        exact kw_X1_findFit_39 h K hX6
      · intro c16
        have h := h.2 c16
        exact ⟨h, K⟩
theorem kw_X1_findFit_6 {Q : Int32 → HS → Prop} {v0 : Nat} {v1 : Nat} {v2 : Int32} {v4 : Int32} {v5 : Int32} {S0 S : HS} (h : P_X1_findFit_6 Q v0 v1 v2 v4 v5 S) (K : K7 S0 S) : P_X1_findFit_6 (fun r T => Q r T ∧ K7 S0 T) v0 v1 v2 v4 v5 S := h (fun v0 v1 v2 v4 v5 S => K7 S0 S → P_X1_findFit_6 (fun r T => Q r T ∧ K7 S0 T) v0 v1 v2 v4 v5 S) (fun v0 v1 v2 v4 v5 S hB K => fd_X1_findFit_6 (kwB_X1_findFit_6 hB K (fun _ _ _ _ _ _ hx K => hx K))) K
set_option maxRecDepth 20000 in
set_option maxHeartbeats 1000000 in
theorem kw_X1_findFit_0 {Q : Int32 → HS → Prop} {v0 : Nat} {v1 : Nat} {v2 : Int32} {v3 : Int32} {S0 S : HS} (h : P_X1_findFit_0 Q v0 v1 v2 v3 S) (K : K7 S0 S) : P_X1_findFit_0 (fun r T => Q r T ∧ K7 S0 T) v0 v1 v2 v3 S := by
  delta P_X1_findFit_0 at h ⊢
  exact kw_X1_findFit_6 h K
theorem kw_X1_findFit {Q : Int32 → HS → Prop} {v0 : Nat} {v1 : Nat} {v2 : Int32} {v3 : Int32} {S : HS} (h : P_X1_findFit v0 v1 v2 v3 Q S) : P_X1_findFit v0 v1 v2 v3 (fun r T => Q r T ∧ K7 S T) S := kw_X1_findFit_0 h (k7_rf S)
set_option maxRecDepth 20000 in
set_option maxHeartbeats 1000000 in
theorem kw_X1_leastWet_0 {Q : Int64 → HS → Prop} {v0 : Nat} {v1 : Nat} {v2 : Nat} {v3 : Int32} {v4 : Nat} {S0 S : HS} (h : P_X1_leastWet_0 Q v0 v1 v2 v3 v4 S) (K : K7 S0 S) : P_X1_leastWet_0 (fun r T => Q r T ∧ K7 S0 T) v0 v1 v2 v3 v4 S := by
  delta P_X1_leastWet_0 at h ⊢
  obtain ⟨c1, h⟩ := h
  refine ⟨c1, ?_⟩
  have n2 := k7_nk K c1 (by decide)
  refine cm_X1_bestSpeed (kw_X1_bestSpeed h) h (fun x3 x4 p6 h g5 => ?_)
  have h := h g5
  have K := k7_tr K p6.2
  refine cm_X1_wetOf (kw_X1_wetOf h) h (fun x7 x8 p10 h g9 => ?_)
  have h := h g9
  have K := k7_tr K p10.2
  exact ⟨h, K⟩
theorem kw_X1_leastWet {Q : Int64 → HS → Prop} {v0 : Nat} {v1 : Nat} {v2 : Nat} {v3 : Int32} {v4 : Nat} {S : HS} (h : P_X1_leastWet v0 v1 v2 v3 v4 Q S) : P_X1_leastWet v0 v1 v2 v3 v4 (fun r T => Q r T ∧ K7 S T) S := kw_X1_leastWet_0 h (k7_rf S)
set_option maxRecDepth 20000 in
set_option maxHeartbeats 1000000 in
theorem kw_X1_wetInLee_0 {Q : Int64 → HS → Prop} {v0 : Nat} {v1 : Nat} {v2 : Nat} {S0 S : HS} (h : P_X1_wetInLee_0 Q v0 v1 v2 S) (K : K7 S0 S) : P_X1_wetInLee_0 (fun r T => Q r T ∧ K7 S0 T) v0 v1 v2 S := by
  delta P_X1_wetInLee_0 at h ⊢
  obtain ⟨c1, h⟩ := h
  refine ⟨c1, ?_⟩
  have n2 := k7_nk K c1 (by decide)
  intro x4 e3
  have h := h x4 e3
  obtain ⟨c5, h⟩ := h
  refine ⟨c5, ?_⟩
  have n6 := k7_nk K c5 (by decide)
  refine cm_X1_soak (kw_X1_soak h) h (fun x7 x8 p10 h g9 => ?_)
  have h := h g9
  have K := k7_tr K p10.2
  obtain ⟨c11, h⟩ := h
  refine ⟨c11, ?_⟩
  have n12 := k7_nk K c11 (by decide)
  intro x14 e13
  have h := h x14 e13
  refine cm_X1_soak (kw_X1_soak h) h (fun x15 x16 p18 h g17 => ?_)
  have h := h g17
  have K := k7_tr K p18.2
  exact ⟨h, K⟩
theorem kw_X1_wetInLee {Q : Int64 → HS → Prop} {v0 : Nat} {v1 : Nat} {v2 : Nat} {S : HS} (h : P_X1_wetInLee v0 v1 v2 Q S) : P_X1_wetInLee v0 v1 v2 (fun r T => Q r T ∧ K7 S T) S := kw_X1_wetInLee_0 h (k7_rf S)
set_option maxRecDepth 20000 in
set_option maxHeartbeats 1000000 in
theorem kw_X1_worstSpeed_55 {Q : Int32 → HS → Prop} {X17 X17_2 : Nat → Nat → Nat → Int32 → Nat → Int32 → Int64 → Int32 → HS → Prop} {v0 : Nat} {v1 : Nat} {v2 : Nat} {v3 : Int32} {v4 : Nat} {v5 : Int32} {v6 : Int64} {v8 : Int32} {S0 S : HS} (h : P_X1_worstSpeed_55 Q X17 v0 v1 v2 v3 v4 v5 v6 v8 S) (K : K7 S0 S) (hX17 : ∀ (u0 : Nat) (u1 : Nat) (u2 : Nat) (u3 : Int32) (u4 : Nat) (u5 : Int32) (u6 : Int64) (u7 : Int32) (u8 : HS), X17 u0 u1 u2 u3 u4 u5 u6 u7 u8 → K7 S0 u8 → X17_2 u0 u1 u2 u3 u4 u5 u6 u7 u8) : P_X1_worstSpeed_55 (fun r T => Q r T ∧ K7 S0 T) X17_2 v0 v1 v2 v3 v4 v5 v6 v8 S := by
  delta P_X1_worstSpeed_55 at h ⊢
  intro x2 e1
  have h := h x2 e1
  exact hX17 _ _ _ _ _ _ _ _ _ h K
set_option maxRecDepth 20000 in
set_option maxHeartbeats 1000000 in
theorem kwB_X1_worstSpeed_17 {Q : Int32 → HS → Prop} {X17 X17_2 : Nat → Nat → Nat → Int32 → Nat → Int32 → Int64 → Int32 → HS → Prop} {v0 : Nat} {v1 : Nat} {v2 : Nat} {v3 : Int32} {v4 : Nat} {v5 : Int32} {v6 : Int64} {v8 : Int32} {S0 S : HS} (h : B_X1_worstSpeed_17 Q X17 v0 v1 v2 v3 v4 v5 v6 v8 S) (K : K7 S0 S) (hX17 : ∀ (u0 : Nat) (u1 : Nat) (u2 : Nat) (u3 : Int32) (u4 : Nat) (u5 : Int32) (u6 : Int64) (u7 : Int32) (u8 : HS), X17 u0 u1 u2 u3 u4 u5 u6 u7 u8 → K7 S0 u8 → X17_2 u0 u1 u2 u3 u4 u5 u6 u7 u8) : B_X1_worstSpeed_17 (fun r T => Q r T ∧ K7 S0 T) X17_2 v0 v1 v2 v3 v4 v5 v6 v8 S := by
  delta B_X1_worstSpeed_17 at h ⊢
  obtain ⟨c1, h⟩ := h
  refine ⟨c1, ?_⟩
  have n2 := k7_nk K c1 (by decide)
  intro x4 e3
  have h := h x4 e3
  refine ⟨?_, ?_⟩
  · intro c5
    have h := h.1 c5
    exact ⟨h, K⟩
  · intro c6
    have h := h.2 c6
    obtain ⟨c7, h⟩ := h
    refine ⟨c7, ?_⟩
    have n8 := k7_nk K c7 (by decide)
    refine cm_X1_wetOf (kw_X1_wetOf h) h (fun x9 x10 p12 h g11 => ?_)
    have h := h g11
    have K := k7_tr K p12.2
    refine ⟨?_, ?_⟩
    · intro c13
      have h := h.1 c13
      exact kw_X1_worstSpeed_55 h K hX17
    · intro c14
      have h := h.2 c14
      exact kw_X1_worstSpeed_55 h K hX17
theorem kw_X1_worstSpeed_17 {Q : Int32 → HS → Prop} {v0 : Nat} {v1 : Nat} {v2 : Nat} {v3 : Int32} {v4 : Nat} {v5 : Int32} {v6 : Int64} {v8 : Int32} {S0 S : HS} (h : P_X1_worstSpeed_17 Q v0 v1 v2 v3 v4 v5 v6 v8 S) (K : K7 S0 S) : P_X1_worstSpeed_17 (fun r T => Q r T ∧ K7 S0 T) v0 v1 v2 v3 v4 v5 v6 v8 S := h (fun v0 v1 v2 v3 v4 v5 v6 v8 S => K7 S0 S → P_X1_worstSpeed_17 (fun r T => Q r T ∧ K7 S0 T) v0 v1 v2 v3 v4 v5 v6 v8 S) (fun v0 v1 v2 v3 v4 v5 v6 v8 S hB K => fd_X1_worstSpeed_17 (kwB_X1_worstSpeed_17 hB K (fun _ _ _ _ _ _ _ _ _ hx K => hx K))) K
set_option maxRecDepth 20000 in
set_option maxHeartbeats 1000000 in
theorem kw_X1_worstSpeed_0 {Q : Int32 → HS → Prop} {v0 : Nat} {v1 : Nat} {v2 : Nat} {v3 : Int32} {v4 : Nat} {S0 S : HS} (h : P_X1_worstSpeed_0 Q v0 v1 v2 v3 v4 S) (K : K7 S0 S) : P_X1_worstSpeed_0 (fun r T => Q r T ∧ K7 S0 T) v0 v1 v2 v3 v4 S := by
  delta P_X1_worstSpeed_0 at h ⊢
  obtain ⟨c1, h⟩ := h
  refine ⟨c1, ?_⟩
  have n2 := k7_nk K c1 (by decide)
  intro x4 e3
  have h := h x4 e3
  intro x6 e5
  have h := h x6 e5
  exact kw_X1_worstSpeed_17 h K
theorem kw_X1_worstSpeed {Q : Int32 → HS → Prop} {v0 : Nat} {v1 : Nat} {v2 : Nat} {v3 : Int32} {v4 : Nat} {S : HS} (h : P_X1_worstSpeed v0 v1 v2 v3 v4 Q S) : P_X1_worstSpeed v0 v1 v2 v3 v4 (fun r T => Q r T ∧ K7 S T) S := kw_X1_worstSpeed_0 h (k7_rf S)
set_option maxRecDepth 20000 in
set_option maxHeartbeats 1000000 in
theorem kwB_X2_addFaces_2 {Q : HS → Prop} {X2 X2_2 : Nat → Nat → Int32 → HS → Prop} {v0 : Nat} {v1 : Nat} {v2 : Int32} {S0 S : HS} (h : B_X2_addFaces_2 Q X2 v0 v1 v2 S) (K : K7 S0 S) (hX2 : ∀ (u0 : Nat) (u1 : Nat) (u2 : Int32) (u3 : HS), X2 u0 u1 u2 u3 → K7 S0 u3 → X2_2 u0 u1 u2 u3) : B_X2_addFaces_2 (fun T => Q T ∧ K7 S0 T) X2_2 v0 v1 v2 S := by
  delta B_X2_addFaces_2 at h ⊢
  refine ⟨?_, ?_⟩
  · intro c1
    have h := h.1 c1
    exact ⟨h, K⟩
  · intro c2
    have h := h.2 c2
    obtain ⟨c3, h⟩ := h
    refine ⟨c3, ?_⟩
    have n4 := k7_nk K c3 (by decide)
    refine ⟨?_, ?_⟩
    · intro c5
      have h := h.1 c5
      exact ⟨h, K⟩
    · intro c6
      have h := h.2 c6
      obtain ⟨c7, h⟩ := h
      refine ⟨c7, ?_⟩
      have n8 := k7_nk K c7 (by decide)
      obtain ⟨b9, e10, h⟩ := h
      refine ⟨b9, e10, ?_⟩
      obtain ⟨c11, h⟩ := h
      refine ⟨c11, ?_⟩
      have n12 := k7_nk K c11 (by decide)
      obtain ⟨c13, h⟩ := h
      refine ⟨c13, ?_⟩
      intro x15 e14
      have h := h x15 e14
      obtain ⟨c16, h⟩ := h
      refine ⟨c16, ?_⟩
      intro x18 e17
      have h := h x18 e17
      intro x20 e19
      have h := h x20 e19
      obtain ⟨c21, h⟩ := h
      refine ⟨c21, ?_⟩
      intro x23 e22
      have h := h x23 e22
      have K := k7_J K e22
      intro x25 e24
      have h := h x25 e24
      exact hX2 _ _ _ _ h K
theorem kw_X2_addFaces_2 {Q : HS → Prop} {v0 : Nat} {v1 : Nat} {v2 : Int32} {S0 S : HS} (h : P_X2_addFaces_2 Q v0 v1 v2 S) (K : K7 S0 S) : P_X2_addFaces_2 (fun T => Q T ∧ K7 S0 T) v0 v1 v2 S := h (fun v0 v1 v2 S => K7 S0 S → P_X2_addFaces_2 (fun T => Q T ∧ K7 S0 T) v0 v1 v2 S) (fun v0 v1 v2 S hB K => fd_X2_addFaces_2 (kwB_X2_addFaces_2 hB K (fun _ _ _ _ hx K => hx K))) K
set_option maxRecDepth 20000 in
set_option maxHeartbeats 1000000 in
theorem kw_X2_addFaces_0 {Q : HS → Prop} {v0 : Nat} {v1 : Nat} {S0 S : HS} (h : P_X2_addFaces_0 Q v0 v1 S) (K : K7 S0 S) : P_X2_addFaces_0 (fun T => Q T ∧ K7 S0 T) v0 v1 S := by
  delta P_X2_addFaces_0 at h ⊢
  exact kw_X2_addFaces_2 h K
theorem kw_X2_addFaces {Q : HS → Prop} {v0 : Nat} {v1 : Nat} {S : HS} (h : P_X2_addFaces v0 v1 Q S) : P_X2_addFaces v0 v1 (fun T => Q T ∧ K7 S T) S := kw_X2_addFaces_0 h (k7_rf S)
set_option maxRecDepth 20000 in
set_option maxHeartbeats 1000000 in
theorem kwB_X2_allGot_4 {Q : Int64 → HS → Prop} {X4 X4_2 : Nat → Int64 → Int32 → HS → Prop} {v0 : Nat} {v1 : Int64} {v3 : Int32} {S0 S : HS} (h : B_X2_allGot_4 Q X4 v0 v1 v3 S) (K : K7 S0 S) (hX4 : ∀ (u0 : Nat) (u1 : Int64) (u2 : Int32) (u3 : HS), X4 u0 u1 u2 u3 → K7 S0 u3 → X4_2 u0 u1 u2 u3) : B_X2_allGot_4 (fun r T => Q r T ∧ K7 S0 T) X4_2 v0 v1 v3 S := by
  delta B_X2_allGot_4 at h ⊢
  refine ⟨?_, ?_⟩
  · intro c1
    have h := h.1 c1
    exact ⟨h, K⟩
  · intro c2
    have h := h.2 c2
    obtain ⟨c3, h⟩ := h
    refine ⟨c3, ?_⟩
    have n4 := k7_nk K c3 (by decide)
    obtain ⟨b5, e6, h⟩ := h
    refine ⟨b5, e6, ?_⟩
    obtain ⟨c7, h⟩ := h
    refine ⟨c7, ?_⟩
    have n8 := k7_nk K c7 (by decide)
    obtain ⟨c9, h⟩ := h
    refine ⟨c9, ?_⟩
    intro x11 e10
    have h := h x11 e10
    intro x13 e12
    have h := h x13 e12
    intro x15 e14
    have h := h x15 e14
    exact hX4 _ _ _ _ h K
theorem kw_X2_allGot_4 {Q : Int64 → HS → Prop} {v0 : Nat} {v1 : Int64} {v3 : Int32} {S0 S : HS} (h : P_X2_allGot_4 Q v0 v1 v3 S) (K : K7 S0 S) : P_X2_allGot_4 (fun r T => Q r T ∧ K7 S0 T) v0 v1 v3 S := h (fun v0 v1 v3 S => K7 S0 S → P_X2_allGot_4 (fun r T => Q r T ∧ K7 S0 T) v0 v1 v3 S) (fun v0 v1 v3 S hB K => fd_X2_allGot_4 (kwB_X2_allGot_4 hB K (fun _ _ _ _ hx K => hx K))) K
set_option maxRecDepth 20000 in
set_option maxHeartbeats 1000000 in
theorem kw_X2_allGot_0 {Q : Int64 → HS → Prop} {v0 : Nat} {S0 S : HS} (h : P_X2_allGot_0 Q v0 S) (K : K7 S0 S) : P_X2_allGot_0 (fun r T => Q r T ∧ K7 S0 T) v0 S := by
  delta P_X2_allGot_0 at h ⊢
  exact kw_X2_allGot_4 h K
theorem kw_X2_allGot {Q : Int64 → HS → Prop} {v0 : Nat} {S : HS} (h : P_X2_allGot v0 Q S) : P_X2_allGot v0 (fun r T => Q r T ∧ K7 S T) S := kw_X2_allGot_0 h (k7_rf S)
set_option maxRecDepth 20000 in
set_option maxHeartbeats 1000000 in
theorem kw_X8_isTold_0 {Q : Int32 → HS → Prop} {v0 : Nat} {S0 S : HS} (h : P_X8_isTold_0 Q v0 S) (K : K7 S0 S) : P_X8_isTold_0 (fun r T => Q r T ∧ K7 S0 T) v0 S := by
  delta P_X8_isTold_0 at h ⊢
  obtain ⟨c1, h⟩ := h
  refine ⟨c1, ?_⟩
  have n2 := k7_nk K c1 (by decide)
  intro x4 e3
  have h := h x4 e3
  refine ⟨?_, ?_⟩
  · intro c5
    have h := h.1 c5
    exact ⟨h, K⟩
  · intro c6
    have h := h.2 c6
    exact ⟨h, K⟩
theorem kw_X8_isTold {Q : Int32 → HS → Prop} {v0 : Nat} {S : HS} (h : P_X8_isTold v0 Q S) : P_X8_isTold v0 (fun r T => Q r T ∧ K7 S T) S := kw_X8_isTold_0 h (k7_rf S)
set_option maxRecDepth 20000 in
set_option maxHeartbeats 1000000 in
theorem kw_X5_endOf_0 {Q : Int32 → HS → Prop} {v0 : Nat} {v1 : Int32} {S0 S : HS} (h : P_X5_endOf_0 Q v0 v1 S) (K : K7 S0 S) : P_X5_endOf_0 (fun r T => Q r T ∧ K7 S0 T) v0 v1 S := by
  delta P_X5_endOf_0 at h ⊢
  refine ⟨?_, ?_⟩
  · intro c1
    have h := h.1 c1
    obtain ⟨c2, h⟩ := h
    refine ⟨c2, ?_⟩
    have n3 := k7_nk K c2 (by decide)
    intro x5 e4
    have h := h x5 e4
    exact ⟨h, K⟩
  · intro c6
    have h := h.2 c6
    obtain ⟨c7, h⟩ := h
    refine ⟨c7, ?_⟩
    have n8 := k7_nk K c7 (by decide)
    intro x10 e9
    have h := h x10 e9
    exact ⟨h, K⟩
theorem kw_X5_endOf {Q : Int32 → HS → Prop} {v0 : Nat} {v1 : Int32} {S : HS} (h : P_X5_endOf v0 v1 Q S) : P_X5_endOf v0 v1 (fun r T => Q r T ∧ K7 S T) S := kw_X5_endOf_0 h (k7_rf S)
set_option maxRecDepth 20000 in
set_option maxHeartbeats 1000000 in
theorem kw_X5_minutesAt_0 {Q : Int32 → HS → Prop} {v0 : Nat} {v1 : Int32} {S0 S : HS} (h : P_X5_minutesAt_0 Q v0 v1 S) (K : K7 S0 S) : P_X5_minutesAt_0 (fun r T => Q r T ∧ K7 S0 T) v0 v1 S := by
  delta P_X5_minutesAt_0 at h ⊢
  refine ⟨?_, ?_⟩
  · intro c1
    have h := h.1 c1
    exact ⟨h, K⟩
  · intro c2
    have h := h.2 c2
    obtain ⟨c3, h⟩ := h
    refine ⟨c3, ?_⟩
    have n4 := k7_nk K c3 (by decide)
    intro x6 e5
    have h := h x6 e5
    obtain ⟨c7, h⟩ := h
    refine ⟨c7, ?_⟩
    intro x9 e8
    have h := h x9 e8
    exact ⟨h, K⟩
theorem kw_X5_minutesAt {Q : Int32 → HS → Prop} {v0 : Nat} {v1 : Int32} {S : HS} (h : P_X5_minutesAt v0 v1 Q S) : P_X5_minutesAt v0 v1 (fun r T => Q r T ∧ K7 S T) S := kw_X5_minutesAt_0 h (k7_rf S)
set_option maxRecDepth 20000 in
set_option maxHeartbeats 1000000 in
theorem kw_X5_startOf_0 {Q : Int32 → HS → Prop} {v0 : Nat} {v1 : Int32} {S0 S : HS} (h : P_X5_startOf_0 Q v0 v1 S) (K : K7 S0 S) : P_X5_startOf_0 (fun r T => Q r T ∧ K7 S0 T) v0 v1 S := by
  delta P_X5_startOf_0 at h ⊢
  refine ⟨?_, ?_⟩
  · intro c1
    have h := h.1 c1
    obtain ⟨c2, h⟩ := h
    refine ⟨c2, ?_⟩
    have n3 := k7_nk K c2 (by decide)
    intro x5 e4
    have h := h x5 e4
    exact ⟨h, K⟩
  · intro c6
    have h := h.2 c6
    obtain ⟨c7, h⟩ := h
    refine ⟨c7, ?_⟩
    have n8 := k7_nk K c7 (by decide)
    intro x10 e9
    have h := h x10 e9
    exact ⟨h, K⟩
theorem kw_X5_startOf {Q : Int32 → HS → Prop} {v0 : Nat} {v1 : Int32} {S : HS} (h : P_X5_startOf v0 v1 Q S) : P_X5_startOf v0 v1 (fun r T => Q r T ∧ K7 S T) S := kw_X5_startOf_0 h (k7_rf S)
set_option maxRecDepth 20000 in
set_option maxHeartbeats 1000000 in
theorem kw_X5_tell_0 {Q : Int32 → HS → Prop} {v0 : Nat} {v1 : Int32} {S0 S : HS} (h : P_X5_tell_0 Q v0 v1 S) (K : K7 S0 S) : P_X5_tell_0 (fun r T => Q r T ∧ K7 S0 T) v0 v1 S := by
  delta P_X5_tell_0 at h ⊢
  refine ⟨?_, ?_, ?_, ?_, ?_⟩
  · intro c1
    have h := h.1 c1
    obtain ⟨c2, h⟩ := h
    refine ⟨c2, ?_⟩
    have n3 := k7_nk K c2 (by decide)
    intro x5 e4
    have h := h x5 e4
    exact ⟨h, K⟩
  · intro c6
    have h := h.2.1 c6
    obtain ⟨c7, h⟩ := h
    refine ⟨c7, ?_⟩
    have n8 := k7_nk K c7 (by decide)
    intro x10 e9
    have h := h x10 e9
    exact ⟨h, K⟩
  · intro c11
    have h := h.2.2.1 c11
    obtain ⟨c12, h⟩ := h
    refine ⟨c12, ?_⟩
    have n13 := k7_nk K c12 (by decide)
    intro x15 e14
    have h := h x15 e14
    exact ⟨h, K⟩
  · intro c16
    have h := h.2.2.2.1 c16
    obtain ⟨c17, h⟩ := h
    refine ⟨c17, ?_⟩
    have n18 := k7_nk K c17 (by decide)
    intro x20 e19
    have h := h x20 e19
    exact ⟨h, K⟩
  · intro c21
    have h := h.2.2.2.2 c21
    obtain ⟨c22, h⟩ := h
    refine ⟨c22, ?_⟩
    have n23 := k7_nk K c22 (by decide)
    intro x25 e24
    have h := h x25 e24
    exact ⟨h, K⟩
theorem kw_X5_tell {Q : Int32 → HS → Prop} {v0 : Nat} {v1 : Int32} {S : HS} (h : P_X5_tell v0 v1 Q S) : P_X5_tell v0 v1 (fun r T => Q r T ∧ K7 S T) S := kw_X5_tell_0 h (k7_rf S)
set_option maxRecDepth 20000 in
set_option maxHeartbeats 1000000 in
theorem kw_X6_tell_0 {Q : Int32 → HS → Prop} {v0 : Nat} {v1 : Int32} {S0 S : HS} (h : P_X6_tell_0 Q v0 v1 S) (K : K7 S0 S) : P_X6_tell_0 (fun r T => Q r T ∧ K7 S0 T) v0 v1 S := by
  delta P_X6_tell_0 at h ⊢
  refine ⟨?_, ?_, ?_, ?_, ?_, ?_, ?_⟩
  · intro c1
    have h := h.1 c1
    obtain ⟨c2, h⟩ := h
    refine ⟨c2, ?_⟩
    have n3 := k7_nk K c2 (by decide)
    intro x5 e4
    have h := h x5 e4
    exact ⟨h, K⟩
  · intro c6
    have h := h.2.1 c6
    obtain ⟨c7, h⟩ := h
    refine ⟨c7, ?_⟩
    have n8 := k7_nk K c7 (by decide)
    intro x10 e9
    have h := h x10 e9
    exact ⟨h, K⟩
  · intro c11
    have h := h.2.2.1 c11
    obtain ⟨c12, h⟩ := h
    refine ⟨c12, ?_⟩
    have n13 := k7_nk K c12 (by decide)
    intro x15 e14
    have h := h x15 e14
    exact ⟨h, K⟩
  · intro c16
    have h := h.2.2.2.1 c16
    obtain ⟨c17, h⟩ := h
    refine ⟨c17, ?_⟩
    have n18 := k7_nk K c17 (by decide)
    intro x20 e19
    have h := h x20 e19
    exact ⟨h, K⟩
  · intro c21
    have h := h.2.2.2.2.1 c21
    obtain ⟨c22, h⟩ := h
    refine ⟨c22, ?_⟩
    have n23 := k7_nk K c22 (by decide)
    intro x25 e24
    have h := h x25 e24
    exact ⟨h, K⟩
  · intro c26
    have h := h.2.2.2.2.2.1 c26
    obtain ⟨c27, h⟩ := h
    refine ⟨c27, ?_⟩
    have n28 := k7_nk K c27 (by decide)
    intro x30 e29
    have h := h x30 e29
    exact ⟨h, K⟩
  · intro c31
    have h := h.2.2.2.2.2.2 c31
    obtain ⟨c32, h⟩ := h
    refine ⟨c32, ?_⟩
    have n33 := k7_nk K c32 (by decide)
    intro x35 e34
    have h := h x35 e34
    exact ⟨h, K⟩
theorem kw_X6_tell {Q : Int32 → HS → Prop} {v0 : Nat} {v1 : Int32} {S : HS} (h : P_X6_tell v0 v1 Q S) : P_X6_tell v0 v1 (fun r T => Q r T ∧ K7 S T) S := kw_X6_tell_0 h (k7_rf S)
set_option maxRecDepth 20000 in
set_option maxHeartbeats 1000000 in
theorem kw_X7_addMove_0 {Q : HS → Prop} {v0 : Nat} {v1 : Int32} {v2 : Int32} {v3 : Int32} {v4 : Int64} {v6 : Int32} {S0 S : HS} (h : P_X7_addMove_0 Q v0 v1 v2 v3 v4 v6 S) (K : K7 S0 S) : P_X7_addMove_0 (fun T => Q T ∧ K7 S0 T) v0 v1 v2 v3 v4 v6 S := by
  delta P_X7_addMove_0 at h ⊢
  obtain ⟨c1, h⟩ := h
  refine ⟨c1, ?_⟩
  have n2 := k7_nk K c1 (by decide)
  have o3 := c1
  intro x5 e4
  have h := h x5 e4
  refine ⟨?_, ?_⟩
  · intro c6
    have h := h.1 c6
    exact ⟨h, K⟩
  · intro c7
    have h := h.2 c7
    intro x9 e8
    have h := h x9 e8
    refine ⟨?_, ?_⟩
    · intro c10
      have h := h.1 c10
      exact ⟨h, K⟩
    · intro c11
      have h := h.2 c11
      intro x13 e12
      have h := h x13 e12
      refine ⟨?_, ?_⟩
      · intro c14
        have h := h.1 c14
        obtain ⟨b15, e16, h⟩ := h
        refine ⟨b15, e16, ?_⟩
        have n17 := k7_nr K e16 o3 (by decide)
        intro x19 e18
        have h := h x19 e18
        obtain ⟨c20, h⟩ := h
        refine ⟨c20, ?_⟩
        intro x22 e21
        have h := h x22 e21
        obtain ⟨c23, h⟩ := h
        refine ⟨c23, ?_⟩
        intro x25 e24
        have h := h x25 e24
        have K := k7_I K e24 n17
        have o3 := ob_wI o3 e24
        obtain ⟨b26, e27, h⟩ := h
        refine ⟨b26, e27, ?_⟩
        have n28 := k7_nr K e27 o3 (by decide)
        intro x30 e29
        have h := h x30 e29
        obtain ⟨c31, h⟩ := h
        refine ⟨c31, ?_⟩
        intro x33 e32
        have h := h x33 e32
        obtain ⟨c34, h⟩ := h
        refine ⟨c34, ?_⟩
        intro x36 e35
        have h := h x36 e35
        have K := k7_I K e35 n28
        have o3 := ob_wI o3 e35
        obtain ⟨b37, e38, h⟩ := h
        refine ⟨b37, e38, ?_⟩
        have n39 := k7_nr K e38 o3 (by decide)
        intro x41 e40
        have h := h x41 e40
        obtain ⟨c42, h⟩ := h
        refine ⟨c42, ?_⟩
        obtain ⟨c43, h⟩ := h
        refine ⟨c43, ?_⟩
        intro x45 e44
        have h := h x45 e44
        have K := k7_I K e44 n39
        have o3 := ob_wI o3 e44
        obtain ⟨b46, e47, h⟩ := h
        refine ⟨b46, e47, ?_⟩
        intro x49 e48
        have h := h x49 e48
        obtain ⟨c50, h⟩ := h
        refine ⟨c50, ?_⟩
        have n51 := k7_nk K c50 (by decide)
        intro x53 e52
        have h := h x53 e52
        obtain ⟨c54, h⟩ := h
        refine ⟨c54, ?_⟩
        intro x56 e55
        have h := h x56 e55
        have K := k7_J K e55
        have o3 := ob_wJ o3 e55
        obtain ⟨b57, e58, h⟩ := h
        refine ⟨b57, e58, ?_⟩
        have n59 := k7_nr K e58 o3 (by decide)
        intro x61 e60
        have h := h x61 e60
        obtain ⟨c62, h⟩ := h
        refine ⟨c62, ?_⟩
        obtain ⟨c63, h⟩ := h
        refine ⟨c63, ?_⟩
        intro x65 e64
        have h := h x65 e64
        have K := k7_I K e64 n59
        have o3 := ob_wI o3 e64
        intro x67 e66
        have h := h x67 e66
        intro x69 e68
        have h := h x69 e68
        intro x71 e70
        have h := h x71 e70
        have K := k7_I K e70 n2
        have o3 := ob_wI o3 e70
        exact ⟨h, K⟩
      · intro c72
        have h := h.2 c72
        exact ⟨h, K⟩
theorem kw_X7_addMove {Q : HS → Prop} {v0 : Nat} {v1 : Int32} {v2 : Int32} {v3 : Int32} {v4 : Int64} {v6 : Int32} {S : HS} (h : P_X7_addMove v0 v1 v2 v3 v4 v6 Q S) : P_X7_addMove v0 v1 v2 v3 v4 v6 (fun T => Q T ∧ K7 S T) S := kw_X7_addMove_0 h (k7_rf S)
set_option maxRecDepth 20000 in
set_option maxHeartbeats 1000000 in
theorem kw_X7_addLeg_82 {Q : HS → Prop} {v0 : Nat} {v1 : Nat} {v2 : Int32} {v4 : Int64} {v6 : Int32} {v7 : Int32} {S0 S : HS} (h : P_X7_addLeg_82 Q v0 v1 v2 v4 v6 v7 S) (K : K7 S0 S) : P_X7_addLeg_82 (fun T => Q T ∧ K7 S0 T) v0 v1 v2 v4 v6 v7 S := by
  delta P_X7_addLeg_82 at h ⊢
  obtain ⟨c1, h⟩ := h
  refine ⟨c1, ?_⟩
  have n2 := k7_nk K c1 (by decide)
  refine cm_X5_startOf (kw_X5_startOf h) h (fun x3 x4 p6 h g5 => ?_)
  have h := h g5
  have K := k7_tr K p6.2
  refine cm_X5_endOf (kw_X5_endOf h) h (fun x7 x8 p10 h g9 => ?_)
  have h := h g9
  have K := k7_tr K p10.2
  obtain ⟨c11, h⟩ := h
  refine ⟨c11, ?_⟩
  have n12 := k7_nk K c11 (by decide)
  have o13 := c11
  refine cm_X7_addMove (kw_X7_addMove h) h (fun x14 p16 h g15 => ?_)
  have h := h g15
  have K := k7_tr K p16.2
  have o13 := gr_ob p16.2.1 o13
  exact ⟨h, K⟩
set_option maxRecDepth 20000 in
set_option maxHeartbeats 1000000 in
theorem kw_X7_addLeg_0 {Q : HS → Prop} {v0 : Nat} {v1 : Nat} {v2 : Int32} {v3 : Int32} {v4 : Int64} {v6 : Int32} {S0 S : HS} (h : P_X7_addLeg_0 Q v0 v1 v2 v3 v4 v6 S) (K : K7 S0 S) : P_X7_addLeg_0 (fun T => Q T ∧ K7 S0 T) v0 v1 v2 v3 v4 v6 S := by
  delta P_X7_addLeg_0 at h ⊢
  obtain ⟨c1, h⟩ := h
  refine ⟨c1, ?_⟩
  have n2 := k7_nk K c1 (by decide)
  refine cm_X5_minutesAt (kw_X5_minutesAt h) h (fun x3 x4 p6 h g5 => ?_)
  have h := h g5
  have K := k7_tr K p6.2
  obtain ⟨c7, h⟩ := h
  refine ⟨c7, ?_⟩
  have n8 := k7_nk K c7 (by decide)
  have o9 := c7
  intro x11 e10
  have h := h x11 e10
  intro x13 e12
  have h := h x13 e12
  refine ⟨?_, ?_⟩
  · intro c14
    have h := h.1 c14
    exact kw_X7_addLeg_82 h K
  · intro c15
    have h := h.2 c15
    refine ⟨?_, ?_⟩
    · intro c16
      have h := h.1 c16
      exact kw_X7_addLeg_82 h K
    · intro c17
      have h := h.2 c17
      obtain ⟨b18, e19, h⟩ := h
      refine ⟨b18, e19, ?_⟩
      have n20 := k7_nr K e19 o9 (by decide)
      obtain ⟨c21, h⟩ := h
      refine ⟨c21, ?_⟩
      obtain ⟨c22, h⟩ := h
      refine ⟨c22, ?_⟩
      intro x24 e23
      have h := h x24 e23
      intro x26 e25
      have h := h x26 e25
      intro x28 e27
      have h := h x28 e27
      refine ⟨?_, ?_⟩
      · intro c29
        have h := h.1 c29
        exact kw_X7_addLeg_82 h K
      · intro c30
        have h := h.2 c30
        obtain ⟨b31, e32, h⟩ := h
        refine ⟨b31, e32, ?_⟩
        have n33 := k7_nr K e32 o9 (by decide)
        obtain ⟨c34, h⟩ := h
        refine ⟨c34, ?_⟩
        obtain ⟨c35, h⟩ := h
        refine ⟨c35, ?_⟩
        intro x37 e36
        have h := h x37 e36
        refine ⟨?_, ?_⟩
        · intro c38
          have h := h.1 c38
          exact kw_X7_addLeg_82 h K
        · intro c39
          have h := h.2 c39
          obtain ⟨b40, e41, h⟩ := h
          refine ⟨b40, e41, ?_⟩
          obtain ⟨c42, h⟩ := h
          refine ⟨c42, ?_⟩
          have n43 := k7_nk K c42 (by decide)
          obtain ⟨c44, h⟩ := h
          refine ⟨c44, ?_⟩
          intro x46 e45
          have h := h x46 e45
          refine ⟨?_, ?_⟩
          · intro c47
            have h := h.1 c47
            intro x49 e48
            have h := h x49 e48
            have K := k7_I K e48 n8
            have o9 := ob_wI o9 e48
            exact kw_X7_addLeg_82 h K
          · intro c50
            have h := h.2 c50
            exact ⟨h, K⟩
theorem kw_X7_addLeg {Q : HS → Prop} {v0 : Nat} {v1 : Nat} {v2 : Int32} {v3 : Int32} {v4 : Int64} {v6 : Int32} {S : HS} (h : P_X7_addLeg v0 v1 v2 v3 v4 v6 Q S) : P_X7_addLeg v0 v1 v2 v3 v4 v6 (fun T => Q T ∧ K7 S T) S := kw_X7_addLeg_0 h (k7_rf S)
set_option maxRecDepth 20000 in
set_option maxHeartbeats 1000000 in
theorem kw_X7_keyOf_0 {Q : Int64 → HS → Prop} {v0 : Nat} {v1 : Int32} {v2 : Int32} {S0 S : HS} (h : P_X7_keyOf_0 Q v0 v1 v2 S) (K : K7 S0 S) : P_X7_keyOf_0 (fun r T => Q r T ∧ K7 S0 T) v0 v1 v2 S := by
  delta P_X7_keyOf_0 at h ⊢
  intro x2 e1
  have h := h x2 e1
  refine ⟨?_, ?_⟩
  · intro c3
    have h := h.1 c3
    exact ⟨h, K⟩
  · intro c4
    have h := h.2 c4
    obtain ⟨c5, h⟩ := h
    refine ⟨c5, ?_⟩
    have n6 := k7_nk K c5 (by decide)
    have o7 := c5
    obtain ⟨b8, e9, h⟩ := h
    refine ⟨b8, e9, ?_⟩
    obtain ⟨c10, h⟩ := h
    refine ⟨c10, ?_⟩
    have n11 := k7_nk K c10 (by decide)
    refine ⟨?_, ?_⟩
    · intro c12
      have h := h.1 c12
      exact ⟨h, K⟩
    · intro c13
      have h := h.2 c13
      obtain ⟨b14, e15, h⟩ := h
      refine ⟨b14, e15, ?_⟩
      obtain ⟨c16, h⟩ := h
      refine ⟨c16, ?_⟩
      have n17 := k7_nk K c16 (by decide)
      obtain ⟨c18, h⟩ := h
      refine ⟨c18, ?_⟩
      intro x20 e19
      have h := h x20 e19
      exact ⟨h, K⟩
theorem kw_X7_keyOf {Q : Int64 → HS → Prop} {v0 : Nat} {v1 : Int32} {v2 : Int32} {S : HS} (h : P_X7_keyOf v0 v1 v2 Q S) : P_X7_keyOf v0 v1 v2 (fun r T => Q r T ∧ K7 S T) S := kw_X7_keyOf_0 h (k7_rf S)
set_option maxRecDepth 20000 in
set_option maxHeartbeats 1000000 in
theorem kw_X7_endFrom_0 {Q : Int32 → HS → Prop} {v0 : Nat} {v1 : Int32} {v2 : Int32} {S0 S : HS} (h : P_X7_endFrom_0 Q v0 v1 v2 S) (K : K7 S0 S) : P_X7_endFrom_0 (fun r T => Q r T ∧ K7 S0 T) v0 v1 v2 S := by
  delta P_X7_endFrom_0 at h ⊢
  obtain ⟨c1, h⟩ := h
  refine ⟨c1, ?_⟩
  have n2 := k7_nk K c1 (by decide)
  have o3 := c1
  refine cm_X7_keyOf (kw_X7_keyOf h) h (fun x4 x5 p7 h g6 => ?_)
  have h := h g6
  have K := k7_tr K p7.2
  have o3 := gr_ob p7.2.1 o3
  intro x9 e8
  have h := h x9 e8
  exact ⟨h, K⟩
theorem kw_X7_endFrom {Q : Int32 → HS → Prop} {v0 : Nat} {v1 : Int32} {v2 : Int32} {S : HS} (h : P_X7_endFrom v0 v1 v2 Q S) : P_X7_endFrom v0 v1 v2 (fun r T => Q r T ∧ K7 S T) S := kw_X7_endFrom_0 h (k7_rf S)
set_option maxRecDepth 20000 in
set_option maxHeartbeats 1000000 in
theorem kw_X7_isOpen_0 {Q : Int32 → HS → Prop} {v0 : Nat} {v1 : Int32} {v2 : Int32} {S0 S : HS} (h : P_X7_isOpen_0 Q v0 v1 v2 S) (K : K7 S0 S) : P_X7_isOpen_0 (fun r T => Q r T ∧ K7 S0 T) v0 v1 v2 S := by
  delta P_X7_isOpen_0 at h ⊢
  obtain ⟨c1, h⟩ := h
  refine ⟨c1, ?_⟩
  have n2 := k7_nk K c1 (by decide)
  have o3 := c1
  refine cm_X7_keyOf (kw_X7_keyOf h) h (fun x4 x5 p7 h g6 => ?_)
  have h := h g6
  have K := k7_tr K p7.2
  have o3 := gr_ob p7.2.1 o3
  refine ⟨?_, ?_⟩
  · intro c8
    have h := h.1 c8
    exact ⟨h, K⟩
  · intro c9
    have h := h.2 c9
    exact ⟨h, K⟩
theorem kw_X7_isOpen {Q : Int32 → HS → Prop} {v0 : Nat} {v1 : Int32} {v2 : Int32} {S : HS} (h : P_X7_isOpen v0 v1 v2 Q S) : P_X7_isOpen v0 v1 v2 (fun r T => Q r T ∧ K7 S T) S := kw_X7_isOpen_0 h (k7_rf S)
set_option maxRecDepth 20000 in
set_option maxHeartbeats 1000000 in
theorem kw_X7_makeRows_0 {Q : HS → Prop} {v0 : Nat} {S0 S : HS} (h : P_X7_makeRows_0 Q v0 S) (K : K7 S0 S) : P_X7_makeRows_0 (fun T => Q T ∧ K7 S0 T) v0 S := by
  delta P_X7_makeRows_0 at h ⊢
  intro x2 e1
  have h := h x2 e1
  intro x4 e3
  have h := h x4 e3
  have n5 := k7_nf K e1
  have K := k7_W K e1 e3
  have o6 := ob_of_new e3
  obtain ⟨c7, h⟩ := h
  refine ⟨c7, ?_⟩
  have n8 := k7_nk K c7 (by decide)
  have o9 := c7
  intro x11 e10
  have h := h x11 e10
  have K := k7_S K e10 o9 n5 (by decide)
  have o6 := ob_wR o6 e10
  have o9 := ob_wR o9 e10
  intro x13 e12
  have h := h x13 e12
  intro x15 e14
  have h := h x15 e14
  have n16 := k7_nf K e12
  have K := k7_W K e12 e14
  have o6 := gr_ob (gr_of_new e14 e12) o6
  have o9 := gr_ob (gr_of_new e14 e12) o9
  have o17 := ob_of_new e14
  intro x19 e18
  have h := h x19 e18
  have K := k7_R K e18 o9 (by decide) (by decide)
  have o6 := ob_wR o6 e18
  have o9 := ob_wR o9 e18
  have o17 := ob_wR o17 e18
  intro x21 e20
  have h := h x21 e20
  intro x23 e22
  have h := h x23 e22
  have n24 := k7_nf K e20
  have K := k7_W K e20 e22
  have o6 := gr_ob (gr_of_new e22 e20) o6
  have o9 := gr_ob (gr_of_new e22 e20) o9
  have o17 := gr_ob (gr_of_new e22 e20) o17
  have o25 := ob_of_new e22
  intro x27 e26
  have h := h x27 e26
  have K := k7_S K e26 o9 n24 (by decide)
  have o6 := ob_wR o6 e26
  have o9 := ob_wR o9 e26
  have o17 := ob_wR o17 e26
  have o25 := ob_wR o25 e26
  intro x29 e28
  have h := h x29 e28
  intro x31 e30
  have h := h x31 e30
  have n32 := k7_nf K e28
  have K := k7_W K e28 e30
  have o6 := gr_ob (gr_of_new e30 e28) o6
  have o9 := gr_ob (gr_of_new e30 e28) o9
  have o17 := gr_ob (gr_of_new e30 e28) o17
  have o25 := gr_ob (gr_of_new e30 e28) o25
  have o33 := ob_of_new e30
  intro x35 e34
  have h := h x35 e34
  have K := k7_S K e34 o9 n32 (by decide)
  have o6 := ob_wR o6 e34
  have o9 := ob_wR o9 e34
  have o17 := ob_wR o17 e34
  have o25 := ob_wR o25 e34
  have o33 := ob_wR o33 e34
  intro x37 e36
  have h := h x37 e36
  intro x39 e38
  have h := h x39 e38
  have n40 := k7_nf K e36
  have K := k7_W K e36 e38
  have o6 := gr_ob (gr_of_new e38 e36) o6
  have o9 := gr_ob (gr_of_new e38 e36) o9
  have o17 := gr_ob (gr_of_new e38 e36) o17
  have o25 := gr_ob (gr_of_new e38 e36) o25
  have o33 := gr_ob (gr_of_new e38 e36) o33
  have o41 := ob_of_new e38
  intro x43 e42
  have h := h x43 e42
  have K := k7_S K e42 o9 n40 (by decide)
  have o6 := ob_wR o6 e42
  have o9 := ob_wR o9 e42
  have o17 := ob_wR o17 e42
  have o25 := ob_wR o25 e42
  have o33 := ob_wR o33 e42
  have o41 := ob_wR o41 e42
  intro x45 e44
  have h := h x45 e44
  intro x47 e46
  have h := h x47 e46
  have n48 := k7_nf K e44
  have K := k7_W K e44 e46
  have o6 := gr_ob (gr_of_new e46 e44) o6
  have o9 := gr_ob (gr_of_new e46 e44) o9
  have o17 := gr_ob (gr_of_new e46 e44) o17
  have o25 := gr_ob (gr_of_new e46 e44) o25
  have o33 := gr_ob (gr_of_new e46 e44) o33
  have o41 := gr_ob (gr_of_new e46 e44) o41
  have o49 := ob_of_new e46
  intro x51 e50
  have h := h x51 e50
  have K := k7_S K e50 o9 n48 (by decide)
  have o6 := ob_wR o6 e50
  have o9 := ob_wR o9 e50
  have o17 := ob_wR o17 e50
  have o25 := ob_wR o25 e50
  have o33 := ob_wR o33 e50
  have o41 := ob_wR o41 e50
  have o49 := ob_wR o49 e50
  intro x53 e52
  have h := h x53 e52
  intro x55 e54
  have h := h x55 e54
  have n56 := k7_nf K e52
  have K := k7_W K e52 e54
  have o6 := gr_ob (gr_of_new e54 e52) o6
  have o9 := gr_ob (gr_of_new e54 e52) o9
  have o17 := gr_ob (gr_of_new e54 e52) o17
  have o25 := gr_ob (gr_of_new e54 e52) o25
  have o33 := gr_ob (gr_of_new e54 e52) o33
  have o41 := gr_ob (gr_of_new e54 e52) o41
  have o49 := gr_ob (gr_of_new e54 e52) o49
  have o57 := ob_of_new e54
  intro x59 e58
  have h := h x59 e58
  have K := k7_R K e58 o9 (by decide) (by decide)
  have o6 := ob_wR o6 e58
  have o9 := ob_wR o9 e58
  have o17 := ob_wR o17 e58
  have o25 := ob_wR o25 e58
  have o33 := ob_wR o33 e58
  have o41 := ob_wR o41 e58
  have o49 := ob_wR o49 e58
  have o57 := ob_wR o57 e58
  intro x61 e60
  have h := h x61 e60
  intro x63 e62
  have h := h x63 e62
  have n64 := k7_nf K e60
  have K := k7_W K e60 e62
  have o6 := gr_ob (gr_of_new e62 e60) o6
  have o9 := gr_ob (gr_of_new e62 e60) o9
  have o17 := gr_ob (gr_of_new e62 e60) o17
  have o25 := gr_ob (gr_of_new e62 e60) o25
  have o33 := gr_ob (gr_of_new e62 e60) o33
  have o41 := gr_ob (gr_of_new e62 e60) o41
  have o49 := gr_ob (gr_of_new e62 e60) o49
  have o57 := gr_ob (gr_of_new e62 e60) o57
  have o65 := ob_of_new e62
  intro x67 e66
  have h := h x67 e66
  have K := k7_S K e66 o9 n64 (by decide)
  have o6 := ob_wR o6 e66
  have o9 := ob_wR o9 e66
  have o17 := ob_wR o17 e66
  have o25 := ob_wR o25 e66
  have o33 := ob_wR o33 e66
  have o41 := ob_wR o41 e66
  have o49 := ob_wR o49 e66
  have o57 := ob_wR o57 e66
  have o65 := ob_wR o65 e66
  exact ⟨h, K⟩
theorem kw_X7_makeRows {Q : HS → Prop} {v0 : Nat} {S : HS} (h : P_X7_makeRows v0 Q S) : P_X7_makeRows v0 (fun T => Q T ∧ K7 S T) S := kw_X7_makeRows_0 h (k7_rf S)
set_option maxRecDepth 20000 in
set_option maxHeartbeats 1000000 in
theorem kw_X7_meanFrom_0 {Q : Int64 → HS → Prop} {v0 : Nat} {v1 : Int32} {v2 : Int32} {S0 S : HS} (h : P_X7_meanFrom_0 Q v0 v1 v2 S) (K : K7 S0 S) : P_X7_meanFrom_0 (fun r T => Q r T ∧ K7 S0 T) v0 v1 v2 S := by
  delta P_X7_meanFrom_0 at h ⊢
  obtain ⟨c1, h⟩ := h
  refine ⟨c1, ?_⟩
  have n2 := k7_nk K c1 (by decide)
  have o3 := c1
  refine cm_X7_keyOf (kw_X7_keyOf h) h (fun x4 x5 p7 h g6 => ?_)
  have h := h g6
  have K := k7_tr K p7.2
  have o3 := gr_ob p7.2.1 o3
  intro x9 e8
  have h := h x9 e8
  exact ⟨h, K⟩
theorem kw_X7_meanFrom {Q : Int64 → HS → Prop} {v0 : Nat} {v1 : Int32} {v2 : Int32} {S : HS} (h : P_X7_meanFrom v0 v1 v2 Q S) : P_X7_meanFrom v0 v1 v2 (fun r T => Q r T ∧ K7 S T) S := kw_X7_meanFrom_0 h (k7_rf S)
set_option maxRecDepth 20000 in
set_option maxHeartbeats 1000000 in
theorem kw_X8_hasPlace_0 {Q : Int32 → HS → Prop} {v0 : Nat} {v1 : Int32} {S0 S : HS} (h : P_X8_hasPlace_0 Q v0 v1 S) (K : K7 S0 S) : P_X8_hasPlace_0 (fun r T => Q r T ∧ K7 S0 T) v0 v1 S := by
  delta P_X8_hasPlace_0 at h ⊢
  refine ⟨?_, ?_⟩
  · intro c1
    have h := h.1 c1
    exact ⟨h, K⟩
  · intro c2
    have h := h.2 c2
    obtain ⟨c3, h⟩ := h
    refine ⟨c3, ?_⟩
    have n4 := k7_nk K c3 (by decide)
    intro x6 e5
    have h := h x6 e5
    refine ⟨?_, ?_⟩
    · intro c7
      have h := h.1 c7
      exact ⟨h, K⟩
    · intro c8
      have h := h.2 c8
      obtain ⟨b9, e10, h⟩ := h
      refine ⟨b9, e10, ?_⟩
      obtain ⟨c11, h⟩ := h
      refine ⟨c11, ?_⟩
      refine ⟨?_, ?_⟩
      · intro c12
        have h := h.1 c12
        exact ⟨h, K⟩
      · intro c13
        have h := h.2 c13
        exact ⟨h, K⟩
theorem kw_X8_hasPlace {Q : Int32 → HS → Prop} {v0 : Nat} {v1 : Int32} {S : HS} (h : P_X8_hasPlace v0 v1 Q S) : P_X8_hasPlace v0 v1 (fun r T => Q r T ∧ K7 S T) S := kw_X8_hasPlace_0 h (k7_rf S)
set_option maxRecDepth 20000 in
set_option maxHeartbeats 1000000 in
theorem kw_X8_canWait_0 {Q : Int32 → HS → Prop} {v0 : Nat} {v1 : Int32} {S0 S : HS} (h : P_X8_canWait_0 Q v0 v1 S) (K : K7 S0 S) : P_X8_canWait_0 (fun r T => Q r T ∧ K7 S0 T) v0 v1 S := by
  delta P_X8_canWait_0 at h ⊢
  obtain ⟨c1, h⟩ := h
  refine ⟨c1, ?_⟩
  have n2 := k7_nk K c1 (by decide)
  refine cm_X8_hasPlace (kw_X8_hasPlace h) h (fun x3 x4 p7 h g5 g6 => ?_)
  have h := h g5 g6
  have K := k7_tr K p7.2
  refine ⟨?_, ?_⟩
  · intro c8
    have h := h.1 c8
    exact ⟨h, K⟩
  · intro c9
    have h := h.2 c9
    obtain ⟨b10, e11, h⟩ := h
    refine ⟨b10, e11, ?_⟩
    obtain ⟨c12, h⟩ := h
    refine ⟨c12, ?_⟩
    obtain ⟨c13, h⟩ := h
    refine ⟨c13, ?_⟩
    intro x15 e14
    have h := h x15 e14
    refine ⟨?_, ?_⟩
    · intro c16
      have h := h.1 c16
      exact ⟨h, K⟩
    · intro c17
      have h := h.2 c17
      exact ⟨h, K⟩
theorem kw_X8_canWait {Q : Int32 → HS → Prop} {v0 : Nat} {v1 : Int32} {S : HS} (h : P_X8_canWait v0 v1 Q S) : P_X8_canWait v0 v1 (fun r T => Q r T ∧ K7 S T) S := kw_X8_canWait_0 h (k7_rf S)
set_option maxRecDepth 20000 in
set_option maxHeartbeats 1000000 in
theorem kw_X8_dripOn_0 {Q : Int32 → HS → Prop} {v0 : Nat} {v1 : Nat} {v2 : Int32} {S0 S : HS} (h : P_X8_dripOn_0 Q v0 v1 v2 S) (K : K7 S0 S) : P_X8_dripOn_0 (fun r T => Q r T ∧ K7 S0 T) v0 v1 v2 S := by
  delta P_X8_dripOn_0 at h ⊢
  obtain ⟨c1, h⟩ := h
  refine ⟨c1, ?_⟩
  have n2 := k7_nk K c1 (by decide)
  refine cm_X8_canWait (kw_X8_canWait h) h (fun x3 x4 p7 h g5 g6 => ?_)
  have h := h g5 g6
  have K := k7_tr K p7.2
  refine ⟨?_, ?_⟩
  · intro c8
    have h := h.1 c8
    exact ⟨h, K⟩
  · intro c9
    have h := h.2 c9
    obtain ⟨b10, e11, h⟩ := h
    refine ⟨b10, e11, ?_⟩
    obtain ⟨c12, h⟩ := h
    refine ⟨c12, ?_⟩
    obtain ⟨c13, h⟩ := h
    refine ⟨c13, ?_⟩
    intro x15 e14
    have h := h x15 e14
    obtain ⟨c16, h⟩ := h
    refine ⟨c16, ?_⟩
    have n17 := k7_nk K c16 (by decide)
    intro x19 e18
    have h := h x19 e18
    refine cm_X6_shield (kw_X6_shield h) h (fun x20 x21 p23 h g22 => ?_)
    have h := h g22
    have K := k7_tr K p23.2
    intro x25 e24
    have h := h x25 e24
    exact ⟨h, K⟩
theorem kw_X8_dripOn {Q : Int32 → HS → Prop} {v0 : Nat} {v1 : Nat} {v2 : Int32} {S : HS} (h : P_X8_dripOn v0 v1 v2 Q S) : P_X8_dripOn v0 v1 v2 (fun r T => Q r T ∧ K7 S T) S := kw_X8_dripOn_0 h (k7_rf S)
set_option maxRecDepth 20000 in
set_option maxHeartbeats 1000000 in
theorem kw_X8_hasHour_0 {Q : Int32 → HS → Prop} {v0 : Nat} {v1 : Int32} {S0 S : HS} (h : P_X8_hasHour_0 Q v0 v1 S) (K : K7 S0 S) : P_X8_hasHour_0 (fun r T => Q r T ∧ K7 S0 T) v0 v1 S := by
  delta P_X8_hasHour_0 at h ⊢
  refine ⟨?_, ?_⟩
  · intro c1
    have h := h.1 c1
    exact ⟨h, K⟩
  · intro c2
    have h := h.2 c2
    obtain ⟨c3, h⟩ := h
    refine ⟨c3, ?_⟩
    have n4 := k7_nk K c3 (by decide)
    intro x6 e5
    have h := h x6 e5
    refine ⟨?_, ?_⟩
    · intro c7
      have h := h.1 c7
      exact ⟨h, K⟩
    · intro c8
      have h := h.2 c8
      obtain ⟨b9, e10, h⟩ := h
      refine ⟨b9, e10, ?_⟩
      obtain ⟨c11, h⟩ := h
      refine ⟨c11, ?_⟩
      have n12 := k7_nk K c11 (by decide)
      refine ⟨?_, ?_⟩
      · intro c13
        have h := h.1 c13
        exact ⟨h, K⟩
      · intro c14
        have h := h.2 c14
        exact ⟨h, K⟩
theorem kw_X8_hasHour {Q : Int32 → HS → Prop} {v0 : Nat} {v1 : Int32} {S : HS} (h : P_X8_hasHour v0 v1 Q S) : P_X8_hasHour v0 v1 (fun r T => Q r T ∧ K7 S T) S := kw_X8_hasHour_0 h (k7_rf S)
set_option maxRecDepth 20000 in
set_option maxHeartbeats 1000000 in
theorem kw_X7_price_134 {Q : HS → Prop} {X51 X51_2 : Nat → Nat → Nat → Int32 → Nat → Int32 → Int32 → HS → Prop} {X86 X86_2 : Nat → Nat → Nat → Int32 → Nat → Int32 → Int32 → Nat → Int32 → Int32 → HS → Prop} {v0 : Nat} {v1 : Nat} {v2 : Nat} {v3 : Int32} {v4 : Nat} {v5 : Int32} {v6 : Int32} {v7 : Nat} {v8 : Int32} {v9 : Int32} {s0 : Int64} {S0 S : HS} (h : P_X7_price_134 Q X51 X86 v0 v1 v2 v3 v4 v5 v6 v7 v8 v9 s0 S) (K : K7 S0 S) (hX51 : ∀ (u0 : Nat) (u1 : Nat) (u2 : Nat) (u3 : Int32) (u4 : Nat) (u5 : Int32) (u6 : Int32) (u7 : HS), X51 u0 u1 u2 u3 u4 u5 u6 u7 → K7 S0 u7 → X51_2 u0 u1 u2 u3 u4 u5 u6 u7) (hX86 : ∀ (u0 : Nat) (u1 : Nat) (u2 : Nat) (u3 : Int32) (u4 : Nat) (u5 : Int32) (u6 : Int32) (u7 : Nat) (u8 : Int32) (u9 : Int32) (u10 : HS), X86 u0 u1 u2 u3 u4 u5 u6 u7 u8 u9 u10 → K7 S0 u10 → X86_2 u0 u1 u2 u3 u4 u5 u6 u7 u8 u9 u10) : P_X7_price_134 (fun T => Q T ∧ K7 S0 T) X51_2 X86_2 v0 v1 v2 v3 v4 v5 v6 v7 v8 v9 s0 S := by
  delta P_X7_price_134 at h ⊢
  intro x2 e1
  have h := h x2 e1
  obtain ⟨c3, h⟩ := h
  refine ⟨c3, ?_⟩
  have n4 := k7_nk K c3 (by decide)
  have o5 := c3
  refine cm_X7_addLeg (kw_X7_addLeg h) h (fun x6 p8 h g7 => ?_)
  have h := h g7
  have K := k7_tr K p8.2
  have o5 := gr_ob p8.2.1 o5
  intro x10 e9
  have h := h x10 e9
  exact hX86 _ _ _ _ _ _ _ _ _ _ _ h K
set_option maxRecDepth 20000 in
set_option maxHeartbeats 1000000 in
theorem kwB_X7_price_86 {Q : HS → Prop} {X51 X51_2 : Nat → Nat → Nat → Int32 → Nat → Int32 → Int32 → HS → Prop} {X86 X86_2 : Nat → Nat → Nat → Int32 → Nat → Int32 → Int32 → Nat → Int32 → Int32 → HS → Prop} {v0 : Nat} {v1 : Nat} {v2 : Nat} {v3 : Int32} {v4 : Nat} {v5 : Int32} {v6 : Int32} {v7 : Nat} {v8 : Int32} {v9 : Int32} {S0 S : HS} (h : B_X7_price_86 Q X51 X86 v0 v1 v2 v3 v4 v5 v6 v7 v8 v9 S) (K : K7 S0 S) (hX51 : ∀ (u0 : Nat) (u1 : Nat) (u2 : Nat) (u3 : Int32) (u4 : Nat) (u5 : Int32) (u6 : Int32) (u7 : HS), X51 u0 u1 u2 u3 u4 u5 u6 u7 → K7 S0 u7 → X51_2 u0 u1 u2 u3 u4 u5 u6 u7) (hX86 : ∀ (u0 : Nat) (u1 : Nat) (u2 : Nat) (u3 : Int32) (u4 : Nat) (u5 : Int32) (u6 : Int32) (u7 : Nat) (u8 : Int32) (u9 : Int32) (u10 : HS), X86 u0 u1 u2 u3 u4 u5 u6 u7 u8 u9 u10 → K7 S0 u10 → X86_2 u0 u1 u2 u3 u4 u5 u6 u7 u8 u9 u10) : B_X7_price_86 (fun T => Q T ∧ K7 S0 T) X51_2 X86_2 v0 v1 v2 v3 v4 v5 v6 v7 v8 v9 S := by
  delta B_X7_price_86 at h ⊢
  obtain ⟨c1, h⟩ := h
  refine ⟨c1, ?_⟩
  have n2 := k7_nk K c1 (by decide)
  intro x4 e3
  have h := h x4 e3
  refine ⟨?_, ?_⟩
  · intro c5
    have h := h.1 c5
    intro x7 e6
    have h := h x7 e6
    exact hX51 _ _ _ _ _ _ _ _ h K
  · intro c8
    have h := h.2 c8
    refine ⟨?_, ?_⟩
    · intro c9
      have h := h.1 c9
      obtain ⟨c10, h⟩ := h
      refine ⟨c10, ?_⟩
      have n11 := k7_nk K c10 (by decide)
      obtain ⟨b12, e13, h⟩ := h
      refine ⟨b12, e13, ?_⟩
      obtain ⟨c14, h⟩ := h
      refine ⟨c14, ?_⟩
      have n15 := k7_nk K c14 (by decide)
      obtain ⟨c16, h⟩ := h
      refine ⟨c16, ?_⟩
      obtain ⟨b17, e18, h⟩ := h
      refine ⟨b17, e18, ?_⟩
      obtain ⟨c19, h⟩ := h
      refine ⟨c19, ?_⟩
      have n20 := k7_nk K c19 (by decide)
      refine cm_X1_wetOf (kw_X1_wetOf h) h (fun x21 x22 p24 h g23 => ?_)
      have h := h g23
      have K := k7_tr K p24.2
      obtain ⟨b25, e26, h⟩ := h
      refine ⟨b25, e26, ?_⟩
      obtain ⟨c27, h⟩ := h
      refine ⟨c27, ?_⟩
      have n28 := k7_nk K c27 (by decide)
      obtain ⟨c29, h⟩ := h
      refine ⟨c29, ?_⟩
      obtain ⟨b30, e31, h⟩ := h
      refine ⟨b30, e31, ?_⟩
      obtain ⟨c32, h⟩ := h
      refine ⟨c32, ?_⟩
      have n33 := k7_nk K c32 (by decide)
      intro x35 e34
      have h := h x35 e34
      exact kw_X7_price_134 h K hX51 hX86
    · intro c36
      have h := h.2 c36
      exact kw_X7_price_134 h K hX51 hX86
theorem kw_X7_price_86 {Q : HS → Prop} {X51 X51_2 : Nat → Nat → Nat → Int32 → Nat → Int32 → Int32 → HS → Prop} {v0 : Nat} {v1 : Nat} {v2 : Nat} {v3 : Int32} {v4 : Nat} {v5 : Int32} {v6 : Int32} {v7 : Nat} {v8 : Int32} {v9 : Int32} {S0 S : HS} (h : P_X7_price_86 Q X51 v0 v1 v2 v3 v4 v5 v6 v7 v8 v9 S) (K : K7 S0 S) (hX51 : ∀ (u0 : Nat) (u1 : Nat) (u2 : Nat) (u3 : Int32) (u4 : Nat) (u5 : Int32) (u6 : Int32) (u7 : HS), X51 u0 u1 u2 u3 u4 u5 u6 u7 → K7 S0 u7 → X51_2 u0 u1 u2 u3 u4 u5 u6 u7) : P_X7_price_86 (fun T => Q T ∧ K7 S0 T) X51_2 v0 v1 v2 v3 v4 v5 v6 v7 v8 v9 S := h (fun v0 v1 v2 v3 v4 v5 v6 v7 v8 v9 S => K7 S0 S → P_X7_price_86 (fun T => Q T ∧ K7 S0 T) X51_2 v0 v1 v2 v3 v4 v5 v6 v7 v8 v9 S) (fun v0 v1 v2 v3 v4 v5 v6 v7 v8 v9 S hB K => fd_X7_price_86 (kwB_X7_price_86 hB K hX51 (fun _ _ _ _ _ _ _ _ _ _ _ hx K => hx K))) K
set_option maxRecDepth 20000 in
set_option maxHeartbeats 1000000 in
theorem kw_X7_price_245 {Q : HS → Prop} {X179 X179_2 : Nat → Nat → Int32 → Nat → Int32 → Int32 → HS → Prop} {v0 : Nat} {v1 : Nat} {v3 : Int32} {v4 : Nat} {v5 : Int32} {v6 : Int32} {S0 S : HS} (h : P_X7_price_245 Q X179 v0 v1 v3 v4 v5 v6 S) (K : K7 S0 S) (hX179 : ∀ (u0 : Nat) (u1 : Nat) (u2 : Int32) (u3 : Nat) (u4 : Int32) (u5 : Int32) (u6 : HS), X179 u0 u1 u2 u3 u4 u5 u6 → K7 S0 u6 → X179_2 u0 u1 u2 u3 u4 u5 u6) : P_X7_price_245 (fun T => Q T ∧ K7 S0 T) X179_2 v0 v1 v3 v4 v5 v6 S := by
  delta P_X7_price_245 at h ⊢
  intro x2 e1
  have h := h x2 e1
  exact hX179 _ _ _ _ _ _ _ h K
set_option maxRecDepth 20000 in
set_option maxHeartbeats 1000000 in
theorem kw_X7_price_230 {Q : HS → Prop} {X179 X179_2 : Nat → Nat → Int32 → Nat → Int32 → Int32 → HS → Prop} {v0 : Nat} {v1 : Nat} {v3 : Int32} {v4 : Nat} {v5 : Int32} {v6 : Int32} {s0 : Int64} {S0 S : HS} (h : P_X7_price_230 Q X179 v0 v1 v3 v4 v5 v6 s0 S) (K : K7 S0 S) (hX179 : ∀ (u0 : Nat) (u1 : Nat) (u2 : Int32) (u3 : Nat) (u4 : Int32) (u5 : Int32) (u6 : HS), X179 u0 u1 u2 u3 u4 u5 u6 → K7 S0 u6 → X179_2 u0 u1 u2 u3 u4 u5 u6) : P_X7_price_230 (fun T => Q T ∧ K7 S0 T) X179_2 v0 v1 v3 v4 v5 v6 s0 S := by
  delta P_X7_price_230 at h ⊢
  obtain ⟨c1, h⟩ := h
  refine ⟨c1, ?_⟩
  have n2 := k7_nk K c1 (by decide)
  have o3 := c1
  refine cm_X7_addMove (kw_X7_addMove h) h (fun x4 p6 h g5 => ?_)
  have h := h g5
  have K := k7_tr K p6.2
  have o3 := gr_ob p6.2.1 o3
  exact kw_X7_price_245 h K hX179
set_option maxRecDepth 20000 in
set_option maxHeartbeats 1000000 in
theorem kwB_X7_price_179 {Q : HS → Prop} {X179 X179_2 : Nat → Nat → Int32 → Nat → Int32 → Int32 → HS → Prop} {v0 : Nat} {v1 : Nat} {v3 : Int32} {v4 : Nat} {v5 : Int32} {v6 : Int32} {S0 S : HS} (h : B_X7_price_179 Q X179 v0 v1 v3 v4 v5 v6 S) (K : K7 S0 S) (hX179 : ∀ (u0 : Nat) (u1 : Nat) (u2 : Int32) (u3 : Nat) (u4 : Int32) (u5 : Int32) (u6 : HS), X179 u0 u1 u2 u3 u4 u5 u6 → K7 S0 u6 → X179_2 u0 u1 u2 u3 u4 u5 u6) : B_X7_price_179 (fun T => Q T ∧ K7 S0 T) X179_2 v0 v1 v3 v4 v5 v6 S := by
  delta B_X7_price_179 at h ⊢
  obtain ⟨c1, h⟩ := h
  refine ⟨c1, ?_⟩
  have n2 := k7_nk K c1 (by decide)
  intro x4 e3
  have h := h x4 e3
  refine ⟨?_, ?_⟩
  · intro c5
    have h := h.1 c5
    exact ⟨h, K⟩
  · intro c6
    have h := h.2 c6
    refine cm_X8_canWait (kw_X8_canWait h) h (fun x7 x8 p11 h g9 g10 => ?_)
    have h := h g9 g10
    have K := k7_tr K p11.2
    refine ⟨?_, ?_⟩
    · intro c12
      have h := h.1 c12
      exact kw_X7_price_245 h K hX179
    · intro c13
      have h := h.2 c13
      refine ⟨?_, ?_⟩
      · intro c14
        have h := h.1 c14
        refine cm_X8_dripOn (kw_X8_dripOn h) h (fun x15 x16 p18 h g17 => ?_)
        have h := h g17
        have K := k7_tr K p18.2
        obtain ⟨b19, e20, h⟩ := h
        refine ⟨b19, e20, ?_⟩
        obtain ⟨c21, h⟩ := h
        refine ⟨c21, ?_⟩
        have n22 := k7_nk K c21 (by decide)
        obtain ⟨c23, h⟩ := h
        refine ⟨c23, ?_⟩
        obtain ⟨b24, e25, h⟩ := h
        refine ⟨b24, e25, ?_⟩
        obtain ⟨c26, h⟩ := h
        refine ⟨c26, ?_⟩
        have n27 := k7_nk K c26 (by decide)
        intro x29 e28
        have h := h x29 e28
        exact kw_X7_price_230 h K hX179
      · intro c30
        have h := h.2 c30
        exact kw_X7_price_230 h K hX179
theorem kw_X7_price_179 {Q : HS → Prop} {v0 : Nat} {v1 : Nat} {v3 : Int32} {v4 : Nat} {v5 : Int32} {v6 : Int32} {S0 S : HS} (h : P_X7_price_179 Q v0 v1 v3 v4 v5 v6 S) (K : K7 S0 S) : P_X7_price_179 (fun T => Q T ∧ K7 S0 T) v0 v1 v3 v4 v5 v6 S := h (fun v0 v1 v3 v4 v5 v6 S => K7 S0 S → P_X7_price_179 (fun T => Q T ∧ K7 S0 T) v0 v1 v3 v4 v5 v6 S) (fun v0 v1 v3 v4 v5 v6 S hB K => fd_X7_price_179 (kwB_X7_price_179 hB K (fun _ _ _ _ _ _ _ hx K => hx K))) K
set_option maxRecDepth 20000 in
set_option maxHeartbeats 1000000 in
theorem kwB_X7_price_51 {Q : HS → Prop} {X51 X51_2 : Nat → Nat → Nat → Int32 → Nat → Int32 → Int32 → HS → Prop} {v0 : Nat} {v1 : Nat} {v2 : Nat} {v3 : Int32} {v4 : Nat} {v5 : Int32} {v6 : Int32} {S0 S : HS} (h : B_X7_price_51 Q X51 v0 v1 v2 v3 v4 v5 v6 S) (K : K7 S0 S) (hX51 : ∀ (u0 : Nat) (u1 : Nat) (u2 : Nat) (u3 : Int32) (u4 : Nat) (u5 : Int32) (u6 : Int32) (u7 : HS), X51 u0 u1 u2 u3 u4 u5 u6 u7 → K7 S0 u7 → X51_2 u0 u1 u2 u3 u4 u5 u6 u7) : B_X7_price_51 (fun T => Q T ∧ K7 S0 T) X51_2 v0 v1 v2 v3 v4 v5 v6 S := by
  delta B_X7_price_51 at h ⊢
  obtain ⟨c1, h⟩ := h
  refine ⟨c1, ?_⟩
  have n2 := k7_nk K c1 (by decide)
  intro x4 e3
  have h := h x4 e3
  refine ⟨?_, ?_⟩
  · intro c5
    have h := h.1 c5
    exact kw_X7_price_179 h K
  · intro c6
    have h := h.2 c6
    obtain ⟨b7, e8, h⟩ := h
    refine ⟨b7, e8, ?_⟩
    intro x10 e9
    have h := h x10 e9
    obtain ⟨c11, h⟩ := h
    refine ⟨c11, ?_⟩
    have n12 := k7_nk K c11 (by decide)
    obtain ⟨c13, h⟩ := h
    refine ⟨c13, ?_⟩
    obtain ⟨b14, e15, h⟩ := h
    refine ⟨b14, e15, ?_⟩
    intro x17 e16
    have h := h x17 e16
    obtain ⟨c18, h⟩ := h
    refine ⟨c18, ?_⟩
    have n19 := k7_nk K c18 (by decide)
    intro x21 e20
    have h := h x21 e20
    exact kw_X7_price_86 h K hX51
theorem kw_X7_price_51 {Q : HS → Prop} {v0 : Nat} {v1 : Nat} {v2 : Nat} {v3 : Int32} {v4 : Nat} {v5 : Int32} {v6 : Int32} {S0 S : HS} (h : P_X7_price_51 Q v0 v1 v2 v3 v4 v5 v6 S) (K : K7 S0 S) : P_X7_price_51 (fun T => Q T ∧ K7 S0 T) v0 v1 v2 v3 v4 v5 v6 S := h (fun v0 v1 v2 v3 v4 v5 v6 S => K7 S0 S → P_X7_price_51 (fun T => Q T ∧ K7 S0 T) v0 v1 v2 v3 v4 v5 v6 S) (fun v0 v1 v2 v3 v4 v5 v6 S hB K => fd_X7_price_51 (kwB_X7_price_51 hB K (fun _ _ _ _ _ _ _ _ hx K => hx K))) K
set_option maxRecDepth 20000 in
set_option maxHeartbeats 1000000 in
theorem kw_X7_price_46 {Q : HS → Prop} {v0 : Nat} {v1 : Nat} {v2 : Nat} {v3 : Int32} {v4 : Nat} {s0 : Int32} {S0 S : HS} (h : P_X7_price_46 Q v0 v1 v2 v3 v4 s0 S) (K : K7 S0 S) : P_X7_price_46 (fun T => Q T ∧ K7 S0 T) v0 v1 v2 v3 v4 s0 S := by
  delta P_X7_price_46 at h ⊢
  exact kw_X7_price_51 h K
set_option maxRecDepth 20000 in
set_option maxHeartbeats 1000000 in
theorem kw_X7_price_0 {Q : HS → Prop} {v0 : Nat} {v1 : Nat} {v2 : Nat} {v3 : Int32} {S0 S : HS} (h : P_X7_price_0 Q v0 v1 v2 v3 S) (K : K7 S0 S) : P_X7_price_0 (fun T => Q T ∧ K7 S0 T) v0 v1 v2 v3 S := by
  delta P_X7_price_0 at h ⊢
  obtain ⟨c1, h⟩ := h
  refine ⟨c1, ?_⟩
  have n2 := k7_nk K c1 (by decide)
  have o3 := c1
  intro x5 e4
  have h := h x5 e4
  have K := k7_I K e4 n2
  have o3 := ob_wI o3 e4
  intro x7 e6
  have h := h x7 e6
  have K := k7_I K e6 n2
  have o3 := ob_wI o3 e6
  intro x9 e8
  have h := h x9 e8
  obtain ⟨c10, h⟩ := h
  refine ⟨c10, ?_⟩
  have n11 := k7_nk K c10 (by decide)
  refine cm_X8_hasWalker (kw_X8_hasWalker h) h (fun x12 x13 p16 h g14 g15 => ?_)
  have h := h g14 g15
  have K := k7_tr K p16.2
  have o3 := gr_ob p16.2.1 o3
  refine ⟨?_, ?_⟩
  · intro c17
    have h := h.1 c17
    obtain ⟨b18, e19, h⟩ := h
    refine ⟨b18, e19, ?_⟩
    intro x21 e20
    have h := h x21 e20
    obtain ⟨c22, h⟩ := h
    refine ⟨c22, ?_⟩
    have n23 := k7_nk K c22 (by decide)
    obtain ⟨c24, h⟩ := h
    refine ⟨c24, ?_⟩
    obtain ⟨b25, e26, h⟩ := h
    refine ⟨b25, e26, ?_⟩
    refine cm_X8_hasHour (kw_X8_hasHour h) h (fun x27 x28 p31 h g29 g30 => ?_)
    have h := h g29 g30
    have K := k7_tr K p31.2
    have o3 := gr_ob p31.2.1 o3
    refine ⟨?_, ?_⟩
    · intro c32
      have h := h.1 c32
      exact kw_X7_price_46 h K
    · intro c33
      have h := h.2 c33
      exact kw_X7_price_46 h K
  · intro c34
    have h := h.2 c34
    exact ⟨h, K⟩
theorem kw_X7_price {Q : HS → Prop} {v0 : Nat} {v1 : Nat} {v2 : Nat} {v3 : Int32} {S : HS} (h : P_X7_price v0 v1 v2 v3 Q S) : P_X7_price v0 v1 v2 v3 (fun T => Q T ∧ K7 S T) S := kw_X7_price_0 h (k7_rf S)
set_option maxRecDepth 20000 in
set_option maxHeartbeats 1000000 in
theorem kw_X7_reckonMinute_40 {Q : HS → Prop} {X2 X2_2 : Nat → Int32 → Int32 → Int32 → HS → Prop} {v0 : Nat} {v1 : Int32} {v2 : Int32} {v3 : Int32} {s0 : Nat} {s1 : Int32} {s2 : Int64} {S0 S : HS} (h : P_X7_reckonMinute_40 Q X2 v0 v1 v2 v3 s0 s1 s2 S) (K : K7 S0 S) (hX2 : ∀ (u0 : Nat) (u1 : Int32) (u2 : Int32) (u3 : Int32) (u4 : HS), X2 u0 u1 u2 u3 u4 → K7 S0 u4 → X2_2 u0 u1 u2 u3 u4) : P_X7_reckonMinute_40 (fun T => Q T ∧ K7 S0 T) X2_2 v0 v1 v2 v3 s0 s1 s2 S := by
  delta P_X7_reckonMinute_40 at h ⊢
  obtain ⟨c1, h⟩ := h
  refine ⟨c1, ?_⟩
  have n2 := k7_nk K c1 (by decide)
  obtain ⟨c3, h⟩ := h
  refine ⟨c3, ?_⟩
  intro x5 e4
  have h := h x5 e4
  have K := k7_J K e4
  obtain ⟨c6, h⟩ := h
  refine ⟨c6, ?_⟩
  have n7 := k7_nk K c6 (by decide)
  have o8 := c6
  obtain ⟨b9, e10, h⟩ := h
  refine ⟨b9, e10, ?_⟩
  have n11 := k7_nr K e10 o8 (by decide)
  obtain ⟨c12, h⟩ := h
  refine ⟨c12, ?_⟩
  obtain ⟨c13, h⟩ := h
  refine ⟨c13, ?_⟩
  intro x15 e14
  have h := h x15 e14
  have K := k7_I K e14 n11
  have o8 := ob_wI o8 e14
  intro x17 e16
  have h := h x17 e16
  exact hX2 _ _ _ _ _ h K
set_option maxRecDepth 20000 in
set_option maxHeartbeats 1000000 in
theorem kw_X7_reckonMinute_219 {Q : HS → Prop} {X62 X62_2 : Nat → Int32 → Int32 → HS → Prop} {v0 : Nat} {v2 : Int32} {v3 : Int32} {S0 S : HS} (h : P_X7_reckonMinute_219 Q X62 v0 v2 v3 S) (K : K7 S0 S) (hX62 : ∀ (u0 : Nat) (u1 : Int32) (u2 : Int32) (u3 : HS), X62 u0 u1 u2 u3 → K7 S0 u3 → X62_2 u0 u1 u2 u3) : P_X7_reckonMinute_219 (fun T => Q T ∧ K7 S0 T) X62_2 v0 v2 v3 S := by
  delta P_X7_reckonMinute_219 at h ⊢
  intro x2 e1
  have h := h x2 e1
  exact hX62 _ _ _ _ h K
set_option maxRecDepth 20000 in
set_option maxHeartbeats 1000000 in
theorem kw_X7_reckonMinute_117 {Q : HS → Prop} {X62 X62_2 : Nat → Int32 → Int32 → HS → Prop} {v0 : Nat} {v2 : Int32} {v3 : Int32} {v4 : Int32} {v5 : Int32} {s0 : Int32} {S0 S : HS} (h : P_X7_reckonMinute_117 Q X62 v0 v2 v3 v4 v5 s0 S) (K : K7 S0 S) (hX62 : ∀ (u0 : Nat) (u1 : Int32) (u2 : Int32) (u3 : HS), X62 u0 u1 u2 u3 → K7 S0 u3 → X62_2 u0 u1 u2 u3) : P_X7_reckonMinute_117 (fun T => Q T ∧ K7 S0 T) X62_2 v0 v2 v3 v4 v5 s0 S := by
  delta P_X7_reckonMinute_117 at h ⊢
  refine ⟨?_, ?_⟩
  · intro c1
    have h := h.1 c1
    exact kw_X7_reckonMinute_219 h K hX62
  · intro c2
    have h := h.2 c2
    refine ⟨?_, ?_⟩
    · intro c3
      have h := h.1 c3
      exact kw_X7_reckonMinute_219 h K hX62
    · intro c4
      have h := h.2 c4
      obtain ⟨c5, h⟩ := h
      refine ⟨c5, ?_⟩
      have n6 := k7_nk K c5 (by decide)
      have o7 := c5
      obtain ⟨b8, e9, h⟩ := h
      refine ⟨b8, e9, ?_⟩
      obtain ⟨c10, h⟩ := h
      refine ⟨c10, ?_⟩
      have n11 := k7_nk K c10 (by decide)
      refine ⟨?_, ?_⟩
      · intro c12
        have h := h.1 c12
        exact kw_X7_reckonMinute_219 h K hX62
      · intro c13
        have h := h.2 c13
        refine ⟨?_, ?_⟩
        · intro c14
          have h := h.1 c14
          exact kw_X7_reckonMinute_219 h K hX62
        · intro c15
          have h := h.2 c15
          obtain ⟨b16, e17, h⟩ := h
          refine ⟨b16, e17, ?_⟩
          obtain ⟨c18, h⟩ := h
          refine ⟨c18, ?_⟩
          have n19 := k7_nk K c18 (by decide)
          refine ⟨?_, ?_⟩
          · intro c20
            have h := h.1 c20
            exact kw_X7_reckonMinute_219 h K hX62
          · intro c21
            have h := h.2 c21
            obtain ⟨b22, e23, h⟩ := h
            refine ⟨b22, e23, ?_⟩
            obtain ⟨c24, h⟩ := h
            refine ⟨c24, ?_⟩
            have n25 := k7_nk K c24 (by decide)
            obtain ⟨c26, h⟩ := h
            refine ⟨c26, ?_⟩
            intro x28 e27
            have h := h x28 e27
            refine ⟨?_, ?_⟩
            · intro c29
              have h := h.1 c29
              exact kw_X7_reckonMinute_219 h K hX62
            · intro c30
              have h := h.2 c30
              obtain ⟨b31, e32, h⟩ := h
              refine ⟨b31, e32, ?_⟩
              obtain ⟨c33, h⟩ := h
              refine ⟨c33, ?_⟩
              have n34 := k7_nk K c33 (by decide)
              obtain ⟨c35, h⟩ := h
              refine ⟨c35, ?_⟩
              intro x37 e36
              have h := h x37 e36
              obtain ⟨b38, e39, h⟩ := h
              refine ⟨b38, e39, ?_⟩
              obtain ⟨c40, h⟩ := h
              refine ⟨c40, ?_⟩
              have n41 := k7_nk K c40 (by decide)
              obtain ⟨c42, h⟩ := h
              refine ⟨c42, ?_⟩
              intro x44 e43
              have h := h x44 e43
              intro x46 e45
              have h := h x46 e45
              obtain ⟨b47, e48, h⟩ := h
              refine ⟨b47, e48, ?_⟩
              obtain ⟨c49, h⟩ := h
              refine ⟨c49, ?_⟩
              have n50 := k7_nk K c49 (by decide)
              obtain ⟨c51, h⟩ := h
              refine ⟨c51, ?_⟩
              intro x53 e52
              have h := h x53 e52
              refine ⟨?_, ?_⟩
              · intro c54
                have h := h.1 c54
                exact kw_X7_reckonMinute_219 h K hX62
              · intro c55
                have h := h.2 c55
                obtain ⟨b56, e57, h⟩ := h
                refine ⟨b56, e57, ?_⟩
                obtain ⟨c58, h⟩ := h
                refine ⟨c58, ?_⟩
                have n59 := k7_nk K c58 (by decide)
                obtain ⟨c60, h⟩ := h
                refine ⟨c60, ?_⟩
                intro x62 e61
                have h := h x62 e61
                have K := k7_J K e61
                have o7 := ob_wJ o7 e61
                obtain ⟨b63, e64, h⟩ := h
                refine ⟨b63, e64, ?_⟩
                have n65 := k7_nr K e64 o7 (by decide)
                obtain ⟨b66, e67, h⟩ := h
                refine ⟨b66, e67, ?_⟩
                have n68 := k7_nr K e67 o7 (by decide)
                obtain ⟨c69, h⟩ := h
                refine ⟨c69, ?_⟩
                obtain ⟨c70, h⟩ := h
                refine ⟨c70, ?_⟩
                intro x72 e71
                have h := h x72 e71
                obtain ⟨c73, h⟩ := h
                refine ⟨c73, ?_⟩
                obtain ⟨c74, h⟩ := h
                refine ⟨c74, ?_⟩
                intro x76 e75
                have h := h x76 e75
                have K := k7_I K e75 n65
                have o7 := ob_wI o7 e75
                exact kw_X7_reckonMinute_219 h K hX62
set_option maxRecDepth 20000 in
set_option maxHeartbeats 1000000 in
theorem kwB_X7_reckonMinute_62 {Q : HS → Prop} {X62 X62_2 : Nat → Int32 → Int32 → HS → Prop} {v0 : Nat} {v2 : Int32} {v3 : Int32} {S0 S : HS} (h : B_X7_reckonMinute_62 Q X62 v0 v2 v3 S) (K : K7 S0 S) (hX62 : ∀ (u0 : Nat) (u1 : Int32) (u2 : Int32) (u3 : HS), X62 u0 u1 u2 u3 → K7 S0 u3 → X62_2 u0 u1 u2 u3) : B_X7_reckonMinute_62 (fun T => Q T ∧ K7 S0 T) X62_2 v0 v2 v3 S := by
  delta B_X7_reckonMinute_62 at h ⊢
  obtain ⟨c1, h⟩ := h
  refine ⟨c1, ?_⟩
  have n2 := k7_nk K c1 (by decide)
  have o3 := c1
  intro x5 e4
  have h := h x5 e4
  refine ⟨?_, ?_⟩
  · intro c6
    have h := h.1 c6
    exact ⟨h, K⟩
  · intro c7
    have h := h.2 c7
    refine ⟨?_, ?_⟩
    · intro c8
      have h := h.1 c8
      exact ⟨h, K⟩
    · intro c9
      have h := h.2 c9
      obtain ⟨b10, e11, h⟩ := h
      refine ⟨b10, e11, ?_⟩
      have n12 := k7_nr K e11 o3 (by decide)
      obtain ⟨c13, h⟩ := h
      refine ⟨c13, ?_⟩
      obtain ⟨c14, h⟩ := h
      refine ⟨c14, ?_⟩
      intro x16 e15
      have h := h x16 e15
      intro x18 e17
      have h := h x18 e17
      obtain ⟨b19, e20, h⟩ := h
      refine ⟨b19, e20, ?_⟩
      have n21 := k7_nr K e20 o3 (by decide)
      obtain ⟨c22, h⟩ := h
      refine ⟨c22, ?_⟩
      obtain ⟨c23, h⟩ := h
      refine ⟨c23, ?_⟩
      intro x25 e24
      have h := h x25 e24
      intro x27 e26
      have h := h x27 e26
      obtain ⟨b28, e29, h⟩ := h
      refine ⟨b28, e29, ?_⟩
      have n30 := k7_nr K e29 o3 (by decide)
      obtain ⟨c31, h⟩ := h
      refine ⟨c31, ?_⟩
      obtain ⟨c32, h⟩ := h
      refine ⟨c32, ?_⟩
      intro x34 e33
      have h := h x34 e33
      intro x36 e35
      have h := h x36 e35
      refine ⟨?_, ?_⟩
      · intro c37
        have h := h.1 c37
        exact kw_X7_reckonMinute_117 h K hX62
      · intro c38
        have h := h.2 c38
        exact kw_X7_reckonMinute_117 h K hX62
theorem kw_X7_reckonMinute_62 {Q : HS → Prop} {v0 : Nat} {v2 : Int32} {v3 : Int32} {S0 S : HS} (h : P_X7_reckonMinute_62 Q v0 v2 v3 S) (K : K7 S0 S) : P_X7_reckonMinute_62 (fun T => Q T ∧ K7 S0 T) v0 v2 v3 S := h (fun v0 v2 v3 S => K7 S0 S → P_X7_reckonMinute_62 (fun T => Q T ∧ K7 S0 T) v0 v2 v3 S) (fun v0 v2 v3 S hB K => fd_X7_reckonMinute_62 (kwB_X7_reckonMinute_62 hB K (fun _ _ _ _ hx K => hx K))) K
set_option maxRecDepth 20000 in
set_option maxHeartbeats 1000000 in
theorem kw_X7_reckonMinute_60 {Q : HS → Prop} {v0 : Nat} {v2 : Int32} {S0 S : HS} (h : P_X7_reckonMinute_60 Q v0 v2 S) (K : K7 S0 S) : P_X7_reckonMinute_60 (fun T => Q T ∧ K7 S0 T) v0 v2 S := by
  delta P_X7_reckonMinute_60 at h ⊢
  exact kw_X7_reckonMinute_62 h K
set_option maxRecDepth 20000 in
set_option maxHeartbeats 1000000 in
theorem kwB_X7_reckonMinute_2 {Q : HS → Prop} {X2 X2_2 : Nat → Int32 → Int32 → Int32 → HS → Prop} {v0 : Nat} {v1 : Int32} {v2 : Int32} {v3 : Int32} {S0 S : HS} (h : B_X7_reckonMinute_2 Q X2 v0 v1 v2 v3 S) (K : K7 S0 S) (hX2 : ∀ (u0 : Nat) (u1 : Int32) (u2 : Int32) (u3 : Int32) (u4 : HS), X2 u0 u1 u2 u3 u4 → K7 S0 u4 → X2_2 u0 u1 u2 u3 u4) : B_X7_reckonMinute_2 (fun T => Q T ∧ K7 S0 T) X2_2 v0 v1 v2 v3 S := by
  delta B_X7_reckonMinute_2 at h ⊢
  refine ⟨?_, ?_⟩
  · intro c1
    have h := h.1 c1
    exact kw_X7_reckonMinute_60 h K
  · intro c2
    have h := h.2 c2
    refine ⟨?_, ?_⟩
    · intro c3
      have h := h.1 c3
      exact kw_X7_reckonMinute_60 h K
    · intro c4
      have h := h.2 c4
      obtain ⟨c5, h⟩ := h
      refine ⟨c5, ?_⟩
      have n6 := k7_nk K c5 (by decide)
      have o7 := c5
      obtain ⟨b8, e9, h⟩ := h
      refine ⟨b8, e9, ?_⟩
      intro x11 e10
      have h := h x11 e10
      refine ⟨?_, ?_⟩
      · intro c12
        have h := h.1 c12
        exact kw_X7_reckonMinute_40 h K hX2
      · intro c13
        have h := h.2 c13
        exact kw_X7_reckonMinute_40 h K hX2
theorem kw_X7_reckonMinute_2 {Q : HS → Prop} {v0 : Nat} {v1 : Int32} {v2 : Int32} {v3 : Int32} {S0 S : HS} (h : P_X7_reckonMinute_2 Q v0 v1 v2 v3 S) (K : K7 S0 S) : P_X7_reckonMinute_2 (fun T => Q T ∧ K7 S0 T) v0 v1 v2 v3 S := h (fun v0 v1 v2 v3 S => K7 S0 S → P_X7_reckonMinute_2 (fun T => Q T ∧ K7 S0 T) v0 v1 v2 v3 S) (fun v0 v1 v2 v3 S hB K => fd_X7_reckonMinute_2 (kwB_X7_reckonMinute_2 hB K (fun _ _ _ _ _ hx K => hx K))) K
set_option maxRecDepth 20000 in
set_option maxHeartbeats 1000000 in
theorem kw_X7_reckonMinute_0 {Q : HS → Prop} {v0 : Nat} {v1 : Int32} {v2 : Int32} {S0 S : HS} (h : P_X7_reckonMinute_0 Q v0 v1 v2 S) (K : K7 S0 S) : P_X7_reckonMinute_0 (fun T => Q T ∧ K7 S0 T) v0 v1 v2 S := by
  delta P_X7_reckonMinute_0 at h ⊢
  exact kw_X7_reckonMinute_2 h K
theorem kw_X7_reckonMinute {Q : HS → Prop} {v0 : Nat} {v1 : Int32} {v2 : Int32} {S : HS} (h : P_X7_reckonMinute v0 v1 v2 Q S) : P_X7_reckonMinute v0 v1 v2 (fun T => Q T ∧ K7 S T) S := kw_X7_reckonMinute_0 h (k7_rf S)
set_option maxRecDepth 20000 in
set_option maxHeartbeats 1000000 in
theorem kw_X8_hourOf_0 {Q : Int32 → HS → Prop} {v0 : Nat} {v1 : Int32} {S0 S : HS} (h : P_X8_hourOf_0 Q v0 v1 S) (K : K7 S0 S) : P_X8_hourOf_0 (fun r T => Q r T ∧ K7 S0 T) v0 v1 S := by
  delta P_X8_hourOf_0 at h ⊢
  obtain ⟨c1, h⟩ := h
  refine ⟨c1, ?_⟩
  have n2 := k7_nk K c1 (by decide)
  intro x4 e3
  have h := h x4 e3
  refine ⟨?_, ?_⟩
  · intro c5
    have h := h.1 c5
    exact ⟨h, K⟩
  · intro c6
    have h := h.2 c6
    intro x8 e7
    have h := h x8 e7
    obtain ⟨c9, h⟩ := h
    refine ⟨c9, ?_⟩
    intro x11 e10
    have h := h x11 e10
    exact ⟨h, K⟩
theorem kw_X8_hourOf {Q : Int32 → HS → Prop} {v0 : Nat} {v1 : Int32} {S : HS} (h : P_X8_hourOf v0 v1 Q S) : P_X8_hourOf v0 v1 (fun r T => Q r T ∧ K7 S T) S := kw_X8_hourOf_0 h (k7_rf S)
set_option maxRecDepth 20000 in
set_option maxHeartbeats 1000000 in
theorem kw_X7_reckon_120 {Q : HS → Prop} {X76 X76_2 : Nat → Nat → Nat → Int32 → Int32 → HS → Prop} {v0 : Nat} {v1 : Nat} {v2 : Nat} {v6 : Int32} {v7 : Int32} {S0 S : HS} (h : P_X7_reckon_120 Q X76 v0 v1 v2 v6 v7 S) (K : K7 S0 S) (hX76 : ∀ (u0 : Nat) (u1 : Nat) (u2 : Nat) (u3 : Int32) (u4 : Int32) (u5 : HS), X76 u0 u1 u2 u3 u4 u5 → K7 S0 u5 → X76_2 u0 u1 u2 u3 u4 u5) : P_X7_reckon_120 (fun T => Q T ∧ K7 S0 T) X76_2 v0 v1 v2 v6 v7 S := by
  delta P_X7_reckon_120 at h ⊢
  obtain ⟨c1, h⟩ := h
  refine ⟨c1, ?_⟩
  have n2 := k7_nk K c1 (by decide)
  intro x4 e3
  have h := h x4 e3
  obtain ⟨c5, h⟩ := h
  refine ⟨c5, ?_⟩
  have n6 := k7_nk K c5 (by decide)
  have o7 := c5
  refine cm_X7_reckonMinute (kw_X7_reckonMinute h) h (fun x8 p10 h g9 => ?_)
  have h := h g9
  have K := k7_tr K p10.2
  have o7 := gr_ob p10.2.1 o7
  intro x12 e11
  have h := h x12 e11
  have K := k7_I K e11 n6
  have o7 := ob_wI o7 e11
  intro x14 e13
  have h := h x14 e13
  exact hX76 _ _ _ _ _ _ h K
set_option maxRecDepth 20000 in
set_option maxHeartbeats 1000000 in
theorem kwB_X7_reckon_76 {Q : HS → Prop} {X76 X76_2 : Nat → Nat → Nat → Int32 → Int32 → HS → Prop} {v0 : Nat} {v1 : Nat} {v2 : Nat} {v6 : Int32} {v7 : Int32} {S0 S : HS} (h : B_X7_reckon_76 Q X76 v0 v1 v2 v6 v7 S) (K : K7 S0 S) (hX76 : ∀ (u0 : Nat) (u1 : Nat) (u2 : Nat) (u3 : Int32) (u4 : Int32) (u5 : HS), X76 u0 u1 u2 u3 u4 u5 → K7 S0 u5 → X76_2 u0 u1 u2 u3 u4 u5) : B_X7_reckon_76 (fun T => Q T ∧ K7 S0 T) X76_2 v0 v1 v2 v6 v7 S := by
  delta B_X7_reckon_76 at h ⊢
  refine ⟨?_, ?_⟩
  · intro c1
    have h := h.1 c1
    exact ⟨h, K⟩
  · intro c2
    have h := h.2 c2
    refine ⟨?_, ?_⟩
    · intro c3
      have h := h.1 c3
      exact ⟨h, K⟩
    · intro c4
      have h := h.2 c4
      obtain ⟨c5, h⟩ := h
      refine ⟨c5, ?_⟩
      have n6 := k7_nk K c5 (by decide)
      refine cm_X8_hourOf (kw_X8_hourOf h) h (fun x7 x8 p10 h g9 => ?_)
      have h := h g9
      have K := k7_tr K p10.2
      intro x12 e11
      have h := h x12 e11
      intro x14 e13
      have h := h x14 e13
      obtain ⟨c15, h⟩ := h
      refine ⟨c15, ?_⟩
      have n16 := k7_nk K c15 (by decide)
      have o17 := c15
      intro x19 e18
      have h := h x19 e18
      refine ⟨?_, ?_⟩
      · intro c20
        have h := h.1 c20
        exact kw_X7_reckon_120 h K hX76
      · intro c21
        have h := h.2 c21
        refine cm_X7_price (kw_X7_price h) h (fun x22 p24 h g23 => ?_)
        have h := h g23
        have K := k7_tr K p24.2
        have o17 := gr_ob p24.2.1 o17
        exact kw_X7_reckon_120 h K hX76
theorem kw_X7_reckon_76 {Q : HS → Prop} {v0 : Nat} {v1 : Nat} {v2 : Nat} {v6 : Int32} {v7 : Int32} {S0 S : HS} (h : P_X7_reckon_76 Q v0 v1 v2 v6 v7 S) (K : K7 S0 S) : P_X7_reckon_76 (fun T => Q T ∧ K7 S0 T) v0 v1 v2 v6 v7 S := h (fun v0 v1 v2 v6 v7 S => K7 S0 S → P_X7_reckon_76 (fun T => Q T ∧ K7 S0 T) v0 v1 v2 v6 v7 S) (fun v0 v1 v2 v6 v7 S hB K => fd_X7_reckon_76 (kwB_X7_reckon_76 hB K (fun _ _ _ _ _ _ hx K => hx K))) K
set_option maxRecDepth 20000 in
set_option maxHeartbeats 1000000 in
theorem kw_X7_reckon_68 {Q : HS → Prop} {v0 : Nat} {v1 : Nat} {v2 : Nat} {v6 : Int32} {S0 S : HS} (h : P_X7_reckon_68 Q v0 v1 v2 v6 S) (K : K7 S0 S) : P_X7_reckon_68 (fun T => Q T ∧ K7 S0 T) v0 v1 v2 v6 S := by
  delta P_X7_reckon_68 at h ⊢
  obtain ⟨c1, h⟩ := h
  refine ⟨c1, ?_⟩
  have n2 := k7_nk K c1 (by decide)
  have o3 := c1
  intro x5 e4
  have h := h x5 e4
  intro x7 e6
  have h := h x7 e6
  exact kw_X7_reckon_76 h K
set_option maxRecDepth 20000 in
set_option maxHeartbeats 1000000 in
theorem kw_X7_reckon_38 {Q : HS → Prop} {v0 : Nat} {v1 : Nat} {v2 : Nat} {v3 : Int32} {v4 : Int32} {v5 : Int32} {v6 : Int32} {S0 S : HS} (h : P_X7_reckon_38 Q v0 v1 v2 v3 v4 v5 v6 S) (K : K7 S0 S) : P_X7_reckon_38 (fun T => Q T ∧ K7 S0 T) v0 v1 v2 v3 v4 v5 v6 S := by
  delta P_X7_reckon_38 at h ⊢
  obtain ⟨c1, h⟩ := h
  refine ⟨c1, ?_⟩
  have n2 := k7_nk K c1 (by decide)
  have o3 := c1
  intro x5 e4
  have h := h x5 e4
  have K := k7_I K e4 n2
  have o3 := ob_wI o3 e4
  intro x7 e6
  have h := h x7 e6
  have K := k7_I K e6 n2
  have o3 := ob_wI o3 e6
  intro x9 e8
  have h := h x9 e8
  have K := k7_I K e8 n2
  have o3 := ob_wI o3 e8
  intro x11 e10
  have h := h x11 e10
  intro x13 e12
  have h := h x13 e12
  have K := k7_I K e12 n2
  have o3 := ob_wI o3 e12
  intro x15 e14
  have h := h x15 e14
  have K := k7_I K e14 n2
  have o3 := ob_wI o3 e14
  exact kw_X7_reckon_68 h K
set_option maxRecDepth 20000 in
set_option maxHeartbeats 1000000 in
theorem kw_X7_reckon_12 {Q : HS → Prop} {v0 : Nat} {v1 : Nat} {v2 : Nat} {v3 : Int32} {v4 : Int32} {v5 : Int32} {v6 : Int32} {S0 S : HS} (h : P_X7_reckon_12 Q v0 v1 v2 v3 v4 v5 v6 S) (K : K7 S0 S) : P_X7_reckon_12 (fun T => Q T ∧ K7 S0 T) v0 v1 v2 v3 v4 v5 v6 S := by
  delta P_X7_reckon_12 at h ⊢
  obtain ⟨c1, h⟩ := h
  refine ⟨c1, ?_⟩
  have n2 := k7_nk K c1 (by decide)
  have o3 := c1
  intro x5 e4
  have h := h x5 e4
  refine ⟨?_, ?_⟩
  · intro c6
    have h := h.1 c6
    exact kw_X7_reckon_38 h K
  · intro c7
    have h := h.2 c7
    intro x9 e8
    have h := h x9 e8
    refine ⟨?_, ?_⟩
    · intro c10
      have h := h.1 c10
      exact kw_X7_reckon_38 h K
    · intro c11
      have h := h.2 c11
      intro x13 e12
      have h := h x13 e12
      refine ⟨?_, ?_⟩
      · intro c14
        have h := h.1 c14
        exact kw_X7_reckon_68 h K
      · intro c15
        have h := h.2 c15
        exact kw_X7_reckon_38 h K
set_option maxRecDepth 20000 in
set_option maxHeartbeats 1000000 in
theorem kw_X7_reckon_0 {Q : HS → Prop} {v0 : Nat} {v1 : Nat} {v2 : Nat} {v3 : Int32} {v4 : Int32} {v5 : Int32} {v6 : Int32} {S0 S : HS} (h : P_X7_reckon_0 Q v0 v1 v2 v3 v4 v5 v6 S) (K : K7 S0 S) : P_X7_reckon_0 (fun T => Q T ∧ K7 S0 T) v0 v1 v2 v3 v4 v5 v6 S := by
  delta P_X7_reckon_0 at h ⊢
  obtain ⟨c1, h⟩ := h
  refine ⟨c1, ?_⟩
  have n2 := k7_nk K c1 (by decide)
  have o3 := c1
  obtain ⟨b4, e5, h⟩ := h
  refine ⟨b4, e5, ?_⟩
  obtain ⟨c6, h⟩ := h
  refine ⟨c6, ?_⟩
  have n7 := k7_nk K c6 (by decide)
  refine ⟨?_, ?_⟩
  · intro c8
    have h := h.1 c8
    exact kw_X7_reckon_12 h K
  · intro c9
    have h := h.2 c9
    refine cm_X7_makeRows (kw_X7_makeRows h) h (fun x10 p12 h g11 => ?_)
    have h := h g11
    have K := k7_tr K p12.2
    have o3 := gr_ob p12.2.1 o3
    exact kw_X7_reckon_12 h K
theorem kw_X7_reckon {Q : HS → Prop} {v0 : Nat} {v1 : Nat} {v2 : Nat} {v3 : Int32} {v4 : Int32} {v5 : Int32} {v6 : Int32} {S : HS} (h : P_X7_reckon v0 v1 v2 v3 v4 v5 v6 Q S) : P_X7_reckon v0 v1 v2 v3 v4 v5 v6 (fun T => Q T ∧ K7 S T) S := kw_X7_reckon_0 h (k7_rf S)
set_option maxRecDepth 20000 in
set_option maxHeartbeats 1000000 in
theorem kw_X7_trace_143 {Q : Int32 → HS → Prop} {X9 X9_2 : Nat → Nat → Int32 → Int32 → Int32 → HS → Prop} {v0 : Nat} {v1 : Nat} {v4 : Int32} {v5 : Int32} {v6 : Int32} {S0 S : HS} (h : P_X7_trace_143 Q X9 v0 v1 v4 v5 v6 S) (K : K7 S0 S) (hX9 : ∀ (u0 : Nat) (u1 : Nat) (u2 : Int32) (u3 : Int32) (u4 : Int32) (u5 : HS), X9 u0 u1 u2 u3 u4 u5 → K7 S0 u5 → X9_2 u0 u1 u2 u3 u4 u5) : P_X7_trace_143 (fun r T => Q r T ∧ K7 S0 T) X9_2 v0 v1 v4 v5 v6 S := by
  delta P_X7_trace_143 at h ⊢
  intro x2 e1
  have h := h x2 e1
  exact hX9 _ _ _ _ _ _ h K
set_option maxRecDepth 20000 in
set_option maxHeartbeats 1000000 in
theorem kw_X7_trace_56 {Q : Int32 → HS → Prop} {X9 X9_2 : Nat → Nat → Int32 → Int32 → Int32 → HS → Prop} {v0 : Nat} {v1 : Nat} {v4 : Int32} {v5 : Int32} {v6 : Int32} {s0 : Int32} {S0 S : HS} (h : P_X7_trace_56 Q X9 v0 v1 v4 v5 v6 s0 S) (K : K7 S0 S) (hX9 : ∀ (u0 : Nat) (u1 : Nat) (u2 : Int32) (u3 : Int32) (u4 : Int32) (u5 : HS), X9 u0 u1 u2 u3 u4 u5 → K7 S0 u5 → X9_2 u0 u1 u2 u3 u4 u5) : P_X7_trace_56 (fun r T => Q r T ∧ K7 S0 T) X9_2 v0 v1 v4 v5 v6 s0 S := by
  delta P_X7_trace_56 at h ⊢
  refine ⟨?_, ?_⟩
  · intro c1
    have h := h.1 c1
    obtain ⟨c2, h⟩ := h
    refine ⟨c2, ?_⟩
    have n3 := k7_nk K c2 (by decide)
    have o4 := c2
    obtain ⟨b5, e6, h⟩ := h
    refine ⟨b5, e6, ?_⟩
    have n7 := k7_nr K e6 o4 (by decide)
    obtain ⟨c8, h⟩ := h
    refine ⟨c8, ?_⟩
    obtain ⟨c9, h⟩ := h
    refine ⟨c9, ?_⟩
    intro x11 e10
    have h := h x11 e10
    have K := k7_I K e10 n7
    have o4 := ob_wI o4 e10
    refine ⟨?_, ?_⟩
    · intro c12
      have h := h.1 c12
      intro x14 e13
      have h := h x14 e13
      obtain ⟨c15, h⟩ := h
      refine ⟨c15, ?_⟩
      have n16 := k7_nk K c15 (by decide)
      refine cm_X8_hasRoad (kw_X8_hasRoad h) h (fun x17 x18 p21 h g19 g20 => ?_)
      have h := h g19 g20
      have K := k7_tr K p21.2
      have o4 := gr_ob p21.2.1 o4
      refine ⟨?_, ?_⟩
      · intro c22
        have h := h.1 c22
        exact kw_X7_trace_143 h K hX9
      · intro c23
        have h := h.2 c23
        obtain ⟨b24, e25, h⟩ := h
        refine ⟨b24, e25, ?_⟩
        intro x27 e26
        have h := h x27 e26
        obtain ⟨c28, h⟩ := h
        refine ⟨c28, ?_⟩
        have n29 := k7_nk K c28 (by decide)
        obtain ⟨c30, h⟩ := h
        refine ⟨c30, ?_⟩
        obtain ⟨b31, e32, h⟩ := h
        refine ⟨b31, e32, ?_⟩
        intro x34 e33
        have h := h x34 e33
        intro x36 e35
        have h := h x36 e35
        obtain ⟨c37, h⟩ := h
        refine ⟨c37, ?_⟩
        have n38 := k7_nk K c37 (by decide)
        refine cm_X5_endOf (kw_X5_endOf h) h (fun x39 x40 p42 h g41 => ?_)
        have h := h g41
        have K := k7_tr K p42.2
        have o4 := gr_ob p42.2.1 o4
        intro x44 e43
        have h := h x44 e43
        refine cm_X5_minutesAt (kw_X5_minutesAt h) h (fun x45 x46 p48 h g47 => ?_)
        have h := h g47
        have K := k7_tr K p48.2
        have o4 := gr_ob p48.2.1 o4
        intro x50 e49
        have h := h x50 e49
        exact kw_X7_trace_143 h K hX9
    · intro c51
      have h := h.2 c51
      intro x53 e52
      have h := h x53 e52
      exact kw_X7_trace_143 h K hX9
  · intro c54
    have h := h.2 c54
    exact ⟨h, K⟩
set_option maxRecDepth 20000 in
set_option maxHeartbeats 1000000 in
theorem kw_X7_trace_55 {Q : Int32 → HS → Prop} {X9 X9_2 : Nat → Nat → Int32 → Int32 → Int32 → HS → Prop} {v0 : Nat} {v1 : Nat} {v4 : Int32} {v5 : Int32} {v6 : Int32} {S0 S : HS} (h : P_X7_trace_55 Q X9 v0 v1 v4 v5 v6 S) (K : K7 S0 S) (hX9 : ∀ (u0 : Nat) (u1 : Nat) (u2 : Int32) (u3 : Int32) (u4 : Int32) (u5 : HS), X9 u0 u1 u2 u3 u4 u5 → K7 S0 u5 → X9_2 u0 u1 u2 u3 u4 u5) : P_X7_trace_55 (fun r T => Q r T ∧ K7 S0 T) X9_2 v0 v1 v4 v5 v6 S := by
  delta P_X7_trace_55 at h ⊢
  exact kw_X7_trace_56 h K hX9
set_option maxRecDepth 20000 in
set_option maxHeartbeats 1000000 in
theorem kwB_X7_trace_9 {Q : Int32 → HS → Prop} {X9 X9_2 : Nat → Nat → Int32 → Int32 → Int32 → HS → Prop} {v0 : Nat} {v1 : Nat} {v4 : Int32} {v5 : Int32} {v6 : Int32} {S0 S : HS} (h : B_X7_trace_9 Q X9 v0 v1 v4 v5 v6 S) (K : K7 S0 S) (hX9 : ∀ (u0 : Nat) (u1 : Nat) (u2 : Int32) (u3 : Int32) (u4 : Int32) (u5 : HS), X9 u0 u1 u2 u3 u4 u5 → K7 S0 u5 → X9_2 u0 u1 u2 u3 u4 u5) : B_X7_trace_9 (fun r T => Q r T ∧ K7 S0 T) X9_2 v0 v1 v4 v5 v6 S := by
  delta B_X7_trace_9 at h ⊢
  obtain ⟨c1, h⟩ := h
  refine ⟨c1, ?_⟩
  have n2 := k7_nk K c1 (by decide)
  have o3 := c1
  obtain ⟨b4, e5, h⟩ := h
  refine ⟨b4, e5, ?_⟩
  have n6 := k7_nr K e5 o3 (by decide)
  obtain ⟨c7, h⟩ := h
  refine ⟨c7, ?_⟩
  refine ⟨?_, ?_⟩
  · intro c8
    have h := h.1 c8
    obtain ⟨b9, e10, h⟩ := h
    refine ⟨b9, e10, ?_⟩
    have n11 := k7_nr K e10 o3 (by decide)
    obtain ⟨c12, h⟩ := h
    refine ⟨c12, ?_⟩
    exact ⟨h, K⟩
  · intro c13
    have h := h.2 c13
    intro x15 e14
    have h := h x15 e14
    refine ⟨?_, ?_⟩
    · intro c16
      have h := h.1 c16
      exact kw_X7_trace_55 h K hX9
    · intro c17
      have h := h.2 c17
      obtain ⟨b18, e19, h⟩ := h
      refine ⟨b18, e19, ?_⟩
      have n20 := k7_nr K e19 o3 (by decide)
      obtain ⟨c21, h⟩ := h
      refine ⟨c21, ?_⟩
      refine ⟨?_, ?_⟩
      · intro c22
        have h := h.1 c22
        exact kw_X7_trace_55 h K hX9
      · intro c23
        have h := h.2 c23
        obtain ⟨b24, e25, h⟩ := h
        refine ⟨b24, e25, ?_⟩
        have n26 := k7_nr K e25 o3 (by decide)
        obtain ⟨c27, h⟩ := h
        refine ⟨c27, ?_⟩
        obtain ⟨c28, h⟩ := h
        refine ⟨c28, ?_⟩
        intro x30 e29
        have h := h x30 e29
        exact kw_X7_trace_56 h K hX9
theorem kw_X7_trace_9 {Q : Int32 → HS → Prop} {v0 : Nat} {v1 : Nat} {v4 : Int32} {v5 : Int32} {v6 : Int32} {S0 S : HS} (h : P_X7_trace_9 Q v0 v1 v4 v5 v6 S) (K : K7 S0 S) : P_X7_trace_9 (fun r T => Q r T ∧ K7 S0 T) v0 v1 v4 v5 v6 S := h (fun v0 v1 v4 v5 v6 S => K7 S0 S → P_X7_trace_9 (fun r T => Q r T ∧ K7 S0 T) v0 v1 v4 v5 v6 S) (fun v0 v1 v4 v5 v6 S hB K => fd_X7_trace_9 (kwB_X7_trace_9 hB K (fun _ _ _ _ _ _ hx K => hx K))) K
set_option maxRecDepth 20000 in
set_option maxHeartbeats 1000000 in
theorem kw_X7_trace_0 {Q : Int32 → HS → Prop} {v0 : Nat} {v1 : Nat} {v2 : Int32} {v3 : Int32} {S0 S : HS} (h : P_X7_trace_0 Q v0 v1 v2 v3 S) (K : K7 S0 S) : P_X7_trace_0 (fun r T => Q r T ∧ K7 S0 T) v0 v1 v2 v3 S := by
  delta P_X7_trace_0 at h ⊢
  exact kw_X7_trace_9 h K
theorem kw_X7_trace {Q : Int32 → HS → Prop} {v0 : Nat} {v1 : Nat} {v2 : Int32} {v3 : Int32} {S : HS} (h : P_X7_trace v0 v1 v2 v3 Q S) : P_X7_trace v0 v1 v2 v3 (fun r T => Q r T ∧ K7 S T) S := kw_X7_trace_0 h (k7_rf S)
set_option maxRecDepth 20000 in
set_option maxHeartbeats 1000000 in
theorem kw_X9_grant_0 {Q : Int32 → HS → Prop} {v0 : Nat} {v1 : Int32} {S0 S : HS} (h : P_X9_grant_0 Q v0 v1 S) (K : K7 S0 S) : P_X9_grant_0 (fun r T => Q r T ∧ K7 S0 T) v0 v1 S := by
  delta P_X9_grant_0 at h ⊢
  obtain ⟨c1, h⟩ := h
  refine ⟨c1, ?_⟩
  have n2 := k7_nk K c1 (by decide)
  intro x4 e3
  have h := h x4 e3
  have K := k7_I K e3 n2
  exact ⟨h, K⟩
theorem kw_X9_grant {Q : Int32 → HS → Prop} {v0 : Nat} {v1 : Int32} {S : HS} (h : P_X9_grant v0 v1 Q S) : P_X9_grant v0 v1 (fun r T => Q r T ∧ K7 S T) S := kw_X9_grant_0 h (k7_rf S)
set_option maxRecDepth 20000 in
set_option maxHeartbeats 1000000 in
theorem kw_X9_isWay_0 {Q : Int32 → HS → Prop} {v0 : Int32} {S0 S : HS} (h : P_X9_isWay_0 Q v0 S) (K : K7 S0 S) : P_X9_isWay_0 (fun r T => Q r T ∧ K7 S0 T) v0 S := by
  delta P_X9_isWay_0 at h ⊢
  refine ⟨?_, ?_⟩
  · intro c1
    have h := h.1 c1
    exact ⟨h, K⟩
  · intro c2
    have h := h.2 c2
    refine ⟨?_, ?_⟩
    · intro c3
      have h := h.1 c3
      exact ⟨h, K⟩
    · intro c4
      have h := h.2 c4
      exact ⟨h, K⟩
theorem kw_X9_isWay {Q : Int32 → HS → Prop} {v0 : Int32} {S : HS} (h : P_X9_isWay v0 Q S) : P_X9_isWay v0 (fun r T => Q r T ∧ K7 S T) S := kw_X9_isWay_0 h (k7_rf S)
set_option maxRecDepth 20000 in
set_option maxHeartbeats 1000000 in
theorem kw_X9_air_0 {Q : Int32 → HS → Prop} {v0 : Nat} {v1 : Int32} {v2 : Int32} {v3 : Int32} {S0 S : HS} (h : P_X9_air_0 Q v0 v1 v2 v3 S) (K : K7 S0 S) : P_X9_air_0 (fun r T => Q r T ∧ K7 S0 T) v0 v1 v2 v3 S := by
  delta P_X9_air_0 at h ⊢
  obtain ⟨c1, h⟩ := h
  refine ⟨c1, ?_⟩
  have n2 := k7_nk K c1 (by decide)
  obtain ⟨b3, e4, h⟩ := h
  refine ⟨b3, e4, ?_⟩
  obtain ⟨c5, h⟩ := h
  refine ⟨c5, ?_⟩
  have n6 := k7_nk K c5 (by decide)
  refine cm_X8_hasRoad (kw_X8_hasRoad h) h (fun x7 x8 p11 h g9 g10 => ?_)
  have h := h g9 g10
  have K := k7_tr K p11.2
  refine ⟨?_, ?_⟩
  · intro c12
    have h := h.1 c12
    intro x14 e13
    have h := h x14 e13
    have K := k7_I K e13 n2
    exact ⟨h, K⟩
  · intro c15
    have h := h.2 c15
    refine cm_X9_isWay (kw_X9_isWay h) h (fun x16 x17 p20 h g18 g19 => ?_)
    have h := h g18 g19
    have K := k7_tr K p20.2
    refine ⟨?_, ?_⟩
    · intro c21
      have h := h.1 c21
      intro x23 e22
      have h := h x23 e22
      have K := k7_I K e22 n2
      exact ⟨h, K⟩
    · intro c24
      have h := h.2 c24
      obtain ⟨b25, e26, h⟩ := h
      refine ⟨b25, e26, ?_⟩
      obtain ⟨c27, h⟩ := h
      refine ⟨c27, ?_⟩
      have n28 := k7_nk K c27 (by decide)
      refine cm_X8_hasHour (kw_X8_hasHour h) h (fun x29 x30 p33 h g31 g32 => ?_)
      have h := h g31 g32
      have K := k7_tr K p33.2
      refine ⟨?_, ?_⟩
      · intro c34
        have h := h.1 c34
        obtain ⟨b35, e36, h⟩ := h
        refine ⟨b35, e36, ?_⟩
        obtain ⟨c37, h⟩ := h
        refine ⟨c37, ?_⟩
        have n38 := k7_nk K c37 (by decide)
        obtain ⟨b39, e40, h⟩ := h
        refine ⟨b39, e40, ?_⟩
        obtain ⟨c41, h⟩ := h
        refine ⟨c41, ?_⟩
        have n42 := k7_nk K c41 (by decide)
        obtain ⟨c43, h⟩ := h
        refine ⟨c43, ?_⟩
        obtain ⟨b44, e45, h⟩ := h
        refine ⟨b44, e45, ?_⟩
        obtain ⟨b46, e47, h⟩ := h
        refine ⟨b46, e47, ?_⟩
        obtain ⟨c48, h⟩ := h
        refine ⟨c48, ?_⟩
        have n49 := k7_nk K c48 (by decide)
        obtain ⟨b50, e51, h⟩ := h
        refine ⟨b50, e51, ?_⟩
        obtain ⟨c52, h⟩ := h
        refine ⟨c52, ?_⟩
        have n53 := k7_nk K c52 (by decide)
        obtain ⟨c54, h⟩ := h
        refine ⟨c54, ?_⟩
        obtain ⟨b55, e56, h⟩ := h
        refine ⟨b55, e56, ?_⟩
        obtain ⟨c57, h⟩ := h
        refine ⟨c57, ?_⟩
        have n58 := k7_nk K c57 (by decide)
        refine cm_X5_airAlong (kw_X5_airAlong h) h (fun x59 x60 p62 h g61 => ?_)
        have h := h g61
        have K := k7_tr K p62.2
        refine cm_X9_grant (kw_X9_grant h) h (fun x63 x64 p66 h g65 => ?_)
        have h := h g65
        have K := k7_tr K p66.2
        exact ⟨h, K⟩
      · intro c67
        have h := h.2 c67
        intro x69 e68
        have h := h x69 e68
        have K := k7_I K e68 n2
        exact ⟨h, K⟩
theorem kw_X9_air {Q : Int32 → HS → Prop} {v0 : Nat} {v1 : Int32} {v2 : Int32} {v3 : Int32} {S : HS} (h : P_X9_air v0 v1 v2 v3 Q S) : P_X9_air v0 v1 v2 v3 (fun r T => Q r T ∧ K7 S T) S := kw_X9_air_0 h (k7_rf S)
set_option maxRecDepth 20000 in
set_option maxHeartbeats 1000000 in
theorem kw_X9_refusedBy_0 {Q : Int32 → HS → Prop} {v0 : Nat} {v1 : Int32} {S0 S : HS} (h : P_X9_refusedBy_0 Q v0 v1 S) (K : K7 S0 S) : P_X9_refusedBy_0 (fun r T => Q r T ∧ K7 S0 T) v0 v1 S := by
  delta P_X9_refusedBy_0 at h ⊢
  obtain ⟨c1, h⟩ := h
  refine ⟨c1, ?_⟩
  have n2 := k7_nk K c1 (by decide)
  intro x4 e3
  have h := h x4 e3
  have K := k7_I K e3 n2
  refine ⟨?_, ?_⟩
  · intro c5
    have h := h.1 c5
    exact ⟨h, K⟩
  · intro c6
    have h := h.2 c6
    exact ⟨h, K⟩
theorem kw_X9_refusedBy {Q : Int32 → HS → Prop} {v0 : Nat} {v1 : Int32} {S : HS} (h : P_X9_refusedBy v0 v1 Q S) : P_X9_refusedBy v0 v1 (fun r T => Q r T ∧ K7 S T) S := kw_X9_refusedBy_0 h (k7_rf S)
set_option maxRecDepth 20000 in
set_option maxHeartbeats 1000000 in
theorem kw_X9_back_17 {Q : Int32 → HS → Prop} {s0 : Nat} {s1 : Int32} {S0 S : HS} (h : P_X9_back_17 Q s0 s1 S) (K : K7 S0 S) : P_X9_back_17 (fun r T => Q r T ∧ K7 S0 T) s0 s1 S := by
  delta P_X9_back_17 at h ⊢
  obtain ⟨c1, h⟩ := h
  refine ⟨c1, ?_⟩
  have n2 := k7_nk K c1 (by decide)
  refine cm_X9_refusedBy (kw_X9_refusedBy h) h (fun x3 x4 p7 h g5 g6 => ?_)
  have h := h g5 g6
  have K := k7_tr K p7.2
  refine ⟨?_, ?_⟩
  · intro c8
    have h := h.1 c8
    exact ⟨h, K⟩
  · intro c9
    have h := h.2 c9
    exact ⟨h, K⟩
set_option maxRecDepth 20000 in
set_option maxHeartbeats 1000000 in
theorem kw_X9_back_0 {Q : Int32 → HS → Prop} {v0 : Nat} {v1 : Int32} {S0 S : HS} (h : P_X9_back_0 Q v0 v1 S) (K : K7 S0 S) : P_X9_back_0 (fun r T => Q r T ∧ K7 S0 T) v0 v1 S := by
  delta P_X9_back_0 at h ⊢
  obtain ⟨c1, h⟩ := h
  refine ⟨c1, ?_⟩
  have n2 := k7_nk K c1 (by decide)
  obtain ⟨b3, e4, h⟩ := h
  refine ⟨b3, e4, ?_⟩
  obtain ⟨c5, h⟩ := h
  refine ⟨c5, ?_⟩
  have n6 := k7_nk K c5 (by decide)
  refine cm_X0_returnTo (kw_X0_returnTo h) h (fun x7 x8 p11 h g9 g10 => ?_)
  have h := h g9 g10
  have K := k7_tr K p11.2
  refine ⟨?_, ?_⟩
  · intro c12
    have h := h.1 c12
    exact kw_X9_back_17 h K
  · intro c13
    have h := h.2 c13
    exact kw_X9_back_17 h K
theorem kw_X9_back {Q : Int32 → HS → Prop} {v0 : Nat} {v1 : Int32} {S : HS} (h : P_X9_back v0 v1 Q S) : P_X9_back v0 v1 (fun r T => Q r T ∧ K7 S T) S := kw_X9_back_0 h (k7_rf S)
set_option maxRecDepth 20000 in
set_option maxHeartbeats 1000000 in
theorem kw_X9_tripTrouble_46 {Q : Int32 → HS → Prop} {s0 : Int32} {S0 S : HS} (h : P_X9_tripTrouble_46 Q s0 S) (K : K7 S0 S) : P_X9_tripTrouble_46 (fun r T => Q r T ∧ K7 S0 T) s0 S := by
  delta P_X9_tripTrouble_46 at h ⊢
  refine ⟨?_, ?_⟩
  · intro c1
    have h := h.1 c1
    exact ⟨h, K⟩
  · intro c2
    have h := h.2 c2
    exact ⟨h, K⟩
set_option maxRecDepth 20000 in
set_option maxHeartbeats 1000000 in
theorem kw_X9_tripTrouble_45 {Q : Int32 → HS → Prop} {S0 S : HS} (h : P_X9_tripTrouble_45 Q S) (K : K7 S0 S) : P_X9_tripTrouble_45 (fun r T => Q r T ∧ K7 S0 T) S := by
  delta P_X9_tripTrouble_45 at h ⊢
  exact kw_X9_tripTrouble_46 h K
set_option maxRecDepth 20000 in
set_option maxHeartbeats 1000000 in
theorem kw_X9_tripTrouble_0 {Q : Int32 → HS → Prop} {v0 : Nat} {v1 : Int32} {v2 : Int32} {v3 : Int32} {v4 : Int32} {S0 S : HS} (h : P_X9_tripTrouble_0 Q v0 v1 v2 v3 v4 S) (K : K7 S0 S) : P_X9_tripTrouble_0 (fun r T => Q r T ∧ K7 S0 T) v0 v1 v2 v3 v4 S := by
  delta P_X9_tripTrouble_0 at h ⊢
  obtain ⟨c1, h⟩ := h
  refine ⟨c1, ?_⟩
  have n2 := k7_nk K c1 (by decide)
  obtain ⟨b3, e4, h⟩ := h
  refine ⟨b3, e4, ?_⟩
  obtain ⟨c5, h⟩ := h
  refine ⟨c5, ?_⟩
  have n6 := k7_nk K c5 (by decide)
  refine cm_X8_hasWalker (kw_X8_hasWalker h) h (fun x7 x8 p11 h g9 g10 => ?_)
  have h := h g9 g10
  have K := k7_tr K p11.2
  refine ⟨?_, ?_⟩
  · intro c12
    have h := h.1 c12
    exact kw_X9_tripTrouble_45 h K
  · intro c13
    have h := h.2 c13
    obtain ⟨b14, e15, h⟩ := h
    refine ⟨b14, e15, ?_⟩
    obtain ⟨c16, h⟩ := h
    refine ⟨c16, ?_⟩
    have n17 := k7_nk K c16 (by decide)
    refine cm_X8_hasRoad (kw_X8_hasRoad h) h (fun x18 x19 p22 h g20 g21 => ?_)
    have h := h g20 g21
    have K := k7_tr K p22.2
    refine ⟨?_, ?_⟩
    · intro c23
      have h := h.1 c23
      exact kw_X9_tripTrouble_45 h K
    · intro c24
      have h := h.2 c24
      refine cm_X9_isWay (kw_X9_isWay h) h (fun x25 x26 p29 h g27 g28 => ?_)
      have h := h g27 g28
      have K := k7_tr K p29.2
      refine ⟨?_, ?_⟩
      · intro c30
        have h := h.1 c30
        exact kw_X9_tripTrouble_45 h K
      · intro c31
        have h := h.2 c31
        obtain ⟨b32, e33, h⟩ := h
        refine ⟨b32, e33, ?_⟩
        obtain ⟨c34, h⟩ := h
        refine ⟨c34, ?_⟩
        have n35 := k7_nk K c34 (by decide)
        refine cm_X8_hasHour (kw_X8_hasHour h) h (fun x36 x37 p40 h g38 g39 => ?_)
        have h := h g38 g39
        have K := k7_tr K p40.2
        refine ⟨?_, ?_⟩
        · intro c41
          have h := h.1 c41
          exact kw_X9_tripTrouble_45 h K
        · intro c42
          have h := h.2 c42
          exact kw_X9_tripTrouble_46 h K
theorem kw_X9_tripTrouble {Q : Int32 → HS → Prop} {v0 : Nat} {v1 : Int32} {v2 : Int32} {v3 : Int32} {v4 : Int32} {S : HS} (h : P_X9_tripTrouble v0 v1 v2 v3 v4 Q S) : P_X9_tripTrouble v0 v1 v2 v3 v4 (fun r T => Q r T ∧ K7 S T) S := kw_X9_tripTrouble_0 h (k7_rf S)
set_option maxRecDepth 20000 in
set_option maxHeartbeats 1000000 in
theorem kw_X9_best_0 {Q : Int32 → HS → Prop} {v0 : Nat} {v1 : Int32} {v2 : Int32} {v3 : Int32} {v4 : Int32} {S0 S : HS} (h : P_X9_best_0 Q v0 v1 v2 v3 v4 S) (K : K7 S0 S) : P_X9_best_0 (fun r T => Q r T ∧ K7 S0 T) v0 v1 v2 v3 v4 S := by
  delta P_X9_best_0 at h ⊢
  obtain ⟨c1, h⟩ := h
  refine ⟨c1, ?_⟩
  have n2 := k7_nk K c1 (by decide)
  refine cm_X9_tripTrouble (kw_X9_tripTrouble h) h (fun x3 x4 p6 h g5 => ?_)
  have h := h g5
  have K := k7_tr K p6.2
  refine cm_X9_refusedBy (kw_X9_refusedBy h) h (fun x7 x8 p11 h g9 g10 => ?_)
  have h := h g9 g10
  have K := k7_tr K p11.2
  refine ⟨?_, ?_⟩
  · intro c12
    have h := h.1 c12
    obtain ⟨b13, e14, h⟩ := h
    refine ⟨b13, e14, ?_⟩
    obtain ⟨b15, e16, h⟩ := h
    refine ⟨b15, e16, ?_⟩
    obtain ⟨c17, h⟩ := h
    refine ⟨c17, ?_⟩
    have n18 := k7_nk K c17 (by decide)
    obtain ⟨b19, e20, h⟩ := h
    refine ⟨b19, e20, ?_⟩
    obtain ⟨c21, h⟩ := h
    refine ⟨c21, ?_⟩
    have n22 := k7_nk K c21 (by decide)
    obtain ⟨c23, h⟩ := h
    refine ⟨c23, ?_⟩
    obtain ⟨b24, e25, h⟩ := h
    refine ⟨b24, e25, ?_⟩
    obtain ⟨b26, e27, h⟩ := h
    refine ⟨b26, e27, ?_⟩
    obtain ⟨c28, h⟩ := h
    refine ⟨c28, ?_⟩
    have n29 := k7_nk K c28 (by decide)
    obtain ⟨b30, e31, h⟩ := h
    refine ⟨b30, e31, ?_⟩
    obtain ⟨c32, h⟩ := h
    refine ⟨c32, ?_⟩
    have n33 := k7_nk K c32 (by decide)
    obtain ⟨c34, h⟩ := h
    refine ⟨c34, ?_⟩
    obtain ⟨b35, e36, h⟩ := h
    refine ⟨b35, e36, ?_⟩
    obtain ⟨b37, e38, h⟩ := h
    refine ⟨b37, e38, ?_⟩
    obtain ⟨c39, h⟩ := h
    refine ⟨c39, ?_⟩
    have n40 := k7_nk K c39 (by decide)
    obtain ⟨b41, e42, h⟩ := h
    refine ⟨b41, e42, ?_⟩
    obtain ⟨c43, h⟩ := h
    refine ⟨c43, ?_⟩
    have n44 := k7_nk K c43 (by decide)
    obtain ⟨c45, h⟩ := h
    refine ⟨c45, ?_⟩
    obtain ⟨b46, e47, h⟩ := h
    refine ⟨b46, e47, ?_⟩
    obtain ⟨c48, h⟩ := h
    refine ⟨c48, ?_⟩
    have n49 := k7_nk K c48 (by decide)
    refine cm_X1_bestSpeed (kw_X1_bestSpeed h) h (fun x50 x51 p53 h g52 => ?_)
    have h := h g52
    have K := k7_tr K p53.2
    exact ⟨h, K⟩
  · intro c54
    have h := h.2 c54
    exact ⟨h, K⟩
theorem kw_X9_best {Q : Int32 → HS → Prop} {v0 : Nat} {v1 : Int32} {v2 : Int32} {v3 : Int32} {v4 : Int32} {S : HS} (h : P_X9_best v0 v1 v2 v3 v4 Q S) : P_X9_best v0 v1 v2 v3 v4 (fun r T => Q r T ∧ K7 S T) S := kw_X9_best_0 h (k7_rf S)
set_option maxRecDepth 20000 in
set_option maxHeartbeats 1000000 in
theorem kw_X9_coatParts_0 {Q : Int64 → HS → Prop} {v0 : Nat} {S0 S : HS} (h : P_X9_coatParts_0 Q v0 S) (K : K7 S0 S) : P_X9_coatParts_0 (fun r T => Q r T ∧ K7 S0 T) v0 S := by
  delta P_X9_coatParts_0 at h ⊢
  obtain ⟨c1, h⟩ := h
  refine ⟨c1, ?_⟩
  have n2 := k7_nk K c1 (by decide)
  intro x4 e3
  have h := h x4 e3
  refine ⟨?_, ?_⟩
  · intro c5
    have h := h.1 c5
    exact ⟨h, K⟩
  · intro c6
    have h := h.2 c6
    intro x8 e7
    have h := h x8 e7
    exact ⟨h, K⟩
theorem kw_X9_coatParts {Q : Int64 → HS → Prop} {v0 : Nat} {S : HS} (h : P_X9_coatParts v0 Q S) : P_X9_coatParts v0 (fun r T => Q r T ∧ K7 S T) S := kw_X9_coatParts_0 h (k7_rf S)
set_option maxRecDepth 20000 in
set_option maxHeartbeats 1000000 in
theorem kwB_X9_commonDivisor_9 {Q : Int64 → HS → Prop} {X9 X9_2 : Int64 → Int64 → Int32 → HS → Prop} {v4 : Int64} {v6 : Int64} {v8 : Int32} {S0 S : HS} (h : B_X9_commonDivisor_9 Q X9 v4 v6 v8 S) (K : K7 S0 S) (hX9 : ∀ (u0 : Int64) (u1 : Int64) (u2 : Int32) (u3 : HS), X9 u0 u1 u2 u3 → K7 S0 u3 → X9_2 u0 u1 u2 u3) : B_X9_commonDivisor_9 (fun r T => Q r T ∧ K7 S0 T) X9_2 v4 v6 v8 S := by
  delta B_X9_commonDivisor_9 at h ⊢
  refine ⟨?_, ?_⟩
  · intro c1
    have h := h.1 c1
    exact ⟨h, K⟩
  · intro c2
    have h := h.2 c2
    refine ⟨?_, ?_⟩
    · intro c3
      have h := h.1 c3
      exact ⟨h, K⟩
    · intro c4
      have h := h.2 c4
      obtain ⟨c5, h⟩ := h
      refine ⟨c5, ?_⟩
      intro x7 e6
      have h := h x7 e6
      intro x9 e8
      have h := h x9 e8
      exact hX9 _ _ _ _ h K
theorem kw_X9_commonDivisor_9 {Q : Int64 → HS → Prop} {v4 : Int64} {v6 : Int64} {v8 : Int32} {S0 S : HS} (h : P_X9_commonDivisor_9 Q v4 v6 v8 S) (K : K7 S0 S) : P_X9_commonDivisor_9 (fun r T => Q r T ∧ K7 S0 T) v4 v6 v8 S := h (fun v4 v6 v8 S => K7 S0 S → P_X9_commonDivisor_9 (fun r T => Q r T ∧ K7 S0 T) v4 v6 v8 S) (fun v4 v6 v8 S hB K => fd_X9_commonDivisor_9 (kwB_X9_commonDivisor_9 hB K (fun _ _ _ _ hx K => hx K))) K
set_option maxRecDepth 20000 in
set_option maxHeartbeats 1000000 in
theorem kw_X9_commonDivisor_0 {Q : Int64 → HS → Prop} {v0 : Int64} {v2 : Int64} {S0 S : HS} (h : P_X9_commonDivisor_0 Q v0 v2 S) (K : K7 S0 S) : P_X9_commonDivisor_0 (fun r T => Q r T ∧ K7 S0 T) v0 v2 S := by
  delta P_X9_commonDivisor_0 at h ⊢
  exact kw_X9_commonDivisor_9 h K
theorem kw_X9_commonDivisor {Q : Int64 → HS → Prop} {v0 : Int64} {v2 : Int64} {S : HS} (h : P_X9_commonDivisor v0 v2 Q S) : P_X9_commonDivisor v0 v2 (fun r T => Q r T ∧ K7 S T) S := kw_X9_commonDivisor_0 h (k7_rf S)
set_option maxRecDepth 20000 in
set_option maxHeartbeats 1000000 in
theorem kw_X9_refuse_0 {Q : Int32 → HS → Prop} {v0 : Nat} {v1 : Int32} {S0 S : HS} (h : P_X9_refuse_0 Q v0 v1 S) (K : K7 S0 S) : P_X9_refuse_0 (fun r T => Q r T ∧ K7 S0 T) v0 v1 S := by
  delta P_X9_refuse_0 at h ⊢
  obtain ⟨c1, h⟩ := h
  refine ⟨c1, ?_⟩
  have n2 := k7_nk K c1 (by decide)
  intro x4 e3
  have h := h x4 e3
  have K := k7_I K e3 n2
  exact ⟨h, K⟩
theorem kw_X9_refuse {Q : Int32 → HS → Prop} {v0 : Nat} {v1 : Int32} {S : HS} (h : P_X9_refuse v0 v1 Q S) : P_X9_refuse v0 v1 (fun r T => Q r T ∧ K7 S T) S := kw_X9_refuse_0 h (k7_rf S)
set_option maxRecDepth 20000 in
set_option maxHeartbeats 1000000 in
theorem kw_X9_day_22 {Q : Int32 → HS → Prop} {v0 : Nat} {S0 S : HS} (h : P_X9_day_22 Q v0 S) (K : K7 S0 S) : P_X9_day_22 (fun r T => Q r T ∧ K7 S0 T) v0 S := by
  delta P_X9_day_22 at h ⊢
  obtain ⟨c1, h⟩ := h
  refine ⟨c1, ?_⟩
  have n2 := k7_nk K c1 (by decide)
  refine cm_X9_refuse (kw_X9_refuse h) h (fun x3 x4 p6 h g5 => ?_)
  have h := h g5
  have K := k7_tr K p6.2
  exact ⟨h, K⟩
set_option maxRecDepth 20000 in
set_option maxHeartbeats 1000000 in
theorem kw_X9_day_52 {Q : Int32 → HS → Prop} {v0 : Nat} {S0 S : HS} (h : P_X9_day_52 Q v0 S) (K : K7 S0 S) : P_X9_day_52 (fun r T => Q r T ∧ K7 S0 T) v0 S := by
  delta P_X9_day_52 at h ⊢
  obtain ⟨c1, h⟩ := h
  refine ⟨c1, ?_⟩
  have n2 := k7_nk K c1 (by decide)
  refine cm_X9_refuse (kw_X9_refuse h) h (fun x3 x4 p6 h g5 => ?_)
  have h := h g5
  have K := k7_tr K p6.2
  exact ⟨h, K⟩
set_option maxRecDepth 20000 in
set_option maxHeartbeats 1000000 in
theorem kw_X9_day_0 {Q : Int32 → HS → Prop} {v0 : Nat} {v1 : Int32} {v2 : Int32} {v3 : Int32} {v4 : Int32} {S0 S : HS} (h : P_X9_day_0 Q v0 v1 v2 v3 v4 S) (K : K7 S0 S) : P_X9_day_0 (fun r T => Q r T ∧ K7 S0 T) v0 v1 v2 v3 v4 S := by
  delta P_X9_day_0 at h ⊢
  obtain ⟨c1, h⟩ := h
  refine ⟨c1, ?_⟩
  have n2 := k7_nk K c1 (by decide)
  obtain ⟨b3, e4, h⟩ := h
  refine ⟨b3, e4, ?_⟩
  obtain ⟨c5, h⟩ := h
  refine ⟨c5, ?_⟩
  have n6 := k7_nk K c5 (by decide)
  refine cm_X8_hasWalker (kw_X8_hasWalker h) h (fun x7 x8 p11 h g9 g10 => ?_)
  have h := h g9 g10
  have K := k7_tr K p11.2
  refine ⟨?_, ?_⟩
  · intro c12
    have h := h.1 c12
    exact kw_X9_day_22 h K
  · intro c13
    have h := h.2 c13
    obtain ⟨b14, e15, h⟩ := h
    refine ⟨b14, e15, ?_⟩
    obtain ⟨c16, h⟩ := h
    refine ⟨c16, ?_⟩
    have n17 := k7_nk K c16 (by decide)
    refine cm_X8_hasPlace (kw_X8_hasPlace h) h (fun x18 x19 p22 h g20 g21 => ?_)
    have h := h g20 g21
    have K := k7_tr K p22.2
    refine ⟨?_, ?_⟩
    · intro c23
      have h := h.1 c23
      refine ⟨?_, ?_⟩
      · intro c24
        have h := h.1 c24
        exact kw_X9_day_52 h K
      · intro c25
        have h := h.2 c25
        refine ⟨?_, ?_⟩
        · intro c26
          have h := h.1 c26
          exact kw_X9_day_52 h K
        · intro c27
          have h := h.2 c27
          refine ⟨?_, ?_⟩
          · intro c28
            have h := h.1 c28
            exact kw_X9_day_52 h K
          · intro c29
            have h := h.2 c29
            refine ⟨?_, ?_⟩
            · intro c30
              have h := h.1 c30
              obtain ⟨b31, e32, h⟩ := h
              refine ⟨b31, e32, ?_⟩
              obtain ⟨c33, h⟩ := h
              refine ⟨c33, ?_⟩
              have n34 := k7_nk K c33 (by decide)
              refine cm_X0_begin (kw_X0_begin h) h (fun x35 p37 h g36 => ?_)
              have h := h g36
              have K := k7_tr K p37.2
              obtain ⟨b38, e39, h⟩ := h
              refine ⟨b38, e39, ?_⟩
              obtain ⟨b40, e41, h⟩ := h
              refine ⟨b40, e41, ?_⟩
              obtain ⟨c42, h⟩ := h
              refine ⟨c42, ?_⟩
              have n43 := k7_nk K c42 (by decide)
              refine cm_X0_draw (kw_X0_draw h) h (fun x44 p46 h g45 => ?_)
              have h := h g45
              have K := k7_tr K p46.2
              obtain ⟨b47, e48, h⟩ := h
              refine ⟨b47, e48, ?_⟩
              obtain ⟨c49, h⟩ := h
              refine ⟨c49, ?_⟩
              have n50 := k7_nk K c49 (by decide)
              intro x52 e51
              have h := h x52 e51
              refine cm_X9_grant (kw_X9_grant h) h (fun x53 x54 p56 h g55 => ?_)
              have h := h g55
              have K := k7_tr K p56.2
              exact ⟨h, K⟩
            · intro c57
              have h := h.2 c57
              exact kw_X9_day_52 h K
    · intro c58
      have h := h.2 c58
      exact kw_X9_day_22 h K
theorem kw_X9_day {Q : Int32 → HS → Prop} {v0 : Nat} {v1 : Int32} {v2 : Int32} {v3 : Int32} {v4 : Int32} {S : HS} (h : P_X9_day v0 v1 v2 v3 v4 Q S) : P_X9_day v0 v1 v2 v3 v4 (fun r T => Q r T ∧ K7 S T) S := kw_X9_day_0 h (k7_rf S)
set_option maxRecDepth 20000 in
set_option maxHeartbeats 1000000 in
theorem kw_X9_driest_29 {Q : Int32 → HS → Prop} {v0 : Nat} {S0 S : HS} (h : P_X9_driest_29 Q v0 S) (K : K7 S0 S) : P_X9_driest_29 (fun r T => Q r T ∧ K7 S0 T) v0 S := by
  delta P_X9_driest_29 at h ⊢
  obtain ⟨c1, h⟩ := h
  refine ⟨c1, ?_⟩
  have n2 := k7_nk K c1 (by decide)
  refine cm_X9_refuse (kw_X9_refuse h) h (fun x3 x4 p6 h g5 => ?_)
  have h := h g5
  have K := k7_tr K p6.2
  exact ⟨h, K⟩
set_option maxRecDepth 20000 in
set_option maxHeartbeats 1000000 in
theorem kw_X9_driest_140 {Q : Int32 → HS → Prop} {X63 X63_2 : Nat → Int32 → Int32 → Int32 → Int32 → Int64 → Int32 → HS → Prop} {v0 : Nat} {v1 : Int32} {v2 : Int32} {v3 : Int32} {v4 : Int32} {v5 : Int64} {v7 : Int32} {S0 S : HS} (h : P_X9_driest_140 Q X63 v0 v1 v2 v3 v4 v5 v7 S) (K : K7 S0 S) (hX63 : ∀ (u0 : Nat) (u1 : Int32) (u2 : Int32) (u3 : Int32) (u4 : Int32) (u5 : Int64) (u6 : Int32) (u7 : HS), X63 u0 u1 u2 u3 u4 u5 u6 u7 → K7 S0 u7 → X63_2 u0 u1 u2 u3 u4 u5 u6 u7) : P_X9_driest_140 (fun r T => Q r T ∧ K7 S0 T) X63_2 v0 v1 v2 v3 v4 v5 v7 S := by
  delta P_X9_driest_140 at h ⊢
  intro x2 e1
  have h := h x2 e1
  exact hX63 _ _ _ _ _ _ _ _ h K
set_option maxRecDepth 20000 in
set_option maxHeartbeats 1000000 in
theorem kwB_X9_driest_63 {Q : Int32 → HS → Prop} {X63 X63_2 : Nat → Int32 → Int32 → Int32 → Int32 → Int64 → Int32 → HS → Prop} {v0 : Nat} {v1 : Int32} {v2 : Int32} {v3 : Int32} {v4 : Int32} {v5 : Int64} {v7 : Int32} {S0 S : HS} (h : B_X9_driest_63 Q X63 v0 v1 v2 v3 v4 v5 v7 S) (K : K7 S0 S) (hX63 : ∀ (u0 : Nat) (u1 : Int32) (u2 : Int32) (u3 : Int32) (u4 : Int32) (u5 : Int64) (u6 : Int32) (u7 : HS), X63 u0 u1 u2 u3 u4 u5 u6 u7 → K7 S0 u7 → X63_2 u0 u1 u2 u3 u4 u5 u6 u7) : B_X9_driest_63 (fun r T => Q r T ∧ K7 S0 T) X63_2 v0 v1 v2 v3 v4 v5 v7 S := by
  delta B_X9_driest_63 at h ⊢
  obtain ⟨c1, h⟩ := h
  refine ⟨c1, ?_⟩
  have n2 := k7_nk K c1 (by decide)
  obtain ⟨b3, e4, h⟩ := h
  refine ⟨b3, e4, ?_⟩
  obtain ⟨c5, h⟩ := h
  refine ⟨c5, ?_⟩
  have n6 := k7_nk K c5 (by decide)
  intro x8 e7
  have h := h x8 e7
  refine ⟨?_, ?_⟩
  · intro c9
    have h := h.1 c9
    refine cm_X9_grant (kw_X9_grant h) h (fun x10 x11 p13 h g12 => ?_)
    have h := h g12
    have K := k7_tr K p13.2
    exact ⟨h, K⟩
  · intro c14
    have h := h.2 c14
    obtain ⟨b15, e16, h⟩ := h
    refine ⟨b15, e16, ?_⟩
    obtain ⟨c17, h⟩ := h
    refine ⟨c17, ?_⟩
    have n18 := k7_nk K c17 (by decide)
    obtain ⟨b19, e20, h⟩ := h
    refine ⟨b19, e20, ?_⟩
    obtain ⟨c21, h⟩ := h
    refine ⟨c21, ?_⟩
    have n22 := k7_nk K c21 (by decide)
    obtain ⟨c23, h⟩ := h
    refine ⟨c23, ?_⟩
    obtain ⟨b24, e25, h⟩ := h
    refine ⟨b24, e25, ?_⟩
    obtain ⟨b26, e27, h⟩ := h
    refine ⟨b26, e27, ?_⟩
    obtain ⟨b28, e29, h⟩ := h
    refine ⟨b28, e29, ?_⟩
    obtain ⟨c30, h⟩ := h
    refine ⟨c30, ?_⟩
    have n31 := k7_nk K c30 (by decide)
    obtain ⟨b32, e33, h⟩ := h
    refine ⟨b32, e33, ?_⟩
    obtain ⟨c34, h⟩ := h
    refine ⟨c34, ?_⟩
    have n35 := k7_nk K c34 (by decide)
    obtain ⟨c36, h⟩ := h
    refine ⟨c36, ?_⟩
    obtain ⟨b37, e38, h⟩ := h
    refine ⟨b37, e38, ?_⟩
    obtain ⟨b39, e40, h⟩ := h
    refine ⟨b39, e40, ?_⟩
    obtain ⟨c41, h⟩ := h
    refine ⟨c41, ?_⟩
    have n42 := k7_nk K c41 (by decide)
    obtain ⟨b43, e44, h⟩ := h
    refine ⟨b43, e44, ?_⟩
    obtain ⟨c45, h⟩ := h
    refine ⟨c45, ?_⟩
    have n46 := k7_nk K c45 (by decide)
    obtain ⟨c47, h⟩ := h
    refine ⟨c47, ?_⟩
    obtain ⟨b48, e49, h⟩ := h
    refine ⟨b48, e49, ?_⟩
    obtain ⟨c50, h⟩ := h
    refine ⟨c50, ?_⟩
    have n51 := k7_nk K c50 (by decide)
    refine cm_X1_leastWet (kw_X1_leastWet h) h (fun x52 x53 p55 h g54 => ?_)
    have h := h g54
    have K := k7_tr K p55.2
    obtain ⟨c56, h⟩ := h
    refine ⟨c56, ?_⟩
    have n57 := k7_nk K c56 (by decide)
    intro x59 e58
    have h := h x59 e58
    intro x61 e60
    have h := h x61 e60
    refine ⟨?_, ?_⟩
    · intro c62
      have h := h.1 c62
      exact kw_X9_driest_140 h K hX63
    · intro c63
      have h := h.2 c63
      exact kw_X9_driest_140 h K hX63
theorem kw_X9_driest_63 {Q : Int32 → HS → Prop} {v0 : Nat} {v1 : Int32} {v2 : Int32} {v3 : Int32} {v4 : Int32} {v5 : Int64} {v7 : Int32} {S0 S : HS} (h : P_X9_driest_63 Q v0 v1 v2 v3 v4 v5 v7 S) (K : K7 S0 S) : P_X9_driest_63 (fun r T => Q r T ∧ K7 S0 T) v0 v1 v2 v3 v4 v5 v7 S := h (fun v0 v1 v2 v3 v4 v5 v7 S => K7 S0 S → P_X9_driest_63 (fun r T => Q r T ∧ K7 S0 T) v0 v1 v2 v3 v4 v5 v7 S) (fun v0 v1 v2 v3 v4 v5 v7 S hB K => fd_X9_driest_63 (kwB_X9_driest_63 hB K (fun _ _ _ _ _ _ _ _ hx K => hx K))) K
set_option maxRecDepth 20000 in
set_option maxHeartbeats 1000000 in
theorem kw_X9_driest_0 {Q : Int32 → HS → Prop} {v0 : Nat} {v1 : Int32} {v2 : Int32} {v3 : Int32} {S0 S : HS} (h : P_X9_driest_0 Q v0 v1 v2 v3 S) (K : K7 S0 S) : P_X9_driest_0 (fun r T => Q r T ∧ K7 S0 T) v0 v1 v2 v3 S := by
  delta P_X9_driest_0 at h ⊢
  obtain ⟨c1, h⟩ := h
  refine ⟨c1, ?_⟩
  have n2 := k7_nk K c1 (by decide)
  obtain ⟨b3, e4, h⟩ := h
  refine ⟨b3, e4, ?_⟩
  obtain ⟨c5, h⟩ := h
  refine ⟨c5, ?_⟩
  have n6 := k7_nk K c5 (by decide)
  refine cm_X8_hasWalker (kw_X8_hasWalker h) h (fun x7 x8 p11 h g9 g10 => ?_)
  have h := h g9 g10
  have K := k7_tr K p11.2
  refine ⟨?_, ?_⟩
  · intro c12
    have h := h.1 c12
    exact kw_X9_driest_29 h K
  · intro c13
    have h := h.2 c13
    obtain ⟨b14, e15, h⟩ := h
    refine ⟨b14, e15, ?_⟩
    obtain ⟨c16, h⟩ := h
    refine ⟨c16, ?_⟩
    have n17 := k7_nk K c16 (by decide)
    refine cm_X8_hasRoad (kw_X8_hasRoad h) h (fun x18 x19 p22 h g20 g21 => ?_)
    have h := h g20 g21
    have K := k7_tr K p22.2
    refine ⟨?_, ?_⟩
    · intro c23
      have h := h.1 c23
      exact kw_X9_driest_29 h K
    · intro c24
      have h := h.2 c24
      refine cm_X9_isWay (kw_X9_isWay h) h (fun x25 x26 p29 h g27 g28 => ?_)
      have h := h g27 g28
      have K := k7_tr K p29.2
      refine ⟨?_, ?_⟩
      · intro c30
        have h := h.1 c30
        obtain ⟨b31, e32, h⟩ := h
        refine ⟨b31, e32, ?_⟩
        obtain ⟨c33, h⟩ := h
        refine ⟨c33, ?_⟩
        have n34 := k7_nk K c33 (by decide)
        intro x36 e35
        have h := h x36 e35
        refine ⟨?_, ?_⟩
        · intro c37
          have h := h.1 c37
          exact kw_X9_driest_63 h K
        · intro c38
          have h := h.2 c38
          refine cm_X9_refuse (kw_X9_refuse h) h (fun x39 x40 p42 h g41 => ?_)
          have h := h g41
          have K := k7_tr K p42.2
          exact ⟨h, K⟩
      · intro c43
        have h := h.2 c43
        exact kw_X9_driest_29 h K
theorem kw_X9_driest {Q : Int32 → HS → Prop} {v0 : Nat} {v1 : Int32} {v2 : Int32} {v3 : Int32} {S : HS} (h : P_X9_driest v0 v1 v2 v3 Q S) : P_X9_driest v0 v1 v2 v3 (fun r T => Q r T ∧ K7 S T) S := kw_X9_driest_0 h (k7_rf S)
set_option maxRecDepth 20000 in
set_option maxHeartbeats 1000000 in
theorem kw_X9_even_0 {Q : Int32 → HS → Prop} {v0 : Nat} {v1 : Int32} {v2 : Int32} {v3 : Int32} {v4 : Int32} {S0 S : HS} (h : P_X9_even_0 Q v0 v1 v2 v3 v4 S) (K : K7 S0 S) : P_X9_even_0 (fun r T => Q r T ∧ K7 S0 T) v0 v1 v2 v3 v4 S := by
  delta P_X9_even_0 at h ⊢
  obtain ⟨c1, h⟩ := h
  refine ⟨c1, ?_⟩
  have n2 := k7_nk K c1 (by decide)
  refine cm_X9_tripTrouble (kw_X9_tripTrouble h) h (fun x3 x4 p6 h g5 => ?_)
  have h := h g5
  have K := k7_tr K p6.2
  refine cm_X9_refusedBy (kw_X9_refusedBy h) h (fun x7 x8 p11 h g9 g10 => ?_)
  have h := h g9 g10
  have K := k7_tr K p11.2
  refine ⟨?_, ?_⟩
  · intro c12
    have h := h.1 c12
    obtain ⟨b13, e14, h⟩ := h
    refine ⟨b13, e14, ?_⟩
    obtain ⟨c15, h⟩ := h
    refine ⟨c15, ?_⟩
    have n16 := k7_nk K c15 (by decide)
    obtain ⟨b17, e18, h⟩ := h
    refine ⟨b17, e18, ?_⟩
    obtain ⟨c19, h⟩ := h
    refine ⟨c19, ?_⟩
    have n20 := k7_nk K c19 (by decide)
    obtain ⟨c21, h⟩ := h
    refine ⟨c21, ?_⟩
    obtain ⟨b22, e23, h⟩ := h
    refine ⟨b22, e23, ?_⟩
    obtain ⟨b24, e25, h⟩ := h
    refine ⟨b24, e25, ?_⟩
    obtain ⟨b26, e27, h⟩ := h
    refine ⟨b26, e27, ?_⟩
    obtain ⟨c28, h⟩ := h
    refine ⟨c28, ?_⟩
    have n29 := k7_nk K c28 (by decide)
    obtain ⟨b30, e31, h⟩ := h
    refine ⟨b30, e31, ?_⟩
    obtain ⟨c32, h⟩ := h
    refine ⟨c32, ?_⟩
    have n33 := k7_nk K c32 (by decide)
    obtain ⟨c34, h⟩ := h
    refine ⟨c34, ?_⟩
    obtain ⟨b35, e36, h⟩ := h
    refine ⟨b35, e36, ?_⟩
    obtain ⟨b37, e38, h⟩ := h
    refine ⟨b37, e38, ?_⟩
    obtain ⟨c39, h⟩ := h
    refine ⟨c39, ?_⟩
    have n40 := k7_nk K c39 (by decide)
    obtain ⟨b41, e42, h⟩ := h
    refine ⟨b41, e42, ?_⟩
    obtain ⟨c43, h⟩ := h
    refine ⟨c43, ?_⟩
    have n44 := k7_nk K c43 (by decide)
    obtain ⟨c45, h⟩ := h
    refine ⟨c45, ?_⟩
    obtain ⟨b46, e47, h⟩ := h
    refine ⟨b46, e47, ?_⟩
    obtain ⟨c48, h⟩ := h
    refine ⟨c48, ?_⟩
    have n49 := k7_nk K c48 (by decide)
    refine cm_X1_worstSpeed (kw_X1_worstSpeed h) h (fun x50 x51 p53 h g52 => ?_)
    have h := h g52
    have K := k7_tr K p53.2
    obtain ⟨b54, e55, h⟩ := h
    refine ⟨b54, e55, ?_⟩
    obtain ⟨b56, e57, h⟩ := h
    refine ⟨b56, e57, ?_⟩
    obtain ⟨c58, h⟩ := h
    refine ⟨c58, ?_⟩
    have n59 := k7_nk K c58 (by decide)
    obtain ⟨b60, e61, h⟩ := h
    refine ⟨b60, e61, ?_⟩
    obtain ⟨c62, h⟩ := h
    refine ⟨c62, ?_⟩
    have n63 := k7_nk K c62 (by decide)
    obtain ⟨c64, h⟩ := h
    refine ⟨c64, ?_⟩
    obtain ⟨b65, e66, h⟩ := h
    refine ⟨b65, e66, ?_⟩
    obtain ⟨b67, e68, h⟩ := h
    refine ⟨b67, e68, ?_⟩
    obtain ⟨c69, h⟩ := h
    refine ⟨c69, ?_⟩
    have n70 := k7_nk K c69 (by decide)
    obtain ⟨b71, e72, h⟩ := h
    refine ⟨b71, e72, ?_⟩
    obtain ⟨c73, h⟩ := h
    refine ⟨c73, ?_⟩
    have n74 := k7_nk K c73 (by decide)
    obtain ⟨c75, h⟩ := h
    refine ⟨c75, ?_⟩
    obtain ⟨b76, e77, h⟩ := h
    refine ⟨b76, e77, ?_⟩
    obtain ⟨c78, h⟩ := h
    refine ⟨c78, ?_⟩
    have n79 := k7_nk K c78 (by decide)
    refine cm_X1_leastWet (kw_X1_leastWet h) h (fun x80 x81 p83 h g82 => ?_)
    have h := h g82
    have K := k7_tr K p83.2
    obtain ⟨b84, e85, h⟩ := h
    refine ⟨b84, e85, ?_⟩
    obtain ⟨b86, e87, h⟩ := h
    refine ⟨b86, e87, ?_⟩
    obtain ⟨c88, h⟩ := h
    refine ⟨c88, ?_⟩
    have n89 := k7_nk K c88 (by decide)
    obtain ⟨b90, e91, h⟩ := h
    refine ⟨b90, e91, ?_⟩
    obtain ⟨c92, h⟩ := h
    refine ⟨c92, ?_⟩
    have n93 := k7_nk K c92 (by decide)
    obtain ⟨c94, h⟩ := h
    refine ⟨c94, ?_⟩
    obtain ⟨b95, e96, h⟩ := h
    refine ⟨b95, e96, ?_⟩
    obtain ⟨b97, e98, h⟩ := h
    refine ⟨b97, e98, ?_⟩
    obtain ⟨c99, h⟩ := h
    refine ⟨c99, ?_⟩
    have n100 := k7_nk K c99 (by decide)
    obtain ⟨b101, e102, h⟩ := h
    refine ⟨b101, e102, ?_⟩
    obtain ⟨c103, h⟩ := h
    refine ⟨c103, ?_⟩
    have n104 := k7_nk K c103 (by decide)
    obtain ⟨c105, h⟩ := h
    refine ⟨c105, ?_⟩
    obtain ⟨b106, e107, h⟩ := h
    refine ⟨b106, e107, ?_⟩
    obtain ⟨c108, h⟩ := h
    refine ⟨c108, ?_⟩
    have n109 := k7_nk K c108 (by decide)
    refine cm_X1_wetOf (kw_X1_wetOf h) h (fun x110 x111 p113 h g112 => ?_)
    have h := h g112
    have K := k7_tr K p113.2
    refine ⟨?_, ?_⟩
    · intro c114
      have h := h.1 c114
      exact ⟨h, K⟩
    · intro c115
      have h := h.2 c115
      exact ⟨h, K⟩
  · intro c116
    have h := h.2 c116
    exact ⟨h, K⟩
theorem kw_X9_even {Q : Int32 → HS → Prop} {v0 : Nat} {v1 : Int32} {v2 : Int32} {v3 : Int32} {v4 : Int32} {S : HS} (h : P_X9_even v0 v1 v2 v3 v4 Q S) : P_X9_even v0 v1 v2 v3 v4 (fun r T => Q r T ∧ K7 S T) S := kw_X9_even_0 h (k7_rf S)
set_option maxRecDepth 20000 in
set_option maxHeartbeats 1000000 in
theorem kw_X9_fraction_0 {Q : Int64 → HS → Prop} {v0 : Int64} {v2 : Int64} {v4 : Int32} {S0 S : HS} (h : P_X9_fraction_0 Q v0 v2 v4 S) (K : K7 S0 S) : P_X9_fraction_0 (fun r T => Q r T ∧ K7 S0 T) v0 v2 v4 S := by
  delta P_X9_fraction_0 at h ⊢
  refine cm_X9_commonDivisor (kw_X9_commonDivisor h) h (fun x1 x2 p4 h g3 => ?_)
  have h := h g3
  have K := k7_tr K p4.2
  refine ⟨?_, ?_⟩
  · intro c5
    have h := h.1 c5
    refine ⟨?_, ?_⟩
    · intro c6
      have h := h.1 c6
      obtain ⟨c7, h⟩ := h
      refine ⟨c7, ?_⟩
      intro x9 e8
      have h := h x9 e8
      exact ⟨h, K⟩
    · intro c10
      have h := h.2 c10
      obtain ⟨c11, h⟩ := h
      refine ⟨c11, ?_⟩
      intro x13 e12
      have h := h x13 e12
      exact ⟨h, K⟩
  · intro c14
    have h := h.2 c14
    refine ⟨?_, ?_⟩
    · intro c15
      have h := h.1 c15
      exact ⟨h, K⟩
    · intro c16
      have h := h.2 c16
      exact ⟨h, K⟩
theorem kw_X9_fraction {Q : Int64 → HS → Prop} {v0 : Int64} {v2 : Int64} {v4 : Int32} {S : HS} (h : P_X9_fraction v0 v2 v4 Q S) : P_X9_fraction v0 v2 v4 (fun r T => Q r T ∧ K7 S T) S := kw_X9_fraction_0 h (k7_rf S)
set_option maxRecDepth 20000 in
set_option maxHeartbeats 1000000 in
theorem kw_X9_isFace_0 {Q : Int32 → HS → Prop} {v0 : Int32} {S0 S : HS} (h : P_X9_isFace_0 Q v0 S) (K : K7 S0 S) : P_X9_isFace_0 (fun r T => Q r T ∧ K7 S0 T) v0 S := by
  delta P_X9_isFace_0 at h ⊢
  refine ⟨?_, ?_⟩
  · intro c1
    have h := h.1 c1
    exact ⟨h, K⟩
  · intro c2
    have h := h.2 c2
    refine ⟨?_, ?_⟩
    · intro c3
      have h := h.1 c3
      exact ⟨h, K⟩
    · intro c4
      have h := h.2 c4
      exact ⟨h, K⟩
theorem kw_X9_isFace {Q : Int32 → HS → Prop} {v0 : Int32} {S : HS} (h : P_X9_isFace v0 Q S) : P_X9_isFace v0 (fun r T => Q r T ∧ K7 S T) S := kw_X9_isFace_0 h (k7_rf S)
set_option maxRecDepth 20000 in
set_option maxHeartbeats 1000000 in
theorem kw_X9_legTrouble_0 {Q : Int32 → HS → Prop} {v0 : Nat} {v1 : Int32} {v2 : Int32} {v3 : Int32} {v4 : Int32} {v5 : Int32} {S0 S : HS} (h : P_X9_legTrouble_0 Q v0 v1 v2 v3 v4 v5 S) (K : K7 S0 S) : P_X9_legTrouble_0 (fun r T => Q r T ∧ K7 S0 T) v0 v1 v2 v3 v4 v5 S := by
  delta P_X9_legTrouble_0 at h ⊢
  obtain ⟨c1, h⟩ := h
  refine ⟨c1, ?_⟩
  have n2 := k7_nk K c1 (by decide)
  refine cm_X9_tripTrouble (kw_X9_tripTrouble h) h (fun x3 x4 p6 h g5 => ?_)
  have h := h g5
  have K := k7_tr K p6.2
  refine ⟨?_, ?_⟩
  · intro c7
    have h := h.1 c7
    obtain ⟨b8, e9, h⟩ := h
    refine ⟨b8, e9, ?_⟩
    obtain ⟨c10, h⟩ := h
    refine ⟨c10, ?_⟩
    have n11 := k7_nk K c10 (by decide)
    obtain ⟨b12, e13, h⟩ := h
    refine ⟨b12, e13, ?_⟩
    obtain ⟨c14, h⟩ := h
    refine ⟨c14, ?_⟩
    have n15 := k7_nk K c14 (by decide)
    obtain ⟨c16, h⟩ := h
    refine ⟨c16, ?_⟩
    obtain ⟨b17, e18, h⟩ := h
    refine ⟨b17, e18, ?_⟩
    obtain ⟨c19, h⟩ := h
    refine ⟨c19, ?_⟩
    have n20 := k7_nk K c19 (by decide)
    refine cm_X6_canGo (kw_X6_canGo h) h (fun x21 x22 p25 h g23 g24 => ?_)
    have h := h g23 g24
    have K := k7_tr K p25.2
    refine ⟨?_, ?_⟩
    · intro c26
      have h := h.1 c26
      exact ⟨h, K⟩
    · intro c27
      have h := h.2 c27
      exact ⟨h, K⟩
  · intro c28
    have h := h.2 c28
    exact ⟨h, K⟩
theorem kw_X9_legTrouble {Q : Int32 → HS → Prop} {v0 : Nat} {v1 : Int32} {v2 : Int32} {v3 : Int32} {v4 : Int32} {v5 : Int32} {S : HS} (h : P_X9_legTrouble v0 v1 v2 v3 v4 v5 Q S) : P_X9_legTrouble v0 v1 v2 v3 v4 v5 (fun r T => Q r T ∧ K7 S T) S := kw_X9_legTrouble_0 h (k7_rf S)
set_option maxRecDepth 20000 in
set_option maxHeartbeats 1000000 in
theorem kw_X9_face_23 {Q : Int64 → HS → Prop} {v0 : Nat} {v1 : Int32} {v2 : Int32} {v3 : Int32} {v4 : Int32} {v5 : Int32} {v6 : Int32} {v7 : Int32} {s0 : Int32} {S0 S : HS} (h : P_X9_face_23 Q v0 v1 v2 v3 v4 v5 v6 v7 s0 S) (K : K7 S0 S) : P_X9_face_23 (fun r T => Q r T ∧ K7 S0 T) v0 v1 v2 v3 v4 v5 v6 v7 s0 S := by
  delta P_X9_face_23 at h ⊢
  obtain ⟨c1, h⟩ := h
  refine ⟨c1, ?_⟩
  have n2 := k7_nk K c1 (by decide)
  refine cm_X9_refusedBy (kw_X9_refusedBy h) h (fun x3 x4 p7 h g5 g6 => ?_)
  have h := h g5 g6
  have K := k7_tr K p7.2
  refine ⟨?_, ?_⟩
  · intro c8
    have h := h.1 c8
    obtain ⟨b9, e10, h⟩ := h
    refine ⟨b9, e10, ?_⟩
    obtain ⟨b11, e12, h⟩ := h
    refine ⟨b11, e12, ?_⟩
    obtain ⟨c13, h⟩ := h
    refine ⟨c13, ?_⟩
    have n14 := k7_nk K c13 (by decide)
    obtain ⟨b15, e16, h⟩ := h
    refine ⟨b15, e16, ?_⟩
    obtain ⟨c17, h⟩ := h
    refine ⟨c17, ?_⟩
    have n18 := k7_nk K c17 (by decide)
    obtain ⟨c19, h⟩ := h
    refine ⟨c19, ?_⟩
    obtain ⟨b20, e21, h⟩ := h
    refine ⟨b20, e21, ?_⟩
    obtain ⟨b22, e23, h⟩ := h
    refine ⟨b22, e23, ?_⟩
    obtain ⟨c24, h⟩ := h
    refine ⟨c24, ?_⟩
    have n25 := k7_nk K c24 (by decide)
    obtain ⟨b26, e27, h⟩ := h
    refine ⟨b26, e27, ?_⟩
    obtain ⟨c28, h⟩ := h
    refine ⟨c28, ?_⟩
    have n29 := k7_nk K c28 (by decide)
    obtain ⟨c30, h⟩ := h
    refine ⟨c30, ?_⟩
    obtain ⟨b31, e32, h⟩ := h
    refine ⟨b31, e32, ?_⟩
    obtain ⟨b33, e34, h⟩ := h
    refine ⟨b33, e34, ?_⟩
    obtain ⟨c35, h⟩ := h
    refine ⟨c35, ?_⟩
    have n36 := k7_nk K c35 (by decide)
    obtain ⟨b37, e38, h⟩ := h
    refine ⟨b37, e38, ?_⟩
    obtain ⟨c39, h⟩ := h
    refine ⟨c39, ?_⟩
    have n40 := k7_nk K c39 (by decide)
    obtain ⟨c41, h⟩ := h
    refine ⟨c41, ?_⟩
    obtain ⟨b42, e43, h⟩ := h
    refine ⟨b42, e43, ?_⟩
    obtain ⟨c44, h⟩ := h
    refine ⟨c44, ?_⟩
    have n45 := k7_nk K c44 (by decide)
    refine cm_X1_wetOf (kw_X1_wetOf h) h (fun x46 x47 p49 h g48 => ?_)
    have h := h g48
    have K := k7_tr K p49.2
    obtain ⟨b50, e51, h⟩ := h
    refine ⟨b50, e51, ?_⟩
    obtain ⟨c52, h⟩ := h
    refine ⟨c52, ?_⟩
    have n53 := k7_nk K c52 (by decide)
    obtain ⟨b54, e55, h⟩ := h
    refine ⟨b54, e55, ?_⟩
    obtain ⟨c56, h⟩ := h
    refine ⟨c56, ?_⟩
    have n57 := k7_nk K c56 (by decide)
    obtain ⟨c58, h⟩ := h
    refine ⟨c58, ?_⟩
    intro x60 e59
    have h := h x60 e59
    refine cm_X9_fraction (kw_X9_fraction h) h (fun x61 x62 p64 h g63 => ?_)
    have h := h g63
    have K := k7_tr K p64.2
    exact ⟨h, K⟩
  · intro c65
    have h := h.2 c65
    exact ⟨h, K⟩
set_option maxRecDepth 20000 in
set_option maxHeartbeats 1000000 in
theorem kw_X9_face_0 {Q : Int64 → HS → Prop} {v0 : Nat} {v1 : Int32} {v2 : Int32} {v3 : Int32} {v4 : Int32} {v5 : Int32} {v6 : Int32} {v7 : Int32} {S0 S : HS} (h : P_X9_face_0 Q v0 v1 v2 v3 v4 v5 v6 v7 S) (K : K7 S0 S) : P_X9_face_0 (fun r T => Q r T ∧ K7 S0 T) v0 v1 v2 v3 v4 v5 v6 v7 S := by
  delta P_X9_face_0 at h ⊢
  refine cm_X9_isFace (kw_X9_isFace h) h (fun x1 x2 p5 h g3 g4 => ?_)
  have h := h g3 g4
  have K := k7_tr K p5.2
  refine ⟨?_, ?_⟩
  · intro c6
    have h := h.1 c6
    exact kw_X9_face_23 h K
  · intro c7
    have h := h.2 c7
    obtain ⟨c8, h⟩ := h
    refine ⟨c8, ?_⟩
    have n9 := k7_nk K c8 (by decide)
    refine cm_X9_legTrouble (kw_X9_legTrouble h) h (fun x10 x11 p13 h g12 => ?_)
    have h := h g12
    have K := k7_tr K p13.2
    exact kw_X9_face_23 h K
theorem kw_X9_face {Q : Int64 → HS → Prop} {v0 : Nat} {v1 : Int32} {v2 : Int32} {v3 : Int32} {v4 : Int32} {v5 : Int32} {v6 : Int32} {v7 : Int32} {S : HS} (h : P_X9_face v0 v1 v2 v3 v4 v5 v6 v7 Q S) : P_X9_face v0 v1 v2 v3 v4 v5 v6 v7 (fun r T => Q r T ∧ K7 S T) S := kw_X9_face_0 h (k7_rf S)
set_option maxRecDepth 20000 in
set_option maxHeartbeats 1000000 in
theorem kw_X9_putBytes_49 {Q : HS → Prop} {X3 X3_2 : Nat → Int32 → Int32 → HS → Prop} {v0 : Nat} {v1 : Int32} {v2 : Int32} {S0 S : HS} (h : P_X9_putBytes_49 Q X3 v0 v1 v2 S) (K : K7 S0 S) (hX3 : ∀ (u0 : Nat) (u1 : Int32) (u2 : Int32) (u3 : HS), X3 u0 u1 u2 u3 → K7 S0 u3 → X3_2 u0 u1 u2 u3) : P_X9_putBytes_49 (fun T => Q T ∧ K7 S0 T) X3_2 v0 v1 v2 S := by
  delta P_X9_putBytes_49 at h ⊢
  intro x2 e1
  have h := h x2 e1
  exact hX3 _ _ _ _ h K
set_option maxRecDepth 20000 in
set_option maxHeartbeats 1000000 in
theorem kwB_X9_putBytes_3 {Q : HS → Prop} {X3 X3_2 : Nat → Int32 → Int32 → HS → Prop} {v0 : Nat} {v1 : Int32} {v2 : Int32} {S0 S : HS} (h : B_X9_putBytes_3 Q X3 v0 v1 v2 S) (K : K7 S0 S) (hX3 : ∀ (u0 : Nat) (u1 : Int32) (u2 : Int32) (u3 : HS), X3 u0 u1 u2 u3 → K7 S0 u3 → X3_2 u0 u1 u2 u3) : B_X9_putBytes_3 (fun T => Q T ∧ K7 S0 T) X3_2 v0 v1 v2 S := by
  delta B_X9_putBytes_3 at h ⊢
  refine ⟨?_, ?_⟩
  · intro c1
    have h := h.1 c1
    exact ⟨h, K⟩
  · intro c2
    have h := h.2 c2
    obtain ⟨c3, h⟩ := h
    refine ⟨c3, ?_⟩
    have n4 := k7_nk K c3 (by decide)
    intro x6 e5
    have h := h x6 e5
    refine ⟨?_, ?_⟩
    · intro c7
      have h := h.1 c7
      exact kw_X9_putBytes_49 h K hX3
    · intro c8
      have h := h.2 c8
      intro x10 e9
      have h := h x10 e9
      obtain ⟨b11, e12, h⟩ := h
      refine ⟨b11, e12, ?_⟩
      obtain ⟨c13, h⟩ := h
      refine ⟨c13, ?_⟩
      have n14 := k7_nk K c13 (by decide)
      refine ⟨?_, ?_⟩
      · intro c15
        have h := h.1 c15
        exact kw_X9_putBytes_49 h K hX3
      · intro c16
        have h := h.2 c16
        obtain ⟨b17, e18, h⟩ := h
        refine ⟨b17, e18, ?_⟩
        intro x20 e19
        have h := h x20 e19
        obtain ⟨c21, h⟩ := h
        refine ⟨c21, ?_⟩
        have n22 := k7_nk K c21 (by decide)
        intro x24 e23
        have h := h x24 e23
        obtain ⟨c25, h⟩ := h
        refine ⟨c25, ?_⟩
        intro x27 e26
        have h := h x27 e26
        have K := k7_I K e26 n22
        intro x29 e28
        have h := h x29 e28
        intro x31 e30
        have h := h x31 e30
        intro x33 e32
        have h := h x33 e32
        have K := k7_I K e32 n4
        exact kw_X9_putBytes_49 h K hX3
theorem kw_X9_putBytes_3 {Q : HS → Prop} {v0 : Nat} {v1 : Int32} {v2 : Int32} {S0 S : HS} (h : P_X9_putBytes_3 Q v0 v1 v2 S) (K : K7 S0 S) : P_X9_putBytes_3 (fun T => Q T ∧ K7 S0 T) v0 v1 v2 S := h (fun v0 v1 v2 S => K7 S0 S → P_X9_putBytes_3 (fun T => Q T ∧ K7 S0 T) v0 v1 v2 S) (fun v0 v1 v2 S hB K => fd_X9_putBytes_3 (kwB_X9_putBytes_3 hB K (fun _ _ _ _ hx K => hx K))) K
set_option maxRecDepth 20000 in
set_option maxHeartbeats 1000000 in
theorem kw_X9_putBytes_0 {Q : HS → Prop} {v0 : Nat} {v1 : Int32} {S0 S : HS} (h : P_X9_putBytes_0 Q v0 v1 S) (K : K7 S0 S) : P_X9_putBytes_0 (fun T => Q T ∧ K7 S0 T) v0 v1 S := by
  delta P_X9_putBytes_0 at h ⊢
  exact kw_X9_putBytes_3 h K
theorem kw_X9_putBytes {Q : HS → Prop} {v0 : Nat} {v1 : Int32} {S : HS} (h : P_X9_putBytes v0 v1 Q S) : P_X9_putBytes v0 v1 (fun T => Q T ∧ K7 S T) S := kw_X9_putBytes_0 h (k7_rf S)
set_option maxRecDepth 20000 in
set_option maxHeartbeats 1000000 in
theorem kw_X9_feed_0 {Q : Int32 → HS → Prop} {v0 : Nat} {v1 : Int32} {v2 : Int32} {v3 : Int32} {v4 : Int32} {v5 : Int32} {S0 S : HS} (h : P_X9_feed_0 Q v0 v1 v2 v3 v4 v5 S) (K : K7 S0 S) : P_X9_feed_0 (fun r T => Q r T ∧ K7 S0 T) v0 v1 v2 v3 v4 v5 S := by
  delta P_X9_feed_0 at h ⊢
  obtain ⟨c1, h⟩ := h
  refine ⟨c1, ?_⟩
  have n2 := k7_nk K c1 (by decide)
  intro x4 e3
  have h := h x4 e3
  refine ⟨?_, ?_⟩
  · intro c5
    have h := h.1 c5
    refine cm_X9_putBytes (kw_X9_putBytes h) h (fun x6 p8 h g7 => ?_)
    have h := h g7
    have K := k7_tr K p8.2
    refine cm_X9_putBytes (kw_X9_putBytes h) h (fun x9 p11 h g10 => ?_)
    have h := h g10
    have K := k7_tr K p11.2
    refine cm_X9_putBytes (kw_X9_putBytes h) h (fun x12 p14 h g13 => ?_)
    have h := h g13
    have K := k7_tr K p14.2
    refine cm_X9_putBytes (kw_X9_putBytes h) h (fun x15 p17 h g16 => ?_)
    have h := h g16
    have K := k7_tr K p17.2
    refine cm_X9_putBytes (kw_X9_putBytes h) h (fun x18 p20 h g19 => ?_)
    have h := h g19
    have K := k7_tr K p20.2
    intro x22 e21
    have h := h x22 e21
    exact ⟨h, K⟩
  · intro c23
    have h := h.2 c23
    exact ⟨h, K⟩
theorem kw_X9_feed {Q : Int32 → HS → Prop} {v0 : Nat} {v1 : Int32} {v2 : Int32} {v3 : Int32} {v4 : Int32} {v5 : Int32} {S : HS} (h : P_X9_feed v0 v1 v2 v3 v4 v5 Q S) : P_X9_feed v0 v1 v2 v3 v4 v5 (fun r T => Q r T ∧ K7 S T) S := kw_X9_feed_0 h (k7_rf S)
set_option maxRecDepth 20000 in
set_option maxHeartbeats 1000000 in
theorem kw_X9_leeTrouble_0 {Q : Int32 → HS → Prop} {v0 : Nat} {v1 : Int32} {v2 : Int32} {v3 : Int32} {v4 : Int32} {v5 : Int32} {v6 : Int32} {S0 S : HS} (h : P_X9_leeTrouble_0 Q v0 v1 v2 v3 v4 v5 v6 S) (K : K7 S0 S) : P_X9_leeTrouble_0 (fun r T => Q r T ∧ K7 S0 T) v0 v1 v2 v3 v4 v5 v6 S := by
  delta P_X9_leeTrouble_0 at h ⊢
  refine ⟨?_, ?_⟩
  · intro c1
    have h := h.1 c1
    exact ⟨h, K⟩
  · intro c2
    have h := h.2 c2
    obtain ⟨c3, h⟩ := h
    refine ⟨c3, ?_⟩
    have n4 := k7_nk K c3 (by decide)
    obtain ⟨b5, e6, h⟩ := h
    refine ⟨b5, e6, ?_⟩
    obtain ⟨c7, h⟩ := h
    refine ⟨c7, ?_⟩
    have n8 := k7_nk K c7 (by decide)
    refine cm_X8_hasWalker (kw_X8_hasWalker h) h (fun x9 x10 p13 h g11 g12 => ?_)
    have h := h g11 g12
    have K := k7_tr K p13.2
    refine ⟨?_, ?_⟩
    · intro c14
      have h := h.1 c14
      exact ⟨h, K⟩
    · intro c15
      have h := h.2 c15
      obtain ⟨b16, e17, h⟩ := h
      refine ⟨b16, e17, ?_⟩
      obtain ⟨c18, h⟩ := h
      refine ⟨c18, ?_⟩
      have n19 := k7_nk K c18 (by decide)
      refine cm_X8_hasWalker (kw_X8_hasWalker h) h (fun x20 x21 p24 h g22 g23 => ?_)
      have h := h g22 g23
      have K := k7_tr K p24.2
      refine ⟨?_, ?_⟩
      · intro c25
        have h := h.1 c25
        refine cm_X9_legTrouble (kw_X9_legTrouble h) h (fun x26 x27 p29 h g28 => ?_)
        have h := h g28
        have K := k7_tr K p29.2
        refine ⟨?_, ?_⟩
        · intro c30
          have h := h.1 c30
          obtain ⟨b31, e32, h⟩ := h
          refine ⟨b31, e32, ?_⟩
          obtain ⟨c33, h⟩ := h
          refine ⟨c33, ?_⟩
          have n34 := k7_nk K c33 (by decide)
          obtain ⟨b35, e36, h⟩ := h
          refine ⟨b35, e36, ?_⟩
          obtain ⟨c37, h⟩ := h
          refine ⟨c37, ?_⟩
          have n38 := k7_nk K c37 (by decide)
          obtain ⟨c39, h⟩ := h
          refine ⟨c39, ?_⟩
          obtain ⟨b40, e41, h⟩ := h
          refine ⟨b40, e41, ?_⟩
          obtain ⟨c42, h⟩ := h
          refine ⟨c42, ?_⟩
          have n43 := k7_nk K c42 (by decide)
          refine cm_X6_canGo (kw_X6_canGo h) h (fun x44 x45 p48 h g46 g47 => ?_)
          have h := h g46 g47
          have K := k7_tr K p48.2
          refine ⟨?_, ?_⟩
          · intro c49
            have h := h.1 c49
            exact ⟨h, K⟩
          · intro c50
            have h := h.2 c50
            exact ⟨h, K⟩
        · intro c51
          have h := h.2 c51
          exact ⟨h, K⟩
      · intro c52
        have h := h.2 c52
        exact ⟨h, K⟩
theorem kw_X9_leeTrouble {Q : Int32 → HS → Prop} {v0 : Nat} {v1 : Int32} {v2 : Int32} {v3 : Int32} {v4 : Int32} {v5 : Int32} {v6 : Int32} {S : HS} (h : P_X9_leeTrouble v0 v1 v2 v3 v4 v5 v6 Q S) : P_X9_leeTrouble v0 v1 v2 v3 v4 v5 v6 (fun r T => Q r T ∧ K7 S T) S := kw_X9_leeTrouble_0 h (k7_rf S)
set_option maxRecDepth 20000 in
set_option maxHeartbeats 1000000 in
theorem kw_X9_first_0 {Q : Int32 → HS → Prop} {v0 : Nat} {v1 : Int32} {v2 : Int32} {v3 : Int32} {v4 : Int32} {v5 : Int32} {v6 : Int32} {S0 S : HS} (h : P_X9_first_0 Q v0 v1 v2 v3 v4 v5 v6 S) (K : K7 S0 S) : P_X9_first_0 (fun r T => Q r T ∧ K7 S0 T) v0 v1 v2 v3 v4 v5 v6 S := by
  delta P_X9_first_0 at h ⊢
  obtain ⟨c1, h⟩ := h
  refine ⟨c1, ?_⟩
  have n2 := k7_nk K c1 (by decide)
  refine cm_X9_leeTrouble (kw_X9_leeTrouble h) h (fun x3 x4 p6 h g5 => ?_)
  have h := h g5
  have K := k7_tr K p6.2
  refine cm_X9_refusedBy (kw_X9_refusedBy h) h (fun x7 x8 p11 h g9 g10 => ?_)
  have h := h g9 g10
  have K := k7_tr K p11.2
  refine ⟨?_, ?_⟩
  · intro c12
    have h := h.1 c12
    obtain ⟨b13, e14, h⟩ := h
    refine ⟨b13, e14, ?_⟩
    obtain ⟨b15, e16, h⟩ := h
    refine ⟨b15, e16, ?_⟩
    obtain ⟨c17, h⟩ := h
    refine ⟨c17, ?_⟩
    have n18 := k7_nk K c17 (by decide)
    obtain ⟨b19, e20, h⟩ := h
    refine ⟨b19, e20, ?_⟩
    obtain ⟨c21, h⟩ := h
    refine ⟨c21, ?_⟩
    have n22 := k7_nk K c21 (by decide)
    obtain ⟨c23, h⟩ := h
    refine ⟨c23, ?_⟩
    obtain ⟨b24, e25, h⟩ := h
    refine ⟨b24, e25, ?_⟩
    obtain ⟨b26, e27, h⟩ := h
    refine ⟨b26, e27, ?_⟩
    obtain ⟨c28, h⟩ := h
    refine ⟨c28, ?_⟩
    have n29 := k7_nk K c28 (by decide)
    obtain ⟨b30, e31, h⟩ := h
    refine ⟨b30, e31, ?_⟩
    obtain ⟨c32, h⟩ := h
    refine ⟨c32, ?_⟩
    have n33 := k7_nk K c32 (by decide)
    obtain ⟨c34, h⟩ := h
    refine ⟨c34, ?_⟩
    obtain ⟨b35, e36, h⟩ := h
    refine ⟨b35, e36, ?_⟩
    obtain ⟨c37, h⟩ := h
    refine ⟨c37, ?_⟩
    have n38 := k7_nk K c37 (by decide)
    refine cm_X1_lay (kw_X1_lay h) h (fun x39 p41 h g40 => ?_)
    have h := h g40
    have K := k7_tr K p41.2
    obtain ⟨b42, e43, h⟩ := h
    refine ⟨b42, e43, ?_⟩
    obtain ⟨b44, e45, h⟩ := h
    refine ⟨b44, e45, ?_⟩
    obtain ⟨c46, h⟩ := h
    refine ⟨c46, ?_⟩
    have n47 := k7_nk K c46 (by decide)
    obtain ⟨b48, e49, h⟩ := h
    refine ⟨b48, e49, ?_⟩
    obtain ⟨c50, h⟩ := h
    refine ⟨c50, ?_⟩
    have n51 := k7_nk K c50 (by decide)
    obtain ⟨c52, h⟩ := h
    refine ⟨c52, ?_⟩
    obtain ⟨b53, e54, h⟩ := h
    refine ⟨b53, e54, ?_⟩
    obtain ⟨b55, e56, h⟩ := h
    refine ⟨b55, e56, ?_⟩
    obtain ⟨c57, h⟩ := h
    refine ⟨c57, ?_⟩
    have n58 := k7_nk K c57 (by decide)
    obtain ⟨b59, e60, h⟩ := h
    refine ⟨b59, e60, ?_⟩
    obtain ⟨c61, h⟩ := h
    refine ⟨c61, ?_⟩
    have n62 := k7_nk K c61 (by decide)
    obtain ⟨c63, h⟩ := h
    refine ⟨c63, ?_⟩
    obtain ⟨b64, e65, h⟩ := h
    refine ⟨b64, e65, ?_⟩
    obtain ⟨c66, h⟩ := h
    refine ⟨c66, ?_⟩
    have n67 := k7_nk K c66 (by decide)
    refine cm_X1_wetInLee (kw_X1_wetInLee h) h (fun x68 x69 p71 h g70 => ?_)
    have h := h g70
    have K := k7_tr K p71.2
    obtain ⟨b72, e73, h⟩ := h
    refine ⟨b72, e73, ?_⟩
    obtain ⟨b74, e75, h⟩ := h
    refine ⟨b74, e75, ?_⟩
    obtain ⟨c76, h⟩ := h
    refine ⟨c76, ?_⟩
    have n77 := k7_nk K c76 (by decide)
    obtain ⟨b78, e79, h⟩ := h
    refine ⟨b78, e79, ?_⟩
    obtain ⟨c80, h⟩ := h
    refine ⟨c80, ?_⟩
    have n81 := k7_nk K c80 (by decide)
    obtain ⟨c82, h⟩ := h
    refine ⟨c82, ?_⟩
    obtain ⟨b83, e84, h⟩ := h
    refine ⟨b83, e84, ?_⟩
    obtain ⟨b85, e86, h⟩ := h
    refine ⟨b85, e86, ?_⟩
    obtain ⟨c87, h⟩ := h
    refine ⟨c87, ?_⟩
    have n88 := k7_nk K c87 (by decide)
    obtain ⟨b89, e90, h⟩ := h
    refine ⟨b89, e90, ?_⟩
    obtain ⟨c91, h⟩ := h
    refine ⟨c91, ?_⟩
    have n92 := k7_nk K c91 (by decide)
    obtain ⟨c93, h⟩ := h
    refine ⟨c93, ?_⟩
    obtain ⟨b94, e95, h⟩ := h
    refine ⟨b94, e95, ?_⟩
    obtain ⟨c96, h⟩ := h
    refine ⟨c96, ?_⟩
    have n97 := k7_nk K c96 (by decide)
    refine cm_X1_wetInLee (kw_X1_wetInLee h) h (fun x98 x99 p101 h g100 => ?_)
    have h := h g100
    have K := k7_tr K p101.2
    refine ⟨?_, ?_⟩
    · intro c102
      have h := h.1 c102
      refine ⟨?_, ?_⟩
      · intro c103
        have h := h.1 c103
        exact ⟨h, K⟩
      · intro c104
        have h := h.2 c104
        exact ⟨h, K⟩
    · intro c105
      have h := h.2 c105
      exact ⟨h, K⟩
  · intro c106
    have h := h.2 c106
    exact ⟨h, K⟩
theorem kw_X9_first {Q : Int32 → HS → Prop} {v0 : Nat} {v1 : Int32} {v2 : Int32} {v3 : Int32} {v4 : Int32} {v5 : Int32} {v6 : Int32} {S : HS} (h : P_X9_first v0 v1 v2 v3 v4 v5 v6 Q S) : P_X9_first v0 v1 v2 v3 v4 v5 v6 (fun r T => Q r T ∧ K7 S T) S := kw_X9_first_0 h (k7_rf S)
set_option maxRecDepth 20000 in
set_option maxHeartbeats 1000000 in
theorem kw_X9_fit_15 {Q : Int32 → HS → Prop} {v0 : Nat} {S0 S : HS} (h : P_X9_fit_15 Q v0 S) (K : K7 S0 S) : P_X9_fit_15 (fun r T => Q r T ∧ K7 S0 T) v0 S := by
  delta P_X9_fit_15 at h ⊢
  obtain ⟨c1, h⟩ := h
  refine ⟨c1, ?_⟩
  have n2 := k7_nk K c1 (by decide)
  refine cm_X9_refuse (kw_X9_refuse h) h (fun x3 x4 p6 h g5 => ?_)
  have h := h g5
  have K := k7_tr K p6.2
  exact ⟨h, K⟩
set_option maxRecDepth 20000 in
set_option maxHeartbeats 1000000 in
theorem kw_X9_fit_0 {Q : Int32 → HS → Prop} {v0 : Nat} {v1 : Int32} {v2 : Int32} {S0 S : HS} (h : P_X9_fit_0 Q v0 v1 v2 S) (K : K7 S0 S) : P_X9_fit_0 (fun r T => Q r T ∧ K7 S0 T) v0 v1 v2 S := by
  delta P_X9_fit_0 at h ⊢
  obtain ⟨c1, h⟩ := h
  refine ⟨c1, ?_⟩
  have n2 := k7_nk K c1 (by decide)
  obtain ⟨b3, e4, h⟩ := h
  refine ⟨b3, e4, ?_⟩
  obtain ⟨c5, h⟩ := h
  refine ⟨c5, ?_⟩
  have n6 := k7_nk K c5 (by decide)
  refine cm_X8_hasSeen (kw_X8_hasSeen h) h (fun x7 x8 p11 h g9 g10 => ?_)
  have h := h g9 g10
  have K := k7_tr K p11.2
  refine ⟨?_, ?_⟩
  · intro c12
    have h := h.1 c12
    exact kw_X9_fit_15 h K
  · intro c13
    have h := h.2 c13
    refine ⟨?_, ?_⟩
    · intro c14
      have h := h.1 c14
      obtain ⟨b15, e16, h⟩ := h
      refine ⟨b15, e16, ?_⟩
      obtain ⟨b17, e18, h⟩ := h
      refine ⟨b17, e18, ?_⟩
      obtain ⟨c19, h⟩ := h
      refine ⟨c19, ?_⟩
      have n20 := k7_nk K c19 (by decide)
      refine cm_X1_findFit (kw_X1_findFit h) h (fun x21 x22 p24 h g23 => ?_)
      have h := h g23
      have K := k7_tr K p24.2
      refine ⟨?_, ?_⟩
      · intro c25
        have h := h.1 c25
        refine cm_X9_grant (kw_X9_grant h) h (fun x26 x27 p29 h g28 => ?_)
        have h := h g28
        have K := k7_tr K p29.2
        exact ⟨h, K⟩
      · intro c30
        have h := h.2 c30
        refine cm_X9_refuse (kw_X9_refuse h) h (fun x31 x32 p34 h g33 => ?_)
        have h := h g33
        have K := k7_tr K p34.2
        exact ⟨h, K⟩
    · intro c35
      have h := h.2 c35
      exact kw_X9_fit_15 h K
theorem kw_X9_fit {Q : Int32 → HS → Prop} {v0 : Nat} {v1 : Int32} {v2 : Int32} {S : HS} (h : P_X9_fit v0 v1 v2 Q S) : P_X9_fit v0 v1 v2 (fun r T => Q r T ∧ K7 S T) S := kw_X9_fit_0 h (k7_rf S)
set_option maxRecDepth 20000 in
set_option maxHeartbeats 1000000 in
theorem kw_X9_fits_0 {Q : Int32 → HS → Prop} {v0 : Nat} {v1 : Int32} {S0 S : HS} (h : P_X9_fits_0 Q v0 v1 S) (K : K7 S0 S) : P_X9_fits_0 (fun r T => Q r T ∧ K7 S0 T) v0 v1 S := by
  delta P_X9_fits_0 at h ⊢
  obtain ⟨c1, h⟩ := h
  refine ⟨c1, ?_⟩
  have n2 := k7_nk K c1 (by decide)
  obtain ⟨b3, e4, h⟩ := h
  refine ⟨b3, e4, ?_⟩
  obtain ⟨c5, h⟩ := h
  refine ⟨c5, ?_⟩
  have n6 := k7_nk K c5 (by decide)
  refine cm_X8_hasSeen (kw_X8_hasSeen h) h (fun x7 x8 p11 h g9 g10 => ?_)
  have h := h g9 g10
  have K := k7_tr K p11.2
  refine ⟨?_, ?_⟩
  · intro c12
    have h := h.1 c12
    obtain ⟨b13, e14, h⟩ := h
    refine ⟨b13, e14, ?_⟩
    obtain ⟨b15, e16, h⟩ := h
    refine ⟨b15, e16, ?_⟩
    obtain ⟨c17, h⟩ := h
    refine ⟨c17, ?_⟩
    have n18 := k7_nk K c17 (by decide)
    refine cm_X1_countFits (kw_X1_countFits h) h (fun x19 x20 p22 h g21 => ?_)
    have h := h g21
    have K := k7_tr K p22.2
    refine cm_X9_grant (kw_X9_grant h) h (fun x23 x24 p26 h g25 => ?_)
    have h := h g25
    have K := k7_tr K p26.2
    exact ⟨h, K⟩
  · intro c27
    have h := h.2 c27
    refine cm_X9_refuse (kw_X9_refuse h) h (fun x28 x29 p31 h g30 => ?_)
    have h := h g30
    have K := k7_tr K p31.2
    exact ⟨h, K⟩
theorem kw_X9_fits {Q : Int32 → HS → Prop} {v0 : Nat} {v1 : Int32} {S : HS} (h : P_X9_fits v0 v1 Q S) : P_X9_fits v0 v1 (fun r T => Q r T ∧ K7 S T) S := kw_X9_fits_0 h (k7_rf S)
set_option maxRecDepth 20000 in
set_option maxHeartbeats 1000000 in
theorem kw_X9_go_45 {Q : Int32 → HS → Prop} {v0 : Nat} {S0 S : HS} (h : P_X9_go_45 Q v0 S) (K : K7 S0 S) : P_X9_go_45 (fun r T => Q r T ∧ K7 S0 T) v0 S := by
  delta P_X9_go_45 at h ⊢
  obtain ⟨c1, h⟩ := h
  refine ⟨c1, ?_⟩
  have n2 := k7_nk K c1 (by decide)
  refine cm_X9_refuse (kw_X9_refuse h) h (fun x3 x4 p6 h g5 => ?_)
  have h := h g5
  have K := k7_tr K p6.2
  exact ⟨h, K⟩
set_option maxRecDepth 20000 in
set_option maxHeartbeats 1000000 in
theorem kw_X9_go_243 {Q : Int32 → HS → Prop} {v0 : Nat} {v2 : Int32} {v5 : Nat} {v6 : Int32} {S0 S : HS} (h : P_X9_go_243 Q v0 v2 v5 v6 S) (K : K7 S0 S) : P_X9_go_243 (fun r T => Q r T ∧ K7 S0 T) v0 v2 v5 v6 S := by
  delta P_X9_go_243 at h ⊢
  obtain ⟨c1, h⟩ := h
  refine ⟨c1, ?_⟩
  have n2 := k7_nk K c1 (by decide)
  obtain ⟨b3, e4, h⟩ := h
  refine ⟨b3, e4, ?_⟩
  obtain ⟨c5, h⟩ := h
  refine ⟨c5, ?_⟩
  have n6 := k7_nk K c5 (by decide)
  obtain ⟨b7, e8, h⟩ := h
  refine ⟨b7, e8, ?_⟩
  obtain ⟨c9, h⟩ := h
  refine ⟨c9, ?_⟩
  have n10 := k7_nk K c9 (by decide)
  refine cm_X5_endOf (kw_X5_endOf h) h (fun x11 x12 p14 h g13 => ?_)
  have h := h g13
  have K := k7_tr K p14.2
  obtain ⟨c15, h⟩ := h
  refine ⟨c15, ?_⟩
  have n16 := k7_nk K c15 (by decide)
  intro x18 e17
  have h := h x18 e17
  have K := k7_I K e17 n16
  obtain ⟨b19, e20, h⟩ := h
  refine ⟨b19, e20, ?_⟩
  obtain ⟨c21, h⟩ := h
  refine ⟨c21, ?_⟩
  have n22 := k7_nk K c21 (by decide)
  obtain ⟨b23, e24, h⟩ := h
  refine ⟨b23, e24, ?_⟩
  obtain ⟨c25, h⟩ := h
  refine ⟨c25, ?_⟩
  have n26 := k7_nk K c25 (by decide)
  intro x28 e27
  have h := h x28 e27
  have K := k7_I K e27 n26
  refine cm_X9_grant (kw_X9_grant h) h (fun x29 x30 p32 h g31 => ?_)
  have h := h g31
  have K := k7_tr K p32.2
  exact ⟨h, K⟩
set_option maxRecDepth 20000 in
set_option maxHeartbeats 1000000 in
theorem kw_X9_go_0 {Q : Int32 → HS → Prop} {v0 : Nat} {v1 : Int32} {v2 : Int32} {v3 : Int32} {S0 S : HS} (h : P_X9_go_0 Q v0 v1 v2 v3 S) (K : K7 S0 S) : P_X9_go_0 (fun r T => Q r T ∧ K7 S0 T) v0 v1 v2 v3 S := by
  delta P_X9_go_0 at h ⊢
  obtain ⟨c1, h⟩ := h
  refine ⟨c1, ?_⟩
  have n2 := k7_nk K c1 (by decide)
  obtain ⟨b3, e4, h⟩ := h
  refine ⟨b3, e4, ?_⟩
  obtain ⟨c5, h⟩ := h
  refine ⟨c5, ?_⟩
  have n6 := k7_nk K c5 (by decide)
  refine cm_X0_isOn (kw_X0_isOn h) h (fun x7 x8 p11 h g9 g10 => ?_)
  have h := h g9 g10
  have K := k7_tr K p11.2
  refine ⟨?_, ?_⟩
  · intro c12
    have h := h.1 c12
    exact kw_X9_go_45 h K
  · intro c13
    have h := h.2 c13
    obtain ⟨b14, e15, h⟩ := h
    refine ⟨b14, e15, ?_⟩
    obtain ⟨b16, e17, h⟩ := h
    refine ⟨b16, e17, ?_⟩
    obtain ⟨c18, h⟩ := h
    refine ⟨c18, ?_⟩
    have n19 := k7_nk K c18 (by decide)
    intro x21 e20
    have h := h x21 e20
    obtain ⟨c22, h⟩ := h
    refine ⟨c22, ?_⟩
    have n23 := k7_nk K c22 (by decide)
    refine cm_X8_hasWalker (kw_X8_hasWalker h) h (fun x24 x25 p28 h g26 g27 => ?_)
    have h := h g26 g27
    have K := k7_tr K p28.2
    refine ⟨?_, ?_⟩
    · intro c29
      have h := h.1 c29
      exact kw_X9_go_45 h K
    · intro c30
      have h := h.2 c30
      obtain ⟨b31, e32, h⟩ := h
      refine ⟨b31, e32, ?_⟩
      obtain ⟨c33, h⟩ := h
      refine ⟨c33, ?_⟩
      have n34 := k7_nk K c33 (by decide)
      refine cm_X8_hasRoad (kw_X8_hasRoad h) h (fun x35 x36 p39 h g37 g38 => ?_)
      have h := h g37 g38
      have K := k7_tr K p39.2
      refine ⟨?_, ?_⟩
      · intro c40
        have h := h.1 c40
        exact kw_X9_go_45 h K
      · intro c41
        have h := h.2 c41
        refine cm_X9_isWay (kw_X9_isWay h) h (fun x42 x43 p46 h g44 g45 => ?_)
        have h := h g44 g45
        have K := k7_tr K p46.2
        refine ⟨?_, ?_⟩
        · intro c47
          have h := h.1 c47
          obtain ⟨b48, e49, h⟩ := h
          refine ⟨b48, e49, ?_⟩
          obtain ⟨c50, h⟩ := h
          refine ⟨c50, ?_⟩
          have n51 := k7_nk K c50 (by decide)
          obtain ⟨b52, e53, h⟩ := h
          refine ⟨b52, e53, ?_⟩
          obtain ⟨b54, e55, h⟩ := h
          refine ⟨b54, e55, ?_⟩
          obtain ⟨c56, h⟩ := h
          refine ⟨c56, ?_⟩
          have n57 := k7_nk K c56 (by decide)
          intro x59 e58
          have h := h x59 e58
          obtain ⟨c60, h⟩ := h
          refine ⟨c60, ?_⟩
          have n61 := k7_nk K c60 (by decide)
          obtain ⟨c62, h⟩ := h
          refine ⟨c62, ?_⟩
          obtain ⟨b63, e64, h⟩ := h
          refine ⟨b63, e64, ?_⟩
          obtain ⟨b65, e66, h⟩ := h
          refine ⟨b65, e66, ?_⟩
          obtain ⟨c67, h⟩ := h
          refine ⟨c67, ?_⟩
          have n68 := k7_nk K c67 (by decide)
          obtain ⟨b69, e70, h⟩ := h
          refine ⟨b69, e70, ?_⟩
          obtain ⟨c71, h⟩ := h
          refine ⟨c71, ?_⟩
          have n72 := k7_nk K c71 (by decide)
          obtain ⟨c73, h⟩ := h
          refine ⟨c73, ?_⟩
          obtain ⟨b74, e75, h⟩ := h
          refine ⟨b74, e75, ?_⟩
          obtain ⟨c76, h⟩ := h
          refine ⟨c76, ?_⟩
          have n77 := k7_nk K c76 (by decide)
          refine cm_X6_canGo (kw_X6_canGo h) h (fun x78 x79 p82 h g80 g81 => ?_)
          have h := h g80 g81
          have K := k7_tr K p82.2
          refine ⟨?_, ?_⟩
          · intro c83
            have h := h.1 c83
            obtain ⟨c84, h⟩ := h
            refine ⟨c84, ?_⟩
            have n85 := k7_nk K c84 (by decide)
            refine cm_X5_startOf (kw_X5_startOf h) h (fun x86 x87 p89 h g88 => ?_)
            have h := h g88
            have K := k7_tr K p89.2
            obtain ⟨b90, e91, h⟩ := h
            refine ⟨b90, e91, ?_⟩
            obtain ⟨c92, h⟩ := h
            refine ⟨c92, ?_⟩
            have n93 := k7_nk K c92 (by decide)
            obtain ⟨b94, e95, h⟩ := h
            refine ⟨b94, e95, ?_⟩
            obtain ⟨c96, h⟩ := h
            refine ⟨c96, ?_⟩
            have n97 := k7_nk K c96 (by decide)
            intro x99 e98
            have h := h x99 e98
            refine ⟨?_, ?_⟩
            · intro c100
              have h := h.1 c100
              obtain ⟨b101, e102, h⟩ := h
              refine ⟨b101, e102, ?_⟩
              obtain ⟨c103, h⟩ := h
              refine ⟨c103, ?_⟩
              have n104 := k7_nk K c103 (by decide)
              obtain ⟨b105, e106, h⟩ := h
              refine ⟨b105, e106, ?_⟩
              obtain ⟨c107, h⟩ := h
              refine ⟨c107, ?_⟩
              have n108 := k7_nk K c107 (by decide)
              intro x110 e109
              have h := h x110 e109
              refine cm_X5_minutesAt (kw_X5_minutesAt h) h (fun x111 x112 p114 h g113 => ?_)
              have h := h g113
              have K := k7_tr K p114.2
              intro x116 e115
              have h := h x116 e115
              refine ⟨?_, ?_⟩
              · intro c117
                have h := h.1 c117
                obtain ⟨b118, e119, h⟩ := h
                refine ⟨b118, e119, ?_⟩
                obtain ⟨c120, h⟩ := h
                refine ⟨c120, ?_⟩
                have n121 := k7_nk K c120 (by decide)
                refine cm_X0_keepForUndo (kw_X0_keepForUndo h) h (fun x122 p124 h g123 => ?_)
                have h := h g123
                have K := k7_tr K p124.2
                obtain ⟨b125, e126, h⟩ := h
                refine ⟨b125, e126, ?_⟩
                obtain ⟨b127, e128, h⟩ := h
                refine ⟨b127, e128, ?_⟩
                obtain ⟨c129, h⟩ := h
                refine ⟨c129, ?_⟩
                have n130 := k7_nk K c129 (by decide)
                obtain ⟨b131, e132, h⟩ := h
                refine ⟨b131, e132, ?_⟩
                obtain ⟨c133, h⟩ := h
                refine ⟨c133, ?_⟩
                have n134 := k7_nk K c133 (by decide)
                intro x136 e135
                have h := h x136 e135
                obtain ⟨c137, h⟩ := h
                refine ⟨c137, ?_⟩
                have n138 := k7_nk K c137 (by decide)
                refine cm_X8_hourOf (kw_X8_hourOf h) h (fun x139 x140 p142 h g141 => ?_)
                have h := h g141
                have K := k7_tr K p142.2
                obtain ⟨b143, e144, h⟩ := h
                refine ⟨b143, e144, ?_⟩
                obtain ⟨c145, h⟩ := h
                refine ⟨c145, ?_⟩
                have n146 := k7_nk K c145 (by decide)
                refine cm_X8_hasHour (kw_X8_hasHour h) h (fun x147 x148 p151 h g149 g150 => ?_)
                have h := h g149 g150
                have K := k7_tr K p151.2
                refine ⟨?_, ?_⟩
                · intro c152
                  have h := h.1 c152
                  exact kw_X9_go_243 h K
                · intro c153
                  have h := h.2 c153
                  obtain ⟨b154, e155, h⟩ := h
                  refine ⟨b154, e155, ?_⟩
                  obtain ⟨c156, h⟩ := h
                  refine ⟨c156, ?_⟩
                  have n157 := k7_nk K c156 (by decide)
                  refine cm_X0_rainsIn (kw_X0_rainsIn h) h (fun x158 x159 p162 h g160 g161 => ?_)
                  have h := h g160 g161
                  have K := k7_tr K p162.2
                  refine ⟨?_, ?_⟩
                  · intro c163
                    have h := h.1 c163
                    exact kw_X9_go_243 h K
                  · intro c164
                    have h := h.2 c164
                    obtain ⟨b165, e166, h⟩ := h
                    refine ⟨b165, e166, ?_⟩
                    obtain ⟨b167, e168, h⟩ := h
                    refine ⟨b167, e168, ?_⟩
                    obtain ⟨c169, h⟩ := h
                    refine ⟨c169, ?_⟩
                    have n170 := k7_nk K c169 (by decide)
                    obtain ⟨b171, e172, h⟩ := h
                    refine ⟨b171, e172, ?_⟩
                    obtain ⟨c173, h⟩ := h
                    refine ⟨c173, ?_⟩
                    have n174 := k7_nk K c173 (by decide)
                    obtain ⟨c175, h⟩ := h
                    refine ⟨c175, ?_⟩
                    obtain ⟨b176, e177, h⟩ := h
                    refine ⟨b176, e177, ?_⟩
                    obtain ⟨c178, h⟩ := h
                    refine ⟨c178, ?_⟩
                    have n179 := k7_nk K c178 (by decide)
                    refine cm_X1_wetOf (kw_X1_wetOf h) h (fun x180 x181 p183 h g182 => ?_)
                    have h := h g182
                    have K := k7_tr K p183.2
                    obtain ⟨b184, e185, h⟩ := h
                    refine ⟨b184, e185, ?_⟩
                    obtain ⟨c186, h⟩ := h
                    refine ⟨c186, ?_⟩
                    have n187 := k7_nk K c186 (by decide)
                    obtain ⟨b188, e189, h⟩ := h
                    refine ⟨b188, e189, ?_⟩
                    obtain ⟨b190, e191, h⟩ := h
                    refine ⟨b190, e191, ?_⟩
                    obtain ⟨c192, h⟩ := h
                    refine ⟨c192, ?_⟩
                    have n193 := k7_nk K c192 (by decide)
                    obtain ⟨b194, e195, h⟩ := h
                    refine ⟨b194, e195, ?_⟩
                    obtain ⟨c196, h⟩ := h
                    refine ⟨c196, ?_⟩
                    have n197 := k7_nk K c196 (by decide)
                    refine cm_X2_addFaces (kw_X2_addFaces h) h (fun x198 p200 h g199 => ?_)
                    have h := h g199
                    have K := k7_tr K p200.2
                    exact kw_X9_go_243 h K
              · intro c201
                have h := h.2 c201
                refine cm_X9_refuse (kw_X9_refuse h) h (fun x202 x203 p205 h g204 => ?_)
                have h := h g204
                have K := k7_tr K p205.2
                exact ⟨h, K⟩
            · intro c206
              have h := h.2 c206
              refine cm_X9_refuse (kw_X9_refuse h) h (fun x207 x208 p210 h g209 => ?_)
              have h := h g209
              have K := k7_tr K p210.2
              exact ⟨h, K⟩
          · intro c211
            have h := h.2 c211
            refine cm_X9_refuse (kw_X9_refuse h) h (fun x212 x213 p215 h g214 => ?_)
            have h := h g214
            have K := k7_tr K p215.2
            exact ⟨h, K⟩
        · intro c216
          have h := h.2 c216
          exact kw_X9_go_45 h K
theorem kw_X9_go {Q : Int32 → HS → Prop} {v0 : Nat} {v1 : Int32} {v2 : Int32} {v3 : Int32} {S : HS} (h : P_X9_go v0 v1 v2 v3 Q S) : P_X9_go v0 v1 v2 v3 (fun r T => Q r T ∧ K7 S T) S := kw_X9_go_0 h (k7_rf S)
set_option maxRecDepth 20000 in
set_option maxHeartbeats 1000000 in
theorem kw_X9_got_17 {Q : Int64 → HS → Prop} {v0 : Nat} {S0 S : HS} (h : P_X9_got_17 Q v0 S) (K : K7 S0 S) : P_X9_got_17 (fun r T => Q r T ∧ K7 S0 T) v0 S := by
  delta P_X9_got_17 at h ⊢
  obtain ⟨c1, h⟩ := h
  refine ⟨c1, ?_⟩
  have n2 := k7_nk K c1 (by decide)
  refine cm_X9_refuse (kw_X9_refuse h) h (fun x3 x4 p6 h g5 => ?_)
  have h := h g5
  have K := k7_tr K p6.2
  exact ⟨h, K⟩
set_option maxRecDepth 20000 in
set_option maxHeartbeats 1000000 in
theorem kw_X9_got_0 {Q : Int64 → HS → Prop} {v0 : Nat} {v1 : Int32} {v2 : Int32} {S0 S : HS} (h : P_X9_got_0 Q v0 v1 v2 S) (K : K7 S0 S) : P_X9_got_0 (fun r T => Q r T ∧ K7 S0 T) v0 v1 v2 S := by
  delta P_X9_got_0 at h ⊢
  obtain ⟨c1, h⟩ := h
  refine ⟨c1, ?_⟩
  have n2 := k7_nk K c1 (by decide)
  obtain ⟨b3, e4, h⟩ := h
  refine ⟨b3, e4, ?_⟩
  obtain ⟨c5, h⟩ := h
  refine ⟨c5, ?_⟩
  have n6 := k7_nk K c5 (by decide)
  refine cm_X0_isOn (kw_X0_isOn h) h (fun x7 x8 p11 h g9 g10 => ?_)
  have h := h g9 g10
  have K := k7_tr K p11.2
  refine ⟨?_, ?_⟩
  · intro c12
    have h := h.1 c12
    exact kw_X9_got_17 h K
  · intro c13
    have h := h.2 c13
    refine cm_X9_isFace (kw_X9_isFace h) h (fun x14 x15 p18 h g16 g17 => ?_)
    have h := h g16 g17
    have K := k7_tr K p18.2
    refine ⟨?_, ?_⟩
    · intro c19
      have h := h.1 c19
      intro x21 e20
      have h := h x21 e20
      have K := k7_I K e20 n2
      obtain ⟨b22, e23, h⟩ := h
      refine ⟨b22, e23, ?_⟩
      obtain ⟨c24, h⟩ := h
      refine ⟨c24, ?_⟩
      have n25 := k7_nk K c24 (by decide)
      obtain ⟨b26, e27, h⟩ := h
      refine ⟨b26, e27, ?_⟩
      obtain ⟨c28, h⟩ := h
      refine ⟨c28, ?_⟩
      have n29 := k7_nk K c28 (by decide)
      obtain ⟨b30, e31, h⟩ := h
      refine ⟨b30, e31, ?_⟩
      obtain ⟨c32, h⟩ := h
      refine ⟨c32, ?_⟩
      have n33 := k7_nk K c32 (by decide)
      obtain ⟨c34, h⟩ := h
      refine ⟨c34, ?_⟩
      intro x36 e35
      have h := h x36 e35
      refine cm_X9_fraction (kw_X9_fraction h) h (fun x37 x38 p40 h g39 => ?_)
      have h := h g39
      have K := k7_tr K p40.2
      exact ⟨h, K⟩
    · intro c41
      have h := h.2 c41
      exact kw_X9_got_17 h K
theorem kw_X9_got {Q : Int64 → HS → Prop} {v0 : Nat} {v1 : Int32} {v2 : Int32} {S : HS} (h : P_X9_got v0 v1 v2 Q S) : P_X9_got v0 v1 v2 (fun r T => Q r T ∧ K7 S T) S := kw_X9_got_0 h (k7_rf S)
set_option maxRecDepth 20000 in
set_option maxHeartbeats 1000000 in
theorem kw_X9_held_0 {Q : Int32 → HS → Prop} {v0 : Nat} {v1 : Int32} {v2 : Int32} {v3 : Int32} {v4 : Int32} {v5 : Int32} {S0 S : HS} (h : P_X9_held_0 Q v0 v1 v2 v3 v4 v5 S) (K : K7 S0 S) : P_X9_held_0 (fun r T => Q r T ∧ K7 S0 T) v0 v1 v2 v3 v4 v5 S := by
  delta P_X9_held_0 at h ⊢
  obtain ⟨c1, h⟩ := h
  refine ⟨c1, ?_⟩
  have n2 := k7_nk K c1 (by decide)
  refine cm_X9_legTrouble (kw_X9_legTrouble h) h (fun x3 x4 p6 h g5 => ?_)
  have h := h g5
  have K := k7_tr K p6.2
  refine cm_X9_refusedBy (kw_X9_refusedBy h) h (fun x7 x8 p11 h g9 g10 => ?_)
  have h := h g9 g10
  have K := k7_tr K p11.2
  refine ⟨?_, ?_⟩
  · intro c12
    have h := h.1 c12
    obtain ⟨b13, e14, h⟩ := h
    refine ⟨b13, e14, ?_⟩
    obtain ⟨c15, h⟩ := h
    refine ⟨c15, ?_⟩
    have n16 := k7_nk K c15 (by decide)
    obtain ⟨b17, e18, h⟩ := h
    refine ⟨b17, e18, ?_⟩
    obtain ⟨c19, h⟩ := h
    refine ⟨c19, ?_⟩
    have n20 := k7_nk K c19 (by decide)
    obtain ⟨c21, h⟩ := h
    refine ⟨c21, ?_⟩
    obtain ⟨b22, e23, h⟩ := h
    refine ⟨b22, e23, ?_⟩
    obtain ⟨c24, h⟩ := h
    refine ⟨c24, ?_⟩
    have n25 := k7_nk K c24 (by decide)
    intro x27 e26
    have h := h x27 e26
    refine ⟨?_, ?_⟩
    · intro c28
      have h := h.1 c28
      obtain ⟨b29, e30, h⟩ := h
      refine ⟨b29, e30, ?_⟩
      obtain ⟨b31, e32, h⟩ := h
      refine ⟨b31, e32, ?_⟩
      obtain ⟨c33, h⟩ := h
      refine ⟨c33, ?_⟩
      have n34 := k7_nk K c33 (by decide)
      obtain ⟨b35, e36, h⟩ := h
      refine ⟨b35, e36, ?_⟩
      obtain ⟨c37, h⟩ := h
      refine ⟨c37, ?_⟩
      have n38 := k7_nk K c37 (by decide)
      obtain ⟨c39, h⟩ := h
      refine ⟨c39, ?_⟩
      obtain ⟨b40, e41, h⟩ := h
      refine ⟨b40, e41, ?_⟩
      obtain ⟨b42, e43, h⟩ := h
      refine ⟨b42, e43, ?_⟩
      obtain ⟨c44, h⟩ := h
      refine ⟨c44, ?_⟩
      have n45 := k7_nk K c44 (by decide)
      obtain ⟨b46, e47, h⟩ := h
      refine ⟨b46, e47, ?_⟩
      obtain ⟨c48, h⟩ := h
      refine ⟨c48, ?_⟩
      have n49 := k7_nk K c48 (by decide)
      obtain ⟨c50, h⟩ := h
      refine ⟨c50, ?_⟩
      obtain ⟨b51, e52, h⟩ := h
      refine ⟨b51, e52, ?_⟩
      obtain ⟨c53, h⟩ := h
      refine ⟨c53, ?_⟩
      have n54 := k7_nk K c53 (by decide)
      refine cm_X1_lay (kw_X1_lay h) h (fun x55 p57 h g56 => ?_)
      have h := h g56
      have K := k7_tr K p57.2
      obtain ⟨b58, e59, h⟩ := h
      refine ⟨b58, e59, ?_⟩
      obtain ⟨b60, e61, h⟩ := h
      refine ⟨b60, e61, ?_⟩
      obtain ⟨c62, h⟩ := h
      refine ⟨c62, ?_⟩
      have n63 := k7_nk K c62 (by decide)
      obtain ⟨b64, e65, h⟩ := h
      refine ⟨b64, e65, ?_⟩
      obtain ⟨c66, h⟩ := h
      refine ⟨c66, ?_⟩
      have n67 := k7_nk K c66 (by decide)
      obtain ⟨c68, h⟩ := h
      refine ⟨c68, ?_⟩
      obtain ⟨b69, e70, h⟩ := h
      refine ⟨b69, e70, ?_⟩
      obtain ⟨c71, h⟩ := h
      refine ⟨c71, ?_⟩
      have n72 := k7_nk K c71 (by decide)
      refine cm_X1_isForward (kw_X1_isForward h) h (fun x73 x74 p77 h g75 g76 => ?_)
      have h := h g75 g76
      have K := k7_tr K p77.2
      refine ⟨?_, ?_⟩
      · intro c78
        have h := h.1 c78
        exact ⟨h, K⟩
      · intro c79
        have h := h.2 c79
        exact ⟨h, K⟩
    · intro c80
      have h := h.2 c80
      exact ⟨h, K⟩
  · intro c81
    have h := h.2 c81
    exact ⟨h, K⟩
theorem kw_X9_held {Q : Int32 → HS → Prop} {v0 : Nat} {v1 : Int32} {v2 : Int32} {v3 : Int32} {v4 : Int32} {v5 : Int32} {S : HS} (h : P_X9_held v0 v1 v2 v3 v4 v5 Q S) : P_X9_held v0 v1 v2 v3 v4 v5 (fun r T => Q r T ∧ K7 S T) S := kw_X9_held_0 h (k7_rf S)
set_option maxRecDepth 20000 in
set_option maxHeartbeats 1000000 in
theorem kw_X9_isTill_0 {Q : Int32 → HS → Prop} {v0 : Int32} {S0 S : HS} (h : P_X9_isTill_0 Q v0 S) (K : K7 S0 S) : P_X9_isTill_0 (fun r T => Q r T ∧ K7 S0 T) v0 S := by
  delta P_X9_isTill_0 at h ⊢
  refine ⟨?_, ?_⟩
  · intro c1
    have h := h.1 c1
    exact ⟨h, K⟩
  · intro c2
    have h := h.2 c2
    refine ⟨?_, ?_⟩
    · intro c3
      have h := h.1 c3
      exact ⟨h, K⟩
    · intro c4
      have h := h.2 c4
      exact ⟨h, K⟩
theorem kw_X9_isTill {Q : Int32 → HS → Prop} {v0 : Int32} {S : HS} (h : P_X9_isTill v0 Q S) : P_X9_isTill v0 (fun r T => Q r T ∧ K7 S T) S := kw_X9_isTill_0 h (k7_rf S)
set_option maxRecDepth 20000 in
set_option maxHeartbeats 1000000 in
theorem kw_X9_placesTrouble_38 {Q : Int32 → HS → Prop} {s0 : Int32} {S0 S : HS} (h : P_X9_placesTrouble_38 Q s0 S) (K : K7 S0 S) : P_X9_placesTrouble_38 (fun r T => Q r T ∧ K7 S0 T) s0 S := by
  delta P_X9_placesTrouble_38 at h ⊢
  refine ⟨?_, ?_⟩
  · intro c1
    have h := h.1 c1
    exact ⟨h, K⟩
  · intro c2
    have h := h.2 c2
    exact ⟨h, K⟩
set_option maxRecDepth 20000 in
set_option maxHeartbeats 1000000 in
theorem kw_X9_placesTrouble_37 {Q : Int32 → HS → Prop} {S0 S : HS} (h : P_X9_placesTrouble_37 Q S) (K : K7 S0 S) : P_X9_placesTrouble_37 (fun r T => Q r T ∧ K7 S0 T) S := by
  delta P_X9_placesTrouble_37 at h ⊢
  exact kw_X9_placesTrouble_38 h K
set_option maxRecDepth 20000 in
set_option maxHeartbeats 1000000 in
theorem kw_X9_placesTrouble_0 {Q : Int32 → HS → Prop} {v0 : Nat} {v1 : Int32} {v2 : Int32} {v3 : Int32} {S0 S : HS} (h : P_X9_placesTrouble_0 Q v0 v1 v2 v3 S) (K : K7 S0 S) : P_X9_placesTrouble_0 (fun r T => Q r T ∧ K7 S0 T) v0 v1 v2 v3 S := by
  delta P_X9_placesTrouble_0 at h ⊢
  obtain ⟨c1, h⟩ := h
  refine ⟨c1, ?_⟩
  have n2 := k7_nk K c1 (by decide)
  obtain ⟨b3, e4, h⟩ := h
  refine ⟨b3, e4, ?_⟩
  obtain ⟨c5, h⟩ := h
  refine ⟨c5, ?_⟩
  have n6 := k7_nk K c5 (by decide)
  refine cm_X8_hasWalker (kw_X8_hasWalker h) h (fun x7 x8 p11 h g9 g10 => ?_)
  have h := h g9 g10
  have K := k7_tr K p11.2
  refine ⟨?_, ?_⟩
  · intro c12
    have h := h.1 c12
    exact kw_X9_placesTrouble_37 h K
  · intro c13
    have h := h.2 c13
    obtain ⟨b14, e15, h⟩ := h
    refine ⟨b14, e15, ?_⟩
    obtain ⟨c16, h⟩ := h
    refine ⟨c16, ?_⟩
    have n17 := k7_nk K c16 (by decide)
    refine cm_X8_hasPlace (kw_X8_hasPlace h) h (fun x18 x19 p22 h g20 g21 => ?_)
    have h := h g20 g21
    have K := k7_tr K p22.2
    refine ⟨?_, ?_⟩
    · intro c23
      have h := h.1 c23
      exact kw_X9_placesTrouble_37 h K
    · intro c24
      have h := h.2 c24
      obtain ⟨b25, e26, h⟩ := h
      refine ⟨b25, e26, ?_⟩
      obtain ⟨c27, h⟩ := h
      refine ⟨c27, ?_⟩
      have n28 := k7_nk K c27 (by decide)
      refine cm_X8_hasPlace (kw_X8_hasPlace h) h (fun x29 x30 p33 h g31 g32 => ?_)
      have h := h g31 g32
      have K := k7_tr K p33.2
      refine ⟨?_, ?_⟩
      · intro c34
        have h := h.1 c34
        exact kw_X9_placesTrouble_37 h K
      · intro c35
        have h := h.2 c35
        exact kw_X9_placesTrouble_38 h K
theorem kw_X9_placesTrouble {Q : Int32 → HS → Prop} {v0 : Nat} {v1 : Int32} {v2 : Int32} {v3 : Int32} {S : HS} (h : P_X9_placesTrouble v0 v1 v2 v3 Q S) : P_X9_placesTrouble v0 v1 v2 v3 (fun r T => Q r T ∧ K7 S T) S := kw_X9_placesTrouble_0 h (k7_rf S)
set_option maxRecDepth 20000 in
set_option maxHeartbeats 1000000 in
theorem kw_X9_wayTrouble_0 {Q : Int32 → HS → Prop} {v0 : Nat} {v1 : Int32} {v2 : Int32} {v3 : Int32} {v4 : Int32} {v5 : Int32} {S0 S : HS} (h : P_X9_wayTrouble_0 Q v0 v1 v2 v3 v4 v5 S) (K : K7 S0 S) : P_X9_wayTrouble_0 (fun r T => Q r T ∧ K7 S0 T) v0 v1 v2 v3 v4 v5 S := by
  delta P_X9_wayTrouble_0 at h ⊢
  obtain ⟨c1, h⟩ := h
  refine ⟨c1, ?_⟩
  have n2 := k7_nk K c1 (by decide)
  refine cm_X9_placesTrouble (kw_X9_placesTrouble h) h (fun x3 x4 p6 h g5 => ?_)
  have h := h g5
  have K := k7_tr K p6.2
  refine ⟨?_, ?_⟩
  · intro c7
    have h := h.1 c7
    refine cm_X9_isTill (kw_X9_isTill h) h (fun x8 x9 p12 h g10 g11 => ?_)
    have h := h g10 g11
    have K := k7_tr K p12.2
    refine ⟨?_, ?_⟩
    · intro c13
      have h := h.1 c13
      exact ⟨h, K⟩
    · intro c14
      have h := h.2 c14
      refine ⟨?_, ?_⟩
      · intro c15
        have h := h.1 c15
        exact ⟨h, K⟩
      · intro c16
        have h := h.2 c16
        refine ⟨?_, ?_⟩
        · intro c17
          have h := h.1 c17
          obtain ⟨b18, e19, h⟩ := h
          refine ⟨b18, e19, ?_⟩
          obtain ⟨b20, e21, h⟩ := h
          refine ⟨b20, e21, ?_⟩
          obtain ⟨b22, e23, h⟩ := h
          refine ⟨b22, e23, ?_⟩
          obtain ⟨c24, h⟩ := h
          refine ⟨c24, ?_⟩
          have n25 := k7_nk K c24 (by decide)
          have o26 := c24
          refine cm_X7_reckon (kw_X7_reckon h) h (fun x27 p29 h g28 => ?_)
          have h := h g28
          have K := k7_tr K p29.2
          have o26 := gr_ob p29.2.1 o26
          obtain ⟨b30, e31, h⟩ := h
          refine ⟨b30, e31, ?_⟩
          obtain ⟨c32, h⟩ := h
          refine ⟨c32, ?_⟩
          have n33 := k7_nk K c32 (by decide)
          have o34 := c32
          refine cm_X7_isOpen (kw_X7_isOpen h) h (fun x35 x36 p39 h g37 g38 => ?_)
          have h := h g37 g38
          have K := k7_tr K p39.2
          have o26 := gr_ob p39.2.1 o26
          have o34 := gr_ob p39.2.1 o34
          refine ⟨?_, ?_⟩
          · intro c40
            have h := h.1 c40
            exact ⟨h, K⟩
          · intro c41
            have h := h.2 c41
            exact ⟨h, K⟩
        · intro c42
          have h := h.2 c42
          exact ⟨h, K⟩
  · intro c43
    have h := h.2 c43
    exact ⟨h, K⟩
theorem kw_X9_wayTrouble {Q : Int32 → HS → Prop} {v0 : Nat} {v1 : Int32} {v2 : Int32} {v3 : Int32} {v4 : Int32} {v5 : Int32} {S : HS} (h : P_X9_wayTrouble v0 v1 v2 v3 v4 v5 Q S) : P_X9_wayTrouble v0 v1 v2 v3 v4 v5 (fun r T => Q r T ∧ K7 S T) S := kw_X9_wayTrouble_0 h (k7_rf S)
set_option maxRecDepth 20000 in
set_option maxHeartbeats 1000000 in
theorem kw_X9_least_0 {Q : Int64 → HS → Prop} {v0 : Nat} {v1 : Int32} {v2 : Int32} {v3 : Int32} {v4 : Int32} {v5 : Int32} {v6 : Int32} {S0 S : HS} (h : P_X9_least_0 Q v0 v1 v2 v3 v4 v5 v6 S) (K : K7 S0 S) : P_X9_least_0 (fun r T => Q r T ∧ K7 S0 T) v0 v1 v2 v3 v4 v5 v6 S := by
  delta P_X9_least_0 at h ⊢
  obtain ⟨c1, h⟩ := h
  refine ⟨c1, ?_⟩
  have n2 := k7_nk K c1 (by decide)
  refine cm_X9_wayTrouble (kw_X9_wayTrouble h) h (fun x3 x4 p6 h g5 => ?_)
  have h := h g5
  have K := k7_tr K p6.2
  refine cm_X9_refusedBy (kw_X9_refusedBy h) h (fun x7 x8 p11 h g9 g10 => ?_)
  have h := h g9 g10
  have K := k7_tr K p11.2
  refine ⟨?_, ?_⟩
  · intro c12
    have h := h.1 c12
    obtain ⟨b13, e14, h⟩ := h
    refine ⟨b13, e14, ?_⟩
    obtain ⟨c15, h⟩ := h
    refine ⟨c15, ?_⟩
    have n16 := k7_nk K c15 (by decide)
    have o17 := c15
    refine cm_X7_meanFrom (kw_X7_meanFrom h) h (fun x18 x19 p21 h g20 => ?_)
    have h := h g20
    have K := k7_tr K p21.2
    have o17 := gr_ob p21.2.1 o17
    refine cm_X9_fraction (kw_X9_fraction h) h (fun x22 x23 p25 h g24 => ?_)
    have h := h g24
    have K := k7_tr K p25.2
    have o17 := gr_ob p25.2.1 o17
    exact ⟨h, K⟩
  · intro c26
    have h := h.2 c26
    exact ⟨h, K⟩
theorem kw_X9_least {Q : Int64 → HS → Prop} {v0 : Nat} {v1 : Int32} {v2 : Int32} {v3 : Int32} {v4 : Int32} {v5 : Int32} {v6 : Int32} {S : HS} (h : P_X9_least v0 v1 v2 v3 v4 v5 v6 Q S) : P_X9_least v0 v1 v2 v3 v4 v5 v6 (fun r T => Q r T ∧ K7 S T) S := kw_X9_least_0 h (k7_rf S)
set_option maxRecDepth 20000 in
set_option maxHeartbeats 1000000 in
theorem kw_X9_lee_0 {Q : Int64 → HS → Prop} {v0 : Nat} {v1 : Int32} {v2 : Int32} {v3 : Int32} {v4 : Int32} {v5 : Int32} {v6 : Int32} {v7 : Int32} {S0 S : HS} (h : P_X9_lee_0 Q v0 v1 v2 v3 v4 v5 v6 v7 S) (K : K7 S0 S) : P_X9_lee_0 (fun r T => Q r T ∧ K7 S0 T) v0 v1 v2 v3 v4 v5 v6 v7 S := by
  delta P_X9_lee_0 at h ⊢
  obtain ⟨c1, h⟩ := h
  refine ⟨c1, ?_⟩
  have n2 := k7_nk K c1 (by decide)
  refine cm_X9_leeTrouble (kw_X9_leeTrouble h) h (fun x3 x4 p6 h g5 => ?_)
  have h := h g5
  have K := k7_tr K p6.2
  refine cm_X9_refusedBy (kw_X9_refusedBy h) h (fun x7 x8 p11 h g9 g10 => ?_)
  have h := h g9 g10
  have K := k7_tr K p11.2
  refine ⟨?_, ?_⟩
  · intro c12
    have h := h.1 c12
    obtain ⟨b13, e14, h⟩ := h
    refine ⟨b13, e14, ?_⟩
    obtain ⟨b15, e16, h⟩ := h
    refine ⟨b15, e16, ?_⟩
    obtain ⟨c17, h⟩ := h
    refine ⟨c17, ?_⟩
    have n18 := k7_nk K c17 (by decide)
    obtain ⟨b19, e20, h⟩ := h
    refine ⟨b19, e20, ?_⟩
    obtain ⟨c21, h⟩ := h
    refine ⟨c21, ?_⟩
    have n22 := k7_nk K c21 (by decide)
    obtain ⟨c23, h⟩ := h
    refine ⟨c23, ?_⟩
    obtain ⟨b24, e25, h⟩ := h
    refine ⟨b24, e25, ?_⟩
    obtain ⟨b26, e27, h⟩ := h
    refine ⟨b26, e27, ?_⟩
    obtain ⟨c28, h⟩ := h
    refine ⟨c28, ?_⟩
    have n29 := k7_nk K c28 (by decide)
    obtain ⟨b30, e31, h⟩ := h
    refine ⟨b30, e31, ?_⟩
    obtain ⟨c32, h⟩ := h
    refine ⟨c32, ?_⟩
    have n33 := k7_nk K c32 (by decide)
    obtain ⟨c34, h⟩ := h
    refine ⟨c34, ?_⟩
    obtain ⟨b35, e36, h⟩ := h
    refine ⟨b35, e36, ?_⟩
    obtain ⟨c37, h⟩ := h
    refine ⟨c37, ?_⟩
    have n38 := k7_nk K c37 (by decide)
    refine cm_X1_lay (kw_X1_lay h) h (fun x39 p41 h g40 => ?_)
    have h := h g40
    have K := k7_tr K p41.2
    obtain ⟨b42, e43, h⟩ := h
    refine ⟨b42, e43, ?_⟩
    obtain ⟨b44, e45, h⟩ := h
    refine ⟨b44, e45, ?_⟩
    obtain ⟨c46, h⟩ := h
    refine ⟨c46, ?_⟩
    have n47 := k7_nk K c46 (by decide)
    obtain ⟨b48, e49, h⟩ := h
    refine ⟨b48, e49, ?_⟩
    obtain ⟨c50, h⟩ := h
    refine ⟨c50, ?_⟩
    have n51 := k7_nk K c50 (by decide)
    obtain ⟨c52, h⟩ := h
    refine ⟨c52, ?_⟩
    obtain ⟨b53, e54, h⟩ := h
    refine ⟨b53, e54, ?_⟩
    obtain ⟨b55, e56, h⟩ := h
    refine ⟨b55, e56, ?_⟩
    obtain ⟨c57, h⟩ := h
    refine ⟨c57, ?_⟩
    have n58 := k7_nk K c57 (by decide)
    obtain ⟨b59, e60, h⟩ := h
    refine ⟨b59, e60, ?_⟩
    obtain ⟨c61, h⟩ := h
    refine ⟨c61, ?_⟩
    have n62 := k7_nk K c61 (by decide)
    obtain ⟨c63, h⟩ := h
    refine ⟨c63, ?_⟩
    obtain ⟨b64, e65, h⟩ := h
    refine ⟨b64, e65, ?_⟩
    obtain ⟨c66, h⟩ := h
    refine ⟨c66, ?_⟩
    have n67 := k7_nk K c66 (by decide)
    refine cm_X1_wetInLee (kw_X1_wetInLee h) h (fun x68 x69 p71 h g70 => ?_)
    have h := h g70
    have K := k7_tr K p71.2
    refine cm_X9_fraction (kw_X9_fraction h) h (fun x72 x73 p75 h g74 => ?_)
    have h := h g74
    have K := k7_tr K p75.2
    exact ⟨h, K⟩
  · intro c76
    have h := h.2 c76
    exact ⟨h, K⟩
theorem kw_X9_lee {Q : Int64 → HS → Prop} {v0 : Nat} {v1 : Int32} {v2 : Int32} {v3 : Int32} {v4 : Int32} {v5 : Int32} {v6 : Int32} {v7 : Int32} {S : HS} (h : P_X9_lee v0 v1 v2 v3 v4 v5 v6 v7 Q S) : P_X9_lee v0 v1 v2 v3 v4 v5 v6 v7 (fun r T => Q r T ∧ K7 S T) S := kw_X9_lee_0 h (k7_rf S)
set_option maxRecDepth 20000 in
set_option maxHeartbeats 1000000 in
theorem kw_X9_lies_54 {Q : Int32 → HS → Prop} {X20 X20_2 : Nat → Int32 → Int32 → HS → Prop} {v0 : Nat} {v1 : Int32} {v2 : Int32} {S0 S : HS} (h : P_X9_lies_54 Q X20 v0 v1 v2 S) (K : K7 S0 S) (hX20 : ∀ (u0 : Nat) (u1 : Int32) (u2 : Int32) (u3 : HS), X20 u0 u1 u2 u3 → K7 S0 u3 → X20_2 u0 u1 u2 u3) : P_X9_lies_54 (fun r T => Q r T ∧ K7 S0 T) X20_2 v0 v1 v2 S := by
  delta P_X9_lies_54 at h ⊢
  intro x2 e1
  have h := h x2 e1
  exact hX20 _ _ _ _ h K
set_option maxRecDepth 20000 in
set_option maxHeartbeats 1000000 in
theorem kwB_X9_lies_20 {Q : Int32 → HS → Prop} {X20 X20_2 : Nat → Int32 → Int32 → HS → Prop} {v0 : Nat} {v1 : Int32} {v2 : Int32} {S0 S : HS} (h : B_X9_lies_20 Q X20 v0 v1 v2 S) (K : K7 S0 S) (hX20 : ∀ (u0 : Nat) (u1 : Int32) (u2 : Int32) (u3 : HS), X20 u0 u1 u2 u3 → K7 S0 u3 → X20_2 u0 u1 u2 u3) : B_X9_lies_20 (fun r T => Q r T ∧ K7 S0 T) X20_2 v0 v1 v2 S := by
  delta B_X9_lies_20 at h ⊢
  obtain ⟨c1, h⟩ := h
  refine ⟨c1, ?_⟩
  have n2 := k7_nk K c1 (by decide)
  obtain ⟨b3, e4, h⟩ := h
  refine ⟨b3, e4, ?_⟩
  obtain ⟨c5, h⟩ := h
  refine ⟨c5, ?_⟩
  have n6 := k7_nk K c5 (by decide)
  intro x8 e7
  have h := h x8 e7
  refine ⟨?_, ?_⟩
  · intro c9
    have h := h.1 c9
    refine cm_X9_grant (kw_X9_grant h) h (fun x10 x11 p13 h g12 => ?_)
    have h := h g12
    have K := k7_tr K p13.2
    exact ⟨h, K⟩
  · intro c14
    have h := h.2 c14
    obtain ⟨b15, e16, h⟩ := h
    refine ⟨b15, e16, ?_⟩
    obtain ⟨b17, e18, h⟩ := h
    refine ⟨b17, e18, ?_⟩
    obtain ⟨c19, h⟩ := h
    refine ⟨c19, ?_⟩
    have n20 := k7_nk K c19 (by decide)
    refine cm_X1_findFit (kw_X1_findFit h) h (fun x21 x22 p24 h g23 => ?_)
    have h := h g23
    have K := k7_tr K p24.2
    refine ⟨?_, ?_⟩
    · intro c25
      have h := h.1 c25
      exact kw_X9_lies_54 h K hX20
    · intro c26
      have h := h.2 c26
      intro x28 e27
      have h := h x28 e27
      exact kw_X9_lies_54 h K hX20
theorem kw_X9_lies_20 {Q : Int32 → HS → Prop} {v0 : Nat} {v1 : Int32} {v2 : Int32} {S0 S : HS} (h : P_X9_lies_20 Q v0 v1 v2 S) (K : K7 S0 S) : P_X9_lies_20 (fun r T => Q r T ∧ K7 S0 T) v0 v1 v2 S := h (fun v0 v1 v2 S => K7 S0 S → P_X9_lies_20 (fun r T => Q r T ∧ K7 S0 T) v0 v1 v2 S) (fun v0 v1 v2 S hB K => fd_X9_lies_20 (kwB_X9_lies_20 hB K (fun _ _ _ _ hx K => hx K))) K
set_option maxRecDepth 20000 in
set_option maxHeartbeats 1000000 in
theorem kw_X9_lies_0 {Q : Int32 → HS → Prop} {v0 : Nat} {S0 S : HS} (h : P_X9_lies_0 Q v0 S) (K : K7 S0 S) : P_X9_lies_0 (fun r T => Q r T ∧ K7 S0 T) v0 S := by
  delta P_X9_lies_0 at h ⊢
  obtain ⟨c1, h⟩ := h
  refine ⟨c1, ?_⟩
  have n2 := k7_nk K c1 (by decide)
  obtain ⟨b3, e4, h⟩ := h
  refine ⟨b3, e4, ?_⟩
  obtain ⟨c5, h⟩ := h
  refine ⟨c5, ?_⟩
  have n6 := k7_nk K c5 (by decide)
  refine cm_X8_isTold (kw_X8_isTold h) h (fun x7 x8 p11 h g9 g10 => ?_)
  have h := h g9 g10
  have K := k7_tr K p11.2
  refine ⟨?_, ?_⟩
  · intro c12
    have h := h.1 c12
    exact kw_X9_lies_20 h K
  · intro c13
    have h := h.2 c13
    refine cm_X9_refuse (kw_X9_refuse h) h (fun x14 x15 p17 h g16 => ?_)
    have h := h g16
    have K := k7_tr K p17.2
    exact ⟨h, K⟩
theorem kw_X9_lies {Q : Int32 → HS → Prop} {v0 : Nat} {S : HS} (h : P_X9_lies v0 Q S) : P_X9_lies v0 (fun r T => Q r T ∧ K7 S T) S := kw_X9_lies_0 h (k7_rf S)
set_option maxRecDepth 20000 in
set_option maxHeartbeats 1000000 in
theorem kw_X9_mark_0 {Q : Int32 → HS → Prop} {v0 : Nat} {S0 S : HS} (h : P_X9_mark_0 Q v0 S) (K : K7 S0 S) : P_X9_mark_0 (fun r T => Q r T ∧ K7 S0 T) v0 S := by
  delta P_X9_mark_0 at h ⊢
  obtain ⟨c1, h⟩ := h
  refine ⟨c1, ?_⟩
  have n2 := k7_nk K c1 (by decide)
  obtain ⟨b3, e4, h⟩ := h
  refine ⟨b3, e4, ?_⟩
  obtain ⟨c5, h⟩ := h
  refine ⟨c5, ?_⟩
  have n6 := k7_nk K c5 (by decide)
  refine cm_X0_isOn (kw_X0_isOn h) h (fun x7 x8 p11 h g9 g10 => ?_)
  have h := h g9 g10
  have K := k7_tr K p11.2
  refine ⟨?_, ?_⟩
  · intro c12
    have h := h.1 c12
    obtain ⟨b13, e14, h⟩ := h
    refine ⟨b13, e14, ?_⟩
    obtain ⟨c15, h⟩ := h
    refine ⟨c15, ?_⟩
    have n16 := k7_nk K c15 (by decide)
    refine cm_X0_setMark (kw_X0_setMark h) h (fun x17 x18 p20 h g19 => ?_)
    have h := h g19
    have K := k7_tr K p20.2
    refine ⟨?_, ?_⟩
    · intro c21
      have h := h.1 c21
      refine cm_X9_grant (kw_X9_grant h) h (fun x22 x23 p25 h g24 => ?_)
      have h := h g24
      have K := k7_tr K p25.2
      exact ⟨h, K⟩
    · intro c26
      have h := h.2 c26
      refine cm_X9_refuse (kw_X9_refuse h) h (fun x27 x28 p30 h g29 => ?_)
      have h := h g29
      have K := k7_tr K p30.2
      exact ⟨h, K⟩
  · intro c31
    have h := h.2 c31
    refine cm_X9_refuse (kw_X9_refuse h) h (fun x32 x33 p35 h g34 => ?_)
    have h := h g34
    have K := k7_tr K p35.2
    exact ⟨h, K⟩
theorem kw_X9_mark {Q : Int32 → HS → Prop} {v0 : Nat} {S : HS} (h : P_X9_mark v0 Q S) : P_X9_mark v0 (fun r T => Q r T ∧ K7 S T) S := kw_X9_mark_0 h (k7_rf S)
set_option maxRecDepth 20000 in
set_option maxHeartbeats 1000000 in
theorem kw_X9_mean_0 {Q : Int64 → HS → Prop} {v0 : Nat} {v1 : Int32} {v2 : Int32} {v3 : Int32} {v4 : Int32} {v5 : Int32} {v6 : Int32} {S0 S : HS} (h : P_X9_mean_0 Q v0 v1 v2 v3 v4 v5 v6 S) (K : K7 S0 S) : P_X9_mean_0 (fun r T => Q r T ∧ K7 S0 T) v0 v1 v2 v3 v4 v5 v6 S := by
  delta P_X9_mean_0 at h ⊢
  obtain ⟨c1, h⟩ := h
  refine ⟨c1, ?_⟩
  have n2 := k7_nk K c1 (by decide)
  refine cm_X9_legTrouble (kw_X9_legTrouble h) h (fun x3 x4 p6 h g5 => ?_)
  have h := h g5
  have K := k7_tr K p6.2
  refine cm_X9_refusedBy (kw_X9_refusedBy h) h (fun x7 x8 p11 h g9 g10 => ?_)
  have h := h g9 g10
  have K := k7_tr K p11.2
  refine ⟨?_, ?_⟩
  · intro c12
    have h := h.1 c12
    obtain ⟨b13, e14, h⟩ := h
    refine ⟨b13, e14, ?_⟩
    obtain ⟨b15, e16, h⟩ := h
    refine ⟨b15, e16, ?_⟩
    obtain ⟨c17, h⟩ := h
    refine ⟨c17, ?_⟩
    have n18 := k7_nk K c17 (by decide)
    obtain ⟨b19, e20, h⟩ := h
    refine ⟨b19, e20, ?_⟩
    obtain ⟨c21, h⟩ := h
    refine ⟨c21, ?_⟩
    have n22 := k7_nk K c21 (by decide)
    obtain ⟨c23, h⟩ := h
    refine ⟨c23, ?_⟩
    obtain ⟨b24, e25, h⟩ := h
    refine ⟨b24, e25, ?_⟩
    obtain ⟨b26, e27, h⟩ := h
    refine ⟨b26, e27, ?_⟩
    obtain ⟨c28, h⟩ := h
    refine ⟨c28, ?_⟩
    have n29 := k7_nk K c28 (by decide)
    obtain ⟨b30, e31, h⟩ := h
    refine ⟨b30, e31, ?_⟩
    obtain ⟨c32, h⟩ := h
    refine ⟨c32, ?_⟩
    have n33 := k7_nk K c32 (by decide)
    obtain ⟨c34, h⟩ := h
    refine ⟨c34, ?_⟩
    obtain ⟨b35, e36, h⟩ := h
    refine ⟨b35, e36, ?_⟩
    obtain ⟨b37, e38, h⟩ := h
    refine ⟨b37, e38, ?_⟩
    obtain ⟨c39, h⟩ := h
    refine ⟨c39, ?_⟩
    have n40 := k7_nk K c39 (by decide)
    obtain ⟨b41, e42, h⟩ := h
    refine ⟨b41, e42, ?_⟩
    obtain ⟨c43, h⟩ := h
    refine ⟨c43, ?_⟩
    have n44 := k7_nk K c43 (by decide)
    obtain ⟨c45, h⟩ := h
    refine ⟨c45, ?_⟩
    obtain ⟨b46, e47, h⟩ := h
    refine ⟨b46, e47, ?_⟩
    obtain ⟨c48, h⟩ := h
    refine ⟨c48, ?_⟩
    have n49 := k7_nk K c48 (by decide)
    refine cm_X1_wetOf (kw_X1_wetOf h) h (fun x50 x51 p53 h g52 => ?_)
    have h := h g52
    have K := k7_tr K p53.2
    obtain ⟨b54, e55, h⟩ := h
    refine ⟨b54, e55, ?_⟩
    obtain ⟨c56, h⟩ := h
    refine ⟨c56, ?_⟩
    have n57 := k7_nk K c56 (by decide)
    obtain ⟨b58, e59, h⟩ := h
    refine ⟨b58, e59, ?_⟩
    obtain ⟨c60, h⟩ := h
    refine ⟨c60, ?_⟩
    have n61 := k7_nk K c60 (by decide)
    obtain ⟨c62, h⟩ := h
    refine ⟨c62, ?_⟩
    obtain ⟨b63, e64, h⟩ := h
    refine ⟨b63, e64, ?_⟩
    obtain ⟨c65, h⟩ := h
    refine ⟨c65, ?_⟩
    have n66 := k7_nk K c65 (by decide)
    intro x68 e67
    have h := h x68 e67
    refine cm_X9_fraction (kw_X9_fraction h) h (fun x69 x70 p72 h g71 => ?_)
    have h := h g71
    have K := k7_tr K p72.2
    exact ⟨h, K⟩
  · intro c73
    have h := h.2 c73
    exact ⟨h, K⟩
theorem kw_X9_mean {Q : Int64 → HS → Prop} {v0 : Nat} {v1 : Int32} {v2 : Int32} {v3 : Int32} {v4 : Int32} {v5 : Int32} {v6 : Int32} {S : HS} (h : P_X9_mean v0 v1 v2 v3 v4 v5 v6 Q S) : P_X9_mean v0 v1 v2 v3 v4 v5 v6 (fun r T => Q r T ∧ K7 S T) S := kw_X9_mean_0 h (k7_rf S)
set_option maxRecDepth 20000 in
set_option maxHeartbeats 1000000 in
theorem kw_X9_minutes_22 {Q : Int32 → HS → Prop} {v0 : Nat} {S0 S : HS} (h : P_X9_minutes_22 Q v0 S) (K : K7 S0 S) : P_X9_minutes_22 (fun r T => Q r T ∧ K7 S0 T) v0 S := by
  delta P_X9_minutes_22 at h ⊢
  obtain ⟨c1, h⟩ := h
  refine ⟨c1, ?_⟩
  have n2 := k7_nk K c1 (by decide)
  refine cm_X9_refuse (kw_X9_refuse h) h (fun x3 x4 p6 h g5 => ?_)
  have h := h g5
  have K := k7_tr K p6.2
  exact ⟨h, K⟩
set_option maxRecDepth 20000 in
set_option maxHeartbeats 1000000 in
theorem kw_X9_minutes_0 {Q : Int32 → HS → Prop} {v0 : Nat} {v1 : Int32} {v2 : Int32} {v3 : Int32} {S0 S : HS} (h : P_X9_minutes_0 Q v0 v1 v2 v3 S) (K : K7 S0 S) : P_X9_minutes_0 (fun r T => Q r T ∧ K7 S0 T) v0 v1 v2 v3 S := by
  delta P_X9_minutes_0 at h ⊢
  obtain ⟨c1, h⟩ := h
  refine ⟨c1, ?_⟩
  have n2 := k7_nk K c1 (by decide)
  obtain ⟨b3, e4, h⟩ := h
  refine ⟨b3, e4, ?_⟩
  obtain ⟨c5, h⟩ := h
  refine ⟨c5, ?_⟩
  have n6 := k7_nk K c5 (by decide)
  refine cm_X8_hasWalker (kw_X8_hasWalker h) h (fun x7 x8 p11 h g9 g10 => ?_)
  have h := h g9 g10
  have K := k7_tr K p11.2
  refine ⟨?_, ?_⟩
  · intro c12
    have h := h.1 c12
    exact kw_X9_minutes_22 h K
  · intro c13
    have h := h.2 c13
    obtain ⟨b14, e15, h⟩ := h
    refine ⟨b14, e15, ?_⟩
    obtain ⟨c16, h⟩ := h
    refine ⟨c16, ?_⟩
    have n17 := k7_nk K c16 (by decide)
    refine cm_X8_hasRoad (kw_X8_hasRoad h) h (fun x18 x19 p22 h g20 g21 => ?_)
    have h := h g20 g21
    have K := k7_tr K p22.2
    refine ⟨?_, ?_⟩
    · intro c23
      have h := h.1 c23
      obtain ⟨b24, e25, h⟩ := h
      refine ⟨b24, e25, ?_⟩
      obtain ⟨c26, h⟩ := h
      refine ⟨c26, ?_⟩
      have n27 := k7_nk K c26 (by decide)
      obtain ⟨b28, e29, h⟩ := h
      refine ⟨b28, e29, ?_⟩
      obtain ⟨c30, h⟩ := h
      refine ⟨c30, ?_⟩
      have n31 := k7_nk K c30 (by decide)
      obtain ⟨c32, h⟩ := h
      refine ⟨c32, ?_⟩
      obtain ⟨b33, e34, h⟩ := h
      refine ⟨b33, e34, ?_⟩
      obtain ⟨c35, h⟩ := h
      refine ⟨c35, ?_⟩
      have n36 := k7_nk K c35 (by decide)
      refine cm_X6_canGo (kw_X6_canGo h) h (fun x37 x38 p41 h g39 g40 => ?_)
      have h := h g39 g40
      have K := k7_tr K p41.2
      refine ⟨?_, ?_⟩
      · intro c42
        have h := h.1 c42
        obtain ⟨b43, e44, h⟩ := h
        refine ⟨b43, e44, ?_⟩
        obtain ⟨c45, h⟩ := h
        refine ⟨c45, ?_⟩
        have n46 := k7_nk K c45 (by decide)
        obtain ⟨b47, e48, h⟩ := h
        refine ⟨b47, e48, ?_⟩
        obtain ⟨c49, h⟩ := h
        refine ⟨c49, ?_⟩
        have n50 := k7_nk K c49 (by decide)
        obtain ⟨c51, h⟩ := h
        refine ⟨c51, ?_⟩
        obtain ⟨b52, e53, h⟩ := h
        refine ⟨b52, e53, ?_⟩
        obtain ⟨c54, h⟩ := h
        refine ⟨c54, ?_⟩
        have n55 := k7_nk K c54 (by decide)
        refine cm_X5_minutesAt (kw_X5_minutesAt h) h (fun x56 x57 p59 h g58 => ?_)
        have h := h g58
        have K := k7_tr K p59.2
        refine cm_X9_grant (kw_X9_grant h) h (fun x60 x61 p63 h g62 => ?_)
        have h := h g62
        have K := k7_tr K p63.2
        exact ⟨h, K⟩
      · intro c64
        have h := h.2 c64
        refine cm_X9_refuse (kw_X9_refuse h) h (fun x65 x66 p68 h g67 => ?_)
        have h := h g67
        have K := k7_tr K p68.2
        exact ⟨h, K⟩
    · intro c69
      have h := h.2 c69
      exact kw_X9_minutes_22 h K
theorem kw_X9_minutes {Q : Int32 → HS → Prop} {v0 : Nat} {v1 : Int32} {v2 : Int32} {v3 : Int32} {S : HS} (h : P_X9_minutes v0 v1 v2 v3 Q S) : P_X9_minutes v0 v1 v2 v3 (fun r T => Q r T ∧ K7 S T) S := kw_X9_minutes_0 h (k7_rf S)
set_option maxRecDepth 20000 in
set_option maxHeartbeats 1000000 in
theorem kw_X9_off_128 {Q : Int32 → HS → Prop} {X62 X62_2 : Nat → Int32 → Int32 → Int32 → Int32 → HS → Prop} {v0 : Nat} {v2 : Int32} {v4 : Int32} {v6 : Int32} {v7 : Int32} {S0 S : HS} (h : P_X9_off_128 Q X62 v0 v2 v4 v6 v7 S) (K : K7 S0 S) (hX62 : ∀ (u0 : Nat) (u1 : Int32) (u2 : Int32) (u3 : Int32) (u4 : Int32) (u5 : HS), X62 u0 u1 u2 u3 u4 u5 → K7 S0 u5 → X62_2 u0 u1 u2 u3 u4 u5) : P_X9_off_128 (fun r T => Q r T ∧ K7 S0 T) X62_2 v0 v2 v4 v6 v7 S := by
  delta P_X9_off_128 at h ⊢
  intro x2 e1
  have h := h x2 e1
  exact hX62 _ _ _ _ _ _ h K
set_option maxRecDepth 20000 in
set_option maxHeartbeats 1000000 in
theorem kw_X9_off_104 {Q : Int32 → HS → Prop} {X62 X62_2 : Nat → Int32 → Int32 → Int32 → Int32 → HS → Prop} {v0 : Nat} {v2 : Int32} {v4 : Int32} {v6 : Int32} {v7 : Int32} {s0 : Int32} {S0 S : HS} (h : P_X9_off_104 Q X62 v0 v2 v4 v6 v7 s0 S) (K : K7 S0 S) (hX62 : ∀ (u0 : Nat) (u1 : Int32) (u2 : Int32) (u3 : Int32) (u4 : Int32) (u5 : HS), X62 u0 u1 u2 u3 u4 u5 → K7 S0 u5 → X62_2 u0 u1 u2 u3 u4 u5) : P_X9_off_104 (fun r T => Q r T ∧ K7 S0 T) X62_2 v0 v2 v4 v6 v7 s0 S := by
  delta P_X9_off_104 at h ⊢
  obtain ⟨c1, h⟩ := h
  refine ⟨c1, ?_⟩
  have n2 := k7_nk K c1 (by decide)
  obtain ⟨b3, e4, h⟩ := h
  refine ⟨b3, e4, ?_⟩
  obtain ⟨c5, h⟩ := h
  refine ⟨c5, ?_⟩
  have n6 := k7_nk K c5 (by decide)
  have o7 := c5
  refine cm_X7_isOpen (kw_X7_isOpen h) h (fun x8 x9 p12 h g10 g11 => ?_)
  have h := h g10 g11
  have K := k7_tr K p12.2
  have o7 := gr_ob p12.2.1 o7
  refine ⟨?_, ?_⟩
  · intro c13
    have h := h.1 c13
    exact kw_X9_off_128 h K hX62
  · intro c14
    have h := h.2 c14
    refine ⟨?_, ?_⟩
    · intro c15
      have h := h.1 c15
      exact kw_X9_off_128 h K hX62
    · intro c16
      have h := h.2 c16
      exact kw_X9_off_128 h K hX62
set_option maxRecDepth 20000 in
set_option maxHeartbeats 1000000 in
theorem kw_X9_off_99 {Q : Int32 → HS → Prop} {X62 X62_2 : Nat → Int32 → Int32 → Int32 → Int32 → HS → Prop} {v0 : Nat} {v2 : Int32} {v4 : Int32} {v6 : Int32} {v7 : Int32} {S0 S : HS} (h : P_X9_off_99 Q X62 v0 v2 v4 v6 v7 S) (K : K7 S0 S) (hX62 : ∀ (u0 : Nat) (u1 : Int32) (u2 : Int32) (u3 : Int32) (u4 : Int32) (u5 : HS), X62 u0 u1 u2 u3 u4 u5 → K7 S0 u5 → X62_2 u0 u1 u2 u3 u4 u5) : P_X9_off_99 (fun r T => Q r T ∧ K7 S0 T) X62_2 v0 v2 v4 v6 v7 S := by
  delta P_X9_off_99 at h ⊢
  exact kw_X9_off_104 h K hX62
set_option maxRecDepth 20000 in
set_option maxHeartbeats 1000000 in
theorem kwB_X9_off_62 {Q : Int32 → HS → Prop} {X62 X62_2 : Nat → Int32 → Int32 → Int32 → Int32 → HS → Prop} {v0 : Nat} {v2 : Int32} {v4 : Int32} {v6 : Int32} {v7 : Int32} {S0 S : HS} (h : B_X9_off_62 Q X62 v0 v2 v4 v6 v7 S) (K : K7 S0 S) (hX62 : ∀ (u0 : Nat) (u1 : Int32) (u2 : Int32) (u3 : Int32) (u4 : Int32) (u5 : HS), X62 u0 u1 u2 u3 u4 u5 → K7 S0 u5 → X62_2 u0 u1 u2 u3 u4 u5) : B_X9_off_62 (fun r T => Q r T ∧ K7 S0 T) X62_2 v0 v2 v4 v6 v7 S := by
  delta B_X9_off_62 at h ⊢
  refine ⟨?_, ?_⟩
  · intro c1
    have h := h.1 c1
    refine ⟨?_, ?_⟩
    · intro c2
      have h := h.1 c2
      exact ⟨h, K⟩
    · intro c3
      have h := h.2 c3
      obtain ⟨c4, h⟩ := h
      refine ⟨c4, ?_⟩
      have n5 := k7_nk K c4 (by decide)
      refine cm_X9_refuse (kw_X9_refuse h) h (fun x6 x7 p9 h g8 => ?_)
      have h := h g8
      have K := k7_tr K p9.2
      exact ⟨h, K⟩
  · intro c10
    have h := h.2 c10
    refine ⟨?_, ?_⟩
    · intro c11
      have h := h.1 c11
      exact kw_X9_off_99 h K hX62
    · intro c12
      have h := h.2 c12
      obtain ⟨c13, h⟩ := h
      refine ⟨c13, ?_⟩
      have n14 := k7_nk K c13 (by decide)
      obtain ⟨b15, e16, h⟩ := h
      refine ⟨b15, e16, ?_⟩
      obtain ⟨c17, h⟩ := h
      refine ⟨c17, ?_⟩
      have n18 := k7_nk K c17 (by decide)
      have o19 := c17
      refine cm_X7_meanFrom (kw_X7_meanFrom h) h (fun x20 x21 p23 h g22 => ?_)
      have h := h g22
      have K := k7_tr K p23.2
      have o19 := gr_ob p23.2.1 o19
      obtain ⟨b24, e25, h⟩ := h
      refine ⟨b24, e25, ?_⟩
      obtain ⟨c26, h⟩ := h
      refine ⟨c26, ?_⟩
      have n27 := k7_nk K c26 (by decide)
      have o28 := c26
      refine cm_X7_meanFrom (kw_X7_meanFrom h) h (fun x29 x30 p32 h g31 => ?_)
      have h := h g31
      have K := k7_tr K p32.2
      have o19 := gr_ob p32.2.1 o19
      have o28 := gr_ob p32.2.1 o28
      refine ⟨?_, ?_⟩
      · intro c33
        have h := h.1 c33
        exact kw_X9_off_104 h K hX62
      · intro c34
        have h := h.2 c34
        exact kw_X9_off_99 h K hX62
theorem kw_X9_off_62 {Q : Int32 → HS → Prop} {v0 : Nat} {v2 : Int32} {v4 : Int32} {v6 : Int32} {v7 : Int32} {S0 S : HS} (h : P_X9_off_62 Q v0 v2 v4 v6 v7 S) (K : K7 S0 S) : P_X9_off_62 (fun r T => Q r T ∧ K7 S0 T) v0 v2 v4 v6 v7 S := h (fun v0 v2 v4 v6 v7 S => K7 S0 S → P_X9_off_62 (fun r T => Q r T ∧ K7 S0 T) v0 v2 v4 v6 v7 S) (fun v0 v2 v4 v6 v7 S hB K => fd_X9_off_62 (kwB_X9_off_62 hB K (fun _ _ _ _ _ _ hx K => hx K))) K
set_option maxRecDepth 20000 in
set_option maxHeartbeats 1000000 in
theorem kw_X9_off_25 {Q : Int32 → HS → Prop} {v0 : Nat} {v1 : Int32} {v2 : Int32} {v3 : Int32} {v4 : Int32} {v5 : Int32} {S0 S : HS} (h : P_X9_off_25 Q v0 v1 v2 v3 v4 v5 S) (K : K7 S0 S) : P_X9_off_25 (fun r T => Q r T ∧ K7 S0 T) v0 v1 v2 v3 v4 v5 S := by
  delta P_X9_off_25 at h ⊢
  obtain ⟨c1, h⟩ := h
  refine ⟨c1, ?_⟩
  have n2 := k7_nk K c1 (by decide)
  refine cm_X9_refusedBy (kw_X9_refusedBy h) h (fun x3 x4 p7 h g5 g6 => ?_)
  have h := h g5 g6
  have K := k7_tr K p7.2
  refine ⟨?_, ?_⟩
  · intro c8
    have h := h.1 c8
    obtain ⟨b9, e10, h⟩ := h
    refine ⟨b9, e10, ?_⟩
    obtain ⟨b11, e12, h⟩ := h
    refine ⟨b11, e12, ?_⟩
    obtain ⟨b13, e14, h⟩ := h
    refine ⟨b13, e14, ?_⟩
    obtain ⟨c15, h⟩ := h
    refine ⟨c15, ?_⟩
    have n16 := k7_nk K c15 (by decide)
    have o17 := c15
    refine cm_X7_reckon (kw_X7_reckon h) h (fun x18 p20 h g19 => ?_)
    have h := h g19
    have K := k7_tr K p20.2
    have o17 := gr_ob p20.2.1 o17
    exact kw_X9_off_62 h K
  · intro c21
    have h := h.2 c21
    exact ⟨h, K⟩
set_option maxRecDepth 20000 in
set_option maxHeartbeats 1000000 in
theorem kw_X9_off_0 {Q : Int32 → HS → Prop} {v0 : Nat} {v1 : Int32} {v2 : Int32} {v3 : Int32} {v4 : Int32} {S0 S : HS} (h : P_X9_off_0 Q v0 v1 v2 v3 v4 S) (K : K7 S0 S) : P_X9_off_0 (fun r T => Q r T ∧ K7 S0 T) v0 v1 v2 v3 v4 S := by
  delta P_X9_off_0 at h ⊢
  obtain ⟨c1, h⟩ := h
  refine ⟨c1, ?_⟩
  have n2 := k7_nk K c1 (by decide)
  refine cm_X9_placesTrouble (kw_X9_placesTrouble h) h (fun x3 x4 p6 h g5 => ?_)
  have h := h g5
  have K := k7_tr K p6.2
  refine ⟨?_, ?_⟩
  · intro c7
    have h := h.1 c7
    exact kw_X9_off_25 h K
  · intro c8
    have h := h.2 c8
    refine cm_X9_isTill (kw_X9_isTill h) h (fun x9 x10 p13 h g11 g12 => ?_)
    have h := h g11 g12
    have K := k7_tr K p13.2
    refine ⟨?_, ?_⟩
    · intro c14
      have h := h.1 c14
      exact kw_X9_off_25 h K
    · intro c15
      have h := h.2 c15
      exact kw_X9_off_25 h K
theorem kw_X9_off {Q : Int32 → HS → Prop} {v0 : Nat} {v1 : Int32} {v2 : Int32} {v3 : Int32} {v4 : Int32} {S : HS} (h : P_X9_off v0 v1 v2 v3 v4 Q S) : P_X9_off v0 v1 v2 v3 v4 (fun r T => Q r T ∧ K7 S T) S := kw_X9_off_0 h (k7_rf S)
set_option maxRecDepth 20000 in
set_option maxHeartbeats 1000000 in
theorem kw_X9_road_20 {Q : Int32 → HS → Prop} {v0 : Nat} {S0 S : HS} (h : P_X9_road_20 Q v0 S) (K : K7 S0 S) : P_X9_road_20 (fun r T => Q r T ∧ K7 S0 T) v0 S := by
  delta P_X9_road_20 at h ⊢
  obtain ⟨c1, h⟩ := h
  refine ⟨c1, ?_⟩
  have n2 := k7_nk K c1 (by decide)
  refine cm_X9_refuse (kw_X9_refuse h) h (fun x3 x4 p6 h g5 => ?_)
  have h := h g5
  have K := k7_tr K p6.2
  exact ⟨h, K⟩
set_option maxRecDepth 20000 in
set_option maxHeartbeats 1000000 in
theorem kw_X9_road_0 {Q : Int32 → HS → Prop} {v0 : Nat} {v1 : Int32} {v2 : Int32} {S0 S : HS} (h : P_X9_road_0 Q v0 v1 v2 S) (K : K7 S0 S) : P_X9_road_0 (fun r T => Q r T ∧ K7 S0 T) v0 v1 v2 S := by
  delta P_X9_road_0 at h ⊢
  obtain ⟨c1, h⟩ := h
  refine ⟨c1, ?_⟩
  have n2 := k7_nk K c1 (by decide)
  obtain ⟨b3, e4, h⟩ := h
  refine ⟨b3, e4, ?_⟩
  obtain ⟨c5, h⟩ := h
  refine ⟨c5, ?_⟩
  have n6 := k7_nk K c5 (by decide)
  refine cm_X8_hasRoad (kw_X8_hasRoad h) h (fun x7 x8 p11 h g9 g10 => ?_)
  have h := h g9 g10
  have K := k7_tr K p11.2
  refine ⟨?_, ?_⟩
  · intro c12
    have h := h.1 c12
    exact kw_X9_road_20 h K
  · intro c13
    have h := h.2 c13
    refine ⟨?_, ?_⟩
    · intro c14
      have h := h.1 c14
      exact kw_X9_road_20 h K
    · intro c15
      have h := h.2 c15
      refine ⟨?_, ?_⟩
      · intro c16
        have h := h.1 c16
        obtain ⟨b17, e18, h⟩ := h
        refine ⟨b17, e18, ?_⟩
        obtain ⟨c19, h⟩ := h
        refine ⟨c19, ?_⟩
        have n20 := k7_nk K c19 (by decide)
        obtain ⟨b21, e22, h⟩ := h
        refine ⟨b21, e22, ?_⟩
        obtain ⟨c23, h⟩ := h
        refine ⟨c23, ?_⟩
        have n24 := k7_nk K c23 (by decide)
        obtain ⟨c25, h⟩ := h
        refine ⟨c25, ?_⟩
        obtain ⟨b26, e27, h⟩ := h
        refine ⟨b26, e27, ?_⟩
        obtain ⟨c28, h⟩ := h
        refine ⟨c28, ?_⟩
        have n29 := k7_nk K c28 (by decide)
        refine cm_X5_tell (kw_X5_tell h) h (fun x30 x31 p33 h g32 => ?_)
        have h := h g32
        have K := k7_tr K p33.2
        refine cm_X9_grant (kw_X9_grant h) h (fun x34 x35 p37 h g36 => ?_)
        have h := h g36
        have K := k7_tr K p37.2
        exact ⟨h, K⟩
      · intro c38
        have h := h.2 c38
        exact kw_X9_road_20 h K
theorem kw_X9_road {Q : Int32 → HS → Prop} {v0 : Nat} {v1 : Int32} {v2 : Int32} {S : HS} (h : P_X9_road v0 v1 v2 Q S) : P_X9_road v0 v1 v2 (fun r T => Q r T ∧ K7 S T) S := kw_X9_road_0 h (k7_rf S)
set_option maxRecDepth 20000 in
set_option maxHeartbeats 1000000 in
theorem kw_X9_round_0 {Q : Int64 → HS → Prop} {v0 : Nat} {v1 : Int32} {v2 : Int32} {v3 : Int32} {v4 : Int32} {S0 S : HS} (h : P_X9_round_0 Q v0 v1 v2 v3 v4 S) (K : K7 S0 S) : P_X9_round_0 (fun r T => Q r T ∧ K7 S0 T) v0 v1 v2 v3 v4 S := by
  delta P_X9_round_0 at h ⊢
  obtain ⟨c1, h⟩ := h
  refine ⟨c1, ?_⟩
  have n2 := k7_nk K c1 (by decide)
  refine cm_X9_tripTrouble (kw_X9_tripTrouble h) h (fun x3 x4 p6 h g5 => ?_)
  have h := h g5
  have K := k7_tr K p6.2
  refine cm_X9_refusedBy (kw_X9_refusedBy h) h (fun x7 x8 p11 h g9 g10 => ?_)
  have h := h g9 g10
  have K := k7_tr K p11.2
  refine ⟨?_, ?_⟩
  · intro c12
    have h := h.1 c12
    obtain ⟨b13, e14, h⟩ := h
    refine ⟨b13, e14, ?_⟩
    obtain ⟨b15, e16, h⟩ := h
    refine ⟨b15, e16, ?_⟩
    obtain ⟨c17, h⟩ := h
    refine ⟨c17, ?_⟩
    have n18 := k7_nk K c17 (by decide)
    obtain ⟨b19, e20, h⟩ := h
    refine ⟨b19, e20, ?_⟩
    obtain ⟨c21, h⟩ := h
    refine ⟨c21, ?_⟩
    have n22 := k7_nk K c21 (by decide)
    obtain ⟨c23, h⟩ := h
    refine ⟨c23, ?_⟩
    obtain ⟨b24, e25, h⟩ := h
    refine ⟨b24, e25, ?_⟩
    obtain ⟨b26, e27, h⟩ := h
    refine ⟨b26, e27, ?_⟩
    obtain ⟨c28, h⟩ := h
    refine ⟨c28, ?_⟩
    have n29 := k7_nk K c28 (by decide)
    obtain ⟨b30, e31, h⟩ := h
    refine ⟨b30, e31, ?_⟩
    obtain ⟨c32, h⟩ := h
    refine ⟨c32, ?_⟩
    have n33 := k7_nk K c32 (by decide)
    obtain ⟨c34, h⟩ := h
    refine ⟨c34, ?_⟩
    obtain ⟨b35, e36, h⟩ := h
    refine ⟨b35, e36, ?_⟩
    obtain ⟨b37, e38, h⟩ := h
    refine ⟨b37, e38, ?_⟩
    obtain ⟨c39, h⟩ := h
    refine ⟨c39, ?_⟩
    have n40 := k7_nk K c39 (by decide)
    obtain ⟨b41, e42, h⟩ := h
    refine ⟨b41, e42, ?_⟩
    obtain ⟨c43, h⟩ := h
    refine ⟨c43, ?_⟩
    have n44 := k7_nk K c43 (by decide)
    obtain ⟨c45, h⟩ := h
    refine ⟨c45, ?_⟩
    obtain ⟨b46, e47, h⟩ := h
    refine ⟨b46, e47, ?_⟩
    obtain ⟨c48, h⟩ := h
    refine ⟨c48, ?_⟩
    have n49 := k7_nk K c48 (by decide)
    refine cm_X1_leastWet (kw_X1_leastWet h) h (fun x50 x51 p53 h g52 => ?_)
    have h := h g52
    have K := k7_tr K p53.2
    obtain ⟨b54, e55, h⟩ := h
    refine ⟨b54, e55, ?_⟩
    obtain ⟨b56, e57, h⟩ := h
    refine ⟨b56, e57, ?_⟩
    obtain ⟨c58, h⟩ := h
    refine ⟨c58, ?_⟩
    have n59 := k7_nk K c58 (by decide)
    obtain ⟨b60, e61, h⟩ := h
    refine ⟨b60, e61, ?_⟩
    obtain ⟨c62, h⟩ := h
    refine ⟨c62, ?_⟩
    have n63 := k7_nk K c62 (by decide)
    obtain ⟨c64, h⟩ := h
    refine ⟨c64, ?_⟩
    obtain ⟨b65, e66, h⟩ := h
    refine ⟨b65, e66, ?_⟩
    obtain ⟨b67, e68, h⟩ := h
    refine ⟨b67, e68, ?_⟩
    obtain ⟨c69, h⟩ := h
    refine ⟨c69, ?_⟩
    have n70 := k7_nk K c69 (by decide)
    obtain ⟨b71, e72, h⟩ := h
    refine ⟨b71, e72, ?_⟩
    obtain ⟨c73, h⟩ := h
    refine ⟨c73, ?_⟩
    have n74 := k7_nk K c73 (by decide)
    obtain ⟨c75, h⟩ := h
    refine ⟨c75, ?_⟩
    obtain ⟨b76, e77, h⟩ := h
    refine ⟨b76, e77, ?_⟩
    obtain ⟨b78, e79, h⟩ := h
    refine ⟨b78, e79, ?_⟩
    obtain ⟨c80, h⟩ := h
    refine ⟨c80, ?_⟩
    have n81 := k7_nk K c80 (by decide)
    obtain ⟨b82, e83, h⟩ := h
    refine ⟨b82, e83, ?_⟩
    obtain ⟨c84, h⟩ := h
    refine ⟨c84, ?_⟩
    have n85 := k7_nk K c84 (by decide)
    obtain ⟨c86, h⟩ := h
    refine ⟨c86, ?_⟩
    obtain ⟨b87, e88, h⟩ := h
    refine ⟨b87, e88, ?_⟩
    obtain ⟨c89, h⟩ := h
    refine ⟨c89, ?_⟩
    have n90 := k7_nk K c89 (by decide)
    refine cm_X1_leastWet (kw_X1_leastWet h) h (fun x91 x92 p94 h g93 => ?_)
    have h := h g93
    have K := k7_tr K p94.2
    refine cm_X9_fraction (kw_X9_fraction h) h (fun x95 x96 p98 h g97 => ?_)
    have h := h g97
    have K := k7_tr K p98.2
    exact ⟨h, K⟩
  · intro c99
    have h := h.2 c99
    exact ⟨h, K⟩
theorem kw_X9_round {Q : Int64 → HS → Prop} {v0 : Nat} {v1 : Int32} {v2 : Int32} {v3 : Int32} {v4 : Int32} {S : HS} (h : P_X9_round v0 v1 v2 v3 v4 Q S) : P_X9_round v0 v1 v2 v3 v4 (fun r T => Q r T ∧ K7 S T) S := kw_X9_round_0 h (k7_rf S)
set_option maxRecDepth 20000 in
set_option maxHeartbeats 1000000 in
theorem kw_X9_saves_0 {Q : Int64 → HS → Prop} {v0 : Nat} {v1 : Int32} {v2 : Int32} {v3 : Int32} {v4 : Int32} {v5 : Int32} {S0 S : HS} (h : P_X9_saves_0 Q v0 v1 v2 v3 v4 v5 S) (K : K7 S0 S) : P_X9_saves_0 (fun r T => Q r T ∧ K7 S0 T) v0 v1 v2 v3 v4 v5 S := by
  delta P_X9_saves_0 at h ⊢
  obtain ⟨c1, h⟩ := h
  refine ⟨c1, ?_⟩
  have n2 := k7_nk K c1 (by decide)
  refine cm_X9_tripTrouble (kw_X9_tripTrouble h) h (fun x3 x4 p6 h g5 => ?_)
  have h := h g5
  have K := k7_tr K p6.2
  refine cm_X9_refusedBy (kw_X9_refusedBy h) h (fun x7 x8 p11 h g9 g10 => ?_)
  have h := h g9 g10
  have K := k7_tr K p11.2
  refine ⟨?_, ?_⟩
  · intro c12
    have h := h.1 c12
    obtain ⟨b13, e14, h⟩ := h
    refine ⟨b13, e14, ?_⟩
    obtain ⟨c15, h⟩ := h
    refine ⟨c15, ?_⟩
    have n16 := k7_nk K c15 (by decide)
    obtain ⟨b17, e18, h⟩ := h
    refine ⟨b17, e18, ?_⟩
    obtain ⟨c19, h⟩ := h
    refine ⟨c19, ?_⟩
    have n20 := k7_nk K c19 (by decide)
    obtain ⟨c21, h⟩ := h
    refine ⟨c21, ?_⟩
    obtain ⟨b22, e23, h⟩ := h
    refine ⟨b22, e23, ?_⟩
    obtain ⟨b24, e25, h⟩ := h
    refine ⟨b24, e25, ?_⟩
    obtain ⟨b26, e27, h⟩ := h
    refine ⟨b26, e27, ?_⟩
    obtain ⟨c28, h⟩ := h
    refine ⟨c28, ?_⟩
    have n29 := k7_nk K c28 (by decide)
    obtain ⟨b30, e31, h⟩ := h
    refine ⟨b30, e31, ?_⟩
    obtain ⟨c32, h⟩ := h
    refine ⟨c32, ?_⟩
    have n33 := k7_nk K c32 (by decide)
    obtain ⟨c34, h⟩ := h
    refine ⟨c34, ?_⟩
    obtain ⟨b35, e36, h⟩ := h
    refine ⟨b35, e36, ?_⟩
    obtain ⟨b37, e38, h⟩ := h
    refine ⟨b37, e38, ?_⟩
    obtain ⟨c39, h⟩ := h
    refine ⟨c39, ?_⟩
    have n40 := k7_nk K c39 (by decide)
    obtain ⟨b41, e42, h⟩ := h
    refine ⟨b41, e42, ?_⟩
    obtain ⟨c43, h⟩ := h
    refine ⟨c43, ?_⟩
    have n44 := k7_nk K c43 (by decide)
    obtain ⟨c45, h⟩ := h
    refine ⟨c45, ?_⟩
    obtain ⟨b46, e47, h⟩ := h
    refine ⟨b46, e47, ?_⟩
    obtain ⟨c48, h⟩ := h
    refine ⟨c48, ?_⟩
    have n49 := k7_nk K c48 (by decide)
    intro x51 e50
    have h := h x51 e50
    obtain ⟨c52, h⟩ := h
    refine ⟨c52, ?_⟩
    have n53 := k7_nk K c52 (by decide)
    refine cm_X1_wetOf (kw_X1_wetOf h) h (fun x54 x55 p57 h g56 => ?_)
    have h := h g56
    have K := k7_tr K p57.2
    obtain ⟨b58, e59, h⟩ := h
    refine ⟨b58, e59, ?_⟩
    obtain ⟨b60, e61, h⟩ := h
    refine ⟨b60, e61, ?_⟩
    obtain ⟨c62, h⟩ := h
    refine ⟨c62, ?_⟩
    have n63 := k7_nk K c62 (by decide)
    obtain ⟨b64, e65, h⟩ := h
    refine ⟨b64, e65, ?_⟩
    obtain ⟨c66, h⟩ := h
    refine ⟨c66, ?_⟩
    have n67 := k7_nk K c66 (by decide)
    obtain ⟨c68, h⟩ := h
    refine ⟨c68, ?_⟩
    obtain ⟨b69, e70, h⟩ := h
    refine ⟨b69, e70, ?_⟩
    obtain ⟨b71, e72, h⟩ := h
    refine ⟨b71, e72, ?_⟩
    obtain ⟨c73, h⟩ := h
    refine ⟨c73, ?_⟩
    have n74 := k7_nk K c73 (by decide)
    obtain ⟨b75, e76, h⟩ := h
    refine ⟨b75, e76, ?_⟩
    obtain ⟨c77, h⟩ := h
    refine ⟨c77, ?_⟩
    have n78 := k7_nk K c77 (by decide)
    obtain ⟨c79, h⟩ := h
    refine ⟨c79, ?_⟩
    obtain ⟨b80, e81, h⟩ := h
    refine ⟨b80, e81, ?_⟩
    obtain ⟨c82, h⟩ := h
    refine ⟨c82, ?_⟩
    have n83 := k7_nk K c82 (by decide)
    refine cm_X1_leastWet (kw_X1_leastWet h) h (fun x84 x85 p87 h g86 => ?_)
    have h := h g86
    have K := k7_tr K p87.2
    refine cm_X9_fraction (kw_X9_fraction h) h (fun x88 x89 p91 h g90 => ?_)
    have h := h g90
    have K := k7_tr K p91.2
    exact ⟨h, K⟩
  · intro c92
    have h := h.2 c92
    exact ⟨h, K⟩
theorem kw_X9_saves {Q : Int64 → HS → Prop} {v0 : Nat} {v1 : Int32} {v2 : Int32} {v3 : Int32} {v4 : Int32} {v5 : Int32} {S : HS} (h : P_X9_saves v0 v1 v2 v3 v4 v5 Q S) : P_X9_saves v0 v1 v2 v3 v4 v5 (fun r T => Q r T ∧ K7 S T) S := kw_X9_saves_0 h (k7_rf S)
set_option maxRecDepth 20000 in
set_option maxHeartbeats 1000000 in
theorem kw_X9_soaked_27 {Q : Int32 → HS → Prop} {v0 : Nat} {S0 S : HS} (h : P_X9_soaked_27 Q v0 S) (K : K7 S0 S) : P_X9_soaked_27 (fun r T => Q r T ∧ K7 S0 T) v0 S := by
  delta P_X9_soaked_27 at h ⊢
  obtain ⟨c1, h⟩ := h
  refine ⟨c1, ?_⟩
  have n2 := k7_nk K c1 (by decide)
  refine cm_X9_refuse (kw_X9_refuse h) h (fun x3 x4 p6 h g5 => ?_)
  have h := h g5
  have K := k7_tr K p6.2
  exact ⟨h, K⟩
set_option maxRecDepth 20000 in
set_option maxHeartbeats 1000000 in
theorem kw_X9_soaked_88 {Q : Int32 → HS → Prop} {s0 : Nat} {s1 : Int32} {S0 S : HS} (h : P_X9_soaked_88 Q s0 s1 S) (K : K7 S0 S) : P_X9_soaked_88 (fun r T => Q r T ∧ K7 S0 T) s0 s1 S := by
  delta P_X9_soaked_88 at h ⊢
  obtain ⟨c1, h⟩ := h
  refine ⟨c1, ?_⟩
  have n2 := k7_nk K c1 (by decide)
  refine cm_X9_grant (kw_X9_grant h) h (fun x3 x4 p6 h g5 => ?_)
  have h := h g5
  have K := k7_tr K p6.2
  exact ⟨h, K⟩
set_option maxRecDepth 20000 in
set_option maxHeartbeats 1000000 in
theorem kw_X9_soaked_0 {Q : Int32 → HS → Prop} {v0 : Nat} {S0 S : HS} (h : P_X9_soaked_0 Q v0 S) (K : K7 S0 S) : P_X9_soaked_0 (fun r T => Q r T ∧ K7 S0 T) v0 S := by
  delta P_X9_soaked_0 at h ⊢
  obtain ⟨c1, h⟩ := h
  refine ⟨c1, ?_⟩
  have n2 := k7_nk K c1 (by decide)
  obtain ⟨b3, e4, h⟩ := h
  refine ⟨b3, e4, ?_⟩
  obtain ⟨c5, h⟩ := h
  refine ⟨c5, ?_⟩
  have n6 := k7_nk K c5 (by decide)
  refine cm_X0_isOn (kw_X0_isOn h) h (fun x7 x8 p11 h g9 g10 => ?_)
  have h := h g9 g10
  have K := k7_tr K p11.2
  refine ⟨?_, ?_⟩
  · intro c12
    have h := h.1 c12
    exact kw_X9_soaked_27 h K
  · intro c13
    have h := h.2 c13
    obtain ⟨b14, e15, h⟩ := h
    refine ⟨b14, e15, ?_⟩
    obtain ⟨b16, e17, h⟩ := h
    refine ⟨b16, e17, ?_⟩
    obtain ⟨c18, h⟩ := h
    refine ⟨c18, ?_⟩
    have n19 := k7_nk K c18 (by decide)
    intro x21 e20
    have h := h x21 e20
    obtain ⟨c22, h⟩ := h
    refine ⟨c22, ?_⟩
    have n23 := k7_nk K c22 (by decide)
    refine cm_X8_hasWalker (kw_X8_hasWalker h) h (fun x24 x25 p28 h g26 g27 => ?_)
    have h := h g26 g27
    have K := k7_tr K p28.2
    refine ⟨?_, ?_⟩
    · intro c29
      have h := h.1 c29
      obtain ⟨b30, e31, h⟩ := h
      refine ⟨b30, e31, ?_⟩
      obtain ⟨c32, h⟩ := h
      refine ⟨c32, ?_⟩
      have n33 := k7_nk K c32 (by decide)
      obtain ⟨b34, e35, h⟩ := h
      refine ⟨b34, e35, ?_⟩
      obtain ⟨b36, e37, h⟩ := h
      refine ⟨b36, e37, ?_⟩
      obtain ⟨c38, h⟩ := h
      refine ⟨c38, ?_⟩
      have n39 := k7_nk K c38 (by decide)
      intro x41 e40
      have h := h x41 e40
      obtain ⟨c42, h⟩ := h
      refine ⟨c42, ?_⟩
      have n43 := k7_nk K c42 (by decide)
      obtain ⟨c44, h⟩ := h
      refine ⟨c44, ?_⟩
      obtain ⟨b45, e46, h⟩ := h
      refine ⟨b45, e46, ?_⟩
      obtain ⟨c47, h⟩ := h
      refine ⟨c47, ?_⟩
      have n48 := k7_nk K c47 (by decide)
      intro x50 e49
      have h := h x50 e49
      refine ⟨?_, ?_⟩
      · intro c51
        have h := h.1 c51
        obtain ⟨b52, e53, h⟩ := h
        refine ⟨b52, e53, ?_⟩
        obtain ⟨c54, h⟩ := h
        refine ⟨c54, ?_⟩
        have n55 := k7_nk K c54 (by decide)
        obtain ⟨b56, e57, h⟩ := h
        refine ⟨b56, e57, ?_⟩
        obtain ⟨c58, h⟩ := h
        refine ⟨c58, ?_⟩
        have n59 := k7_nk K c58 (by decide)
        refine cm_X2_allGot (kw_X2_allGot h) h (fun x60 x61 p63 h g62 => ?_)
        have h := h g62
        have K := k7_tr K p63.2
        refine cm_X9_coatParts (kw_X9_coatParts h) h (fun x64 x65 p67 h g66 => ?_)
        have h := h g66
        have K := k7_tr K p67.2
        refine ⟨?_, ?_⟩
        · intro c68
          have h := h.1 c68
          exact kw_X9_soaked_88 h K
        · intro c69
          have h := h.2 c69
          exact kw_X9_soaked_88 h K
      · intro c70
        have h := h.2 c70
        refine cm_X9_grant (kw_X9_grant h) h (fun x71 x72 p74 h g73 => ?_)
        have h := h g73
        have K := k7_tr K p74.2
        exact ⟨h, K⟩
    · intro c75
      have h := h.2 c75
      exact kw_X9_soaked_27 h K
theorem kw_X9_soaked {Q : Int32 → HS → Prop} {v0 : Nat} {S : HS} (h : P_X9_soaked v0 Q S) : P_X9_soaked v0 (fun r T => Q r T ∧ K7 S T) S := kw_X9_soaked_0 h (k7_rf S)
set_option maxRecDepth 20000 in
set_option maxHeartbeats 1000000 in
theorem kw_X9_stayTrouble_0 {Q : Int32 → HS → Prop} {v0 : Nat} {v1 : Int32} {S0 S : HS} (h : P_X9_stayTrouble_0 Q v0 v1 S) (K : K7 S0 S) : P_X9_stayTrouble_0 (fun r T => Q r T ∧ K7 S0 T) v0 v1 S := by
  delta P_X9_stayTrouble_0 at h ⊢
  obtain ⟨c1, h⟩ := h
  refine ⟨c1, ?_⟩
  have n2 := k7_nk K c1 (by decide)
  obtain ⟨b3, e4, h⟩ := h
  refine ⟨b3, e4, ?_⟩
  obtain ⟨c5, h⟩ := h
  refine ⟨c5, ?_⟩
  have n6 := k7_nk K c5 (by decide)
  refine cm_X0_isOn (kw_X0_isOn h) h (fun x7 x8 p11 h g9 g10 => ?_)
  have h := h g9 g10
  have K := k7_tr K p11.2
  refine ⟨?_, ?_⟩
  · intro c12
    have h := h.1 c12
    exact ⟨h, K⟩
  · intro c13
    have h := h.2 c13
    obtain ⟨b14, e15, h⟩ := h
    refine ⟨b14, e15, ?_⟩
    obtain ⟨b16, e17, h⟩ := h
    refine ⟨b16, e17, ?_⟩
    obtain ⟨c18, h⟩ := h
    refine ⟨c18, ?_⟩
    have n19 := k7_nk K c18 (by decide)
    intro x21 e20
    have h := h x21 e20
    obtain ⟨c22, h⟩ := h
    refine ⟨c22, ?_⟩
    have n23 := k7_nk K c22 (by decide)
    refine cm_X8_hasWalker (kw_X8_hasWalker h) h (fun x24 x25 p28 h g26 g27 => ?_)
    have h := h g26 g27
    have K := k7_tr K p28.2
    refine ⟨?_, ?_⟩
    · intro c29
      have h := h.1 c29
      refine ⟨?_, ?_⟩
      · intro c30
        have h := h.1 c30
        exact ⟨h, K⟩
      · intro c31
        have h := h.2 c31
        refine ⟨?_, ?_⟩
        · intro c32
          have h := h.1 c32
          obtain ⟨b33, e34, h⟩ := h
          refine ⟨b33, e34, ?_⟩
          obtain ⟨b35, e36, h⟩ := h
          refine ⟨b35, e36, ?_⟩
          obtain ⟨c37, h⟩ := h
          refine ⟨c37, ?_⟩
          have n38 := k7_nk K c37 (by decide)
          obtain ⟨b39, e40, h⟩ := h
          refine ⟨b39, e40, ?_⟩
          obtain ⟨c41, h⟩ := h
          refine ⟨c41, ?_⟩
          have n42 := k7_nk K c41 (by decide)
          intro x44 e43
          have h := h x44 e43
          obtain ⟨c45, h⟩ := h
          refine ⟨c45, ?_⟩
          have n46 := k7_nk K c45 (by decide)
          refine cm_X8_canWait (kw_X8_canWait h) h (fun x47 x48 p51 h g49 g50 => ?_)
          have h := h g49 g50
          have K := k7_tr K p51.2
          refine ⟨?_, ?_⟩
          · intro c52
            have h := h.1 c52
            obtain ⟨b53, e54, h⟩ := h
            refine ⟨b53, e54, ?_⟩
            obtain ⟨c55, h⟩ := h
            refine ⟨c55, ?_⟩
            have n56 := k7_nk K c55 (by decide)
            obtain ⟨b57, e58, h⟩ := h
            refine ⟨b57, e58, ?_⟩
            obtain ⟨c59, h⟩ := h
            refine ⟨c59, ?_⟩
            have n60 := k7_nk K c59 (by decide)
            intro x62 e61
            have h := h x62 e61
            refine ⟨?_, ?_⟩
            · intro c63
              have h := h.1 c63
              exact ⟨h, K⟩
            · intro c64
              have h := h.2 c64
              exact ⟨h, K⟩
          · intro c65
            have h := h.2 c65
            exact ⟨h, K⟩
        · intro c66
          have h := h.2 c66
          exact ⟨h, K⟩
    · intro c67
      have h := h.2 c67
      exact ⟨h, K⟩
theorem kw_X9_stayTrouble {Q : Int32 → HS → Prop} {v0 : Nat} {v1 : Int32} {S : HS} (h : P_X9_stayTrouble v0 v1 Q S) : P_X9_stayTrouble v0 v1 (fun r T => Q r T ∧ K7 S T) S := kw_X9_stayTrouble_0 h (k7_rf S)
set_option maxRecDepth 20000 in
set_option maxHeartbeats 1000000 in
theorem kw_X9_stay_111 {Q : Int32 → HS → Prop} {X58 X58_2 : Nat → Int32 → Int64 → Int32 → HS → Prop} {v0 : Nat} {v1 : Int32} {v2 : Int64} {v4 : Int32} {S0 S : HS} (h : P_X9_stay_111 Q X58 v0 v1 v2 v4 S) (K : K7 S0 S) (hX58 : ∀ (u0 : Nat) (u1 : Int32) (u2 : Int64) (u3 : Int32) (u4 : HS), X58 u0 u1 u2 u3 u4 → K7 S0 u4 → X58_2 u0 u1 u2 u3 u4) : P_X9_stay_111 (fun r T => Q r T ∧ K7 S0 T) X58_2 v0 v1 v2 v4 S := by
  delta P_X9_stay_111 at h ⊢
  obtain ⟨c1, h⟩ := h
  refine ⟨c1, ?_⟩
  have n2 := k7_nk K c1 (by decide)
  obtain ⟨b3, e4, h⟩ := h
  refine ⟨b3, e4, ?_⟩
  obtain ⟨c5, h⟩ := h
  refine ⟨c5, ?_⟩
  have n6 := k7_nk K c5 (by decide)
  obtain ⟨b7, e8, h⟩ := h
  refine ⟨b7, e8, ?_⟩
  obtain ⟨c9, h⟩ := h
  refine ⟨c9, ?_⟩
  have n10 := k7_nk K c9 (by decide)
  intro x12 e11
  have h := h x12 e11
  intro x14 e13
  have h := h x14 e13
  intro x16 e15
  have h := h x16 e15
  have K := k7_I K e15 n10
  intro x18 e17
  have h := h x18 e17
  exact hX58 _ _ _ _ _ h K
set_option maxRecDepth 20000 in
set_option maxHeartbeats 1000000 in
theorem kwB_X9_stay_58 {Q : Int32 → HS → Prop} {X58 X58_2 : Nat → Int32 → Int64 → Int32 → HS → Prop} {v0 : Nat} {v1 : Int32} {v2 : Int64} {v4 : Int32} {S0 S : HS} (h : B_X9_stay_58 Q X58 v0 v1 v2 v4 S) (K : K7 S0 S) (hX58 : ∀ (u0 : Nat) (u1 : Int32) (u2 : Int64) (u3 : Int32) (u4 : HS), X58 u0 u1 u2 u3 u4 → K7 S0 u4 → X58_2 u0 u1 u2 u3 u4) : B_X9_stay_58 (fun r T => Q r T ∧ K7 S0 T) X58_2 v0 v1 v2 v4 S := by
  delta B_X9_stay_58 at h ⊢
  refine ⟨?_, ?_⟩
  · intro c1
    have h := h.1 c1
    exact ⟨h, K⟩
  · intro c2
    have h := h.2 c2
    obtain ⟨c3, h⟩ := h
    refine ⟨c3, ?_⟩
    have n4 := k7_nk K c3 (by decide)
    obtain ⟨b5, e6, h⟩ := h
    refine ⟨b5, e6, ?_⟩
    obtain ⟨b7, e8, h⟩ := h
    refine ⟨b7, e8, ?_⟩
    obtain ⟨b9, e10, h⟩ := h
    refine ⟨b9, e10, ?_⟩
    obtain ⟨c11, h⟩ := h
    refine ⟨c11, ?_⟩
    have n12 := k7_nk K c11 (by decide)
    obtain ⟨b13, e14, h⟩ := h
    refine ⟨b13, e14, ?_⟩
    obtain ⟨c15, h⟩ := h
    refine ⟨c15, ?_⟩
    have n16 := k7_nk K c15 (by decide)
    intro x18 e17
    have h := h x18 e17
    obtain ⟨c19, h⟩ := h
    refine ⟨c19, ?_⟩
    have n20 := k7_nk K c19 (by decide)
    refine cm_X8_hourOf (kw_X8_hourOf h) h (fun x21 x22 p24 h g23 => ?_)
    have h := h g23
    have K := k7_tr K p24.2
    obtain ⟨c25, h⟩ := h
    refine ⟨c25, ?_⟩
    have n26 := k7_nk K c25 (by decide)
    refine cm_X0_rainsIn (kw_X0_rainsIn h) h (fun x27 x28 p31 h g29 g30 => ?_)
    have h := h g29 g30
    have K := k7_tr K p31.2
    refine ⟨?_, ?_⟩
    · intro c32
      have h := h.1 c32
      exact kw_X9_stay_111 h K hX58
    · intro c33
      have h := h.2 c33
      obtain ⟨b34, e35, h⟩ := h
      refine ⟨b34, e35, ?_⟩
      obtain ⟨c36, h⟩ := h
      refine ⟨c36, ?_⟩
      have n37 := k7_nk K c36 (by decide)
      obtain ⟨b38, e39, h⟩ := h
      refine ⟨b38, e39, ?_⟩
      obtain ⟨c40, h⟩ := h
      refine ⟨c40, ?_⟩
      have n41 := k7_nk K c40 (by decide)
      obtain ⟨b42, e43, h⟩ := h
      refine ⟨b42, e43, ?_⟩
      obtain ⟨c44, h⟩ := h
      refine ⟨c44, ?_⟩
      have n45 := k7_nk K c44 (by decide)
      obtain ⟨c46, h⟩ := h
      refine ⟨c46, ?_⟩
      intro x48 e47
      have h := h x48 e47
      intro x50 e49
      have h := h x50 e49
      obtain ⟨c51, h⟩ := h
      refine ⟨c51, ?_⟩
      intro x53 e52
      have h := h x53 e52
      have K := k7_J K e52
      exact kw_X9_stay_111 h K hX58
theorem kw_X9_stay_58 {Q : Int32 → HS → Prop} {v0 : Nat} {v1 : Int32} {v2 : Int64} {v4 : Int32} {S0 S : HS} (h : P_X9_stay_58 Q v0 v1 v2 v4 S) (K : K7 S0 S) : P_X9_stay_58 (fun r T => Q r T ∧ K7 S0 T) v0 v1 v2 v4 S := h (fun v0 v1 v2 v4 S => K7 S0 S → P_X9_stay_58 (fun r T => Q r T ∧ K7 S0 T) v0 v1 v2 v4 S) (fun v0 v1 v2 v4 S hB K => fd_X9_stay_58 (kwB_X9_stay_58 hB K (fun _ _ _ _ _ hx K => hx K))) K
set_option maxRecDepth 20000 in
set_option maxHeartbeats 1000000 in
theorem kw_X9_stay_0 {Q : Int32 → HS → Prop} {v0 : Nat} {v1 : Int32} {S0 S : HS} (h : P_X9_stay_0 Q v0 v1 S) (K : K7 S0 S) : P_X9_stay_0 (fun r T => Q r T ∧ K7 S0 T) v0 v1 S := by
  delta P_X9_stay_0 at h ⊢
  obtain ⟨c1, h⟩ := h
  refine ⟨c1, ?_⟩
  have n2 := k7_nk K c1 (by decide)
  refine cm_X9_stayTrouble (kw_X9_stayTrouble h) h (fun x3 x4 p6 h g5 => ?_)
  have h := h g5
  have K := k7_tr K p6.2
  refine cm_X9_refusedBy (kw_X9_refusedBy h) h (fun x7 x8 p11 h g9 g10 => ?_)
  have h := h g9 g10
  have K := k7_tr K p11.2
  refine ⟨?_, ?_⟩
  · intro c12
    have h := h.1 c12
    obtain ⟨b13, e14, h⟩ := h
    refine ⟨b13, e14, ?_⟩
    obtain ⟨c15, h⟩ := h
    refine ⟨c15, ?_⟩
    have n16 := k7_nk K c15 (by decide)
    refine cm_X0_keepForUndo (kw_X0_keepForUndo h) h (fun x17 p19 h g18 => ?_)
    have h := h g18
    have K := k7_tr K p19.2
    obtain ⟨b20, e21, h⟩ := h
    refine ⟨b20, e21, ?_⟩
    obtain ⟨b22, e23, h⟩ := h
    refine ⟨b22, e23, ?_⟩
    obtain ⟨c24, h⟩ := h
    refine ⟨c24, ?_⟩
    have n25 := k7_nk K c24 (by decide)
    obtain ⟨b26, e27, h⟩ := h
    refine ⟨b26, e27, ?_⟩
    obtain ⟨b28, e29, h⟩ := h
    refine ⟨b28, e29, ?_⟩
    obtain ⟨c30, h⟩ := h
    refine ⟨c30, ?_⟩
    have n31 := k7_nk K c30 (by decide)
    intro x33 e32
    have h := h x33 e32
    obtain ⟨c34, h⟩ := h
    refine ⟨c34, ?_⟩
    have n35 := k7_nk K c34 (by decide)
    obtain ⟨c36, h⟩ := h
    refine ⟨c36, ?_⟩
    obtain ⟨b37, e38, h⟩ := h
    refine ⟨b37, e38, ?_⟩
    obtain ⟨b39, e40, h⟩ := h
    refine ⟨b39, e40, ?_⟩
    obtain ⟨c41, h⟩ := h
    refine ⟨c41, ?_⟩
    have n42 := k7_nk K c41 (by decide)
    obtain ⟨b43, e44, h⟩ := h
    refine ⟨b43, e44, ?_⟩
    obtain ⟨c45, h⟩ := h
    refine ⟨c45, ?_⟩
    have n46 := k7_nk K c45 (by decide)
    intro x48 e47
    have h := h x48 e47
    obtain ⟨c49, h⟩ := h
    refine ⟨c49, ?_⟩
    have n50 := k7_nk K c49 (by decide)
    refine cm_X8_dripOn (kw_X8_dripOn h) h (fun x51 x52 p54 h g53 => ?_)
    have h := h g53
    have K := k7_tr K p54.2
    intro x56 e55
    have h := h x56 e55
    exact kw_X9_stay_58 h K
  · intro c57
    have h := h.2 c57
    exact ⟨h, K⟩
theorem kw_X9_stay {Q : Int32 → HS → Prop} {v0 : Nat} {v1 : Int32} {S : HS} (h : P_X9_stay v0 v1 Q S) : P_X9_stay v0 v1 (fun r T => Q r T ∧ K7 S T) S := kw_X9_stay_0 h (k7_rf S)
set_option maxRecDepth 20000 in
set_option maxHeartbeats 1000000 in
theorem kw_X9_step_61 {Q : Int32 → HS → Prop} {v0 : Nat} {S0 S : HS} (h : P_X9_step_61 Q v0 S) (K : K7 S0 S) : P_X9_step_61 (fun r T => Q r T ∧ K7 S0 T) v0 S := by
  delta P_X9_step_61 at h ⊢
  obtain ⟨c1, h⟩ := h
  refine ⟨c1, ?_⟩
  have n2 := k7_nk K c1 (by decide)
  refine cm_X9_refuse (kw_X9_refuse h) h (fun x3 x4 p6 h g5 => ?_)
  have h := h g5
  have K := k7_tr K p6.2
  exact ⟨h, K⟩
set_option maxRecDepth 20000 in
set_option maxHeartbeats 1000000 in
theorem kw_X9_step_0 {Q : Int32 → HS → Prop} {v0 : Nat} {v1 : Int32} {v2 : Int32} {v3 : Int32} {v4 : Int32} {v5 : Int32} {v6 : Int32} {S0 S : HS} (h : P_X9_step_0 Q v0 v1 v2 v3 v4 v5 v6 S) (K : K7 S0 S) : P_X9_step_0 (fun r T => Q r T ∧ K7 S0 T) v0 v1 v2 v3 v4 v5 v6 S := by
  delta P_X9_step_0 at h ⊢
  obtain ⟨c1, h⟩ := h
  refine ⟨c1, ?_⟩
  have n2 := k7_nk K c1 (by decide)
  refine cm_X9_wayTrouble (kw_X9_wayTrouble h) h (fun x3 x4 p6 h g5 => ?_)
  have h := h g5
  have K := k7_tr K p6.2
  refine cm_X9_refusedBy (kw_X9_refusedBy h) h (fun x7 x8 p11 h g9 g10 => ?_)
  have h := h g9 g10
  have K := k7_tr K p11.2
  refine ⟨?_, ?_⟩
  · intro c12
    have h := h.1 c12
    obtain ⟨b13, e14, h⟩ := h
    refine ⟨b13, e14, ?_⟩
    obtain ⟨b15, e16, h⟩ := h
    refine ⟨b15, e16, ?_⟩
    obtain ⟨c17, h⟩ := h
    refine ⟨c17, ?_⟩
    have n18 := k7_nk K c17 (by decide)
    have o19 := c17
    refine cm_X7_trace (kw_X7_trace h) h (fun x20 x21 p23 h g22 => ?_)
    have h := h g22
    have K := k7_tr K p23.2
    have o19 := gr_ob p23.2.1 o19
    refine ⟨?_, ?_⟩
    · intro c24
      have h := h.1 c24
      exact kw_X9_step_61 h K
    · intro c25
      have h := h.2 c25
      refine ⟨?_, ?_⟩
      · intro c26
        have h := h.1 c26
        exact kw_X9_step_61 h K
      · intro c27
        have h := h.2 c27
        obtain ⟨b28, e29, h⟩ := h
        refine ⟨b28, e29, ?_⟩
        obtain ⟨c30, h⟩ := h
        refine ⟨c30, ?_⟩
        have n31 := k7_nk K c30 (by decide)
        have o32 := c30
        obtain ⟨b33, e34, h⟩ := h
        refine ⟨b33, e34, ?_⟩
        have n35 := k7_nr K e34 o32 (by decide)
        obtain ⟨c36, h⟩ := h
        refine ⟨c36, ?_⟩
        refine ⟨?_, ?_⟩
        · intro c37
          have h := h.1 c37
          obtain ⟨b38, e39, h⟩ := h
          refine ⟨b38, e39, ?_⟩
          obtain ⟨c40, h⟩ := h
          refine ⟨c40, ?_⟩
          have n41 := k7_nk K c40 (by decide)
          have o42 := c40
          obtain ⟨b43, e44, h⟩ := h
          refine ⟨b43, e44, ?_⟩
          have n45 := k7_nr K e44 o42 (by decide)
          obtain ⟨c46, h⟩ := h
          refine ⟨c46, ?_⟩
          obtain ⟨c47, h⟩ := h
          refine ⟨c47, ?_⟩
          intro x49 e48
          have h := h x49 e48
          exact ⟨h, K⟩
        · intro c50
          have h := h.2 c50
          exact kw_X9_step_61 h K
  · intro c51
    have h := h.2 c51
    exact ⟨h, K⟩
theorem kw_X9_step {Q : Int32 → HS → Prop} {v0 : Nat} {v1 : Int32} {v2 : Int32} {v3 : Int32} {v4 : Int32} {v5 : Int32} {v6 : Int32} {S : HS} (h : P_X9_step v0 v1 v2 v3 v4 v5 v6 Q S) : P_X9_step v0 v1 v2 v3 v4 v5 v6 (fun r T => Q r T ∧ K7 S T) S := kw_X9_step_0 h (k7_rf S)
set_option maxRecDepth 20000 in
set_option maxHeartbeats 1000000 in
theorem kw_X9_steps_0 {Q : Int32 → HS → Prop} {v0 : Nat} {v1 : Int32} {v2 : Int32} {v3 : Int32} {v4 : Int32} {v5 : Int32} {S0 S : HS} (h : P_X9_steps_0 Q v0 v1 v2 v3 v4 v5 S) (K : K7 S0 S) : P_X9_steps_0 (fun r T => Q r T ∧ K7 S0 T) v0 v1 v2 v3 v4 v5 S := by
  delta P_X9_steps_0 at h ⊢
  obtain ⟨c1, h⟩ := h
  refine ⟨c1, ?_⟩
  have n2 := k7_nk K c1 (by decide)
  refine cm_X9_wayTrouble (kw_X9_wayTrouble h) h (fun x3 x4 p6 h g5 => ?_)
  have h := h g5
  have K := k7_tr K p6.2
  refine cm_X9_refusedBy (kw_X9_refusedBy h) h (fun x7 x8 p11 h g9 g10 => ?_)
  have h := h g9 g10
  have K := k7_tr K p11.2
  refine ⟨?_, ?_⟩
  · intro c12
    have h := h.1 c12
    obtain ⟨b13, e14, h⟩ := h
    refine ⟨b13, e14, ?_⟩
    obtain ⟨b15, e16, h⟩ := h
    refine ⟨b15, e16, ?_⟩
    obtain ⟨c17, h⟩ := h
    refine ⟨c17, ?_⟩
    have n18 := k7_nk K c17 (by decide)
    have o19 := c17
    refine cm_X7_trace (kw_X7_trace h) h (fun x20 x21 p23 h g22 => ?_)
    have h := h g22
    have K := k7_tr K p23.2
    have o19 := gr_ob p23.2.1 o19
    exact ⟨h, K⟩
  · intro c24
    have h := h.2 c24
    exact ⟨h, K⟩
theorem kw_X9_steps {Q : Int32 → HS → Prop} {v0 : Nat} {v1 : Int32} {v2 : Int32} {v3 : Int32} {v4 : Int32} {v5 : Int32} {S : HS} (h : P_X9_steps v0 v1 v2 v3 v4 v5 Q S) : P_X9_steps v0 v1 v2 v3 v4 v5 (fun r T => Q r T ∧ K7 S T) S := kw_X9_steps_0 h (k7_rf S)
set_option maxRecDepth 20000 in
set_option maxHeartbeats 1000000 in
theorem kw_X9_there_0 {Q : Int32 → HS → Prop} {v0 : Nat} {v1 : Int32} {v2 : Int32} {v3 : Int32} {v4 : Int32} {v5 : Int32} {S0 S : HS} (h : P_X9_there_0 Q v0 v1 v2 v3 v4 v5 S) (K : K7 S0 S) : P_X9_there_0 (fun r T => Q r T ∧ K7 S0 T) v0 v1 v2 v3 v4 v5 S := by
  delta P_X9_there_0 at h ⊢
  obtain ⟨c1, h⟩ := h
  refine ⟨c1, ?_⟩
  have n2 := k7_nk K c1 (by decide)
  refine cm_X9_wayTrouble (kw_X9_wayTrouble h) h (fun x3 x4 p6 h g5 => ?_)
  have h := h g5
  have K := k7_tr K p6.2
  refine cm_X9_refusedBy (kw_X9_refusedBy h) h (fun x7 x8 p11 h g9 g10 => ?_)
  have h := h g9 g10
  have K := k7_tr K p11.2
  refine ⟨?_, ?_⟩
  · intro c12
    have h := h.1 c12
    obtain ⟨b13, e14, h⟩ := h
    refine ⟨b13, e14, ?_⟩
    obtain ⟨c15, h⟩ := h
    refine ⟨c15, ?_⟩
    have n16 := k7_nk K c15 (by decide)
    have o17 := c15
    refine cm_X7_endFrom (kw_X7_endFrom h) h (fun x18 x19 p21 h g20 => ?_)
    have h := h g20
    have K := k7_tr K p21.2
    have o17 := gr_ob p21.2.1 o17
    exact ⟨h, K⟩
  · intro c22
    have h := h.2 c22
    exact ⟨h, K⟩
theorem kw_X9_there {Q : Int32 → HS → Prop} {v0 : Nat} {v1 : Int32} {v2 : Int32} {v3 : Int32} {v4 : Int32} {v5 : Int32} {S : HS} (h : P_X9_there v0 v1 v2 v3 v4 v5 Q S) : P_X9_there v0 v1 v2 v3 v4 v5 (fun r T => Q r T ∧ K7 S T) S := kw_X9_there_0 h (k7_rf S)
set_option maxRecDepth 20000 in
set_option maxHeartbeats 1000000 in
theorem kw_X9_undo_17 {Q : Int32 → HS → Prop} {s0 : Nat} {s1 : Int32} {S0 S : HS} (h : P_X9_undo_17 Q s0 s1 S) (K : K7 S0 S) : P_X9_undo_17 (fun r T => Q r T ∧ K7 S0 T) s0 s1 S := by
  delta P_X9_undo_17 at h ⊢
  obtain ⟨c1, h⟩ := h
  refine ⟨c1, ?_⟩
  have n2 := k7_nk K c1 (by decide)
  refine cm_X9_refusedBy (kw_X9_refusedBy h) h (fun x3 x4 p7 h g5 g6 => ?_)
  have h := h g5 g6
  have K := k7_tr K p7.2
  refine ⟨?_, ?_⟩
  · intro c8
    have h := h.1 c8
    exact ⟨h, K⟩
  · intro c9
    have h := h.2 c9
    exact ⟨h, K⟩
set_option maxRecDepth 20000 in
set_option maxHeartbeats 1000000 in
theorem kw_X9_undo_0 {Q : Int32 → HS → Prop} {v0 : Nat} {S0 S : HS} (h : P_X9_undo_0 Q v0 S) (K : K7 S0 S) : P_X9_undo_0 (fun r T => Q r T ∧ K7 S0 T) v0 S := by
  delta P_X9_undo_0 at h ⊢
  obtain ⟨c1, h⟩ := h
  refine ⟨c1, ?_⟩
  have n2 := k7_nk K c1 (by decide)
  obtain ⟨b3, e4, h⟩ := h
  refine ⟨b3, e4, ?_⟩
  obtain ⟨c5, h⟩ := h
  refine ⟨c5, ?_⟩
  have n6 := k7_nk K c5 (by decide)
  refine cm_X0_takeBack (kw_X0_takeBack h) h (fun x7 x8 p11 h g9 g10 => ?_)
  have h := h g9 g10
  have K := k7_tr K p11.2
  refine ⟨?_, ?_⟩
  · intro c12
    have h := h.1 c12
    exact kw_X9_undo_17 h K
  · intro c13
    have h := h.2 c13
    exact kw_X9_undo_17 h K
theorem kw_X9_undo {Q : Int32 → HS → Prop} {v0 : Nat} {S : HS} (h : P_X9_undo v0 Q S) : P_X9_undo v0 (fun r T => Q r T ∧ K7 S T) S := kw_X9_undo_0 h (k7_rf S)
set_option maxRecDepth 20000 in
set_option maxHeartbeats 1000000 in
theorem kw_X9_walker_21 {Q : Int32 → HS → Prop} {v0 : Nat} {S0 S : HS} (h : P_X9_walker_21 Q v0 S) (K : K7 S0 S) : P_X9_walker_21 (fun r T => Q r T ∧ K7 S0 T) v0 S := by
  delta P_X9_walker_21 at h ⊢
  obtain ⟨c1, h⟩ := h
  refine ⟨c1, ?_⟩
  have n2 := k7_nk K c1 (by decide)
  refine cm_X9_refuse (kw_X9_refuse h) h (fun x3 x4 p6 h g5 => ?_)
  have h := h g5
  have K := k7_tr K p6.2
  exact ⟨h, K⟩
set_option maxRecDepth 20000 in
set_option maxHeartbeats 1000000 in
theorem kw_X9_walker_0 {Q : Int32 → HS → Prop} {v0 : Nat} {v1 : Int32} {v2 : Int32} {S0 S : HS} (h : P_X9_walker_0 Q v0 v1 v2 S) (K : K7 S0 S) : P_X9_walker_0 (fun r T => Q r T ∧ K7 S0 T) v0 v1 v2 S := by
  delta P_X9_walker_0 at h ⊢
  obtain ⟨c1, h⟩ := h
  refine ⟨c1, ?_⟩
  have n2 := k7_nk K c1 (by decide)
  obtain ⟨b3, e4, h⟩ := h
  refine ⟨b3, e4, ?_⟩
  obtain ⟨c5, h⟩ := h
  refine ⟨c5, ?_⟩
  have n6 := k7_nk K c5 (by decide)
  refine cm_X8_hasWalker (kw_X8_hasWalker h) h (fun x7 x8 p11 h g9 g10 => ?_)
  have h := h g9 g10
  have K := k7_tr K p11.2
  refine ⟨?_, ?_⟩
  · intro c12
    have h := h.1 c12
    exact kw_X9_walker_21 h K
  · intro c13
    have h := h.2 c13
    refine ⟨?_, ?_⟩
    · intro c14
      have h := h.1 c14
      exact kw_X9_walker_21 h K
    · intro c15
      have h := h.2 c15
      refine ⟨?_, ?_⟩
      · intro c16
        have h := h.1 c16
        obtain ⟨b17, e18, h⟩ := h
        refine ⟨b17, e18, ?_⟩
        obtain ⟨c19, h⟩ := h
        refine ⟨c19, ?_⟩
        have n20 := k7_nk K c19 (by decide)
        obtain ⟨b21, e22, h⟩ := h
        refine ⟨b21, e22, ?_⟩
        obtain ⟨c23, h⟩ := h
        refine ⟨c23, ?_⟩
        have n24 := k7_nk K c23 (by decide)
        obtain ⟨c25, h⟩ := h
        refine ⟨c25, ?_⟩
        obtain ⟨b26, e27, h⟩ := h
        refine ⟨b26, e27, ?_⟩
        obtain ⟨c28, h⟩ := h
        refine ⟨c28, ?_⟩
        have n29 := k7_nk K c28 (by decide)
        refine cm_X6_tell (kw_X6_tell h) h (fun x30 x31 p33 h g32 => ?_)
        have h := h g32
        have K := k7_tr K p33.2
        refine cm_X9_grant (kw_X9_grant h) h (fun x34 x35 p37 h g36 => ?_)
        have h := h g36
        have K := k7_tr K p37.2
        exact ⟨h, K⟩
      · intro c38
        have h := h.2 c38
        exact kw_X9_walker_21 h K
theorem kw_X9_walker {Q : Int32 → HS → Prop} {v0 : Nat} {v1 : Int32} {v2 : Int32} {S : HS} (h : P_X9_walker v0 v1 v2 Q S) : P_X9_walker v0 v1 v2 (fun r T => Q r T ∧ K7 S T) S := kw_X9_walker_0 h (k7_rf S)
set_option maxRecDepth 20000 in
set_option maxHeartbeats 1000000 in
theorem kw_X9_wet_0 {Q : Int64 → HS → Prop} {v0 : Nat} {v1 : Int32} {v2 : Int32} {v3 : Int32} {v4 : Int32} {v5 : Int32} {v6 : Int32} {S0 S : HS} (h : P_X9_wet_0 Q v0 v1 v2 v3 v4 v5 v6 S) (K : K7 S0 S) : P_X9_wet_0 (fun r T => Q r T ∧ K7 S0 T) v0 v1 v2 v3 v4 v5 v6 S := by
  delta P_X9_wet_0 at h ⊢
  obtain ⟨c1, h⟩ := h
  refine ⟨c1, ?_⟩
  have n2 := k7_nk K c1 (by decide)
  refine cm_X9_legTrouble (kw_X9_legTrouble h) h (fun x3 x4 p6 h g5 => ?_)
  have h := h g5
  have K := k7_tr K p6.2
  refine cm_X9_refusedBy (kw_X9_refusedBy h) h (fun x7 x8 p11 h g9 g10 => ?_)
  have h := h g9 g10
  have K := k7_tr K p11.2
  refine ⟨?_, ?_⟩
  · intro c12
    have h := h.1 c12
    obtain ⟨b13, e14, h⟩ := h
    refine ⟨b13, e14, ?_⟩
    obtain ⟨b15, e16, h⟩ := h
    refine ⟨b15, e16, ?_⟩
    obtain ⟨c17, h⟩ := h
    refine ⟨c17, ?_⟩
    have n18 := k7_nk K c17 (by decide)
    obtain ⟨b19, e20, h⟩ := h
    refine ⟨b19, e20, ?_⟩
    obtain ⟨c21, h⟩ := h
    refine ⟨c21, ?_⟩
    have n22 := k7_nk K c21 (by decide)
    obtain ⟨c23, h⟩ := h
    refine ⟨c23, ?_⟩
    obtain ⟨b24, e25, h⟩ := h
    refine ⟨b24, e25, ?_⟩
    obtain ⟨b26, e27, h⟩ := h
    refine ⟨b26, e27, ?_⟩
    obtain ⟨c28, h⟩ := h
    refine ⟨c28, ?_⟩
    have n29 := k7_nk K c28 (by decide)
    obtain ⟨b30, e31, h⟩ := h
    refine ⟨b30, e31, ?_⟩
    obtain ⟨c32, h⟩ := h
    refine ⟨c32, ?_⟩
    have n33 := k7_nk K c32 (by decide)
    obtain ⟨c34, h⟩ := h
    refine ⟨c34, ?_⟩
    obtain ⟨b35, e36, h⟩ := h
    refine ⟨b35, e36, ?_⟩
    obtain ⟨b37, e38, h⟩ := h
    refine ⟨b37, e38, ?_⟩
    obtain ⟨c39, h⟩ := h
    refine ⟨c39, ?_⟩
    have n40 := k7_nk K c39 (by decide)
    obtain ⟨b41, e42, h⟩ := h
    refine ⟨b41, e42, ?_⟩
    obtain ⟨c43, h⟩ := h
    refine ⟨c43, ?_⟩
    have n44 := k7_nk K c43 (by decide)
    obtain ⟨c45, h⟩ := h
    refine ⟨c45, ?_⟩
    obtain ⟨b46, e47, h⟩ := h
    refine ⟨b46, e47, ?_⟩
    obtain ⟨c48, h⟩ := h
    refine ⟨c48, ?_⟩
    have n49 := k7_nk K c48 (by decide)
    refine cm_X1_wetOf (kw_X1_wetOf h) h (fun x50 x51 p53 h g52 => ?_)
    have h := h g52
    have K := k7_tr K p53.2
    refine cm_X9_fraction (kw_X9_fraction h) h (fun x54 x55 p57 h g56 => ?_)
    have h := h g56
    have K := k7_tr K p57.2
    exact ⟨h, K⟩
  · intro c58
    have h := h.2 c58
    exact ⟨h, K⟩
theorem kw_X9_wet {Q : Int64 → HS → Prop} {v0 : Nat} {v1 : Int32} {v2 : Int32} {v3 : Int32} {v4 : Int32} {v5 : Int32} {v6 : Int32} {S : HS} (h : P_X9_wet v0 v1 v2 v3 v4 v5 v6 Q S) : P_X9_wet v0 v1 v2 v3 v4 v5 v6 (fun r T => Q r T ∧ K7 S T) S := kw_X9_wet_0 h (k7_rf S)
set_option maxRecDepth 20000 in
set_option maxHeartbeats 1000000 in
theorem kw_X9_wetness_27 {Q : Int64 → HS → Prop} {v0 : Nat} {S0 S : HS} (h : P_X9_wetness_27 Q v0 S) (K : K7 S0 S) : P_X9_wetness_27 (fun r T => Q r T ∧ K7 S0 T) v0 S := by
  delta P_X9_wetness_27 at h ⊢
  obtain ⟨c1, h⟩ := h
  refine ⟨c1, ?_⟩
  have n2 := k7_nk K c1 (by decide)
  refine cm_X9_refuse (kw_X9_refuse h) h (fun x3 x4 p6 h g5 => ?_)
  have h := h g5
  have K := k7_tr K p6.2
  exact ⟨h, K⟩
set_option maxRecDepth 20000 in
set_option maxHeartbeats 1000000 in
theorem kw_X9_wetness_0 {Q : Int64 → HS → Prop} {v0 : Nat} {v1 : Int32} {S0 S : HS} (h : P_X9_wetness_0 Q v0 v1 S) (K : K7 S0 S) : P_X9_wetness_0 (fun r T => Q r T ∧ K7 S0 T) v0 v1 S := by
  delta P_X9_wetness_0 at h ⊢
  obtain ⟨c1, h⟩ := h
  refine ⟨c1, ?_⟩
  have n2 := k7_nk K c1 (by decide)
  obtain ⟨b3, e4, h⟩ := h
  refine ⟨b3, e4, ?_⟩
  obtain ⟨c5, h⟩ := h
  refine ⟨c5, ?_⟩
  have n6 := k7_nk K c5 (by decide)
  refine cm_X0_isOn (kw_X0_isOn h) h (fun x7 x8 p11 h g9 g10 => ?_)
  have h := h g9 g10
  have K := k7_tr K p11.2
  refine ⟨?_, ?_⟩
  · intro c12
    have h := h.1 c12
    exact kw_X9_wetness_27 h K
  · intro c13
    have h := h.2 c13
    obtain ⟨b14, e15, h⟩ := h
    refine ⟨b14, e15, ?_⟩
    obtain ⟨b16, e17, h⟩ := h
    refine ⟨b16, e17, ?_⟩
    obtain ⟨c18, h⟩ := h
    refine ⟨c18, ?_⟩
    have n19 := k7_nk K c18 (by decide)
    intro x21 e20
    have h := h x21 e20
    obtain ⟨c22, h⟩ := h
    refine ⟨c22, ?_⟩
    have n23 := k7_nk K c22 (by decide)
    refine cm_X8_hasWalker (kw_X8_hasWalker h) h (fun x24 x25 p28 h g26 g27 => ?_)
    have h := h g26 g27
    have K := k7_tr K p28.2
    refine ⟨?_, ?_⟩
    · intro c29
      have h := h.1 c29
      intro x31 e30
      have h := h x31 e30
      have K := k7_I K e30 n2
      obtain ⟨b32, e33, h⟩ := h
      refine ⟨b32, e33, ?_⟩
      obtain ⟨c34, h⟩ := h
      refine ⟨c34, ?_⟩
      have n35 := k7_nk K c34 (by decide)
      obtain ⟨b36, e37, h⟩ := h
      refine ⟨b36, e37, ?_⟩
      obtain ⟨c38, h⟩ := h
      refine ⟨c38, ?_⟩
      have n39 := k7_nk K c38 (by decide)
      refine cm_X2_allGot (kw_X2_allGot h) h (fun x40 x41 p43 h g42 => ?_)
      have h := h g42
      have K := k7_tr K p43.2
      obtain ⟨b44, e45, h⟩ := h
      refine ⟨b44, e45, ?_⟩
      obtain ⟨c46, h⟩ := h
      refine ⟨c46, ?_⟩
      have n47 := k7_nk K c46 (by decide)
      obtain ⟨b48, e49, h⟩ := h
      refine ⟨b48, e49, ?_⟩
      obtain ⟨b50, e51, h⟩ := h
      refine ⟨b50, e51, ?_⟩
      obtain ⟨c52, h⟩ := h
      refine ⟨c52, ?_⟩
      have n53 := k7_nk K c52 (by decide)
      intro x55 e54
      have h := h x55 e54
      obtain ⟨c56, h⟩ := h
      refine ⟨c56, ?_⟩
      have n57 := k7_nk K c56 (by decide)
      obtain ⟨c58, h⟩ := h
      refine ⟨c58, ?_⟩
      obtain ⟨b59, e60, h⟩ := h
      refine ⟨b59, e60, ?_⟩
      refine cm_X9_coatParts (kw_X9_coatParts h) h (fun x61 x62 p64 h g63 => ?_)
      have h := h g63
      have K := k7_tr K p64.2
      intro x66 e65
      have h := h x66 e65
      intro x68 e67
      have h := h x68 e67
      refine cm_X9_fraction (kw_X9_fraction h) h (fun x69 x70 p72 h g71 => ?_)
      have h := h g71
      have K := k7_tr K p72.2
      exact ⟨h, K⟩
    · intro c73
      have h := h.2 c73
      exact kw_X9_wetness_27 h K
theorem kw_X9_wetness {Q : Int64 → HS → Prop} {v0 : Nat} {v1 : Int32} {S : HS} (h : P_X9_wetness v0 v1 Q S) : P_X9_wetness v0 v1 (fun r T => Q r T ∧ K7 S T) S := kw_X9_wetness_0 h (k7_rf S)
set_option maxRecDepth 20000 in
set_option maxHeartbeats 1000000 in
theorem kw_X9_worst_0 {Q : Int32 → HS → Prop} {v0 : Nat} {v1 : Int32} {v2 : Int32} {v3 : Int32} {v4 : Int32} {S0 S : HS} (h : P_X9_worst_0 Q v0 v1 v2 v3 v4 S) (K : K7 S0 S) : P_X9_worst_0 (fun r T => Q r T ∧ K7 S0 T) v0 v1 v2 v3 v4 S := by
  delta P_X9_worst_0 at h ⊢
  obtain ⟨c1, h⟩ := h
  refine ⟨c1, ?_⟩
  have n2 := k7_nk K c1 (by decide)
  refine cm_X9_tripTrouble (kw_X9_tripTrouble h) h (fun x3 x4 p6 h g5 => ?_)
  have h := h g5
  have K := k7_tr K p6.2
  refine cm_X9_refusedBy (kw_X9_refusedBy h) h (fun x7 x8 p11 h g9 g10 => ?_)
  have h := h g9 g10
  have K := k7_tr K p11.2
  refine ⟨?_, ?_⟩
  · intro c12
    have h := h.1 c12
    obtain ⟨b13, e14, h⟩ := h
    refine ⟨b13, e14, ?_⟩
    obtain ⟨b15, e16, h⟩ := h
    refine ⟨b15, e16, ?_⟩
    obtain ⟨c17, h⟩ := h
    refine ⟨c17, ?_⟩
    have n18 := k7_nk K c17 (by decide)
    obtain ⟨b19, e20, h⟩ := h
    refine ⟨b19, e20, ?_⟩
    obtain ⟨c21, h⟩ := h
    refine ⟨c21, ?_⟩
    have n22 := k7_nk K c21 (by decide)
    obtain ⟨c23, h⟩ := h
    refine ⟨c23, ?_⟩
    obtain ⟨b24, e25, h⟩ := h
    refine ⟨b24, e25, ?_⟩
    obtain ⟨b26, e27, h⟩ := h
    refine ⟨b26, e27, ?_⟩
    obtain ⟨c28, h⟩ := h
    refine ⟨c28, ?_⟩
    have n29 := k7_nk K c28 (by decide)
    obtain ⟨b30, e31, h⟩ := h
    refine ⟨b30, e31, ?_⟩
    obtain ⟨c32, h⟩ := h
    refine ⟨c32, ?_⟩
    have n33 := k7_nk K c32 (by decide)
    obtain ⟨c34, h⟩ := h
    refine ⟨c34, ?_⟩
    obtain ⟨b35, e36, h⟩ := h
    refine ⟨b35, e36, ?_⟩
    obtain ⟨b37, e38, h⟩ := h
    refine ⟨b37, e38, ?_⟩
    obtain ⟨c39, h⟩ := h
    refine ⟨c39, ?_⟩
    have n40 := k7_nk K c39 (by decide)
    obtain ⟨b41, e42, h⟩ := h
    refine ⟨b41, e42, ?_⟩
    obtain ⟨c43, h⟩ := h
    refine ⟨c43, ?_⟩
    have n44 := k7_nk K c43 (by decide)
    obtain ⟨c45, h⟩ := h
    refine ⟨c45, ?_⟩
    obtain ⟨b46, e47, h⟩ := h
    refine ⟨b46, e47, ?_⟩
    obtain ⟨c48, h⟩ := h
    refine ⟨c48, ?_⟩
    have n49 := k7_nk K c48 (by decide)
    refine cm_X1_worstSpeed (kw_X1_worstSpeed h) h (fun x50 x51 p53 h g52 => ?_)
    have h := h g52
    have K := k7_tr K p53.2
    exact ⟨h, K⟩
  · intro c54
    have h := h.2 c54
    exact ⟨h, K⟩
theorem kw_X9_worst {Q : Int32 → HS → Prop} {v0 : Nat} {v1 : Int32} {v2 : Int32} {v3 : Int32} {v4 : Int32} {S : HS} (h : P_X9_worst v0 v1 v2 v3 v4 Q S) : P_X9_worst v0 v1 v2 v3 v4 (fun r T => Q r T ∧ K7 S T) S := kw_X9_worst_0 h (k7_rf S)
end
section
/-! the start: every joint is the only one to what it joins -/
def UV (S : HS) : Prop := (∀ x j b, fR S x j = some b → b ∈ hL S) ∧ ∀ x j x' j' b, fR S x j = some b → fR S x' j' = some b → x = x' ∧ j = j'
def ZW8 (S : HS) : Prop := ∀ x, ob S x 8 → fI S x = fun _ => 0
def UZ (S : HS) : Prop := UV S ∧ ZW8 S
def NRa (S : HS) (b : Nat) : Prop := ∀ x j, fR S x j ≠ some b
def KU (S T : HS) : Prop := UZ T ∧ Gr S T ∧ ∀ b, b ∈ hL S → NRa S b → NRa T b
section KUs
variable {S T U : HS} {a b k j x n : Nat}
theorem ku_rf (u : UZ S) : KU S S := ⟨u, gr_rf S, fun _ _ h => h⟩
theorem ku_tr (h : KU S T) (g : KU T U) : KU S U := ⟨g.1, gr_tr h.2.1 g.2.1, fun b hb hn => g.2.2 b (h.2.1 b hb).1 (h.2.2 b hb hn)⟩
theorem ku_I {v : Int32} (h : KU S T) (e : U = sI T x j v) (o : ob T x k) (hk : k ≠ 8) : KU S U := by
  have z : ZW8 U := fun y oy => by
    have oy : ob T y 8 := by rw [e] at oy; exact oy
    have hne : y ≠ x := fun q => hk (ob_inj o (q ▸ oy))
    rw [e]
    exact (u2_row _ _ hne).trans (h.1.2 y oy)
  rw [e] at z ⊢
  exact ⟨⟨h.1.1, z⟩, h.2⟩
theorem ku_R (h : KU S T) (e : U = sR T x j (some b)) (hn : NRa T b) (hl : b ∈ hL T) (h0 : b ∉ hL S) : KU S U := by
  have r : ∀ y i c, fR U y i = some c → (y = x ∧ i = j ∧ c = b) ∨ fR T y i = some c := fun y i c z => by
    rw [e] at z
    by_cases q : y = x ∧ i = j
    · left
      rw [q.1, q.2] at z
      have z : u2 (fR T) x j (some b) x j = some c := z
      rw [u2_self] at z
      cases z
      exact ⟨q.1, q.2, rfl⟩
    · right
      have z : u2 (fR T) x j (some b) y i = some c := z
      rw [u2_ne _ _ q] at z
      exact z
  have l : hL U = hL T := by rw [e]; rfl
  refine ⟨⟨⟨fun y i c z => ?_, fun y i y' i' c z z' => ?_⟩, by rw [e]; exact h.1.2⟩, by rw [e]; exact h.2.1, fun c hc hcn y i z => ?_⟩
  · rw [l]
    rcases r y i c z with q | q
    · rw [q.2.2]; exact hl
    · exact h.1.1.1 y i c q
  · rcases r y i c z with q | q
    · rcases r y' i' c z' with q' | q'
      · exact ⟨q.1.trans q'.1.symm, q.2.1.trans q'.2.1.symm⟩
      · exact absurd (q.2.2 ▸ q') (hn y' i')
    · rcases r y' i' c z' with q' | q'
      · exact absurd (q'.2.2 ▸ q) (hn y i)
      · exact h.1.1.2 y i y' i' c q q'
  · rcases r y i c z with q | q
    · exact h0 (q.2.2 ▸ hc)
    · exact h.2.2 c hc hcn y i q
theorem ku_W (h : KU S T) (ha : a ∉ hL T) (e : U = nW T a k n) : KU S U := by
  have r : ∀ y i c, fR U y i = some c → fR T y i = some c := fun y i c z => by
    rw [e] at z
    by_cases q : y = a
    · rw [q] at z
      have z : va_up (fR T) a (fun _ => none) a i = some c := z
      rw [va_up_self] at z
      cases z
    · have z : va_up (fR T) a (fun _ => none) y i = some c := z
      rw [va_up_ne _ _ q] at z
      exact z
  have g := gr_of_new e ha
  have z8 : ZW8 U := fun y oy => by
    by_cases q : y = a
    · rw [q, e]
      exact va_up_self _ _ _
    · have oT : ob T y 8 := by
        rw [e] at oy
        obtain ⟨o1, o2⟩ := oy
        refine ⟨?_, ?_⟩
        · have o1 : y ∈ hL T ++ [a] := o1
          rcases List.mem_append.mp o1 with z | z
          · exact z
          · exact absurd (List.mem_singleton.mp z) q
        · have o2 : va_up (hK T) a k y = 8 := o2
          rw [va_up_ne _ _ q] at o2
          exact o2
      rw [e]
      exact (va_up_ne _ _ q).trans (h.1.2 y oT)
  exact ⟨⟨⟨fun y i c z => (g c (h.1.1.1 y i c (r y i c z))).1, fun y i y' i' c z z' => h.1.1.2 y i y' i' c (r y i c z) (r y' i' c z')⟩, z8⟩, gr_tr h.2.1 g, fun c hc hn y i z => h.2.2 c hc hn y i (r y i c z)⟩
theorem ku_nf (h : KU S T) (ha : a ∉ hL T) : a ∉ hL S := fun z => ha (h.2.1 a z).1
theorem ku_ff (h : KU S T) (ha : a ∉ hL T) (e : U = nW T a k n) : NRa U a := fun y i z => by
  rw [e] at z
  by_cases q : y = a
  · rw [q] at z
    have z : va_up (fR T) a (fun _ => none) a i = some a := z
    rw [va_up_self] at z
    cases z
  · have z : va_up (fR T) a (fun _ => none) y i = some a := z
    rw [va_up_ne _ _ q] at z
    exact ha (h.1.1.1 y i a z)
theorem ku_fl (e : U = nW T a k n) : a ∈ hL U := by
  rw [e]
  show a ∈ hL T ++ [a]
  simp
end KUs
set_option maxRecDepth 20000 in
set_option maxHeartbeats 1000000 in
theorem ku_X2_init_0 {Q : HS → Prop} {v0 : Nat} {S0 S : HS} (h : P_X2_init_0 Q v0 S) (K : KU S0 S) : P_X2_init_0 (fun T => Q T ∧ KU S0 T) v0 S := by
  delta P_X2_init_0 at h ⊢
  intro x2 e1
  have h := h x2 e1
  intro x4 e3
  have h := h x4 e3
  have n5 := ku_nf K e1
  have f6 := ku_ff K e1 e3
  have l7 := ku_fl e3
  have K := ku_W K e1 e3
  obtain ⟨c8, h⟩ := h
  refine ⟨c8, ?_⟩
  have o9 := c8
  intro x11 e10
  have h := h x11 e10
  have K := ku_R K e10 f6 l7 n5
  have o9 := ob_wR o9 e10
  exact ⟨h, K⟩
theorem ku_X2_init {Q : HS → Prop} {v0 : Nat} {S : HS} (h : P_X2_init v0 Q S) (u : UZ S) : P_X2_init v0 (fun T => Q T ∧ KU S T) S := ku_X2_init_0 h (ku_rf u)
set_option maxRecDepth 20000 in
set_option maxHeartbeats 1000000 in
theorem kuB_X0_init_69 {Q : HS → Prop} {X69 X69_2 : Nat → Int32 → Nat → Nat → HS → Prop} {v0 : Nat} {v1 : Int32} {kk : Nat} {nn : Nat} {S0 S : HS} (h : B_X0_init_69 Q X69 v0 v1 kk nn S) (K : KU S0 S) (hX69 : ∀ (u0 : Nat) (u1 : Int32) (u2 : Nat) (u3 : Nat) (u4 : HS), X69 u0 u1 u2 u3 u4 → KU S0 u4 → X69_2 u0 u1 u2 u3 u4) : B_X0_init_69 (fun T => Q T ∧ KU S0 T) X69_2 v0 v1 kk nn S := by
  delta B_X0_init_69 at h ⊢
  obtain ⟨c1, h⟩ := h
  refine ⟨c1, ?_⟩
  have o2 := c1
  obtain ⟨b3, e4, h⟩ := h
  refine ⟨b3, e4, ?_⟩
  obtain ⟨c5, h⟩ := h
  refine ⟨c5, ?_⟩
  have o6 := c5
  refine ⟨?_, ?_⟩
  · intro c7
    have h := h.1 c7
    obtain ⟨c8, h⟩ := h
    refine ⟨c8, ?_⟩
    obtain ⟨c9, h⟩ := h
    refine ⟨c9, ?_⟩
    exact ⟨h, K⟩
  · intro c10
    have h := h.2 c10
    obtain ⟨b11, e12, h⟩ := h
    refine ⟨b11, e12, ?_⟩
    obtain ⟨c13, h⟩ := h
    refine ⟨c13, ?_⟩
    obtain ⟨c14, h⟩ := h
    refine ⟨c14, ?_⟩
    intro x16 e15
    have h := h x16 e15
    intro x18 e17
    have h := h x18 e17
    have n19 := ku_nf K e15
    have f20 := ku_ff K e15 e17
    have l21 := ku_fl e17
    have K := ku_W K e15 e17
    have o2 := gr_ob (gr_of_new e17 e15) o2
    have o6 := gr_ob (gr_of_new e17 e15) o6
    obtain ⟨c22, h⟩ := h
    refine ⟨c22, ?_⟩
    obtain ⟨c23, h⟩ := h
    refine ⟨c23, ?_⟩
    refine cm_X2_init (ku_X2_init h K.1) h (fun x24 p26 h g25 => ?_)
    have h := h g25
    have K := ku_tr K p26.2
    have o2 := gr_ob p26.2.2.1 o2
    have o6 := gr_ob p26.2.2.1 o6
    have f20 := p26.2.2.2 _ l21 f20
    have l21 := (p26.2.2.1 _ l21).1
    obtain ⟨c27, h⟩ := h
    refine ⟨c27, ?_⟩
    have o28 := c27
    obtain ⟨c29, h⟩ := h
    refine ⟨c29, ?_⟩
    intro x31 e30
    have h := h x31 e30
    have K := ku_R K e30 f20 l21 n19
    have o2 := ob_wR o2 e30
    have o6 := ob_wR o6 e30
    have o28 := ob_wR o28 e30
    intro x33 e32
    have h := h x33 e32
    exact hX69 _ _ _ _ _ h K
theorem ku_X0_init_69 {Q : HS → Prop} {v0 : Nat} {v1 : Int32} {kk : Nat} {nn : Nat} {S0 S : HS} (h : P_X0_init_69 Q v0 v1 kk nn S) (K : KU S0 S) : P_X0_init_69 (fun T => Q T ∧ KU S0 T) v0 v1 kk nn S := h (fun v0 v1 kk nn S => KU S0 S → P_X0_init_69 (fun T => Q T ∧ KU S0 T) v0 v1 kk nn S) (fun v0 v1 kk nn S hB K => fd_X0_init_69 (kuB_X0_init_69 hB K (fun _ _ _ _ _ hx K => hx K))) K
set_option maxRecDepth 20000 in
set_option maxHeartbeats 1000000 in
theorem kuB_X0_init_39 {Q : HS → Prop} {X39 X39_2 : Nat → Int32 → Nat → Nat → HS → Prop} {v0 : Nat} {v1 : Int32} {kk : Nat} {nn : Nat} {S0 S : HS} (h : B_X0_init_39 Q X39 v0 v1 kk nn S) (K : KU S0 S) (hX39 : ∀ (u0 : Nat) (u1 : Int32) (u2 : Nat) (u3 : Nat) (u4 : HS), X39 u0 u1 u2 u3 u4 → KU S0 u4 → X39_2 u0 u1 u2 u3 u4) : B_X0_init_39 (fun T => Q T ∧ KU S0 T) X39_2 v0 v1 kk nn S := by
  delta B_X0_init_39 at h ⊢
  obtain ⟨c1, h⟩ := h
  refine ⟨c1, ?_⟩
  have o2 := c1
  obtain ⟨b3, e4, h⟩ := h
  refine ⟨b3, e4, ?_⟩
  obtain ⟨c5, h⟩ := h
  refine ⟨c5, ?_⟩
  have o6 := c5
  refine ⟨?_, ?_⟩
  · intro c7
    have h := h.1 c7
    exact ku_X0_init_69 h K
  · intro c8
    have h := h.2 c8
    obtain ⟨b9, e10, h⟩ := h
    refine ⟨b9, e10, ?_⟩
    obtain ⟨c11, h⟩ := h
    refine ⟨c11, ?_⟩
    obtain ⟨c12, h⟩ := h
    refine ⟨c12, ?_⟩
    intro x14 e13
    have h := h x14 e13
    intro x16 e15
    have h := h x16 e15
    have n17 := ku_nf K e13
    have f18 := ku_ff K e13 e15
    have l19 := ku_fl e15
    have K := ku_W K e13 e15
    have o2 := gr_ob (gr_of_new e15 e13) o2
    have o6 := gr_ob (gr_of_new e15 e13) o6
    obtain ⟨c20, h⟩ := h
    refine ⟨c20, ?_⟩
    obtain ⟨c21, h⟩ := h
    refine ⟨c21, ?_⟩
    refine cm_X2_init (ku_X2_init h K.1) h (fun x22 p24 h g23 => ?_)
    have h := h g23
    have K := ku_tr K p24.2
    have o2 := gr_ob p24.2.2.1 o2
    have o6 := gr_ob p24.2.2.1 o6
    have f18 := p24.2.2.2 _ l19 f18
    have l19 := (p24.2.2.1 _ l19).1
    obtain ⟨c25, h⟩ := h
    refine ⟨c25, ?_⟩
    have o26 := c25
    obtain ⟨c27, h⟩ := h
    refine ⟨c27, ?_⟩
    intro x29 e28
    have h := h x29 e28
    have K := ku_R K e28 f18 l19 n17
    have o2 := ob_wR o2 e28
    have o6 := ob_wR o6 e28
    have o26 := ob_wR o26 e28
    intro x31 e30
    have h := h x31 e30
    exact hX39 _ _ _ _ _ h K
theorem ku_X0_init_39 {Q : HS → Prop} {v0 : Nat} {v1 : Int32} {kk : Nat} {nn : Nat} {S0 S : HS} (h : P_X0_init_39 Q v0 v1 kk nn S) (K : KU S0 S) : P_X0_init_39 (fun T => Q T ∧ KU S0 T) v0 v1 kk nn S := h (fun v0 v1 kk nn S => KU S0 S → P_X0_init_39 (fun T => Q T ∧ KU S0 T) v0 v1 kk nn S) (fun v0 v1 kk nn S hB K => fd_X0_init_39 (kuB_X0_init_39 hB K (fun _ _ _ _ _ hx K => hx K))) K
set_option maxRecDepth 20000 in
set_option maxHeartbeats 1000000 in
theorem ku_X0_init_0 {Q : HS → Prop} {v0 : Nat} {kk : Nat} {nn : Nat} {S0 S : HS} (h : P_X0_init_0 Q v0 kk nn S) (K : KU S0 S) : P_X0_init_0 (fun T => Q T ∧ KU S0 T) v0 kk nn S := by
  delta P_X0_init_0 at h ⊢
  obtain ⟨c1, h⟩ := h
  refine ⟨c1, ?_⟩
  have o2 := c1
  intro x4 e3
  have h := h x4 e3
  have K := ku_I K e3 o2 (by decide)
  have o2 := ob_wI o2 e3
  obtain ⟨c5, h⟩ := h
  refine ⟨c5, ?_⟩
  obtain ⟨c6, h⟩ := h
  refine ⟨c6, ?_⟩
  intro x8 e7
  have h := h x8 e7
  intro x10 e9
  have h := h x10 e9
  have n11 := ku_nf K e7
  have f12 := ku_ff K e7 e9
  have l13 := ku_fl e9
  have K := ku_W K e7 e9
  have o2 := gr_ob (gr_of_new e9 e7) o2
  obtain ⟨c14, h⟩ := h
  refine ⟨c14, ?_⟩
  obtain ⟨c15, h⟩ := h
  refine ⟨c15, ?_⟩
  refine cm_X2_init (ku_X2_init h K.1) h (fun x16 p18 h g17 => ?_)
  have h := h g17
  have K := ku_tr K p18.2
  have o2 := gr_ob p18.2.2.1 o2
  have f12 := p18.2.2.2 _ l13 f12
  have l13 := (p18.2.2.1 _ l13).1
  intro x20 e19
  have h := h x20 e19
  have K := ku_R K e19 f12 l13 n11
  have o2 := ob_wR o2 e19
  obtain ⟨c21, h⟩ := h
  refine ⟨c21, ?_⟩
  obtain ⟨c22, h⟩ := h
  refine ⟨c22, ?_⟩
  intro x24 e23
  have h := h x24 e23
  intro x26 e25
  have h := h x26 e25
  have n27 := ku_nf K e23
  have f28 := ku_ff K e23 e25
  have l29 := ku_fl e25
  have K := ku_W K e23 e25
  have o2 := gr_ob (gr_of_new e25 e23) o2
  intro x31 e30
  have h := h x31 e30
  have K := ku_R K e30 f28 l29 n27
  have o2 := ob_wR o2 e30
  obtain ⟨c32, h⟩ := h
  refine ⟨c32, ?_⟩
  obtain ⟨c33, h⟩ := h
  refine ⟨c33, ?_⟩
  intro x35 e34
  have h := h x35 e34
  intro x37 e36
  have h := h x37 e36
  have n38 := ku_nf K e34
  have f39 := ku_ff K e34 e36
  have l40 := ku_fl e36
  have K := ku_W K e34 e36
  have o2 := gr_ob (gr_of_new e36 e34) o2
  intro x42 e41
  have h := h x42 e41
  have K := ku_R K e41 f39 l40 n38
  have o2 := ob_wR o2 e41
  exact ku_X0_init_39 h K
theorem ku_X0_init {Q : HS → Prop} {v0 : Nat} {S : HS} (h : P_X0_init v0 Q S) (u : UZ S) : P_X0_init v0 (fun T => Q T ∧ KU S T) S := ku_X0_init_0 h (ku_rf u)
set_option maxRecDepth 20000 in
set_option maxHeartbeats 1000000 in
theorem ku_X1_init_0 {Q : HS → Prop} {v0 : Nat} {S0 S : HS} (h : P_X1_init_0 Q v0 S) (K : KU S0 S) : P_X1_init_0 (fun T => Q T ∧ KU S0 T) v0 S := by
  delta P_X1_init_0 at h ⊢
  intro x2 e1
  have h := h x2 e1
  intro x4 e3
  have h := h x4 e3
  have n5 := ku_nf K e1
  have f6 := ku_ff K e1 e3
  have l7 := ku_fl e3
  have K := ku_W K e1 e3
  obtain ⟨c8, h⟩ := h
  refine ⟨c8, ?_⟩
  have o9 := c8
  intro x11 e10
  have h := h x11 e10
  have K := ku_R K e10 f6 l7 n5
  have o9 := ob_wR o9 e10
  intro x13 e12
  have h := h x13 e12
  intro x15 e14
  have h := h x15 e14
  have n16 := ku_nf K e12
  have f17 := ku_ff K e12 e14
  have l18 := ku_fl e14
  have K := ku_W K e12 e14
  have o9 := gr_ob (gr_of_new e14 e12) o9
  intro x20 e19
  have h := h x20 e19
  have K := ku_R K e19 f17 l18 n16
  have o9 := ob_wR o9 e19
  exact ⟨h, K⟩
theorem ku_X1_init {Q : HS → Prop} {v0 : Nat} {S : HS} (h : P_X1_init v0 Q S) (u : UZ S) : P_X1_init v0 (fun T => Q T ∧ KU S T) S := ku_X1_init_0 h (ku_rf u)
set_option maxRecDepth 20000 in
set_option maxHeartbeats 1000000 in
theorem ku_X3_init_0 {Q : HS → Prop} {v0 : Nat} {S0 S : HS} (h : P_X3_init_0 Q v0 S) (K : KU S0 S) : P_X3_init_0 (fun T => Q T ∧ KU S0 T) v0 S := by
  delta P_X3_init_0 at h ⊢
  exact ⟨h, K⟩
theorem ku_X3_init {Q : HS → Prop} {v0 : Nat} {S : HS} (h : P_X3_init v0 Q S) (u : UZ S) : P_X3_init v0 (fun T => Q T ∧ KU S T) S := ku_X3_init_0 h (ku_rf u)
set_option maxRecDepth 20000 in
set_option maxHeartbeats 1000000 in
theorem ku_X5_init_0 {Q : HS → Prop} {v0 : Nat} {S0 S : HS} (h : P_X5_init_0 Q v0 S) (K : KU S0 S) : P_X5_init_0 (fun T => Q T ∧ KU S0 T) v0 S := by
  delta P_X5_init_0 at h ⊢
  exact ⟨h, K⟩
theorem ku_X5_init {Q : HS → Prop} {v0 : Nat} {S : HS} (h : P_X5_init v0 Q S) (u : UZ S) : P_X5_init v0 (fun T => Q T ∧ KU S T) S := ku_X5_init_0 h (ku_rf u)
set_option maxRecDepth 20000 in
set_option maxHeartbeats 1000000 in
theorem ku_X6_init_0 {Q : HS → Prop} {v0 : Nat} {S0 S : HS} (h : P_X6_init_0 Q v0 S) (K : KU S0 S) : P_X6_init_0 (fun T => Q T ∧ KU S0 T) v0 S := by
  delta P_X6_init_0 at h ⊢
  exact ⟨h, K⟩
theorem ku_X6_init {Q : HS → Prop} {v0 : Nat} {S : HS} (h : P_X6_init v0 Q S) (u : UZ S) : P_X6_init v0 (fun T => Q T ∧ KU S T) S := ku_X6_init_0 h (ku_rf u)
set_option maxRecDepth 20000 in
set_option maxHeartbeats 1000000 in
theorem kuB_X8_init_115 {Q : HS → Prop} {X115 X115_2 : Nat → Int32 → Nat → Nat → HS → Prop} {v0 : Nat} {v1 : Int32} {kk : Nat} {nn : Nat} {S0 S : HS} (h : B_X8_init_115 Q X115 v0 v1 kk nn S) (K : KU S0 S) (hX115 : ∀ (u0 : Nat) (u1 : Int32) (u2 : Nat) (u3 : Nat) (u4 : HS), X115 u0 u1 u2 u3 u4 → KU S0 u4 → X115_2 u0 u1 u2 u3 u4) : B_X8_init_115 (fun T => Q T ∧ KU S0 T) X115_2 v0 v1 kk nn S := by
  delta B_X8_init_115 at h ⊢
  obtain ⟨c1, h⟩ := h
  refine ⟨c1, ?_⟩
  have o2 := c1
  obtain ⟨b3, e4, h⟩ := h
  refine ⟨b3, e4, ?_⟩
  obtain ⟨c5, h⟩ := h
  refine ⟨c5, ?_⟩
  have o6 := c5
  refine ⟨?_, ?_⟩
  · intro c7
    have h := h.1 c7
    obtain ⟨c8, h⟩ := h
    refine ⟨c8, ?_⟩
    obtain ⟨c9, h⟩ := h
    refine ⟨c9, ?_⟩
    exact ⟨h, K⟩
  · intro c10
    have h := h.2 c10
    obtain ⟨b11, e12, h⟩ := h
    refine ⟨b11, e12, ?_⟩
    obtain ⟨c13, h⟩ := h
    refine ⟨c13, ?_⟩
    obtain ⟨c14, h⟩ := h
    refine ⟨c14, ?_⟩
    intro x16 e15
    have h := h x16 e15
    intro x18 e17
    have h := h x18 e17
    have n19 := ku_nf K e15
    have f20 := ku_ff K e15 e17
    have l21 := ku_fl e17
    have K := ku_W K e15 e17
    have o2 := gr_ob (gr_of_new e17 e15) o2
    have o6 := gr_ob (gr_of_new e17 e15) o6
    obtain ⟨c22, h⟩ := h
    refine ⟨c22, ?_⟩
    obtain ⟨c23, h⟩ := h
    refine ⟨c23, ?_⟩
    refine cm_X6_init (ku_X6_init h K.1) h (fun x24 p26 h g25 => ?_)
    have h := h g25
    have K := ku_tr K p26.2
    have o2 := gr_ob p26.2.2.1 o2
    have o6 := gr_ob p26.2.2.1 o6
    have f20 := p26.2.2.2 _ l21 f20
    have l21 := (p26.2.2.1 _ l21).1
    obtain ⟨c27, h⟩ := h
    refine ⟨c27, ?_⟩
    have o28 := c27
    obtain ⟨c29, h⟩ := h
    refine ⟨c29, ?_⟩
    intro x31 e30
    have h := h x31 e30
    have K := ku_R K e30 f20 l21 n19
    have o2 := ob_wR o2 e30
    have o6 := ob_wR o6 e30
    have o28 := ob_wR o28 e30
    intro x33 e32
    have h := h x33 e32
    exact hX115 _ _ _ _ _ h K
theorem ku_X8_init_115 {Q : HS → Prop} {v0 : Nat} {v1 : Int32} {kk : Nat} {nn : Nat} {S0 S : HS} (h : P_X8_init_115 Q v0 v1 kk nn S) (K : KU S0 S) : P_X8_init_115 (fun T => Q T ∧ KU S0 T) v0 v1 kk nn S := h (fun v0 v1 kk nn S => KU S0 S → P_X8_init_115 (fun T => Q T ∧ KU S0 T) v0 v1 kk nn S) (fun v0 v1 kk nn S hB K => fd_X8_init_115 (kuB_X8_init_115 hB K (fun _ _ _ _ _ hx K => hx K))) K
set_option maxRecDepth 20000 in
set_option maxHeartbeats 1000000 in
theorem kuB_X8_init_85 {Q : HS → Prop} {X85 X85_2 : Nat → Int32 → Nat → Nat → HS → Prop} {v0 : Nat} {v1 : Int32} {kk : Nat} {nn : Nat} {S0 S : HS} (h : B_X8_init_85 Q X85 v0 v1 kk nn S) (K : KU S0 S) (hX85 : ∀ (u0 : Nat) (u1 : Int32) (u2 : Nat) (u3 : Nat) (u4 : HS), X85 u0 u1 u2 u3 u4 → KU S0 u4 → X85_2 u0 u1 u2 u3 u4) : B_X8_init_85 (fun T => Q T ∧ KU S0 T) X85_2 v0 v1 kk nn S := by
  delta B_X8_init_85 at h ⊢
  obtain ⟨c1, h⟩ := h
  refine ⟨c1, ?_⟩
  have o2 := c1
  obtain ⟨b3, e4, h⟩ := h
  refine ⟨b3, e4, ?_⟩
  obtain ⟨c5, h⟩ := h
  refine ⟨c5, ?_⟩
  have o6 := c5
  refine ⟨?_, ?_⟩
  · intro c7
    have h := h.1 c7
    exact ku_X8_init_115 h K
  · intro c8
    have h := h.2 c8
    obtain ⟨b9, e10, h⟩ := h
    refine ⟨b9, e10, ?_⟩
    obtain ⟨c11, h⟩ := h
    refine ⟨c11, ?_⟩
    obtain ⟨c12, h⟩ := h
    refine ⟨c12, ?_⟩
    intro x14 e13
    have h := h x14 e13
    intro x16 e15
    have h := h x16 e15
    have n17 := ku_nf K e13
    have f18 := ku_ff K e13 e15
    have l19 := ku_fl e15
    have K := ku_W K e13 e15
    have o2 := gr_ob (gr_of_new e15 e13) o2
    have o6 := gr_ob (gr_of_new e15 e13) o6
    obtain ⟨c20, h⟩ := h
    refine ⟨c20, ?_⟩
    obtain ⟨c21, h⟩ := h
    refine ⟨c21, ?_⟩
    refine cm_X5_init (ku_X5_init h K.1) h (fun x22 p24 h g23 => ?_)
    have h := h g23
    have K := ku_tr K p24.2
    have o2 := gr_ob p24.2.2.1 o2
    have o6 := gr_ob p24.2.2.1 o6
    have f18 := p24.2.2.2 _ l19 f18
    have l19 := (p24.2.2.1 _ l19).1
    obtain ⟨c25, h⟩ := h
    refine ⟨c25, ?_⟩
    have o26 := c25
    obtain ⟨c27, h⟩ := h
    refine ⟨c27, ?_⟩
    intro x29 e28
    have h := h x29 e28
    have K := ku_R K e28 f18 l19 n17
    have o2 := ob_wR o2 e28
    have o6 := ob_wR o6 e28
    have o26 := ob_wR o26 e28
    intro x31 e30
    have h := h x31 e30
    exact hX85 _ _ _ _ _ h K
theorem ku_X8_init_85 {Q : HS → Prop} {v0 : Nat} {v1 : Int32} {kk : Nat} {nn : Nat} {S0 S : HS} (h : P_X8_init_85 Q v0 v1 kk nn S) (K : KU S0 S) : P_X8_init_85 (fun T => Q T ∧ KU S0 T) v0 v1 kk nn S := h (fun v0 v1 kk nn S => KU S0 S → P_X8_init_85 (fun T => Q T ∧ KU S0 T) v0 v1 kk nn S) (fun v0 v1 kk nn S hB K => fd_X8_init_85 (kuB_X8_init_85 hB K (fun _ _ _ _ _ hx K => hx K))) K
set_option maxRecDepth 20000 in
set_option maxHeartbeats 1000000 in
theorem kuB_X8_init_55 {Q : HS → Prop} {X55 X55_2 : Nat → Int32 → Nat → Nat → HS → Prop} {v0 : Nat} {v1 : Int32} {kk : Nat} {nn : Nat} {S0 S : HS} (h : B_X8_init_55 Q X55 v0 v1 kk nn S) (K : KU S0 S) (hX55 : ∀ (u0 : Nat) (u1 : Int32) (u2 : Nat) (u3 : Nat) (u4 : HS), X55 u0 u1 u2 u3 u4 → KU S0 u4 → X55_2 u0 u1 u2 u3 u4) : B_X8_init_55 (fun T => Q T ∧ KU S0 T) X55_2 v0 v1 kk nn S := by
  delta B_X8_init_55 at h ⊢
  obtain ⟨c1, h⟩ := h
  refine ⟨c1, ?_⟩
  have o2 := c1
  obtain ⟨b3, e4, h⟩ := h
  refine ⟨b3, e4, ?_⟩
  obtain ⟨c5, h⟩ := h
  refine ⟨c5, ?_⟩
  have o6 := c5
  refine ⟨?_, ?_⟩
  · intro c7
    have h := h.1 c7
    exact ku_X8_init_85 h K
  · intro c8
    have h := h.2 c8
    obtain ⟨b9, e10, h⟩ := h
    refine ⟨b9, e10, ?_⟩
    obtain ⟨c11, h⟩ := h
    refine ⟨c11, ?_⟩
    obtain ⟨c12, h⟩ := h
    refine ⟨c12, ?_⟩
    intro x14 e13
    have h := h x14 e13
    intro x16 e15
    have h := h x16 e15
    have n17 := ku_nf K e13
    have f18 := ku_ff K e13 e15
    have l19 := ku_fl e15
    have K := ku_W K e13 e15
    have o2 := gr_ob (gr_of_new e15 e13) o2
    have o6 := gr_ob (gr_of_new e15 e13) o6
    obtain ⟨c20, h⟩ := h
    refine ⟨c20, ?_⟩
    obtain ⟨c21, h⟩ := h
    refine ⟨c21, ?_⟩
    refine cm_X3_init (ku_X3_init h K.1) h (fun x22 p24 h g23 => ?_)
    have h := h g23
    have K := ku_tr K p24.2
    have o2 := gr_ob p24.2.2.1 o2
    have o6 := gr_ob p24.2.2.1 o6
    have f18 := p24.2.2.2 _ l19 f18
    have l19 := (p24.2.2.1 _ l19).1
    obtain ⟨c25, h⟩ := h
    refine ⟨c25, ?_⟩
    have o26 := c25
    obtain ⟨c27, h⟩ := h
    refine ⟨c27, ?_⟩
    intro x29 e28
    have h := h x29 e28
    have K := ku_R K e28 f18 l19 n17
    have o2 := ob_wR o2 e28
    have o6 := ob_wR o6 e28
    have o26 := ob_wR o26 e28
    intro x31 e30
    have h := h x31 e30
    exact hX55 _ _ _ _ _ h K
theorem ku_X8_init_55 {Q : HS → Prop} {v0 : Nat} {v1 : Int32} {kk : Nat} {nn : Nat} {S0 S : HS} (h : P_X8_init_55 Q v0 v1 kk nn S) (K : KU S0 S) : P_X8_init_55 (fun T => Q T ∧ KU S0 T) v0 v1 kk nn S := h (fun v0 v1 kk nn S => KU S0 S → P_X8_init_55 (fun T => Q T ∧ KU S0 T) v0 v1 kk nn S) (fun v0 v1 kk nn S hB K => fd_X8_init_55 (kuB_X8_init_55 hB K (fun _ _ _ _ _ hx K => hx K))) K
set_option maxRecDepth 20000 in
set_option maxHeartbeats 1000000 in
theorem ku_X8_init_0 {Q : HS → Prop} {v0 : Nat} {kk : Nat} {nn : Nat} {S0 S : HS} (h : P_X8_init_0 Q v0 kk nn S) (K : KU S0 S) : P_X8_init_0 (fun T => Q T ∧ KU S0 T) v0 kk nn S := by
  delta P_X8_init_0 at h ⊢
  obtain ⟨c1, h⟩ := h
  refine ⟨c1, ?_⟩
  obtain ⟨c2, h⟩ := h
  refine ⟨c2, ?_⟩
  intro x4 e3
  have h := h x4 e3
  intro x6 e5
  have h := h x6 e5
  have n7 := ku_nf K e3
  have f8 := ku_ff K e3 e5
  have l9 := ku_fl e5
  have K := ku_W K e3 e5
  obtain ⟨c10, h⟩ := h
  refine ⟨c10, ?_⟩
  have o11 := c10
  intro x13 e12
  have h := h x13 e12
  have K := ku_R K e12 f8 l9 n7
  have o11 := ob_wR o11 e12
  obtain ⟨c14, h⟩ := h
  refine ⟨c14, ?_⟩
  obtain ⟨c15, h⟩ := h
  refine ⟨c15, ?_⟩
  intro x17 e16
  have h := h x17 e16
  intro x19 e18
  have h := h x19 e18
  have n20 := ku_nf K e16
  have f21 := ku_ff K e16 e18
  have l22 := ku_fl e18
  have K := ku_W K e16 e18
  have o11 := gr_ob (gr_of_new e18 e16) o11
  intro x24 e23
  have h := h x24 e23
  have K := ku_R K e23 f21 l22 n20
  have o11 := ob_wR o11 e23
  obtain ⟨c25, h⟩ := h
  refine ⟨c25, ?_⟩
  obtain ⟨c26, h⟩ := h
  refine ⟨c26, ?_⟩
  intro x28 e27
  have h := h x28 e27
  intro x30 e29
  have h := h x30 e29
  have n31 := ku_nf K e27
  have f32 := ku_ff K e27 e29
  have l33 := ku_fl e29
  have K := ku_W K e27 e29
  have o11 := gr_ob (gr_of_new e29 e27) o11
  intro x35 e34
  have h := h x35 e34
  have K := ku_R K e34 f32 l33 n31
  have o11 := ob_wR o11 e34
  obtain ⟨c36, h⟩ := h
  refine ⟨c36, ?_⟩
  obtain ⟨c37, h⟩ := h
  refine ⟨c37, ?_⟩
  intro x39 e38
  have h := h x39 e38
  intro x41 e40
  have h := h x41 e40
  have n42 := ku_nf K e38
  have f43 := ku_ff K e38 e40
  have l44 := ku_fl e40
  have K := ku_W K e38 e40
  have o11 := gr_ob (gr_of_new e40 e38) o11
  intro x46 e45
  have h := h x46 e45
  have K := ku_R K e45 f43 l44 n42
  have o11 := ob_wR o11 e45
  obtain ⟨c47, h⟩ := h
  refine ⟨c47, ?_⟩
  obtain ⟨c48, h⟩ := h
  refine ⟨c48, ?_⟩
  intro x50 e49
  have h := h x50 e49
  intro x52 e51
  have h := h x52 e51
  have n53 := ku_nf K e49
  have f54 := ku_ff K e49 e51
  have l55 := ku_fl e51
  have K := ku_W K e49 e51
  have o11 := gr_ob (gr_of_new e51 e49) o11
  intro x57 e56
  have h := h x57 e56
  have K := ku_R K e56 f54 l55 n53
  have o11 := ob_wR o11 e56
  obtain ⟨c58, h⟩ := h
  refine ⟨c58, ?_⟩
  obtain ⟨c59, h⟩ := h
  refine ⟨c59, ?_⟩
  intro x61 e60
  have h := h x61 e60
  intro x63 e62
  have h := h x63 e62
  have n64 := ku_nf K e60
  have f65 := ku_ff K e60 e62
  have l66 := ku_fl e62
  have K := ku_W K e60 e62
  have o11 := gr_ob (gr_of_new e62 e60) o11
  intro x68 e67
  have h := h x68 e67
  have K := ku_R K e67 f65 l66 n64
  have o11 := ob_wR o11 e67
  exact ku_X8_init_55 h K
theorem ku_X8_init {Q : HS → Prop} {v0 : Nat} {S : HS} (h : P_X8_init v0 Q S) (u : UZ S) : P_X8_init v0 (fun T => Q T ∧ KU S T) S := ku_X8_init_0 h (ku_rf u)
set_option maxRecDepth 20000 in
set_option maxHeartbeats 1000000 in
theorem ku_X4_init_0 {Q : HS → Prop} {v0 : Nat} {S0 S : HS} (h : P_X4_init_0 Q v0 S) (K : KU S0 S) : P_X4_init_0 (fun T => Q T ∧ KU S0 T) v0 S := by
  delta P_X4_init_0 at h ⊢
  intro x2 e1
  have h := h x2 e1
  intro x4 e3
  have h := h x4 e3
  have n5 := ku_nf K e1
  have f6 := ku_ff K e1 e3
  have l7 := ku_fl e3
  have K := ku_W K e1 e3
  obtain ⟨c8, h⟩ := h
  refine ⟨c8, ?_⟩
  have o9 := c8
  intro x11 e10
  have h := h x11 e10
  have K := ku_R K e10 f6 l7 n5
  have o9 := ob_wR o9 e10
  intro x13 e12
  have h := h x13 e12
  intro x15 e14
  have h := h x15 e14
  have n16 := ku_nf K e12
  have f17 := ku_ff K e12 e14
  have l18 := ku_fl e14
  have K := ku_W K e12 e14
  have o9 := gr_ob (gr_of_new e14 e12) o9
  refine cm_X8_init (ku_X8_init h K.1) h (fun x19 p21 h g20 => ?_)
  have h := h g20
  have K := ku_tr K p21.2
  have o9 := gr_ob p21.2.2.1 o9
  have f17 := p21.2.2.2 _ l18 f17
  have l18 := (p21.2.2.1 _ l18).1
  intro x23 e22
  have h := h x23 e22
  have K := ku_R K e22 f17 l18 n16
  have o9 := ob_wR o9 e22
  intro x25 e24
  have h := h x25 e24
  intro x27 e26
  have h := h x27 e26
  have n28 := ku_nf K e24
  have f29 := ku_ff K e24 e26
  have l30 := ku_fl e26
  have K := ku_W K e24 e26
  have o9 := gr_ob (gr_of_new e26 e24) o9
  intro x32 e31
  have h := h x32 e31
  have K := ku_R K e31 f29 l30 n28
  have o9 := ob_wR o9 e31
  intro x34 e33
  have h := h x34 e33
  intro x36 e35
  have h := h x36 e35
  have n37 := ku_nf K e33
  have f38 := ku_ff K e33 e35
  have l39 := ku_fl e35
  have K := ku_W K e33 e35
  have o9 := gr_ob (gr_of_new e35 e33) o9
  intro x41 e40
  have h := h x41 e40
  have K := ku_R K e40 f38 l39 n37
  have o9 := ob_wR o9 e40
  exact ⟨h, K⟩
theorem ku_X4_init {Q : HS → Prop} {v0 : Nat} {S : HS} (h : P_X4_init v0 Q S) (u : UZ S) : P_X4_init v0 (fun T => Q T ∧ KU S T) S := ku_X4_init_0 h (ku_rf u)
set_option maxRecDepth 20000 in
set_option maxHeartbeats 1000000 in
theorem ku_X7_init_0 {Q : HS → Prop} {v0 : Nat} {S0 S : HS} (h : P_X7_init_0 Q v0 S) (K : KU S0 S) : P_X7_init_0 (fun T => Q T ∧ KU S0 T) v0 S := by
  delta P_X7_init_0 at h ⊢
  intro x2 e1
  have h := h x2 e1
  intro x4 e3
  have h := h x4 e3
  have n5 := ku_nf K e1
  have f6 := ku_ff K e1 e3
  have l7 := ku_fl e3
  have K := ku_W K e1 e3
  obtain ⟨c8, h⟩ := h
  refine ⟨c8, ?_⟩
  have o9 := c8
  intro x11 e10
  have h := h x11 e10
  have K := ku_R K e10 f6 l7 n5
  have o9 := ob_wR o9 e10
  intro x13 e12
  have h := h x13 e12
  intro x15 e14
  have h := h x15 e14
  have n16 := ku_nf K e12
  have f17 := ku_ff K e12 e14
  have l18 := ku_fl e14
  have K := ku_W K e12 e14
  have o9 := gr_ob (gr_of_new e14 e12) o9
  intro x20 e19
  have h := h x20 e19
  have K := ku_R K e19 f17 l18 n16
  have o9 := ob_wR o9 e19
  intro x22 e21
  have h := h x22 e21
  intro x24 e23
  have h := h x24 e23
  have n25 := ku_nf K e21
  have f26 := ku_ff K e21 e23
  have l27 := ku_fl e23
  have K := ku_W K e21 e23
  have o9 := gr_ob (gr_of_new e23 e21) o9
  intro x29 e28
  have h := h x29 e28
  have K := ku_R K e28 f26 l27 n25
  have o9 := ob_wR o9 e28
  intro x31 e30
  have h := h x31 e30
  intro x33 e32
  have h := h x33 e32
  have n34 := ku_nf K e30
  have f35 := ku_ff K e30 e32
  have l36 := ku_fl e32
  have K := ku_W K e30 e32
  have o9 := gr_ob (gr_of_new e32 e30) o9
  intro x38 e37
  have h := h x38 e37
  have K := ku_R K e37 f35 l36 n34
  have o9 := ob_wR o9 e37
  intro x40 e39
  have h := h x40 e39
  intro x42 e41
  have h := h x42 e41
  have n43 := ku_nf K e39
  have f44 := ku_ff K e39 e41
  have l45 := ku_fl e41
  have K := ku_W K e39 e41
  have o9 := gr_ob (gr_of_new e41 e39) o9
  intro x47 e46
  have h := h x47 e46
  have K := ku_R K e46 f44 l45 n43
  have o9 := ob_wR o9 e46
  intro x49 e48
  have h := h x49 e48
  intro x51 e50
  have h := h x51 e50
  have n52 := ku_nf K e48
  have f53 := ku_ff K e48 e50
  have l54 := ku_fl e50
  have K := ku_W K e48 e50
  have o9 := gr_ob (gr_of_new e50 e48) o9
  intro x56 e55
  have h := h x56 e55
  have K := ku_R K e55 f53 l54 n52
  have o9 := ob_wR o9 e55
  intro x58 e57
  have h := h x58 e57
  intro x60 e59
  have h := h x60 e59
  have n61 := ku_nf K e57
  have f62 := ku_ff K e57 e59
  have l63 := ku_fl e59
  have K := ku_W K e57 e59
  have o9 := gr_ob (gr_of_new e59 e57) o9
  intro x65 e64
  have h := h x65 e64
  have K := ku_R K e64 f62 l63 n61
  have o9 := ob_wR o9 e64
  intro x67 e66
  have h := h x67 e66
  intro x69 e68
  have h := h x69 e68
  have n70 := ku_nf K e66
  have f71 := ku_ff K e66 e68
  have l72 := ku_fl e68
  have K := ku_W K e66 e68
  have o9 := gr_ob (gr_of_new e68 e66) o9
  intro x74 e73
  have h := h x74 e73
  have K := ku_R K e73 f71 l72 n70
  have o9 := ob_wR o9 e73
  intro x76 e75
  have h := h x76 e75
  have K := ku_I K e75 o9 (by decide)
  have o9 := ob_wI o9 e75
  intro x78 e77
  have h := h x78 e77
  have K := ku_I K e77 o9 (by decide)
  have o9 := ob_wI o9 e77
  intro x80 e79
  have h := h x80 e79
  have K := ku_I K e79 o9 (by decide)
  have o9 := ob_wI o9 e79
  intro x82 e81
  have h := h x82 e81
  have K := ku_I K e81 o9 (by decide)
  have o9 := ob_wI o9 e81
  exact ⟨h, K⟩
theorem ku_X7_init {Q : HS → Prop} {v0 : Nat} {S : HS} (h : P_X7_init v0 Q S) (u : UZ S) : P_X7_init v0 (fun T => Q T ∧ KU S T) S := ku_X7_init_0 h (ku_rf u)
set_option maxRecDepth 20000 in
set_option maxHeartbeats 1000000 in
theorem ku_X9_init_0 {Q : HS → Prop} {v0 : Nat} {S0 S : HS} (h : P_X9_init_0 Q v0 S) (K : KU S0 S) : P_X9_init_0 (fun T => Q T ∧ KU S0 T) v0 S := by
  delta P_X9_init_0 at h ⊢
  intro x2 e1
  have h := h x2 e1
  intro x4 e3
  have h := h x4 e3
  have n5 := ku_nf K e1
  have f6 := ku_ff K e1 e3
  have l7 := ku_fl e3
  have K := ku_W K e1 e3
  obtain ⟨c8, h⟩ := h
  refine ⟨c8, ?_⟩
  have o9 := c8
  intro x11 e10
  have h := h x11 e10
  have K := ku_R K e10 f6 l7 n5
  have o9 := ob_wR o9 e10
  intro x13 e12
  have h := h x13 e12
  intro x15 e14
  have h := h x15 e14
  have n16 := ku_nf K e12
  have f17 := ku_ff K e12 e14
  have l18 := ku_fl e14
  have K := ku_W K e12 e14
  have o9 := gr_ob (gr_of_new e14 e12) o9
  refine cm_X8_init (ku_X8_init h K.1) h (fun x19 p21 h g20 => ?_)
  have h := h g20
  have K := ku_tr K p21.2
  have o9 := gr_ob p21.2.2.1 o9
  have f17 := p21.2.2.2 _ l18 f17
  have l18 := (p21.2.2.1 _ l18).1
  intro x23 e22
  have h := h x23 e22
  have K := ku_R K e22 f17 l18 n16
  have o9 := ob_wR o9 e22
  intro x25 e24
  have h := h x25 e24
  intro x27 e26
  have h := h x27 e26
  have n28 := ku_nf K e24
  have f29 := ku_ff K e24 e26
  have l30 := ku_fl e26
  have K := ku_W K e24 e26
  have o9 := gr_ob (gr_of_new e26 e24) o9
  refine cm_X4_init (ku_X4_init h K.1) h (fun x31 p33 h g32 => ?_)
  have h := h g32
  have K := ku_tr K p33.2
  have o9 := gr_ob p33.2.2.1 o9
  have f29 := p33.2.2.2 _ l30 f29
  have l30 := (p33.2.2.1 _ l30).1
  intro x35 e34
  have h := h x35 e34
  have K := ku_R K e34 f29 l30 n28
  have o9 := ob_wR o9 e34
  intro x37 e36
  have h := h x37 e36
  intro x39 e38
  have h := h x39 e38
  have n40 := ku_nf K e36
  have f41 := ku_ff K e36 e38
  have l42 := ku_fl e38
  have K := ku_W K e36 e38
  have o9 := gr_ob (gr_of_new e38 e36) o9
  refine cm_X1_init (ku_X1_init h K.1) h (fun x43 p45 h g44 => ?_)
  have h := h g44
  have K := ku_tr K p45.2
  have o9 := gr_ob p45.2.2.1 o9
  have f41 := p45.2.2.2 _ l42 f41
  have l42 := (p45.2.2.1 _ l42).1
  intro x47 e46
  have h := h x47 e46
  have K := ku_R K e46 f41 l42 n40
  have o9 := ob_wR o9 e46
  intro x49 e48
  have h := h x49 e48
  intro x51 e50
  have h := h x51 e50
  have n52 := ku_nf K e48
  have f53 := ku_ff K e48 e50
  have l54 := ku_fl e50
  have K := ku_W K e48 e50
  have o9 := gr_ob (gr_of_new e50 e48) o9
  refine cm_X7_init (ku_X7_init h K.1) h (fun x55 p57 h g56 => ?_)
  have h := h g56
  have K := ku_tr K p57.2
  have o9 := gr_ob p57.2.2.1 o9
  have f53 := p57.2.2.2 _ l54 f53
  have l54 := (p57.2.2.1 _ l54).1
  intro x59 e58
  have h := h x59 e58
  have K := ku_R K e58 f53 l54 n52
  have o9 := ob_wR o9 e58
  intro x61 e60
  have h := h x61 e60
  intro x63 e62
  have h := h x63 e62
  have n64 := ku_nf K e60
  have f65 := ku_ff K e60 e62
  have l66 := ku_fl e62
  have K := ku_W K e60 e62
  have o9 := gr_ob (gr_of_new e62 e60) o9
  refine cm_X0_init (ku_X0_init h K.1) h (fun x67 p69 h g68 => ?_)
  have h := h g68
  have K := ku_tr K p69.2
  have o9 := gr_ob p69.2.2.1 o9
  have f65 := p69.2.2.2 _ l66 f65
  have l66 := (p69.2.2.1 _ l66).1
  intro x71 e70
  have h := h x71 e70
  have K := ku_R K e70 f65 l66 n64
  have o9 := ob_wR o9 e70
  exact ⟨h, K⟩
theorem ku_X9_init {Q : HS → Prop} {v0 : Nat} {S : HS} (h : P_X9_init v0 Q S) (u : UZ S) : P_X9_init v0 (fun T => Q T ∧ KU S T) S := ku_X9_init_0 h (ku_rf u)
end
