set_option maxRecDepth 20000 in
set_option maxHeartbeats 1000000 in
theorem kf_X4_placeLine_64 {Q : Int32 → HS → Prop} {v0 : Nat} {v1 : Int32} {S0 S : HS} (h : P_X4_placeLine_64 Q v0 v1 S) (K : K2 S0 S) : P_X4_placeLine_64 (fun r T => Q r T ∧ K2 S0 T) v0 v1 S := by
  delta P_X4_placeLine_64 at h ⊢
  obtain ⟨c1, h⟩ := h
  refine ⟨c1, ?_⟩
  have n2 := k2_ne K c1 (by decide)
  obtain ⟨b3, e4, h⟩ := h
  refine ⟨b3, e4, ?_⟩
  obtain ⟨c5, h⟩ := h
  refine ⟨c5, ?_⟩
  have n6 := k2_ne K c5 (by decide)
  obtain ⟨b7, e8, h⟩ := h
  refine ⟨b7, e8, ?_⟩
  obtain ⟨b9, e10, h⟩ := h
  refine ⟨b9, e10, ?_⟩
  obtain ⟨c11, h⟩ := h
  refine ⟨c11, ?_⟩
  have n12 := k2_ne K c11 (by decide)
  intro x14 e13
  have h := h x14 e13
  obtain ⟨c15, h⟩ := h
  refine ⟨c15, ?_⟩
  have n16 := k2_ne K c15 (by decide)
  obtain ⟨c17, h⟩ := h
  refine ⟨c17, ?_⟩
  intro x19 e18
  have h := h x19 e18
  have K := k2_I K e18 n16
  obtain ⟨b20, e21, h⟩ := h
  refine ⟨b20, e21, ?_⟩
  obtain ⟨c22, h⟩ := h
  refine ⟨c22, ?_⟩
  have n23 := k2_ne K c22 (by decide)
  intro x25 e24
  have h := h x25 e24
  intro x27 e26
  have h := h x27 e26
  intro x29 e28
  have h := h x29 e28
  have K := k2_I K e28 n23
  exact ⟨h, K⟩
set_option maxRecDepth 20000 in
set_option maxHeartbeats 1000000 in
theorem kf_X4_placeLine_0 {Q : Int32 → HS → Prop} {v0 : Nat} {S0 S : HS} (h : P_X4_placeLine_0 Q v0 S) (K : K2 S0 S) : P_X4_placeLine_0 (fun r T => Q r T ∧ K2 S0 T) v0 S := by
  delta P_X4_placeLine_0 at h ⊢
  obtain ⟨c1, h⟩ := h
  refine ⟨c1, ?_⟩
  have n2 := k2_ne K c1 (by decide)
  obtain ⟨b3, e4, h⟩ := h
  refine ⟨b3, e4, ?_⟩
  obtain ⟨c5, h⟩ := h
  refine ⟨c5, ?_⟩
  have n6 := k2_ne K c5 (by decide)
  intro x8 e7
  have h := h x8 e7
  refine cm_X4_newName (kf_X4_newName h) h (fun x9 x10 hp h g11 g12 => ?_)
  have h := h g11 g12
  have K := k2_tr K hp.2
  refine ⟨?_, ?_⟩
  · intro c13
    have h := h.1 c13
    refine cm_X4_is (kf_X4_is h) h (fun x14 x15 hp h g16 g17 => ?_)
    have h := h g16 g17
    have K := k2_tr K hp.2
    refine ⟨?_, ?_⟩
    · intro c18
      have h := h.1 c18
      refine cm_X4_is (kf_X4_is h) h (fun x19 x20 hp h g21 g22 => ?_)
      have h := h g21 g22
      have K := k2_tr K hp.2
      refine ⟨?_, ?_⟩
      · intro c23
        have h := h.1 c23
        exact kf_X4_placeLine_64 h K
      · intro c24
        have h := h.2 c24
        refine cm_X4_wordAndWhole (kf_X4_wordAndWhole h) h (fun x25 x26 hp h g27 g28 => ?_)
        have h := h g27 g28
        have K := k2_tr K hp.2
        refine ⟨?_, ?_⟩
        · intro c29
          have h := h.1 c29
          intro x31 e30
          have h := h x31 e30
          exact kf_X4_placeLine_64 h K
        · intro c32
          have h := h.2 c32
          exact ⟨h, K⟩
    · intro c33
      have h := h.2 c33
      refine cm_X4_next (kf_X4_next h) h (fun x34 hp h g35 => ?_)
      have h := h g35
      have K := k2_tr K hp.2
      exact kf_X4_placeLine_64 h K
  · intro c36
    have h := h.2 c36
    exact ⟨h, K⟩
theorem kf_X4_placeLine {Q : Int32 → HS → Prop} {v0 : Nat} {S : HS} (h : P_X4_placeLine v0 Q S) : P_X4_placeLine v0 (fun r T => Q r T ∧ K2 S T) S := kf_X4_placeLine_0 h (k2_rf S)
set_option maxRecDepth 20000 in
set_option maxHeartbeats 1000000 in
theorem kf_X4_side_74 {Q : Int32 → HS → Prop} {v0 : Nat} {S0 S : HS} (h : P_X4_side_74 Q v0 S) (K : K2 S0 S) : P_X4_side_74 (fun r T => Q r T ∧ K2 S0 T) v0 S := by
  delta P_X4_side_74 at h ⊢
  obtain ⟨c1, h⟩ := h
  refine ⟨c1, ?_⟩
  have n2 := k2_ne K c1 (by decide)
  refine cm_X4_next (kf_X4_next h) h (fun x3 hp h g4 => ?_)
  have h := h g4
  have K := k2_tr K hp.2
  exact ⟨h, K⟩
set_option maxRecDepth 20000 in
set_option maxHeartbeats 1000000 in
theorem kf_X4_side_0 {Q : Int32 → HS → Prop} {v0 : Nat} {S0 S : HS} (h : P_X4_side_0 Q v0 S) (K : K2 S0 S) : P_X4_side_0 (fun r T => Q r T ∧ K2 S0 T) v0 S := by
  delta P_X4_side_0 at h ⊢
  obtain ⟨c1, h⟩ := h
  refine ⟨c1, ?_⟩
  have n2 := k2_ne K c1 (by decide)
  refine cm_X4_is (kf_X4_is h) h (fun x3 x4 hp h g5 g6 => ?_)
  have h := h g5 g6
  have K := k2_tr K hp.2
  refine ⟨?_, ?_⟩
  · intro c7
    have h := h.1 c7
    refine cm_X4_is (kf_X4_is h) h (fun x8 x9 hp h g10 g11 => ?_)
    have h := h g10 g11
    have K := k2_tr K hp.2
    refine ⟨?_, ?_⟩
    · intro c12
      have h := h.1 c12
      refine cm_X4_is (kf_X4_is h) h (fun x13 x14 hp h g15 g16 => ?_)
      have h := h g15 g16
      have K := k2_tr K hp.2
      refine ⟨?_, ?_⟩
      · intro c17
        have h := h.1 c17
        refine cm_X4_is (kf_X4_is h) h (fun x18 x19 hp h g20 g21 => ?_)
        have h := h g20 g21
        have K := k2_tr K hp.2
        refine ⟨?_, ?_⟩
        · intro c22
          have h := h.1 c22
          refine cm_X4_fail (kf_X4_fail h) h (fun x23 x24 hp h g25 g26 => ?_)
          have h := h g25 g26
          have K := k2_tr K hp.2
          obtain ⟨c27, h⟩ := h
          refine ⟨c27, ?_⟩
          exact ⟨h, K⟩
        · intro c28
          have h := h.2 c28
          intro x30 e29
          have h := h x30 e29
          have K := k2_I K e29 n2
          exact kf_X4_side_74 h K
      · intro c31
        have h := h.2 c31
        intro x33 e32
        have h := h x33 e32
        have K := k2_I K e32 n2
        exact kf_X4_side_74 h K
    · intro c34
      have h := h.2 c34
      intro x36 e35
      have h := h x36 e35
      have K := k2_I K e35 n2
      exact kf_X4_side_74 h K
  · intro c37
    have h := h.2 c37
    intro x39 e38
    have h := h x39 e38
    have K := k2_I K e38 n2
    exact kf_X4_side_74 h K
theorem kf_X4_side {Q : Int32 → HS → Prop} {v0 : Nat} {S : HS} (h : P_X4_side v0 Q S) : P_X4_side v0 (fun r T => Q r T ∧ K2 S T) S := kf_X4_side_0 h (k2_rf S)
set_option maxRecDepth 20000 in
set_option maxHeartbeats 1000000 in
theorem kf_X4_rainLine_0 {Q : Int32 → HS → Prop} {v0 : Nat} {S0 S : HS} (h : P_X4_rainLine_0 Q v0 S) (K : K2 S0 S) : P_X4_rainLine_0 (fun r T => Q r T ∧ K2 S0 T) v0 S := by
  delta P_X4_rainLine_0 at h ⊢
  obtain ⟨c1, h⟩ := h
  refine ⟨c1, ?_⟩
  have n2 := k2_ne K c1 (by decide)
  obtain ⟨b3, e4, h⟩ := h
  refine ⟨b3, e4, ?_⟩
  obtain ⟨c5, h⟩ := h
  refine ⟨c5, ?_⟩
  have n6 := k2_ne K c5 (by decide)
  obtain ⟨b7, e8, h⟩ := h
  refine ⟨b7, e8, ?_⟩
  obtain ⟨b9, e10, h⟩ := h
  refine ⟨b9, e10, ?_⟩
  obtain ⟨c11, h⟩ := h
  refine ⟨c11, ?_⟩
  have n12 := k2_ne K c11 (by decide)
  intro x14 e13
  have h := h x14 e13
  obtain ⟨c15, h⟩ := h
  refine ⟨c15, ?_⟩
  have n16 := k2_ne K c15 (by decide)
  obtain ⟨c17, h⟩ := h
  refine ⟨c17, ?_⟩
  obtain ⟨b18, e19, h⟩ := h
  refine ⟨b18, e19, ?_⟩
  refine cm_X4_wordAndWhole (kf_X4_wordAndWhole h) h (fun x20 x21 hp h g22 g23 => ?_)
  have h := h g22 g23
  have K := k2_tr K hp.2
  refine ⟨?_, ?_⟩
  · intro c24
    have h := h.1 c24
    intro x26 e25
    have h := h x26 e25
    obtain ⟨c27, h⟩ := h
    refine ⟨c27, ?_⟩
    have n28 := k2_ne K c27 (by decide)
    intro x30 e29
    have h := h x30 e29
    have K := k2_I K e29 n28
    refine cm_X4_wordAndWhole (kf_X4_wordAndWhole h) h (fun x31 x32 hp h g33 g34 => ?_)
    have h := h g33 g34
    have K := k2_tr K hp.2
    refine ⟨?_, ?_⟩
    · intro c35
      have h := h.1 c35
      intro x37 e36
      have h := h x37 e36
      intro x39 e38
      have h := h x39 e38
      have K := k2_I K e38 n28
      refine cm_X4_word (kf_X4_word h) h (fun x40 x41 hp h g42 g43 => ?_)
      have h := h g42 g43
      have K := k2_tr K hp.2
      refine ⟨?_, ?_⟩
      · intro c44
        have h := h.1 c44
        exact ⟨h, K⟩
      · intro c45
        have h := h.2 c45
        refine cm_X4_side (kf_X4_side h) h (fun x46 x47 hp h g48 g49 => ?_)
        have h := h g48 g49
        have K := k2_tr K hp.2
        refine ⟨?_, ?_⟩
        · intro c50
          have h := h.1 c50
          intro x52 e51
          have h := h x52 e51
          intro x54 e53
          have h := h x54 e53
          have K := k2_I K e53 n28
          refine cm_X4_whole (kf_X4_whole h) h (fun x55 x56 hp h g57 g58 => ?_)
          have h := h g57 g58
          have K := k2_tr K hp.2
          refine ⟨?_, ?_⟩
          · intro c59
            have h := h.1 c59
            intro x61 e60
            have h := h x61 e60
            intro x63 e62
            have h := h x63 e62
            have K := k2_I K e62 n28
            refine cm_X4_wordAndWhole (kf_X4_wordAndWhole h) h (fun x64 x65 hp h g66 g67 => ?_)
            have h := h g66 g67
            have K := k2_tr K hp.2
            refine ⟨?_, ?_⟩
            · intro c68
              have h := h.1 c68
              intro x70 e69
              have h := h x70 e69
              intro x72 e71
              have h := h x72 e71
              have K := k2_I K e71 n28
              obtain ⟨b73, e74, h⟩ := h
              refine ⟨b73, e74, ?_⟩
              obtain ⟨c75, h⟩ := h
              refine ⟨c75, ?_⟩
              have n76 := k2_ne K c75 (by decide)
              intro x78 e77
              have h := h x78 e77
              intro x80 e79
              have h := h x80 e79
              intro x82 e81
              have h := h x82 e81
              have K := k2_I K e81 n76
              exact ⟨h, K⟩
            · intro c83
              have h := h.2 c83
              exact ⟨h, K⟩
          · intro c84
            have h := h.2 c84
            exact ⟨h, K⟩
        · intro c85
          have h := h.2 c85
          exact ⟨h, K⟩
    · intro c86
      have h := h.2 c86
      exact ⟨h, K⟩
  · intro c87
    have h := h.2 c87
    exact ⟨h, K⟩
theorem kf_X4_rainLine {Q : Int32 → HS → Prop} {v0 : Nat} {S : HS} (h : P_X4_rainLine v0 Q S) : P_X4_rainLine v0 (fun r T => Q r T ∧ K2 S T) S := kf_X4_rainLine_0 h (k2_rf S)
set_option maxRecDepth 20000 in
set_option maxHeartbeats 1000000 in
theorem kf_X4_roadLine_130 {Q : Int32 → HS → Prop} {v0 : Nat} {S0 S : HS} (h : P_X4_roadLine_130 Q v0 S) (K : K2 S0 S) : P_X4_roadLine_130 (fun r T => Q r T ∧ K2 S0 T) v0 S := by
  delta P_X4_roadLine_130 at h ⊢
  obtain ⟨c1, h⟩ := h
  refine ⟨c1, ?_⟩
  have n2 := k2_ne K c1 (by decide)
  obtain ⟨b3, e4, h⟩ := h
  refine ⟨b3, e4, ?_⟩
  obtain ⟨c5, h⟩ := h
  refine ⟨c5, ?_⟩
  have n6 := k2_ne K c5 (by decide)
  intro x8 e7
  have h := h x8 e7
  intro x10 e9
  have h := h x10 e9
  intro x12 e11
  have h := h x12 e11
  have K := k2_I K e11 n6
  exact ⟨h, K⟩
set_option maxRecDepth 20000 in
set_option maxHeartbeats 1000000 in
theorem kf_X4_roadLine_0 {Q : Int32 → HS → Prop} {v0 : Nat} {S0 S : HS} (h : P_X4_roadLine_0 Q v0 S) (K : K2 S0 S) : P_X4_roadLine_0 (fun r T => Q r T ∧ K2 S0 T) v0 S := by
  delta P_X4_roadLine_0 at h ⊢
  obtain ⟨c1, h⟩ := h
  refine ⟨c1, ?_⟩
  have n2 := k2_ne K c1 (by decide)
  obtain ⟨b3, e4, h⟩ := h
  refine ⟨b3, e4, ?_⟩
  obtain ⟨c5, h⟩ := h
  refine ⟨c5, ?_⟩
  have n6 := k2_ne K c5 (by decide)
  obtain ⟨b7, e8, h⟩ := h
  refine ⟨b7, e8, ?_⟩
  obtain ⟨b9, e10, h⟩ := h
  refine ⟨b9, e10, ?_⟩
  obtain ⟨c11, h⟩ := h
  refine ⟨c11, ?_⟩
  have n12 := k2_ne K c11 (by decide)
  intro x14 e13
  have h := h x14 e13
  obtain ⟨c15, h⟩ := h
  refine ⟨c15, ?_⟩
  have n16 := k2_ne K c15 (by decide)
  obtain ⟨c17, h⟩ := h
  refine ⟨c17, ?_⟩
  obtain ⟨b18, e19, h⟩ := h
  refine ⟨b18, e19, ?_⟩
  refine cm_X4_placeBut (kf_X4_placeBut h) h (fun x20 x21 hp h g22 g23 => ?_)
  have h := h g22 g23
  have K := k2_tr K hp.2
  refine ⟨?_, ?_⟩
  · intro c24
    have h := h.1 c24
    intro x26 e25
    have h := h x26 e25
    obtain ⟨c27, h⟩ := h
    refine ⟨c27, ?_⟩
    have n28 := k2_ne K c27 (by decide)
    intro x30 e29
    have h := h x30 e29
    have K := k2_I K e29 n28
    refine cm_X4_side (kf_X4_side h) h (fun x31 x32 hp h g33 g34 => ?_)
    have h := h g33 g34
    have K := k2_tr K hp.2
    refine ⟨?_, ?_⟩
    · intro c35
      have h := h.1 c35
      intro x37 e36
      have h := h x37 e36
      intro x39 e38
      have h := h x39 e38
      have K := k2_I K e38 n28
      refine cm_X4_whole (kf_X4_whole h) h (fun x40 x41 hp h g42 g43 => ?_)
      have h := h g42 g43
      have K := k2_tr K hp.2
      refine ⟨?_, ?_⟩
      · intro c44
        have h := h.1 c44
        intro x46 e45
        have h := h x46 e45
        intro x48 e47
        have h := h x48 e47
        have K := k2_I K e47 n28
        intro x50 e49
        have h := h x50 e49
        refine cm_X4_placeBut (kf_X4_placeBut h) h (fun x51 x52 hp h g53 g54 => ?_)
        have h := h g53 g54
        have K := k2_tr K hp.2
        refine ⟨?_, ?_⟩
        · intro c55
          have h := h.1 c55
          intro x57 e56
          have h := h x57 e56
          intro x59 e58
          have h := h x59 e58
          have K := k2_I K e58 n28
          intro x61 e60
          have h := h x61 e60
          have K := k2_I K e60 n28
          refine cm_X4_is (kf_X4_is h) h (fun x62 x63 hp h g64 g65 => ?_)
          have h := h g64 g65
          have K := k2_tr K hp.2
          refine ⟨?_, ?_⟩
          · intro c66
            have h := h.1 c66
            exact kf_X4_roadLine_130 h K
          · intro c67
            have h := h.2 c67
            intro x69 e68
            have h := h x69 e68
            refine cm_X4_wordAndWhole (kf_X4_wordAndWhole h) h (fun x70 x71 hp h g72 g73 => ?_)
            have h := h g72 g73
            have K := k2_tr K hp.2
            refine ⟨?_, ?_⟩
            · intro c74
              have h := h.1 c74
              intro x76 e75
              have h := h x76 e75
              intro x78 e77
              have h := h x78 e77
              have K := k2_I K e77 n28
              exact kf_X4_roadLine_130 h K
            · intro c79
              have h := h.2 c79
              exact ⟨h, K⟩
        · intro c80
          have h := h.2 c80
          exact ⟨h, K⟩
      · intro c81
        have h := h.2 c81
        exact ⟨h, K⟩
    · intro c82
      have h := h.2 c82
      exact ⟨h, K⟩
  · intro c83
    have h := h.2 c83
    exact ⟨h, K⟩
theorem kf_X4_roadLine {Q : Int32 → HS → Prop} {v0 : Nat} {S : HS} (h : P_X4_roadLine v0 Q S) : P_X4_roadLine v0 (fun r T => Q r T ∧ K2 S T) S := kf_X4_roadLine_0 h (k2_rf S)
set_option maxRecDepth 20000 in
set_option maxHeartbeats 1000000 in
theorem kf_X4_sign_0 {Q : Int32 → HS → Prop} {v0 : Nat} {v1 : Int32} {S0 S : HS} (h : P_X4_sign_0 Q v0 v1 S) (K : K2 S0 S) : P_X4_sign_0 (fun r T => Q r T ∧ K2 S0 T) v0 v1 S := by
  delta P_X4_sign_0 at h ⊢
  obtain ⟨c1, h⟩ := h
  refine ⟨c1, ?_⟩
  have n2 := k2_ne K c1 (by decide)
  intro x4 e3
  have h := h x4 e3
  refine ⟨?_, ?_⟩
  · intro c5
    have h := h.1 c5
    refine cm_X4_next (kf_X4_next h) h (fun x6 hp h g7 => ?_)
    have h := h g7
    have K := k2_tr K hp.2
    exact ⟨h, K⟩
  · intro c8
    have h := h.2 c8
    refine cm_X4_fail (kf_X4_fail h) h (fun x9 x10 hp h g11 g12 => ?_)
    have h := h g11 g12
    have K := k2_tr K hp.2
    obtain ⟨c13, h⟩ := h
    refine ⟨c13, ?_⟩
    exact ⟨h, K⟩
theorem kf_X4_sign {Q : Int32 → HS → Prop} {v0 : Nat} {v1 : Int32} {S : HS} (h : P_X4_sign v0 v1 Q S) : P_X4_sign v0 v1 (fun r T => Q r T ∧ K2 S T) S := kf_X4_sign_0 h (k2_rf S)
set_option maxRecDepth 20000 in
set_option maxHeartbeats 1000000 in
theorem kf_X4_someWalker_0 {Q : Int32 → HS → Prop} {v0 : Nat} {S0 S : HS} (h : P_X4_someWalker_0 Q v0 S) (K : K2 S0 S) : P_X4_someWalker_0 (fun r T => Q r T ∧ K2 S0 T) v0 S := by
  delta P_X4_someWalker_0 at h ⊢
  obtain ⟨c1, h⟩ := h
  refine ⟨c1, ?_⟩
  have n2 := k2_ne K c1 (by decide)
  refine cm_X4_canBeName (kf_X4_canBeName h) h (fun x3 x4 hp h g5 g6 => ?_)
  have h := h g5 g6
  have K := k2_tr K hp.2
  refine ⟨?_, ?_⟩
  · intro c7
    have h := h.1 c7
    refine cm_X4_findName (kf_X4_findName h) h (fun x8 x9 hp h g10 => ?_)
    have h := h g10
    have K := k2_tr K hp.2
    refine ⟨?_, ?_⟩
    · intro c11
      have h := h.1 c11
      intro x13 e12
      have h := h x13 e12
      intro x15 e14
      have h := h x15 e14
      have K := k2_I K e14 n2
      refine cm_X4_next (kf_X4_next h) h (fun x16 hp h g17 => ?_)
      have h := h g17
      have K := k2_tr K hp.2
      exact ⟨h, K⟩
    · intro c18
      have h := h.2 c18
      refine cm_X4_fail (kf_X4_fail h) h (fun x19 x20 hp h g21 g22 => ?_)
      have h := h g21 g22
      have K := k2_tr K hp.2
      obtain ⟨c23, h⟩ := h
      refine ⟨c23, ?_⟩
      exact ⟨h, K⟩
  · intro c24
    have h := h.2 c24
    refine cm_X4_fail (kf_X4_fail h) h (fun x25 x26 hp h g27 g28 => ?_)
    have h := h g27 g28
    have K := k2_tr K hp.2
    obtain ⟨c29, h⟩ := h
    refine ⟨c29, ?_⟩
    exact ⟨h, K⟩
theorem kf_X4_someWalker {Q : Int32 → HS → Prop} {v0 : Nat} {S : HS} (h : P_X4_someWalker v0 Q S) : P_X4_someWalker v0 (fun r T => Q r T ∧ K2 S T) S := kf_X4_someWalker_0 h (k2_rf S)
set_option maxRecDepth 20000 in
set_option maxHeartbeats 1000000 in
theorem kf_X4_seenLine_47 {Q : Int32 → HS → Prop} {X30 X30_2 : Nat → Int32 → HS → Prop} {v0 : Nat} {v1 : Int32} {S0 S : HS} (h : P_X4_seenLine_47 Q X30 v0 v1 S) (K : K2 S0 S) (hX30 : ∀ (u0 : Nat) (u1 : Int32) (u2 : HS), X30 u0 u1 u2 → K2 S0 u2 → X30_2 u0 u1 u2) : P_X4_seenLine_47 (fun r T => Q r T ∧ K2 S0 T) X30_2 v0 v1 S := by
  delta P_X4_seenLine_47 at h ⊢
  obtain ⟨c1, h⟩ := h
  refine ⟨c1, ?_⟩
  have n2 := k2_ne K c1 (by decide)
  refine cm_X4_whole (kf_X4_whole h) h (fun x3 x4 hp h g5 g6 => ?_)
  have h := h g5 g6
  have K := k2_tr K hp.2
  refine ⟨?_, ?_⟩
  · intro c7
    have h := h.1 c7
    obtain ⟨b8, e9, h⟩ := h
    refine ⟨b8, e9, ?_⟩
    obtain ⟨c10, h⟩ := h
    refine ⟨c10, ?_⟩
    have n11 := k2_ne K c10 (by decide)
    obtain ⟨b12, e13, h⟩ := h
    refine ⟨b12, e13, ?_⟩
    obtain ⟨b14, e15, h⟩ := h
    refine ⟨b14, e15, ?_⟩
    obtain ⟨c16, h⟩ := h
    refine ⟨c16, ?_⟩
    have n17 := k2_ne K c16 (by decide)
    intro x19 e18
    have h := h x19 e18
    intro x21 e20
    have h := h x21 e20
    obtain ⟨c22, h⟩ := h
    refine ⟨c22, ?_⟩
    have n23 := k2_ne K c22 (by decide)
    obtain ⟨c24, h⟩ := h
    refine ⟨c24, ?_⟩
    intro x26 e25
    have h := h x26 e25
    have K := k2_I K e25 n23
    intro x28 e27
    have h := h x28 e27
    exact hX30 _ _ _ h K
  · intro c29
    have h := h.2 c29
    exact ⟨h, K⟩
set_option maxRecDepth 20000 in
set_option maxHeartbeats 1000000 in
theorem kfB_X4_seenLine_30 {Q : Int32 → HS → Prop} {X30 X30_2 : Nat → Int32 → HS → Prop} {v0 : Nat} {v1 : Int32} {S0 S : HS} (h : B_X4_seenLine_30 Q X30 v0 v1 S) (K : K2 S0 S) (hX30 : ∀ (u0 : Nat) (u1 : Int32) (u2 : HS), X30 u0 u1 u2 → K2 S0 u2 → X30_2 u0 u1 u2) : B_X4_seenLine_30 (fun r T => Q r T ∧ K2 S0 T) X30_2 v0 v1 S := by
  delta B_X4_seenLine_30 at h ⊢
  refine ⟨?_, ?_⟩
  · intro c1
    have h := h.1 c1
    obtain ⟨c2, h⟩ := h
    refine ⟨c2, ?_⟩
    have n3 := k2_ne K c2 (by decide)
    obtain ⟨b4, e5, h⟩ := h
    refine ⟨b4, e5, ?_⟩
    obtain ⟨c6, h⟩ := h
    refine ⟨c6, ?_⟩
    have n7 := k2_ne K c6 (by decide)
    intro x9 e8
    have h := h x9 e8
    intro x11 e10
    have h := h x11 e10
    intro x13 e12
    have h := h x13 e12
    have K := k2_I K e12 n7
    exact ⟨h, K⟩
  · intro c14
    have h := h.2 c14
    refine ⟨?_, ?_⟩
    · intro c15
      have h := h.1 c15
      exact kf_X4_seenLine_47 h K hX30
    · intro c16
      have h := h.2 c16
      obtain ⟨c17, h⟩ := h
      refine ⟨c17, ?_⟩
      have n18 := k2_ne K c17 (by decide)
      refine cm_X4_sign (kf_X4_sign h) h (fun x19 x20 hp h g21 g22 => ?_)
      have h := h g21 g22
      have K := k2_tr K hp.2
      refine ⟨?_, ?_⟩
      · intro c23
        have h := h.1 c23
        exact ⟨h, K⟩
      · intro c24
        have h := h.2 c24
        exact kf_X4_seenLine_47 h K hX30
theorem kf_X4_seenLine_30 {Q : Int32 → HS → Prop} {v0 : Nat} {v1 : Int32} {S0 S : HS} (h : P_X4_seenLine_30 Q v0 v1 S) (K : K2 S0 S) : P_X4_seenLine_30 (fun r T => Q r T ∧ K2 S0 T) v0 v1 S := h (fun v0 v1 S => K2 S0 S → P_X4_seenLine_30 (fun r T => Q r T ∧ K2 S0 T) v0 v1 S) (fun v0 v1 S hB K => fd_X4_seenLine_30 (kfB_X4_seenLine_30 hB K (fun _ _ _ hx K => hx K))) K
set_option maxRecDepth 20000 in
set_option maxHeartbeats 1000000 in
theorem kf_X4_seenLine_0 {Q : Int32 → HS → Prop} {v0 : Nat} {S0 S : HS} (h : P_X4_seenLine_0 Q v0 S) (K : K2 S0 S) : P_X4_seenLine_0 (fun r T => Q r T ∧ K2 S0 T) v0 S := by
  delta P_X4_seenLine_0 at h ⊢
  obtain ⟨c1, h⟩ := h
  refine ⟨c1, ?_⟩
  have n2 := k2_ne K c1 (by decide)
  refine cm_X4_someWalker (kf_X4_someWalker h) h (fun x3 x4 hp h g5 g6 => ?_)
  have h := h g5 g6
  have K := k2_tr K hp.2
  refine ⟨?_, ?_⟩
  · intro c7
    have h := h.1 c7
    obtain ⟨b8, e9, h⟩ := h
    refine ⟨b8, e9, ?_⟩
    obtain ⟨c10, h⟩ := h
    refine ⟨c10, ?_⟩
    have n11 := k2_ne K c10 (by decide)
    obtain ⟨b12, e13, h⟩ := h
    refine ⟨b12, e13, ?_⟩
    obtain ⟨b14, e15, h⟩ := h
    refine ⟨b14, e15, ?_⟩
    obtain ⟨c16, h⟩ := h
    refine ⟨c16, ?_⟩
    have n17 := k2_ne K c16 (by decide)
    intro x19 e18
    have h := h x19 e18
    intro x21 e20
    have h := h x21 e20
    obtain ⟨c22, h⟩ := h
    refine ⟨c22, ?_⟩
    have n23 := k2_ne K c22 (by decide)
    obtain ⟨c24, h⟩ := h
    refine ⟨c24, ?_⟩
    intro x26 e25
    have h := h x26 e25
    have K := k2_I K e25 n23
    exact kf_X4_seenLine_30 h K
  · intro c27
    have h := h.2 c27
    exact ⟨h, K⟩
theorem kf_X4_seenLine {Q : Int32 → HS → Prop} {v0 : Nat} {S : HS} (h : P_X4_seenLine v0 Q S) : P_X4_seenLine v0 (fun r T => Q r T ∧ K2 S T) S := kf_X4_seenLine_0 h (k2_rf S)
set_option maxRecDepth 20000 in
set_option maxHeartbeats 1000000 in
theorem kf_X4_walkerLine_0 {Q : Int32 → HS → Prop} {v0 : Nat} {S0 S : HS} (h : P_X4_walkerLine_0 Q v0 S) (K : K2 S0 S) : P_X4_walkerLine_0 (fun r T => Q r T ∧ K2 S0 T) v0 S := by
  delta P_X4_walkerLine_0 at h ⊢
  obtain ⟨c1, h⟩ := h
  refine ⟨c1, ?_⟩
  have n2 := k2_ne K c1 (by decide)
  obtain ⟨b3, e4, h⟩ := h
  refine ⟨b3, e4, ?_⟩
  obtain ⟨c5, h⟩ := h
  refine ⟨c5, ?_⟩
  have n6 := k2_ne K c5 (by decide)
  obtain ⟨b7, e8, h⟩ := h
  refine ⟨b7, e8, ?_⟩
  obtain ⟨b9, e10, h⟩ := h
  refine ⟨b9, e10, ?_⟩
  obtain ⟨c11, h⟩ := h
  refine ⟨c11, ?_⟩
  have n12 := k2_ne K c11 (by decide)
  intro x14 e13
  have h := h x14 e13
  obtain ⟨c15, h⟩ := h
  refine ⟨c15, ?_⟩
  have n16 := k2_ne K c15 (by decide)
  obtain ⟨c17, h⟩ := h
  refine ⟨c17, ?_⟩
  obtain ⟨b18, e19, h⟩ := h
  refine ⟨b18, e19, ?_⟩
  obtain ⟨b20, e21, h⟩ := h
  refine ⟨b20, e21, ?_⟩
  obtain ⟨c22, h⟩ := h
  refine ⟨c22, ?_⟩
  have n23 := k2_ne K c22 (by decide)
  intro x25 e24
  have h := h x25 e24
  refine cm_X4_newName (kf_X4_newName h) h (fun x26 x27 hp h g28 g29 => ?_)
  have h := h g28 g29
  have K := k2_tr K hp.2
  refine ⟨?_, ?_⟩
  · intro c30
    have h := h.1 c30
    exact ⟨h, K⟩
  · intro c31
    have h := h.2 c31
    refine cm_X4_kindOf (kf_X4_kindOf h) h (fun x32 x33 hp h g34 g35 => ?_)
    have h := h g34 g35
    have K := k2_tr K hp.2
    refine ⟨?_, ?_⟩
    · intro c36
      have h := h.1 c36
      exact ⟨h, K⟩
    · intro c37
      have h := h.2 c37
      refine cm_X4_bodyOf (kf_X4_bodyOf h) h (fun x38 x39 hp h g40 g41 => ?_)
      have h := h g40 g41
      have K := k2_tr K hp.2
      refine ⟨?_, ?_⟩
      · intro c42
        have h := h.1 c42
        refine cm_X4_wordAndWhole (kf_X4_wordAndWhole h) h (fun x43 x44 hp h g45 g46 => ?_)
        have h := h g45 g46
        have K := k2_tr K hp.2
        refine ⟨?_, ?_⟩
        · intro c47
          have h := h.1 c47
          intro x49 e48
          have h := h x49 e48
          obtain ⟨c50, h⟩ := h
          refine ⟨c50, ?_⟩
          have n51 := k2_ne K c50 (by decide)
          intro x53 e52
          have h := h x53 e52
          have K := k2_I K e52 n51
          intro x55 e54
          have h := h x55 e54
          refine cm_X4_wordAndWhole (kf_X4_wordAndWhole h) h (fun x56 x57 hp h g58 g59 => ?_)
          have h := h g58 g59
          have K := k2_tr K hp.2
          refine ⟨?_, ?_⟩
          · intro c60
            have h := h.1 c60
            intro x62 e61
            have h := h x62 e61
            intro x64 e63
            have h := h x64 e63
            have K := k2_I K e63 n51
            obtain ⟨b65, e66, h⟩ := h
            refine ⟨b65, e66, ?_⟩
            obtain ⟨c67, h⟩ := h
            refine ⟨c67, ?_⟩
            have n68 := k2_ne K c67 (by decide)
            intro x70 e69
            have h := h x70 e69
            intro x72 e71
            have h := h x72 e71
            intro x74 e73
            have h := h x74 e73
            have K := k2_I K e73 n68
            exact ⟨h, K⟩
          · intro c75
            have h := h.2 c75
            exact ⟨h, K⟩
        · intro c76
          have h := h.2 c76
          exact ⟨h, K⟩
      · intro c77
        have h := h.2 c77
        exact ⟨h, K⟩
theorem kf_X4_walkerLine {Q : Int32 → HS → Prop} {v0 : Nat} {S : HS} (h : P_X4_walkerLine v0 Q S) : P_X4_walkerLine v0 (fun r T => Q r T ∧ K2 S T) S := kf_X4_walkerLine_0 h (k2_rf S)
set_option maxRecDepth 20000 in
set_option maxHeartbeats 1000000 in
theorem kf_X4_worldLine_0 {Q : Int32 → HS → Prop} {v0 : Nat} {S0 S : HS} (h : P_X4_worldLine_0 Q v0 S) (K : K2 S0 S) : P_X4_worldLine_0 (fun r T => Q r T ∧ K2 S0 T) v0 S := by
  delta P_X4_worldLine_0 at h ⊢
  obtain ⟨c1, h⟩ := h
  refine ⟨c1, ?_⟩
  have n2 := k2_ne K c1 (by decide)
  obtain ⟨b3, e4, h⟩ := h
  refine ⟨b3, e4, ?_⟩
  obtain ⟨c5, h⟩ := h
  refine ⟨c5, ?_⟩
  have n6 := k2_ne K c5 (by decide)
  refine cm_X8_isTold (kf_X8_isTold h) h (fun x7 x8 hp h g9 g10 => ?_)
  have h := h g9 g10
  have K := k2_tr K hp.2
  refine ⟨?_, ?_⟩
  · intro c11
    have h := h.1 c11
    refine cm_X4_next (kf_X4_next h) h (fun x12 hp h g13 => ?_)
    have h := h g13
    have K := k2_tr K hp.2
    refine cm_X4_wordAndWhole (kf_X4_wordAndWhole h) h (fun x14 x15 hp h g16 g17 => ?_)
    have h := h g16 g17
    have K := k2_tr K hp.2
    refine ⟨?_, ?_⟩
    · intro c18
      have h := h.1 c18
      obtain ⟨b19, e20, h⟩ := h
      refine ⟨b19, e20, ?_⟩
      intro x22 e21
      have h := h x22 e21
      obtain ⟨c23, h⟩ := h
      refine ⟨c23, ?_⟩
      have n24 := k2_ne K c23 (by decide)
      intro x26 e25
      have h := h x26 e25
      have K := k2_I K e25 n24
      exact ⟨h, K⟩
    · intro c27
      have h := h.2 c27
      exact ⟨h, K⟩
  · intro c28
    have h := h.2 c28
    refine cm_X4_fail (kf_X4_fail h) h (fun x29 x30 hp h g31 g32 => ?_)
    have h := h g31 g32
    have K := k2_tr K hp.2
    obtain ⟨c33, h⟩ := h
    refine ⟨c33, ?_⟩
    exact ⟨h, K⟩
theorem kf_X4_worldLine {Q : Int32 → HS → Prop} {v0 : Nat} {S : HS} (h : P_X4_worldLine v0 Q S) : P_X4_worldLine v0 (fun r T => Q r T ∧ K2 S T) S := kf_X4_worldLine_0 h (k2_rf S)
set_option maxRecDepth 20000 in
set_option maxHeartbeats 1000000 in
theorem kf_X4_read_280 {Q : Int32 → HS → Prop} {v0 : Nat} {S0 S : HS} (h : P_X4_read_280 Q v0 S) (K : K2 S0 S) : P_X4_read_280 (fun r T => Q r T ∧ K2 S0 T) v0 S := by
  delta P_X4_read_280 at h ⊢
  obtain ⟨c1, h⟩ := h
  refine ⟨c1, ?_⟩
  have n2 := k2_ne K c1 (by decide)
  refine cm_X4_fail (kf_X4_fail h) h (fun x3 x4 hp h g5 g6 => ?_)
  have h := h g5 g6
  have K := k2_tr K hp.2
  refine ⟨?_, ?_⟩
  · intro c7
    have h := h.1 c7
    exact ⟨h, K⟩
  · intro c8
    have h := h.2 c8
    exact ⟨h, K⟩
set_option maxRecDepth 20000 in
set_option maxHeartbeats 1000000 in
theorem kf_X4_read_295 {Q : Int32 → HS → Prop} {X8 X8_2 : Nat → Int32 → HS → Prop} {v0 : Nat} {v3 : Int32} {v4 : Int32} {S0 S : HS} (h : P_X4_read_295 Q X8 v0 v3 v4 S) (K : K2 S0 S) (hX8 : ∀ (u0 : Nat) (u1 : Int32) (u2 : HS), X8 u0 u1 u2 → K2 S0 u2 → X8_2 u0 u1 u2) : P_X4_read_295 (fun r T => Q r T ∧ K2 S0 T) X8_2 v0 v3 v4 S := by
  delta P_X4_read_295 at h ⊢
  refine ⟨?_, ?_⟩
  · intro c1
    have h := h.1 c1
    exact ⟨h, K⟩
  · intro c2
    have h := h.2 c2
    obtain ⟨c3, h⟩ := h
    refine ⟨c3, ?_⟩
    have n4 := k2_ne K c3 (by decide)
    refine cm_X4_sign (kf_X4_sign h) h (fun x5 x6 hp h g7 g8 => ?_)
    have h := h g7 g8
    have K := k2_tr K hp.2
    refine ⟨?_, ?_⟩
    · intro c9
      have h := h.1 c9
      intro x11 e10
      have h := h x11 e10
      exact hX8 _ _ _ h K
    · intro c12
      have h := h.2 c12
      exact ⟨h, K⟩
set_option maxRecDepth 20000 in
set_option maxHeartbeats 1000000 in
theorem kf_X4_read_248 {Q : Int32 → HS → Prop} {X8 X8_2 : Nat → Int32 → HS → Prop} {v0 : Nat} {v3 : Int32} {v4 : Int32} {S0 S : HS} (h : P_X4_read_248 Q X8 v0 v3 v4 S) (K : K2 S0 S) (hX8 : ∀ (u0 : Nat) (u1 : Int32) (u2 : HS), X8 u0 u1 u2 → K2 S0 u2 → X8_2 u0 u1 u2) : P_X4_read_248 (fun r T => Q r T ∧ K2 S0 T) X8_2 v0 v3 v4 S := by
  delta P_X4_read_248 at h ⊢
  refine ⟨?_, ?_⟩
  · intro c1
    have h := h.1 c1
    exact kf_X4_read_295 h K hX8
  · intro c2
    have h := h.2 c2
    obtain ⟨c3, h⟩ := h
    refine ⟨c3, ?_⟩
    have n4 := k2_ne K c3 (by decide)
    intro x6 e5
    have h := h x6 e5
    refine ⟨?_, ?_⟩
    · intro c7
      have h := h.1 c7
      exact kf_X4_read_295 h K hX8
    · intro c8
      have h := h.2 c8
      obtain ⟨b9, e10, h⟩ := h
      refine ⟨b9, e10, ?_⟩
      obtain ⟨c11, h⟩ := h
      refine ⟨c11, ?_⟩
      have n12 := k2_ne K c11 (by decide)
      intro x14 e13
      have h := h x14 e13
      refine ⟨?_, ?_⟩
      · intro c15
        have h := h.1 c15
        exact kf_X4_read_280 h K
      · intro c16
        have h := h.2 c16
        obtain ⟨b17, e18, h⟩ := h
        refine ⟨b17, e18, ?_⟩
        obtain ⟨c19, h⟩ := h
        refine ⟨c19, ?_⟩
        have n20 := k2_ne K c19 (by decide)
        intro x22 e21
        have h := h x22 e21
        refine ⟨?_, ?_⟩
        · intro c23
          have h := h.1 c23
          exact ⟨h, K⟩
        · intro c24
          have h := h.2 c24
          exact kf_X4_read_280 h K
set_option maxRecDepth 20000 in
set_option maxHeartbeats 1000000 in
theorem kf_X4_read_70 {Q : Int32 → HS → Prop} {X8 X8_2 : Nat → Int32 → HS → Prop} {v0 : Nat} {v3 : Int32} {s0 : Int32} {S0 S : HS} (h : P_X4_read_70 Q X8 v0 v3 s0 S) (K : K2 S0 S) (hX8 : ∀ (u0 : Nat) (u1 : Int32) (u2 : HS), X8 u0 u1 u2 → K2 S0 u2 → X8_2 u0 u1 u2) : P_X4_read_70 (fun r T => Q r T ∧ K2 S0 T) X8_2 v0 v3 s0 S := by
  delta P_X4_read_70 at h ⊢
  exact kf_X4_read_248 h K hX8
set_option maxRecDepth 20000 in
set_option maxHeartbeats 1000000 in
theorem kf_X4_read_69 {Q : Int32 → HS → Prop} {X8 X8_2 : Nat → Int32 → HS → Prop} {v0 : Nat} {v3 : Int32} {S0 S : HS} (h : P_X4_read_69 Q X8 v0 v3 S) (K : K2 S0 S) (hX8 : ∀ (u0 : Nat) (u1 : Int32) (u2 : HS), X8 u0 u1 u2 → K2 S0 u2 → X8_2 u0 u1 u2) : P_X4_read_69 (fun r T => Q r T ∧ K2 S0 T) X8_2 v0 v3 S := by
  delta P_X4_read_69 at h ⊢
  exact kf_X4_read_70 h K hX8
set_option maxRecDepth 20000 in
set_option maxHeartbeats 1000000 in
theorem kf_X4_read_112 {Q : Int32 → HS → Prop} {X8 X8_2 : Nat → Int32 → HS → Prop} {v0 : Nat} {v3 : Int32} {s0 : Int32} {S0 S : HS} (h : P_X4_read_112 Q X8 v0 v3 s0 S) (K : K2 S0 S) (hX8 : ∀ (u0 : Nat) (u1 : Int32) (u2 : HS), X8 u0 u1 u2 → K2 S0 u2 → X8_2 u0 u1 u2) : P_X4_read_112 (fun r T => Q r T ∧ K2 S0 T) X8_2 v0 v3 s0 S := by
  delta P_X4_read_112 at h ⊢
  exact kf_X4_read_248 h K hX8
set_option maxRecDepth 20000 in
set_option maxHeartbeats 1000000 in
theorem kf_X4_read_111 {Q : Int32 → HS → Prop} {X8 X8_2 : Nat → Int32 → HS → Prop} {v0 : Nat} {v3 : Int32} {S0 S : HS} (h : P_X4_read_111 Q X8 v0 v3 S) (K : K2 S0 S) (hX8 : ∀ (u0 : Nat) (u1 : Int32) (u2 : HS), X8 u0 u1 u2 → K2 S0 u2 → X8_2 u0 u1 u2) : P_X4_read_111 (fun r T => Q r T ∧ K2 S0 T) X8_2 v0 v3 S := by
  delta P_X4_read_111 at h ⊢
  exact kf_X4_read_112 h K hX8
set_option maxRecDepth 20000 in
set_option maxHeartbeats 1000000 in
theorem kf_X4_read_154 {Q : Int32 → HS → Prop} {X8 X8_2 : Nat → Int32 → HS → Prop} {v0 : Nat} {v3 : Int32} {s0 : Int32} {S0 S : HS} (h : P_X4_read_154 Q X8 v0 v3 s0 S) (K : K2 S0 S) (hX8 : ∀ (u0 : Nat) (u1 : Int32) (u2 : HS), X8 u0 u1 u2 → K2 S0 u2 → X8_2 u0 u1 u2) : P_X4_read_154 (fun r T => Q r T ∧ K2 S0 T) X8_2 v0 v3 s0 S := by
  delta P_X4_read_154 at h ⊢
  exact kf_X4_read_248 h K hX8
set_option maxRecDepth 20000 in
set_option maxHeartbeats 1000000 in
theorem kf_X4_read_153 {Q : Int32 → HS → Prop} {X8 X8_2 : Nat → Int32 → HS → Prop} {v0 : Nat} {v3 : Int32} {S0 S : HS} (h : P_X4_read_153 Q X8 v0 v3 S) (K : K2 S0 S) (hX8 : ∀ (u0 : Nat) (u1 : Int32) (u2 : HS), X8 u0 u1 u2 → K2 S0 u2 → X8_2 u0 u1 u2) : P_X4_read_153 (fun r T => Q r T ∧ K2 S0 T) X8_2 v0 v3 S := by
  delta P_X4_read_153 at h ⊢
  exact kf_X4_read_154 h K hX8
set_option maxRecDepth 20000 in
set_option maxHeartbeats 1000000 in
theorem kf_X4_read_195 {Q : Int32 → HS → Prop} {X8 X8_2 : Nat → Int32 → HS → Prop} {v0 : Nat} {v3 : Int32} {s0 : Int32} {S0 S : HS} (h : P_X4_read_195 Q X8 v0 v3 s0 S) (K : K2 S0 S) (hX8 : ∀ (u0 : Nat) (u1 : Int32) (u2 : HS), X8 u0 u1 u2 → K2 S0 u2 → X8_2 u0 u1 u2) : P_X4_read_195 (fun r T => Q r T ∧ K2 S0 T) X8_2 v0 v3 s0 S := by
  delta P_X4_read_195 at h ⊢
  exact kf_X4_read_248 h K hX8
set_option maxRecDepth 20000 in
set_option maxHeartbeats 1000000 in
theorem kf_X4_read_194 {Q : Int32 → HS → Prop} {X8 X8_2 : Nat → Int32 → HS → Prop} {v0 : Nat} {v3 : Int32} {S0 S : HS} (h : P_X4_read_194 Q X8 v0 v3 S) (K : K2 S0 S) (hX8 : ∀ (u0 : Nat) (u1 : Int32) (u2 : HS), X8 u0 u1 u2 → K2 S0 u2 → X8_2 u0 u1 u2) : P_X4_read_194 (fun r T => Q r T ∧ K2 S0 T) X8_2 v0 v3 S := by
  delta P_X4_read_194 at h ⊢
  exact kf_X4_read_195 h K hX8
set_option maxRecDepth 20000 in
set_option maxHeartbeats 1000000 in
theorem kf_X4_read_236 {Q : Int32 → HS → Prop} {X8 X8_2 : Nat → Int32 → HS → Prop} {v0 : Nat} {v3 : Int32} {s0 : Int32} {S0 S : HS} (h : P_X4_read_236 Q X8 v0 v3 s0 S) (K : K2 S0 S) (hX8 : ∀ (u0 : Nat) (u1 : Int32) (u2 : HS), X8 u0 u1 u2 → K2 S0 u2 → X8_2 u0 u1 u2) : P_X4_read_236 (fun r T => Q r T ∧ K2 S0 T) X8_2 v0 v3 s0 S := by
  delta P_X4_read_236 at h ⊢
  exact kf_X4_read_248 h K hX8
set_option maxRecDepth 20000 in
set_option maxHeartbeats 1000000 in
theorem kf_X4_read_235 {Q : Int32 → HS → Prop} {X8 X8_2 : Nat → Int32 → HS → Prop} {v0 : Nat} {v3 : Int32} {S0 S : HS} (h : P_X4_read_235 Q X8 v0 v3 S) (K : K2 S0 S) (hX8 : ∀ (u0 : Nat) (u1 : Int32) (u2 : HS), X8 u0 u1 u2 → K2 S0 u2 → X8_2 u0 u1 u2) : P_X4_read_235 (fun r T => Q r T ∧ K2 S0 T) X8_2 v0 v3 S := by
  delta P_X4_read_235 at h ⊢
  exact kf_X4_read_236 h K hX8
set_option maxRecDepth 20000 in
set_option maxHeartbeats 1000000 in
theorem kfB_X4_read_8 {Q : Int32 → HS → Prop} {X8 X8_2 : Nat → Int32 → HS → Prop} {v0 : Nat} {v3 : Int32} {S0 S : HS} (h : B_X4_read_8 Q X8 v0 v3 S) (K : K2 S0 S) (hX8 : ∀ (u0 : Nat) (u1 : Int32) (u2 : HS), X8 u0 u1 u2 → K2 S0 u2 → X8_2 u0 u1 u2) : B_X4_read_8 (fun r T => Q r T ∧ K2 S0 T) X8_2 v0 v3 S := by
  delta B_X4_read_8 at h ⊢
  refine ⟨?_, ?_⟩
  · intro c1
    have h := h.1 c1
    obtain ⟨c2, h⟩ := h
    refine ⟨c2, ?_⟩
    have n3 := k2_ne K c2 (by decide)
    refine cm_X4_fail (kf_X4_fail h) h (fun x4 x5 hp h g6 g7 => ?_)
    have h := h g6 g7
    have K := k2_tr K hp.2
    obtain ⟨c8, h⟩ := h
    refine ⟨c8, ?_⟩
    exact ⟨h, K⟩
  · intro c9
    have h := h.2 c9
    obtain ⟨c10, h⟩ := h
    refine ⟨c10, ?_⟩
    have n11 := k2_ne K c10 (by decide)
    refine cm_X4_is (kf_X4_is h) h (fun x12 x13 hp h g14 g15 => ?_)
    have h := h g14 g15
    have K := k2_tr K hp.2
    refine ⟨?_, ?_⟩
    · intro c16
      have h := h.1 c16
      refine cm_X4_is (kf_X4_is h) h (fun x17 x18 hp h g19 g20 => ?_)
      have h := h g19 g20
      have K := k2_tr K hp.2
      refine ⟨?_, ?_⟩
      · intro c21
        have h := h.1 c21
        refine cm_X4_is (kf_X4_is h) h (fun x22 x23 hp h g24 g25 => ?_)
        have h := h g24 g25
        have K := k2_tr K hp.2
        refine ⟨?_, ?_⟩
        · intro c26
          have h := h.1 c26
          refine cm_X4_is (kf_X4_is h) h (fun x27 x28 hp h g29 g30 => ?_)
          have h := h g29 g30
          have K := k2_tr K hp.2
          refine ⟨?_, ?_⟩
          · intro c31
            have h := h.1 c31
            refine cm_X4_is (kf_X4_is h) h (fun x32 x33 hp h g34 g35 => ?_)
            have h := h g34 g35
            have K := k2_tr K hp.2
            refine ⟨?_, ?_⟩
            · intro c36
              have h := h.1 c36
              refine cm_X4_is (kf_X4_is h) h (fun x37 x38 hp h g39 g40 => ?_)
              have h := h g39 g40
              have K := k2_tr K hp.2
              refine ⟨?_, ?_⟩
              · intro c41
                have h := h.1 c41
                refine cm_X4_fail (kf_X4_fail h) h (fun x42 x43 hp h g44 g45 => ?_)
                have h := h g44 g45
                have K := k2_tr K hp.2
                exact kf_X4_read_248 h K hX8
              · intro c46
                have h := h.2 c46
                obtain ⟨b47, e48, h⟩ := h
                refine ⟨b47, e48, ?_⟩
                obtain ⟨c49, h⟩ := h
                refine ⟨c49, ?_⟩
                have n50 := k2_ne K c49 (by decide)
                intro x52 e51
                have h := h x52 e51
                refine cm_X4_hasRoom (kf_X4_hasRoom h) h (fun x53 x54 hp h g55 g56 => ?_)
                have h := h g55 g56
                have K := k2_tr K hp.2
                refine ⟨?_, ?_⟩
                · intro c57
                  have h := h.1 c57
                  exact kf_X4_read_235 h K hX8
                · intro c58
                  have h := h.2 c58
                  refine cm_X4_seenLine (kf_X4_seenLine h) h (fun x59 x60 hp h g61 g62 => ?_)
                  have h := h g61 g62
                  have K := k2_tr K hp.2
                  refine ⟨?_, ?_⟩
                  · intro c63
                    have h := h.1 c63
                    exact kf_X4_read_235 h K hX8
                  · intro c64
                    have h := h.2 c64
                    exact kf_X4_read_236 h K hX8
            · intro c65
              have h := h.2 c65
              obtain ⟨b66, e67, h⟩ := h
              refine ⟨b66, e67, ?_⟩
              obtain ⟨c68, h⟩ := h
              refine ⟨c68, ?_⟩
              have n69 := k2_ne K c68 (by decide)
              intro x71 e70
              have h := h x71 e70
              refine cm_X4_hasRoom (kf_X4_hasRoom h) h (fun x72 x73 hp h g74 g75 => ?_)
              have h := h g74 g75
              have K := k2_tr K hp.2
              refine ⟨?_, ?_⟩
              · intro c76
                have h := h.1 c76
                exact kf_X4_read_194 h K hX8
              · intro c77
                have h := h.2 c77
                refine cm_X4_walkerLine (kf_X4_walkerLine h) h (fun x78 x79 hp h g80 g81 => ?_)
                have h := h g80 g81
                have K := k2_tr K hp.2
                refine ⟨?_, ?_⟩
                · intro c82
                  have h := h.1 c82
                  exact kf_X4_read_194 h K hX8
                · intro c83
                  have h := h.2 c83
                  exact kf_X4_read_195 h K hX8
          · intro c84
            have h := h.2 c84
            obtain ⟨b85, e86, h⟩ := h
            refine ⟨b85, e86, ?_⟩
            obtain ⟨c87, h⟩ := h
            refine ⟨c87, ?_⟩
            have n88 := k2_ne K c87 (by decide)
            intro x90 e89
            have h := h x90 e89
            refine cm_X4_hasRoom (kf_X4_hasRoom h) h (fun x91 x92 hp h g93 g94 => ?_)
            have h := h g93 g94
            have K := k2_tr K hp.2
            refine ⟨?_, ?_⟩
            · intro c95
              have h := h.1 c95
              exact kf_X4_read_153 h K hX8
            · intro c96
              have h := h.2 c96
              refine cm_X4_roadLine (kf_X4_roadLine h) h (fun x97 x98 hp h g99 g100 => ?_)
              have h := h g99 g100
              have K := k2_tr K hp.2
              refine ⟨?_, ?_⟩
              · intro c101
                have h := h.1 c101
                exact kf_X4_read_153 h K hX8
              · intro c102
                have h := h.2 c102
                exact kf_X4_read_154 h K hX8
        · intro c103
          have h := h.2 c103
          obtain ⟨b104, e105, h⟩ := h
          refine ⟨b104, e105, ?_⟩
          obtain ⟨c106, h⟩ := h
          refine ⟨c106, ?_⟩
          have n107 := k2_ne K c106 (by decide)
          intro x109 e108
          have h := h x109 e108
          refine cm_X4_hasRoom (kf_X4_hasRoom h) h (fun x110 x111 hp h g112 g113 => ?_)
          have h := h g112 g113
          have K := k2_tr K hp.2
          refine ⟨?_, ?_⟩
          · intro c114
            have h := h.1 c114
            exact kf_X4_read_111 h K hX8
          · intro c115
            have h := h.2 c115
            refine cm_X4_placeLine (kf_X4_placeLine h) h (fun x116 x117 hp h g118 g119 => ?_)
            have h := h g118 g119
            have K := k2_tr K hp.2
            refine ⟨?_, ?_⟩
            · intro c120
              have h := h.1 c120
              exact kf_X4_read_111 h K hX8
            · intro c121
              have h := h.2 c121
              exact kf_X4_read_112 h K hX8
      · intro c122
        have h := h.2 c122
        obtain ⟨b123, e124, h⟩ := h
        refine ⟨b123, e124, ?_⟩
        obtain ⟨c125, h⟩ := h
        refine ⟨c125, ?_⟩
        have n126 := k2_ne K c125 (by decide)
        intro x128 e127
        have h := h x128 e127
        refine cm_X4_hasRoom (kf_X4_hasRoom h) h (fun x129 x130 hp h g131 g132 => ?_)
        have h := h g131 g132
        have K := k2_tr K hp.2
        refine ⟨?_, ?_⟩
        · intro c133
          have h := h.1 c133
          exact kf_X4_read_69 h K hX8
        · intro c134
          have h := h.2 c134
          refine cm_X4_rainLine (kf_X4_rainLine h) h (fun x135 x136 hp h g137 g138 => ?_)
          have h := h g137 g138
          have K := k2_tr K hp.2
          refine ⟨?_, ?_⟩
          · intro c139
            have h := h.1 c139
            exact kf_X4_read_69 h K hX8
          · intro c140
            have h := h.2 c140
            exact kf_X4_read_70 h K hX8
    · intro c141
      have h := h.2 c141
      refine cm_X4_worldLine (kf_X4_worldLine h) h (fun x142 x143 hp h g144 g145 => ?_)
      have h := h g144 g145
      have K := k2_tr K hp.2
      exact kf_X4_read_248 h K hX8
theorem kf_X4_read_8 {Q : Int32 → HS → Prop} {v0 : Nat} {v3 : Int32} {S0 S : HS} (h : P_X4_read_8 Q v0 v3 S) (K : K2 S0 S) : P_X4_read_8 (fun r T => Q r T ∧ K2 S0 T) v0 v3 S := h (fun v0 v3 S => K2 S0 S → P_X4_read_8 (fun r T => Q r T ∧ K2 S0 T) v0 v3 S) (fun v0 v3 S hB K => fd_X4_read_8 (kfB_X4_read_8 hB K (fun _ _ _ hx K => hx K))) K
set_option maxRecDepth 20000 in
set_option maxHeartbeats 1000000 in
theorem kf_X4_read_0 {Q : Int32 → HS → Prop} {v0 : Nat} {v1 : Nat} {v2 : Int32} {S0 S : HS} (h : P_X4_read_0 Q v0 v1 v2 S) (K : K2 S0 S) : P_X4_read_0 (fun r T => Q r T ∧ K2 S0 T) v0 v1 v2 S := by
  delta P_X4_read_0 at h ⊢
  obtain ⟨c1, h⟩ := h
  refine ⟨c1, ?_⟩
  have n2 := k2_ne K c1 (by decide)
  refine cm_X4_open (kf_X4_open h) h (fun x3 hp h g4 => ?_)
  have h := h g4
  have K := k2_tr K hp.2
  exact kf_X4_read_8 h K
theorem kf_X4_read {Q : Int32 → HS → Prop} {v0 : Nat} {v1 : Nat} {v2 : Int32} {S : HS} (h : P_X4_read v0 v1 v2 Q S) : P_X4_read v0 v1 v2 (fun r T => Q r T ∧ K2 S T) S := kf_X4_read_0 h (k2_rf S)
set_option maxRecDepth 20000 in
set_option maxHeartbeats 1000000 in
theorem kf_X5_endOf_0 {Q : Int32 → HS → Prop} {v0 : Nat} {v1 : Int32} {S0 S : HS} (h : P_X5_endOf_0 Q v0 v1 S) (K : K2 S0 S) : P_X5_endOf_0 (fun r T => Q r T ∧ K2 S0 T) v0 v1 S := by
  delta P_X5_endOf_0 at h ⊢
  refine ⟨?_, ?_⟩
  · intro c1
    have h := h.1 c1
    obtain ⟨c2, h⟩ := h
    refine ⟨c2, ?_⟩
    have n3 := k2_ne K c2 (by decide)
    intro x5 e4
    have h := h x5 e4
    exact ⟨h, K⟩
  · intro c6
    have h := h.2 c6
    obtain ⟨c7, h⟩ := h
    refine ⟨c7, ?_⟩
    have n8 := k2_ne K c7 (by decide)
    intro x10 e9
    have h := h x10 e9
    exact ⟨h, K⟩
theorem kf_X5_endOf {Q : Int32 → HS → Prop} {v0 : Nat} {v1 : Int32} {S : HS} (h : P_X5_endOf v0 v1 Q S) : P_X5_endOf v0 v1 (fun r T => Q r T ∧ K2 S T) S := kf_X5_endOf_0 h (k2_rf S)
set_option maxRecDepth 20000 in
set_option maxHeartbeats 1000000 in
theorem kf_X5_minutesAt_0 {Q : Int32 → HS → Prop} {v0 : Nat} {v1 : Int32} {S0 S : HS} (h : P_X5_minutesAt_0 Q v0 v1 S) (K : K2 S0 S) : P_X5_minutesAt_0 (fun r T => Q r T ∧ K2 S0 T) v0 v1 S := by
  delta P_X5_minutesAt_0 at h ⊢
  refine ⟨?_, ?_⟩
  · intro c1
    have h := h.1 c1
    exact ⟨h, K⟩
  · intro c2
    have h := h.2 c2
    obtain ⟨c3, h⟩ := h
    refine ⟨c3, ?_⟩
    have n4 := k2_ne K c3 (by decide)
    intro x6 e5
    have h := h x6 e5
    obtain ⟨c7, h⟩ := h
    refine ⟨c7, ?_⟩
    intro x9 e8
    have h := h x9 e8
    exact ⟨h, K⟩
theorem kf_X5_minutesAt {Q : Int32 → HS → Prop} {v0 : Nat} {v1 : Int32} {S : HS} (h : P_X5_minutesAt v0 v1 Q S) : P_X5_minutesAt v0 v1 (fun r T => Q r T ∧ K2 S T) S := kf_X5_minutesAt_0 h (k2_rf S)
set_option maxRecDepth 20000 in
set_option maxHeartbeats 1000000 in
theorem kf_X5_startOf_0 {Q : Int32 → HS → Prop} {v0 : Nat} {v1 : Int32} {S0 S : HS} (h : P_X5_startOf_0 Q v0 v1 S) (K : K2 S0 S) : P_X5_startOf_0 (fun r T => Q r T ∧ K2 S0 T) v0 v1 S := by
  delta P_X5_startOf_0 at h ⊢
  refine ⟨?_, ?_⟩
  · intro c1
    have h := h.1 c1
    obtain ⟨c2, h⟩ := h
    refine ⟨c2, ?_⟩
    have n3 := k2_ne K c2 (by decide)
    intro x5 e4
    have h := h x5 e4
    exact ⟨h, K⟩
  · intro c6
    have h := h.2 c6
    obtain ⟨c7, h⟩ := h
    refine ⟨c7, ?_⟩
    have n8 := k2_ne K c7 (by decide)
    intro x10 e9
    have h := h x10 e9
    exact ⟨h, K⟩
theorem kf_X5_startOf {Q : Int32 → HS → Prop} {v0 : Nat} {v1 : Int32} {S : HS} (h : P_X5_startOf v0 v1 Q S) : P_X5_startOf v0 v1 (fun r T => Q r T ∧ K2 S T) S := kf_X5_startOf_0 h (k2_rf S)
set_option maxRecDepth 20000 in
set_option maxHeartbeats 1000000 in
theorem kf_X5_tell_0 {Q : Int32 → HS → Prop} {v0 : Nat} {v1 : Int32} {S0 S : HS} (h : P_X5_tell_0 Q v0 v1 S) (K : K2 S0 S) : P_X5_tell_0 (fun r T => Q r T ∧ K2 S0 T) v0 v1 S := by
  delta P_X5_tell_0 at h ⊢
  refine ⟨?_, ?_, ?_, ?_, ?_⟩
  · intro c1
    have h := h.1 c1
    obtain ⟨c2, h⟩ := h
    refine ⟨c2, ?_⟩
    have n3 := k2_ne K c2 (by decide)
    intro x5 e4
    have h := h x5 e4
    exact ⟨h, K⟩
  · intro c6
    have h := h.2.1 c6
    obtain ⟨c7, h⟩ := h
    refine ⟨c7, ?_⟩
    have n8 := k2_ne K c7 (by decide)
    intro x10 e9
    have h := h x10 e9
    exact ⟨h, K⟩
  · intro c11
    have h := h.2.2.1 c11
    obtain ⟨c12, h⟩ := h
    refine ⟨c12, ?_⟩
    have n13 := k2_ne K c12 (by decide)
    intro x15 e14
    have h := h x15 e14
    exact ⟨h, K⟩
  · intro c16
    have h := h.2.2.2.1 c16
    obtain ⟨c17, h⟩ := h
    refine ⟨c17, ?_⟩
    have n18 := k2_ne K c17 (by decide)
    intro x20 e19
    have h := h x20 e19
    exact ⟨h, K⟩
  · intro c21
    have h := h.2.2.2.2 c21
    obtain ⟨c22, h⟩ := h
    refine ⟨c22, ?_⟩
    have n23 := k2_ne K c22 (by decide)
    intro x25 e24
    have h := h x25 e24
    exact ⟨h, K⟩
theorem kf_X5_tell {Q : Int32 → HS → Prop} {v0 : Nat} {v1 : Int32} {S : HS} (h : P_X5_tell v0 v1 Q S) : P_X5_tell v0 v1 (fun r T => Q r T ∧ K2 S T) S := kf_X5_tell_0 h (k2_rf S)
set_option maxRecDepth 20000 in
set_option maxHeartbeats 1000000 in
theorem kf_X5_touches_0 {Q : Int32 → HS → Prop} {v0 : Nat} {v1 : Int32} {S0 S : HS} (h : P_X5_touches_0 Q v0 v1 S) (K : K2 S0 S) : P_X5_touches_0 (fun r T => Q r T ∧ K2 S0 T) v0 v1 S := by
  delta P_X5_touches_0 at h ⊢
  obtain ⟨c1, h⟩ := h
  refine ⟨c1, ?_⟩
  have n2 := k2_ne K c1 (by decide)
  intro x4 e3
  have h := h x4 e3
  refine ⟨?_, ?_⟩
  · intro c5
    have h := h.1 c5
    exact ⟨h, K⟩
  · intro c6
    have h := h.2 c6
    intro x8 e7
    have h := h x8 e7
    refine ⟨?_, ?_⟩
    · intro c9
      have h := h.1 c9
      exact ⟨h, K⟩
    · intro c10
      have h := h.2 c10
      exact ⟨h, K⟩
theorem kf_X5_touches {Q : Int32 → HS → Prop} {v0 : Nat} {v1 : Int32} {S : HS} (h : P_X5_touches v0 v1 Q S) : P_X5_touches v0 v1 (fun r T => Q r T ∧ K2 S T) S := kf_X5_touches_0 h (k2_rf S)
set_option maxRecDepth 20000 in
set_option maxHeartbeats 1000000 in
theorem kf_X6_tell_0 {Q : Int32 → HS → Prop} {v0 : Nat} {v1 : Int32} {S0 S : HS} (h : P_X6_tell_0 Q v0 v1 S) (K : K2 S0 S) : P_X6_tell_0 (fun r T => Q r T ∧ K2 S0 T) v0 v1 S := by
  delta P_X6_tell_0 at h ⊢
  refine ⟨?_, ?_, ?_, ?_, ?_, ?_, ?_⟩
  · intro c1
    have h := h.1 c1
    obtain ⟨c2, h⟩ := h
    refine ⟨c2, ?_⟩
    have n3 := k2_ne K c2 (by decide)
    intro x5 e4
    have h := h x5 e4
    exact ⟨h, K⟩
  · intro c6
    have h := h.2.1 c6
    obtain ⟨c7, h⟩ := h
    refine ⟨c7, ?_⟩
    have n8 := k2_ne K c7 (by decide)
    intro x10 e9
    have h := h x10 e9
    exact ⟨h, K⟩
  · intro c11
    have h := h.2.2.1 c11
    obtain ⟨c12, h⟩ := h
    refine ⟨c12, ?_⟩
    have n13 := k2_ne K c12 (by decide)
    intro x15 e14
    have h := h x15 e14
    exact ⟨h, K⟩
  · intro c16
    have h := h.2.2.2.1 c16
    obtain ⟨c17, h⟩ := h
    refine ⟨c17, ?_⟩
    have n18 := k2_ne K c17 (by decide)
    intro x20 e19
    have h := h x20 e19
    exact ⟨h, K⟩
  · intro c21
    have h := h.2.2.2.2.1 c21
    obtain ⟨c22, h⟩ := h
    refine ⟨c22, ?_⟩
    have n23 := k2_ne K c22 (by decide)
    intro x25 e24
    have h := h x25 e24
    exact ⟨h, K⟩
  · intro c26
    have h := h.2.2.2.2.2.1 c26
    obtain ⟨c27, h⟩ := h
    refine ⟨c27, ?_⟩
    have n28 := k2_ne K c27 (by decide)
    intro x30 e29
    have h := h x30 e29
    exact ⟨h, K⟩
  · intro c31
    have h := h.2.2.2.2.2.2 c31
    obtain ⟨c32, h⟩ := h
    refine ⟨c32, ?_⟩
    have n33 := k2_ne K c32 (by decide)
    intro x35 e34
    have h := h x35 e34
    exact ⟨h, K⟩
theorem kf_X6_tell {Q : Int32 → HS → Prop} {v0 : Nat} {v1 : Int32} {S : HS} (h : P_X6_tell v0 v1 Q S) : P_X6_tell v0 v1 (fun r T => Q r T ∧ K2 S T) S := kf_X6_tell_0 h (k2_rf S)
set_option maxRecDepth 20000 in
set_option maxHeartbeats 1000000 in
theorem kf_X7_addMove_0 {Q : HS → Prop} {v0 : Nat} {v1 : Int32} {v2 : Int32} {v3 : Int32} {v4 : Int64} {v6 : Int32} {S0 S : HS} (h : P_X7_addMove_0 Q v0 v1 v2 v3 v4 v6 S) (K : K2 S0 S) : P_X7_addMove_0 (fun T => Q T ∧ K2 S0 T) v0 v1 v2 v3 v4 v6 S := by
  delta P_X7_addMove_0 at h ⊢
  obtain ⟨c1, h⟩ := h
  refine ⟨c1, ?_⟩
  have n2 := k2_ne K c1 (by decide)
  intro x4 e3
  have h := h x4 e3
  refine ⟨?_, ?_⟩
  · intro c5
    have h := h.1 c5
    exact ⟨h, K⟩
  · intro c6
    have h := h.2 c6
    intro x8 e7
    have h := h x8 e7
    refine ⟨?_, ?_⟩
    · intro c9
      have h := h.1 c9
      exact ⟨h, K⟩
    · intro c10
      have h := h.2 c10
      intro x12 e11
      have h := h x12 e11
      refine ⟨?_, ?_⟩
      · intro c13
        have h := h.1 c13
        obtain ⟨b14, e15, h⟩ := h
        refine ⟨b14, e15, ?_⟩
        intro x17 e16
        have h := h x17 e16
        obtain ⟨c18, h⟩ := h
        refine ⟨c18, ?_⟩
        have n19 := k2_ne K c18 (by decide)
        intro x21 e20
        have h := h x21 e20
        obtain ⟨c22, h⟩ := h
        refine ⟨c22, ?_⟩
        intro x24 e23
        have h := h x24 e23
        have K := k2_I K e23 n19
        obtain ⟨b25, e26, h⟩ := h
        refine ⟨b25, e26, ?_⟩
        intro x28 e27
        have h := h x28 e27
        obtain ⟨c29, h⟩ := h
        refine ⟨c29, ?_⟩
        have n30 := k2_ne K c29 (by decide)
        intro x32 e31
        have h := h x32 e31
        obtain ⟨c33, h⟩ := h
        refine ⟨c33, ?_⟩
        intro x35 e34
        have h := h x35 e34
        have K := k2_I K e34 n30
        obtain ⟨b36, e37, h⟩ := h
        refine ⟨b36, e37, ?_⟩
        intro x39 e38
        have h := h x39 e38
        obtain ⟨c40, h⟩ := h
        refine ⟨c40, ?_⟩
        have n41 := k2_ne K c40 (by decide)
        obtain ⟨c42, h⟩ := h
        refine ⟨c42, ?_⟩
        intro x44 e43
        have h := h x44 e43
        have K := k2_I K e43 n41
        obtain ⟨b45, e46, h⟩ := h
        refine ⟨b45, e46, ?_⟩
        intro x48 e47
        have h := h x48 e47
        obtain ⟨c49, h⟩ := h
        refine ⟨c49, ?_⟩
        have n50 := k2_ne K c49 (by decide)
        intro x52 e51
        have h := h x52 e51
        obtain ⟨c53, h⟩ := h
        refine ⟨c53, ?_⟩
        intro x55 e54
        have h := h x55 e54
        have K := k2_J K e54
        obtain ⟨b56, e57, h⟩ := h
        refine ⟨b56, e57, ?_⟩
        intro x59 e58
        have h := h x59 e58
        obtain ⟨c60, h⟩ := h
        refine ⟨c60, ?_⟩
        have n61 := k2_ne K c60 (by decide)
        obtain ⟨c62, h⟩ := h
        refine ⟨c62, ?_⟩
        intro x64 e63
        have h := h x64 e63
        have K := k2_I K e63 n61
        intro x66 e65
        have h := h x66 e65
        intro x68 e67
        have h := h x68 e67
        intro x70 e69
        have h := h x70 e69
        have K := k2_I K e69 n2
        exact ⟨h, K⟩
      · intro c71
        have h := h.2 c71
        exact ⟨h, K⟩
theorem kf_X7_addMove {Q : HS → Prop} {v0 : Nat} {v1 : Int32} {v2 : Int32} {v3 : Int32} {v4 : Int64} {v6 : Int32} {S : HS} (h : P_X7_addMove v0 v1 v2 v3 v4 v6 Q S) : P_X7_addMove v0 v1 v2 v3 v4 v6 (fun T => Q T ∧ K2 S T) S := kf_X7_addMove_0 h (k2_rf S)
set_option maxRecDepth 20000 in
set_option maxHeartbeats 1000000 in
theorem kf_X7_addLeg_82 {Q : HS → Prop} {v0 : Nat} {v1 : Nat} {v2 : Int32} {v4 : Int64} {v6 : Int32} {v7 : Int32} {S0 S : HS} (h : P_X7_addLeg_82 Q v0 v1 v2 v4 v6 v7 S) (K : K2 S0 S) : P_X7_addLeg_82 (fun T => Q T ∧ K2 S0 T) v0 v1 v2 v4 v6 v7 S := by
  delta P_X7_addLeg_82 at h ⊢
  obtain ⟨c1, h⟩ := h
  refine ⟨c1, ?_⟩
  have n2 := k2_ne K c1 (by decide)
  refine cm_X5_startOf (kf_X5_startOf h) h (fun x3 x4 hp h g5 => ?_)
  have h := h g5
  have K := k2_tr K hp.2
  refine cm_X5_endOf (kf_X5_endOf h) h (fun x6 x7 hp h g8 => ?_)
  have h := h g8
  have K := k2_tr K hp.2
  obtain ⟨c9, h⟩ := h
  refine ⟨c9, ?_⟩
  have n10 := k2_ne K c9 (by decide)
  refine cm_X7_addMove (kf_X7_addMove h) h (fun x11 hp h g12 => ?_)
  have h := h g12
  have K := k2_tr K hp.2
  exact ⟨h, K⟩
set_option maxRecDepth 20000 in
set_option maxHeartbeats 1000000 in
theorem kf_X7_addLeg_0 {Q : HS → Prop} {v0 : Nat} {v1 : Nat} {v2 : Int32} {v3 : Int32} {v4 : Int64} {v6 : Int32} {S0 S : HS} (h : P_X7_addLeg_0 Q v0 v1 v2 v3 v4 v6 S) (K : K2 S0 S) : P_X7_addLeg_0 (fun T => Q T ∧ K2 S0 T) v0 v1 v2 v3 v4 v6 S := by
  delta P_X7_addLeg_0 at h ⊢
  obtain ⟨c1, h⟩ := h
  refine ⟨c1, ?_⟩
  have n2 := k2_ne K c1 (by decide)
  refine cm_X5_minutesAt (kf_X5_minutesAt h) h (fun x3 x4 hp h g5 => ?_)
  have h := h g5
  have K := k2_tr K hp.2
  obtain ⟨c6, h⟩ := h
  refine ⟨c6, ?_⟩
  have n7 := k2_ne K c6 (by decide)
  intro x9 e8
  have h := h x9 e8
  intro x11 e10
  have h := h x11 e10
  refine ⟨?_, ?_⟩
  · intro c12
    have h := h.1 c12
    exact kf_X7_addLeg_82 h K
  · intro c13
    have h := h.2 c13
    refine ⟨?_, ?_⟩
    · intro c14
      have h := h.1 c14
      exact kf_X7_addLeg_82 h K
    · intro c15
      have h := h.2 c15
      obtain ⟨b16, e17, h⟩ := h
      refine ⟨b16, e17, ?_⟩
      obtain ⟨c18, h⟩ := h
      refine ⟨c18, ?_⟩
      have n19 := k2_ne K c18 (by decide)
      obtain ⟨c20, h⟩ := h
      refine ⟨c20, ?_⟩
      intro x22 e21
      have h := h x22 e21
      intro x24 e23
      have h := h x24 e23
      intro x26 e25
      have h := h x26 e25
      refine ⟨?_, ?_⟩
      · intro c27
        have h := h.1 c27
        exact kf_X7_addLeg_82 h K
      · intro c28
        have h := h.2 c28
        obtain ⟨b29, e30, h⟩ := h
        refine ⟨b29, e30, ?_⟩
        obtain ⟨c31, h⟩ := h
        refine ⟨c31, ?_⟩
        have n32 := k2_ne K c31 (by decide)
        obtain ⟨c33, h⟩ := h
        refine ⟨c33, ?_⟩
        intro x35 e34
        have h := h x35 e34
        refine ⟨?_, ?_⟩
        · intro c36
          have h := h.1 c36
          exact kf_X7_addLeg_82 h K
        · intro c37
          have h := h.2 c37
          obtain ⟨b38, e39, h⟩ := h
          refine ⟨b38, e39, ?_⟩
          obtain ⟨c40, h⟩ := h
          refine ⟨c40, ?_⟩
          have n41 := k2_ne K c40 (by decide)
          obtain ⟨c42, h⟩ := h
          refine ⟨c42, ?_⟩
          intro x44 e43
          have h := h x44 e43
          refine ⟨?_, ?_⟩
          · intro c45
            have h := h.1 c45
            intro x47 e46
            have h := h x47 e46
            have K := k2_I K e46 n7
            exact kf_X7_addLeg_82 h K
          · intro c48
            have h := h.2 c48
            exact ⟨h, K⟩
theorem kf_X7_addLeg {Q : HS → Prop} {v0 : Nat} {v1 : Nat} {v2 : Int32} {v3 : Int32} {v4 : Int64} {v6 : Int32} {S : HS} (h : P_X7_addLeg v0 v1 v2 v3 v4 v6 Q S) : P_X7_addLeg v0 v1 v2 v3 v4 v6 (fun T => Q T ∧ K2 S T) S := kf_X7_addLeg_0 h (k2_rf S)
set_option maxRecDepth 20000 in
set_option maxHeartbeats 1000000 in
theorem kf_X7_keyOf_0 {Q : Int64 → HS → Prop} {v0 : Nat} {v1 : Int32} {v2 : Int32} {S0 S : HS} (h : P_X7_keyOf_0 Q v0 v1 v2 S) (K : K2 S0 S) : P_X7_keyOf_0 (fun r T => Q r T ∧ K2 S0 T) v0 v1 v2 S := by
  delta P_X7_keyOf_0 at h ⊢
  intro x2 e1
  have h := h x2 e1
  refine ⟨?_, ?_⟩
  · intro c3
    have h := h.1 c3
    exact ⟨h, K⟩
  · intro c4
    have h := h.2 c4
    obtain ⟨c5, h⟩ := h
    refine ⟨c5, ?_⟩
    have n6 := k2_ne K c5 (by decide)
    obtain ⟨b7, e8, h⟩ := h
    refine ⟨b7, e8, ?_⟩
    obtain ⟨c9, h⟩ := h
    refine ⟨c9, ?_⟩
    have n10 := k2_ne K c9 (by decide)
    refine ⟨?_, ?_⟩
    · intro c11
      have h := h.1 c11
      exact ⟨h, K⟩
    · intro c12
      have h := h.2 c12
      obtain ⟨b13, e14, h⟩ := h
      refine ⟨b13, e14, ?_⟩
      obtain ⟨c15, h⟩ := h
      refine ⟨c15, ?_⟩
      have n16 := k2_ne K c15 (by decide)
      obtain ⟨c17, h⟩ := h
      refine ⟨c17, ?_⟩
      intro x19 e18
      have h := h x19 e18
      exact ⟨h, K⟩
theorem kf_X7_keyOf {Q : Int64 → HS → Prop} {v0 : Nat} {v1 : Int32} {v2 : Int32} {S : HS} (h : P_X7_keyOf v0 v1 v2 Q S) : P_X7_keyOf v0 v1 v2 (fun r T => Q r T ∧ K2 S T) S := kf_X7_keyOf_0 h (k2_rf S)
set_option maxRecDepth 20000 in
set_option maxHeartbeats 1000000 in
theorem kf_X7_endFrom_0 {Q : Int32 → HS → Prop} {v0 : Nat} {v1 : Int32} {v2 : Int32} {S0 S : HS} (h : P_X7_endFrom_0 Q v0 v1 v2 S) (K : K2 S0 S) : P_X7_endFrom_0 (fun r T => Q r T ∧ K2 S0 T) v0 v1 v2 S := by
  delta P_X7_endFrom_0 at h ⊢
  obtain ⟨c1, h⟩ := h
  refine ⟨c1, ?_⟩
  have n2 := k2_ne K c1 (by decide)
  refine cm_X7_keyOf (kf_X7_keyOf h) h (fun x3 x4 hp h g5 => ?_)
  have h := h g5
  have K := k2_tr K hp.2
  intro x7 e6
  have h := h x7 e6
  exact ⟨h, K⟩
theorem kf_X7_endFrom {Q : Int32 → HS → Prop} {v0 : Nat} {v1 : Int32} {v2 : Int32} {S : HS} (h : P_X7_endFrom v0 v1 v2 Q S) : P_X7_endFrom v0 v1 v2 (fun r T => Q r T ∧ K2 S T) S := kf_X7_endFrom_0 h (k2_rf S)
set_option maxRecDepth 20000 in
set_option maxHeartbeats 1000000 in
theorem kf_X7_forget_0 {Q : HS → Prop} {v0 : Nat} {S0 S : HS} (h : P_X7_forget_0 Q v0 S) (K : K2 S0 S) : P_X7_forget_0 (fun T => Q T ∧ K2 S0 T) v0 S := by
  delta P_X7_forget_0 at h ⊢
  obtain ⟨c1, h⟩ := h
  refine ⟨c1, ?_⟩
  have n2 := k2_ne K c1 (by decide)
  intro x4 e3
  have h := h x4 e3
  have K := k2_I K e3 n2
  exact ⟨h, K⟩
theorem kf_X7_forget {Q : HS → Prop} {v0 : Nat} {S : HS} (h : P_X7_forget v0 Q S) : P_X7_forget v0 (fun T => Q T ∧ K2 S T) S := kf_X7_forget_0 h (k2_rf S)
set_option maxRecDepth 20000 in
set_option maxHeartbeats 1000000 in
theorem kf_X7_init_0 {Q : HS → Prop} {v0 : Nat} {S0 S : HS} (h : P_X7_init_0 Q v0 S) (K : K2 S0 S) : P_X7_init_0 (fun T => Q T ∧ K2 S0 T) v0 S := by
  delta P_X7_init_0 at h ⊢
  intro x2 e1
  have h := h x2 e1
  intro x4 e3
  have h := h x4 e3
  have K := k2_W K e1 e3
  obtain ⟨c5, h⟩ := h
  refine ⟨c5, ?_⟩
  have n6 := k2_ne K c5 (by decide)
  intro x8 e7
  have h := h x8 e7
  have K := k2_R K e7
  intro x10 e9
  have h := h x10 e9
  intro x12 e11
  have h := h x12 e11
  have K := k2_W K e9 e11
  intro x14 e13
  have h := h x14 e13
  have K := k2_R K e13
  intro x16 e15
  have h := h x16 e15
  intro x18 e17
  have h := h x18 e17
  have K := k2_W K e15 e17
  intro x20 e19
  have h := h x20 e19
  have K := k2_R K e19
  intro x22 e21
  have h := h x22 e21
  intro x24 e23
  have h := h x24 e23
  have K := k2_W K e21 e23
  intro x26 e25
  have h := h x26 e25
  have K := k2_R K e25
  intro x28 e27
  have h := h x28 e27
  intro x30 e29
  have h := h x30 e29
  have K := k2_W K e27 e29
  intro x32 e31
  have h := h x32 e31
  have K := k2_R K e31
  intro x34 e33
  have h := h x34 e33
  intro x36 e35
  have h := h x36 e35
  have K := k2_W K e33 e35
  intro x38 e37
  have h := h x38 e37
  have K := k2_R K e37
  intro x40 e39
  have h := h x40 e39
  intro x42 e41
  have h := h x42 e41
  have K := k2_W K e39 e41
  intro x44 e43
  have h := h x44 e43
  have K := k2_R K e43
  intro x46 e45
  have h := h x46 e45
  intro x48 e47
  have h := h x48 e47
  have K := k2_W K e45 e47
  intro x50 e49
  have h := h x50 e49
  have K := k2_R K e49
  intro x52 e51
  have h := h x52 e51
  have K := k2_I K e51 n6
  intro x54 e53
  have h := h x54 e53
  have K := k2_I K e53 n6
  intro x56 e55
  have h := h x56 e55
  have K := k2_I K e55 n6
  intro x58 e57
  have h := h x58 e57
  have K := k2_I K e57 n6
  exact ⟨h, K⟩
theorem kf_X7_init {Q : HS → Prop} {v0 : Nat} {S : HS} (h : P_X7_init v0 Q S) : P_X7_init v0 (fun T => Q T ∧ K2 S T) S := kf_X7_init_0 h (k2_rf S)
set_option maxRecDepth 20000 in
set_option maxHeartbeats 1000000 in
theorem kf_X7_isOpen_0 {Q : Int32 → HS → Prop} {v0 : Nat} {v1 : Int32} {v2 : Int32} {S0 S : HS} (h : P_X7_isOpen_0 Q v0 v1 v2 S) (K : K2 S0 S) : P_X7_isOpen_0 (fun r T => Q r T ∧ K2 S0 T) v0 v1 v2 S := by
  delta P_X7_isOpen_0 at h ⊢
  obtain ⟨c1, h⟩ := h
  refine ⟨c1, ?_⟩
  have n2 := k2_ne K c1 (by decide)
  refine cm_X7_keyOf (kf_X7_keyOf h) h (fun x3 x4 hp h g5 => ?_)
  have h := h g5
  have K := k2_tr K hp.2
  refine ⟨?_, ?_⟩
  · intro c6
    have h := h.1 c6
    exact ⟨h, K⟩
  · intro c7
    have h := h.2 c7
    exact ⟨h, K⟩
theorem kf_X7_isOpen {Q : Int32 → HS → Prop} {v0 : Nat} {v1 : Int32} {v2 : Int32} {S : HS} (h : P_X7_isOpen v0 v1 v2 Q S) : P_X7_isOpen v0 v1 v2 (fun r T => Q r T ∧ K2 S T) S := kf_X7_isOpen_0 h (k2_rf S)
set_option maxRecDepth 20000 in
set_option maxHeartbeats 1000000 in
theorem kf_X7_makeRows_0 {Q : HS → Prop} {v0 : Nat} {S0 S : HS} (h : P_X7_makeRows_0 Q v0 S) (K : K2 S0 S) : P_X7_makeRows_0 (fun T => Q T ∧ K2 S0 T) v0 S := by
  delta P_X7_makeRows_0 at h ⊢
  intro x2 e1
  have h := h x2 e1
  intro x4 e3
  have h := h x4 e3
  have K := k2_W K e1 e3
  obtain ⟨c5, h⟩ := h
  refine ⟨c5, ?_⟩
  have n6 := k2_ne K c5 (by decide)
  intro x8 e7
  have h := h x8 e7
  have K := k2_R K e7
  intro x10 e9
  have h := h x10 e9
  intro x12 e11
  have h := h x12 e11
  have K := k2_W K e9 e11
  intro x14 e13
  have h := h x14 e13
  have K := k2_R K e13
  intro x16 e15
  have h := h x16 e15
  intro x18 e17
  have h := h x18 e17
  have K := k2_W K e15 e17
  intro x20 e19
  have h := h x20 e19
  have K := k2_R K e19
  intro x22 e21
  have h := h x22 e21
  intro x24 e23
  have h := h x24 e23
  have K := k2_W K e21 e23
  intro x26 e25
  have h := h x26 e25
  have K := k2_R K e25
  intro x28 e27
  have h := h x28 e27
  intro x30 e29
  have h := h x30 e29
  have K := k2_W K e27 e29
  intro x32 e31
  have h := h x32 e31
  have K := k2_R K e31
  intro x34 e33
  have h := h x34 e33
  intro x36 e35
  have h := h x36 e35
  have K := k2_W K e33 e35
  intro x38 e37
  have h := h x38 e37
  have K := k2_R K e37
  intro x40 e39
  have h := h x40 e39
  intro x42 e41
  have h := h x42 e41
  have K := k2_W K e39 e41
  intro x44 e43
  have h := h x44 e43
  have K := k2_R K e43
  intro x46 e45
  have h := h x46 e45
  intro x48 e47
  have h := h x48 e47
  have K := k2_W K e45 e47
  intro x50 e49
  have h := h x50 e49
  have K := k2_R K e49
  exact ⟨h, K⟩
theorem kf_X7_makeRows {Q : HS → Prop} {v0 : Nat} {S : HS} (h : P_X7_makeRows v0 Q S) : P_X7_makeRows v0 (fun T => Q T ∧ K2 S T) S := kf_X7_makeRows_0 h (k2_rf S)
set_option maxRecDepth 20000 in
set_option maxHeartbeats 1000000 in
theorem kf_X7_meanFrom_0 {Q : Int64 → HS → Prop} {v0 : Nat} {v1 : Int32} {v2 : Int32} {S0 S : HS} (h : P_X7_meanFrom_0 Q v0 v1 v2 S) (K : K2 S0 S) : P_X7_meanFrom_0 (fun r T => Q r T ∧ K2 S0 T) v0 v1 v2 S := by
  delta P_X7_meanFrom_0 at h ⊢
  obtain ⟨c1, h⟩ := h
  refine ⟨c1, ?_⟩
  have n2 := k2_ne K c1 (by decide)
  refine cm_X7_keyOf (kf_X7_keyOf h) h (fun x3 x4 hp h g5 => ?_)
  have h := h g5
  have K := k2_tr K hp.2
  intro x7 e6
  have h := h x7 e6
  exact ⟨h, K⟩
theorem kf_X7_meanFrom {Q : Int64 → HS → Prop} {v0 : Nat} {v1 : Int32} {v2 : Int32} {S : HS} (h : P_X7_meanFrom v0 v1 v2 Q S) : P_X7_meanFrom v0 v1 v2 (fun r T => Q r T ∧ K2 S T) S := kf_X7_meanFrom_0 h (k2_rf S)
set_option maxRecDepth 20000 in
set_option maxHeartbeats 1000000 in
theorem kf_X8_hasPlace_0 {Q : Int32 → HS → Prop} {v0 : Nat} {v1 : Int32} {S0 S : HS} (h : P_X8_hasPlace_0 Q v0 v1 S) (K : K2 S0 S) : P_X8_hasPlace_0 (fun r T => Q r T ∧ K2 S0 T) v0 v1 S := by
  delta P_X8_hasPlace_0 at h ⊢
  refine ⟨?_, ?_⟩
  · intro c1
    have h := h.1 c1
    exact ⟨h, K⟩
  · intro c2
    have h := h.2 c2
    obtain ⟨c3, h⟩ := h
    refine ⟨c3, ?_⟩
    have n4 := k2_ne K c3 (by decide)
    intro x6 e5
    have h := h x6 e5
    refine ⟨?_, ?_⟩
    · intro c7
      have h := h.1 c7
      exact ⟨h, K⟩
    · intro c8
      have h := h.2 c8
      obtain ⟨b9, e10, h⟩ := h
      refine ⟨b9, e10, ?_⟩
      obtain ⟨c11, h⟩ := h
      refine ⟨c11, ?_⟩
      have n12 := k2_ne K c11 (by decide)
      refine ⟨?_, ?_⟩
      · intro c13
        have h := h.1 c13
        exact ⟨h, K⟩
      · intro c14
        have h := h.2 c14
        exact ⟨h, K⟩
theorem kf_X8_hasPlace {Q : Int32 → HS → Prop} {v0 : Nat} {v1 : Int32} {S : HS} (h : P_X8_hasPlace v0 v1 Q S) : P_X8_hasPlace v0 v1 (fun r T => Q r T ∧ K2 S T) S := kf_X8_hasPlace_0 h (k2_rf S)
set_option maxRecDepth 20000 in
set_option maxHeartbeats 1000000 in
theorem kf_X8_canWait_0 {Q : Int32 → HS → Prop} {v0 : Nat} {v1 : Int32} {S0 S : HS} (h : P_X8_canWait_0 Q v0 v1 S) (K : K2 S0 S) : P_X8_canWait_0 (fun r T => Q r T ∧ K2 S0 T) v0 v1 S := by
  delta P_X8_canWait_0 at h ⊢
  obtain ⟨c1, h⟩ := h
  refine ⟨c1, ?_⟩
  have n2 := k2_ne K c1 (by decide)
  refine cm_X8_hasPlace (kf_X8_hasPlace h) h (fun x3 x4 hp h g5 g6 => ?_)
  have h := h g5 g6
  have K := k2_tr K hp.2
  refine ⟨?_, ?_⟩
  · intro c7
    have h := h.1 c7
    exact ⟨h, K⟩
  · intro c8
    have h := h.2 c8
    obtain ⟨b9, e10, h⟩ := h
    refine ⟨b9, e10, ?_⟩
    obtain ⟨c11, h⟩ := h
    refine ⟨c11, ?_⟩
    have n12 := k2_ne K c11 (by decide)
    obtain ⟨c13, h⟩ := h
    refine ⟨c13, ?_⟩
    intro x15 e14
    have h := h x15 e14
    refine ⟨?_, ?_⟩
    · intro c16
      have h := h.1 c16
      exact ⟨h, K⟩
    · intro c17
      have h := h.2 c17
      exact ⟨h, K⟩
theorem kf_X8_canWait {Q : Int32 → HS → Prop} {v0 : Nat} {v1 : Int32} {S : HS} (h : P_X8_canWait v0 v1 Q S) : P_X8_canWait v0 v1 (fun r T => Q r T ∧ K2 S T) S := kf_X8_canWait_0 h (k2_rf S)
set_option maxRecDepth 20000 in
set_option maxHeartbeats 1000000 in
theorem kf_X8_dripOn_0 {Q : Int32 → HS → Prop} {v0 : Nat} {v1 : Nat} {v2 : Int32} {S0 S : HS} (h : P_X8_dripOn_0 Q v0 v1 v2 S) (K : K2 S0 S) : P_X8_dripOn_0 (fun r T => Q r T ∧ K2 S0 T) v0 v1 v2 S := by
  delta P_X8_dripOn_0 at h ⊢
  obtain ⟨c1, h⟩ := h
  refine ⟨c1, ?_⟩
  have n2 := k2_ne K c1 (by decide)
  refine cm_X8_canWait (kf_X8_canWait h) h (fun x3 x4 hp h g5 g6 => ?_)
  have h := h g5 g6
  have K := k2_tr K hp.2
  refine ⟨?_, ?_⟩
  · intro c7
    have h := h.1 c7
    exact ⟨h, K⟩
  · intro c8
    have h := h.2 c8
    obtain ⟨b9, e10, h⟩ := h
    refine ⟨b9, e10, ?_⟩
    obtain ⟨c11, h⟩ := h
    refine ⟨c11, ?_⟩
    have n12 := k2_ne K c11 (by decide)
    obtain ⟨c13, h⟩ := h
    refine ⟨c13, ?_⟩
    intro x15 e14
    have h := h x15 e14
    obtain ⟨c16, h⟩ := h
    refine ⟨c16, ?_⟩
    have n17 := k2_ne K c16 (by decide)
    intro x19 e18
    have h := h x19 e18
    refine cm_X6_shield (kf_X6_shield h) h (fun x20 x21 hp h g22 => ?_)
    have h := h g22
    have K := k2_tr K hp.2
    intro x24 e23
    have h := h x24 e23
    exact ⟨h, K⟩
theorem kf_X8_dripOn {Q : Int32 → HS → Prop} {v0 : Nat} {v1 : Nat} {v2 : Int32} {S : HS} (h : P_X8_dripOn v0 v1 v2 Q S) : P_X8_dripOn v0 v1 v2 (fun r T => Q r T ∧ K2 S T) S := kf_X8_dripOn_0 h (k2_rf S)
set_option maxRecDepth 20000 in
set_option maxHeartbeats 1000000 in
theorem kf_X8_hasHour_0 {Q : Int32 → HS → Prop} {v0 : Nat} {v1 : Int32} {S0 S : HS} (h : P_X8_hasHour_0 Q v0 v1 S) (K : K2 S0 S) : P_X8_hasHour_0 (fun r T => Q r T ∧ K2 S0 T) v0 v1 S := by
  delta P_X8_hasHour_0 at h ⊢
  refine ⟨?_, ?_⟩
  · intro c1
    have h := h.1 c1
    exact ⟨h, K⟩
  · intro c2
    have h := h.2 c2
    obtain ⟨c3, h⟩ := h
    refine ⟨c3, ?_⟩
    have n4 := k2_ne K c3 (by decide)
    intro x6 e5
    have h := h x6 e5
    refine ⟨?_, ?_⟩
    · intro c7
      have h := h.1 c7
      exact ⟨h, K⟩
    · intro c8
      have h := h.2 c8
      obtain ⟨b9, e10, h⟩ := h
      refine ⟨b9, e10, ?_⟩
      obtain ⟨c11, h⟩ := h
      refine ⟨c11, ?_⟩
      have n12 := k2_ne K c11 (by decide)
      refine ⟨?_, ?_⟩
      · intro c13
        have h := h.1 c13
        exact ⟨h, K⟩
      · intro c14
        have h := h.2 c14
        exact ⟨h, K⟩
theorem kf_X8_hasHour {Q : Int32 → HS → Prop} {v0 : Nat} {v1 : Int32} {S : HS} (h : P_X8_hasHour v0 v1 Q S) : P_X8_hasHour v0 v1 (fun r T => Q r T ∧ K2 S T) S := kf_X8_hasHour_0 h (k2_rf S)
set_option maxRecDepth 20000 in
set_option maxHeartbeats 1000000 in
theorem kf_X7_price_134 {Q : HS → Prop} {X51 X51_2 : Nat → Nat → Nat → Int32 → Nat → Int32 → Int32 → HS → Prop} {X86 X86_2 : Nat → Nat → Nat → Int32 → Nat → Int32 → Int32 → Nat → Int32 → Int32 → HS → Prop} {v0 : Nat} {v1 : Nat} {v2 : Nat} {v3 : Int32} {v4 : Nat} {v5 : Int32} {v6 : Int32} {v7 : Nat} {v8 : Int32} {v9 : Int32} {s0 : Int64} {S0 S : HS} (h : P_X7_price_134 Q X51 X86 v0 v1 v2 v3 v4 v5 v6 v7 v8 v9 s0 S) (K : K2 S0 S) (hX51 : ∀ (u0 : Nat) (u1 : Nat) (u2 : Nat) (u3 : Int32) (u4 : Nat) (u5 : Int32) (u6 : Int32) (u7 : HS), X51 u0 u1 u2 u3 u4 u5 u6 u7 → K2 S0 u7 → X51_2 u0 u1 u2 u3 u4 u5 u6 u7) (hX86 : ∀ (u0 : Nat) (u1 : Nat) (u2 : Nat) (u3 : Int32) (u4 : Nat) (u5 : Int32) (u6 : Int32) (u7 : Nat) (u8 : Int32) (u9 : Int32) (u10 : HS), X86 u0 u1 u2 u3 u4 u5 u6 u7 u8 u9 u10 → K2 S0 u10 → X86_2 u0 u1 u2 u3 u4 u5 u6 u7 u8 u9 u10) : P_X7_price_134 (fun T => Q T ∧ K2 S0 T) X51_2 X86_2 v0 v1 v2 v3 v4 v5 v6 v7 v8 v9 s0 S := by
  delta P_X7_price_134 at h ⊢
  intro x2 e1
  have h := h x2 e1
  obtain ⟨c3, h⟩ := h
  refine ⟨c3, ?_⟩
  have n4 := k2_ne K c3 (by decide)
  refine cm_X7_addLeg (kf_X7_addLeg h) h (fun x5 hp h g6 => ?_)
  have h := h g6
  have K := k2_tr K hp.2
  intro x8 e7
  have h := h x8 e7
  exact hX86 _ _ _ _ _ _ _ _ _ _ _ h K
set_option maxRecDepth 20000 in
set_option maxHeartbeats 1000000 in
theorem kfB_X7_price_86 {Q : HS → Prop} {X51 X51_2 : Nat → Nat → Nat → Int32 → Nat → Int32 → Int32 → HS → Prop} {X86 X86_2 : Nat → Nat → Nat → Int32 → Nat → Int32 → Int32 → Nat → Int32 → Int32 → HS → Prop} {v0 : Nat} {v1 : Nat} {v2 : Nat} {v3 : Int32} {v4 : Nat} {v5 : Int32} {v6 : Int32} {v7 : Nat} {v8 : Int32} {v9 : Int32} {S0 S : HS} (h : B_X7_price_86 Q X51 X86 v0 v1 v2 v3 v4 v5 v6 v7 v8 v9 S) (K : K2 S0 S) (hX51 : ∀ (u0 : Nat) (u1 : Nat) (u2 : Nat) (u3 : Int32) (u4 : Nat) (u5 : Int32) (u6 : Int32) (u7 : HS), X51 u0 u1 u2 u3 u4 u5 u6 u7 → K2 S0 u7 → X51_2 u0 u1 u2 u3 u4 u5 u6 u7) (hX86 : ∀ (u0 : Nat) (u1 : Nat) (u2 : Nat) (u3 : Int32) (u4 : Nat) (u5 : Int32) (u6 : Int32) (u7 : Nat) (u8 : Int32) (u9 : Int32) (u10 : HS), X86 u0 u1 u2 u3 u4 u5 u6 u7 u8 u9 u10 → K2 S0 u10 → X86_2 u0 u1 u2 u3 u4 u5 u6 u7 u8 u9 u10) : B_X7_price_86 (fun T => Q T ∧ K2 S0 T) X51_2 X86_2 v0 v1 v2 v3 v4 v5 v6 v7 v8 v9 S := by
  delta B_X7_price_86 at h ⊢
  obtain ⟨c1, h⟩ := h
  refine ⟨c1, ?_⟩
  have n2 := k2_ne K c1 (by decide)
  intro x4 e3
  have h := h x4 e3
  refine ⟨?_, ?_⟩
  · intro c5
    have h := h.1 c5
    intro x7 e6
    have h := h x7 e6
    exact hX51 _ _ _ _ _ _ _ _ h K
  · intro c8
    have h := h.2 c8
    refine ⟨?_, ?_⟩
    · intro c9
      have h := h.1 c9
      obtain ⟨c10, h⟩ := h
      refine ⟨c10, ?_⟩
      have n11 := k2_ne K c10 (by decide)
      obtain ⟨b12, e13, h⟩ := h
      refine ⟨b12, e13, ?_⟩
      obtain ⟨c14, h⟩ := h
      refine ⟨c14, ?_⟩
      have n15 := k2_ne K c14 (by decide)
      obtain ⟨c16, h⟩ := h
      refine ⟨c16, ?_⟩
      obtain ⟨b17, e18, h⟩ := h
      refine ⟨b17, e18, ?_⟩
      obtain ⟨c19, h⟩ := h
      refine ⟨c19, ?_⟩
      have n20 := k2_ne K c19 (by decide)
      refine cm_X1_wetOf (kf_X1_wetOf h) h (fun x21 x22 hp h g23 => ?_)
      have h := h g23
      have K := k2_tr K hp.2
      obtain ⟨b24, e25, h⟩ := h
      refine ⟨b24, e25, ?_⟩
      obtain ⟨c26, h⟩ := h
      refine ⟨c26, ?_⟩
      have n27 := k2_ne K c26 (by decide)
      obtain ⟨c28, h⟩ := h
      refine ⟨c28, ?_⟩
      obtain ⟨b29, e30, h⟩ := h
      refine ⟨b29, e30, ?_⟩
      obtain ⟨c31, h⟩ := h
      refine ⟨c31, ?_⟩
      have n32 := k2_ne K c31 (by decide)
      intro x34 e33
      have h := h x34 e33
      exact kf_X7_price_134 h K hX51 hX86
    · intro c35
      have h := h.2 c35
      exact kf_X7_price_134 h K hX51 hX86
theorem kf_X7_price_86 {Q : HS → Prop} {X51 X51_2 : Nat → Nat → Nat → Int32 → Nat → Int32 → Int32 → HS → Prop} {v0 : Nat} {v1 : Nat} {v2 : Nat} {v3 : Int32} {v4 : Nat} {v5 : Int32} {v6 : Int32} {v7 : Nat} {v8 : Int32} {v9 : Int32} {S0 S : HS} (h : P_X7_price_86 Q X51 v0 v1 v2 v3 v4 v5 v6 v7 v8 v9 S) (K : K2 S0 S) (hX51 : ∀ (u0 : Nat) (u1 : Nat) (u2 : Nat) (u3 : Int32) (u4 : Nat) (u5 : Int32) (u6 : Int32) (u7 : HS), X51 u0 u1 u2 u3 u4 u5 u6 u7 → K2 S0 u7 → X51_2 u0 u1 u2 u3 u4 u5 u6 u7) : P_X7_price_86 (fun T => Q T ∧ K2 S0 T) X51_2 v0 v1 v2 v3 v4 v5 v6 v7 v8 v9 S := h (fun v0 v1 v2 v3 v4 v5 v6 v7 v8 v9 S => K2 S0 S → P_X7_price_86 (fun T => Q T ∧ K2 S0 T) X51_2 v0 v1 v2 v3 v4 v5 v6 v7 v8 v9 S) (fun v0 v1 v2 v3 v4 v5 v6 v7 v8 v9 S hB K => fd_X7_price_86 (kfB_X7_price_86 hB K hX51 (fun _ _ _ _ _ _ _ _ _ _ _ hx K => hx K))) K
set_option maxRecDepth 20000 in
set_option maxHeartbeats 1000000 in
theorem kf_X7_price_245 {Q : HS → Prop} {X179 X179_2 : Nat → Nat → Int32 → Nat → Int32 → Int32 → HS → Prop} {v0 : Nat} {v1 : Nat} {v3 : Int32} {v4 : Nat} {v5 : Int32} {v6 : Int32} {S0 S : HS} (h : P_X7_price_245 Q X179 v0 v1 v3 v4 v5 v6 S) (K : K2 S0 S) (hX179 : ∀ (u0 : Nat) (u1 : Nat) (u2 : Int32) (u3 : Nat) (u4 : Int32) (u5 : Int32) (u6 : HS), X179 u0 u1 u2 u3 u4 u5 u6 → K2 S0 u6 → X179_2 u0 u1 u2 u3 u4 u5 u6) : P_X7_price_245 (fun T => Q T ∧ K2 S0 T) X179_2 v0 v1 v3 v4 v5 v6 S := by
  delta P_X7_price_245 at h ⊢
  intro x2 e1
  have h := h x2 e1
  exact hX179 _ _ _ _ _ _ _ h K
set_option maxRecDepth 20000 in
set_option maxHeartbeats 1000000 in
theorem kf_X7_price_230 {Q : HS → Prop} {X179 X179_2 : Nat → Nat → Int32 → Nat → Int32 → Int32 → HS → Prop} {v0 : Nat} {v1 : Nat} {v3 : Int32} {v4 : Nat} {v5 : Int32} {v6 : Int32} {s0 : Int64} {S0 S : HS} (h : P_X7_price_230 Q X179 v0 v1 v3 v4 v5 v6 s0 S) (K : K2 S0 S) (hX179 : ∀ (u0 : Nat) (u1 : Nat) (u2 : Int32) (u3 : Nat) (u4 : Int32) (u5 : Int32) (u6 : HS), X179 u0 u1 u2 u3 u4 u5 u6 → K2 S0 u6 → X179_2 u0 u1 u2 u3 u4 u5 u6) : P_X7_price_230 (fun T => Q T ∧ K2 S0 T) X179_2 v0 v1 v3 v4 v5 v6 s0 S := by
  delta P_X7_price_230 at h ⊢
  obtain ⟨c1, h⟩ := h
  refine ⟨c1, ?_⟩
  have n2 := k2_ne K c1 (by decide)
  refine cm_X7_addMove (kf_X7_addMove h) h (fun x3 hp h g4 => ?_)
  have h := h g4
  have K := k2_tr K hp.2
  exact kf_X7_price_245 h K hX179
set_option maxRecDepth 20000 in
set_option maxHeartbeats 1000000 in
theorem kfB_X7_price_179 {Q : HS → Prop} {X179 X179_2 : Nat → Nat → Int32 → Nat → Int32 → Int32 → HS → Prop} {v0 : Nat} {v1 : Nat} {v3 : Int32} {v4 : Nat} {v5 : Int32} {v6 : Int32} {S0 S : HS} (h : B_X7_price_179 Q X179 v0 v1 v3 v4 v5 v6 S) (K : K2 S0 S) (hX179 : ∀ (u0 : Nat) (u1 : Nat) (u2 : Int32) (u3 : Nat) (u4 : Int32) (u5 : Int32) (u6 : HS), X179 u0 u1 u2 u3 u4 u5 u6 → K2 S0 u6 → X179_2 u0 u1 u2 u3 u4 u5 u6) : B_X7_price_179 (fun T => Q T ∧ K2 S0 T) X179_2 v0 v1 v3 v4 v5 v6 S := by
  delta B_X7_price_179 at h ⊢
  obtain ⟨c1, h⟩ := h
  refine ⟨c1, ?_⟩
  have n2 := k2_ne K c1 (by decide)
  intro x4 e3
  have h := h x4 e3
  refine ⟨?_, ?_⟩
  · intro c5
    have h := h.1 c5
    exact ⟨h, K⟩
  · intro c6
    have h := h.2 c6
    refine cm_X8_canWait (kf_X8_canWait h) h (fun x7 x8 hp h g9 g10 => ?_)
    have h := h g9 g10
    have K := k2_tr K hp.2
    refine ⟨?_, ?_⟩
    · intro c11
      have h := h.1 c11
      exact kf_X7_price_245 h K hX179
    · intro c12
      have h := h.2 c12
      refine ⟨?_, ?_⟩
      · intro c13
        have h := h.1 c13
        refine cm_X8_dripOn (kf_X8_dripOn h) h (fun x14 x15 hp h g16 => ?_)
        have h := h g16
        have K := k2_tr K hp.2
        obtain ⟨b17, e18, h⟩ := h
        refine ⟨b17, e18, ?_⟩
        obtain ⟨c19, h⟩ := h
        refine ⟨c19, ?_⟩
        have n20 := k2_ne K c19 (by decide)
        obtain ⟨c21, h⟩ := h
        refine ⟨c21, ?_⟩
        obtain ⟨b22, e23, h⟩ := h
        refine ⟨b22, e23, ?_⟩
        obtain ⟨c24, h⟩ := h
        refine ⟨c24, ?_⟩
        have n25 := k2_ne K c24 (by decide)
        intro x27 e26
        have h := h x27 e26
        exact kf_X7_price_230 h K hX179
      · intro c28
        have h := h.2 c28
        exact kf_X7_price_230 h K hX179
theorem kf_X7_price_179 {Q : HS → Prop} {v0 : Nat} {v1 : Nat} {v3 : Int32} {v4 : Nat} {v5 : Int32} {v6 : Int32} {S0 S : HS} (h : P_X7_price_179 Q v0 v1 v3 v4 v5 v6 S) (K : K2 S0 S) : P_X7_price_179 (fun T => Q T ∧ K2 S0 T) v0 v1 v3 v4 v5 v6 S := h (fun v0 v1 v3 v4 v5 v6 S => K2 S0 S → P_X7_price_179 (fun T => Q T ∧ K2 S0 T) v0 v1 v3 v4 v5 v6 S) (fun v0 v1 v3 v4 v5 v6 S hB K => fd_X7_price_179 (kfB_X7_price_179 hB K (fun _ _ _ _ _ _ _ hx K => hx K))) K
set_option maxRecDepth 20000 in
set_option maxHeartbeats 1000000 in
theorem kfB_X7_price_51 {Q : HS → Prop} {X51 X51_2 : Nat → Nat → Nat → Int32 → Nat → Int32 → Int32 → HS → Prop} {v0 : Nat} {v1 : Nat} {v2 : Nat} {v3 : Int32} {v4 : Nat} {v5 : Int32} {v6 : Int32} {S0 S : HS} (h : B_X7_price_51 Q X51 v0 v1 v2 v3 v4 v5 v6 S) (K : K2 S0 S) (hX51 : ∀ (u0 : Nat) (u1 : Nat) (u2 : Nat) (u3 : Int32) (u4 : Nat) (u5 : Int32) (u6 : Int32) (u7 : HS), X51 u0 u1 u2 u3 u4 u5 u6 u7 → K2 S0 u7 → X51_2 u0 u1 u2 u3 u4 u5 u6 u7) : B_X7_price_51 (fun T => Q T ∧ K2 S0 T) X51_2 v0 v1 v2 v3 v4 v5 v6 S := by
  delta B_X7_price_51 at h ⊢
  obtain ⟨c1, h⟩ := h
  refine ⟨c1, ?_⟩
  have n2 := k2_ne K c1 (by decide)
  intro x4 e3
  have h := h x4 e3
  refine ⟨?_, ?_⟩
  · intro c5
    have h := h.1 c5
    exact kf_X7_price_179 h K
  · intro c6
    have h := h.2 c6
    obtain ⟨b7, e8, h⟩ := h
    refine ⟨b7, e8, ?_⟩
    intro x10 e9
    have h := h x10 e9
    obtain ⟨c11, h⟩ := h
    refine ⟨c11, ?_⟩
    have n12 := k2_ne K c11 (by decide)
    obtain ⟨c13, h⟩ := h
    refine ⟨c13, ?_⟩
    obtain ⟨b14, e15, h⟩ := h
    refine ⟨b14, e15, ?_⟩
    intro x17 e16
    have h := h x17 e16
    obtain ⟨c18, h⟩ := h
    refine ⟨c18, ?_⟩
    have n19 := k2_ne K c18 (by decide)
    intro x21 e20
    have h := h x21 e20
    exact kf_X7_price_86 h K hX51
theorem kf_X7_price_51 {Q : HS → Prop} {v0 : Nat} {v1 : Nat} {v2 : Nat} {v3 : Int32} {v4 : Nat} {v5 : Int32} {v6 : Int32} {S0 S : HS} (h : P_X7_price_51 Q v0 v1 v2 v3 v4 v5 v6 S) (K : K2 S0 S) : P_X7_price_51 (fun T => Q T ∧ K2 S0 T) v0 v1 v2 v3 v4 v5 v6 S := h (fun v0 v1 v2 v3 v4 v5 v6 S => K2 S0 S → P_X7_price_51 (fun T => Q T ∧ K2 S0 T) v0 v1 v2 v3 v4 v5 v6 S) (fun v0 v1 v2 v3 v4 v5 v6 S hB K => fd_X7_price_51 (kfB_X7_price_51 hB K (fun _ _ _ _ _ _ _ _ hx K => hx K))) K
set_option maxRecDepth 20000 in
set_option maxHeartbeats 1000000 in
theorem kf_X7_price_46 {Q : HS → Prop} {v0 : Nat} {v1 : Nat} {v2 : Nat} {v3 : Int32} {v4 : Nat} {s0 : Int32} {S0 S : HS} (h : P_X7_price_46 Q v0 v1 v2 v3 v4 s0 S) (K : K2 S0 S) : P_X7_price_46 (fun T => Q T ∧ K2 S0 T) v0 v1 v2 v3 v4 s0 S := by
  delta P_X7_price_46 at h ⊢
  exact kf_X7_price_51 h K
set_option maxRecDepth 20000 in
set_option maxHeartbeats 1000000 in
theorem kf_X7_price_0 {Q : HS → Prop} {v0 : Nat} {v1 : Nat} {v2 : Nat} {v3 : Int32} {S0 S : HS} (h : P_X7_price_0 Q v0 v1 v2 v3 S) (K : K2 S0 S) : P_X7_price_0 (fun T => Q T ∧ K2 S0 T) v0 v1 v2 v3 S := by
  delta P_X7_price_0 at h ⊢
  obtain ⟨c1, h⟩ := h
  refine ⟨c1, ?_⟩
  have n2 := k2_ne K c1 (by decide)
  intro x4 e3
  have h := h x4 e3
  have K := k2_I K e3 n2
  intro x6 e5
  have h := h x6 e5
  have K := k2_I K e5 n2
  intro x8 e7
  have h := h x8 e7
  obtain ⟨c9, h⟩ := h
  refine ⟨c9, ?_⟩
  have n10 := k2_ne K c9 (by decide)
  refine cm_X8_hasWalker (kf_X8_hasWalker h) h (fun x11 x12 hp h g13 g14 => ?_)
  have h := h g13 g14
  have K := k2_tr K hp.2
  refine ⟨?_, ?_⟩
  · intro c15
    have h := h.1 c15
    obtain ⟨b16, e17, h⟩ := h
    refine ⟨b16, e17, ?_⟩
    intro x19 e18
    have h := h x19 e18
    obtain ⟨c20, h⟩ := h
    refine ⟨c20, ?_⟩
    have n21 := k2_ne K c20 (by decide)
    obtain ⟨c22, h⟩ := h
    refine ⟨c22, ?_⟩
    obtain ⟨b23, e24, h⟩ := h
    refine ⟨b23, e24, ?_⟩
    refine cm_X8_hasHour (kf_X8_hasHour h) h (fun x25 x26 hp h g27 g28 => ?_)
    have h := h g27 g28
    have K := k2_tr K hp.2
    refine ⟨?_, ?_⟩
    · intro c29
      have h := h.1 c29
      exact kf_X7_price_46 h K
    · intro c30
      have h := h.2 c30
      exact kf_X7_price_46 h K
  · intro c31
    have h := h.2 c31
    exact ⟨h, K⟩
theorem kf_X7_price {Q : HS → Prop} {v0 : Nat} {v1 : Nat} {v2 : Nat} {v3 : Int32} {S : HS} (h : P_X7_price v0 v1 v2 v3 Q S) : P_X7_price v0 v1 v2 v3 (fun T => Q T ∧ K2 S T) S := kf_X7_price_0 h (k2_rf S)
set_option maxRecDepth 20000 in
set_option maxHeartbeats 1000000 in
theorem kf_X7_reckonMinute_40 {Q : HS → Prop} {X2 X2_2 : Nat → Int32 → Int32 → Int32 → HS → Prop} {v0 : Nat} {v1 : Int32} {v2 : Int32} {v3 : Int32} {s0 : Nat} {s1 : Int32} {s2 : Int64} {S0 S : HS} (h : P_X7_reckonMinute_40 Q X2 v0 v1 v2 v3 s0 s1 s2 S) (K : K2 S0 S) (hX2 : ∀ (u0 : Nat) (u1 : Int32) (u2 : Int32) (u3 : Int32) (u4 : HS), X2 u0 u1 u2 u3 u4 → K2 S0 u4 → X2_2 u0 u1 u2 u3 u4) : P_X7_reckonMinute_40 (fun T => Q T ∧ K2 S0 T) X2_2 v0 v1 v2 v3 s0 s1 s2 S := by
  delta P_X7_reckonMinute_40 at h ⊢
  obtain ⟨c1, h⟩ := h
  refine ⟨c1, ?_⟩
  have n2 := k2_ne K c1 (by decide)
  obtain ⟨c3, h⟩ := h
  refine ⟨c3, ?_⟩
  intro x5 e4
  have h := h x5 e4
  have K := k2_J K e4
  obtain ⟨c6, h⟩ := h
  refine ⟨c6, ?_⟩
  have n7 := k2_ne K c6 (by decide)
  obtain ⟨b8, e9, h⟩ := h
  refine ⟨b8, e9, ?_⟩
  obtain ⟨c10, h⟩ := h
  refine ⟨c10, ?_⟩
  have n11 := k2_ne K c10 (by decide)
  obtain ⟨c12, h⟩ := h
  refine ⟨c12, ?_⟩
  intro x14 e13
  have h := h x14 e13
  have K := k2_I K e13 n11
  intro x16 e15
  have h := h x16 e15
  exact hX2 _ _ _ _ _ h K
set_option maxRecDepth 20000 in
set_option maxHeartbeats 1000000 in
theorem kf_X7_reckonMinute_219 {Q : HS → Prop} {X62 X62_2 : Nat → Int32 → Int32 → HS → Prop} {v0 : Nat} {v2 : Int32} {v3 : Int32} {S0 S : HS} (h : P_X7_reckonMinute_219 Q X62 v0 v2 v3 S) (K : K2 S0 S) (hX62 : ∀ (u0 : Nat) (u1 : Int32) (u2 : Int32) (u3 : HS), X62 u0 u1 u2 u3 → K2 S0 u3 → X62_2 u0 u1 u2 u3) : P_X7_reckonMinute_219 (fun T => Q T ∧ K2 S0 T) X62_2 v0 v2 v3 S := by
  delta P_X7_reckonMinute_219 at h ⊢
  intro x2 e1
  have h := h x2 e1
  exact hX62 _ _ _ _ h K
set_option maxRecDepth 20000 in
set_option maxHeartbeats 1000000 in
theorem kf_X7_reckonMinute_117 {Q : HS → Prop} {X62 X62_2 : Nat → Int32 → Int32 → HS → Prop} {v0 : Nat} {v2 : Int32} {v3 : Int32} {v4 : Int32} {v5 : Int32} {s0 : Int32} {S0 S : HS} (h : P_X7_reckonMinute_117 Q X62 v0 v2 v3 v4 v5 s0 S) (K : K2 S0 S) (hX62 : ∀ (u0 : Nat) (u1 : Int32) (u2 : Int32) (u3 : HS), X62 u0 u1 u2 u3 → K2 S0 u3 → X62_2 u0 u1 u2 u3) : P_X7_reckonMinute_117 (fun T => Q T ∧ K2 S0 T) X62_2 v0 v2 v3 v4 v5 s0 S := by
  delta P_X7_reckonMinute_117 at h ⊢
  refine ⟨?_, ?_⟩
  · intro c1
    have h := h.1 c1
    exact kf_X7_reckonMinute_219 h K hX62
  · intro c2
    have h := h.2 c2
    refine ⟨?_, ?_⟩
    · intro c3
      have h := h.1 c3
      exact kf_X7_reckonMinute_219 h K hX62
    · intro c4
      have h := h.2 c4
      obtain ⟨c5, h⟩ := h
      refine ⟨c5, ?_⟩
      have n6 := k2_ne K c5 (by decide)
      obtain ⟨b7, e8, h⟩ := h
      refine ⟨b7, e8, ?_⟩
      obtain ⟨c9, h⟩ := h
      refine ⟨c9, ?_⟩
      have n10 := k2_ne K c9 (by decide)
      refine ⟨?_, ?_⟩
      · intro c11
        have h := h.1 c11
        exact kf_X7_reckonMinute_219 h K hX62
      · intro c12
        have h := h.2 c12
        refine ⟨?_, ?_⟩
        · intro c13
          have h := h.1 c13
          exact kf_X7_reckonMinute_219 h K hX62
        · intro c14
          have h := h.2 c14
          obtain ⟨b15, e16, h⟩ := h
          refine ⟨b15, e16, ?_⟩
          obtain ⟨c17, h⟩ := h
          refine ⟨c17, ?_⟩
          have n18 := k2_ne K c17 (by decide)
          refine ⟨?_, ?_⟩
          · intro c19
            have h := h.1 c19
            exact kf_X7_reckonMinute_219 h K hX62
          · intro c20
            have h := h.2 c20
            obtain ⟨b21, e22, h⟩ := h
            refine ⟨b21, e22, ?_⟩
            obtain ⟨c23, h⟩ := h
            refine ⟨c23, ?_⟩
            have n24 := k2_ne K c23 (by decide)
            obtain ⟨c25, h⟩ := h
            refine ⟨c25, ?_⟩
            intro x27 e26
            have h := h x27 e26
            refine ⟨?_, ?_⟩
            · intro c28
              have h := h.1 c28
              exact kf_X7_reckonMinute_219 h K hX62
            · intro c29
              have h := h.2 c29
              obtain ⟨b30, e31, h⟩ := h
              refine ⟨b30, e31, ?_⟩
              obtain ⟨c32, h⟩ := h
              refine ⟨c32, ?_⟩
              have n33 := k2_ne K c32 (by decide)
              obtain ⟨c34, h⟩ := h
              refine ⟨c34, ?_⟩
              intro x36 e35
              have h := h x36 e35
              obtain ⟨b37, e38, h⟩ := h
              refine ⟨b37, e38, ?_⟩
              obtain ⟨c39, h⟩ := h
              refine ⟨c39, ?_⟩
              have n40 := k2_ne K c39 (by decide)
              obtain ⟨c41, h⟩ := h
              refine ⟨c41, ?_⟩
              intro x43 e42
              have h := h x43 e42
              intro x45 e44
              have h := h x45 e44
              obtain ⟨b46, e47, h⟩ := h
              refine ⟨b46, e47, ?_⟩
              obtain ⟨c48, h⟩ := h
              refine ⟨c48, ?_⟩
              have n49 := k2_ne K c48 (by decide)
              obtain ⟨c50, h⟩ := h
              refine ⟨c50, ?_⟩
              intro x52 e51
              have h := h x52 e51
              refine ⟨?_, ?_⟩
              · intro c53
                have h := h.1 c53
                exact kf_X7_reckonMinute_219 h K hX62
              · intro c54
                have h := h.2 c54
                obtain ⟨b55, e56, h⟩ := h
                refine ⟨b55, e56, ?_⟩
                obtain ⟨c57, h⟩ := h
                refine ⟨c57, ?_⟩
                have n58 := k2_ne K c57 (by decide)
                obtain ⟨c59, h⟩ := h
                refine ⟨c59, ?_⟩
                intro x61 e60
                have h := h x61 e60
                have K := k2_J K e60
                obtain ⟨b62, e63, h⟩ := h
                refine ⟨b62, e63, ?_⟩
                obtain ⟨b64, e65, h⟩ := h
                refine ⟨b64, e65, ?_⟩
                obtain ⟨c66, h⟩ := h
                refine ⟨c66, ?_⟩
                have n67 := k2_ne K c66 (by decide)
                obtain ⟨c68, h⟩ := h
                refine ⟨c68, ?_⟩
                intro x70 e69
                have h := h x70 e69
                obtain ⟨c71, h⟩ := h
                refine ⟨c71, ?_⟩
                have n72 := k2_ne K c71 (by decide)
                obtain ⟨c73, h⟩ := h
                refine ⟨c73, ?_⟩
                intro x75 e74
                have h := h x75 e74
                have K := k2_I K e74 n72
                exact kf_X7_reckonMinute_219 h K hX62
set_option maxRecDepth 20000 in
set_option maxHeartbeats 1000000 in
theorem kfB_X7_reckonMinute_62 {Q : HS → Prop} {X62 X62_2 : Nat → Int32 → Int32 → HS → Prop} {v0 : Nat} {v2 : Int32} {v3 : Int32} {S0 S : HS} (h : B_X7_reckonMinute_62 Q X62 v0 v2 v3 S) (K : K2 S0 S) (hX62 : ∀ (u0 : Nat) (u1 : Int32) (u2 : Int32) (u3 : HS), X62 u0 u1 u2 u3 → K2 S0 u3 → X62_2 u0 u1 u2 u3) : B_X7_reckonMinute_62 (fun T => Q T ∧ K2 S0 T) X62_2 v0 v2 v3 S := by
  delta B_X7_reckonMinute_62 at h ⊢
  obtain ⟨c1, h⟩ := h
  refine ⟨c1, ?_⟩
  have n2 := k2_ne K c1 (by decide)
  intro x4 e3
  have h := h x4 e3
  refine ⟨?_, ?_⟩
  · intro c5
    have h := h.1 c5
    exact ⟨h, K⟩
  · intro c6
    have h := h.2 c6
    refine ⟨?_, ?_⟩
    · intro c7
      have h := h.1 c7
      exact ⟨h, K⟩
    · intro c8
      have h := h.2 c8
      obtain ⟨b9, e10, h⟩ := h
      refine ⟨b9, e10, ?_⟩
      obtain ⟨c11, h⟩ := h
      refine ⟨c11, ?_⟩
      have n12 := k2_ne K c11 (by decide)
      obtain ⟨c13, h⟩ := h
      refine ⟨c13, ?_⟩
      intro x15 e14
      have h := h x15 e14
      intro x17 e16
      have h := h x17 e16
      obtain ⟨b18, e19, h⟩ := h
      refine ⟨b18, e19, ?_⟩
      obtain ⟨c20, h⟩ := h
      refine ⟨c20, ?_⟩
      have n21 := k2_ne K c20 (by decide)
      obtain ⟨c22, h⟩ := h
      refine ⟨c22, ?_⟩
      intro x24 e23
      have h := h x24 e23
      intro x26 e25
      have h := h x26 e25
      obtain ⟨b27, e28, h⟩ := h
      refine ⟨b27, e28, ?_⟩
      obtain ⟨c29, h⟩ := h
      refine ⟨c29, ?_⟩
      have n30 := k2_ne K c29 (by decide)
      obtain ⟨c31, h⟩ := h
      refine ⟨c31, ?_⟩
      intro x33 e32
      have h := h x33 e32
      intro x35 e34
      have h := h x35 e34
      refine ⟨?_, ?_⟩
      · intro c36
        have h := h.1 c36
        exact kf_X7_reckonMinute_117 h K hX62
      · intro c37
        have h := h.2 c37
        exact kf_X7_reckonMinute_117 h K hX62
theorem kf_X7_reckonMinute_62 {Q : HS → Prop} {v0 : Nat} {v2 : Int32} {v3 : Int32} {S0 S : HS} (h : P_X7_reckonMinute_62 Q v0 v2 v3 S) (K : K2 S0 S) : P_X7_reckonMinute_62 (fun T => Q T ∧ K2 S0 T) v0 v2 v3 S := h (fun v0 v2 v3 S => K2 S0 S → P_X7_reckonMinute_62 (fun T => Q T ∧ K2 S0 T) v0 v2 v3 S) (fun v0 v2 v3 S hB K => fd_X7_reckonMinute_62 (kfB_X7_reckonMinute_62 hB K (fun _ _ _ _ hx K => hx K))) K
set_option maxRecDepth 20000 in
set_option maxHeartbeats 1000000 in
theorem kf_X7_reckonMinute_60 {Q : HS → Prop} {v0 : Nat} {v2 : Int32} {S0 S : HS} (h : P_X7_reckonMinute_60 Q v0 v2 S) (K : K2 S0 S) : P_X7_reckonMinute_60 (fun T => Q T ∧ K2 S0 T) v0 v2 S := by
  delta P_X7_reckonMinute_60 at h ⊢
  exact kf_X7_reckonMinute_62 h K
set_option maxRecDepth 20000 in
set_option maxHeartbeats 1000000 in
theorem kfB_X7_reckonMinute_2 {Q : HS → Prop} {X2 X2_2 : Nat → Int32 → Int32 → Int32 → HS → Prop} {v0 : Nat} {v1 : Int32} {v2 : Int32} {v3 : Int32} {S0 S : HS} (h : B_X7_reckonMinute_2 Q X2 v0 v1 v2 v3 S) (K : K2 S0 S) (hX2 : ∀ (u0 : Nat) (u1 : Int32) (u2 : Int32) (u3 : Int32) (u4 : HS), X2 u0 u1 u2 u3 u4 → K2 S0 u4 → X2_2 u0 u1 u2 u3 u4) : B_X7_reckonMinute_2 (fun T => Q T ∧ K2 S0 T) X2_2 v0 v1 v2 v3 S := by
  delta B_X7_reckonMinute_2 at h ⊢
  refine ⟨?_, ?_⟩
  · intro c1
    have h := h.1 c1
    exact kf_X7_reckonMinute_60 h K
  · intro c2
    have h := h.2 c2
    refine ⟨?_, ?_⟩
    · intro c3
      have h := h.1 c3
      exact kf_X7_reckonMinute_60 h K
    · intro c4
      have h := h.2 c4
      obtain ⟨c5, h⟩ := h
      refine ⟨c5, ?_⟩
      have n6 := k2_ne K c5 (by decide)
      obtain ⟨b7, e8, h⟩ := h
      refine ⟨b7, e8, ?_⟩
      intro x10 e9
      have h := h x10 e9
      refine ⟨?_, ?_⟩
      · intro c11
        have h := h.1 c11
        exact kf_X7_reckonMinute_40 h K hX2
      · intro c12
        have h := h.2 c12
        exact kf_X7_reckonMinute_40 h K hX2
theorem kf_X7_reckonMinute_2 {Q : HS → Prop} {v0 : Nat} {v1 : Int32} {v2 : Int32} {v3 : Int32} {S0 S : HS} (h : P_X7_reckonMinute_2 Q v0 v1 v2 v3 S) (K : K2 S0 S) : P_X7_reckonMinute_2 (fun T => Q T ∧ K2 S0 T) v0 v1 v2 v3 S := h (fun v0 v1 v2 v3 S => K2 S0 S → P_X7_reckonMinute_2 (fun T => Q T ∧ K2 S0 T) v0 v1 v2 v3 S) (fun v0 v1 v2 v3 S hB K => fd_X7_reckonMinute_2 (kfB_X7_reckonMinute_2 hB K (fun _ _ _ _ _ hx K => hx K))) K
set_option maxRecDepth 20000 in
set_option maxHeartbeats 1000000 in
theorem kf_X7_reckonMinute_0 {Q : HS → Prop} {v0 : Nat} {v1 : Int32} {v2 : Int32} {S0 S : HS} (h : P_X7_reckonMinute_0 Q v0 v1 v2 S) (K : K2 S0 S) : P_X7_reckonMinute_0 (fun T => Q T ∧ K2 S0 T) v0 v1 v2 S := by
  delta P_X7_reckonMinute_0 at h ⊢
  exact kf_X7_reckonMinute_2 h K
theorem kf_X7_reckonMinute {Q : HS → Prop} {v0 : Nat} {v1 : Int32} {v2 : Int32} {S : HS} (h : P_X7_reckonMinute v0 v1 v2 Q S) : P_X7_reckonMinute v0 v1 v2 (fun T => Q T ∧ K2 S T) S := kf_X7_reckonMinute_0 h (k2_rf S)
set_option maxRecDepth 20000 in
set_option maxHeartbeats 1000000 in
theorem kf_X8_hourOf_0 {Q : Int32 → HS → Prop} {v0 : Nat} {v1 : Int32} {S0 S : HS} (h : P_X8_hourOf_0 Q v0 v1 S) (K : K2 S0 S) : P_X8_hourOf_0 (fun r T => Q r T ∧ K2 S0 T) v0 v1 S := by
  delta P_X8_hourOf_0 at h ⊢
  obtain ⟨c1, h⟩ := h
  refine ⟨c1, ?_⟩
  have n2 := k2_ne K c1 (by decide)
  intro x4 e3
  have h := h x4 e3
  refine ⟨?_, ?_⟩
  · intro c5
    have h := h.1 c5
    exact ⟨h, K⟩
  · intro c6
    have h := h.2 c6
    intro x8 e7
    have h := h x8 e7
    obtain ⟨c9, h⟩ := h
    refine ⟨c9, ?_⟩
    intro x11 e10
    have h := h x11 e10
    exact ⟨h, K⟩
theorem kf_X8_hourOf {Q : Int32 → HS → Prop} {v0 : Nat} {v1 : Int32} {S : HS} (h : P_X8_hourOf v0 v1 Q S) : P_X8_hourOf v0 v1 (fun r T => Q r T ∧ K2 S T) S := kf_X8_hourOf_0 h (k2_rf S)
set_option maxRecDepth 20000 in
set_option maxHeartbeats 1000000 in
theorem kf_X7_reckon_120 {Q : HS → Prop} {X76 X76_2 : Nat → Nat → Nat → Int32 → Int32 → HS → Prop} {v0 : Nat} {v1 : Nat} {v2 : Nat} {v6 : Int32} {v7 : Int32} {S0 S : HS} (h : P_X7_reckon_120 Q X76 v0 v1 v2 v6 v7 S) (K : K2 S0 S) (hX76 : ∀ (u0 : Nat) (u1 : Nat) (u2 : Nat) (u3 : Int32) (u4 : Int32) (u5 : HS), X76 u0 u1 u2 u3 u4 u5 → K2 S0 u5 → X76_2 u0 u1 u2 u3 u4 u5) : P_X7_reckon_120 (fun T => Q T ∧ K2 S0 T) X76_2 v0 v1 v2 v6 v7 S := by
  delta P_X7_reckon_120 at h ⊢
  obtain ⟨c1, h⟩ := h
  refine ⟨c1, ?_⟩
  have n2 := k2_ne K c1 (by decide)
  intro x4 e3
  have h := h x4 e3
  obtain ⟨c5, h⟩ := h
  refine ⟨c5, ?_⟩
  have n6 := k2_ne K c5 (by decide)
  refine cm_X7_reckonMinute (kf_X7_reckonMinute h) h (fun x7 hp h g8 => ?_)
  have h := h g8
  have K := k2_tr K hp.2
  intro x10 e9
  have h := h x10 e9
  have K := k2_I K e9 n6
  intro x12 e11
  have h := h x12 e11
  exact hX76 _ _ _ _ _ _ h K
set_option maxRecDepth 20000 in
set_option maxHeartbeats 1000000 in
theorem kfB_X7_reckon_76 {Q : HS → Prop} {X76 X76_2 : Nat → Nat → Nat → Int32 → Int32 → HS → Prop} {v0 : Nat} {v1 : Nat} {v2 : Nat} {v6 : Int32} {v7 : Int32} {S0 S : HS} (h : B_X7_reckon_76 Q X76 v0 v1 v2 v6 v7 S) (K : K2 S0 S) (hX76 : ∀ (u0 : Nat) (u1 : Nat) (u2 : Nat) (u3 : Int32) (u4 : Int32) (u5 : HS), X76 u0 u1 u2 u3 u4 u5 → K2 S0 u5 → X76_2 u0 u1 u2 u3 u4 u5) : B_X7_reckon_76 (fun T => Q T ∧ K2 S0 T) X76_2 v0 v1 v2 v6 v7 S := by
  delta B_X7_reckon_76 at h ⊢
  refine ⟨?_, ?_⟩
  · intro c1
    have h := h.1 c1
    exact ⟨h, K⟩
  · intro c2
    have h := h.2 c2
    refine ⟨?_, ?_⟩
    · intro c3
      have h := h.1 c3
      exact ⟨h, K⟩
    · intro c4
      have h := h.2 c4
      obtain ⟨c5, h⟩ := h
      refine ⟨c5, ?_⟩
      have n6 := k2_ne K c5 (by decide)
      refine cm_X8_hourOf (kf_X8_hourOf h) h (fun x7 x8 hp h g9 => ?_)
      have h := h g9
      have K := k2_tr K hp.2
      intro x11 e10
      have h := h x11 e10
      intro x13 e12
      have h := h x13 e12
      obtain ⟨c14, h⟩ := h
      refine ⟨c14, ?_⟩
      have n15 := k2_ne K c14 (by decide)
      intro x17 e16
      have h := h x17 e16
      refine ⟨?_, ?_⟩
      · intro c18
        have h := h.1 c18
        exact kf_X7_reckon_120 h K hX76
      · intro c19
        have h := h.2 c19
        refine cm_X7_price (kf_X7_price h) h (fun x20 hp h g21 => ?_)
        have h := h g21
        have K := k2_tr K hp.2
        exact kf_X7_reckon_120 h K hX76
theorem kf_X7_reckon_76 {Q : HS → Prop} {v0 : Nat} {v1 : Nat} {v2 : Nat} {v6 : Int32} {v7 : Int32} {S0 S : HS} (h : P_X7_reckon_76 Q v0 v1 v2 v6 v7 S) (K : K2 S0 S) : P_X7_reckon_76 (fun T => Q T ∧ K2 S0 T) v0 v1 v2 v6 v7 S := h (fun v0 v1 v2 v6 v7 S => K2 S0 S → P_X7_reckon_76 (fun T => Q T ∧ K2 S0 T) v0 v1 v2 v6 v7 S) (fun v0 v1 v2 v6 v7 S hB K => fd_X7_reckon_76 (kfB_X7_reckon_76 hB K (fun _ _ _ _ _ _ hx K => hx K))) K
set_option maxRecDepth 20000 in
set_option maxHeartbeats 1000000 in
theorem kf_X7_reckon_68 {Q : HS → Prop} {v0 : Nat} {v1 : Nat} {v2 : Nat} {v6 : Int32} {S0 S : HS} (h : P_X7_reckon_68 Q v0 v1 v2 v6 S) (K : K2 S0 S) : P_X7_reckon_68 (fun T => Q T ∧ K2 S0 T) v0 v1 v2 v6 S := by
  delta P_X7_reckon_68 at h ⊢
  obtain ⟨c1, h⟩ := h
  refine ⟨c1, ?_⟩
  have n2 := k2_ne K c1 (by decide)
  intro x4 e3
  have h := h x4 e3
  intro x6 e5
  have h := h x6 e5
  exact kf_X7_reckon_76 h K
set_option maxRecDepth 20000 in
set_option maxHeartbeats 1000000 in
theorem kf_X7_reckon_38 {Q : HS → Prop} {v0 : Nat} {v1 : Nat} {v2 : Nat} {v3 : Int32} {v4 : Int32} {v5 : Int32} {v6 : Int32} {S0 S : HS} (h : P_X7_reckon_38 Q v0 v1 v2 v3 v4 v5 v6 S) (K : K2 S0 S) : P_X7_reckon_38 (fun T => Q T ∧ K2 S0 T) v0 v1 v2 v3 v4 v5 v6 S := by
  delta P_X7_reckon_38 at h ⊢
  obtain ⟨c1, h⟩ := h
  refine ⟨c1, ?_⟩
  have n2 := k2_ne K c1 (by decide)
  intro x4 e3
  have h := h x4 e3
  have K := k2_I K e3 n2
  intro x6 e5
  have h := h x6 e5
  have K := k2_I K e5 n2
  intro x8 e7
  have h := h x8 e7
  have K := k2_I K e7 n2
  intro x10 e9
  have h := h x10 e9
  intro x12 e11
  have h := h x12 e11
  have K := k2_I K e11 n2
  intro x14 e13
  have h := h x14 e13
  have K := k2_I K e13 n2
  exact kf_X7_reckon_68 h K
set_option maxRecDepth 20000 in
set_option maxHeartbeats 1000000 in
theorem kf_X7_reckon_12 {Q : HS → Prop} {v0 : Nat} {v1 : Nat} {v2 : Nat} {v3 : Int32} {v4 : Int32} {v5 : Int32} {v6 : Int32} {S0 S : HS} (h : P_X7_reckon_12 Q v0 v1 v2 v3 v4 v5 v6 S) (K : K2 S0 S) : P_X7_reckon_12 (fun T => Q T ∧ K2 S0 T) v0 v1 v2 v3 v4 v5 v6 S := by
  delta P_X7_reckon_12 at h ⊢
  obtain ⟨c1, h⟩ := h
  refine ⟨c1, ?_⟩
  have n2 := k2_ne K c1 (by decide)
  intro x4 e3
  have h := h x4 e3
  refine ⟨?_, ?_⟩
  · intro c5
    have h := h.1 c5
    exact kf_X7_reckon_38 h K
  · intro c6
    have h := h.2 c6
    intro x8 e7
    have h := h x8 e7
    refine ⟨?_, ?_⟩
    · intro c9
      have h := h.1 c9
      exact kf_X7_reckon_38 h K
    · intro c10
      have h := h.2 c10
      intro x12 e11
      have h := h x12 e11
      refine ⟨?_, ?_⟩
      · intro c13
        have h := h.1 c13
        exact kf_X7_reckon_68 h K
      · intro c14
        have h := h.2 c14
        exact kf_X7_reckon_38 h K
set_option maxRecDepth 20000 in
set_option maxHeartbeats 1000000 in
theorem kf_X7_reckon_0 {Q : HS → Prop} {v0 : Nat} {v1 : Nat} {v2 : Nat} {v3 : Int32} {v4 : Int32} {v5 : Int32} {v6 : Int32} {S0 S : HS} (h : P_X7_reckon_0 Q v0 v1 v2 v3 v4 v5 v6 S) (K : K2 S0 S) : P_X7_reckon_0 (fun T => Q T ∧ K2 S0 T) v0 v1 v2 v3 v4 v5 v6 S := by
  delta P_X7_reckon_0 at h ⊢
  obtain ⟨c1, h⟩ := h
  refine ⟨c1, ?_⟩
  have n2 := k2_ne K c1 (by decide)
  obtain ⟨b3, e4, h⟩ := h
  refine ⟨b3, e4, ?_⟩
  obtain ⟨c5, h⟩ := h
  refine ⟨c5, ?_⟩
  have n6 := k2_ne K c5 (by decide)
  refine ⟨?_, ?_⟩
  · intro c7
    have h := h.1 c7
    exact kf_X7_reckon_12 h K
  · intro c8
    have h := h.2 c8
    refine cm_X7_makeRows (kf_X7_makeRows h) h (fun x9 hp h g10 => ?_)
    have h := h g10
    have K := k2_tr K hp.2
    exact kf_X7_reckon_12 h K
theorem kf_X7_reckon {Q : HS → Prop} {v0 : Nat} {v1 : Nat} {v2 : Nat} {v3 : Int32} {v4 : Int32} {v5 : Int32} {v6 : Int32} {S : HS} (h : P_X7_reckon v0 v1 v2 v3 v4 v5 v6 Q S) : P_X7_reckon v0 v1 v2 v3 v4 v5 v6 (fun T => Q T ∧ K2 S T) S := kf_X7_reckon_0 h (k2_rf S)
set_option maxRecDepth 20000 in
set_option maxHeartbeats 1000000 in
theorem kf_X7_trace_143 {Q : Int32 → HS → Prop} {X9 X9_2 : Nat → Nat → Int32 → Int32 → Int32 → HS → Prop} {v0 : Nat} {v1 : Nat} {v4 : Int32} {v5 : Int32} {v6 : Int32} {S0 S : HS} (h : P_X7_trace_143 Q X9 v0 v1 v4 v5 v6 S) (K : K2 S0 S) (hX9 : ∀ (u0 : Nat) (u1 : Nat) (u2 : Int32) (u3 : Int32) (u4 : Int32) (u5 : HS), X9 u0 u1 u2 u3 u4 u5 → K2 S0 u5 → X9_2 u0 u1 u2 u3 u4 u5) : P_X7_trace_143 (fun r T => Q r T ∧ K2 S0 T) X9_2 v0 v1 v4 v5 v6 S := by
  delta P_X7_trace_143 at h ⊢
  intro x2 e1
  have h := h x2 e1
  exact hX9 _ _ _ _ _ _ h K
set_option maxRecDepth 20000 in
set_option maxHeartbeats 1000000 in
theorem kf_X7_trace_56 {Q : Int32 → HS → Prop} {X9 X9_2 : Nat → Nat → Int32 → Int32 → Int32 → HS → Prop} {v0 : Nat} {v1 : Nat} {v4 : Int32} {v5 : Int32} {v6 : Int32} {s0 : Int32} {S0 S : HS} (h : P_X7_trace_56 Q X9 v0 v1 v4 v5 v6 s0 S) (K : K2 S0 S) (hX9 : ∀ (u0 : Nat) (u1 : Nat) (u2 : Int32) (u3 : Int32) (u4 : Int32) (u5 : HS), X9 u0 u1 u2 u3 u4 u5 → K2 S0 u5 → X9_2 u0 u1 u2 u3 u4 u5) : P_X7_trace_56 (fun r T => Q r T ∧ K2 S0 T) X9_2 v0 v1 v4 v5 v6 s0 S := by
  delta P_X7_trace_56 at h ⊢
  refine ⟨?_, ?_⟩
  · intro c1
    have h := h.1 c1
    obtain ⟨c2, h⟩ := h
    refine ⟨c2, ?_⟩
    have n3 := k2_ne K c2 (by decide)
    obtain ⟨b4, e5, h⟩ := h
    refine ⟨b4, e5, ?_⟩
    obtain ⟨c6, h⟩ := h
    refine ⟨c6, ?_⟩
    have n7 := k2_ne K c6 (by decide)
    obtain ⟨c8, h⟩ := h
    refine ⟨c8, ?_⟩
    intro x10 e9
    have h := h x10 e9
    have K := k2_I K e9 n7
    refine ⟨?_, ?_⟩
    · intro c11
      have h := h.1 c11
      intro x13 e12
      have h := h x13 e12
      obtain ⟨c14, h⟩ := h
      refine ⟨c14, ?_⟩
      have n15 := k2_ne K c14 (by decide)
      refine cm_X8_hasRoad (kf_X8_hasRoad h) h (fun x16 x17 hp h g18 g19 => ?_)
      have h := h g18 g19
      have K := k2_tr K hp.2
      refine ⟨?_, ?_⟩
      · intro c20
        have h := h.1 c20
        exact kf_X7_trace_143 h K hX9
      · intro c21
        have h := h.2 c21
        obtain ⟨b22, e23, h⟩ := h
        refine ⟨b22, e23, ?_⟩
        intro x25 e24
        have h := h x25 e24
        obtain ⟨c26, h⟩ := h
        refine ⟨c26, ?_⟩
        have n27 := k2_ne K c26 (by decide)
        obtain ⟨c28, h⟩ := h
        refine ⟨c28, ?_⟩
        obtain ⟨b29, e30, h⟩ := h
        refine ⟨b29, e30, ?_⟩
        intro x32 e31
        have h := h x32 e31
        intro x34 e33
        have h := h x34 e33
        obtain ⟨c35, h⟩ := h
        refine ⟨c35, ?_⟩
        have n36 := k2_ne K c35 (by decide)
        refine cm_X5_endOf (kf_X5_endOf h) h (fun x37 x38 hp h g39 => ?_)
        have h := h g39
        have K := k2_tr K hp.2
        intro x41 e40
        have h := h x41 e40
        refine cm_X5_minutesAt (kf_X5_minutesAt h) h (fun x42 x43 hp h g44 => ?_)
        have h := h g44
        have K := k2_tr K hp.2
        intro x46 e45
        have h := h x46 e45
        exact kf_X7_trace_143 h K hX9
    · intro c47
      have h := h.2 c47
      intro x49 e48
      have h := h x49 e48
      exact kf_X7_trace_143 h K hX9
  · intro c50
    have h := h.2 c50
    exact ⟨h, K⟩
set_option maxRecDepth 20000 in
set_option maxHeartbeats 1000000 in
theorem kf_X7_trace_55 {Q : Int32 → HS → Prop} {X9 X9_2 : Nat → Nat → Int32 → Int32 → Int32 → HS → Prop} {v0 : Nat} {v1 : Nat} {v4 : Int32} {v5 : Int32} {v6 : Int32} {S0 S : HS} (h : P_X7_trace_55 Q X9 v0 v1 v4 v5 v6 S) (K : K2 S0 S) (hX9 : ∀ (u0 : Nat) (u1 : Nat) (u2 : Int32) (u3 : Int32) (u4 : Int32) (u5 : HS), X9 u0 u1 u2 u3 u4 u5 → K2 S0 u5 → X9_2 u0 u1 u2 u3 u4 u5) : P_X7_trace_55 (fun r T => Q r T ∧ K2 S0 T) X9_2 v0 v1 v4 v5 v6 S := by
  delta P_X7_trace_55 at h ⊢
  exact kf_X7_trace_56 h K hX9
set_option maxRecDepth 20000 in
set_option maxHeartbeats 1000000 in
theorem kfB_X7_trace_9 {Q : Int32 → HS → Prop} {X9 X9_2 : Nat → Nat → Int32 → Int32 → Int32 → HS → Prop} {v0 : Nat} {v1 : Nat} {v4 : Int32} {v5 : Int32} {v6 : Int32} {S0 S : HS} (h : B_X7_trace_9 Q X9 v0 v1 v4 v5 v6 S) (K : K2 S0 S) (hX9 : ∀ (u0 : Nat) (u1 : Nat) (u2 : Int32) (u3 : Int32) (u4 : Int32) (u5 : HS), X9 u0 u1 u2 u3 u4 u5 → K2 S0 u5 → X9_2 u0 u1 u2 u3 u4 u5) : B_X7_trace_9 (fun r T => Q r T ∧ K2 S0 T) X9_2 v0 v1 v4 v5 v6 S := by
  delta B_X7_trace_9 at h ⊢
  obtain ⟨c1, h⟩ := h
  refine ⟨c1, ?_⟩
  have n2 := k2_ne K c1 (by decide)
  obtain ⟨b3, e4, h⟩ := h
  refine ⟨b3, e4, ?_⟩
  obtain ⟨c5, h⟩ := h
  refine ⟨c5, ?_⟩
  have n6 := k2_ne K c5 (by decide)
  refine ⟨?_, ?_⟩
  · intro c7
    have h := h.1 c7
    obtain ⟨b8, e9, h⟩ := h
    refine ⟨b8, e9, ?_⟩
    obtain ⟨c10, h⟩ := h
    refine ⟨c10, ?_⟩
    have n11 := k2_ne K c10 (by decide)
    exact ⟨h, K⟩
  · intro c12
    have h := h.2 c12
    intro x14 e13
    have h := h x14 e13
    refine ⟨?_, ?_⟩
    · intro c15
      have h := h.1 c15
      exact kf_X7_trace_55 h K hX9
    · intro c16
      have h := h.2 c16
      obtain ⟨b17, e18, h⟩ := h
      refine ⟨b17, e18, ?_⟩
      obtain ⟨c19, h⟩ := h
      refine ⟨c19, ?_⟩
      have n20 := k2_ne K c19 (by decide)
      refine ⟨?_, ?_⟩
      · intro c21
        have h := h.1 c21
        exact kf_X7_trace_55 h K hX9
      · intro c22
        have h := h.2 c22
        obtain ⟨b23, e24, h⟩ := h
        refine ⟨b23, e24, ?_⟩
        obtain ⟨c25, h⟩ := h
        refine ⟨c25, ?_⟩
        have n26 := k2_ne K c25 (by decide)
        obtain ⟨c27, h⟩ := h
        refine ⟨c27, ?_⟩
        intro x29 e28
        have h := h x29 e28
        exact kf_X7_trace_56 h K hX9
theorem kf_X7_trace_9 {Q : Int32 → HS → Prop} {v0 : Nat} {v1 : Nat} {v4 : Int32} {v5 : Int32} {v6 : Int32} {S0 S : HS} (h : P_X7_trace_9 Q v0 v1 v4 v5 v6 S) (K : K2 S0 S) : P_X7_trace_9 (fun r T => Q r T ∧ K2 S0 T) v0 v1 v4 v5 v6 S := h (fun v0 v1 v4 v5 v6 S => K2 S0 S → P_X7_trace_9 (fun r T => Q r T ∧ K2 S0 T) v0 v1 v4 v5 v6 S) (fun v0 v1 v4 v5 v6 S hB K => fd_X7_trace_9 (kfB_X7_trace_9 hB K (fun _ _ _ _ _ _ hx K => hx K))) K
set_option maxRecDepth 20000 in
set_option maxHeartbeats 1000000 in
theorem kf_X7_trace_0 {Q : Int32 → HS → Prop} {v0 : Nat} {v1 : Nat} {v2 : Int32} {v3 : Int32} {S0 S : HS} (h : P_X7_trace_0 Q v0 v1 v2 v3 S) (K : K2 S0 S) : P_X7_trace_0 (fun r T => Q r T ∧ K2 S0 T) v0 v1 v2 v3 S := by
  delta P_X7_trace_0 at h ⊢
  exact kf_X7_trace_9 h K
theorem kf_X7_trace {Q : Int32 → HS → Prop} {v0 : Nat} {v1 : Nat} {v2 : Int32} {v3 : Int32} {S : HS} (h : P_X7_trace v0 v1 v2 v3 Q S) : P_X7_trace v0 v1 v2 v3 (fun r T => Q r T ∧ K2 S T) S := kf_X7_trace_0 h (k2_rf S)
set_option maxRecDepth 20000 in
set_option maxHeartbeats 1000000 in
theorem kf_X9_grant_0 {Q : Int32 → HS → Prop} {v0 : Nat} {v1 : Int32} {S0 S : HS} (h : P_X9_grant_0 Q v0 v1 S) (K : K2 S0 S) : P_X9_grant_0 (fun r T => Q r T ∧ K2 S0 T) v0 v1 S := by
  delta P_X9_grant_0 at h ⊢
  obtain ⟨c1, h⟩ := h
  refine ⟨c1, ?_⟩
  have n2 := k2_ne K c1 (by decide)
  intro x4 e3
  have h := h x4 e3
  have K := k2_I K e3 n2
  exact ⟨h, K⟩
theorem kf_X9_grant {Q : Int32 → HS → Prop} {v0 : Nat} {v1 : Int32} {S : HS} (h : P_X9_grant v0 v1 Q S) : P_X9_grant v0 v1 (fun r T => Q r T ∧ K2 S T) S := kf_X9_grant_0 h (k2_rf S)
set_option maxRecDepth 20000 in
set_option maxHeartbeats 1000000 in
theorem kf_X9_isWay_0 {Q : Int32 → HS → Prop} {v0 : Int32} {S0 S : HS} (h : P_X9_isWay_0 Q v0 S) (K : K2 S0 S) : P_X9_isWay_0 (fun r T => Q r T ∧ K2 S0 T) v0 S := by
  delta P_X9_isWay_0 at h ⊢
  refine ⟨?_, ?_⟩
  · intro c1
    have h := h.1 c1
    exact ⟨h, K⟩
  · intro c2
    have h := h.2 c2
    refine ⟨?_, ?_⟩
    · intro c3
      have h := h.1 c3
      exact ⟨h, K⟩
    · intro c4
      have h := h.2 c4
      exact ⟨h, K⟩
theorem kf_X9_isWay {Q : Int32 → HS → Prop} {v0 : Int32} {S : HS} (h : P_X9_isWay v0 Q S) : P_X9_isWay v0 (fun r T => Q r T ∧ K2 S T) S := kf_X9_isWay_0 h (k2_rf S)
set_option maxRecDepth 20000 in
set_option maxHeartbeats 1000000 in
theorem kf_X9_air_0 {Q : Int32 → HS → Prop} {v0 : Nat} {v1 : Int32} {v2 : Int32} {v3 : Int32} {S0 S : HS} (h : P_X9_air_0 Q v0 v1 v2 v3 S) (K : K2 S0 S) : P_X9_air_0 (fun r T => Q r T ∧ K2 S0 T) v0 v1 v2 v3 S := by
  delta P_X9_air_0 at h ⊢
  obtain ⟨c1, h⟩ := h
  refine ⟨c1, ?_⟩
  have n2 := k2_ne K c1 (by decide)
  obtain ⟨b3, e4, h⟩ := h
  refine ⟨b3, e4, ?_⟩
  obtain ⟨c5, h⟩ := h
  refine ⟨c5, ?_⟩
  have n6 := k2_ne K c5 (by decide)
  refine cm_X8_hasRoad (kf_X8_hasRoad h) h (fun x7 x8 hp h g9 g10 => ?_)
  have h := h g9 g10
  have K := k2_tr K hp.2
  refine ⟨?_, ?_⟩
  · intro c11
    have h := h.1 c11
    intro x13 e12
    have h := h x13 e12
    have K := k2_I K e12 n2
    exact ⟨h, K⟩
  · intro c14
    have h := h.2 c14
    refine cm_X9_isWay (kf_X9_isWay h) h (fun x15 x16 hp h g17 g18 => ?_)
    have h := h g17 g18
    have K := k2_tr K hp.2
    refine ⟨?_, ?_⟩
    · intro c19
      have h := h.1 c19
      intro x21 e20
      have h := h x21 e20
      have K := k2_I K e20 n2
      exact ⟨h, K⟩
    · intro c22
      have h := h.2 c22
      obtain ⟨b23, e24, h⟩ := h
      refine ⟨b23, e24, ?_⟩
      obtain ⟨c25, h⟩ := h
      refine ⟨c25, ?_⟩
      have n26 := k2_ne K c25 (by decide)
      refine cm_X8_hasHour (kf_X8_hasHour h) h (fun x27 x28 hp h g29 g30 => ?_)
      have h := h g29 g30
      have K := k2_tr K hp.2
      refine ⟨?_, ?_⟩
      · intro c31
        have h := h.1 c31
        obtain ⟨b32, e33, h⟩ := h
        refine ⟨b32, e33, ?_⟩
        obtain ⟨c34, h⟩ := h
        refine ⟨c34, ?_⟩
        have n35 := k2_ne K c34 (by decide)
        obtain ⟨b36, e37, h⟩ := h
        refine ⟨b36, e37, ?_⟩
        obtain ⟨c38, h⟩ := h
        refine ⟨c38, ?_⟩
        have n39 := k2_ne K c38 (by decide)
        obtain ⟨c40, h⟩ := h
        refine ⟨c40, ?_⟩
        obtain ⟨b41, e42, h⟩ := h
        refine ⟨b41, e42, ?_⟩
        obtain ⟨b43, e44, h⟩ := h
        refine ⟨b43, e44, ?_⟩
        obtain ⟨c45, h⟩ := h
        refine ⟨c45, ?_⟩
        have n46 := k2_ne K c45 (by decide)
        obtain ⟨b47, e48, h⟩ := h
        refine ⟨b47, e48, ?_⟩
        obtain ⟨c49, h⟩ := h
        refine ⟨c49, ?_⟩
        have n50 := k2_ne K c49 (by decide)
        obtain ⟨c51, h⟩ := h
        refine ⟨c51, ?_⟩
        obtain ⟨b52, e53, h⟩ := h
        refine ⟨b52, e53, ?_⟩
        obtain ⟨c54, h⟩ := h
        refine ⟨c54, ?_⟩
        have n55 := k2_ne K c54 (by decide)
        refine cm_X5_airAlong (kf_X5_airAlong h) h (fun x56 x57 hp h g58 => ?_)
        have h := h g58
        have K := k2_tr K hp.2
        refine cm_X9_grant (kf_X9_grant h) h (fun x59 x60 hp h g61 => ?_)
        have h := h g61
        have K := k2_tr K hp.2
        exact ⟨h, K⟩
      · intro c62
        have h := h.2 c62
        intro x64 e63
        have h := h x64 e63
        have K := k2_I K e63 n2
        exact ⟨h, K⟩
theorem kf_X9_air {Q : Int32 → HS → Prop} {v0 : Nat} {v1 : Int32} {v2 : Int32} {v3 : Int32} {S : HS} (h : P_X9_air v0 v1 v2 v3 Q S) : P_X9_air v0 v1 v2 v3 (fun r T => Q r T ∧ K2 S T) S := kf_X9_air_0 h (k2_rf S)
set_option maxRecDepth 20000 in
set_option maxHeartbeats 1000000 in
theorem kf_X9_refusedBy_0 {Q : Int32 → HS → Prop} {v0 : Nat} {v1 : Int32} {S0 S : HS} (h : P_X9_refusedBy_0 Q v0 v1 S) (K : K2 S0 S) : P_X9_refusedBy_0 (fun r T => Q r T ∧ K2 S0 T) v0 v1 S := by
  delta P_X9_refusedBy_0 at h ⊢
  obtain ⟨c1, h⟩ := h
  refine ⟨c1, ?_⟩
  have n2 := k2_ne K c1 (by decide)
  intro x4 e3
  have h := h x4 e3
  have K := k2_I K e3 n2
  refine ⟨?_, ?_⟩
  · intro c5
    have h := h.1 c5
    exact ⟨h, K⟩
  · intro c6
    have h := h.2 c6
    exact ⟨h, K⟩
theorem kf_X9_refusedBy {Q : Int32 → HS → Prop} {v0 : Nat} {v1 : Int32} {S : HS} (h : P_X9_refusedBy v0 v1 Q S) : P_X9_refusedBy v0 v1 (fun r T => Q r T ∧ K2 S T) S := kf_X9_refusedBy_0 h (k2_rf S)
set_option maxRecDepth 20000 in
set_option maxHeartbeats 1000000 in
theorem kf_X9_back_17 {Q : Int32 → HS → Prop} {s0 : Nat} {s1 : Int32} {S0 S : HS} (h : P_X9_back_17 Q s0 s1 S) (K : K2 S0 S) : P_X9_back_17 (fun r T => Q r T ∧ K2 S0 T) s0 s1 S := by
  delta P_X9_back_17 at h ⊢
  obtain ⟨c1, h⟩ := h
  refine ⟨c1, ?_⟩
  have n2 := k2_ne K c1 (by decide)
  refine cm_X9_refusedBy (kf_X9_refusedBy h) h (fun x3 x4 hp h g5 g6 => ?_)
  have h := h g5 g6
  have K := k2_tr K hp.2
  refine ⟨?_, ?_⟩
  · intro c7
    have h := h.1 c7
    exact ⟨h, K⟩
  · intro c8
    have h := h.2 c8
    exact ⟨h, K⟩
set_option maxRecDepth 20000 in
set_option maxHeartbeats 1000000 in
theorem kf_X9_back_0 {Q : Int32 → HS → Prop} {v0 : Nat} {v1 : Int32} {S0 S : HS} (h : P_X9_back_0 Q v0 v1 S) (K : K2 S0 S) : P_X9_back_0 (fun r T => Q r T ∧ K2 S0 T) v0 v1 S := by
  delta P_X9_back_0 at h ⊢
  obtain ⟨c1, h⟩ := h
  refine ⟨c1, ?_⟩
  have n2 := k2_ne K c1 (by decide)
  obtain ⟨b3, e4, h⟩ := h
  refine ⟨b3, e4, ?_⟩
  obtain ⟨c5, h⟩ := h
  refine ⟨c5, ?_⟩
  have n6 := k2_ne K c5 (by decide)
  refine cm_X0_returnTo (kf_X0_returnTo h) h (fun x7 x8 hp h g9 g10 => ?_)
  have h := h g9 g10
  have K := k2_tr K hp.2
  refine ⟨?_, ?_⟩
  · intro c11
    have h := h.1 c11
    exact kf_X9_back_17 h K
  · intro c12
    have h := h.2 c12
    exact kf_X9_back_17 h K
theorem kf_X9_back {Q : Int32 → HS → Prop} {v0 : Nat} {v1 : Int32} {S : HS} (h : P_X9_back v0 v1 Q S) : P_X9_back v0 v1 (fun r T => Q r T ∧ K2 S T) S := kf_X9_back_0 h (k2_rf S)
set_option maxRecDepth 20000 in
set_option maxHeartbeats 1000000 in
theorem kf_X9_tripTrouble_46 {Q : Int32 → HS → Prop} {s0 : Int32} {S0 S : HS} (h : P_X9_tripTrouble_46 Q s0 S) (K : K2 S0 S) : P_X9_tripTrouble_46 (fun r T => Q r T ∧ K2 S0 T) s0 S := by
  delta P_X9_tripTrouble_46 at h ⊢
  refine ⟨?_, ?_⟩
  · intro c1
    have h := h.1 c1
    exact ⟨h, K⟩
  · intro c2
    have h := h.2 c2
    exact ⟨h, K⟩
set_option maxRecDepth 20000 in
set_option maxHeartbeats 1000000 in
theorem kf_X9_tripTrouble_45 {Q : Int32 → HS → Prop} {S0 S : HS} (h : P_X9_tripTrouble_45 Q S) (K : K2 S0 S) : P_X9_tripTrouble_45 (fun r T => Q r T ∧ K2 S0 T) S := by
  delta P_X9_tripTrouble_45 at h ⊢
  exact kf_X9_tripTrouble_46 h K
set_option maxRecDepth 20000 in
set_option maxHeartbeats 1000000 in
theorem kf_X9_tripTrouble_0 {Q : Int32 → HS → Prop} {v0 : Nat} {v1 : Int32} {v2 : Int32} {v3 : Int32} {v4 : Int32} {S0 S : HS} (h : P_X9_tripTrouble_0 Q v0 v1 v2 v3 v4 S) (K : K2 S0 S) : P_X9_tripTrouble_0 (fun r T => Q r T ∧ K2 S0 T) v0 v1 v2 v3 v4 S := by
  delta P_X9_tripTrouble_0 at h ⊢
  obtain ⟨c1, h⟩ := h
  refine ⟨c1, ?_⟩
  have n2 := k2_ne K c1 (by decide)
  obtain ⟨b3, e4, h⟩ := h
  refine ⟨b3, e4, ?_⟩
  obtain ⟨c5, h⟩ := h
  refine ⟨c5, ?_⟩
  have n6 := k2_ne K c5 (by decide)
  refine cm_X8_hasWalker (kf_X8_hasWalker h) h (fun x7 x8 hp h g9 g10 => ?_)
  have h := h g9 g10
  have K := k2_tr K hp.2
  refine ⟨?_, ?_⟩
  · intro c11
    have h := h.1 c11
    exact kf_X9_tripTrouble_45 h K
  · intro c12
    have h := h.2 c12
    obtain ⟨b13, e14, h⟩ := h
    refine ⟨b13, e14, ?_⟩
    obtain ⟨c15, h⟩ := h
    refine ⟨c15, ?_⟩
    have n16 := k2_ne K c15 (by decide)
    refine cm_X8_hasRoad (kf_X8_hasRoad h) h (fun x17 x18 hp h g19 g20 => ?_)
    have h := h g19 g20
    have K := k2_tr K hp.2
    refine ⟨?_, ?_⟩
    · intro c21
      have h := h.1 c21
      exact kf_X9_tripTrouble_45 h K
    · intro c22
      have h := h.2 c22
      refine cm_X9_isWay (kf_X9_isWay h) h (fun x23 x24 hp h g25 g26 => ?_)
      have h := h g25 g26
      have K := k2_tr K hp.2
      refine ⟨?_, ?_⟩
      · intro c27
        have h := h.1 c27
        exact kf_X9_tripTrouble_45 h K
      · intro c28
        have h := h.2 c28
        obtain ⟨b29, e30, h⟩ := h
        refine ⟨b29, e30, ?_⟩
        obtain ⟨c31, h⟩ := h
        refine ⟨c31, ?_⟩
        have n32 := k2_ne K c31 (by decide)
        refine cm_X8_hasHour (kf_X8_hasHour h) h (fun x33 x34 hp h g35 g36 => ?_)
        have h := h g35 g36
        have K := k2_tr K hp.2
        refine ⟨?_, ?_⟩
        · intro c37
          have h := h.1 c37
          exact kf_X9_tripTrouble_45 h K
        · intro c38
          have h := h.2 c38
          exact kf_X9_tripTrouble_46 h K
theorem kf_X9_tripTrouble {Q : Int32 → HS → Prop} {v0 : Nat} {v1 : Int32} {v2 : Int32} {v3 : Int32} {v4 : Int32} {S : HS} (h : P_X9_tripTrouble v0 v1 v2 v3 v4 Q S) : P_X9_tripTrouble v0 v1 v2 v3 v4 (fun r T => Q r T ∧ K2 S T) S := kf_X9_tripTrouble_0 h (k2_rf S)
set_option maxRecDepth 20000 in
set_option maxHeartbeats 1000000 in
theorem kf_X9_best_0 {Q : Int32 → HS → Prop} {v0 : Nat} {v1 : Int32} {v2 : Int32} {v3 : Int32} {v4 : Int32} {S0 S : HS} (h : P_X9_best_0 Q v0 v1 v2 v3 v4 S) (K : K2 S0 S) : P_X9_best_0 (fun r T => Q r T ∧ K2 S0 T) v0 v1 v2 v3 v4 S := by
  delta P_X9_best_0 at h ⊢
  obtain ⟨c1, h⟩ := h
  refine ⟨c1, ?_⟩
  have n2 := k2_ne K c1 (by decide)
  refine cm_X9_tripTrouble (kf_X9_tripTrouble h) h (fun x3 x4 hp h g5 => ?_)
  have h := h g5
  have K := k2_tr K hp.2
  refine cm_X9_refusedBy (kf_X9_refusedBy h) h (fun x6 x7 hp h g8 g9 => ?_)
  have h := h g8 g9
  have K := k2_tr K hp.2
  refine ⟨?_, ?_⟩
  · intro c10
    have h := h.1 c10
    obtain ⟨b11, e12, h⟩ := h
    refine ⟨b11, e12, ?_⟩
    obtain ⟨b13, e14, h⟩ := h
    refine ⟨b13, e14, ?_⟩
    obtain ⟨c15, h⟩ := h
    refine ⟨c15, ?_⟩
    have n16 := k2_ne K c15 (by decide)
    obtain ⟨b17, e18, h⟩ := h
    refine ⟨b17, e18, ?_⟩
    obtain ⟨c19, h⟩ := h
    refine ⟨c19, ?_⟩
    have n20 := k2_ne K c19 (by decide)
    obtain ⟨c21, h⟩ := h
    refine ⟨c21, ?_⟩
    obtain ⟨b22, e23, h⟩ := h
    refine ⟨b22, e23, ?_⟩
    obtain ⟨b24, e25, h⟩ := h
    refine ⟨b24, e25, ?_⟩
    obtain ⟨c26, h⟩ := h
    refine ⟨c26, ?_⟩
    have n27 := k2_ne K c26 (by decide)
    obtain ⟨b28, e29, h⟩ := h
    refine ⟨b28, e29, ?_⟩
    obtain ⟨c30, h⟩ := h
    refine ⟨c30, ?_⟩
    have n31 := k2_ne K c30 (by decide)
    obtain ⟨c32, h⟩ := h
    refine ⟨c32, ?_⟩
    obtain ⟨b33, e34, h⟩ := h
    refine ⟨b33, e34, ?_⟩
    obtain ⟨b35, e36, h⟩ := h
    refine ⟨b35, e36, ?_⟩
    obtain ⟨c37, h⟩ := h
    refine ⟨c37, ?_⟩
    have n38 := k2_ne K c37 (by decide)
    obtain ⟨b39, e40, h⟩ := h
    refine ⟨b39, e40, ?_⟩
    obtain ⟨c41, h⟩ := h
    refine ⟨c41, ?_⟩
    have n42 := k2_ne K c41 (by decide)
    obtain ⟨c43, h⟩ := h
    refine ⟨c43, ?_⟩
    obtain ⟨b44, e45, h⟩ := h
    refine ⟨b44, e45, ?_⟩
    obtain ⟨c46, h⟩ := h
    refine ⟨c46, ?_⟩
    have n47 := k2_ne K c46 (by decide)
    refine cm_X1_bestSpeed (kf_X1_bestSpeed h) h (fun x48 x49 hp h g50 => ?_)
    have h := h g50
    have K := k2_tr K hp.2
    exact ⟨h, K⟩
  · intro c51
    have h := h.2 c51
    exact ⟨h, K⟩
theorem kf_X9_best {Q : Int32 → HS → Prop} {v0 : Nat} {v1 : Int32} {v2 : Int32} {v3 : Int32} {v4 : Int32} {S : HS} (h : P_X9_best v0 v1 v2 v3 v4 Q S) : P_X9_best v0 v1 v2 v3 v4 (fun r T => Q r T ∧ K2 S T) S := kf_X9_best_0 h (k2_rf S)
set_option maxRecDepth 20000 in
set_option maxHeartbeats 1000000 in
theorem kf_X9_coatParts_0 {Q : Int64 → HS → Prop} {v0 : Nat} {S0 S : HS} (h : P_X9_coatParts_0 Q v0 S) (K : K2 S0 S) : P_X9_coatParts_0 (fun r T => Q r T ∧ K2 S0 T) v0 S := by
  delta P_X9_coatParts_0 at h ⊢
  obtain ⟨c1, h⟩ := h
  refine ⟨c1, ?_⟩
  have n2 := k2_ne K c1 (by decide)
  intro x4 e3
  have h := h x4 e3
  refine ⟨?_, ?_⟩
  · intro c5
    have h := h.1 c5
    exact ⟨h, K⟩
  · intro c6
    have h := h.2 c6
    intro x8 e7
    have h := h x8 e7
    exact ⟨h, K⟩
theorem kf_X9_coatParts {Q : Int64 → HS → Prop} {v0 : Nat} {S : HS} (h : P_X9_coatParts v0 Q S) : P_X9_coatParts v0 (fun r T => Q r T ∧ K2 S T) S := kf_X9_coatParts_0 h (k2_rf S)
set_option maxRecDepth 20000 in
set_option maxHeartbeats 1000000 in
theorem kfB_X9_commonDivisor_9 {Q : Int64 → HS → Prop} {X9 X9_2 : Int64 → Int64 → Int32 → HS → Prop} {v4 : Int64} {v6 : Int64} {v8 : Int32} {S0 S : HS} (h : B_X9_commonDivisor_9 Q X9 v4 v6 v8 S) (K : K2 S0 S) (hX9 : ∀ (u0 : Int64) (u1 : Int64) (u2 : Int32) (u3 : HS), X9 u0 u1 u2 u3 → K2 S0 u3 → X9_2 u0 u1 u2 u3) : B_X9_commonDivisor_9 (fun r T => Q r T ∧ K2 S0 T) X9_2 v4 v6 v8 S := by
  delta B_X9_commonDivisor_9 at h ⊢
  refine ⟨?_, ?_⟩
  · intro c1
    have h := h.1 c1
    exact ⟨h, K⟩
  · intro c2
    have h := h.2 c2
    refine ⟨?_, ?_⟩
    · intro c3
      have h := h.1 c3
      exact ⟨h, K⟩
    · intro c4
      have h := h.2 c4
      obtain ⟨c5, h⟩ := h
      refine ⟨c5, ?_⟩
      intro x7 e6
      have h := h x7 e6
      intro x9 e8
      have h := h x9 e8
      exact hX9 _ _ _ _ h K
theorem kf_X9_commonDivisor_9 {Q : Int64 → HS → Prop} {v4 : Int64} {v6 : Int64} {v8 : Int32} {S0 S : HS} (h : P_X9_commonDivisor_9 Q v4 v6 v8 S) (K : K2 S0 S) : P_X9_commonDivisor_9 (fun r T => Q r T ∧ K2 S0 T) v4 v6 v8 S := h (fun v4 v6 v8 S => K2 S0 S → P_X9_commonDivisor_9 (fun r T => Q r T ∧ K2 S0 T) v4 v6 v8 S) (fun v4 v6 v8 S hB K => fd_X9_commonDivisor_9 (kfB_X9_commonDivisor_9 hB K (fun _ _ _ _ hx K => hx K))) K
set_option maxRecDepth 20000 in
set_option maxHeartbeats 1000000 in
theorem kf_X9_commonDivisor_0 {Q : Int64 → HS → Prop} {v0 : Int64} {v2 : Int64} {S0 S : HS} (h : P_X9_commonDivisor_0 Q v0 v2 S) (K : K2 S0 S) : P_X9_commonDivisor_0 (fun r T => Q r T ∧ K2 S0 T) v0 v2 S := by
  delta P_X9_commonDivisor_0 at h ⊢
  exact kf_X9_commonDivisor_9 h K
theorem kf_X9_commonDivisor {Q : Int64 → HS → Prop} {v0 : Int64} {v2 : Int64} {S : HS} (h : P_X9_commonDivisor v0 v2 Q S) : P_X9_commonDivisor v0 v2 (fun r T => Q r T ∧ K2 S T) S := kf_X9_commonDivisor_0 h (k2_rf S)
set_option maxRecDepth 20000 in
set_option maxHeartbeats 1000000 in
theorem kf_X9_refuse_0 {Q : Int32 → HS → Prop} {v0 : Nat} {v1 : Int32} {S0 S : HS} (h : P_X9_refuse_0 Q v0 v1 S) (K : K2 S0 S) : P_X9_refuse_0 (fun r T => Q r T ∧ K2 S0 T) v0 v1 S := by
  delta P_X9_refuse_0 at h ⊢
  obtain ⟨c1, h⟩ := h
  refine ⟨c1, ?_⟩
  have n2 := k2_ne K c1 (by decide)
  intro x4 e3
  have h := h x4 e3
  have K := k2_I K e3 n2
  exact ⟨h, K⟩
theorem kf_X9_refuse {Q : Int32 → HS → Prop} {v0 : Nat} {v1 : Int32} {S : HS} (h : P_X9_refuse v0 v1 Q S) : P_X9_refuse v0 v1 (fun r T => Q r T ∧ K2 S T) S := kf_X9_refuse_0 h (k2_rf S)
set_option maxRecDepth 20000 in
set_option maxHeartbeats 1000000 in
theorem kf_X9_day_22 {Q : Int32 → HS → Prop} {v0 : Nat} {S0 S : HS} (h : P_X9_day_22 Q v0 S) (K : K2 S0 S) : P_X9_day_22 (fun r T => Q r T ∧ K2 S0 T) v0 S := by
  delta P_X9_day_22 at h ⊢
  obtain ⟨c1, h⟩ := h
  refine ⟨c1, ?_⟩
  have n2 := k2_ne K c1 (by decide)
  refine cm_X9_refuse (kf_X9_refuse h) h (fun x3 x4 hp h g5 => ?_)
  have h := h g5
  have K := k2_tr K hp.2
  exact ⟨h, K⟩
set_option maxRecDepth 20000 in
set_option maxHeartbeats 1000000 in
theorem kf_X9_day_52 {Q : Int32 → HS → Prop} {v0 : Nat} {S0 S : HS} (h : P_X9_day_52 Q v0 S) (K : K2 S0 S) : P_X9_day_52 (fun r T => Q r T ∧ K2 S0 T) v0 S := by
  delta P_X9_day_52 at h ⊢
  obtain ⟨c1, h⟩ := h
  refine ⟨c1, ?_⟩
  have n2 := k2_ne K c1 (by decide)
  refine cm_X9_refuse (kf_X9_refuse h) h (fun x3 x4 hp h g5 => ?_)
  have h := h g5
  have K := k2_tr K hp.2
  exact ⟨h, K⟩
set_option maxRecDepth 20000 in
set_option maxHeartbeats 1000000 in
theorem kf_X9_day_0 {Q : Int32 → HS → Prop} {v0 : Nat} {v1 : Int32} {v2 : Int32} {v3 : Int32} {v4 : Int32} {S0 S : HS} (h : P_X9_day_0 Q v0 v1 v2 v3 v4 S) (K : K2 S0 S) : P_X9_day_0 (fun r T => Q r T ∧ K2 S0 T) v0 v1 v2 v3 v4 S := by
  delta P_X9_day_0 at h ⊢
  obtain ⟨c1, h⟩ := h
  refine ⟨c1, ?_⟩
  have n2 := k2_ne K c1 (by decide)
  obtain ⟨b3, e4, h⟩ := h
  refine ⟨b3, e4, ?_⟩
  obtain ⟨c5, h⟩ := h
  refine ⟨c5, ?_⟩
  have n6 := k2_ne K c5 (by decide)
  refine cm_X8_hasWalker (kf_X8_hasWalker h) h (fun x7 x8 hp h g9 g10 => ?_)
  have h := h g9 g10
  have K := k2_tr K hp.2
  refine ⟨?_, ?_⟩
  · intro c11
    have h := h.1 c11
    exact kf_X9_day_22 h K
  · intro c12
    have h := h.2 c12
    obtain ⟨b13, e14, h⟩ := h
    refine ⟨b13, e14, ?_⟩
    obtain ⟨c15, h⟩ := h
    refine ⟨c15, ?_⟩
    have n16 := k2_ne K c15 (by decide)
    refine cm_X8_hasPlace (kf_X8_hasPlace h) h (fun x17 x18 hp h g19 g20 => ?_)
    have h := h g19 g20
    have K := k2_tr K hp.2
    refine ⟨?_, ?_⟩
    · intro c21
      have h := h.1 c21
      refine ⟨?_, ?_⟩
      · intro c22
        have h := h.1 c22
        exact kf_X9_day_52 h K
      · intro c23
        have h := h.2 c23
        refine ⟨?_, ?_⟩
        · intro c24
          have h := h.1 c24
          exact kf_X9_day_52 h K
        · intro c25
          have h := h.2 c25
          refine ⟨?_, ?_⟩
          · intro c26
            have h := h.1 c26
            exact kf_X9_day_52 h K
          · intro c27
            have h := h.2 c27
            refine ⟨?_, ?_⟩
            · intro c28
              have h := h.1 c28
              obtain ⟨b29, e30, h⟩ := h
              refine ⟨b29, e30, ?_⟩
              obtain ⟨c31, h⟩ := h
              refine ⟨c31, ?_⟩
              have n32 := k2_ne K c31 (by decide)
              refine cm_X0_begin (kf_X0_begin h) h (fun x33 hp h g34 => ?_)
              have h := h g34
              have K := k2_tr K hp.2
              obtain ⟨b35, e36, h⟩ := h
              refine ⟨b35, e36, ?_⟩
              obtain ⟨b37, e38, h⟩ := h
              refine ⟨b37, e38, ?_⟩
              obtain ⟨c39, h⟩ := h
              refine ⟨c39, ?_⟩
              have n40 := k2_ne K c39 (by decide)
              refine cm_X0_draw (kf_X0_draw h) h (fun x41 hp h g42 => ?_)
              have h := h g42
              have K := k2_tr K hp.2
              obtain ⟨b43, e44, h⟩ := h
              refine ⟨b43, e44, ?_⟩
              obtain ⟨c45, h⟩ := h
              refine ⟨c45, ?_⟩
              have n46 := k2_ne K c45 (by decide)
              intro x48 e47
              have h := h x48 e47
              refine cm_X9_grant (kf_X9_grant h) h (fun x49 x50 hp h g51 => ?_)
              have h := h g51
              have K := k2_tr K hp.2
              exact ⟨h, K⟩
            · intro c52
              have h := h.2 c52
              exact kf_X9_day_52 h K
    · intro c53
      have h := h.2 c53
      exact kf_X9_day_22 h K
theorem kf_X9_day {Q : Int32 → HS → Prop} {v0 : Nat} {v1 : Int32} {v2 : Int32} {v3 : Int32} {v4 : Int32} {S : HS} (h : P_X9_day v0 v1 v2 v3 v4 Q S) : P_X9_day v0 v1 v2 v3 v4 (fun r T => Q r T ∧ K2 S T) S := kf_X9_day_0 h (k2_rf S)
set_option maxRecDepth 20000 in
set_option maxHeartbeats 1000000 in
theorem kf_X9_driest_29 {Q : Int32 → HS → Prop} {v0 : Nat} {S0 S : HS} (h : P_X9_driest_29 Q v0 S) (K : K2 S0 S) : P_X9_driest_29 (fun r T => Q r T ∧ K2 S0 T) v0 S := by
  delta P_X9_driest_29 at h ⊢
  obtain ⟨c1, h⟩ := h
  refine ⟨c1, ?_⟩
  have n2 := k2_ne K c1 (by decide)
  refine cm_X9_refuse (kf_X9_refuse h) h (fun x3 x4 hp h g5 => ?_)
  have h := h g5
  have K := k2_tr K hp.2
  exact ⟨h, K⟩
set_option maxRecDepth 20000 in
set_option maxHeartbeats 1000000 in
theorem kf_X9_driest_140 {Q : Int32 → HS → Prop} {X63 X63_2 : Nat → Int32 → Int32 → Int32 → Int32 → Int64 → Int32 → HS → Prop} {v0 : Nat} {v1 : Int32} {v2 : Int32} {v3 : Int32} {v4 : Int32} {v5 : Int64} {v7 : Int32} {S0 S : HS} (h : P_X9_driest_140 Q X63 v0 v1 v2 v3 v4 v5 v7 S) (K : K2 S0 S) (hX63 : ∀ (u0 : Nat) (u1 : Int32) (u2 : Int32) (u3 : Int32) (u4 : Int32) (u5 : Int64) (u6 : Int32) (u7 : HS), X63 u0 u1 u2 u3 u4 u5 u6 u7 → K2 S0 u7 → X63_2 u0 u1 u2 u3 u4 u5 u6 u7) : P_X9_driest_140 (fun r T => Q r T ∧ K2 S0 T) X63_2 v0 v1 v2 v3 v4 v5 v7 S := by
  delta P_X9_driest_140 at h ⊢
  intro x2 e1
  have h := h x2 e1
  exact hX63 _ _ _ _ _ _ _ _ h K
set_option maxRecDepth 20000 in
set_option maxHeartbeats 1000000 in
theorem kfB_X9_driest_63 {Q : Int32 → HS → Prop} {X63 X63_2 : Nat → Int32 → Int32 → Int32 → Int32 → Int64 → Int32 → HS → Prop} {v0 : Nat} {v1 : Int32} {v2 : Int32} {v3 : Int32} {v4 : Int32} {v5 : Int64} {v7 : Int32} {S0 S : HS} (h : B_X9_driest_63 Q X63 v0 v1 v2 v3 v4 v5 v7 S) (K : K2 S0 S) (hX63 : ∀ (u0 : Nat) (u1 : Int32) (u2 : Int32) (u3 : Int32) (u4 : Int32) (u5 : Int64) (u6 : Int32) (u7 : HS), X63 u0 u1 u2 u3 u4 u5 u6 u7 → K2 S0 u7 → X63_2 u0 u1 u2 u3 u4 u5 u6 u7) : B_X9_driest_63 (fun r T => Q r T ∧ K2 S0 T) X63_2 v0 v1 v2 v3 v4 v5 v7 S := by
  delta B_X9_driest_63 at h ⊢
  obtain ⟨c1, h⟩ := h
  refine ⟨c1, ?_⟩
  have n2 := k2_ne K c1 (by decide)
  obtain ⟨b3, e4, h⟩ := h
  refine ⟨b3, e4, ?_⟩
  obtain ⟨c5, h⟩ := h
  refine ⟨c5, ?_⟩
  have n6 := k2_ne K c5 (by decide)
  intro x8 e7
  have h := h x8 e7
  refine ⟨?_, ?_⟩
  · intro c9
    have h := h.1 c9
    refine cm_X9_grant (kf_X9_grant h) h (fun x10 x11 hp h g12 => ?_)
    have h := h g12
    have K := k2_tr K hp.2
    exact ⟨h, K⟩
  · intro c13
    have h := h.2 c13
    obtain ⟨b14, e15, h⟩ := h
    refine ⟨b14, e15, ?_⟩
    obtain ⟨c16, h⟩ := h
    refine ⟨c16, ?_⟩
    have n17 := k2_ne K c16 (by decide)
    obtain ⟨b18, e19, h⟩ := h
    refine ⟨b18, e19, ?_⟩
    obtain ⟨c20, h⟩ := h
    refine ⟨c20, ?_⟩
    have n21 := k2_ne K c20 (by decide)
    obtain ⟨c22, h⟩ := h
    refine ⟨c22, ?_⟩
    obtain ⟨b23, e24, h⟩ := h
    refine ⟨b23, e24, ?_⟩
    obtain ⟨b25, e26, h⟩ := h
    refine ⟨b25, e26, ?_⟩
    obtain ⟨b27, e28, h⟩ := h
    refine ⟨b27, e28, ?_⟩
    obtain ⟨c29, h⟩ := h
    refine ⟨c29, ?_⟩
    have n30 := k2_ne K c29 (by decide)
    obtain ⟨b31, e32, h⟩ := h
    refine ⟨b31, e32, ?_⟩
    obtain ⟨c33, h⟩ := h
    refine ⟨c33, ?_⟩
    have n34 := k2_ne K c33 (by decide)
    obtain ⟨c35, h⟩ := h
    refine ⟨c35, ?_⟩
    obtain ⟨b36, e37, h⟩ := h
    refine ⟨b36, e37, ?_⟩
    obtain ⟨b38, e39, h⟩ := h
    refine ⟨b38, e39, ?_⟩
    obtain ⟨c40, h⟩ := h
    refine ⟨c40, ?_⟩
    have n41 := k2_ne K c40 (by decide)
    obtain ⟨b42, e43, h⟩ := h
    refine ⟨b42, e43, ?_⟩
    obtain ⟨c44, h⟩ := h
    refine ⟨c44, ?_⟩
    have n45 := k2_ne K c44 (by decide)
    obtain ⟨c46, h⟩ := h
    refine ⟨c46, ?_⟩
    obtain ⟨b47, e48, h⟩ := h
    refine ⟨b47, e48, ?_⟩
    obtain ⟨c49, h⟩ := h
    refine ⟨c49, ?_⟩
    have n50 := k2_ne K c49 (by decide)
    refine cm_X1_leastWet (kf_X1_leastWet h) h (fun x51 x52 hp h g53 => ?_)
    have h := h g53
    have K := k2_tr K hp.2
    obtain ⟨c54, h⟩ := h
    refine ⟨c54, ?_⟩
    have n55 := k2_ne K c54 (by decide)
    intro x57 e56
    have h := h x57 e56
    intro x59 e58
    have h := h x59 e58
    refine ⟨?_, ?_⟩
    · intro c60
      have h := h.1 c60
      exact kf_X9_driest_140 h K hX63
    · intro c61
      have h := h.2 c61
      exact kf_X9_driest_140 h K hX63
theorem kf_X9_driest_63 {Q : Int32 → HS → Prop} {v0 : Nat} {v1 : Int32} {v2 : Int32} {v3 : Int32} {v4 : Int32} {v5 : Int64} {v7 : Int32} {S0 S : HS} (h : P_X9_driest_63 Q v0 v1 v2 v3 v4 v5 v7 S) (K : K2 S0 S) : P_X9_driest_63 (fun r T => Q r T ∧ K2 S0 T) v0 v1 v2 v3 v4 v5 v7 S := h (fun v0 v1 v2 v3 v4 v5 v7 S => K2 S0 S → P_X9_driest_63 (fun r T => Q r T ∧ K2 S0 T) v0 v1 v2 v3 v4 v5 v7 S) (fun v0 v1 v2 v3 v4 v5 v7 S hB K => fd_X9_driest_63 (kfB_X9_driest_63 hB K (fun _ _ _ _ _ _ _ _ hx K => hx K))) K
set_option maxRecDepth 20000 in
set_option maxHeartbeats 1000000 in
theorem kf_X9_driest_0 {Q : Int32 → HS → Prop} {v0 : Nat} {v1 : Int32} {v2 : Int32} {v3 : Int32} {S0 S : HS} (h : P_X9_driest_0 Q v0 v1 v2 v3 S) (K : K2 S0 S) : P_X9_driest_0 (fun r T => Q r T ∧ K2 S0 T) v0 v1 v2 v3 S := by
  delta P_X9_driest_0 at h ⊢
  obtain ⟨c1, h⟩ := h
  refine ⟨c1, ?_⟩
  have n2 := k2_ne K c1 (by decide)
  obtain ⟨b3, e4, h⟩ := h
  refine ⟨b3, e4, ?_⟩
  obtain ⟨c5, h⟩ := h
  refine ⟨c5, ?_⟩
  have n6 := k2_ne K c5 (by decide)
  refine cm_X8_hasWalker (kf_X8_hasWalker h) h (fun x7 x8 hp h g9 g10 => ?_)
  have h := h g9 g10
  have K := k2_tr K hp.2
  refine ⟨?_, ?_⟩
  · intro c11
    have h := h.1 c11
    exact kf_X9_driest_29 h K
  · intro c12
    have h := h.2 c12
    obtain ⟨b13, e14, h⟩ := h
    refine ⟨b13, e14, ?_⟩
    obtain ⟨c15, h⟩ := h
    refine ⟨c15, ?_⟩
    have n16 := k2_ne K c15 (by decide)
    refine cm_X8_hasRoad (kf_X8_hasRoad h) h (fun x17 x18 hp h g19 g20 => ?_)
    have h := h g19 g20
    have K := k2_tr K hp.2
    refine ⟨?_, ?_⟩
    · intro c21
      have h := h.1 c21
      exact kf_X9_driest_29 h K
    · intro c22
      have h := h.2 c22
      refine cm_X9_isWay (kf_X9_isWay h) h (fun x23 x24 hp h g25 g26 => ?_)
      have h := h g25 g26
      have K := k2_tr K hp.2
      refine ⟨?_, ?_⟩
      · intro c27
        have h := h.1 c27
        obtain ⟨b28, e29, h⟩ := h
        refine ⟨b28, e29, ?_⟩
        obtain ⟨c30, h⟩ := h
        refine ⟨c30, ?_⟩
        have n31 := k2_ne K c30 (by decide)
        intro x33 e32
        have h := h x33 e32
        refine ⟨?_, ?_⟩
        · intro c34
          have h := h.1 c34
          exact kf_X9_driest_63 h K
        · intro c35
          have h := h.2 c35
          refine cm_X9_refuse (kf_X9_refuse h) h (fun x36 x37 hp h g38 => ?_)
          have h := h g38
          have K := k2_tr K hp.2
          exact ⟨h, K⟩
      · intro c39
        have h := h.2 c39
        exact kf_X9_driest_29 h K
theorem kf_X9_driest {Q : Int32 → HS → Prop} {v0 : Nat} {v1 : Int32} {v2 : Int32} {v3 : Int32} {S : HS} (h : P_X9_driest v0 v1 v2 v3 Q S) : P_X9_driest v0 v1 v2 v3 (fun r T => Q r T ∧ K2 S T) S := kf_X9_driest_0 h (k2_rf S)
set_option maxRecDepth 20000 in
set_option maxHeartbeats 1000000 in
theorem kf_X9_even_0 {Q : Int32 → HS → Prop} {v0 : Nat} {v1 : Int32} {v2 : Int32} {v3 : Int32} {v4 : Int32} {S0 S : HS} (h : P_X9_even_0 Q v0 v1 v2 v3 v4 S) (K : K2 S0 S) : P_X9_even_0 (fun r T => Q r T ∧ K2 S0 T) v0 v1 v2 v3 v4 S := by
  delta P_X9_even_0 at h ⊢
  obtain ⟨c1, h⟩ := h
  refine ⟨c1, ?_⟩
  have n2 := k2_ne K c1 (by decide)
  refine cm_X9_tripTrouble (kf_X9_tripTrouble h) h (fun x3 x4 hp h g5 => ?_)
  have h := h g5
  have K := k2_tr K hp.2
  refine cm_X9_refusedBy (kf_X9_refusedBy h) h (fun x6 x7 hp h g8 g9 => ?_)
  have h := h g8 g9
  have K := k2_tr K hp.2
  refine ⟨?_, ?_⟩
  · intro c10
    have h := h.1 c10
    obtain ⟨b11, e12, h⟩ := h
    refine ⟨b11, e12, ?_⟩
    obtain ⟨c13, h⟩ := h
    refine ⟨c13, ?_⟩
    have n14 := k2_ne K c13 (by decide)
    obtain ⟨b15, e16, h⟩ := h
    refine ⟨b15, e16, ?_⟩
    obtain ⟨c17, h⟩ := h
    refine ⟨c17, ?_⟩
    have n18 := k2_ne K c17 (by decide)
    obtain ⟨c19, h⟩ := h
    refine ⟨c19, ?_⟩
    obtain ⟨b20, e21, h⟩ := h
    refine ⟨b20, e21, ?_⟩
    obtain ⟨b22, e23, h⟩ := h
    refine ⟨b22, e23, ?_⟩
    obtain ⟨b24, e25, h⟩ := h
    refine ⟨b24, e25, ?_⟩
    obtain ⟨c26, h⟩ := h
    refine ⟨c26, ?_⟩
    have n27 := k2_ne K c26 (by decide)
    obtain ⟨b28, e29, h⟩ := h
    refine ⟨b28, e29, ?_⟩
    obtain ⟨c30, h⟩ := h
    refine ⟨c30, ?_⟩
    have n31 := k2_ne K c30 (by decide)
    obtain ⟨c32, h⟩ := h
    refine ⟨c32, ?_⟩
    obtain ⟨b33, e34, h⟩ := h
    refine ⟨b33, e34, ?_⟩
    obtain ⟨b35, e36, h⟩ := h
    refine ⟨b35, e36, ?_⟩
    obtain ⟨c37, h⟩ := h
    refine ⟨c37, ?_⟩
    have n38 := k2_ne K c37 (by decide)
    obtain ⟨b39, e40, h⟩ := h
    refine ⟨b39, e40, ?_⟩
    obtain ⟨c41, h⟩ := h
    refine ⟨c41, ?_⟩
    have n42 := k2_ne K c41 (by decide)
    obtain ⟨c43, h⟩ := h
    refine ⟨c43, ?_⟩
    obtain ⟨b44, e45, h⟩ := h
    refine ⟨b44, e45, ?_⟩
    obtain ⟨c46, h⟩ := h
    refine ⟨c46, ?_⟩
    have n47 := k2_ne K c46 (by decide)
    refine cm_X1_worstSpeed (kf_X1_worstSpeed h) h (fun x48 x49 hp h g50 => ?_)
    have h := h g50
    have K := k2_tr K hp.2
    obtain ⟨b51, e52, h⟩ := h
    refine ⟨b51, e52, ?_⟩
    obtain ⟨b53, e54, h⟩ := h
    refine ⟨b53, e54, ?_⟩
    obtain ⟨c55, h⟩ := h
    refine ⟨c55, ?_⟩
    have n56 := k2_ne K c55 (by decide)
    obtain ⟨b57, e58, h⟩ := h
    refine ⟨b57, e58, ?_⟩
    obtain ⟨c59, h⟩ := h
    refine ⟨c59, ?_⟩
    have n60 := k2_ne K c59 (by decide)
    obtain ⟨c61, h⟩ := h
    refine ⟨c61, ?_⟩
    obtain ⟨b62, e63, h⟩ := h
    refine ⟨b62, e63, ?_⟩
    obtain ⟨b64, e65, h⟩ := h
    refine ⟨b64, e65, ?_⟩
    obtain ⟨c66, h⟩ := h
    refine ⟨c66, ?_⟩
    have n67 := k2_ne K c66 (by decide)
    obtain ⟨b68, e69, h⟩ := h
    refine ⟨b68, e69, ?_⟩
    obtain ⟨c70, h⟩ := h
    refine ⟨c70, ?_⟩
    have n71 := k2_ne K c70 (by decide)
    obtain ⟨c72, h⟩ := h
    refine ⟨c72, ?_⟩
    obtain ⟨b73, e74, h⟩ := h
    refine ⟨b73, e74, ?_⟩
    obtain ⟨c75, h⟩ := h
    refine ⟨c75, ?_⟩
    have n76 := k2_ne K c75 (by decide)
    refine cm_X1_leastWet (kf_X1_leastWet h) h (fun x77 x78 hp h g79 => ?_)
    have h := h g79
    have K := k2_tr K hp.2
    obtain ⟨b80, e81, h⟩ := h
    refine ⟨b80, e81, ?_⟩
    obtain ⟨b82, e83, h⟩ := h
    refine ⟨b82, e83, ?_⟩
    obtain ⟨c84, h⟩ := h
    refine ⟨c84, ?_⟩
    have n85 := k2_ne K c84 (by decide)
    obtain ⟨b86, e87, h⟩ := h
    refine ⟨b86, e87, ?_⟩
    obtain ⟨c88, h⟩ := h
    refine ⟨c88, ?_⟩
    have n89 := k2_ne K c88 (by decide)
    obtain ⟨c90, h⟩ := h
    refine ⟨c90, ?_⟩
    obtain ⟨b91, e92, h⟩ := h
    refine ⟨b91, e92, ?_⟩
    obtain ⟨b93, e94, h⟩ := h
    refine ⟨b93, e94, ?_⟩
    obtain ⟨c95, h⟩ := h
    refine ⟨c95, ?_⟩
    have n96 := k2_ne K c95 (by decide)
    obtain ⟨b97, e98, h⟩ := h
    refine ⟨b97, e98, ?_⟩
    obtain ⟨c99, h⟩ := h
    refine ⟨c99, ?_⟩
    have n100 := k2_ne K c99 (by decide)
    obtain ⟨c101, h⟩ := h
    refine ⟨c101, ?_⟩
    obtain ⟨b102, e103, h⟩ := h
    refine ⟨b102, e103, ?_⟩
    obtain ⟨c104, h⟩ := h
    refine ⟨c104, ?_⟩
    have n105 := k2_ne K c104 (by decide)
    refine cm_X1_wetOf (kf_X1_wetOf h) h (fun x106 x107 hp h g108 => ?_)
    have h := h g108
    have K := k2_tr K hp.2
    refine ⟨?_, ?_⟩
    · intro c109
      have h := h.1 c109
      exact ⟨h, K⟩
    · intro c110
      have h := h.2 c110
      exact ⟨h, K⟩
  · intro c111
    have h := h.2 c111
    exact ⟨h, K⟩
theorem kf_X9_even {Q : Int32 → HS → Prop} {v0 : Nat} {v1 : Int32} {v2 : Int32} {v3 : Int32} {v4 : Int32} {S : HS} (h : P_X9_even v0 v1 v2 v3 v4 Q S) : P_X9_even v0 v1 v2 v3 v4 (fun r T => Q r T ∧ K2 S T) S := kf_X9_even_0 h (k2_rf S)
set_option maxRecDepth 20000 in
set_option maxHeartbeats 1000000 in
theorem kf_X9_fraction_0 {Q : Int64 → HS → Prop} {v0 : Int64} {v2 : Int64} {v4 : Int32} {S0 S : HS} (h : P_X9_fraction_0 Q v0 v2 v4 S) (K : K2 S0 S) : P_X9_fraction_0 (fun r T => Q r T ∧ K2 S0 T) v0 v2 v4 S := by
  delta P_X9_fraction_0 at h ⊢
  refine cm_X9_commonDivisor (kf_X9_commonDivisor h) h (fun x1 x2 hp h g3 => ?_)
  have h := h g3
  have K := k2_tr K hp.2
  refine ⟨?_, ?_⟩
  · intro c4
    have h := h.1 c4
    refine ⟨?_, ?_⟩
    · intro c5
      have h := h.1 c5
      obtain ⟨c6, h⟩ := h
      refine ⟨c6, ?_⟩
      intro x8 e7
      have h := h x8 e7
      exact ⟨h, K⟩
    · intro c9
      have h := h.2 c9
      obtain ⟨c10, h⟩ := h
      refine ⟨c10, ?_⟩
      intro x12 e11
      have h := h x12 e11
      exact ⟨h, K⟩
  · intro c13
    have h := h.2 c13
    refine ⟨?_, ?_⟩
    · intro c14
      have h := h.1 c14
      exact ⟨h, K⟩
    · intro c15
      have h := h.2 c15
      exact ⟨h, K⟩
theorem kf_X9_fraction {Q : Int64 → HS → Prop} {v0 : Int64} {v2 : Int64} {v4 : Int32} {S : HS} (h : P_X9_fraction v0 v2 v4 Q S) : P_X9_fraction v0 v2 v4 (fun r T => Q r T ∧ K2 S T) S := kf_X9_fraction_0 h (k2_rf S)
set_option maxRecDepth 20000 in
set_option maxHeartbeats 1000000 in
theorem kf_X9_isFace_0 {Q : Int32 → HS → Prop} {v0 : Int32} {S0 S : HS} (h : P_X9_isFace_0 Q v0 S) (K : K2 S0 S) : P_X9_isFace_0 (fun r T => Q r T ∧ K2 S0 T) v0 S := by
  delta P_X9_isFace_0 at h ⊢
  refine ⟨?_, ?_⟩
  · intro c1
    have h := h.1 c1
    exact ⟨h, K⟩
  · intro c2
    have h := h.2 c2
    refine ⟨?_, ?_⟩
    · intro c3
      have h := h.1 c3
      exact ⟨h, K⟩
    · intro c4
      have h := h.2 c4
      exact ⟨h, K⟩
theorem kf_X9_isFace {Q : Int32 → HS → Prop} {v0 : Int32} {S : HS} (h : P_X9_isFace v0 Q S) : P_X9_isFace v0 (fun r T => Q r T ∧ K2 S T) S := kf_X9_isFace_0 h (k2_rf S)
set_option maxRecDepth 20000 in
set_option maxHeartbeats 1000000 in
theorem kf_X9_legTrouble_0 {Q : Int32 → HS → Prop} {v0 : Nat} {v1 : Int32} {v2 : Int32} {v3 : Int32} {v4 : Int32} {v5 : Int32} {S0 S : HS} (h : P_X9_legTrouble_0 Q v0 v1 v2 v3 v4 v5 S) (K : K2 S0 S) : P_X9_legTrouble_0 (fun r T => Q r T ∧ K2 S0 T) v0 v1 v2 v3 v4 v5 S := by
  delta P_X9_legTrouble_0 at h ⊢
  obtain ⟨c1, h⟩ := h
  refine ⟨c1, ?_⟩
  have n2 := k2_ne K c1 (by decide)
  refine cm_X9_tripTrouble (kf_X9_tripTrouble h) h (fun x3 x4 hp h g5 => ?_)
  have h := h g5
  have K := k2_tr K hp.2
  refine ⟨?_, ?_⟩
  · intro c6
    have h := h.1 c6
    obtain ⟨b7, e8, h⟩ := h
    refine ⟨b7, e8, ?_⟩
    obtain ⟨c9, h⟩ := h
    refine ⟨c9, ?_⟩
    have n10 := k2_ne K c9 (by decide)
    obtain ⟨b11, e12, h⟩ := h
    refine ⟨b11, e12, ?_⟩
    obtain ⟨c13, h⟩ := h
    refine ⟨c13, ?_⟩
    have n14 := k2_ne K c13 (by decide)
    obtain ⟨c15, h⟩ := h
    refine ⟨c15, ?_⟩
    obtain ⟨b16, e17, h⟩ := h
    refine ⟨b16, e17, ?_⟩
    obtain ⟨c18, h⟩ := h
    refine ⟨c18, ?_⟩
    have n19 := k2_ne K c18 (by decide)
    refine cm_X6_canGo (kf_X6_canGo h) h (fun x20 x21 hp h g22 g23 => ?_)
    have h := h g22 g23
    have K := k2_tr K hp.2
    refine ⟨?_, ?_⟩
    · intro c24
      have h := h.1 c24
      exact ⟨h, K⟩
    · intro c25
      have h := h.2 c25
      exact ⟨h, K⟩
  · intro c26
    have h := h.2 c26
    exact ⟨h, K⟩
theorem kf_X9_legTrouble {Q : Int32 → HS → Prop} {v0 : Nat} {v1 : Int32} {v2 : Int32} {v3 : Int32} {v4 : Int32} {v5 : Int32} {S : HS} (h : P_X9_legTrouble v0 v1 v2 v3 v4 v5 Q S) : P_X9_legTrouble v0 v1 v2 v3 v4 v5 (fun r T => Q r T ∧ K2 S T) S := kf_X9_legTrouble_0 h (k2_rf S)
set_option maxRecDepth 20000 in
set_option maxHeartbeats 1000000 in
theorem kf_X9_face_23 {Q : Int64 → HS → Prop} {v0 : Nat} {v1 : Int32} {v2 : Int32} {v3 : Int32} {v4 : Int32} {v5 : Int32} {v6 : Int32} {v7 : Int32} {s0 : Int32} {S0 S : HS} (h : P_X9_face_23 Q v0 v1 v2 v3 v4 v5 v6 v7 s0 S) (K : K2 S0 S) : P_X9_face_23 (fun r T => Q r T ∧ K2 S0 T) v0 v1 v2 v3 v4 v5 v6 v7 s0 S := by
  delta P_X9_face_23 at h ⊢
  obtain ⟨c1, h⟩ := h
  refine ⟨c1, ?_⟩
  have n2 := k2_ne K c1 (by decide)
  refine cm_X9_refusedBy (kf_X9_refusedBy h) h (fun x3 x4 hp h g5 g6 => ?_)
  have h := h g5 g6
  have K := k2_tr K hp.2
  refine ⟨?_, ?_⟩
  · intro c7
    have h := h.1 c7
    obtain ⟨b8, e9, h⟩ := h
    refine ⟨b8, e9, ?_⟩
    obtain ⟨b10, e11, h⟩ := h
    refine ⟨b10, e11, ?_⟩
    obtain ⟨c12, h⟩ := h
    refine ⟨c12, ?_⟩
    have n13 := k2_ne K c12 (by decide)
    obtain ⟨b14, e15, h⟩ := h
    refine ⟨b14, e15, ?_⟩
    obtain ⟨c16, h⟩ := h
    refine ⟨c16, ?_⟩
    have n17 := k2_ne K c16 (by decide)
    obtain ⟨c18, h⟩ := h
    refine ⟨c18, ?_⟩
    obtain ⟨b19, e20, h⟩ := h
    refine ⟨b19, e20, ?_⟩
    obtain ⟨b21, e22, h⟩ := h
    refine ⟨b21, e22, ?_⟩
    obtain ⟨c23, h⟩ := h
    refine ⟨c23, ?_⟩
    have n24 := k2_ne K c23 (by decide)
    obtain ⟨b25, e26, h⟩ := h
    refine ⟨b25, e26, ?_⟩
    obtain ⟨c27, h⟩ := h
    refine ⟨c27, ?_⟩
    have n28 := k2_ne K c27 (by decide)
    obtain ⟨c29, h⟩ := h
    refine ⟨c29, ?_⟩
    obtain ⟨b30, e31, h⟩ := h
    refine ⟨b30, e31, ?_⟩
    obtain ⟨b32, e33, h⟩ := h
    refine ⟨b32, e33, ?_⟩
    obtain ⟨c34, h⟩ := h
    refine ⟨c34, ?_⟩
    have n35 := k2_ne K c34 (by decide)
    obtain ⟨b36, e37, h⟩ := h
    refine ⟨b36, e37, ?_⟩
    obtain ⟨c38, h⟩ := h
    refine ⟨c38, ?_⟩
    have n39 := k2_ne K c38 (by decide)
    obtain ⟨c40, h⟩ := h
    refine ⟨c40, ?_⟩
    obtain ⟨b41, e42, h⟩ := h
    refine ⟨b41, e42, ?_⟩
    obtain ⟨c43, h⟩ := h
    refine ⟨c43, ?_⟩
    have n44 := k2_ne K c43 (by decide)
    refine cm_X1_wetOf (kf_X1_wetOf h) h (fun x45 x46 hp h g47 => ?_)
    have h := h g47
    have K := k2_tr K hp.2
    obtain ⟨b48, e49, h⟩ := h
    refine ⟨b48, e49, ?_⟩
    obtain ⟨c50, h⟩ := h
    refine ⟨c50, ?_⟩
    have n51 := k2_ne K c50 (by decide)
    obtain ⟨b52, e53, h⟩ := h
    refine ⟨b52, e53, ?_⟩
    obtain ⟨c54, h⟩ := h
    refine ⟨c54, ?_⟩
    have n55 := k2_ne K c54 (by decide)
    obtain ⟨c56, h⟩ := h
    refine ⟨c56, ?_⟩
    intro x58 e57
    have h := h x58 e57
    refine cm_X9_fraction (kf_X9_fraction h) h (fun x59 x60 hp h g61 => ?_)
    have h := h g61
    have K := k2_tr K hp.2
    exact ⟨h, K⟩
  · intro c62
    have h := h.2 c62
    exact ⟨h, K⟩
set_option maxRecDepth 20000 in
set_option maxHeartbeats 1000000 in
theorem kf_X9_face_0 {Q : Int64 → HS → Prop} {v0 : Nat} {v1 : Int32} {v2 : Int32} {v3 : Int32} {v4 : Int32} {v5 : Int32} {v6 : Int32} {v7 : Int32} {S0 S : HS} (h : P_X9_face_0 Q v0 v1 v2 v3 v4 v5 v6 v7 S) (K : K2 S0 S) : P_X9_face_0 (fun r T => Q r T ∧ K2 S0 T) v0 v1 v2 v3 v4 v5 v6 v7 S := by
  delta P_X9_face_0 at h ⊢
  refine cm_X9_isFace (kf_X9_isFace h) h (fun x1 x2 hp h g3 g4 => ?_)
  have h := h g3 g4
  have K := k2_tr K hp.2
  refine ⟨?_, ?_⟩
  · intro c5
    have h := h.1 c5
    exact kf_X9_face_23 h K
  · intro c6
    have h := h.2 c6
    obtain ⟨c7, h⟩ := h
    refine ⟨c7, ?_⟩
    have n8 := k2_ne K c7 (by decide)
    refine cm_X9_legTrouble (kf_X9_legTrouble h) h (fun x9 x10 hp h g11 => ?_)
    have h := h g11
    have K := k2_tr K hp.2
    exact kf_X9_face_23 h K
theorem kf_X9_face {Q : Int64 → HS → Prop} {v0 : Nat} {v1 : Int32} {v2 : Int32} {v3 : Int32} {v4 : Int32} {v5 : Int32} {v6 : Int32} {v7 : Int32} {S : HS} (h : P_X9_face v0 v1 v2 v3 v4 v5 v6 v7 Q S) : P_X9_face v0 v1 v2 v3 v4 v5 v6 v7 (fun r T => Q r T ∧ K2 S T) S := kf_X9_face_0 h (k2_rf S)
set_option maxRecDepth 20000 in
set_option maxHeartbeats 1000000 in
theorem kf_X9_fault_0 {Q : Int32 → HS → Prop} {v0 : Nat} {S0 S : HS} (h : P_X9_fault_0 Q v0 S) (K : K2 S0 S) : P_X9_fault_0 (fun r T => Q r T ∧ K2 S0 T) v0 S := by
  delta P_X9_fault_0 at h ⊢
  obtain ⟨c1, h⟩ := h
  refine ⟨c1, ?_⟩
  have n2 := k2_ne K c1 (by decide)
  intro x4 e3
  have h := h x4 e3
  exact ⟨h, K⟩
theorem kf_X9_fault {Q : Int32 → HS → Prop} {v0 : Nat} {S : HS} (h : P_X9_fault v0 Q S) : P_X9_fault v0 (fun r T => Q r T ∧ K2 S T) S := kf_X9_fault_0 h (k2_rf S)
set_option maxRecDepth 20000 in
set_option maxHeartbeats 1000000 in
theorem kf_X9_leeTrouble_0 {Q : Int32 → HS → Prop} {v0 : Nat} {v1 : Int32} {v2 : Int32} {v3 : Int32} {v4 : Int32} {v5 : Int32} {v6 : Int32} {S0 S : HS} (h : P_X9_leeTrouble_0 Q v0 v1 v2 v3 v4 v5 v6 S) (K : K2 S0 S) : P_X9_leeTrouble_0 (fun r T => Q r T ∧ K2 S0 T) v0 v1 v2 v3 v4 v5 v6 S := by
  delta P_X9_leeTrouble_0 at h ⊢
  refine ⟨?_, ?_⟩
  · intro c1
    have h := h.1 c1
    exact ⟨h, K⟩
  · intro c2
    have h := h.2 c2
    obtain ⟨c3, h⟩ := h
    refine ⟨c3, ?_⟩
    have n4 := k2_ne K c3 (by decide)
    obtain ⟨b5, e6, h⟩ := h
    refine ⟨b5, e6, ?_⟩
    obtain ⟨c7, h⟩ := h
    refine ⟨c7, ?_⟩
    have n8 := k2_ne K c7 (by decide)
    refine cm_X8_hasWalker (kf_X8_hasWalker h) h (fun x9 x10 hp h g11 g12 => ?_)
    have h := h g11 g12
    have K := k2_tr K hp.2
    refine ⟨?_, ?_⟩
    · intro c13
      have h := h.1 c13
      exact ⟨h, K⟩
    · intro c14
      have h := h.2 c14
      obtain ⟨b15, e16, h⟩ := h
      refine ⟨b15, e16, ?_⟩
      obtain ⟨c17, h⟩ := h
      refine ⟨c17, ?_⟩
      have n18 := k2_ne K c17 (by decide)
      refine cm_X8_hasWalker (kf_X8_hasWalker h) h (fun x19 x20 hp h g21 g22 => ?_)
      have h := h g21 g22
      have K := k2_tr K hp.2
      refine ⟨?_, ?_⟩
      · intro c23
        have h := h.1 c23
        refine cm_X9_legTrouble (kf_X9_legTrouble h) h (fun x24 x25 hp h g26 => ?_)
        have h := h g26
        have K := k2_tr K hp.2
        refine ⟨?_, ?_⟩
        · intro c27
          have h := h.1 c27
          obtain ⟨b28, e29, h⟩ := h
          refine ⟨b28, e29, ?_⟩
          obtain ⟨c30, h⟩ := h
          refine ⟨c30, ?_⟩
          have n31 := k2_ne K c30 (by decide)
          obtain ⟨b32, e33, h⟩ := h
          refine ⟨b32, e33, ?_⟩
          obtain ⟨c34, h⟩ := h
          refine ⟨c34, ?_⟩
          have n35 := k2_ne K c34 (by decide)
          obtain ⟨c36, h⟩ := h
          refine ⟨c36, ?_⟩
          obtain ⟨b37, e38, h⟩ := h
          refine ⟨b37, e38, ?_⟩
          obtain ⟨c39, h⟩ := h
          refine ⟨c39, ?_⟩
          have n40 := k2_ne K c39 (by decide)
          refine cm_X6_canGo (kf_X6_canGo h) h (fun x41 x42 hp h g43 g44 => ?_)
          have h := h g43 g44
          have K := k2_tr K hp.2
          refine ⟨?_, ?_⟩
          · intro c45
            have h := h.1 c45
            exact ⟨h, K⟩
          · intro c46
            have h := h.2 c46
            exact ⟨h, K⟩
        · intro c47
          have h := h.2 c47
          exact ⟨h, K⟩
      · intro c48
        have h := h.2 c48
        exact ⟨h, K⟩
theorem kf_X9_leeTrouble {Q : Int32 → HS → Prop} {v0 : Nat} {v1 : Int32} {v2 : Int32} {v3 : Int32} {v4 : Int32} {v5 : Int32} {v6 : Int32} {S : HS} (h : P_X9_leeTrouble v0 v1 v2 v3 v4 v5 v6 Q S) : P_X9_leeTrouble v0 v1 v2 v3 v4 v5 v6 (fun r T => Q r T ∧ K2 S T) S := kf_X9_leeTrouble_0 h (k2_rf S)
set_option maxRecDepth 20000 in
set_option maxHeartbeats 1000000 in
theorem kf_X9_first_0 {Q : Int32 → HS → Prop} {v0 : Nat} {v1 : Int32} {v2 : Int32} {v3 : Int32} {v4 : Int32} {v5 : Int32} {v6 : Int32} {S0 S : HS} (h : P_X9_first_0 Q v0 v1 v2 v3 v4 v5 v6 S) (K : K2 S0 S) : P_X9_first_0 (fun r T => Q r T ∧ K2 S0 T) v0 v1 v2 v3 v4 v5 v6 S := by
  delta P_X9_first_0 at h ⊢
  obtain ⟨c1, h⟩ := h
  refine ⟨c1, ?_⟩
  have n2 := k2_ne K c1 (by decide)
  refine cm_X9_leeTrouble (kf_X9_leeTrouble h) h (fun x3 x4 hp h g5 => ?_)
  have h := h g5
  have K := k2_tr K hp.2
  refine cm_X9_refusedBy (kf_X9_refusedBy h) h (fun x6 x7 hp h g8 g9 => ?_)
  have h := h g8 g9
  have K := k2_tr K hp.2
  refine ⟨?_, ?_⟩
  · intro c10
    have h := h.1 c10
    obtain ⟨b11, e12, h⟩ := h
    refine ⟨b11, e12, ?_⟩
    obtain ⟨b13, e14, h⟩ := h
    refine ⟨b13, e14, ?_⟩
    obtain ⟨c15, h⟩ := h
    refine ⟨c15, ?_⟩
    have n16 := k2_ne K c15 (by decide)
    obtain ⟨b17, e18, h⟩ := h
    refine ⟨b17, e18, ?_⟩
    obtain ⟨c19, h⟩ := h
    refine ⟨c19, ?_⟩
    have n20 := k2_ne K c19 (by decide)
    obtain ⟨c21, h⟩ := h
    refine ⟨c21, ?_⟩
    obtain ⟨b22, e23, h⟩ := h
    refine ⟨b22, e23, ?_⟩
    obtain ⟨b24, e25, h⟩ := h
    refine ⟨b24, e25, ?_⟩
    obtain ⟨c26, h⟩ := h
    refine ⟨c26, ?_⟩
    have n27 := k2_ne K c26 (by decide)
    obtain ⟨b28, e29, h⟩ := h
    refine ⟨b28, e29, ?_⟩
    obtain ⟨c30, h⟩ := h
    refine ⟨c30, ?_⟩
    have n31 := k2_ne K c30 (by decide)
    obtain ⟨c32, h⟩ := h
    refine ⟨c32, ?_⟩
    obtain ⟨b33, e34, h⟩ := h
    refine ⟨b33, e34, ?_⟩
    obtain ⟨c35, h⟩ := h
    refine ⟨c35, ?_⟩
    have n36 := k2_ne K c35 (by decide)
    refine cm_X1_lay (kf_X1_lay h) h (fun x37 hp h g38 => ?_)
    have h := h g38
    have K := k2_tr K hp.2
    obtain ⟨b39, e40, h⟩ := h
    refine ⟨b39, e40, ?_⟩
    obtain ⟨b41, e42, h⟩ := h
    refine ⟨b41, e42, ?_⟩
    obtain ⟨c43, h⟩ := h
    refine ⟨c43, ?_⟩
    have n44 := k2_ne K c43 (by decide)
    obtain ⟨b45, e46, h⟩ := h
    refine ⟨b45, e46, ?_⟩
    obtain ⟨c47, h⟩ := h
    refine ⟨c47, ?_⟩
    have n48 := k2_ne K c47 (by decide)
    obtain ⟨c49, h⟩ := h
    refine ⟨c49, ?_⟩
    obtain ⟨b50, e51, h⟩ := h
    refine ⟨b50, e51, ?_⟩
    obtain ⟨b52, e53, h⟩ := h
    refine ⟨b52, e53, ?_⟩
    obtain ⟨c54, h⟩ := h
    refine ⟨c54, ?_⟩
    have n55 := k2_ne K c54 (by decide)
    obtain ⟨b56, e57, h⟩ := h
    refine ⟨b56, e57, ?_⟩
    obtain ⟨c58, h⟩ := h
    refine ⟨c58, ?_⟩
    have n59 := k2_ne K c58 (by decide)
    obtain ⟨c60, h⟩ := h
    refine ⟨c60, ?_⟩
    obtain ⟨b61, e62, h⟩ := h
    refine ⟨b61, e62, ?_⟩
    obtain ⟨c63, h⟩ := h
    refine ⟨c63, ?_⟩
    have n64 := k2_ne K c63 (by decide)
    refine cm_X1_wetInLee (kf_X1_wetInLee h) h (fun x65 x66 hp h g67 => ?_)
    have h := h g67
    have K := k2_tr K hp.2
    obtain ⟨b68, e69, h⟩ := h
    refine ⟨b68, e69, ?_⟩
    obtain ⟨b70, e71, h⟩ := h
    refine ⟨b70, e71, ?_⟩
    obtain ⟨c72, h⟩ := h
    refine ⟨c72, ?_⟩
    have n73 := k2_ne K c72 (by decide)
    obtain ⟨b74, e75, h⟩ := h
    refine ⟨b74, e75, ?_⟩
    obtain ⟨c76, h⟩ := h
    refine ⟨c76, ?_⟩
    have n77 := k2_ne K c76 (by decide)
    obtain ⟨c78, h⟩ := h
    refine ⟨c78, ?_⟩
    obtain ⟨b79, e80, h⟩ := h
    refine ⟨b79, e80, ?_⟩
    obtain ⟨b81, e82, h⟩ := h
    refine ⟨b81, e82, ?_⟩
    obtain ⟨c83, h⟩ := h
    refine ⟨c83, ?_⟩
    have n84 := k2_ne K c83 (by decide)
    obtain ⟨b85, e86, h⟩ := h
    refine ⟨b85, e86, ?_⟩
    obtain ⟨c87, h⟩ := h
    refine ⟨c87, ?_⟩
    have n88 := k2_ne K c87 (by decide)
    obtain ⟨c89, h⟩ := h
    refine ⟨c89, ?_⟩
    obtain ⟨b90, e91, h⟩ := h
    refine ⟨b90, e91, ?_⟩
    obtain ⟨c92, h⟩ := h
    refine ⟨c92, ?_⟩
    have n93 := k2_ne K c92 (by decide)
    refine cm_X1_wetInLee (kf_X1_wetInLee h) h (fun x94 x95 hp h g96 => ?_)
    have h := h g96
    have K := k2_tr K hp.2
    refine ⟨?_, ?_⟩
    · intro c97
      have h := h.1 c97
      refine ⟨?_, ?_⟩
      · intro c98
        have h := h.1 c98
        exact ⟨h, K⟩
      · intro c99
        have h := h.2 c99
        exact ⟨h, K⟩
    · intro c100
      have h := h.2 c100
      exact ⟨h, K⟩
  · intro c101
    have h := h.2 c101
    exact ⟨h, K⟩
theorem kf_X9_first {Q : Int32 → HS → Prop} {v0 : Nat} {v1 : Int32} {v2 : Int32} {v3 : Int32} {v4 : Int32} {v5 : Int32} {v6 : Int32} {S : HS} (h : P_X9_first v0 v1 v2 v3 v4 v5 v6 Q S) : P_X9_first v0 v1 v2 v3 v4 v5 v6 (fun r T => Q r T ∧ K2 S T) S := kf_X9_first_0 h (k2_rf S)
