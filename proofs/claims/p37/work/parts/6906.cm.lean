set_option maxRecDepth 20000 in
set_option maxHeartbeats 1000000 in
theorem cm_X9_soaked_27 {Q1 Q2 Q3 : Int32 → HS → Prop} {v0 : Nat} {S : HS} (h1 : P_X9_soaked_27 Q1 v0 S) (h2 : P_X9_soaked_27 Q2 v0 S) (hq : ∀ (r : Int32) (T : HS), Q1 r T → Q2 r T → Q3 r T) : P_X9_soaked_27 Q3 v0 S := by
  delta P_X9_soaked_27 at h1 h2 ⊢
  obtain ⟨c1, h1⟩ := h1
  obtain ⟨_, h2⟩ := h2
  refine ⟨c1, ?_⟩
  refine cm_X9_refuse h1 h2 (fun x2 x3 h1 h2 g4 => ?_)
  have h1 := h1 g4
  have h2 := h2 g4
  exact hq _ _ h1 h2
set_option maxRecDepth 20000 in
set_option maxHeartbeats 1000000 in
theorem cm_X9_soaked_88 {Q1 Q2 Q3 : Int32 → HS → Prop} {s0 : Nat} {s1 : Int32} {S : HS} (h1 : P_X9_soaked_88 Q1 s0 s1 S) (h2 : P_X9_soaked_88 Q2 s0 s1 S) (hq : ∀ (r : Int32) (T : HS), Q1 r T → Q2 r T → Q3 r T) : P_X9_soaked_88 Q3 s0 s1 S := by
  delta P_X9_soaked_88 at h1 h2 ⊢
  obtain ⟨c1, h1⟩ := h1
  obtain ⟨_, h2⟩ := h2
  refine ⟨c1, ?_⟩
  refine cm_X9_grant h1 h2 (fun x2 x3 h1 h2 g4 => ?_)
  have h1 := h1 g4
  have h2 := h2 g4
  exact hq _ _ h1 h2
set_option maxRecDepth 20000 in
set_option maxHeartbeats 1000000 in
theorem cm_X9_soaked_0 {Q1 Q2 Q3 : Int32 → HS → Prop} {v0 : Nat} {S : HS} (h1 : P_X9_soaked_0 Q1 v0 S) (h2 : P_X9_soaked_0 Q2 v0 S) (hq : ∀ (r : Int32) (T : HS), Q1 r T → Q2 r T → Q3 r T) : P_X9_soaked_0 Q3 v0 S := by
  delta P_X9_soaked_0 at h1 h2 ⊢
  obtain ⟨c1, h1⟩ := h1
  obtain ⟨_, h2⟩ := h2
  refine ⟨c1, ?_⟩
  obtain ⟨b2, e3, h1⟩ := h1
  obtain ⟨b4, e5, h2⟩ := h2
  cases e3.symm.trans e5
  refine ⟨b2, e3, ?_⟩
  obtain ⟨c6, h1⟩ := h1
  obtain ⟨_, h2⟩ := h2
  refine ⟨c6, ?_⟩
  refine cm_X0_isOn h1 h2 (fun x7 x8 h1 h2 g9 g10 => ?_)
  have h1 := h1 g9 g10
  have h2 := h2 g9 g10
  refine ⟨?_, ?_⟩
  · intro c11
    have h1 := h1.1 c11
    have h2 := h2.1 c11
    exact cm_X9_soaked_27 h1 h2 hq
  · intro c12
    have h1 := h1.2 c12
    have h2 := h2.2 c12
    obtain ⟨b13, e14, h1⟩ := h1
    obtain ⟨b15, e16, h2⟩ := h2
    cases e14.symm.trans e16
    refine ⟨b13, e14, ?_⟩
    obtain ⟨b17, e18, h1⟩ := h1
    obtain ⟨b19, e20, h2⟩ := h2
    cases e18.symm.trans e20
    refine ⟨b17, e18, ?_⟩
    obtain ⟨c21, h1⟩ := h1
    obtain ⟨_, h2⟩ := h2
    refine ⟨c21, ?_⟩
    intro x23 e22
    have h1 := h1 x23 e22
    have h2 := h2 x23 e22
    obtain ⟨c24, h1⟩ := h1
    obtain ⟨_, h2⟩ := h2
    refine ⟨c24, ?_⟩
    refine cm_X8_hasWalker h1 h2 (fun x25 x26 h1 h2 g27 g28 => ?_)
    have h1 := h1 g27 g28
    have h2 := h2 g27 g28
    refine ⟨?_, ?_⟩
    · intro c29
      have h1 := h1.1 c29
      have h2 := h2.1 c29
      obtain ⟨b30, e31, h1⟩ := h1
      obtain ⟨b32, e33, h2⟩ := h2
      cases e31.symm.trans e33
      refine ⟨b30, e31, ?_⟩
      obtain ⟨c34, h1⟩ := h1
      obtain ⟨_, h2⟩ := h2
      refine ⟨c34, ?_⟩
      obtain ⟨b35, e36, h1⟩ := h1
      obtain ⟨b37, e38, h2⟩ := h2
      cases e36.symm.trans e38
      refine ⟨b35, e36, ?_⟩
      obtain ⟨b39, e40, h1⟩ := h1
      obtain ⟨b41, e42, h2⟩ := h2
      cases e40.symm.trans e42
      refine ⟨b39, e40, ?_⟩
      obtain ⟨c43, h1⟩ := h1
      obtain ⟨_, h2⟩ := h2
      refine ⟨c43, ?_⟩
      intro x45 e44
      have h1 := h1 x45 e44
      have h2 := h2 x45 e44
      obtain ⟨c46, h1⟩ := h1
      obtain ⟨_, h2⟩ := h2
      refine ⟨c46, ?_⟩
      obtain ⟨c47, h1⟩ := h1
      obtain ⟨_, h2⟩ := h2
      refine ⟨c47, ?_⟩
      obtain ⟨b48, e49, h1⟩ := h1
      obtain ⟨b50, e51, h2⟩ := h2
      cases e49.symm.trans e51
      refine ⟨b48, e49, ?_⟩
      obtain ⟨c52, h1⟩ := h1
      obtain ⟨_, h2⟩ := h2
      refine ⟨c52, ?_⟩
      intro x54 e53
      have h1 := h1 x54 e53
      have h2 := h2 x54 e53
      refine ⟨?_, ?_⟩
      · intro c55
        have h1 := h1.1 c55
        have h2 := h2.1 c55
        obtain ⟨b56, e57, h1⟩ := h1
        obtain ⟨b58, e59, h2⟩ := h2
        cases e57.symm.trans e59
        refine ⟨b56, e57, ?_⟩
        obtain ⟨c60, h1⟩ := h1
        obtain ⟨_, h2⟩ := h2
        refine ⟨c60, ?_⟩
        obtain ⟨b61, e62, h1⟩ := h1
        obtain ⟨b63, e64, h2⟩ := h2
        cases e62.symm.trans e64
        refine ⟨b61, e62, ?_⟩
        obtain ⟨c65, h1⟩ := h1
        obtain ⟨_, h2⟩ := h2
        refine ⟨c65, ?_⟩
        refine cm_X2_allGot h1 h2 (fun x66 x67 h1 h2 g68 => ?_)
        have h1 := h1 g68
        have h2 := h2 g68
        refine cm_X9_coatParts h1 h2 (fun x69 x70 h1 h2 g71 => ?_)
        have h1 := h1 g71
        have h2 := h2 g71
        refine ⟨?_, ?_⟩
        · intro c72
          have h1 := h1.1 c72
          have h2 := h2.1 c72
          exact cm_X9_soaked_88 h1 h2 hq
        · intro c73
          have h1 := h1.2 c73
          have h2 := h2.2 c73
          exact cm_X9_soaked_88 h1 h2 hq
      · intro c74
        have h1 := h1.2 c74
        have h2 := h2.2 c74
        refine cm_X9_grant h1 h2 (fun x75 x76 h1 h2 g77 => ?_)
        have h1 := h1 g77
        have h2 := h2 g77
        exact hq _ _ h1 h2
    · intro c78
      have h1 := h1.2 c78
      have h2 := h2.2 c78
      exact cm_X9_soaked_27 h1 h2 hq
theorem cm_X9_soaked {Q1 Q2 Q3 : Int32 → HS → Prop} {v0 : Nat} {S : HS} (h1 : P_X9_soaked v0 Q1 S) (h2 : P_X9_soaked v0 Q2 S) (hq : ∀ (r : Int32) (T : HS), Q1 r T → Q2 r T → Q3 r T) : P_X9_soaked v0 Q3 S := cm_X9_soaked_0 h1 h2 hq
set_option maxRecDepth 20000 in
set_option maxHeartbeats 1000000 in
theorem cm_X9_stayTrouble_0 {Q1 Q2 Q3 : Int32 → HS → Prop} {v0 : Nat} {v1 : Int32} {S : HS} (h1 : P_X9_stayTrouble_0 Q1 v0 v1 S) (h2 : P_X9_stayTrouble_0 Q2 v0 v1 S) (hq : ∀ (r : Int32) (T : HS), Q1 r T → Q2 r T → Q3 r T) : P_X9_stayTrouble_0 Q3 v0 v1 S := by
  delta P_X9_stayTrouble_0 at h1 h2 ⊢
  obtain ⟨c1, h1⟩ := h1
  obtain ⟨_, h2⟩ := h2
  refine ⟨c1, ?_⟩
  obtain ⟨b2, e3, h1⟩ := h1
  obtain ⟨b4, e5, h2⟩ := h2
  cases e3.symm.trans e5
  refine ⟨b2, e3, ?_⟩
  obtain ⟨c6, h1⟩ := h1
  obtain ⟨_, h2⟩ := h2
  refine ⟨c6, ?_⟩
  refine cm_X0_isOn h1 h2 (fun x7 x8 h1 h2 g9 g10 => ?_)
  have h1 := h1 g9 g10
  have h2 := h2 g9 g10
  refine ⟨?_, ?_⟩
  · intro c11
    have h1 := h1.1 c11
    have h2 := h2.1 c11
    exact hq _ _ h1 h2
  · intro c12
    have h1 := h1.2 c12
    have h2 := h2.2 c12
    obtain ⟨b13, e14, h1⟩ := h1
    obtain ⟨b15, e16, h2⟩ := h2
    cases e14.symm.trans e16
    refine ⟨b13, e14, ?_⟩
    obtain ⟨b17, e18, h1⟩ := h1
    obtain ⟨b19, e20, h2⟩ := h2
    cases e18.symm.trans e20
    refine ⟨b17, e18, ?_⟩
    obtain ⟨c21, h1⟩ := h1
    obtain ⟨_, h2⟩ := h2
    refine ⟨c21, ?_⟩
    intro x23 e22
    have h1 := h1 x23 e22
    have h2 := h2 x23 e22
    obtain ⟨c24, h1⟩ := h1
    obtain ⟨_, h2⟩ := h2
    refine ⟨c24, ?_⟩
    refine cm_X8_hasWalker h1 h2 (fun x25 x26 h1 h2 g27 g28 => ?_)
    have h1 := h1 g27 g28
    have h2 := h2 g27 g28
    refine ⟨?_, ?_⟩
    · intro c29
      have h1 := h1.1 c29
      have h2 := h2.1 c29
      refine ⟨?_, ?_⟩
      · intro c30
        have h1 := h1.1 c30
        have h2 := h2.1 c30
        exact hq _ _ h1 h2
      · intro c31
        have h1 := h1.2 c31
        have h2 := h2.2 c31
        refine ⟨?_, ?_⟩
        · intro c32
          have h1 := h1.1 c32
          have h2 := h2.1 c32
          obtain ⟨b33, e34, h1⟩ := h1
          obtain ⟨b35, e36, h2⟩ := h2
          cases e34.symm.trans e36
          refine ⟨b33, e34, ?_⟩
          obtain ⟨b37, e38, h1⟩ := h1
          obtain ⟨b39, e40, h2⟩ := h2
          cases e38.symm.trans e40
          refine ⟨b37, e38, ?_⟩
          obtain ⟨c41, h1⟩ := h1
          obtain ⟨_, h2⟩ := h2
          refine ⟨c41, ?_⟩
          obtain ⟨b42, e43, h1⟩ := h1
          obtain ⟨b44, e45, h2⟩ := h2
          cases e43.symm.trans e45
          refine ⟨b42, e43, ?_⟩
          obtain ⟨c46, h1⟩ := h1
          obtain ⟨_, h2⟩ := h2
          refine ⟨c46, ?_⟩
          intro x48 e47
          have h1 := h1 x48 e47
          have h2 := h2 x48 e47
          obtain ⟨c49, h1⟩ := h1
          obtain ⟨_, h2⟩ := h2
          refine ⟨c49, ?_⟩
          refine cm_X8_canWait h1 h2 (fun x50 x51 h1 h2 g52 g53 => ?_)
          have h1 := h1 g52 g53
          have h2 := h2 g52 g53
          refine ⟨?_, ?_⟩
          · intro c54
            have h1 := h1.1 c54
            have h2 := h2.1 c54
            obtain ⟨b55, e56, h1⟩ := h1
            obtain ⟨b57, e58, h2⟩ := h2
            cases e56.symm.trans e58
            refine ⟨b55, e56, ?_⟩
            obtain ⟨c59, h1⟩ := h1
            obtain ⟨_, h2⟩ := h2
            refine ⟨c59, ?_⟩
            obtain ⟨b60, e61, h1⟩ := h1
            obtain ⟨b62, e63, h2⟩ := h2
            cases e61.symm.trans e63
            refine ⟨b60, e61, ?_⟩
            obtain ⟨c64, h1⟩ := h1
            obtain ⟨_, h2⟩ := h2
            refine ⟨c64, ?_⟩
            intro x66 e65
            have h1 := h1 x66 e65
            have h2 := h2 x66 e65
            refine ⟨?_, ?_⟩
            · intro c67
              have h1 := h1.1 c67
              have h2 := h2.1 c67
              exact hq _ _ h1 h2
            · intro c68
              have h1 := h1.2 c68
              have h2 := h2.2 c68
              exact hq _ _ h1 h2
          · intro c69
            have h1 := h1.2 c69
            have h2 := h2.2 c69
            exact hq _ _ h1 h2
        · intro c70
          have h1 := h1.2 c70
          have h2 := h2.2 c70
          exact hq _ _ h1 h2
    · intro c71
      have h1 := h1.2 c71
      have h2 := h2.2 c71
      exact hq _ _ h1 h2
theorem cm_X9_stayTrouble {Q1 Q2 Q3 : Int32 → HS → Prop} {v0 : Nat} {v1 : Int32} {S : HS} (h1 : P_X9_stayTrouble v0 v1 Q1 S) (h2 : P_X9_stayTrouble v0 v1 Q2 S) (hq : ∀ (r : Int32) (T : HS), Q1 r T → Q2 r T → Q3 r T) : P_X9_stayTrouble v0 v1 Q3 S := cm_X9_stayTrouble_0 h1 h2 hq
set_option maxRecDepth 20000 in
set_option maxHeartbeats 1000000 in
theorem cm_X9_stay_111 {Q1 Q2 Q3 : Int32 → HS → Prop} {X58_1 X58_2 X58_3 : Nat → Int32 → Int64 → Int32 → HS → Prop} {v0 : Nat} {v1 : Int32} {v2 : Int64} {v4 : Int32} {S : HS} (h1 : P_X9_stay_111 Q1 X58_1 v0 v1 v2 v4 S) (h2 : P_X9_stay_111 Q2 X58_2 v0 v1 v2 v4 S) (hq : ∀ (r : Int32) (T : HS), Q1 r T → Q2 r T → Q3 r T) (hX58 : ∀ (u0 : Nat) (u1 : Int32) (u2 : Int64) (u3 : Int32) (u4 : HS), X58_1 u0 u1 u2 u3 u4 → X58_2 u0 u1 u2 u3 u4 → X58_3 u0 u1 u2 u3 u4) : P_X9_stay_111 Q3 X58_3 v0 v1 v2 v4 S := by
  delta P_X9_stay_111 at h1 h2 ⊢
  obtain ⟨c1, h1⟩ := h1
  obtain ⟨_, h2⟩ := h2
  refine ⟨c1, ?_⟩
  obtain ⟨b2, e3, h1⟩ := h1
  obtain ⟨b4, e5, h2⟩ := h2
  cases e3.symm.trans e5
  refine ⟨b2, e3, ?_⟩
  obtain ⟨c6, h1⟩ := h1
  obtain ⟨_, h2⟩ := h2
  refine ⟨c6, ?_⟩
  obtain ⟨b7, e8, h1⟩ := h1
  obtain ⟨b9, e10, h2⟩ := h2
  cases e8.symm.trans e10
  refine ⟨b7, e8, ?_⟩
  obtain ⟨c11, h1⟩ := h1
  obtain ⟨_, h2⟩ := h2
  refine ⟨c11, ?_⟩
  intro x13 e12
  have h1 := h1 x13 e12
  have h2 := h2 x13 e12
  intro x15 e14
  have h1 := h1 x15 e14
  have h2 := h2 x15 e14
  intro x17 e16
  have h1 := h1 x17 e16
  have h2 := h2 x17 e16
  intro x19 e18
  have h1 := h1 x19 e18
  have h2 := h2 x19 e18
  exact hX58 _ _ _ _ _ h1 h2
set_option maxRecDepth 20000 in
set_option maxHeartbeats 1000000 in
theorem cmB_X9_stay_58 {Q1 Q2 Q3 : Int32 → HS → Prop} {X58_1 X58_2 X58_3 : Nat → Int32 → Int64 → Int32 → HS → Prop} {v0 : Nat} {v1 : Int32} {v2 : Int64} {v4 : Int32} {S : HS} (h1 : B_X9_stay_58 Q1 X58_1 v0 v1 v2 v4 S) (h2 : B_X9_stay_58 Q2 X58_2 v0 v1 v2 v4 S) (hq : ∀ (r : Int32) (T : HS), Q1 r T → Q2 r T → Q3 r T) (hX58 : ∀ (u0 : Nat) (u1 : Int32) (u2 : Int64) (u3 : Int32) (u4 : HS), X58_1 u0 u1 u2 u3 u4 → X58_2 u0 u1 u2 u3 u4 → X58_3 u0 u1 u2 u3 u4) : B_X9_stay_58 Q3 X58_3 v0 v1 v2 v4 S := by
  delta B_X9_stay_58 at h1 h2 ⊢
  refine ⟨?_, ?_⟩
  · intro c1
    have h1 := h1.1 c1
    have h2 := h2.1 c1
    exact hq _ _ h1 h2
  · intro c2
    have h1 := h1.2 c2
    have h2 := h2.2 c2
    obtain ⟨c3, h1⟩ := h1
    obtain ⟨_, h2⟩ := h2
    refine ⟨c3, ?_⟩
    obtain ⟨b4, e5, h1⟩ := h1
    obtain ⟨b6, e7, h2⟩ := h2
    cases e5.symm.trans e7
    refine ⟨b4, e5, ?_⟩
    obtain ⟨b8, e9, h1⟩ := h1
    obtain ⟨b10, e11, h2⟩ := h2
    cases e9.symm.trans e11
    refine ⟨b8, e9, ?_⟩
    obtain ⟨b12, e13, h1⟩ := h1
    obtain ⟨b14, e15, h2⟩ := h2
    cases e13.symm.trans e15
    refine ⟨b12, e13, ?_⟩
    obtain ⟨c16, h1⟩ := h1
    obtain ⟨_, h2⟩ := h2
    refine ⟨c16, ?_⟩
    obtain ⟨b17, e18, h1⟩ := h1
    obtain ⟨b19, e20, h2⟩ := h2
    cases e18.symm.trans e20
    refine ⟨b17, e18, ?_⟩
    obtain ⟨c21, h1⟩ := h1
    obtain ⟨_, h2⟩ := h2
    refine ⟨c21, ?_⟩
    intro x23 e22
    have h1 := h1 x23 e22
    have h2 := h2 x23 e22
    obtain ⟨c24, h1⟩ := h1
    obtain ⟨_, h2⟩ := h2
    refine ⟨c24, ?_⟩
    refine cm_X8_hourOf h1 h2 (fun x25 x26 h1 h2 g27 => ?_)
    have h1 := h1 g27
    have h2 := h2 g27
    obtain ⟨c28, h1⟩ := h1
    obtain ⟨_, h2⟩ := h2
    refine ⟨c28, ?_⟩
    refine cm_X0_rainsIn h1 h2 (fun x29 x30 h1 h2 g31 g32 => ?_)
    have h1 := h1 g31 g32
    have h2 := h2 g31 g32
    refine ⟨?_, ?_⟩
    · intro c33
      have h1 := h1.1 c33
      have h2 := h2.1 c33
      exact cm_X9_stay_111 h1 h2 hq hX58
    · intro c34
      have h1 := h1.2 c34
      have h2 := h2.2 c34
      obtain ⟨b35, e36, h1⟩ := h1
      obtain ⟨b37, e38, h2⟩ := h2
      cases e36.symm.trans e38
      refine ⟨b35, e36, ?_⟩
      obtain ⟨c39, h1⟩ := h1
      obtain ⟨_, h2⟩ := h2
      refine ⟨c39, ?_⟩
      obtain ⟨b40, e41, h1⟩ := h1
      obtain ⟨b42, e43, h2⟩ := h2
      cases e41.symm.trans e43
      refine ⟨b40, e41, ?_⟩
      obtain ⟨c44, h1⟩ := h1
      obtain ⟨_, h2⟩ := h2
      refine ⟨c44, ?_⟩
      obtain ⟨b45, e46, h1⟩ := h1
      obtain ⟨b47, e48, h2⟩ := h2
      cases e46.symm.trans e48
      refine ⟨b45, e46, ?_⟩
      obtain ⟨c49, h1⟩ := h1
      obtain ⟨_, h2⟩ := h2
      refine ⟨c49, ?_⟩
      obtain ⟨c50, h1⟩ := h1
      obtain ⟨_, h2⟩ := h2
      refine ⟨c50, ?_⟩
      intro x52 e51
      have h1 := h1 x52 e51
      have h2 := h2 x52 e51
      intro x54 e53
      have h1 := h1 x54 e53
      have h2 := h2 x54 e53
      obtain ⟨c55, h1⟩ := h1
      obtain ⟨_, h2⟩ := h2
      refine ⟨c55, ?_⟩
      intro x57 e56
      have h1 := h1 x57 e56
      have h2 := h2 x57 e56
      exact cm_X9_stay_111 h1 h2 hq hX58
theorem fd_X9_stay_58 {Q : Int32 → HS → Prop} {v0 : Nat} {v1 : Int32} {v2 : Int64} {v4 : Int32} {S : HS} (h : B_X9_stay_58 Q (P_X9_stay_58 Q) v0 v1 v2 v4 S) : P_X9_stay_58 Q v0 v1 v2 v4 S := fun X hX => hX v0 v1 v2 v4 S (cmB_X9_stay_58 h h (fun _ _ a _ => a) (fun _ _ _ _ _ hp _ => hp X hX))
theorem uf_X9_stay_58 {Q : Int32 → HS → Prop} {v0 : Nat} {v1 : Int32} {v2 : Int64} {v4 : Int32} {S : HS} (h : P_X9_stay_58 Q v0 v1 v2 v4 S) : B_X9_stay_58 Q (P_X9_stay_58 Q) v0 v1 v2 v4 S := h (fun v0 v1 v2 v4 S => B_X9_stay_58 Q (P_X9_stay_58 Q) v0 v1 v2 v4 S) (fun v0 v1 v2 v4 S hB => cmB_X9_stay_58 hB hB (fun _ _ a _ => a) (fun _ _ _ _ _ hb _ => fd_X9_stay_58 hb))
theorem cm_X9_stay_58 {Q1 Q2 Q3 : Int32 → HS → Prop} {v0 : Nat} {v1 : Int32} {v2 : Int64} {v4 : Int32} {S : HS} (h1 : P_X9_stay_58 Q1 v0 v1 v2 v4 S) (h2 : P_X9_stay_58 Q2 v0 v1 v2 v4 S) (hq : ∀ (r : Int32) (T : HS), Q1 r T → Q2 r T → Q3 r T) : P_X9_stay_58 Q3 v0 v1 v2 v4 S := h1 (fun v0 v1 v2 v4 S => P_X9_stay_58 Q2 v0 v1 v2 v4 S → P_X9_stay_58 Q3 v0 v1 v2 v4 S) (fun v0 v1 v2 v4 S hB hp => fd_X9_stay_58 (cmB_X9_stay_58 hB (uf_X9_stay_58 hp) hq (fun _ _ _ _ _ hx hp => hx hp))) h2
set_option maxRecDepth 20000 in
set_option maxHeartbeats 1000000 in
theorem cm_X9_stay_0 {Q1 Q2 Q3 : Int32 → HS → Prop} {v0 : Nat} {v1 : Int32} {S : HS} (h1 : P_X9_stay_0 Q1 v0 v1 S) (h2 : P_X9_stay_0 Q2 v0 v1 S) (hq : ∀ (r : Int32) (T : HS), Q1 r T → Q2 r T → Q3 r T) : P_X9_stay_0 Q3 v0 v1 S := by
  delta P_X9_stay_0 at h1 h2 ⊢
  obtain ⟨c1, h1⟩ := h1
  obtain ⟨_, h2⟩ := h2
  refine ⟨c1, ?_⟩
  refine cm_X9_stayTrouble h1 h2 (fun x2 x3 h1 h2 g4 => ?_)
  have h1 := h1 g4
  have h2 := h2 g4
  refine cm_X9_refusedBy h1 h2 (fun x5 x6 h1 h2 g7 g8 => ?_)
  have h1 := h1 g7 g8
  have h2 := h2 g7 g8
  refine ⟨?_, ?_⟩
  · intro c9
    have h1 := h1.1 c9
    have h2 := h2.1 c9
    obtain ⟨b10, e11, h1⟩ := h1
    obtain ⟨b12, e13, h2⟩ := h2
    cases e11.symm.trans e13
    refine ⟨b10, e11, ?_⟩
    obtain ⟨c14, h1⟩ := h1
    obtain ⟨_, h2⟩ := h2
    refine ⟨c14, ?_⟩
    refine cm_X0_keepForUndo h1 h2 (fun x15 h1 h2 g16 => ?_)
    have h1 := h1 g16
    have h2 := h2 g16
    obtain ⟨b17, e18, h1⟩ := h1
    obtain ⟨b19, e20, h2⟩ := h2
    cases e18.symm.trans e20
    refine ⟨b17, e18, ?_⟩
    obtain ⟨b21, e22, h1⟩ := h1
    obtain ⟨b23, e24, h2⟩ := h2
    cases e22.symm.trans e24
    refine ⟨b21, e22, ?_⟩
    obtain ⟨c25, h1⟩ := h1
    obtain ⟨_, h2⟩ := h2
    refine ⟨c25, ?_⟩
    obtain ⟨b26, e27, h1⟩ := h1
    obtain ⟨b28, e29, h2⟩ := h2
    cases e27.symm.trans e29
    refine ⟨b26, e27, ?_⟩
    obtain ⟨b30, e31, h1⟩ := h1
    obtain ⟨b32, e33, h2⟩ := h2
    cases e31.symm.trans e33
    refine ⟨b30, e31, ?_⟩
    obtain ⟨c34, h1⟩ := h1
    obtain ⟨_, h2⟩ := h2
    refine ⟨c34, ?_⟩
    intro x36 e35
    have h1 := h1 x36 e35
    have h2 := h2 x36 e35
    obtain ⟨c37, h1⟩ := h1
    obtain ⟨_, h2⟩ := h2
    refine ⟨c37, ?_⟩
    obtain ⟨c38, h1⟩ := h1
    obtain ⟨_, h2⟩ := h2
    refine ⟨c38, ?_⟩
    obtain ⟨b39, e40, h1⟩ := h1
    obtain ⟨b41, e42, h2⟩ := h2
    cases e40.symm.trans e42
    refine ⟨b39, e40, ?_⟩
    obtain ⟨b43, e44, h1⟩ := h1
    obtain ⟨b45, e46, h2⟩ := h2
    cases e44.symm.trans e46
    refine ⟨b43, e44, ?_⟩
    obtain ⟨c47, h1⟩ := h1
    obtain ⟨_, h2⟩ := h2
    refine ⟨c47, ?_⟩
    obtain ⟨b48, e49, h1⟩ := h1
    obtain ⟨b50, e51, h2⟩ := h2
    cases e49.symm.trans e51
    refine ⟨b48, e49, ?_⟩
    obtain ⟨c52, h1⟩ := h1
    obtain ⟨_, h2⟩ := h2
    refine ⟨c52, ?_⟩
    intro x54 e53
    have h1 := h1 x54 e53
    have h2 := h2 x54 e53
    obtain ⟨c55, h1⟩ := h1
    obtain ⟨_, h2⟩ := h2
    refine ⟨c55, ?_⟩
    refine cm_X8_dripOn h1 h2 (fun x56 x57 h1 h2 g58 => ?_)
    have h1 := h1 g58
    have h2 := h2 g58
    intro x60 e59
    have h1 := h1 x60 e59
    have h2 := h2 x60 e59
    exact cm_X9_stay_58 h1 h2 hq
  · intro c61
    have h1 := h1.2 c61
    have h2 := h2.2 c61
    exact hq _ _ h1 h2
theorem cm_X9_stay {Q1 Q2 Q3 : Int32 → HS → Prop} {v0 : Nat} {v1 : Int32} {S : HS} (h1 : P_X9_stay v0 v1 Q1 S) (h2 : P_X9_stay v0 v1 Q2 S) (hq : ∀ (r : Int32) (T : HS), Q1 r T → Q2 r T → Q3 r T) : P_X9_stay v0 v1 Q3 S := cm_X9_stay_0 h1 h2 hq
set_option maxRecDepth 20000 in
set_option maxHeartbeats 1000000 in
theorem cm_X9_step_61 {Q1 Q2 Q3 : Int32 → HS → Prop} {v0 : Nat} {S : HS} (h1 : P_X9_step_61 Q1 v0 S) (h2 : P_X9_step_61 Q2 v0 S) (hq : ∀ (r : Int32) (T : HS), Q1 r T → Q2 r T → Q3 r T) : P_X9_step_61 Q3 v0 S := by
  delta P_X9_step_61 at h1 h2 ⊢
  obtain ⟨c1, h1⟩ := h1
  obtain ⟨_, h2⟩ := h2
  refine ⟨c1, ?_⟩
  refine cm_X9_refuse h1 h2 (fun x2 x3 h1 h2 g4 => ?_)
  have h1 := h1 g4
  have h2 := h2 g4
  exact hq _ _ h1 h2
set_option maxRecDepth 20000 in
set_option maxHeartbeats 1000000 in
theorem cm_X9_step_0 {Q1 Q2 Q3 : Int32 → HS → Prop} {v0 : Nat} {v1 : Int32} {v2 : Int32} {v3 : Int32} {v4 : Int32} {v5 : Int32} {v6 : Int32} {S : HS} (h1 : P_X9_step_0 Q1 v0 v1 v2 v3 v4 v5 v6 S) (h2 : P_X9_step_0 Q2 v0 v1 v2 v3 v4 v5 v6 S) (hq : ∀ (r : Int32) (T : HS), Q1 r T → Q2 r T → Q3 r T) : P_X9_step_0 Q3 v0 v1 v2 v3 v4 v5 v6 S := by
  delta P_X9_step_0 at h1 h2 ⊢
  obtain ⟨c1, h1⟩ := h1
  obtain ⟨_, h2⟩ := h2
  refine ⟨c1, ?_⟩
  refine cm_X9_wayTrouble h1 h2 (fun x2 x3 h1 h2 g4 => ?_)
  have h1 := h1 g4
  have h2 := h2 g4
  refine cm_X9_refusedBy h1 h2 (fun x5 x6 h1 h2 g7 g8 => ?_)
  have h1 := h1 g7 g8
  have h2 := h2 g7 g8
  refine ⟨?_, ?_⟩
  · intro c9
    have h1 := h1.1 c9
    have h2 := h2.1 c9
    obtain ⟨b10, e11, h1⟩ := h1
    obtain ⟨b12, e13, h2⟩ := h2
    cases e11.symm.trans e13
    refine ⟨b10, e11, ?_⟩
    obtain ⟨b14, e15, h1⟩ := h1
    obtain ⟨b16, e17, h2⟩ := h2
    cases e15.symm.trans e17
    refine ⟨b14, e15, ?_⟩
    obtain ⟨c18, h1⟩ := h1
    obtain ⟨_, h2⟩ := h2
    refine ⟨c18, ?_⟩
    refine cm_X7_trace h1 h2 (fun x19 x20 h1 h2 g21 => ?_)
    have h1 := h1 g21
    have h2 := h2 g21
    refine ⟨?_, ?_⟩
    · intro c22
      have h1 := h1.1 c22
      have h2 := h2.1 c22
      exact cm_X9_step_61 h1 h2 hq
    · intro c23
      have h1 := h1.2 c23
      have h2 := h2.2 c23
      refine ⟨?_, ?_⟩
      · intro c24
        have h1 := h1.1 c24
        have h2 := h2.1 c24
        exact cm_X9_step_61 h1 h2 hq
      · intro c25
        have h1 := h1.2 c25
        have h2 := h2.2 c25
        obtain ⟨b26, e27, h1⟩ := h1
        obtain ⟨b28, e29, h2⟩ := h2
        cases e27.symm.trans e29
        refine ⟨b26, e27, ?_⟩
        obtain ⟨c30, h1⟩ := h1
        obtain ⟨_, h2⟩ := h2
        refine ⟨c30, ?_⟩
        obtain ⟨b31, e32, h1⟩ := h1
        obtain ⟨b33, e34, h2⟩ := h2
        cases e32.symm.trans e34
        refine ⟨b31, e32, ?_⟩
        obtain ⟨c35, h1⟩ := h1
        obtain ⟨_, h2⟩ := h2
        refine ⟨c35, ?_⟩
        refine ⟨?_, ?_⟩
        · intro c36
          have h1 := h1.1 c36
          have h2 := h2.1 c36
          obtain ⟨b37, e38, h1⟩ := h1
          obtain ⟨b39, e40, h2⟩ := h2
          cases e38.symm.trans e40
          refine ⟨b37, e38, ?_⟩
          obtain ⟨c41, h1⟩ := h1
          obtain ⟨_, h2⟩ := h2
          refine ⟨c41, ?_⟩
          obtain ⟨b42, e43, h1⟩ := h1
          obtain ⟨b44, e45, h2⟩ := h2
          cases e43.symm.trans e45
          refine ⟨b42, e43, ?_⟩
          obtain ⟨c46, h1⟩ := h1
          obtain ⟨_, h2⟩ := h2
          refine ⟨c46, ?_⟩
          obtain ⟨c47, h1⟩ := h1
          obtain ⟨_, h2⟩ := h2
          refine ⟨c47, ?_⟩
          intro x49 e48
          have h1 := h1 x49 e48
          have h2 := h2 x49 e48
          exact hq _ _ h1 h2
        · intro c50
          have h1 := h1.2 c50
          have h2 := h2.2 c50
          exact cm_X9_step_61 h1 h2 hq
  · intro c51
    have h1 := h1.2 c51
    have h2 := h2.2 c51
    exact hq _ _ h1 h2
theorem cm_X9_step {Q1 Q2 Q3 : Int32 → HS → Prop} {v0 : Nat} {v1 : Int32} {v2 : Int32} {v3 : Int32} {v4 : Int32} {v5 : Int32} {v6 : Int32} {S : HS} (h1 : P_X9_step v0 v1 v2 v3 v4 v5 v6 Q1 S) (h2 : P_X9_step v0 v1 v2 v3 v4 v5 v6 Q2 S) (hq : ∀ (r : Int32) (T : HS), Q1 r T → Q2 r T → Q3 r T) : P_X9_step v0 v1 v2 v3 v4 v5 v6 Q3 S := cm_X9_step_0 h1 h2 hq
set_option maxRecDepth 20000 in
set_option maxHeartbeats 1000000 in
theorem cm_X9_steps_0 {Q1 Q2 Q3 : Int32 → HS → Prop} {v0 : Nat} {v1 : Int32} {v2 : Int32} {v3 : Int32} {v4 : Int32} {v5 : Int32} {S : HS} (h1 : P_X9_steps_0 Q1 v0 v1 v2 v3 v4 v5 S) (h2 : P_X9_steps_0 Q2 v0 v1 v2 v3 v4 v5 S) (hq : ∀ (r : Int32) (T : HS), Q1 r T → Q2 r T → Q3 r T) : P_X9_steps_0 Q3 v0 v1 v2 v3 v4 v5 S := by
  delta P_X9_steps_0 at h1 h2 ⊢
  obtain ⟨c1, h1⟩ := h1
  obtain ⟨_, h2⟩ := h2
  refine ⟨c1, ?_⟩
  refine cm_X9_wayTrouble h1 h2 (fun x2 x3 h1 h2 g4 => ?_)
  have h1 := h1 g4
  have h2 := h2 g4
  refine cm_X9_refusedBy h1 h2 (fun x5 x6 h1 h2 g7 g8 => ?_)
  have h1 := h1 g7 g8
  have h2 := h2 g7 g8
  refine ⟨?_, ?_⟩
  · intro c9
    have h1 := h1.1 c9
    have h2 := h2.1 c9
    obtain ⟨b10, e11, h1⟩ := h1
    obtain ⟨b12, e13, h2⟩ := h2
    cases e11.symm.trans e13
    refine ⟨b10, e11, ?_⟩
    obtain ⟨b14, e15, h1⟩ := h1
    obtain ⟨b16, e17, h2⟩ := h2
    cases e15.symm.trans e17
    refine ⟨b14, e15, ?_⟩
    obtain ⟨c18, h1⟩ := h1
    obtain ⟨_, h2⟩ := h2
    refine ⟨c18, ?_⟩
    refine cm_X7_trace h1 h2 (fun x19 x20 h1 h2 g21 => ?_)
    have h1 := h1 g21
    have h2 := h2 g21
    exact hq _ _ h1 h2
  · intro c22
    have h1 := h1.2 c22
    have h2 := h2.2 c22
    exact hq _ _ h1 h2
theorem cm_X9_steps {Q1 Q2 Q3 : Int32 → HS → Prop} {v0 : Nat} {v1 : Int32} {v2 : Int32} {v3 : Int32} {v4 : Int32} {v5 : Int32} {S : HS} (h1 : P_X9_steps v0 v1 v2 v3 v4 v5 Q1 S) (h2 : P_X9_steps v0 v1 v2 v3 v4 v5 Q2 S) (hq : ∀ (r : Int32) (T : HS), Q1 r T → Q2 r T → Q3 r T) : P_X9_steps v0 v1 v2 v3 v4 v5 Q3 S := cm_X9_steps_0 h1 h2 hq
set_option maxRecDepth 20000 in
set_option maxHeartbeats 1000000 in
theorem cm_X9_there_0 {Q1 Q2 Q3 : Int32 → HS → Prop} {v0 : Nat} {v1 : Int32} {v2 : Int32} {v3 : Int32} {v4 : Int32} {v5 : Int32} {S : HS} (h1 : P_X9_there_0 Q1 v0 v1 v2 v3 v4 v5 S) (h2 : P_X9_there_0 Q2 v0 v1 v2 v3 v4 v5 S) (hq : ∀ (r : Int32) (T : HS), Q1 r T → Q2 r T → Q3 r T) : P_X9_there_0 Q3 v0 v1 v2 v3 v4 v5 S := by
  delta P_X9_there_0 at h1 h2 ⊢
  obtain ⟨c1, h1⟩ := h1
  obtain ⟨_, h2⟩ := h2
  refine ⟨c1, ?_⟩
  refine cm_X9_wayTrouble h1 h2 (fun x2 x3 h1 h2 g4 => ?_)
  have h1 := h1 g4
  have h2 := h2 g4
  refine cm_X9_refusedBy h1 h2 (fun x5 x6 h1 h2 g7 g8 => ?_)
  have h1 := h1 g7 g8
  have h2 := h2 g7 g8
  refine ⟨?_, ?_⟩
  · intro c9
    have h1 := h1.1 c9
    have h2 := h2.1 c9
    obtain ⟨b10, e11, h1⟩ := h1
    obtain ⟨b12, e13, h2⟩ := h2
    cases e11.symm.trans e13
    refine ⟨b10, e11, ?_⟩
    obtain ⟨c14, h1⟩ := h1
    obtain ⟨_, h2⟩ := h2
    refine ⟨c14, ?_⟩
    refine cm_X7_endFrom h1 h2 (fun x15 x16 h1 h2 g17 => ?_)
    have h1 := h1 g17
    have h2 := h2 g17
    exact hq _ _ h1 h2
  · intro c18
    have h1 := h1.2 c18
    have h2 := h2.2 c18
    exact hq _ _ h1 h2
theorem cm_X9_there {Q1 Q2 Q3 : Int32 → HS → Prop} {v0 : Nat} {v1 : Int32} {v2 : Int32} {v3 : Int32} {v4 : Int32} {v5 : Int32} {S : HS} (h1 : P_X9_there v0 v1 v2 v3 v4 v5 Q1 S) (h2 : P_X9_there v0 v1 v2 v3 v4 v5 Q2 S) (hq : ∀ (r : Int32) (T : HS), Q1 r T → Q2 r T → Q3 r T) : P_X9_there v0 v1 v2 v3 v4 v5 Q3 S := cm_X9_there_0 h1 h2 hq
set_option maxRecDepth 20000 in
set_option maxHeartbeats 1000000 in
theorem cm_X9_trouble_0 {Q1 Q2 Q3 : Int32 → HS → Prop} {v0 : Nat} {S : HS} (h1 : P_X9_trouble_0 Q1 v0 S) (h2 : P_X9_trouble_0 Q2 v0 S) (hq : ∀ (r : Int32) (T : HS), Q1 r T → Q2 r T → Q3 r T) : P_X9_trouble_0 Q3 v0 S := by
  delta P_X9_trouble_0 at h1 h2 ⊢
  obtain ⟨c1, h1⟩ := h1
  obtain ⟨_, h2⟩ := h2
  refine ⟨c1, ?_⟩
  intro x3 e2
  have h1 := h1 x3 e2
  have h2 := h2 x3 e2
  exact hq _ _ h1 h2
theorem cm_X9_trouble {Q1 Q2 Q3 : Int32 → HS → Prop} {v0 : Nat} {S : HS} (h1 : P_X9_trouble v0 Q1 S) (h2 : P_X9_trouble v0 Q2 S) (hq : ∀ (r : Int32) (T : HS), Q1 r T → Q2 r T → Q3 r T) : P_X9_trouble v0 Q3 S := cm_X9_trouble_0 h1 h2 hq
set_option maxRecDepth 20000 in
set_option maxHeartbeats 1000000 in
theorem cm_X9_undo_17 {Q1 Q2 Q3 : Int32 → HS → Prop} {s0 : Nat} {s1 : Int32} {S : HS} (h1 : P_X9_undo_17 Q1 s0 s1 S) (h2 : P_X9_undo_17 Q2 s0 s1 S) (hq : ∀ (r : Int32) (T : HS), Q1 r T → Q2 r T → Q3 r T) : P_X9_undo_17 Q3 s0 s1 S := by
  delta P_X9_undo_17 at h1 h2 ⊢
  obtain ⟨c1, h1⟩ := h1
  obtain ⟨_, h2⟩ := h2
  refine ⟨c1, ?_⟩
  refine cm_X9_refusedBy h1 h2 (fun x2 x3 h1 h2 g4 g5 => ?_)
  have h1 := h1 g4 g5
  have h2 := h2 g4 g5
  refine ⟨?_, ?_⟩
  · intro c6
    have h1 := h1.1 c6
    have h2 := h2.1 c6
    exact hq _ _ h1 h2
  · intro c7
    have h1 := h1.2 c7
    have h2 := h2.2 c7
    exact hq _ _ h1 h2
set_option maxRecDepth 20000 in
set_option maxHeartbeats 1000000 in
theorem cm_X9_undo_0 {Q1 Q2 Q3 : Int32 → HS → Prop} {v0 : Nat} {S : HS} (h1 : P_X9_undo_0 Q1 v0 S) (h2 : P_X9_undo_0 Q2 v0 S) (hq : ∀ (r : Int32) (T : HS), Q1 r T → Q2 r T → Q3 r T) : P_X9_undo_0 Q3 v0 S := by
  delta P_X9_undo_0 at h1 h2 ⊢
  obtain ⟨c1, h1⟩ := h1
  obtain ⟨_, h2⟩ := h2
  refine ⟨c1, ?_⟩
  obtain ⟨b2, e3, h1⟩ := h1
  obtain ⟨b4, e5, h2⟩ := h2
  cases e3.symm.trans e5
  refine ⟨b2, e3, ?_⟩
  obtain ⟨c6, h1⟩ := h1
  obtain ⟨_, h2⟩ := h2
  refine ⟨c6, ?_⟩
  refine cm_X0_takeBack h1 h2 (fun x7 x8 h1 h2 g9 g10 => ?_)
  have h1 := h1 g9 g10
  have h2 := h2 g9 g10
  refine ⟨?_, ?_⟩
  · intro c11
    have h1 := h1.1 c11
    have h2 := h2.1 c11
    exact cm_X9_undo_17 h1 h2 hq
  · intro c12
    have h1 := h1.2 c12
    have h2 := h2.2 c12
    exact cm_X9_undo_17 h1 h2 hq
theorem cm_X9_undo {Q1 Q2 Q3 : Int32 → HS → Prop} {v0 : Nat} {S : HS} (h1 : P_X9_undo v0 Q1 S) (h2 : P_X9_undo v0 Q2 S) (hq : ∀ (r : Int32) (T : HS), Q1 r T → Q2 r T → Q3 r T) : P_X9_undo v0 Q3 S := cm_X9_undo_0 h1 h2 hq
set_option maxRecDepth 20000 in
set_option maxHeartbeats 1000000 in
theorem cm_X9_walker_21 {Q1 Q2 Q3 : Int32 → HS → Prop} {v0 : Nat} {S : HS} (h1 : P_X9_walker_21 Q1 v0 S) (h2 : P_X9_walker_21 Q2 v0 S) (hq : ∀ (r : Int32) (T : HS), Q1 r T → Q2 r T → Q3 r T) : P_X9_walker_21 Q3 v0 S := by
  delta P_X9_walker_21 at h1 h2 ⊢
  obtain ⟨c1, h1⟩ := h1
  obtain ⟨_, h2⟩ := h2
  refine ⟨c1, ?_⟩
  refine cm_X9_refuse h1 h2 (fun x2 x3 h1 h2 g4 => ?_)
  have h1 := h1 g4
  have h2 := h2 g4
  exact hq _ _ h1 h2
set_option maxRecDepth 20000 in
set_option maxHeartbeats 1000000 in
theorem cm_X9_walker_0 {Q1 Q2 Q3 : Int32 → HS → Prop} {v0 : Nat} {v1 : Int32} {v2 : Int32} {S : HS} (h1 : P_X9_walker_0 Q1 v0 v1 v2 S) (h2 : P_X9_walker_0 Q2 v0 v1 v2 S) (hq : ∀ (r : Int32) (T : HS), Q1 r T → Q2 r T → Q3 r T) : P_X9_walker_0 Q3 v0 v1 v2 S := by
  delta P_X9_walker_0 at h1 h2 ⊢
  obtain ⟨c1, h1⟩ := h1
  obtain ⟨_, h2⟩ := h2
  refine ⟨c1, ?_⟩
  obtain ⟨b2, e3, h1⟩ := h1
  obtain ⟨b4, e5, h2⟩ := h2
  cases e3.symm.trans e5
  refine ⟨b2, e3, ?_⟩
  obtain ⟨c6, h1⟩ := h1
  obtain ⟨_, h2⟩ := h2
  refine ⟨c6, ?_⟩
  refine cm_X8_hasWalker h1 h2 (fun x7 x8 h1 h2 g9 g10 => ?_)
  have h1 := h1 g9 g10
  have h2 := h2 g9 g10
  refine ⟨?_, ?_⟩
  · intro c11
    have h1 := h1.1 c11
    have h2 := h2.1 c11
    exact cm_X9_walker_21 h1 h2 hq
  · intro c12
    have h1 := h1.2 c12
    have h2 := h2.2 c12
    refine ⟨?_, ?_⟩
    · intro c13
      have h1 := h1.1 c13
      have h2 := h2.1 c13
      exact cm_X9_walker_21 h1 h2 hq
    · intro c14
      have h1 := h1.2 c14
      have h2 := h2.2 c14
      refine ⟨?_, ?_⟩
      · intro c15
        have h1 := h1.1 c15
        have h2 := h2.1 c15
        obtain ⟨b16, e17, h1⟩ := h1
        obtain ⟨b18, e19, h2⟩ := h2
        cases e17.symm.trans e19
        refine ⟨b16, e17, ?_⟩
        obtain ⟨c20, h1⟩ := h1
        obtain ⟨_, h2⟩ := h2
        refine ⟨c20, ?_⟩
        obtain ⟨b21, e22, h1⟩ := h1
        obtain ⟨b23, e24, h2⟩ := h2
        cases e22.symm.trans e24
        refine ⟨b21, e22, ?_⟩
        obtain ⟨c25, h1⟩ := h1
        obtain ⟨_, h2⟩ := h2
        refine ⟨c25, ?_⟩
        obtain ⟨c26, h1⟩ := h1
        obtain ⟨_, h2⟩ := h2
        refine ⟨c26, ?_⟩
        obtain ⟨b27, e28, h1⟩ := h1
        obtain ⟨b29, e30, h2⟩ := h2
        cases e28.symm.trans e30
        refine ⟨b27, e28, ?_⟩
        obtain ⟨c31, h1⟩ := h1
        obtain ⟨_, h2⟩ := h2
        refine ⟨c31, ?_⟩
        refine cm_X6_tell h1 h2 (fun x32 x33 h1 h2 g34 => ?_)
        have h1 := h1 g34
        have h2 := h2 g34
        refine cm_X9_grant h1 h2 (fun x35 x36 h1 h2 g37 => ?_)
        have h1 := h1 g37
        have h2 := h2 g37
        exact hq _ _ h1 h2
      · intro c38
        have h1 := h1.2 c38
        have h2 := h2.2 c38
        exact cm_X9_walker_21 h1 h2 hq
theorem cm_X9_walker {Q1 Q2 Q3 : Int32 → HS → Prop} {v0 : Nat} {v1 : Int32} {v2 : Int32} {S : HS} (h1 : P_X9_walker v0 v1 v2 Q1 S) (h2 : P_X9_walker v0 v1 v2 Q2 S) (hq : ∀ (r : Int32) (T : HS), Q1 r T → Q2 r T → Q3 r T) : P_X9_walker v0 v1 v2 Q3 S := cm_X9_walker_0 h1 h2 hq
set_option maxRecDepth 20000 in
set_option maxHeartbeats 1000000 in
theorem cm_X9_wet_0 {Q1 Q2 Q3 : Int64 → HS → Prop} {v0 : Nat} {v1 : Int32} {v2 : Int32} {v3 : Int32} {v4 : Int32} {v5 : Int32} {v6 : Int32} {S : HS} (h1 : P_X9_wet_0 Q1 v0 v1 v2 v3 v4 v5 v6 S) (h2 : P_X9_wet_0 Q2 v0 v1 v2 v3 v4 v5 v6 S) (hq : ∀ (r : Int64) (T : HS), Q1 r T → Q2 r T → Q3 r T) : P_X9_wet_0 Q3 v0 v1 v2 v3 v4 v5 v6 S := by
  delta P_X9_wet_0 at h1 h2 ⊢
  obtain ⟨c1, h1⟩ := h1
  obtain ⟨_, h2⟩ := h2
  refine ⟨c1, ?_⟩
  refine cm_X9_legTrouble h1 h2 (fun x2 x3 h1 h2 g4 => ?_)
  have h1 := h1 g4
  have h2 := h2 g4
  refine cm_X9_refusedBy h1 h2 (fun x5 x6 h1 h2 g7 g8 => ?_)
  have h1 := h1 g7 g8
  have h2 := h2 g7 g8
  refine ⟨?_, ?_⟩
  · intro c9
    have h1 := h1.1 c9
    have h2 := h2.1 c9
    obtain ⟨b10, e11, h1⟩ := h1
    obtain ⟨b12, e13, h2⟩ := h2
    cases e11.symm.trans e13
    refine ⟨b10, e11, ?_⟩
    obtain ⟨b14, e15, h1⟩ := h1
    obtain ⟨b16, e17, h2⟩ := h2
    cases e15.symm.trans e17
    refine ⟨b14, e15, ?_⟩
    obtain ⟨c18, h1⟩ := h1
    obtain ⟨_, h2⟩ := h2
    refine ⟨c18, ?_⟩
    obtain ⟨b19, e20, h1⟩ := h1
    obtain ⟨b21, e22, h2⟩ := h2
    cases e20.symm.trans e22
    refine ⟨b19, e20, ?_⟩
    obtain ⟨c23, h1⟩ := h1
    obtain ⟨_, h2⟩ := h2
    refine ⟨c23, ?_⟩
    obtain ⟨c24, h1⟩ := h1
    obtain ⟨_, h2⟩ := h2
    refine ⟨c24, ?_⟩
    obtain ⟨b25, e26, h1⟩ := h1
    obtain ⟨b27, e28, h2⟩ := h2
    cases e26.symm.trans e28
    refine ⟨b25, e26, ?_⟩
    obtain ⟨b29, e30, h1⟩ := h1
    obtain ⟨b31, e32, h2⟩ := h2
    cases e30.symm.trans e32
    refine ⟨b29, e30, ?_⟩
    obtain ⟨c33, h1⟩ := h1
    obtain ⟨_, h2⟩ := h2
    refine ⟨c33, ?_⟩
    obtain ⟨b34, e35, h1⟩ := h1
    obtain ⟨b36, e37, h2⟩ := h2
    cases e35.symm.trans e37
    refine ⟨b34, e35, ?_⟩
    obtain ⟨c38, h1⟩ := h1
    obtain ⟨_, h2⟩ := h2
    refine ⟨c38, ?_⟩
    obtain ⟨c39, h1⟩ := h1
    obtain ⟨_, h2⟩ := h2
    refine ⟨c39, ?_⟩
    obtain ⟨b40, e41, h1⟩ := h1
    obtain ⟨b42, e43, h2⟩ := h2
    cases e41.symm.trans e43
    refine ⟨b40, e41, ?_⟩
    obtain ⟨b44, e45, h1⟩ := h1
    obtain ⟨b46, e47, h2⟩ := h2
    cases e45.symm.trans e47
    refine ⟨b44, e45, ?_⟩
    obtain ⟨c48, h1⟩ := h1
    obtain ⟨_, h2⟩ := h2
    refine ⟨c48, ?_⟩
    obtain ⟨b49, e50, h1⟩ := h1
    obtain ⟨b51, e52, h2⟩ := h2
    cases e50.symm.trans e52
    refine ⟨b49, e50, ?_⟩
    obtain ⟨c53, h1⟩ := h1
    obtain ⟨_, h2⟩ := h2
    refine ⟨c53, ?_⟩
    obtain ⟨c54, h1⟩ := h1
    obtain ⟨_, h2⟩ := h2
    refine ⟨c54, ?_⟩
    obtain ⟨b55, e56, h1⟩ := h1
    obtain ⟨b57, e58, h2⟩ := h2
    cases e56.symm.trans e58
    refine ⟨b55, e56, ?_⟩
    obtain ⟨c59, h1⟩ := h1
    obtain ⟨_, h2⟩ := h2
    refine ⟨c59, ?_⟩
    refine cm_X1_wetOf h1 h2 (fun x60 x61 h1 h2 g62 => ?_)
    have h1 := h1 g62
    have h2 := h2 g62
    refine cm_X9_fraction h1 h2 (fun x63 x64 h1 h2 g65 => ?_)
    have h1 := h1 g65
    have h2 := h2 g65
    exact hq _ _ h1 h2
  · intro c66
    have h1 := h1.2 c66
    have h2 := h2.2 c66
    exact hq _ _ h1 h2
theorem cm_X9_wet {Q1 Q2 Q3 : Int64 → HS → Prop} {v0 : Nat} {v1 : Int32} {v2 : Int32} {v3 : Int32} {v4 : Int32} {v5 : Int32} {v6 : Int32} {S : HS} (h1 : P_X9_wet v0 v1 v2 v3 v4 v5 v6 Q1 S) (h2 : P_X9_wet v0 v1 v2 v3 v4 v5 v6 Q2 S) (hq : ∀ (r : Int64) (T : HS), Q1 r T → Q2 r T → Q3 r T) : P_X9_wet v0 v1 v2 v3 v4 v5 v6 Q3 S := cm_X9_wet_0 h1 h2 hq
set_option maxRecDepth 20000 in
set_option maxHeartbeats 1000000 in
theorem cm_X9_wetness_27 {Q1 Q2 Q3 : Int64 → HS → Prop} {v0 : Nat} {S : HS} (h1 : P_X9_wetness_27 Q1 v0 S) (h2 : P_X9_wetness_27 Q2 v0 S) (hq : ∀ (r : Int64) (T : HS), Q1 r T → Q2 r T → Q3 r T) : P_X9_wetness_27 Q3 v0 S := by
  delta P_X9_wetness_27 at h1 h2 ⊢
  obtain ⟨c1, h1⟩ := h1
  obtain ⟨_, h2⟩ := h2
  refine ⟨c1, ?_⟩
  refine cm_X9_refuse h1 h2 (fun x2 x3 h1 h2 g4 => ?_)
  have h1 := h1 g4
  have h2 := h2 g4
  exact hq _ _ h1 h2
set_option maxRecDepth 20000 in
set_option maxHeartbeats 1000000 in
theorem cm_X9_wetness_0 {Q1 Q2 Q3 : Int64 → HS → Prop} {v0 : Nat} {v1 : Int32} {S : HS} (h1 : P_X9_wetness_0 Q1 v0 v1 S) (h2 : P_X9_wetness_0 Q2 v0 v1 S) (hq : ∀ (r : Int64) (T : HS), Q1 r T → Q2 r T → Q3 r T) : P_X9_wetness_0 Q3 v0 v1 S := by
  delta P_X9_wetness_0 at h1 h2 ⊢
  obtain ⟨c1, h1⟩ := h1
  obtain ⟨_, h2⟩ := h2
  refine ⟨c1, ?_⟩
  obtain ⟨b2, e3, h1⟩ := h1
  obtain ⟨b4, e5, h2⟩ := h2
  cases e3.symm.trans e5
  refine ⟨b2, e3, ?_⟩
  obtain ⟨c6, h1⟩ := h1
  obtain ⟨_, h2⟩ := h2
  refine ⟨c6, ?_⟩
  refine cm_X0_isOn h1 h2 (fun x7 x8 h1 h2 g9 g10 => ?_)
  have h1 := h1 g9 g10
  have h2 := h2 g9 g10
  refine ⟨?_, ?_⟩
  · intro c11
    have h1 := h1.1 c11
    have h2 := h2.1 c11
    exact cm_X9_wetness_27 h1 h2 hq
  · intro c12
    have h1 := h1.2 c12
    have h2 := h2.2 c12
    obtain ⟨b13, e14, h1⟩ := h1
    obtain ⟨b15, e16, h2⟩ := h2
    cases e14.symm.trans e16
    refine ⟨b13, e14, ?_⟩
    obtain ⟨b17, e18, h1⟩ := h1
    obtain ⟨b19, e20, h2⟩ := h2
    cases e18.symm.trans e20
    refine ⟨b17, e18, ?_⟩
    obtain ⟨c21, h1⟩ := h1
    obtain ⟨_, h2⟩ := h2
    refine ⟨c21, ?_⟩
    intro x23 e22
    have h1 := h1 x23 e22
    have h2 := h2 x23 e22
    obtain ⟨c24, h1⟩ := h1
    obtain ⟨_, h2⟩ := h2
    refine ⟨c24, ?_⟩
    refine cm_X8_hasWalker h1 h2 (fun x25 x26 h1 h2 g27 g28 => ?_)
    have h1 := h1 g27 g28
    have h2 := h2 g27 g28
    refine ⟨?_, ?_⟩
    · intro c29
      have h1 := h1.1 c29
      have h2 := h2.1 c29
      intro x31 e30
      have h1 := h1 x31 e30
      have h2 := h2 x31 e30
      obtain ⟨b32, e33, h1⟩ := h1
      obtain ⟨b34, e35, h2⟩ := h2
      cases e33.symm.trans e35
      refine ⟨b32, e33, ?_⟩
      obtain ⟨c36, h1⟩ := h1
      obtain ⟨_, h2⟩ := h2
      refine ⟨c36, ?_⟩
      obtain ⟨b37, e38, h1⟩ := h1
      obtain ⟨b39, e40, h2⟩ := h2
      cases e38.symm.trans e40
      refine ⟨b37, e38, ?_⟩
      obtain ⟨c41, h1⟩ := h1
      obtain ⟨_, h2⟩ := h2
      refine ⟨c41, ?_⟩
      refine cm_X2_allGot h1 h2 (fun x42 x43 h1 h2 g44 => ?_)
      have h1 := h1 g44
      have h2 := h2 g44
      obtain ⟨b45, e46, h1⟩ := h1
      obtain ⟨b47, e48, h2⟩ := h2
      cases e46.symm.trans e48
      refine ⟨b45, e46, ?_⟩
      obtain ⟨c49, h1⟩ := h1
      obtain ⟨_, h2⟩ := h2
      refine ⟨c49, ?_⟩
      obtain ⟨b50, e51, h1⟩ := h1
      obtain ⟨b52, e53, h2⟩ := h2
      cases e51.symm.trans e53
      refine ⟨b50, e51, ?_⟩
      obtain ⟨b54, e55, h1⟩ := h1
      obtain ⟨b56, e57, h2⟩ := h2
      cases e55.symm.trans e57
      refine ⟨b54, e55, ?_⟩
      obtain ⟨c58, h1⟩ := h1
      obtain ⟨_, h2⟩ := h2
      refine ⟨c58, ?_⟩
      intro x60 e59
      have h1 := h1 x60 e59
      have h2 := h2 x60 e59
      obtain ⟨c61, h1⟩ := h1
      obtain ⟨_, h2⟩ := h2
      refine ⟨c61, ?_⟩
      obtain ⟨c62, h1⟩ := h1
      obtain ⟨_, h2⟩ := h2
      refine ⟨c62, ?_⟩
      obtain ⟨b63, e64, h1⟩ := h1
      obtain ⟨b65, e66, h2⟩ := h2
      cases e64.symm.trans e66
      refine ⟨b63, e64, ?_⟩
      refine cm_X9_coatParts h1 h2 (fun x67 x68 h1 h2 g69 => ?_)
      have h1 := h1 g69
      have h2 := h2 g69
      intro x71 e70
      have h1 := h1 x71 e70
      have h2 := h2 x71 e70
      intro x73 e72
      have h1 := h1 x73 e72
      have h2 := h2 x73 e72
      refine cm_X9_fraction h1 h2 (fun x74 x75 h1 h2 g76 => ?_)
      have h1 := h1 g76
      have h2 := h2 g76
      exact hq _ _ h1 h2
    · intro c77
      have h1 := h1.2 c77
      have h2 := h2.2 c77
      exact cm_X9_wetness_27 h1 h2 hq
theorem cm_X9_wetness {Q1 Q2 Q3 : Int64 → HS → Prop} {v0 : Nat} {v1 : Int32} {S : HS} (h1 : P_X9_wetness v0 v1 Q1 S) (h2 : P_X9_wetness v0 v1 Q2 S) (hq : ∀ (r : Int64) (T : HS), Q1 r T → Q2 r T → Q3 r T) : P_X9_wetness v0 v1 Q3 S := cm_X9_wetness_0 h1 h2 hq
set_option maxRecDepth 20000 in
set_option maxHeartbeats 1000000 in
theorem cm_X9_where_0 {Q1 Q2 Q3 : Int32 → HS → Prop} {v0 : Nat} {S : HS} (h1 : P_X9_where_0 Q1 v0 S) (h2 : P_X9_where_0 Q2 v0 S) (hq : ∀ (r : Int32) (T : HS), Q1 r T → Q2 r T → Q3 r T) : P_X9_where_0 Q3 v0 S := by
  delta P_X9_where_0 at h1 h2 ⊢
  obtain ⟨c1, h1⟩ := h1
  obtain ⟨_, h2⟩ := h2
  refine ⟨c1, ?_⟩
  intro x3 e2
  have h1 := h1 x3 e2
  have h2 := h2 x3 e2
  refine ⟨?_, ?_⟩
  · intro c4
    have h1 := h1.1 c4
    have h2 := h2.1 c4
    exact hq _ _ h1 h2
  · intro c5
    have h1 := h1.2 c5
    have h2 := h2.2 c5
    intro x7 e6
    have h1 := h1 x7 e6
    have h2 := h2 x7 e6
    exact hq _ _ h1 h2
theorem cm_X9_where {Q1 Q2 Q3 : Int32 → HS → Prop} {v0 : Nat} {S : HS} (h1 : P_X9_where v0 Q1 S) (h2 : P_X9_where v0 Q2 S) (hq : ∀ (r : Int32) (T : HS), Q1 r T → Q2 r T → Q3 r T) : P_X9_where v0 Q3 S := cm_X9_where_0 h1 h2 hq
set_option maxRecDepth 20000 in
set_option maxHeartbeats 1000000 in
theorem cm_X9_world_12 {Q1 Q2 Q3 : Int32 → HS → Prop} {v0 : Nat} {S : HS} (h1 : P_X9_world_12 Q1 v0 S) (h2 : P_X9_world_12 Q2 v0 S) (hq : ∀ (r : Int32) (T : HS), Q1 r T → Q2 r T → Q3 r T) : P_X9_world_12 Q3 v0 S := by
  delta P_X9_world_12 at h1 h2 ⊢
  obtain ⟨c1, h1⟩ := h1
  obtain ⟨_, h2⟩ := h2
  refine ⟨c1, ?_⟩
  refine cm_X9_refuse h1 h2 (fun x2 x3 h1 h2 g4 => ?_)
  have h1 := h1 g4
  have h2 := h2 g4
  exact hq _ _ h1 h2
set_option maxRecDepth 20000 in
set_option maxHeartbeats 1000000 in
theorem cm_X9_world_0 {Q1 Q2 Q3 : Int32 → HS → Prop} {v0 : Nat} {v1 : Int32} {S : HS} (h1 : P_X9_world_0 Q1 v0 v1 S) (h2 : P_X9_world_0 Q2 v0 v1 S) (hq : ∀ (r : Int32) (T : HS), Q1 r T → Q2 r T → Q3 r T) : P_X9_world_0 Q3 v0 v1 S := by
  delta P_X9_world_0 at h1 h2 ⊢
  refine ⟨?_, ?_⟩
  · intro c1
    have h1 := h1.1 c1
    have h2 := h2.1 c1
    exact cm_X9_world_12 h1 h2 hq
  · intro c2
    have h1 := h1.2 c2
    have h2 := h2.2 c2
    obtain ⟨c3, h1⟩ := h1
    obtain ⟨_, h2⟩ := h2
    refine ⟨c3, ?_⟩
    intro x5 e4
    have h1 := h1 x5 e4
    have h2 := h2 x5 e4
    refine ⟨?_, ?_⟩
    · intro c6
      have h1 := h1.1 c6
      have h2 := h2.1 c6
      obtain ⟨b7, e8, h1⟩ := h1
      obtain ⟨b9, e10, h2⟩ := h2
      cases e8.symm.trans e10
      refine ⟨b7, e8, ?_⟩
      obtain ⟨b11, e12, h1⟩ := h1
      obtain ⟨b13, e14, h2⟩ := h2
      cases e12.symm.trans e14
      refine ⟨b11, e12, ?_⟩
      obtain ⟨c15, h1⟩ := h1
      obtain ⟨_, h2⟩ := h2
      refine ⟨c15, ?_⟩
      refine cm_X4_read h1 h2 (fun x16 x17 h1 h2 g18 g19 => ?_)
      have h1 := h1 g18 g19
      have h2 := h2 g18 g19
      intro x21 e20
      have h1 := h1 x21 e20
      have h2 := h2 x21 e20
      obtain ⟨b22, e23, h1⟩ := h1
      obtain ⟨b24, e25, h2⟩ := h2
      cases e23.symm.trans e25
      refine ⟨b22, e23, ?_⟩
      obtain ⟨c26, h1⟩ := h1
      obtain ⟨_, h2⟩ := h2
      refine ⟨c26, ?_⟩
      intro x28 e27
      have h1 := h1 x28 e27
      have h2 := h2 x28 e27
      intro x30 e29
      have h1 := h1 x30 e29
      have h2 := h2 x30 e29
      obtain ⟨b31, e32, h1⟩ := h1
      obtain ⟨b33, e34, h2⟩ := h2
      cases e32.symm.trans e34
      refine ⟨b31, e32, ?_⟩
      obtain ⟨c35, h1⟩ := h1
      obtain ⟨_, h2⟩ := h2
      refine ⟨c35, ?_⟩
      intro x37 e36
      have h1 := h1 x37 e36
      have h2 := h2 x37 e36
      intro x39 e38
      have h1 := h1 x39 e38
      have h2 := h2 x39 e38
      refine ⟨?_, ?_⟩
      · intro c40
        have h1 := h1.1 c40
        have h2 := h2.1 c40
        obtain ⟨b41, e42, h1⟩ := h1
        obtain ⟨b43, e44, h2⟩ := h2
        cases e42.symm.trans e44
        refine ⟨b41, e42, ?_⟩
        obtain ⟨b45, e46, h1⟩ := h1
        obtain ⟨b47, e48, h2⟩ := h2
        cases e46.symm.trans e48
        refine ⟨b45, e46, ?_⟩
        obtain ⟨c49, h1⟩ := h1
        obtain ⟨_, h2⟩ := h2
        refine ⟨c49, ?_⟩
        refine cm_X4_exchange h1 h2 (fun x50 x51 h1 h2 g52 => ?_)
        have h1 := h1 g52
        have h2 := h2 g52
        intro x54 e53
        have h1 := h1 x54 e53
        have h2 := h2 x54 e53
        obtain ⟨b55, e56, h1⟩ := h1
        obtain ⟨b57, e58, h2⟩ := h2
        cases e56.symm.trans e58
        refine ⟨b55, e56, ?_⟩
        obtain ⟨c59, h1⟩ := h1
        obtain ⟨_, h2⟩ := h2
        refine ⟨c59, ?_⟩
        refine cm_X7_forget h1 h2 (fun x60 h1 h2 g61 => ?_)
        have h1 := h1 g61
        have h2 := h2 g61
        obtain ⟨b62, e63, h1⟩ := h1
        obtain ⟨b64, e65, h2⟩ := h2
        cases e63.symm.trans e65
        refine ⟨b62, e63, ?_⟩
        obtain ⟨c66, h1⟩ := h1
        obtain ⟨_, h2⟩ := h2
        refine ⟨c66, ?_⟩
        refine cm_X0_end h1 h2 (fun x67 h1 h2 g68 => ?_)
        have h1 := h1 g68
        have h2 := h2 g68
        obtain ⟨b69, e70, h1⟩ := h1
        obtain ⟨b71, e72, h2⟩ := h2
        cases e70.symm.trans e72
        refine ⟨b69, e70, ?_⟩
        obtain ⟨c73, h1⟩ := h1
        obtain ⟨_, h2⟩ := h2
        refine ⟨c73, ?_⟩
        intro x75 e74
        have h1 := h1 x75 e74
        have h2 := h2 x75 e74
        refine cm_X9_grant h1 h2 (fun x76 x77 h1 h2 g78 => ?_)
        have h1 := h1 g78
        have h2 := h2 g78
        exact hq _ _ h1 h2
      · intro c79
        have h1 := h1.2 c79
        have h2 := h2.2 c79
        refine cm_X9_refuse h1 h2 (fun x80 x81 h1 h2 g82 => ?_)
        have h1 := h1 g82
        have h2 := h2 g82
        exact hq _ _ h1 h2
    · intro c83
      have h1 := h1.2 c83
      have h2 := h2.2 c83
      exact cm_X9_world_12 h1 h2 hq
theorem cm_X9_world {Q1 Q2 Q3 : Int32 → HS → Prop} {v0 : Nat} {v1 : Int32} {S : HS} (h1 : P_X9_world v0 v1 Q1 S) (h2 : P_X9_world v0 v1 Q2 S) (hq : ∀ (r : Int32) (T : HS), Q1 r T → Q2 r T → Q3 r T) : P_X9_world v0 v1 Q3 S := cm_X9_world_0 h1 h2 hq
set_option maxRecDepth 20000 in
set_option maxHeartbeats 1000000 in
theorem cm_X9_worst_0 {Q1 Q2 Q3 : Int32 → HS → Prop} {v0 : Nat} {v1 : Int32} {v2 : Int32} {v3 : Int32} {v4 : Int32} {S : HS} (h1 : P_X9_worst_0 Q1 v0 v1 v2 v3 v4 S) (h2 : P_X9_worst_0 Q2 v0 v1 v2 v3 v4 S) (hq : ∀ (r : Int32) (T : HS), Q1 r T → Q2 r T → Q3 r T) : P_X9_worst_0 Q3 v0 v1 v2 v3 v4 S := by
  delta P_X9_worst_0 at h1 h2 ⊢
  obtain ⟨c1, h1⟩ := h1
  obtain ⟨_, h2⟩ := h2
  refine ⟨c1, ?_⟩
  refine cm_X9_tripTrouble h1 h2 (fun x2 x3 h1 h2 g4 => ?_)
  have h1 := h1 g4
  have h2 := h2 g4
  refine cm_X9_refusedBy h1 h2 (fun x5 x6 h1 h2 g7 g8 => ?_)
  have h1 := h1 g7 g8
  have h2 := h2 g7 g8
  refine ⟨?_, ?_⟩
  · intro c9
    have h1 := h1.1 c9
    have h2 := h2.1 c9
    obtain ⟨b10, e11, h1⟩ := h1
    obtain ⟨b12, e13, h2⟩ := h2
    cases e11.symm.trans e13
    refine ⟨b10, e11, ?_⟩
    obtain ⟨b14, e15, h1⟩ := h1
    obtain ⟨b16, e17, h2⟩ := h2
    cases e15.symm.trans e17
    refine ⟨b14, e15, ?_⟩
    obtain ⟨c18, h1⟩ := h1
    obtain ⟨_, h2⟩ := h2
    refine ⟨c18, ?_⟩
    obtain ⟨b19, e20, h1⟩ := h1
    obtain ⟨b21, e22, h2⟩ := h2
    cases e20.symm.trans e22
    refine ⟨b19, e20, ?_⟩
    obtain ⟨c23, h1⟩ := h1
    obtain ⟨_, h2⟩ := h2
    refine ⟨c23, ?_⟩
    obtain ⟨c24, h1⟩ := h1
    obtain ⟨_, h2⟩ := h2
    refine ⟨c24, ?_⟩
    obtain ⟨b25, e26, h1⟩ := h1
    obtain ⟨b27, e28, h2⟩ := h2
    cases e26.symm.trans e28
    refine ⟨b25, e26, ?_⟩
    obtain ⟨b29, e30, h1⟩ := h1
    obtain ⟨b31, e32, h2⟩ := h2
    cases e30.symm.trans e32
    refine ⟨b29, e30, ?_⟩
    obtain ⟨c33, h1⟩ := h1
    obtain ⟨_, h2⟩ := h2
    refine ⟨c33, ?_⟩
    obtain ⟨b34, e35, h1⟩ := h1
    obtain ⟨b36, e37, h2⟩ := h2
    cases e35.symm.trans e37
    refine ⟨b34, e35, ?_⟩
    obtain ⟨c38, h1⟩ := h1
    obtain ⟨_, h2⟩ := h2
    refine ⟨c38, ?_⟩
    obtain ⟨c39, h1⟩ := h1
    obtain ⟨_, h2⟩ := h2
    refine ⟨c39, ?_⟩
    obtain ⟨b40, e41, h1⟩ := h1
    obtain ⟨b42, e43, h2⟩ := h2
    cases e41.symm.trans e43
    refine ⟨b40, e41, ?_⟩
    obtain ⟨b44, e45, h1⟩ := h1
    obtain ⟨b46, e47, h2⟩ := h2
    cases e45.symm.trans e47
    refine ⟨b44, e45, ?_⟩
    obtain ⟨c48, h1⟩ := h1
    obtain ⟨_, h2⟩ := h2
    refine ⟨c48, ?_⟩
    obtain ⟨b49, e50, h1⟩ := h1
    obtain ⟨b51, e52, h2⟩ := h2
    cases e50.symm.trans e52
    refine ⟨b49, e50, ?_⟩
    obtain ⟨c53, h1⟩ := h1
    obtain ⟨_, h2⟩ := h2
    refine ⟨c53, ?_⟩
    obtain ⟨c54, h1⟩ := h1
    obtain ⟨_, h2⟩ := h2
    refine ⟨c54, ?_⟩
    obtain ⟨b55, e56, h1⟩ := h1
    obtain ⟨b57, e58, h2⟩ := h2
    cases e56.symm.trans e58
    refine ⟨b55, e56, ?_⟩
    obtain ⟨c59, h1⟩ := h1
    obtain ⟨_, h2⟩ := h2
    refine ⟨c59, ?_⟩
    refine cm_X1_worstSpeed h1 h2 (fun x60 x61 h1 h2 g62 => ?_)
    have h1 := h1 g62
    have h2 := h2 g62
    exact hq _ _ h1 h2
  · intro c63
    have h1 := h1.2 c63
    have h2 := h2.2 c63
    exact hq _ _ h1 h2
theorem cm_X9_worst {Q1 Q2 Q3 : Int32 → HS → Prop} {v0 : Nat} {v1 : Int32} {v2 : Int32} {v3 : Int32} {v4 : Int32} {S : HS} (h1 : P_X9_worst v0 v1 v2 v3 v4 Q1 S) (h2 : P_X9_worst v0 v1 v2 v3 v4 Q2 S) (hq : ∀ (r : Int32) (T : HS), Q1 r T → Q2 r T → Q3 r T) : P_X9_worst v0 v1 v2 v3 v4 Q3 S := cm_X9_worst_0 h1 h2 hq
