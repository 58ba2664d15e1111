set_option maxRecDepth 20000 in
set_option maxHeartbeats 1000000 in
theorem cm_X4_init_0 {Q1 Q2 Q3 : HS → Prop} {v0 : Nat} {S : HS} (h1 : P_X4_init_0 Q1 v0 S) (h2 : P_X4_init_0 Q2 v0 S) (hq : ∀ (T : HS), Q1 T → Q2 T → Q3 T) : P_X4_init_0 Q3 v0 S := by
  delta P_X4_init_0 at h1 h2 ⊢
  intro x2 e1
  have h1 := h1 x2 e1
  have h2 := h2 x2 e1
  intro x4 e3
  have h1 := h1 x4 e3
  have h2 := h2 x4 e3
  obtain ⟨c5, h1⟩ := h1
  obtain ⟨_, h2⟩ := h2
  refine ⟨c5, ?_⟩
  intro x7 e6
  have h1 := h1 x7 e6
  have h2 := h2 x7 e6
  intro x9 e8
  have h1 := h1 x9 e8
  have h2 := h2 x9 e8
  intro x11 e10
  have h1 := h1 x11 e10
  have h2 := h2 x11 e10
  refine cm_X8_init h1 h2 (fun x12 h1 h2 g13 => ?_)
  have h1 := h1 g13
  have h2 := h2 g13
  intro x15 e14
  have h1 := h1 x15 e14
  have h2 := h2 x15 e14
  intro x17 e16
  have h1 := h1 x17 e16
  have h2 := h2 x17 e16
  intro x19 e18
  have h1 := h1 x19 e18
  have h2 := h2 x19 e18
  intro x21 e20
  have h1 := h1 x21 e20
  have h2 := h2 x21 e20
  intro x23 e22
  have h1 := h1 x23 e22
  have h2 := h2 x23 e22
  intro x25 e24
  have h1 := h1 x25 e24
  have h2 := h2 x25 e24
  intro x27 e26
  have h1 := h1 x27 e26
  have h2 := h2 x27 e26
  exact hq _ h1 h2
theorem cm_X4_init {Q1 Q2 Q3 : HS → Prop} {v0 : Nat} {S : HS} (h1 : P_X4_init v0 Q1 S) (h2 : P_X4_init v0 Q2 S) (hq : ∀ (T : HS), Q1 T → Q2 T → Q3 T) : P_X4_init v0 Q3 S := cm_X4_init_0 h1 h2 hq
set_option maxRecDepth 20000 in
set_option maxHeartbeats 1000000 in
theorem cm_X4_kindOf_0 {Q1 Q2 Q3 : Int32 → HS → Prop} {v0 : Nat} {v1 : Nat} {S : HS} (h1 : P_X4_kindOf_0 Q1 v0 v1 S) (h2 : P_X4_kindOf_0 Q2 v0 v1 S) (hq : ∀ (r : Int32) (T : HS), Q1 r T → Q2 r T → Q3 r T) : P_X4_kindOf_0 Q3 v0 v1 S := by
  delta P_X4_kindOf_0 at h1 h2 ⊢
  obtain ⟨c1, h1⟩ := h1
  obtain ⟨_, h2⟩ := h2
  refine ⟨c1, ?_⟩
  intro x3 e2
  have h1 := h1 x3 e2
  have h2 := h2 x3 e2
  refine cm_X4_is h1 h2 (fun x4 x5 h1 h2 g6 g7 => ?_)
  have h1 := h1 g6 g7
  have h2 := h2 g6 g7
  refine ⟨?_, ?_⟩
  · intro c8
    have h1 := h1.1 c8
    have h2 := h2.1 c8
    refine cm_X4_is h1 h2 (fun x9 x10 h1 h2 g11 g12 => ?_)
    have h1 := h1 g11 g12
    have h2 := h2 g11 g12
    refine ⟨?_, ?_⟩
    · intro c13
      have h1 := h1.1 c13
      have h2 := h2.1 c13
      refine cm_X4_is h1 h2 (fun x14 x15 h1 h2 g16 g17 => ?_)
      have h1 := h1 g16 g17
      have h2 := h2 g16 g17
      refine ⟨?_, ?_⟩
      · intro c18
        have h1 := h1.1 c18
        have h2 := h2.1 c18
        obtain ⟨c19, h1⟩ := h1
        obtain ⟨_, h2⟩ := h2
        refine ⟨c19, ?_⟩
        intro x21 e20
        have h1 := h1 x21 e20
        have h2 := h2 x21 e20
        refine cm_X4_word h1 h2 (fun x22 x23 h1 h2 g24 g25 => ?_)
        have h1 := h1 g24 g25
        have h2 := h2 g24 g25
        intro x27 e26
        have h1 := h1 x27 e26
        have h2 := h2 x27 e26
        intro x29 e28
        have h1 := h1 x29 e28
        have h2 := h2 x29 e28
        obtain ⟨c30, h1⟩ := h1
        obtain ⟨_, h2⟩ := h2
        refine ⟨c30, ?_⟩
        exact hq _ _ h1 h2
      · intro c31
        have h1 := h1.2 c31
        have h2 := h2.2 c31
        obtain ⟨c32, h1⟩ := h1
        obtain ⟨_, h2⟩ := h2
        refine ⟨c32, ?_⟩
        intro x34 e33
        have h1 := h1 x34 e33
        have h2 := h2 x34 e33
        refine cm_X4_wordAndWhole h1 h2 (fun x35 x36 h1 h2 g37 g38 => ?_)
        have h1 := h1 g37 g38
        have h2 := h2 g37 g38
        intro x40 e39
        have h1 := h1 x40 e39
        have h2 := h2 x40 e39
        intro x42 e41
        have h1 := h1 x42 e41
        have h2 := h2 x42 e41
        obtain ⟨c43, h1⟩ := h1
        obtain ⟨_, h2⟩ := h2
        refine ⟨c43, ?_⟩
        exact hq _ _ h1 h2
    · intro c44
      have h1 := h1.2 c44
      have h2 := h2.2 c44
      obtain ⟨c45, h1⟩ := h1
      obtain ⟨_, h2⟩ := h2
      refine ⟨c45, ?_⟩
      intro x47 e46
      have h1 := h1 x47 e46
      have h2 := h2 x47 e46
      refine cm_X4_wordAndWhole h1 h2 (fun x48 x49 h1 h2 g50 g51 => ?_)
      have h1 := h1 g50 g51
      have h2 := h2 g50 g51
      intro x53 e52
      have h1 := h1 x53 e52
      have h2 := h2 x53 e52
      intro x55 e54
      have h1 := h1 x55 e54
      have h2 := h2 x55 e54
      obtain ⟨c56, h1⟩ := h1
      obtain ⟨_, h2⟩ := h2
      refine ⟨c56, ?_⟩
      exact hq _ _ h1 h2
  · intro c57
    have h1 := h1.2 c57
    have h2 := h2.2 c57
    obtain ⟨c58, h1⟩ := h1
    obtain ⟨_, h2⟩ := h2
    refine ⟨c58, ?_⟩
    intro x60 e59
    have h1 := h1 x60 e59
    have h2 := h2 x60 e59
    refine cm_X4_wordAndWhole h1 h2 (fun x61 x62 h1 h2 g63 g64 => ?_)
    have h1 := h1 g63 g64
    have h2 := h2 g63 g64
    intro x66 e65
    have h1 := h1 x66 e65
    have h2 := h2 x66 e65
    intro x68 e67
    have h1 := h1 x68 e67
    have h2 := h2 x68 e67
    obtain ⟨c69, h1⟩ := h1
    obtain ⟨_, h2⟩ := h2
    refine ⟨c69, ?_⟩
    exact hq _ _ h1 h2
theorem cm_X4_kindOf {Q1 Q2 Q3 : Int32 → HS → Prop} {v0 : Nat} {v1 : Nat} {S : HS} (h1 : P_X4_kindOf v0 v1 Q1 S) (h2 : P_X4_kindOf v0 v1 Q2 S) (hq : ∀ (r : Int32) (T : HS), Q1 r T → Q2 r T → Q3 r T) : P_X4_kindOf v0 v1 Q3 S := cm_X4_kindOf_0 h1 h2 hq
set_option maxRecDepth 20000 in
set_option maxHeartbeats 1000000 in
theorem cm_X4_newName_69 {Q1 Q2 Q3 : Int32 → HS → Prop} {v0 : Nat} {S : HS} (h1 : P_X4_newName_69 Q1 v0 S) (h2 : P_X4_newName_69 Q2 v0 S) (hq : ∀ (r : Int32) (T : HS), Q1 r T → Q2 r T → Q3 r T) : P_X4_newName_69 Q3 v0 S := by
  delta P_X4_newName_69 at h1 h2 ⊢
  obtain ⟨c1, h1⟩ := h1
  obtain ⟨_, h2⟩ := h2
  refine ⟨c1, ?_⟩
  refine cm_X4_next h1 h2 (fun x2 h1 h2 g3 => ?_)
  have h1 := h1 g3
  have h2 := h2 g3
  exact hq _ _ h1 h2
set_option maxRecDepth 20000 in
set_option maxHeartbeats 1000000 in
theorem cm_X4_newName_0 {Q1 Q2 Q3 : Int32 → HS → Prop} {v0 : Nat} {v1 : Int32} {S : HS} (h1 : P_X4_newName_0 Q1 v0 v1 S) (h2 : P_X4_newName_0 Q2 v0 v1 S) (hq : ∀ (r : Int32) (T : HS), Q1 r T → Q2 r T → Q3 r T) : P_X4_newName_0 Q3 v0 v1 S := by
  delta P_X4_newName_0 at h1 h2 ⊢
  obtain ⟨c1, h1⟩ := h1
  obtain ⟨_, h2⟩ := h2
  refine ⟨c1, ?_⟩
  refine cm_X4_canBeName h1 h2 (fun x2 x3 h1 h2 g4 g5 => ?_)
  have h1 := h1 g4 g5
  have h2 := h2 g4 g5
  refine ⟨?_, ?_⟩
  · intro c6
    have h1 := h1.1 c6
    have h2 := h2.1 c6
    refine cm_X4_findName h1 h2 (fun x7 x8 h1 h2 g9 => ?_)
    have h1 := h1 g9
    have h2 := h2 g9
    refine ⟨?_, ?_⟩
    · intro c10
      have h1 := h1.1 c10
      have h2 := h2.1 c10
      intro x12 e11
      have h1 := h1 x12 e11
      have h2 := h2 x12 e11
      refine ⟨?_, ?_⟩
      · intro c13
        have h1 := h1.1 c13
        have h2 := h2.1 c13
        exact cm_X4_newName_69 h1 h2 hq
      · intro c14
        have h1 := h1.2 c14
        have h2 := h2.2 c14
        obtain ⟨b15, e16, h1⟩ := h1
        obtain ⟨b17, e18, h2⟩ := h2
        cases e16.symm.trans e18
        refine ⟨b15, e16, ?_⟩
        intro x20 e19
        have h1 := h1 x20 e19
        have h2 := h2 x20 e19
        intro x22 e21
        have h1 := h1 x22 e21
        have h2 := h2 x22 e21
        obtain ⟨c23, h1⟩ := h1
        obtain ⟨_, h2⟩ := h2
        refine ⟨c23, ?_⟩
        obtain ⟨c24, h1⟩ := h1
        obtain ⟨_, h2⟩ := h2
        refine ⟨c24, ?_⟩
        intro x26 e25
        have h1 := h1 x26 e25
        have h2 := h2 x26 e25
        obtain ⟨b27, e28, h1⟩ := h1
        obtain ⟨b29, e30, h2⟩ := h2
        cases e28.symm.trans e30
        refine ⟨b27, e28, ?_⟩
        intro x32 e31
        have h1 := h1 x32 e31
        have h2 := h2 x32 e31
        obtain ⟨c33, h1⟩ := h1
        obtain ⟨_, h2⟩ := h2
        refine ⟨c33, ?_⟩
        obtain ⟨c34, h1⟩ := h1
        obtain ⟨_, h2⟩ := h2
        refine ⟨c34, ?_⟩
        intro x36 e35
        have h1 := h1 x36 e35
        have h2 := h2 x36 e35
        intro x38 e37
        have h1 := h1 x38 e37
        have h2 := h2 x38 e37
        intro x40 e39
        have h1 := h1 x40 e39
        have h2 := h2 x40 e39
        intro x42 e41
        have h1 := h1 x42 e41
        have h2 := h2 x42 e41
        exact cm_X4_newName_69 h1 h2 hq
    · intro c43
      have h1 := h1.2 c43
      have h2 := h2.2 c43
      refine cm_X4_fail h1 h2 (fun x44 x45 h1 h2 g46 g47 => ?_)
      have h1 := h1 g46 g47
      have h2 := h2 g46 g47
      obtain ⟨c48, h1⟩ := h1
      obtain ⟨_, h2⟩ := h2
      refine ⟨c48, ?_⟩
      exact hq _ _ h1 h2
  · intro c49
    have h1 := h1.2 c49
    have h2 := h2.2 c49
    refine cm_X4_fail h1 h2 (fun x50 x51 h1 h2 g52 g53 => ?_)
    have h1 := h1 g52 g53
    have h2 := h2 g52 g53
    obtain ⟨c54, h1⟩ := h1
    obtain ⟨_, h2⟩ := h2
    refine ⟨c54, ?_⟩
    exact hq _ _ h1 h2
theorem cm_X4_newName {Q1 Q2 Q3 : Int32 → HS → Prop} {v0 : Nat} {v1 : Int32} {S : HS} (h1 : P_X4_newName v0 v1 Q1 S) (h2 : P_X4_newName v0 v1 Q2 S) (hq : ∀ (r : Int32) (T : HS), Q1 r T → Q2 r T → Q3 r T) : P_X4_newName v0 v1 Q3 S := cm_X4_newName_0 h1 h2 hq
set_option maxRecDepth 20000 in
set_option maxHeartbeats 1000000 in
theorem cm_X8_clear_0 {Q1 Q2 Q3 : HS → Prop} {v0 : Nat} {S : HS} (h1 : P_X8_clear_0 Q1 v0 S) (h2 : P_X8_clear_0 Q2 v0 S) (hq : ∀ (T : HS), Q1 T → Q2 T → Q3 T) : P_X8_clear_0 Q3 v0 S := by
  delta P_X8_clear_0 at h1 h2 ⊢
  obtain ⟨c1, h1⟩ := h1
  obtain ⟨_, h2⟩ := h2
  refine ⟨c1, ?_⟩
  intro x3 e2
  have h1 := h1 x3 e2
  have h2 := h2 x3 e2
  intro x5 e4
  have h1 := h1 x5 e4
  have h2 := h2 x5 e4
  intro x7 e6
  have h1 := h1 x7 e6
  have h2 := h2 x7 e6
  intro x9 e8
  have h1 := h1 x9 e8
  have h2 := h2 x9 e8
  intro x11 e10
  have h1 := h1 x11 e10
  have h2 := h2 x11 e10
  intro x13 e12
  have h1 := h1 x13 e12
  have h2 := h2 x13 e12
  exact hq _ h1 h2
theorem cm_X8_clear {Q1 Q2 Q3 : HS → Prop} {v0 : Nat} {S : HS} (h1 : P_X8_clear v0 Q1 S) (h2 : P_X8_clear v0 Q2 S) (hq : ∀ (T : HS), Q1 T → Q2 T → Q3 T) : P_X8_clear v0 Q3 S := cm_X8_clear_0 h1 h2 hq
set_option maxRecDepth 20000 in
set_option maxHeartbeats 1000000 in
theorem cm_X4_open_0 {Q1 Q2 Q3 : HS → Prop} {v0 : Nat} {v1 : Nat} {v2 : Int32} {S : HS} (h1 : P_X4_open_0 Q1 v0 v1 v2 S) (h2 : P_X4_open_0 Q2 v0 v1 v2 S) (hq : ∀ (T : HS), Q1 T → Q2 T → Q3 T) : P_X4_open_0 Q3 v0 v1 v2 S := by
  delta P_X4_open_0 at h1 h2 ⊢
  obtain ⟨c1, h1⟩ := h1
  obtain ⟨_, h2⟩ := h2
  refine ⟨c1, ?_⟩
  intro x3 e2
  have h1 := h1 x3 e2
  have h2 := h2 x3 e2
  obtain ⟨c4, h1⟩ := h1
  obtain ⟨_, h2⟩ := h2
  refine ⟨c4, ?_⟩
  intro x6 e5
  have h1 := h1 x6 e5
  have h2 := h2 x6 e5
  intro x8 e7
  have h1 := h1 x8 e7
  have h2 := h2 x8 e7
  intro x10 e9
  have h1 := h1 x10 e9
  have h2 := h2 x10 e9
  intro x12 e11
  have h1 := h1 x12 e11
  have h2 := h2 x12 e11
  intro x14 e13
  have h1 := h1 x14 e13
  have h2 := h2 x14 e13
  intro x16 e15
  have h1 := h1 x16 e15
  have h2 := h2 x16 e15
  obtain ⟨b17, e18, h1⟩ := h1
  obtain ⟨b19, e20, h2⟩ := h2
  cases e18.symm.trans e20
  refine ⟨b17, e18, ?_⟩
  obtain ⟨c21, h1⟩ := h1
  obtain ⟨_, h2⟩ := h2
  refine ⟨c21, ?_⟩
  refine cm_X8_clear h1 h2 (fun x22 h1 h2 g23 => ?_)
  have h1 := h1 g23
  have h2 := h2 g23
  refine cm_X4_next h1 h2 (fun x24 h1 h2 g25 => ?_)
  have h1 := h1 g25
  have h2 := h2 g25
  exact hq _ h1 h2
theorem cm_X4_open {Q1 Q2 Q3 : HS → Prop} {v0 : Nat} {v1 : Nat} {v2 : Int32} {S : HS} (h1 : P_X4_open v0 v1 v2 Q1 S) (h2 : P_X4_open v0 v1 v2 Q2 S) (hq : ∀ (T : HS), Q1 T → Q2 T → Q3 T) : P_X4_open v0 v1 v2 Q3 S := cm_X4_open_0 h1 h2 hq
set_option maxRecDepth 20000 in
set_option maxHeartbeats 1000000 in
theorem cm_X4_placeBut_29 {Q1 Q2 Q3 : Int32 → HS → Prop} {v0 : Nat} {S : HS} (h1 : P_X4_placeBut_29 Q1 v0 S) (h2 : P_X4_placeBut_29 Q2 v0 S) (hq : ∀ (r : Int32) (T : HS), Q1 r T → Q2 r T → Q3 r T) : P_X4_placeBut_29 Q3 v0 S := by
  delta P_X4_placeBut_29 at h1 h2 ⊢
  obtain ⟨c1, h1⟩ := h1
  obtain ⟨_, h2⟩ := h2
  refine ⟨c1, ?_⟩
  refine cm_X4_fail h1 h2 (fun x2 x3 h1 h2 g4 g5 => ?_)
  have h1 := h1 g4 g5
  have h2 := h2 g4 g5
  obtain ⟨c6, h1⟩ := h1
  obtain ⟨_, h2⟩ := h2
  refine ⟨c6, ?_⟩
  exact hq _ _ h1 h2
set_option maxRecDepth 20000 in
set_option maxHeartbeats 1000000 in
theorem cm_X4_placeBut_0 {Q1 Q2 Q3 : Int32 → HS → Prop} {v0 : Nat} {v1 : Int32} {S : HS} (h1 : P_X4_placeBut_0 Q1 v0 v1 S) (h2 : P_X4_placeBut_0 Q2 v0 v1 S) (hq : ∀ (r : Int32) (T : HS), Q1 r T → Q2 r T → Q3 r T) : P_X4_placeBut_0 Q3 v0 v1 S := by
  delta P_X4_placeBut_0 at h1 h2 ⊢
  obtain ⟨c1, h1⟩ := h1
  obtain ⟨_, h2⟩ := h2
  refine ⟨c1, ?_⟩
  refine cm_X4_canBeName h1 h2 (fun x2 x3 h1 h2 g4 g5 => ?_)
  have h1 := h1 g4 g5
  have h2 := h2 g4 g5
  refine ⟨?_, ?_⟩
  · intro c6
    have h1 := h1.1 c6
    have h2 := h2.1 c6
    refine cm_X4_findName h1 h2 (fun x7 x8 h1 h2 g9 => ?_)
    have h1 := h1 g9
    have h2 := h2 g9
    refine ⟨?_, ?_⟩
    · intro c10
      have h1 := h1.1 c10
      have h2 := h2.1 c10
      exact cm_X4_placeBut_29 h1 h2 hq
    · intro c11
      have h1 := h1.2 c11
      have h2 := h2.2 c11
      refine ⟨?_, ?_⟩
      · intro c12
        have h1 := h1.1 c12
        have h2 := h2.1 c12
        refine ⟨?_, ?_⟩
        · intro c13
          have h1 := h1.1 c13
          have h2 := h2.1 c13
          intro x15 e14
          have h1 := h1 x15 e14
          have h2 := h2 x15 e14
          refine cm_X4_next h1 h2 (fun x16 h1 h2 g17 => ?_)
          have h1 := h1 g17
          have h2 := h2 g17
          exact hq _ _ h1 h2
        · intro c18
          have h1 := h1.2 c18
          have h2 := h2.2 c18
          refine cm_X4_fail h1 h2 (fun x19 x20 h1 h2 g21 g22 => ?_)
          have h1 := h1 g21 g22
          have h2 := h2 g21 g22
          obtain ⟨c23, h1⟩ := h1
          obtain ⟨_, h2⟩ := h2
          refine ⟨c23, ?_⟩
          exact hq _ _ h1 h2
      · intro c24
        have h1 := h1.2 c24
        have h2 := h2.2 c24
        exact cm_X4_placeBut_29 h1 h2 hq
  · intro c25
    have h1 := h1.2 c25
    have h2 := h2.2 c25
    refine cm_X4_fail h1 h2 (fun x26 x27 h1 h2 g28 g29 => ?_)
    have h1 := h1 g28 g29
    have h2 := h2 g28 g29
    obtain ⟨c30, h1⟩ := h1
    obtain ⟨_, h2⟩ := h2
    refine ⟨c30, ?_⟩
    exact hq _ _ h1 h2
theorem cm_X4_placeBut {Q1 Q2 Q3 : Int32 → HS → Prop} {v0 : Nat} {v1 : Int32} {S : HS} (h1 : P_X4_placeBut v0 v1 Q1 S) (h2 : P_X4_placeBut v0 v1 Q2 S) (hq : ∀ (r : Int32) (T : HS), Q1 r T → Q2 r T → Q3 r T) : P_X4_placeBut v0 v1 Q3 S := cm_X4_placeBut_0 h1 h2 hq
set_option maxRecDepth 20000 in
set_option maxHeartbeats 1000000 in
theorem cm_X4_placeLine_64 {Q1 Q2 Q3 : Int32 → HS → Prop} {v0 : Nat} {v1 : Int32} {S : HS} (h1 : P_X4_placeLine_64 Q1 v0 v1 S) (h2 : P_X4_placeLine_64 Q2 v0 v1 S) (hq : ∀ (r : Int32) (T : HS), Q1 r T → Q2 r T → Q3 r T) : P_X4_placeLine_64 Q3 v0 v1 S := by
  delta P_X4_placeLine_64 at h1 h2 ⊢
  obtain ⟨c1, h1⟩ := h1
  obtain ⟨_, h2⟩ := h2
  refine ⟨c1, ?_⟩
  obtain ⟨b2, e3, h1⟩ := h1
  obtain ⟨b4, e5, h2⟩ := h2
  cases e3.symm.trans e5
  refine ⟨b2, e3, ?_⟩
  obtain ⟨c6, h1⟩ := h1
  obtain ⟨_, h2⟩ := h2
  refine ⟨c6, ?_⟩
  obtain ⟨b7, e8, h1⟩ := h1
  obtain ⟨b9, e10, h2⟩ := h2
  cases e8.symm.trans e10
  refine ⟨b7, e8, ?_⟩
  obtain ⟨b11, e12, h1⟩ := h1
  obtain ⟨b13, e14, h2⟩ := h2
  cases e12.symm.trans e14
  refine ⟨b11, e12, ?_⟩
  obtain ⟨c15, h1⟩ := h1
  obtain ⟨_, h2⟩ := h2
  refine ⟨c15, ?_⟩
  intro x17 e16
  have h1 := h1 x17 e16
  have h2 := h2 x17 e16
  obtain ⟨c18, h1⟩ := h1
  obtain ⟨_, h2⟩ := h2
  refine ⟨c18, ?_⟩
  obtain ⟨c19, h1⟩ := h1
  obtain ⟨_, h2⟩ := h2
  refine ⟨c19, ?_⟩
  intro x21 e20
  have h1 := h1 x21 e20
  have h2 := h2 x21 e20
  obtain ⟨b22, e23, h1⟩ := h1
  obtain ⟨b24, e25, h2⟩ := h2
  cases e23.symm.trans e25
  refine ⟨b22, e23, ?_⟩
  obtain ⟨c26, h1⟩ := h1
  obtain ⟨_, h2⟩ := h2
  refine ⟨c26, ?_⟩
  intro x28 e27
  have h1 := h1 x28 e27
  have h2 := h2 x28 e27
  intro x30 e29
  have h1 := h1 x30 e29
  have h2 := h2 x30 e29
  intro x32 e31
  have h1 := h1 x32 e31
  have h2 := h2 x32 e31
  exact hq _ _ h1 h2
set_option maxRecDepth 20000 in
set_option maxHeartbeats 1000000 in
theorem cm_X4_placeLine_0 {Q1 Q2 Q3 : Int32 → HS → Prop} {v0 : Nat} {S : HS} (h1 : P_X4_placeLine_0 Q1 v0 S) (h2 : P_X4_placeLine_0 Q2 v0 S) (hq : ∀ (r : Int32) (T : HS), Q1 r T → Q2 r T → Q3 r T) : P_X4_placeLine_0 Q3 v0 S := by
  delta P_X4_placeLine_0 at h1 h2 ⊢
  obtain ⟨c1, h1⟩ := h1
  obtain ⟨_, h2⟩ := h2
  refine ⟨c1, ?_⟩
  obtain ⟨b2, e3, h1⟩ := h1
  obtain ⟨b4, e5, h2⟩ := h2
  cases e3.symm.trans e5
  refine ⟨b2, e3, ?_⟩
  obtain ⟨c6, h1⟩ := h1
  obtain ⟨_, h2⟩ := h2
  refine ⟨c6, ?_⟩
  intro x8 e7
  have h1 := h1 x8 e7
  have h2 := h2 x8 e7
  refine cm_X4_newName h1 h2 (fun x9 x10 h1 h2 g11 g12 => ?_)
  have h1 := h1 g11 g12
  have h2 := h2 g11 g12
  refine ⟨?_, ?_⟩
  · intro c13
    have h1 := h1.1 c13
    have h2 := h2.1 c13
    refine cm_X4_is h1 h2 (fun x14 x15 h1 h2 g16 g17 => ?_)
    have h1 := h1 g16 g17
    have h2 := h2 g16 g17
    refine ⟨?_, ?_⟩
    · intro c18
      have h1 := h1.1 c18
      have h2 := h2.1 c18
      refine cm_X4_is h1 h2 (fun x19 x20 h1 h2 g21 g22 => ?_)
      have h1 := h1 g21 g22
      have h2 := h2 g21 g22
      refine ⟨?_, ?_⟩
      · intro c23
        have h1 := h1.1 c23
        have h2 := h2.1 c23
        exact cm_X4_placeLine_64 h1 h2 hq
      · intro c24
        have h1 := h1.2 c24
        have h2 := h2.2 c24
        refine cm_X4_wordAndWhole h1 h2 (fun x25 x26 h1 h2 g27 g28 => ?_)
        have h1 := h1 g27 g28
        have h2 := h2 g27 g28
        refine ⟨?_, ?_⟩
        · intro c29
          have h1 := h1.1 c29
          have h2 := h2.1 c29
          intro x31 e30
          have h1 := h1 x31 e30
          have h2 := h2 x31 e30
          exact cm_X4_placeLine_64 h1 h2 hq
        · intro c32
          have h1 := h1.2 c32
          have h2 := h2.2 c32
          exact hq _ _ h1 h2
    · intro c33
      have h1 := h1.2 c33
      have h2 := h2.2 c33
      refine cm_X4_next h1 h2 (fun x34 h1 h2 g35 => ?_)
      have h1 := h1 g35
      have h2 := h2 g35
      exact cm_X4_placeLine_64 h1 h2 hq
  · intro c36
    have h1 := h1.2 c36
    have h2 := h2.2 c36
    exact hq _ _ h1 h2
theorem cm_X4_placeLine {Q1 Q2 Q3 : Int32 → HS → Prop} {v0 : Nat} {S : HS} (h1 : P_X4_placeLine v0 Q1 S) (h2 : P_X4_placeLine v0 Q2 S) (hq : ∀ (r : Int32) (T : HS), Q1 r T → Q2 r T → Q3 r T) : P_X4_placeLine v0 Q3 S := cm_X4_placeLine_0 h1 h2 hq
set_option maxRecDepth 20000 in
set_option maxHeartbeats 1000000 in
theorem cm_X4_side_74 {Q1 Q2 Q3 : Int32 → HS → Prop} {v0 : Nat} {S : HS} (h1 : P_X4_side_74 Q1 v0 S) (h2 : P_X4_side_74 Q2 v0 S) (hq : ∀ (r : Int32) (T : HS), Q1 r T → Q2 r T → Q3 r T) : P_X4_side_74 Q3 v0 S := by
  delta P_X4_side_74 at h1 h2 ⊢
  obtain ⟨c1, h1⟩ := h1
  obtain ⟨_, h2⟩ := h2
  refine ⟨c1, ?_⟩
  refine cm_X4_next h1 h2 (fun x2 h1 h2 g3 => ?_)
  have h1 := h1 g3
  have h2 := h2 g3
  exact hq _ _ h1 h2
set_option maxRecDepth 20000 in
set_option maxHeartbeats 1000000 in
theorem cm_X4_side_0 {Q1 Q2 Q3 : Int32 → HS → Prop} {v0 : Nat} {S : HS} (h1 : P_X4_side_0 Q1 v0 S) (h2 : P_X4_side_0 Q2 v0 S) (hq : ∀ (r : Int32) (T : HS), Q1 r T → Q2 r T → Q3 r T) : P_X4_side_0 Q3 v0 S := by
  delta P_X4_side_0 at h1 h2 ⊢
  obtain ⟨c1, h1⟩ := h1
  obtain ⟨_, h2⟩ := h2
  refine ⟨c1, ?_⟩
  refine cm_X4_is h1 h2 (fun x2 x3 h1 h2 g4 g5 => ?_)
  have h1 := h1 g4 g5
  have h2 := h2 g4 g5
  refine ⟨?_, ?_⟩
  · intro c6
    have h1 := h1.1 c6
    have h2 := h2.1 c6
    refine cm_X4_is h1 h2 (fun x7 x8 h1 h2 g9 g10 => ?_)
    have h1 := h1 g9 g10
    have h2 := h2 g9 g10
    refine ⟨?_, ?_⟩
    · intro c11
      have h1 := h1.1 c11
      have h2 := h2.1 c11
      refine cm_X4_is h1 h2 (fun x12 x13 h1 h2 g14 g15 => ?_)
      have h1 := h1 g14 g15
      have h2 := h2 g14 g15
      refine ⟨?_, ?_⟩
      · intro c16
        have h1 := h1.1 c16
        have h2 := h2.1 c16
        refine cm_X4_is h1 h2 (fun x17 x18 h1 h2 g19 g20 => ?_)
        have h1 := h1 g19 g20
        have h2 := h2 g19 g20
        refine ⟨?_, ?_⟩
        · intro c21
          have h1 := h1.1 c21
          have h2 := h2.1 c21
          refine cm_X4_fail h1 h2 (fun x22 x23 h1 h2 g24 g25 => ?_)
          have h1 := h1 g24 g25
          have h2 := h2 g24 g25
          obtain ⟨c26, h1⟩ := h1
          obtain ⟨_, h2⟩ := h2
          refine ⟨c26, ?_⟩
          exact hq _ _ h1 h2
        · intro c27
          have h1 := h1.2 c27
          have h2 := h2.2 c27
          intro x29 e28
          have h1 := h1 x29 e28
          have h2 := h2 x29 e28
          exact cm_X4_side_74 h1 h2 hq
      · intro c30
        have h1 := h1.2 c30
        have h2 := h2.2 c30
        intro x32 e31
        have h1 := h1 x32 e31
        have h2 := h2 x32 e31
        exact cm_X4_side_74 h1 h2 hq
    · intro c33
      have h1 := h1.2 c33
      have h2 := h2.2 c33
      intro x35 e34
      have h1 := h1 x35 e34
      have h2 := h2 x35 e34
      exact cm_X4_side_74 h1 h2 hq
  · intro c36
    have h1 := h1.2 c36
    have h2 := h2.2 c36
    intro x38 e37
    have h1 := h1 x38 e37
    have h2 := h2 x38 e37
    exact cm_X4_side_74 h1 h2 hq
theorem cm_X4_side {Q1 Q2 Q3 : Int32 → HS → Prop} {v0 : Nat} {S : HS} (h1 : P_X4_side v0 Q1 S) (h2 : P_X4_side v0 Q2 S) (hq : ∀ (r : Int32) (T : HS), Q1 r T → Q2 r T → Q3 r T) : P_X4_side v0 Q3 S := cm_X4_side_0 h1 h2 hq
set_option maxRecDepth 20000 in
set_option maxHeartbeats 1000000 in
theorem cm_X4_rainLine_0 {Q1 Q2 Q3 : Int32 → HS → Prop} {v0 : Nat} {S : HS} (h1 : P_X4_rainLine_0 Q1 v0 S) (h2 : P_X4_rainLine_0 Q2 v0 S) (hq : ∀ (r : Int32) (T : HS), Q1 r T → Q2 r T → Q3 r T) : P_X4_rainLine_0 Q3 v0 S := by
  delta P_X4_rainLine_0 at h1 h2 ⊢
  obtain ⟨c1, h1⟩ := h1
  obtain ⟨_, h2⟩ := h2
  refine ⟨c1, ?_⟩
  obtain ⟨b2, e3, h1⟩ := h1
  obtain ⟨b4, e5, h2⟩ := h2
  cases e3.symm.trans e5
  refine ⟨b2, e3, ?_⟩
  obtain ⟨c6, h1⟩ := h1
  obtain ⟨_, h2⟩ := h2
  refine ⟨c6, ?_⟩
  obtain ⟨b7, e8, h1⟩ := h1
  obtain ⟨b9, e10, h2⟩ := h2
  cases e8.symm.trans e10
  refine ⟨b7, e8, ?_⟩
  obtain ⟨b11, e12, h1⟩ := h1
  obtain ⟨b13, e14, h2⟩ := h2
  cases e12.symm.trans e14
  refine ⟨b11, e12, ?_⟩
  obtain ⟨c15, h1⟩ := h1
  obtain ⟨_, h2⟩ := h2
  refine ⟨c15, ?_⟩
  intro x17 e16
  have h1 := h1 x17 e16
  have h2 := h2 x17 e16
  obtain ⟨c18, h1⟩ := h1
  obtain ⟨_, h2⟩ := h2
  refine ⟨c18, ?_⟩
  obtain ⟨c19, h1⟩ := h1
  obtain ⟨_, h2⟩ := h2
  refine ⟨c19, ?_⟩
  obtain ⟨b20, e21, h1⟩ := h1
  obtain ⟨b22, e23, h2⟩ := h2
  cases e21.symm.trans e23
  refine ⟨b20, e21, ?_⟩
  refine cm_X4_wordAndWhole h1 h2 (fun x24 x25 h1 h2 g26 g27 => ?_)
  have h1 := h1 g26 g27
  have h2 := h2 g26 g27
  refine ⟨?_, ?_⟩
  · intro c28
    have h1 := h1.1 c28
    have h2 := h2.1 c28
    intro x30 e29
    have h1 := h1 x30 e29
    have h2 := h2 x30 e29
    obtain ⟨c31, h1⟩ := h1
    obtain ⟨_, h2⟩ := h2
    refine ⟨c31, ?_⟩
    intro x33 e32
    have h1 := h1 x33 e32
    have h2 := h2 x33 e32
    refine cm_X4_wordAndWhole h1 h2 (fun x34 x35 h1 h2 g36 g37 => ?_)
    have h1 := h1 g36 g37
    have h2 := h2 g36 g37
    refine ⟨?_, ?_⟩
    · intro c38
      have h1 := h1.1 c38
      have h2 := h2.1 c38
      intro x40 e39
      have h1 := h1 x40 e39
      have h2 := h2 x40 e39
      intro x42 e41
      have h1 := h1 x42 e41
      have h2 := h2 x42 e41
      refine cm_X4_word h1 h2 (fun x43 x44 h1 h2 g45 g46 => ?_)
      have h1 := h1 g45 g46
      have h2 := h2 g45 g46
      refine ⟨?_, ?_⟩
      · intro c47
        have h1 := h1.1 c47
        have h2 := h2.1 c47
        exact hq _ _ h1 h2
      · intro c48
        have h1 := h1.2 c48
        have h2 := h2.2 c48
        refine cm_X4_side h1 h2 (fun x49 x50 h1 h2 g51 g52 => ?_)
        have h1 := h1 g51 g52
        have h2 := h2 g51 g52
        refine ⟨?_, ?_⟩
        · intro c53
          have h1 := h1.1 c53
          have h2 := h2.1 c53
          intro x55 e54
          have h1 := h1 x55 e54
          have h2 := h2 x55 e54
          intro x57 e56
          have h1 := h1 x57 e56
          have h2 := h2 x57 e56
          refine cm_X4_whole h1 h2 (fun x58 x59 h1 h2 g60 g61 => ?_)
          have h1 := h1 g60 g61
          have h2 := h2 g60 g61
          refine ⟨?_, ?_⟩
          · intro c62
            have h1 := h1.1 c62
            have h2 := h2.1 c62
            intro x64 e63
            have h1 := h1 x64 e63
            have h2 := h2 x64 e63
            intro x66 e65
            have h1 := h1 x66 e65
            have h2 := h2 x66 e65
            refine cm_X4_wordAndWhole h1 h2 (fun x67 x68 h1 h2 g69 g70 => ?_)
            have h1 := h1 g69 g70
            have h2 := h2 g69 g70
            refine ⟨?_, ?_⟩
            · intro c71
              have h1 := h1.1 c71
              have h2 := h2.1 c71
              intro x73 e72
              have h1 := h1 x73 e72
              have h2 := h2 x73 e72
              intro x75 e74
              have h1 := h1 x75 e74
              have h2 := h2 x75 e74
              obtain ⟨b76, e77, h1⟩ := h1
              obtain ⟨b78, e79, h2⟩ := h2
              cases e77.symm.trans e79
              refine ⟨b76, e77, ?_⟩
              obtain ⟨c80, h1⟩ := h1
              obtain ⟨_, h2⟩ := h2
              refine ⟨c80, ?_⟩
              intro x82 e81
              have h1 := h1 x82 e81
              have h2 := h2 x82 e81
              intro x84 e83
              have h1 := h1 x84 e83
              have h2 := h2 x84 e83
              intro x86 e85
              have h1 := h1 x86 e85
              have h2 := h2 x86 e85
              exact hq _ _ h1 h2
            · intro c87
              have h1 := h1.2 c87
              have h2 := h2.2 c87
              exact hq _ _ h1 h2
          · intro c88
            have h1 := h1.2 c88
            have h2 := h2.2 c88
            exact hq _ _ h1 h2
        · intro c89
          have h1 := h1.2 c89
          have h2 := h2.2 c89
          exact hq _ _ h1 h2
    · intro c90
      have h1 := h1.2 c90
      have h2 := h2.2 c90
      exact hq _ _ h1 h2
  · intro c91
    have h1 := h1.2 c91
    have h2 := h2.2 c91
    exact hq _ _ h1 h2
theorem cm_X4_rainLine {Q1 Q2 Q3 : Int32 → HS → Prop} {v0 : Nat} {S : HS} (h1 : P_X4_rainLine v0 Q1 S) (h2 : P_X4_rainLine v0 Q2 S) (hq : ∀ (r : Int32) (T : HS), Q1 r T → Q2 r T → Q3 r T) : P_X4_rainLine v0 Q3 S := cm_X4_rainLine_0 h1 h2 hq
set_option maxRecDepth 20000 in
set_option maxHeartbeats 1000000 in
theorem cm_X4_roadLine_130 {Q1 Q2 Q3 : Int32 → HS → Prop} {v0 : Nat} {S : HS} (h1 : P_X4_roadLine_130 Q1 v0 S) (h2 : P_X4_roadLine_130 Q2 v0 S) (hq : ∀ (r : Int32) (T : HS), Q1 r T → Q2 r T → Q3 r T) : P_X4_roadLine_130 Q3 v0 S := by
  delta P_X4_roadLine_130 at h1 h2 ⊢
  obtain ⟨c1, h1⟩ := h1
  obtain ⟨_, h2⟩ := h2
  refine ⟨c1, ?_⟩
  obtain ⟨b2, e3, h1⟩ := h1
  obtain ⟨b4, e5, h2⟩ := h2
  cases e3.symm.trans e5
  refine ⟨b2, e3, ?_⟩
  obtain ⟨c6, h1⟩ := h1
  obtain ⟨_, h2⟩ := h2
  refine ⟨c6, ?_⟩
  intro x8 e7
  have h1 := h1 x8 e7
  have h2 := h2 x8 e7
  intro x10 e9
  have h1 := h1 x10 e9
  have h2 := h2 x10 e9
  intro x12 e11
  have h1 := h1 x12 e11
  have h2 := h2 x12 e11
  exact hq _ _ h1 h2
set_option maxRecDepth 20000 in
set_option maxHeartbeats 1000000 in
theorem cm_X4_roadLine_0 {Q1 Q2 Q3 : Int32 → HS → Prop} {v0 : Nat} {S : HS} (h1 : P_X4_roadLine_0 Q1 v0 S) (h2 : P_X4_roadLine_0 Q2 v0 S) (hq : ∀ (r : Int32) (T : HS), Q1 r T → Q2 r T → Q3 r T) : P_X4_roadLine_0 Q3 v0 S := by
  delta P_X4_roadLine_0 at h1 h2 ⊢
  obtain ⟨c1, h1⟩ := h1
  obtain ⟨_, h2⟩ := h2
  refine ⟨c1, ?_⟩
  obtain ⟨b2, e3, h1⟩ := h1
  obtain ⟨b4, e5, h2⟩ := h2
  cases e3.symm.trans e5
  refine ⟨b2, e3, ?_⟩
  obtain ⟨c6, h1⟩ := h1
  obtain ⟨_, h2⟩ := h2
  refine ⟨c6, ?_⟩
  obtain ⟨b7, e8, h1⟩ := h1
  obtain ⟨b9, e10, h2⟩ := h2
  cases e8.symm.trans e10
  refine ⟨b7, e8, ?_⟩
  obtain ⟨b11, e12, h1⟩ := h1
  obtain ⟨b13, e14, h2⟩ := h2
  cases e12.symm.trans e14
  refine ⟨b11, e12, ?_⟩
  obtain ⟨c15, h1⟩ := h1
  obtain ⟨_, h2⟩ := h2
  refine ⟨c15, ?_⟩
  intro x17 e16
  have h1 := h1 x17 e16
  have h2 := h2 x17 e16
  obtain ⟨c18, h1⟩ := h1
  obtain ⟨_, h2⟩ := h2
  refine ⟨c18, ?_⟩
  obtain ⟨c19, h1⟩ := h1
  obtain ⟨_, h2⟩ := h2
  refine ⟨c19, ?_⟩
  obtain ⟨b20, e21, h1⟩ := h1
  obtain ⟨b22, e23, h2⟩ := h2
  cases e21.symm.trans e23
  refine ⟨b20, e21, ?_⟩
  refine cm_X4_placeBut h1 h2 (fun x24 x25 h1 h2 g26 g27 => ?_)
  have h1 := h1 g26 g27
  have h2 := h2 g26 g27
  refine ⟨?_, ?_⟩
  · intro c28
    have h1 := h1.1 c28
    have h2 := h2.1 c28
    intro x30 e29
    have h1 := h1 x30 e29
    have h2 := h2 x30 e29
    obtain ⟨c31, h1⟩ := h1
    obtain ⟨_, h2⟩ := h2
    refine ⟨c31, ?_⟩
    intro x33 e32
    have h1 := h1 x33 e32
    have h2 := h2 x33 e32
    refine cm_X4_side h1 h2 (fun x34 x35 h1 h2 g36 g37 => ?_)
    have h1 := h1 g36 g37
    have h2 := h2 g36 g37
    refine ⟨?_, ?_⟩
    · intro c38
      have h1 := h1.1 c38
      have h2 := h2.1 c38
      intro x40 e39
      have h1 := h1 x40 e39
      have h2 := h2 x40 e39
      intro x42 e41
      have h1 := h1 x42 e41
      have h2 := h2 x42 e41
      refine cm_X4_whole h1 h2 (fun x43 x44 h1 h2 g45 g46 => ?_)
      have h1 := h1 g45 g46
      have h2 := h2 g45 g46
      refine ⟨?_, ?_⟩
      · intro c47
        have h1 := h1.1 c47
        have h2 := h2.1 c47
        intro x49 e48
        have h1 := h1 x49 e48
        have h2 := h2 x49 e48
        intro x51 e50
        have h1 := h1 x51 e50
        have h2 := h2 x51 e50
        intro x53 e52
        have h1 := h1 x53 e52
        have h2 := h2 x53 e52
        refine cm_X4_placeBut h1 h2 (fun x54 x55 h1 h2 g56 g57 => ?_)
        have h1 := h1 g56 g57
        have h2 := h2 g56 g57
        refine ⟨?_, ?_⟩
        · intro c58
          have h1 := h1.1 c58
          have h2 := h2.1 c58
          intro x60 e59
          have h1 := h1 x60 e59
          have h2 := h2 x60 e59
          intro x62 e61
          have h1 := h1 x62 e61
          have h2 := h2 x62 e61
          intro x64 e63
          have h1 := h1 x64 e63
          have h2 := h2 x64 e63
          refine cm_X4_is h1 h2 (fun x65 x66 h1 h2 g67 g68 => ?_)
          have h1 := h1 g67 g68
          have h2 := h2 g67 g68
          refine ⟨?_, ?_⟩
          · intro c69
            have h1 := h1.1 c69
            have h2 := h2.1 c69
            exact cm_X4_roadLine_130 h1 h2 hq
          · intro c70
            have h1 := h1.2 c70
            have h2 := h2.2 c70
            intro x72 e71
            have h1 := h1 x72 e71
            have h2 := h2 x72 e71
            refine cm_X4_wordAndWhole h1 h2 (fun x73 x74 h1 h2 g75 g76 => ?_)
            have h1 := h1 g75 g76
            have h2 := h2 g75 g76
            refine ⟨?_, ?_⟩
            · intro c77
              have h1 := h1.1 c77
              have h2 := h2.1 c77
              intro x79 e78
              have h1 := h1 x79 e78
              have h2 := h2 x79 e78
              intro x81 e80
              have h1 := h1 x81 e80
              have h2 := h2 x81 e80
              exact cm_X4_roadLine_130 h1 h2 hq
            · intro c82
              have h1 := h1.2 c82
              have h2 := h2.2 c82
              exact hq _ _ h1 h2
        · intro c83
          have h1 := h1.2 c83
          have h2 := h2.2 c83
          exact hq _ _ h1 h2
      · intro c84
        have h1 := h1.2 c84
        have h2 := h2.2 c84
        exact hq _ _ h1 h2
    · intro c85
      have h1 := h1.2 c85
      have h2 := h2.2 c85
      exact hq _ _ h1 h2
  · intro c86
    have h1 := h1.2 c86
    have h2 := h2.2 c86
    exact hq _ _ h1 h2
theorem cm_X4_roadLine {Q1 Q2 Q3 : Int32 → HS → Prop} {v0 : Nat} {S : HS} (h1 : P_X4_roadLine v0 Q1 S) (h2 : P_X4_roadLine v0 Q2 S) (hq : ∀ (r : Int32) (T : HS), Q1 r T → Q2 r T → Q3 r T) : P_X4_roadLine v0 Q3 S := cm_X4_roadLine_0 h1 h2 hq
set_option maxRecDepth 20000 in
set_option maxHeartbeats 1000000 in
theorem cm_X4_sign_0 {Q1 Q2 Q3 : Int32 → HS → Prop} {v0 : Nat} {v1 : Int32} {S : HS} (h1 : P_X4_sign_0 Q1 v0 v1 S) (h2 : P_X4_sign_0 Q2 v0 v1 S) (hq : ∀ (r : Int32) (T : HS), Q1 r T → Q2 r T → Q3 r T) : P_X4_sign_0 Q3 v0 v1 S := by
  delta P_X4_sign_0 at h1 h2 ⊢
  obtain ⟨c1, h1⟩ := h1
  obtain ⟨_, h2⟩ := h2
  refine ⟨c1, ?_⟩
  intro x3 e2
  have h1 := h1 x3 e2
  have h2 := h2 x3 e2
  refine ⟨?_, ?_⟩
  · intro c4
    have h1 := h1.1 c4
    have h2 := h2.1 c4
    refine cm_X4_next h1 h2 (fun x5 h1 h2 g6 => ?_)
    have h1 := h1 g6
    have h2 := h2 g6
    exact hq _ _ h1 h2
  · intro c7
    have h1 := h1.2 c7
    have h2 := h2.2 c7
    refine cm_X4_fail h1 h2 (fun x8 x9 h1 h2 g10 g11 => ?_)
    have h1 := h1 g10 g11
    have h2 := h2 g10 g11
    obtain ⟨c12, h1⟩ := h1
    obtain ⟨_, h2⟩ := h2
    refine ⟨c12, ?_⟩
    exact hq _ _ h1 h2
theorem cm_X4_sign {Q1 Q2 Q3 : Int32 → HS → Prop} {v0 : Nat} {v1 : Int32} {S : HS} (h1 : P_X4_sign v0 v1 Q1 S) (h2 : P_X4_sign v0 v1 Q2 S) (hq : ∀ (r : Int32) (T : HS), Q1 r T → Q2 r T → Q3 r T) : P_X4_sign v0 v1 Q3 S := cm_X4_sign_0 h1 h2 hq
set_option maxRecDepth 20000 in
set_option maxHeartbeats 1000000 in
theorem cm_X4_someWalker_0 {Q1 Q2 Q3 : Int32 → HS → Prop} {v0 : Nat} {S : HS} (h1 : P_X4_someWalker_0 Q1 v0 S) (h2 : P_X4_someWalker_0 Q2 v0 S) (hq : ∀ (r : Int32) (T : HS), Q1 r T → Q2 r T → Q3 r T) : P_X4_someWalker_0 Q3 v0 S := by
  delta P_X4_someWalker_0 at h1 h2 ⊢
  obtain ⟨c1, h1⟩ := h1
  obtain ⟨_, h2⟩ := h2
  refine ⟨c1, ?_⟩
  refine cm_X4_canBeName h1 h2 (fun x2 x3 h1 h2 g4 g5 => ?_)
  have h1 := h1 g4 g5
  have h2 := h2 g4 g5
  refine ⟨?_, ?_⟩
  · intro c6
    have h1 := h1.1 c6
    have h2 := h2.1 c6
    refine cm_X4_findName h1 h2 (fun x7 x8 h1 h2 g9 => ?_)
    have h1 := h1 g9
    have h2 := h2 g9
    refine ⟨?_, ?_⟩
    · intro c10
      have h1 := h1.1 c10
      have h2 := h2.1 c10
      intro x12 e11
      have h1 := h1 x12 e11
      have h2 := h2 x12 e11
      intro x14 e13
      have h1 := h1 x14 e13
      have h2 := h2 x14 e13
      refine cm_X4_next h1 h2 (fun x15 h1 h2 g16 => ?_)
      have h1 := h1 g16
      have h2 := h2 g16
      exact hq _ _ h1 h2
    · intro c17
      have h1 := h1.2 c17
      have h2 := h2.2 c17
      refine cm_X4_fail h1 h2 (fun x18 x19 h1 h2 g20 g21 => ?_)
      have h1 := h1 g20 g21
      have h2 := h2 g20 g21
      obtain ⟨c22, h1⟩ := h1
      obtain ⟨_, h2⟩ := h2
      refine ⟨c22, ?_⟩
      exact hq _ _ h1 h2
  · intro c23
    have h1 := h1.2 c23
    have h2 := h2.2 c23
    refine cm_X4_fail h1 h2 (fun x24 x25 h1 h2 g26 g27 => ?_)
    have h1 := h1 g26 g27
    have h2 := h2 g26 g27
    obtain ⟨c28, h1⟩ := h1
    obtain ⟨_, h2⟩ := h2
    refine ⟨c28, ?_⟩
    exact hq _ _ h1 h2
theorem cm_X4_someWalker {Q1 Q2 Q3 : Int32 → HS → Prop} {v0 : Nat} {S : HS} (h1 : P_X4_someWalker v0 Q1 S) (h2 : P_X4_someWalker v0 Q2 S) (hq : ∀ (r : Int32) (T : HS), Q1 r T → Q2 r T → Q3 r T) : P_X4_someWalker v0 Q3 S := cm_X4_someWalker_0 h1 h2 hq
set_option maxRecDepth 20000 in
set_option maxHeartbeats 1000000 in
theorem cm_X4_seenLine_47 {Q1 Q2 Q3 : Int32 → HS → Prop} {X30_1 X30_2 X30_3 : Nat → Int32 → HS → Prop} {v0 : Nat} {v1 : Int32} {S : HS} (h1 : P_X4_seenLine_47 Q1 X30_1 v0 v1 S) (h2 : P_X4_seenLine_47 Q2 X30_2 v0 v1 S) (hq : ∀ (r : Int32) (T : HS), Q1 r T → Q2 r T → Q3 r T) (hX30 : ∀ (u0 : Nat) (u1 : Int32) (u2 : HS), X30_1 u0 u1 u2 → X30_2 u0 u1 u2 → X30_3 u0 u1 u2) : P_X4_seenLine_47 Q3 X30_3 v0 v1 S := by
  delta P_X4_seenLine_47 at h1 h2 ⊢
  obtain ⟨c1, h1⟩ := h1
  obtain ⟨_, h2⟩ := h2
  refine ⟨c1, ?_⟩
  refine cm_X4_whole h1 h2 (fun x2 x3 h1 h2 g4 g5 => ?_)
  have h1 := h1 g4 g5
  have h2 := h2 g4 g5
  refine ⟨?_, ?_⟩
  · intro c6
    have h1 := h1.1 c6
    have h2 := h2.1 c6
    obtain ⟨b7, e8, h1⟩ := h1
    obtain ⟨b9, e10, h2⟩ := h2
    cases e8.symm.trans e10
    refine ⟨b7, e8, ?_⟩
    obtain ⟨c11, h1⟩ := h1
    obtain ⟨_, h2⟩ := h2
    refine ⟨c11, ?_⟩
    obtain ⟨b12, e13, h1⟩ := h1
    obtain ⟨b14, e15, h2⟩ := h2
    cases e13.symm.trans e15
    refine ⟨b12, e13, ?_⟩
    obtain ⟨b16, e17, h1⟩ := h1
    obtain ⟨b18, e19, h2⟩ := h2
    cases e17.symm.trans e19
    refine ⟨b16, e17, ?_⟩
    obtain ⟨c20, h1⟩ := h1
    obtain ⟨_, h2⟩ := h2
    refine ⟨c20, ?_⟩
    intro x22 e21
    have h1 := h1 x22 e21
    have h2 := h2 x22 e21
    intro x24 e23
    have h1 := h1 x24 e23
    have h2 := h2 x24 e23
    obtain ⟨c25, h1⟩ := h1
    obtain ⟨_, h2⟩ := h2
    refine ⟨c25, ?_⟩
    obtain ⟨c26, h1⟩ := h1
    obtain ⟨_, h2⟩ := h2
    refine ⟨c26, ?_⟩
    intro x28 e27
    have h1 := h1 x28 e27
    have h2 := h2 x28 e27
    intro x30 e29
    have h1 := h1 x30 e29
    have h2 := h2 x30 e29
    exact hX30 _ _ _ h1 h2
  · intro c31
    have h1 := h1.2 c31
    have h2 := h2.2 c31
    exact hq _ _ h1 h2
set_option maxRecDepth 20000 in
set_option maxHeartbeats 1000000 in
theorem cmB_X4_seenLine_30 {Q1 Q2 Q3 : Int32 → HS → Prop} {X30_1 X30_2 X30_3 : Nat → Int32 → HS → Prop} {v0 : Nat} {v1 : Int32} {S : HS} (h1 : B_X4_seenLine_30 Q1 X30_1 v0 v1 S) (h2 : B_X4_seenLine_30 Q2 X30_2 v0 v1 S) (hq : ∀ (r : Int32) (T : HS), Q1 r T → Q2 r T → Q3 r T) (hX30 : ∀ (u0 : Nat) (u1 : Int32) (u2 : HS), X30_1 u0 u1 u2 → X30_2 u0 u1 u2 → X30_3 u0 u1 u2) : B_X4_seenLine_30 Q3 X30_3 v0 v1 S := by
  delta B_X4_seenLine_30 at h1 h2 ⊢
  refine ⟨?_, ?_⟩
  · intro c1
    have h1 := h1.1 c1
    have h2 := h2.1 c1
    obtain ⟨c2, h1⟩ := h1
    obtain ⟨_, h2⟩ := h2
    refine ⟨c2, ?_⟩
    obtain ⟨b3, e4, h1⟩ := h1
    obtain ⟨b5, e6, h2⟩ := h2
    cases e4.symm.trans e6
    refine ⟨b3, e4, ?_⟩
    obtain ⟨c7, h1⟩ := h1
    obtain ⟨_, h2⟩ := h2
    refine ⟨c7, ?_⟩
    intro x9 e8
    have h1 := h1 x9 e8
    have h2 := h2 x9 e8
    intro x11 e10
    have h1 := h1 x11 e10
    have h2 := h2 x11 e10
    intro x13 e12
    have h1 := h1 x13 e12
    have h2 := h2 x13 e12
    exact hq _ _ h1 h2
  · intro c14
    have h1 := h1.2 c14
    have h2 := h2.2 c14
    refine ⟨?_, ?_⟩
    · intro c15
      have h1 := h1.1 c15
      have h2 := h2.1 c15
      exact cm_X4_seenLine_47 h1 h2 hq hX30
    · intro c16
      have h1 := h1.2 c16
      have h2 := h2.2 c16
      obtain ⟨c17, h1⟩ := h1
      obtain ⟨_, h2⟩ := h2
      refine ⟨c17, ?_⟩
      refine cm_X4_sign h1 h2 (fun x18 x19 h1 h2 g20 g21 => ?_)
      have h1 := h1 g20 g21
      have h2 := h2 g20 g21
      refine ⟨?_, ?_⟩
      · intro c22
        have h1 := h1.1 c22
        have h2 := h2.1 c22
        exact hq _ _ h1 h2
      · intro c23
        have h1 := h1.2 c23
        have h2 := h2.2 c23
        exact cm_X4_seenLine_47 h1 h2 hq hX30
theorem fd_X4_seenLine_30 {Q : Int32 → HS → Prop} {v0 : Nat} {v1 : Int32} {S : HS} (h : B_X4_seenLine_30 Q (P_X4_seenLine_30 Q) v0 v1 S) : P_X4_seenLine_30 Q v0 v1 S := fun X hX => hX v0 v1 S (cmB_X4_seenLine_30 h h (fun _ _ a _ => a) (fun _ _ _ hp _ => hp X hX))
theorem uf_X4_seenLine_30 {Q : Int32 → HS → Prop} {v0 : Nat} {v1 : Int32} {S : HS} (h : P_X4_seenLine_30 Q v0 v1 S) : B_X4_seenLine_30 Q (P_X4_seenLine_30 Q) v0 v1 S := h (fun v0 v1 S => B_X4_seenLine_30 Q (P_X4_seenLine_30 Q) v0 v1 S) (fun v0 v1 S hB => cmB_X4_seenLine_30 hB hB (fun _ _ a _ => a) (fun _ _ _ hb _ => fd_X4_seenLine_30 hb))
theorem cm_X4_seenLine_30 {Q1 Q2 Q3 : Int32 → HS → Prop} {v0 : Nat} {v1 : Int32} {S : HS} (h1 : P_X4_seenLine_30 Q1 v0 v1 S) (h2 : P_X4_seenLine_30 Q2 v0 v1 S) (hq : ∀ (r : Int32) (T : HS), Q1 r T → Q2 r T → Q3 r T) : P_X4_seenLine_30 Q3 v0 v1 S := h1 (fun v0 v1 S => P_X4_seenLine_30 Q2 v0 v1 S → P_X4_seenLine_30 Q3 v0 v1 S) (fun v0 v1 S hB hp => fd_X4_seenLine_30 (cmB_X4_seenLine_30 hB (uf_X4_seenLine_30 hp) hq (fun _ _ _ hx hp => hx hp))) h2
set_option maxRecDepth 20000 in
set_option maxHeartbeats 1000000 in
theorem cm_X4_seenLine_0 {Q1 Q2 Q3 : Int32 → HS → Prop} {v0 : Nat} {S : HS} (h1 : P_X4_seenLine_0 Q1 v0 S) (h2 : P_X4_seenLine_0 Q2 v0 S) (hq : ∀ (r : Int32) (T : HS), Q1 r T → Q2 r T → Q3 r T) : P_X4_seenLine_0 Q3 v0 S := by
  delta P_X4_seenLine_0 at h1 h2 ⊢
  obtain ⟨c1, h1⟩ := h1
  obtain ⟨_, h2⟩ := h2
  refine ⟨c1, ?_⟩
  refine cm_X4_someWalker h1 h2 (fun x2 x3 h1 h2 g4 g5 => ?_)
  have h1 := h1 g4 g5
  have h2 := h2 g4 g5
  refine ⟨?_, ?_⟩
  · intro c6
    have h1 := h1.1 c6
    have h2 := h2.1 c6
    obtain ⟨b7, e8, h1⟩ := h1
    obtain ⟨b9, e10, h2⟩ := h2
    cases e8.symm.trans e10
    refine ⟨b7, e8, ?_⟩
    obtain ⟨c11, h1⟩ := h1
    obtain ⟨_, h2⟩ := h2
    refine ⟨c11, ?_⟩
    obtain ⟨b12, e13, h1⟩ := h1
    obtain ⟨b14, e15, h2⟩ := h2
    cases e13.symm.trans e15
    refine ⟨b12, e13, ?_⟩
    obtain ⟨b16, e17, h1⟩ := h1
    obtain ⟨b18, e19, h2⟩ := h2
    cases e17.symm.trans e19
    refine ⟨b16, e17, ?_⟩
    obtain ⟨c20, h1⟩ := h1
    obtain ⟨_, h2⟩ := h2
    refine ⟨c20, ?_⟩
    intro x22 e21
    have h1 := h1 x22 e21
    have h2 := h2 x22 e21
    intro x24 e23
    have h1 := h1 x24 e23
    have h2 := h2 x24 e23
    obtain ⟨c25, h1⟩ := h1
    obtain ⟨_, h2⟩ := h2
    refine ⟨c25, ?_⟩
    obtain ⟨c26, h1⟩ := h1
    obtain ⟨_, h2⟩ := h2
    refine ⟨c26, ?_⟩
    intro x28 e27
    have h1 := h1 x28 e27
    have h2 := h2 x28 e27
    exact cm_X4_seenLine_30 h1 h2 hq
  · intro c29
    have h1 := h1.2 c29
    have h2 := h2.2 c29
    exact hq _ _ h1 h2
theorem cm_X4_seenLine {Q1 Q2 Q3 : Int32 → HS → Prop} {v0 : Nat} {S : HS} (h1 : P_X4_seenLine v0 Q1 S) (h2 : P_X4_seenLine v0 Q2 S) (hq : ∀ (r : Int32) (T : HS), Q1 r T → Q2 r T → Q3 r T) : P_X4_seenLine v0 Q3 S := cm_X4_seenLine_0 h1 h2 hq
set_option maxRecDepth 20000 in
set_option maxHeartbeats 1000000 in
theorem cm_X4_walkerLine_0 {Q1 Q2 Q3 : Int32 → HS → Prop} {v0 : Nat} {S : HS} (h1 : P_X4_walkerLine_0 Q1 v0 S) (h2 : P_X4_walkerLine_0 Q2 v0 S) (hq : ∀ (r : Int32) (T : HS), Q1 r T → Q2 r T → Q3 r T) : P_X4_walkerLine_0 Q3 v0 S := by
  delta P_X4_walkerLine_0 at h1 h2 ⊢
  obtain ⟨c1, h1⟩ := h1
  obtain ⟨_, h2⟩ := h2
  refine ⟨c1, ?_⟩
  obtain ⟨b2, e3, h1⟩ := h1
  obtain ⟨b4, e5, h2⟩ := h2
  cases e3.symm.trans e5
  refine ⟨b2, e3, ?_⟩
  obtain ⟨c6, h1⟩ := h1
  obtain ⟨_, h2⟩ := h2
  refine ⟨c6, ?_⟩
  obtain ⟨b7, e8, h1⟩ := h1
  obtain ⟨b9, e10, h2⟩ := h2
  cases e8.symm.trans e10
  refine ⟨b7, e8, ?_⟩
  obtain ⟨b11, e12, h1⟩ := h1
  obtain ⟨b13, e14, h2⟩ := h2
  cases e12.symm.trans e14
  refine ⟨b11, e12, ?_⟩
  obtain ⟨c15, h1⟩ := h1
  obtain ⟨_, h2⟩ := h2
  refine ⟨c15, ?_⟩
  intro x17 e16
  have h1 := h1 x17 e16
  have h2 := h2 x17 e16
  obtain ⟨c18, h1⟩ := h1
  obtain ⟨_, h2⟩ := h2
  refine ⟨c18, ?_⟩
  obtain ⟨c19, h1⟩ := h1
  obtain ⟨_, h2⟩ := h2
  refine ⟨c19, ?_⟩
  obtain ⟨b20, e21, h1⟩ := h1
  obtain ⟨b22, e23, h2⟩ := h2
  cases e21.symm.trans e23
  refine ⟨b20, e21, ?_⟩
  obtain ⟨b24, e25, h1⟩ := h1
  obtain ⟨b26, e27, h2⟩ := h2
  cases e25.symm.trans e27
  refine ⟨b24, e25, ?_⟩
  obtain ⟨c28, h1⟩ := h1
  obtain ⟨_, h2⟩ := h2
  refine ⟨c28, ?_⟩
  intro x30 e29
  have h1 := h1 x30 e29
  have h2 := h2 x30 e29
  refine cm_X4_newName h1 h2 (fun x31 x32 h1 h2 g33 g34 => ?_)
  have h1 := h1 g33 g34
  have h2 := h2 g33 g34
  refine ⟨?_, ?_⟩
  · intro c35
    have h1 := h1.1 c35
    have h2 := h2.1 c35
    exact hq _ _ h1 h2
  · intro c36
    have h1 := h1.2 c36
    have h2 := h2.2 c36
    refine cm_X4_kindOf h1 h2 (fun x37 x38 h1 h2 g39 g40 => ?_)
    have h1 := h1 g39 g40
    have h2 := h2 g39 g40
    refine ⟨?_, ?_⟩
    · intro c41
      have h1 := h1.1 c41
      have h2 := h2.1 c41
      exact hq _ _ h1 h2
    · intro c42
      have h1 := h1.2 c42
      have h2 := h2.2 c42
      refine cm_X4_bodyOf h1 h2 (fun x43 x44 h1 h2 g45 g46 => ?_)
      have h1 := h1 g45 g46
      have h2 := h2 g45 g46
      refine ⟨?_, ?_⟩
      · intro c47
        have h1 := h1.1 c47
        have h2 := h2.1 c47
        refine cm_X4_wordAndWhole h1 h2 (fun x48 x49 h1 h2 g50 g51 => ?_)
        have h1 := h1 g50 g51
        have h2 := h2 g50 g51
        refine ⟨?_, ?_⟩
        · intro c52
          have h1 := h1.1 c52
          have h2 := h2.1 c52
          intro x54 e53
          have h1 := h1 x54 e53
          have h2 := h2 x54 e53
          obtain ⟨c55, h1⟩ := h1
          obtain ⟨_, h2⟩ := h2
          refine ⟨c55, ?_⟩
          intro x57 e56
          have h1 := h1 x57 e56
          have h2 := h2 x57 e56
          intro x59 e58
          have h1 := h1 x59 e58
          have h2 := h2 x59 e58
          refine cm_X4_wordAndWhole h1 h2 (fun x60 x61 h1 h2 g62 g63 => ?_)
          have h1 := h1 g62 g63
          have h2 := h2 g62 g63
          refine ⟨?_, ?_⟩
          · intro c64
            have h1 := h1.1 c64
            have h2 := h2.1 c64
            intro x66 e65
            have h1 := h1 x66 e65
            have h2 := h2 x66 e65
            intro x68 e67
            have h1 := h1 x68 e67
            have h2 := h2 x68 e67
            obtain ⟨b69, e70, h1⟩ := h1
            obtain ⟨b71, e72, h2⟩ := h2
            cases e70.symm.trans e72
            refine ⟨b69, e70, ?_⟩
            obtain ⟨c73, h1⟩ := h1
            obtain ⟨_, h2⟩ := h2
            refine ⟨c73, ?_⟩
            intro x75 e74
            have h1 := h1 x75 e74
            have h2 := h2 x75 e74
            intro x77 e76
            have h1 := h1 x77 e76
            have h2 := h2 x77 e76
            intro x79 e78
            have h1 := h1 x79 e78
            have h2 := h2 x79 e78
            exact hq _ _ h1 h2
          · intro c80
            have h1 := h1.2 c80
            have h2 := h2.2 c80
            exact hq _ _ h1 h2
        · intro c81
          have h1 := h1.2 c81
          have h2 := h2.2 c81
          exact hq _ _ h1 h2
      · intro c82
        have h1 := h1.2 c82
        have h2 := h2.2 c82
        exact hq _ _ h1 h2
theorem cm_X4_walkerLine {Q1 Q2 Q3 : Int32 → HS → Prop} {v0 : Nat} {S : HS} (h1 : P_X4_walkerLine v0 Q1 S) (h2 : P_X4_walkerLine v0 Q2 S) (hq : ∀ (r : Int32) (T : HS), Q1 r T → Q2 r T → Q3 r T) : P_X4_walkerLine v0 Q3 S := cm_X4_walkerLine_0 h1 h2 hq
set_option maxRecDepth 20000 in
set_option maxHeartbeats 1000000 in
theorem cm_X4_worldLine_0 {Q1 Q2 Q3 : Int32 → HS → Prop} {v0 : Nat} {S : HS} (h1 : P_X4_worldLine_0 Q1 v0 S) (h2 : P_X4_worldLine_0 Q2 v0 S) (hq : ∀ (r : Int32) (T : HS), Q1 r T → Q2 r T → Q3 r T) : P_X4_worldLine_0 Q3 v0 S := by
  delta P_X4_worldLine_0 at h1 h2 ⊢
  obtain ⟨c1, h1⟩ := h1
  obtain ⟨_, h2⟩ := h2
  refine ⟨c1, ?_⟩
  obtain ⟨b2, e3, h1⟩ := h1
  obtain ⟨b4, e5, h2⟩ := h2
  cases e3.symm.trans e5
  refine ⟨b2, e3, ?_⟩
  obtain ⟨c6, h1⟩ := h1
  obtain ⟨_, h2⟩ := h2
  refine ⟨c6, ?_⟩
  refine cm_X8_isTold h1 h2 (fun x7 x8 h1 h2 g9 g10 => ?_)
  have h1 := h1 g9 g10
  have h2 := h2 g9 g10
  refine ⟨?_, ?_⟩
  · intro c11
    have h1 := h1.1 c11
    have h2 := h2.1 c11
    refine cm_X4_next h1 h2 (fun x12 h1 h2 g13 => ?_)
    have h1 := h1 g13
    have h2 := h2 g13
    refine cm_X4_wordAndWhole h1 h2 (fun x14 x15 h1 h2 g16 g17 => ?_)
    have h1 := h1 g16 g17
    have h2 := h2 g16 g17
    refine ⟨?_, ?_⟩
    · intro c18
      have h1 := h1.1 c18
      have h2 := h2.1 c18
      obtain ⟨b19, e20, h1⟩ := h1
      obtain ⟨b21, e22, h2⟩ := h2
      cases e20.symm.trans e22
      refine ⟨b19, e20, ?_⟩
      intro x24 e23
      have h1 := h1 x24 e23
      have h2 := h2 x24 e23
      obtain ⟨c25, h1⟩ := h1
      obtain ⟨_, h2⟩ := h2
      refine ⟨c25, ?_⟩
      intro x27 e26
      have h1 := h1 x27 e26
      have h2 := h2 x27 e26
      exact hq _ _ h1 h2
    · intro c28
      have h1 := h1.2 c28
      have h2 := h2.2 c28
      exact hq _ _ h1 h2
  · intro c29
    have h1 := h1.2 c29
    have h2 := h2.2 c29
    refine cm_X4_fail h1 h2 (fun x30 x31 h1 h2 g32 g33 => ?_)
    have h1 := h1 g32 g33
    have h2 := h2 g32 g33
    obtain ⟨c34, h1⟩ := h1
    obtain ⟨_, h2⟩ := h2
    refine ⟨c34, ?_⟩
    exact hq _ _ h1 h2
theorem cm_X4_worldLine {Q1 Q2 Q3 : Int32 → HS → Prop} {v0 : Nat} {S : HS} (h1 : P_X4_worldLine v0 Q1 S) (h2 : P_X4_worldLine v0 Q2 S) (hq : ∀ (r : Int32) (T : HS), Q1 r T → Q2 r T → Q3 r T) : P_X4_worldLine v0 Q3 S := cm_X4_worldLine_0 h1 h2 hq
set_option maxRecDepth 20000 in
set_option maxHeartbeats 1000000 in
theorem cm_X4_read_280 {Q1 Q2 Q3 : Int32 → HS → Prop} {v0 : Nat} {S : HS} (h1 : P_X4_read_280 Q1 v0 S) (h2 : P_X4_read_280 Q2 v0 S) (hq : ∀ (r : Int32) (T : HS), Q1 r T → Q2 r T → Q3 r T) : P_X4_read_280 Q3 v0 S := by
  delta P_X4_read_280 at h1 h2 ⊢
  obtain ⟨c1, h1⟩ := h1
  obtain ⟨_, h2⟩ := h2
  refine ⟨c1, ?_⟩
  refine cm_X4_fail h1 h2 (fun x2 x3 h1 h2 g4 g5 => ?_)
  have h1 := h1 g4 g5
  have h2 := h2 g4 g5
  refine ⟨?_, ?_⟩
  · intro c6
    have h1 := h1.1 c6
    have h2 := h2.1 c6
    exact hq _ _ h1 h2
  · intro c7
    have h1 := h1.2 c7
    have h2 := h2.2 c7
    exact hq _ _ h1 h2
set_option maxRecDepth 20000 in
set_option maxHeartbeats 1000000 in
theorem cm_X4_read_295 {Q1 Q2 Q3 : Int32 → HS → Prop} {X8_1 X8_2 X8_3 : Nat → Int32 → HS → Prop} {v0 : Nat} {v3 : Int32} {v4 : Int32} {S : HS} (h1 : P_X4_read_295 Q1 X8_1 v0 v3 v4 S) (h2 : P_X4_read_295 Q2 X8_2 v0 v3 v4 S) (hq : ∀ (r : Int32) (T : HS), Q1 r T → Q2 r T → Q3 r T) (hX8 : ∀ (u0 : Nat) (u1 : Int32) (u2 : HS), X8_1 u0 u1 u2 → X8_2 u0 u1 u2 → X8_3 u0 u1 u2) : P_X4_read_295 Q3 X8_3 v0 v3 v4 S := by
  delta P_X4_read_295 at h1 h2 ⊢
  refine ⟨?_, ?_⟩
  · intro c1
    have h1 := h1.1 c1
    have h2 := h2.1 c1
    exact hq _ _ h1 h2
  · intro c2
    have h1 := h1.2 c2
    have h2 := h2.2 c2
    obtain ⟨c3, h1⟩ := h1
    obtain ⟨_, h2⟩ := h2
    refine ⟨c3, ?_⟩
    refine cm_X4_sign h1 h2 (fun x4 x5 h1 h2 g6 g7 => ?_)
    have h1 := h1 g6 g7
    have h2 := h2 g6 g7
    refine ⟨?_, ?_⟩
    · intro c8
      have h1 := h1.1 c8
      have h2 := h2.1 c8
      intro x10 e9
      have h1 := h1 x10 e9
      have h2 := h2 x10 e9
      exact hX8 _ _ _ h1 h2
    · intro c11
      have h1 := h1.2 c11
      have h2 := h2.2 c11
      exact hq _ _ h1 h2
set_option maxRecDepth 20000 in
set_option maxHeartbeats 1000000 in
theorem cm_X4_read_248 {Q1 Q2 Q3 : Int32 → HS → Prop} {X8_1 X8_2 X8_3 : Nat → Int32 → HS → Prop} {v0 : Nat} {v3 : Int32} {v4 : Int32} {S : HS} (h1 : P_X4_read_248 Q1 X8_1 v0 v3 v4 S) (h2 : P_X4_read_248 Q2 X8_2 v0 v3 v4 S) (hq : ∀ (r : Int32) (T : HS), Q1 r T → Q2 r T → Q3 r T) (hX8 : ∀ (u0 : Nat) (u1 : Int32) (u2 : HS), X8_1 u0 u1 u2 → X8_2 u0 u1 u2 → X8_3 u0 u1 u2) : P_X4_read_248 Q3 X8_3 v0 v3 v4 S := by
  delta P_X4_read_248 at h1 h2 ⊢
  refine ⟨?_, ?_⟩
  · intro c1
    have h1 := h1.1 c1
    have h2 := h2.1 c1
    exact cm_X4_read_295 h1 h2 hq hX8
  · intro c2
    have h1 := h1.2 c2
    have h2 := h2.2 c2
    obtain ⟨c3, h1⟩ := h1
    obtain ⟨_, h2⟩ := h2
    refine ⟨c3, ?_⟩
    intro x5 e4
    have h1 := h1 x5 e4
    have h2 := h2 x5 e4
    refine ⟨?_, ?_⟩
    · intro c6
      have h1 := h1.1 c6
      have h2 := h2.1 c6
      exact cm_X4_read_295 h1 h2 hq hX8
    · intro c7
      have h1 := h1.2 c7
      have h2 := h2.2 c7
      obtain ⟨b8, e9, h1⟩ := h1
      obtain ⟨b10, e11, h2⟩ := h2
      cases e9.symm.trans e11
      refine ⟨b8, e9, ?_⟩
      obtain ⟨c12, h1⟩ := h1
      obtain ⟨_, h2⟩ := h2
      refine ⟨c12, ?_⟩
      intro x14 e13
      have h1 := h1 x14 e13
      have h2 := h2 x14 e13
      refine ⟨?_, ?_⟩
      · intro c15
        have h1 := h1.1 c15
        have h2 := h2.1 c15
        exact cm_X4_read_280 h1 h2 hq
      · intro c16
        have h1 := h1.2 c16
        have h2 := h2.2 c16
        obtain ⟨b17, e18, h1⟩ := h1
        obtain ⟨b19, e20, h2⟩ := h2
        cases e18.symm.trans e20
        refine ⟨b17, e18, ?_⟩
        obtain ⟨c21, h1⟩ := h1
        obtain ⟨_, h2⟩ := h2
        refine ⟨c21, ?_⟩
        intro x23 e22
        have h1 := h1 x23 e22
        have h2 := h2 x23 e22
        refine ⟨?_, ?_⟩
        · intro c24
          have h1 := h1.1 c24
          have h2 := h2.1 c24
          exact hq _ _ h1 h2
        · intro c25
          have h1 := h1.2 c25
          have h2 := h2.2 c25
          exact cm_X4_read_280 h1 h2 hq
set_option maxRecDepth 20000 in
set_option maxHeartbeats 1000000 in
theorem cm_X4_read_70 {Q1 Q2 Q3 : Int32 → HS → Prop} {X8_1 X8_2 X8_3 : Nat → Int32 → HS → Prop} {v0 : Nat} {v3 : Int32} {s0 : Int32} {S : HS} (h1 : P_X4_read_70 Q1 X8_1 v0 v3 s0 S) (h2 : P_X4_read_70 Q2 X8_2 v0 v3 s0 S) (hq : ∀ (r : Int32) (T : HS), Q1 r T → Q2 r T → Q3 r T) (hX8 : ∀ (u0 : Nat) (u1 : Int32) (u2 : HS), X8_1 u0 u1 u2 → X8_2 u0 u1 u2 → X8_3 u0 u1 u2) : P_X4_read_70 Q3 X8_3 v0 v3 s0 S := by
  delta P_X4_read_70 at h1 h2 ⊢
  exact cm_X4_read_248 h1 h2 hq hX8
set_option maxRecDepth 20000 in
set_option maxHeartbeats 1000000 in
theorem cm_X4_read_69 {Q1 Q2 Q3 : Int32 → HS → Prop} {X8_1 X8_2 X8_3 : Nat → Int32 → HS → Prop} {v0 : Nat} {v3 : Int32} {S : HS} (h1 : P_X4_read_69 Q1 X8_1 v0 v3 S) (h2 : P_X4_read_69 Q2 X8_2 v0 v3 S) (hq : ∀ (r : Int32) (T : HS), Q1 r T → Q2 r T → Q3 r T) (hX8 : ∀ (u0 : Nat) (u1 : Int32) (u2 : HS), X8_1 u0 u1 u2 → X8_2 u0 u1 u2 → X8_3 u0 u1 u2) : P_X4_read_69 Q3 X8_3 v0 v3 S := by
  delta P_X4_read_69 at h1 h2 ⊢
  exact cm_X4_read_70 h1 h2 hq hX8
set_option maxRecDepth 20000 in
set_option maxHeartbeats 1000000 in
theorem cm_X4_read_112 {Q1 Q2 Q3 : Int32 → HS → Prop} {X8_1 X8_2 X8_3 : Nat → Int32 → HS → Prop} {v0 : Nat} {v3 : Int32} {s0 : Int32} {S : HS} (h1 : P_X4_read_112 Q1 X8_1 v0 v3 s0 S) (h2 : P_X4_read_112 Q2 X8_2 v0 v3 s0 S) (hq : ∀ (r : Int32) (T : HS), Q1 r T → Q2 r T → Q3 r T) (hX8 : ∀ (u0 : Nat) (u1 : Int32) (u2 : HS), X8_1 u0 u1 u2 → X8_2 u0 u1 u2 → X8_3 u0 u1 u2) : P_X4_read_112 Q3 X8_3 v0 v3 s0 S := by
  delta P_X4_read_112 at h1 h2 ⊢
  exact cm_X4_read_248 h1 h2 hq hX8
set_option maxRecDepth 20000 in
set_option maxHeartbeats 1000000 in
theorem cm_X4_read_111 {Q1 Q2 Q3 : Int32 → HS → Prop} {X8_1 X8_2 X8_3 : Nat → Int32 → HS → Prop} {v0 : Nat} {v3 : Int32} {S : HS} (h1 : P_X4_read_111 Q1 X8_1 v0 v3 S) (h2 : P_X4_read_111 Q2 X8_2 v0 v3 S) (hq : ∀ (r : Int32) (T : HS), Q1 r T → Q2 r T → Q3 r T) (hX8 : ∀ (u0 : Nat) (u1 : Int32) (u2 : HS), X8_1 u0 u1 u2 → X8_2 u0 u1 u2 → X8_3 u0 u1 u2) : P_X4_read_111 Q3 X8_3 v0 v3 S := by
  delta P_X4_read_111 at h1 h2 ⊢
  exact cm_X4_read_112 h1 h2 hq hX8
set_option maxRecDepth 20000 in
set_option maxHeartbeats 1000000 in
theorem cm_X4_read_154 {Q1 Q2 Q3 : Int32 → HS → Prop} {X8_1 X8_2 X8_3 : Nat → Int32 → HS → Prop} {v0 : Nat} {v3 : Int32} {s0 : Int32} {S : HS} (h1 : P_X4_read_154 Q1 X8_1 v0 v3 s0 S) (h2 : P_X4_read_154 Q2 X8_2 v0 v3 s0 S) (hq : ∀ (r : Int32) (T : HS), Q1 r T → Q2 r T → Q3 r T) (hX8 : ∀ (u0 : Nat) (u1 : Int32) (u2 : HS), X8_1 u0 u1 u2 → X8_2 u0 u1 u2 → X8_3 u0 u1 u2) : P_X4_read_154 Q3 X8_3 v0 v3 s0 S := by
  delta P_X4_read_154 at h1 h2 ⊢
  exact cm_X4_read_248 h1 h2 hq hX8
set_option maxRecDepth 20000 in
set_option maxHeartbeats 1000000 in
theorem cm_X4_read_153 {Q1 Q2 Q3 : Int32 → HS → Prop} {X8_1 X8_2 X8_3 : Nat → Int32 → HS → Prop} {v0 : Nat} {v3 : Int32} {S : HS} (h1 : P_X4_read_153 Q1 X8_1 v0 v3 S) (h2 : P_X4_read_153 Q2 X8_2 v0 v3 S) (hq : ∀ (r : Int32) (T : HS), Q1 r T → Q2 r T → Q3 r T) (hX8 : ∀ (u0 : Nat) (u1 : Int32) (u2 : HS), X8_1 u0 u1 u2 → X8_2 u0 u1 u2 → X8_3 u0 u1 u2) : P_X4_read_153 Q3 X8_3 v0 v3 S := by
  delta P_X4_read_153 at h1 h2 ⊢
  exact cm_X4_read_154 h1 h2 hq hX8
set_option maxRecDepth 20000 in
set_option maxHeartbeats 1000000 in
theorem cm_X4_read_195 {Q1 Q2 Q3 : Int32 → HS → Prop} {X8_1 X8_2 X8_3 : Nat → Int32 → HS → Prop} {v0 : Nat} {v3 : Int32} {s0 : Int32} {S : HS} (h1 : P_X4_read_195 Q1 X8_1 v0 v3 s0 S) (h2 : P_X4_read_195 Q2 X8_2 v0 v3 s0 S) (hq : ∀ (r : Int32) (T : HS), Q1 r T → Q2 r T → Q3 r T) (hX8 : ∀ (u0 : Nat) (u1 : Int32) (u2 : HS), X8_1 u0 u1 u2 → X8_2 u0 u1 u2 → X8_3 u0 u1 u2) : P_X4_read_195 Q3 X8_3 v0 v3 s0 S := by
  delta P_X4_read_195 at h1 h2 ⊢
  exact cm_X4_read_248 h1 h2 hq hX8
set_option maxRecDepth 20000 in
set_option maxHeartbeats 1000000 in
theorem cm_X4_read_194 {Q1 Q2 Q3 : Int32 → HS → Prop} {X8_1 X8_2 X8_3 : Nat → Int32 → HS → Prop} {v0 : Nat} {v3 : Int32} {S : HS} (h1 : P_X4_read_194 Q1 X8_1 v0 v3 S) (h2 : P_X4_read_194 Q2 X8_2 v0 v3 S) (hq : ∀ (r : Int32) (T : HS), Q1 r T → Q2 r T → Q3 r T) (hX8 : ∀ (u0 : Nat) (u1 : Int32) (u2 : HS), X8_1 u0 u1 u2 → X8_2 u0 u1 u2 → X8_3 u0 u1 u2) : P_X4_read_194 Q3 X8_3 v0 v3 S := by
  delta P_X4_read_194 at h1 h2 ⊢
  exact cm_X4_read_195 h1 h2 hq hX8
set_option maxRecDepth 20000 in
set_option maxHeartbeats 1000000 in
theorem cm_X4_read_236 {Q1 Q2 Q3 : Int32 → HS → Prop} {X8_1 X8_2 X8_3 : Nat → Int32 → HS → Prop} {v0 : Nat} {v3 : Int32} {s0 : Int32} {S : HS} (h1 : P_X4_read_236 Q1 X8_1 v0 v3 s0 S) (h2 : P_X4_read_236 Q2 X8_2 v0 v3 s0 S) (hq : ∀ (r : Int32) (T : HS), Q1 r T → Q2 r T → Q3 r T) (hX8 : ∀ (u0 : Nat) (u1 : Int32) (u2 : HS), X8_1 u0 u1 u2 → X8_2 u0 u1 u2 → X8_3 u0 u1 u2) : P_X4_read_236 Q3 X8_3 v0 v3 s0 S := by
  delta P_X4_read_236 at h1 h2 ⊢
  exact cm_X4_read_248 h1 h2 hq hX8
set_option maxRecDepth 20000 in
set_option maxHeartbeats 1000000 in
theorem cm_X4_read_235 {Q1 Q2 Q3 : Int32 → HS → Prop} {X8_1 X8_2 X8_3 : Nat → Int32 → HS → Prop} {v0 : Nat} {v3 : Int32} {S : HS} (h1 : P_X4_read_235 Q1 X8_1 v0 v3 S) (h2 : P_X4_read_235 Q2 X8_2 v0 v3 S) (hq : ∀ (r : Int32) (T : HS), Q1 r T → Q2 r T → Q3 r T) (hX8 : ∀ (u0 : Nat) (u1 : Int32) (u2 : HS), X8_1 u0 u1 u2 → X8_2 u0 u1 u2 → X8_3 u0 u1 u2) : P_X4_read_235 Q3 X8_3 v0 v3 S := by
  delta P_X4_read_235 at h1 h2 ⊢
  exact cm_X4_read_236 h1 h2 hq hX8
set_option maxRecDepth 20000 in
set_option maxHeartbeats 1000000 in
theorem cmB_X4_read_8 {Q1 Q2 Q3 : Int32 → HS → Prop} {X8_1 X8_2 X8_3 : Nat → Int32 → HS → Prop} {v0 : Nat} {v3 : Int32} {S : HS} (h1 : B_X4_read_8 Q1 X8_1 v0 v3 S) (h2 : B_X4_read_8 Q2 X8_2 v0 v3 S) (hq : ∀ (r : Int32) (T : HS), Q1 r T → Q2 r T → Q3 r T) (hX8 : ∀ (u0 : Nat) (u1 : Int32) (u2 : HS), X8_1 u0 u1 u2 → X8_2 u0 u1 u2 → X8_3 u0 u1 u2) : B_X4_read_8 Q3 X8_3 v0 v3 S := by
  delta B_X4_read_8 at h1 h2 ⊢
  refine ⟨?_, ?_⟩
  · intro c1
    have h1 := h1.1 c1
    have h2 := h2.1 c1
    obtain ⟨c2, h1⟩ := h1
    obtain ⟨_, h2⟩ := h2
    refine ⟨c2, ?_⟩
    refine cm_X4_fail h1 h2 (fun x3 x4 h1 h2 g5 g6 => ?_)
    have h1 := h1 g5 g6
    have h2 := h2 g5 g6
    obtain ⟨c7, h1⟩ := h1
    obtain ⟨_, h2⟩ := h2
    refine ⟨c7, ?_⟩
    exact hq _ _ h1 h2
  · intro c8
    have h1 := h1.2 c8
    have h2 := h2.2 c8
    obtain ⟨c9, h1⟩ := h1
    obtain ⟨_, h2⟩ := h2
    refine ⟨c9, ?_⟩
    refine cm_X4_is h1 h2 (fun x10 x11 h1 h2 g12 g13 => ?_)
    have h1 := h1 g12 g13
    have h2 := h2 g12 g13
    refine ⟨?_, ?_⟩
    · intro c14
      have h1 := h1.1 c14
      have h2 := h2.1 c14
      refine cm_X4_is h1 h2 (fun x15 x16 h1 h2 g17 g18 => ?_)
      have h1 := h1 g17 g18
      have h2 := h2 g17 g18
      refine ⟨?_, ?_⟩
      · intro c19
        have h1 := h1.1 c19
        have h2 := h2.1 c19
        refine cm_X4_is h1 h2 (fun x20 x21 h1 h2 g22 g23 => ?_)
        have h1 := h1 g22 g23
        have h2 := h2 g22 g23
        refine ⟨?_, ?_⟩
        · intro c24
          have h1 := h1.1 c24
          have h2 := h2.1 c24
          refine cm_X4_is h1 h2 (fun x25 x26 h1 h2 g27 g28 => ?_)
          have h1 := h1 g27 g28
          have h2 := h2 g27 g28
          refine ⟨?_, ?_⟩
          · intro c29
            have h1 := h1.1 c29
            have h2 := h2.1 c29
            refine cm_X4_is h1 h2 (fun x30 x31 h1 h2 g32 g33 => ?_)
            have h1 := h1 g32 g33
            have h2 := h2 g32 g33
            refine ⟨?_, ?_⟩
            · intro c34
              have h1 := h1.1 c34
              have h2 := h2.1 c34
              refine cm_X4_is h1 h2 (fun x35 x36 h1 h2 g37 g38 => ?_)
              have h1 := h1 g37 g38
              have h2 := h2 g37 g38
              refine ⟨?_, ?_⟩
              · intro c39
                have h1 := h1.1 c39
                have h2 := h2.1 c39
                refine cm_X4_fail h1 h2 (fun x40 x41 h1 h2 g42 g43 => ?_)
                have h1 := h1 g42 g43
                have h2 := h2 g42 g43
                exact cm_X4_read_248 h1 h2 hq hX8
              · intro c44
                have h1 := h1.2 c44
                have h2 := h2.2 c44
                obtain ⟨b45, e46, h1⟩ := h1
                obtain ⟨b47, e48, h2⟩ := h2
                cases e46.symm.trans e48
                refine ⟨b45, e46, ?_⟩
                obtain ⟨c49, h1⟩ := h1
                obtain ⟨_, h2⟩ := h2
                refine ⟨c49, ?_⟩
                intro x51 e50
                have h1 := h1 x51 e50
                have h2 := h2 x51 e50
                refine cm_X4_hasRoom h1 h2 (fun x52 x53 h1 h2 g54 g55 => ?_)
                have h1 := h1 g54 g55
                have h2 := h2 g54 g55
                refine ⟨?_, ?_⟩
                · intro c56
                  have h1 := h1.1 c56
                  have h2 := h2.1 c56
                  exact cm_X4_read_235 h1 h2 hq hX8
                · intro c57
                  have h1 := h1.2 c57
                  have h2 := h2.2 c57
                  refine cm_X4_seenLine h1 h2 (fun x58 x59 h1 h2 g60 g61 => ?_)
                  have h1 := h1 g60 g61
                  have h2 := h2 g60 g61
                  refine ⟨?_, ?_⟩
                  · intro c62
                    have h1 := h1.1 c62
                    have h2 := h2.1 c62
                    exact cm_X4_read_235 h1 h2 hq hX8
                  · intro c63
                    have h1 := h1.2 c63
                    have h2 := h2.2 c63
                    exact cm_X4_read_236 h1 h2 hq hX8
            · intro c64
              have h1 := h1.2 c64
              have h2 := h2.2 c64
              obtain ⟨b65, e66, h1⟩ := h1
              obtain ⟨b67, e68, h2⟩ := h2
              cases e66.symm.trans e68
              refine ⟨b65, e66, ?_⟩
              obtain ⟨c69, h1⟩ := h1
              obtain ⟨_, h2⟩ := h2
              refine ⟨c69, ?_⟩
              intro x71 e70
              have h1 := h1 x71 e70
              have h2 := h2 x71 e70
              refine cm_X4_hasRoom h1 h2 (fun x72 x73 h1 h2 g74 g75 => ?_)
              have h1 := h1 g74 g75
              have h2 := h2 g74 g75
              refine ⟨?_, ?_⟩
              · intro c76
                have h1 := h1.1 c76
                have h2 := h2.1 c76
                exact cm_X4_read_194 h1 h2 hq hX8
              · intro c77
                have h1 := h1.2 c77
                have h2 := h2.2 c77
                refine cm_X4_walkerLine h1 h2 (fun x78 x79 h1 h2 g80 g81 => ?_)
                have h1 := h1 g80 g81
                have h2 := h2 g80 g81
                refine ⟨?_, ?_⟩
                · intro c82
                  have h1 := h1.1 c82
                  have h2 := h2.1 c82
                  exact cm_X4_read_194 h1 h2 hq hX8
                · intro c83
                  have h1 := h1.2 c83
                  have h2 := h2.2 c83
                  exact cm_X4_read_195 h1 h2 hq hX8
          · intro c84
            have h1 := h1.2 c84
            have h2 := h2.2 c84
            obtain ⟨b85, e86, h1⟩ := h1
            obtain ⟨b87, e88, h2⟩ := h2
            cases e86.symm.trans e88
            refine ⟨b85, e86, ?_⟩
            obtain ⟨c89, h1⟩ := h1
            obtain ⟨_, h2⟩ := h2
            refine ⟨c89, ?_⟩
            intro x91 e90
            have h1 := h1 x91 e90
            have h2 := h2 x91 e90
            refine cm_X4_hasRoom h1 h2 (fun x92 x93 h1 h2 g94 g95 => ?_)
            have h1 := h1 g94 g95
            have h2 := h2 g94 g95
            refine ⟨?_, ?_⟩
            · intro c96
              have h1 := h1.1 c96
              have h2 := h2.1 c96
              exact cm_X4_read_153 h1 h2 hq hX8
            · intro c97
              have h1 := h1.2 c97
              have h2 := h2.2 c97
              refine cm_X4_roadLine h1 h2 (fun x98 x99 h1 h2 g100 g101 => ?_)
              have h1 := h1 g100 g101
              have h2 := h2 g100 g101
              refine ⟨?_, ?_⟩
              · intro c102
                have h1 := h1.1 c102
                have h2 := h2.1 c102
                exact cm_X4_read_153 h1 h2 hq hX8
              · intro c103
                have h1 := h1.2 c103
                have h2 := h2.2 c103
                exact cm_X4_read_154 h1 h2 hq hX8
        · intro c104
          have h1 := h1.2 c104
          have h2 := h2.2 c104
          obtain ⟨b105, e106, h1⟩ := h1
          obtain ⟨b107, e108, h2⟩ := h2
          cases e106.symm.trans e108
          refine ⟨b105, e106, ?_⟩
          obtain ⟨c109, h1⟩ := h1
          obtain ⟨_, h2⟩ := h2
          refine ⟨c109, ?_⟩
          intro x111 e110
          have h1 := h1 x111 e110
          have h2 := h2 x111 e110
          refine cm_X4_hasRoom h1 h2 (fun x112 x113 h1 h2 g114 g115 => ?_)
          have h1 := h1 g114 g115
          have h2 := h2 g114 g115
          refine ⟨?_, ?_⟩
          · intro c116
            have h1 := h1.1 c116
            have h2 := h2.1 c116
            exact cm_X4_read_111 h1 h2 hq hX8
          · intro c117
            have h1 := h1.2 c117
            have h2 := h2.2 c117
            refine cm_X4_placeLine h1 h2 (fun x118 x119 h1 h2 g120 g121 => ?_)
            have h1 := h1 g120 g121
            have h2 := h2 g120 g121
            refine ⟨?_, ?_⟩
            · intro c122
              have h1 := h1.1 c122
              have h2 := h2.1 c122
              exact cm_X4_read_111 h1 h2 hq hX8
            · intro c123
              have h1 := h1.2 c123
              have h2 := h2.2 c123
              exact cm_X4_read_112 h1 h2 hq hX8
      · intro c124
        have h1 := h1.2 c124
        have h2 := h2.2 c124
        obtain ⟨b125, e126, h1⟩ := h1
        obtain ⟨b127, e128, h2⟩ := h2
        cases e126.symm.trans e128
        refine ⟨b125, e126, ?_⟩
        obtain ⟨c129, h1⟩ := h1
        obtain ⟨_, h2⟩ := h2
        refine ⟨c129, ?_⟩
        intro x131 e130
        have h1 := h1 x131 e130
        have h2 := h2 x131 e130
        refine cm_X4_hasRoom h1 h2 (fun x132 x133 h1 h2 g134 g135 => ?_)
        have h1 := h1 g134 g135
        have h2 := h2 g134 g135
        refine ⟨?_, ?_⟩
        · intro c136
          have h1 := h1.1 c136
          have h2 := h2.1 c136
          exact cm_X4_read_69 h1 h2 hq hX8
        · intro c137
          have h1 := h1.2 c137
          have h2 := h2.2 c137
          refine cm_X4_rainLine h1 h2 (fun x138 x139 h1 h2 g140 g141 => ?_)
          have h1 := h1 g140 g141
          have h2 := h2 g140 g141
          refine ⟨?_, ?_⟩
          · intro c142
            have h1 := h1.1 c142
            have h2 := h2.1 c142
            exact cm_X4_read_69 h1 h2 hq hX8
          · intro c143
            have h1 := h1.2 c143
            have h2 := h2.2 c143
            exact cm_X4_read_70 h1 h2 hq hX8
    · intro c144
      have h1 := h1.2 c144
      have h2 := h2.2 c144
      refine cm_X4_worldLine h1 h2 (fun x145 x146 h1 h2 g147 g148 => ?_)
      have h1 := h1 g147 g148
      have h2 := h2 g147 g148
      exact cm_X4_read_248 h1 h2 hq hX8
theorem fd_X4_read_8 {Q : Int32 → HS → Prop} {v0 : Nat} {v3 : Int32} {S : HS} (h : B_X4_read_8 Q (P_X4_read_8 Q) v0 v3 S) : P_X4_read_8 Q v0 v3 S := fun X hX => hX v0 v3 S (cmB_X4_read_8 h h (fun _ _ a _ => a) (fun _ _ _ hp _ => hp X hX))
theorem uf_X4_read_8 {Q : Int32 → HS → Prop} {v0 : Nat} {v3 : Int32} {S : HS} (h : P_X4_read_8 Q v0 v3 S) : B_X4_read_8 Q (P_X4_read_8 Q) v0 v3 S := h (fun v0 v3 S => B_X4_read_8 Q (P_X4_read_8 Q) v0 v3 S) (fun v0 v3 S hB => cmB_X4_read_8 hB hB (fun _ _ a _ => a) (fun _ _ _ hb _ => fd_X4_read_8 hb))
theorem cm_X4_read_8 {Q1 Q2 Q3 : Int32 → HS → Prop} {v0 : Nat} {v3 : Int32} {S : HS} (h1 : P_X4_read_8 Q1 v0 v3 S) (h2 : P_X4_read_8 Q2 v0 v3 S) (hq : ∀ (r : Int32) (T : HS), Q1 r T → Q2 r T → Q3 r T) : P_X4_read_8 Q3 v0 v3 S := h1 (fun v0 v3 S => P_X4_read_8 Q2 v0 v3 S → P_X4_read_8 Q3 v0 v3 S) (fun v0 v3 S hB hp => fd_X4_read_8 (cmB_X4_read_8 hB (uf_X4_read_8 hp) hq (fun _ _ _ hx hp => hx hp))) h2
set_option maxRecDepth 20000 in
set_option maxHeartbeats 1000000 in
theorem cm_X4_read_0 {Q1 Q2 Q3 : Int32 → HS → Prop} {v0 : Nat} {v1 : Nat} {v2 : Int32} {S : HS} (h1 : P_X4_read_0 Q1 v0 v1 v2 S) (h2 : P_X4_read_0 Q2 v0 v1 v2 S) (hq : ∀ (r : Int32) (T : HS), Q1 r T → Q2 r T → Q3 r T) : P_X4_read_0 Q3 v0 v1 v2 S := by
  delta P_X4_read_0 at h1 h2 ⊢
  obtain ⟨c1, h1⟩ := h1
  obtain ⟨_, h2⟩ := h2
  refine ⟨c1, ?_⟩
  refine cm_X4_open h1 h2 (fun x2 h1 h2 g3 => ?_)
  have h1 := h1 g3
  have h2 := h2 g3
  exact cm_X4_read_8 h1 h2 hq
theorem cm_X4_read {Q1 Q2 Q3 : Int32 → HS → Prop} {v0 : Nat} {v1 : Nat} {v2 : Int32} {S : HS} (h1 : P_X4_read v0 v1 v2 Q1 S) (h2 : P_X4_read v0 v1 v2 Q2 S) (hq : ∀ (r : Int32) (T : HS), Q1 r T → Q2 r T → Q3 r T) : P_X4_read v0 v1 v2 Q3 S := cm_X4_read_0 h1 h2 hq
set_option maxRecDepth 20000 in
set_option maxHeartbeats 1000000 in
theorem cm_X5_endOf_0 {Q1 Q2 Q3 : Int32 → HS → Prop} {v0 : Nat} {v1 : Int32} {S : HS} (h1 : P_X5_endOf_0 Q1 v0 v1 S) (h2 : P_X5_endOf_0 Q2 v0 v1 S) (hq : ∀ (r : Int32) (T : HS), Q1 r T → Q2 r T → Q3 r T) : P_X5_endOf_0 Q3 v0 v1 S := by
  delta P_X5_endOf_0 at h1 h2 ⊢
  refine ⟨?_, ?_⟩
  · intro c1
    have h1 := h1.1 c1
    have h2 := h2.1 c1
    obtain ⟨c2, h1⟩ := h1
    obtain ⟨_, h2⟩ := h2
    refine ⟨c2, ?_⟩
    intro x4 e3
    have h1 := h1 x4 e3
    have h2 := h2 x4 e3
    exact hq _ _ h1 h2
  · intro c5
    have h1 := h1.2 c5
    have h2 := h2.2 c5
    obtain ⟨c6, h1⟩ := h1
    obtain ⟨_, h2⟩ := h2
    refine ⟨c6, ?_⟩
    intro x8 e7
    have h1 := h1 x8 e7
    have h2 := h2 x8 e7
    exact hq _ _ h1 h2
theorem cm_X5_endOf {Q1 Q2 Q3 : Int32 → HS → Prop} {v0 : Nat} {v1 : Int32} {S : HS} (h1 : P_X5_endOf v0 v1 Q1 S) (h2 : P_X5_endOf v0 v1 Q2 S) (hq : ∀ (r : Int32) (T : HS), Q1 r T → Q2 r T → Q3 r T) : P_X5_endOf v0 v1 Q3 S := cm_X5_endOf_0 h1 h2 hq
set_option maxRecDepth 20000 in
set_option maxHeartbeats 1000000 in
theorem cm_X5_minutesAt_0 {Q1 Q2 Q3 : Int32 → HS → Prop} {v0 : Nat} {v1 : Int32} {S : HS} (h1 : P_X5_minutesAt_0 Q1 v0 v1 S) (h2 : P_X5_minutesAt_0 Q2 v0 v1 S) (hq : ∀ (r : Int32) (T : HS), Q1 r T → Q2 r T → Q3 r T) : P_X5_minutesAt_0 Q3 v0 v1 S := by
  delta P_X5_minutesAt_0 at h1 h2 ⊢
  refine ⟨?_, ?_⟩
  · intro c1
    have h1 := h1.1 c1
    have h2 := h2.1 c1
    exact hq _ _ h1 h2
  · intro c2
    have h1 := h1.2 c2
    have h2 := h2.2 c2
    obtain ⟨c3, h1⟩ := h1
    obtain ⟨_, h2⟩ := h2
    refine ⟨c3, ?_⟩
    intro x5 e4
    have h1 := h1 x5 e4
    have h2 := h2 x5 e4
    obtain ⟨c6, h1⟩ := h1
    obtain ⟨_, h2⟩ := h2
    refine ⟨c6, ?_⟩
    intro x8 e7
    have h1 := h1 x8 e7
    have h2 := h2 x8 e7
    exact hq _ _ h1 h2
theorem cm_X5_minutesAt {Q1 Q2 Q3 : Int32 → HS → Prop} {v0 : Nat} {v1 : Int32} {S : HS} (h1 : P_X5_minutesAt v0 v1 Q1 S) (h2 : P_X5_minutesAt v0 v1 Q2 S) (hq : ∀ (r : Int32) (T : HS), Q1 r T → Q2 r T → Q3 r T) : P_X5_minutesAt v0 v1 Q3 S := cm_X5_minutesAt_0 h1 h2 hq
set_option maxRecDepth 20000 in
set_option maxHeartbeats 1000000 in
theorem cm_X5_startOf_0 {Q1 Q2 Q3 : Int32 → HS → Prop} {v0 : Nat} {v1 : Int32} {S : HS} (h1 : P_X5_startOf_0 Q1 v0 v1 S) (h2 : P_X5_startOf_0 Q2 v0 v1 S) (hq : ∀ (r : Int32) (T : HS), Q1 r T → Q2 r T → Q3 r T) : P_X5_startOf_0 Q3 v0 v1 S := by
  delta P_X5_startOf_0 at h1 h2 ⊢
  refine ⟨?_, ?_⟩
  · intro c1
    have h1 := h1.1 c1
    have h2 := h2.1 c1
    obtain ⟨c2, h1⟩ := h1
    obtain ⟨_, h2⟩ := h2
    refine ⟨c2, ?_⟩
    intro x4 e3
    have h1 := h1 x4 e3
    have h2 := h2 x4 e3
    exact hq _ _ h1 h2
  · intro c5
    have h1 := h1.2 c5
    have h2 := h2.2 c5
    obtain ⟨c6, h1⟩ := h1
    obtain ⟨_, h2⟩ := h2
    refine ⟨c6, ?_⟩
    intro x8 e7
    have h1 := h1 x8 e7
    have h2 := h2 x8 e7
    exact hq _ _ h1 h2
theorem cm_X5_startOf {Q1 Q2 Q3 : Int32 → HS → Prop} {v0 : Nat} {v1 : Int32} {S : HS} (h1 : P_X5_startOf v0 v1 Q1 S) (h2 : P_X5_startOf v0 v1 Q2 S) (hq : ∀ (r : Int32) (T : HS), Q1 r T → Q2 r T → Q3 r T) : P_X5_startOf v0 v1 Q3 S := cm_X5_startOf_0 h1 h2 hq
set_option maxRecDepth 20000 in
set_option maxHeartbeats 1000000 in
theorem cm_X5_tell_0 {Q1 Q2 Q3 : Int32 → HS → Prop} {v0 : Nat} {v1 : Int32} {S : HS} (h1 : P_X5_tell_0 Q1 v0 v1 S) (h2 : P_X5_tell_0 Q2 v0 v1 S) (hq : ∀ (r : Int32) (T : HS), Q1 r T → Q2 r T → Q3 r T) : P_X5_tell_0 Q3 v0 v1 S := by
  delta P_X5_tell_0 at h1 h2 ⊢
  refine ⟨?_, ?_, ?_, ?_, ?_⟩
  · intro c1
    have h1 := h1.1 c1
    have h2 := h2.1 c1
    obtain ⟨c2, h1⟩ := h1
    obtain ⟨_, h2⟩ := h2
    refine ⟨c2, ?_⟩
    intro x4 e3
    have h1 := h1 x4 e3
    have h2 := h2 x4 e3
    exact hq _ _ h1 h2
  · intro c5
    have h1 := h1.2.1 c5
    have h2 := h2.2.1 c5
    obtain ⟨c6, h1⟩ := h1
    obtain ⟨_, h2⟩ := h2
    refine ⟨c6, ?_⟩
    intro x8 e7
    have h1 := h1 x8 e7
    have h2 := h2 x8 e7
    exact hq _ _ h1 h2
  · intro c9
    have h1 := h1.2.2.1 c9
    have h2 := h2.2.2.1 c9
    obtain ⟨c10, h1⟩ := h1
    obtain ⟨_, h2⟩ := h2
    refine ⟨c10, ?_⟩
    intro x12 e11
    have h1 := h1 x12 e11
    have h2 := h2 x12 e11
    exact hq _ _ h1 h2
  · intro c13
    have h1 := h1.2.2.2.1 c13
    have h2 := h2.2.2.2.1 c13
    obtain ⟨c14, h1⟩ := h1
    obtain ⟨_, h2⟩ := h2
    refine ⟨c14, ?_⟩
    intro x16 e15
    have h1 := h1 x16 e15
    have h2 := h2 x16 e15
    exact hq _ _ h1 h2
  · intro c17
    have h1 := h1.2.2.2.2 c17
    have h2 := h2.2.2.2.2 c17
    obtain ⟨c18, h1⟩ := h1
    obtain ⟨_, h2⟩ := h2
    refine ⟨c18, ?_⟩
    intro x20 e19
    have h1 := h1 x20 e19
    have h2 := h2 x20 e19
    exact hq _ _ h1 h2
theorem cm_X5_tell {Q1 Q2 Q3 : Int32 → HS → Prop} {v0 : Nat} {v1 : Int32} {S : HS} (h1 : P_X5_tell v0 v1 Q1 S) (h2 : P_X5_tell v0 v1 Q2 S) (hq : ∀ (r : Int32) (T : HS), Q1 r T → Q2 r T → Q3 r T) : P_X5_tell v0 v1 Q3 S := cm_X5_tell_0 h1 h2 hq
set_option maxRecDepth 20000 in
set_option maxHeartbeats 1000000 in
theorem cm_X5_touches_0 {Q1 Q2 Q3 : Int32 → HS → Prop} {v0 : Nat} {v1 : Int32} {S : HS} (h1 : P_X5_touches_0 Q1 v0 v1 S) (h2 : P_X5_touches_0 Q2 v0 v1 S) (hq : ∀ (r : Int32) (T : HS), Q1 r T → Q2 r T → Q3 r T) : P_X5_touches_0 Q3 v0 v1 S := by
  delta P_X5_touches_0 at h1 h2 ⊢
  obtain ⟨c1, h1⟩ := h1
  obtain ⟨_, h2⟩ := h2
  refine ⟨c1, ?_⟩
  intro x3 e2
  have h1 := h1 x3 e2
  have h2 := h2 x3 e2
  refine ⟨?_, ?_⟩
  · intro c4
    have h1 := h1.1 c4
    have h2 := h2.1 c4
    exact hq _ _ h1 h2
  · intro c5
    have h1 := h1.2 c5
    have h2 := h2.2 c5
    intro x7 e6
    have h1 := h1 x7 e6
    have h2 := h2 x7 e6
    refine ⟨?_, ?_⟩
    · intro c8
      have h1 := h1.1 c8
      have h2 := h2.1 c8
      exact hq _ _ h1 h2
    · intro c9
      have h1 := h1.2 c9
      have h2 := h2.2 c9
      exact hq _ _ h1 h2
theorem cm_X5_touches {Q1 Q2 Q3 : Int32 → HS → Prop} {v0 : Nat} {v1 : Int32} {S : HS} (h1 : P_X5_touches v0 v1 Q1 S) (h2 : P_X5_touches v0 v1 Q2 S) (hq : ∀ (r : Int32) (T : HS), Q1 r T → Q2 r T → Q3 r T) : P_X5_touches v0 v1 Q3 S := cm_X5_touches_0 h1 h2 hq
set_option maxRecDepth 20000 in
set_option maxHeartbeats 1000000 in
theorem cm_X6_tell_0 {Q1 Q2 Q3 : Int32 → HS → Prop} {v0 : Nat} {v1 : Int32} {S : HS} (h1 : P_X6_tell_0 Q1 v0 v1 S) (h2 : P_X6_tell_0 Q2 v0 v1 S) (hq : ∀ (r : Int32) (T : HS), Q1 r T → Q2 r T → Q3 r T) : P_X6_tell_0 Q3 v0 v1 S := by
  delta P_X6_tell_0 at h1 h2 ⊢
  refine ⟨?_, ?_, ?_, ?_, ?_, ?_, ?_⟩
  · intro c1
    have h1 := h1.1 c1
    have h2 := h2.1 c1
    obtain ⟨c2, h1⟩ := h1
    obtain ⟨_, h2⟩ := h2
    refine ⟨c2, ?_⟩
    intro x4 e3
    have h1 := h1 x4 e3
    have h2 := h2 x4 e3
    exact hq _ _ h1 h2
  · intro c5
    have h1 := h1.2.1 c5
    have h2 := h2.2.1 c5
    obtain ⟨c6, h1⟩ := h1
    obtain ⟨_, h2⟩ := h2
    refine ⟨c6, ?_⟩
    intro x8 e7
    have h1 := h1 x8 e7
    have h2 := h2 x8 e7
    exact hq _ _ h1 h2
  · intro c9
    have h1 := h1.2.2.1 c9
    have h2 := h2.2.2.1 c9
    obtain ⟨c10, h1⟩ := h1
    obtain ⟨_, h2⟩ := h2
    refine ⟨c10, ?_⟩
    intro x12 e11
    have h1 := h1 x12 e11
    have h2 := h2 x12 e11
    exact hq _ _ h1 h2
  · intro c13
    have h1 := h1.2.2.2.1 c13
    have h2 := h2.2.2.2.1 c13
    obtain ⟨c14, h1⟩ := h1
    obtain ⟨_, h2⟩ := h2
    refine ⟨c14, ?_⟩
    intro x16 e15
    have h1 := h1 x16 e15
    have h2 := h2 x16 e15
    exact hq _ _ h1 h2
  · intro c17
    have h1 := h1.2.2.2.2.1 c17
    have h2 := h2.2.2.2.2.1 c17
    obtain ⟨c18, h1⟩ := h1
    obtain ⟨_, h2⟩ := h2
    refine ⟨c18, ?_⟩
    intro x20 e19
    have h1 := h1 x20 e19
    have h2 := h2 x20 e19
    exact hq _ _ h1 h2
  · intro c21
    have h1 := h1.2.2.2.2.2.1 c21
    have h2 := h2.2.2.2.2.2.1 c21
    obtain ⟨c22, h1⟩ := h1
    obtain ⟨_, h2⟩ := h2
    refine ⟨c22, ?_⟩
    intro x24 e23
    have h1 := h1 x24 e23
    have h2 := h2 x24 e23
    exact hq _ _ h1 h2
  · intro c25
    have h1 := h1.2.2.2.2.2.2 c25
    have h2 := h2.2.2.2.2.2.2 c25
    obtain ⟨c26, h1⟩ := h1
    obtain ⟨_, h2⟩ := h2
    refine ⟨c26, ?_⟩
    intro x28 e27
    have h1 := h1 x28 e27
    have h2 := h2 x28 e27
    exact hq _ _ h1 h2
theorem cm_X6_tell {Q1 Q2 Q3 : Int32 → HS → Prop} {v0 : Nat} {v1 : Int32} {S : HS} (h1 : P_X6_tell v0 v1 Q1 S) (h2 : P_X6_tell v0 v1 Q2 S) (hq : ∀ (r : Int32) (T : HS), Q1 r T → Q2 r T → Q3 r T) : P_X6_tell v0 v1 Q3 S := cm_X6_tell_0 h1 h2 hq
set_option maxRecDepth 20000 in
set_option maxHeartbeats 1000000 in
theorem cm_X7_addMove_0 {Q1 Q2 Q3 : HS → Prop} {v0 : Nat} {v1 : Int32} {v2 : Int32} {v3 : Int32} {v4 : Int64} {v6 : Int32} {S : HS} (h1 : P_X7_addMove_0 Q1 v0 v1 v2 v3 v4 v6 S) (h2 : P_X7_addMove_0 Q2 v0 v1 v2 v3 v4 v6 S) (hq : ∀ (T : HS), Q1 T → Q2 T → Q3 T) : P_X7_addMove_0 Q3 v0 v1 v2 v3 v4 v6 S := by
  delta P_X7_addMove_0 at h1 h2 ⊢
  obtain ⟨c1, h1⟩ := h1
  obtain ⟨_, h2⟩ := h2
  refine ⟨c1, ?_⟩
  intro x3 e2
  have h1 := h1 x3 e2
  have h2 := h2 x3 e2
  refine ⟨?_, ?_⟩
  · intro c4
    have h1 := h1.1 c4
    have h2 := h2.1 c4
    exact hq _ h1 h2
  · intro c5
    have h1 := h1.2 c5
    have h2 := h2.2 c5
    intro x7 e6
    have h1 := h1 x7 e6
    have h2 := h2 x7 e6
    refine ⟨?_, ?_⟩
    · intro c8
      have h1 := h1.1 c8
      have h2 := h2.1 c8
      exact hq _ h1 h2
    · intro c9
      have h1 := h1.2 c9
      have h2 := h2.2 c9
      intro x11 e10
      have h1 := h1 x11 e10
      have h2 := h2 x11 e10
      refine ⟨?_, ?_⟩
      · intro c12
        have h1 := h1.1 c12
        have h2 := h2.1 c12
        obtain ⟨b13, e14, h1⟩ := h1
        obtain ⟨b15, e16, h2⟩ := h2
        cases e14.symm.trans e16
        refine ⟨b13, e14, ?_⟩
        intro x18 e17
        have h1 := h1 x18 e17
        have h2 := h2 x18 e17
        obtain ⟨c19, h1⟩ := h1
        obtain ⟨_, h2⟩ := h2
        refine ⟨c19, ?_⟩
        intro x21 e20
        have h1 := h1 x21 e20
        have h2 := h2 x21 e20
        obtain ⟨c22, h1⟩ := h1
        obtain ⟨_, h2⟩ := h2
        refine ⟨c22, ?_⟩
        intro x24 e23
        have h1 := h1 x24 e23
        have h2 := h2 x24 e23
        obtain ⟨b25, e26, h1⟩ := h1
        obtain ⟨b27, e28, h2⟩ := h2
        cases e26.symm.trans e28
        refine ⟨b25, e26, ?_⟩
        intro x30 e29
        have h1 := h1 x30 e29
        have h2 := h2 x30 e29
        obtain ⟨c31, h1⟩ := h1
        obtain ⟨_, h2⟩ := h2
        refine ⟨c31, ?_⟩
        intro x33 e32
        have h1 := h1 x33 e32
        have h2 := h2 x33 e32
        obtain ⟨c34, h1⟩ := h1
        obtain ⟨_, h2⟩ := h2
        refine ⟨c34, ?_⟩
        intro x36 e35
        have h1 := h1 x36 e35
        have h2 := h2 x36 e35
        obtain ⟨b37, e38, h1⟩ := h1
        obtain ⟨b39, e40, h2⟩ := h2
        cases e38.symm.trans e40
        refine ⟨b37, e38, ?_⟩
        intro x42 e41
        have h1 := h1 x42 e41
        have h2 := h2 x42 e41
        obtain ⟨c43, h1⟩ := h1
        obtain ⟨_, h2⟩ := h2
        refine ⟨c43, ?_⟩
        obtain ⟨c44, h1⟩ := h1
        obtain ⟨_, h2⟩ := h2
        refine ⟨c44, ?_⟩
        intro x46 e45
        have h1 := h1 x46 e45
        have h2 := h2 x46 e45
        obtain ⟨b47, e48, h1⟩ := h1
        obtain ⟨b49, e50, h2⟩ := h2
        cases e48.symm.trans e50
        refine ⟨b47, e48, ?_⟩
        intro x52 e51
        have h1 := h1 x52 e51
        have h2 := h2 x52 e51
        obtain ⟨c53, h1⟩ := h1
        obtain ⟨_, h2⟩ := h2
        refine ⟨c53, ?_⟩
        intro x55 e54
        have h1 := h1 x55 e54
        have h2 := h2 x55 e54
        obtain ⟨c56, h1⟩ := h1
        obtain ⟨_, h2⟩ := h2
        refine ⟨c56, ?_⟩
        intro x58 e57
        have h1 := h1 x58 e57
        have h2 := h2 x58 e57
        obtain ⟨b59, e60, h1⟩ := h1
        obtain ⟨b61, e62, h2⟩ := h2
        cases e60.symm.trans e62
        refine ⟨b59, e60, ?_⟩
        intro x64 e63
        have h1 := h1 x64 e63
        have h2 := h2 x64 e63
        obtain ⟨c65, h1⟩ := h1
        obtain ⟨_, h2⟩ := h2
        refine ⟨c65, ?_⟩
        obtain ⟨c66, h1⟩ := h1
        obtain ⟨_, h2⟩ := h2
        refine ⟨c66, ?_⟩
        intro x68 e67
        have h1 := h1 x68 e67
        have h2 := h2 x68 e67
        intro x70 e69
        have h1 := h1 x70 e69
        have h2 := h2 x70 e69
        intro x72 e71
        have h1 := h1 x72 e71
        have h2 := h2 x72 e71
        intro x74 e73
        have h1 := h1 x74 e73
        have h2 := h2 x74 e73
        exact hq _ h1 h2
      · intro c75
        have h1 := h1.2 c75
        have h2 := h2.2 c75
        exact hq _ h1 h2
theorem cm_X7_addMove {Q1 Q2 Q3 : HS → Prop} {v0 : Nat} {v1 : Int32} {v2 : Int32} {v3 : Int32} {v4 : Int64} {v6 : Int32} {S : HS} (h1 : P_X7_addMove v0 v1 v2 v3 v4 v6 Q1 S) (h2 : P_X7_addMove v0 v1 v2 v3 v4 v6 Q2 S) (hq : ∀ (T : HS), Q1 T → Q2 T → Q3 T) : P_X7_addMove v0 v1 v2 v3 v4 v6 Q3 S := cm_X7_addMove_0 h1 h2 hq
set_option maxRecDepth 20000 in
set_option maxHeartbeats 1000000 in
theorem cm_X7_addLeg_82 {Q1 Q2 Q3 : HS → Prop} {v0 : Nat} {v1 : Nat} {v2 : Int32} {v4 : Int64} {v6 : Int32} {v7 : Int32} {S : HS} (h1 : P_X7_addLeg_82 Q1 v0 v1 v2 v4 v6 v7 S) (h2 : P_X7_addLeg_82 Q2 v0 v1 v2 v4 v6 v7 S) (hq : ∀ (T : HS), Q1 T → Q2 T → Q3 T) : P_X7_addLeg_82 Q3 v0 v1 v2 v4 v6 v7 S := by
  delta P_X7_addLeg_82 at h1 h2 ⊢
  obtain ⟨c1, h1⟩ := h1
  obtain ⟨_, h2⟩ := h2
  refine ⟨c1, ?_⟩
  refine cm_X5_startOf h1 h2 (fun x2 x3 h1 h2 g4 => ?_)
  have h1 := h1 g4
  have h2 := h2 g4
  refine cm_X5_endOf h1 h2 (fun x5 x6 h1 h2 g7 => ?_)
  have h1 := h1 g7
  have h2 := h2 g7
  obtain ⟨c8, h1⟩ := h1
  obtain ⟨_, h2⟩ := h2
  refine ⟨c8, ?_⟩
  refine cm_X7_addMove h1 h2 (fun x9 h1 h2 g10 => ?_)
  have h1 := h1 g10
  have h2 := h2 g10
  exact hq _ h1 h2
set_option maxRecDepth 20000 in
set_option maxHeartbeats 1000000 in
theorem cm_X7_addLeg_0 {Q1 Q2 Q3 : HS → Prop} {v0 : Nat} {v1 : Nat} {v2 : Int32} {v3 : Int32} {v4 : Int64} {v6 : Int32} {S : HS} (h1 : P_X7_addLeg_0 Q1 v0 v1 v2 v3 v4 v6 S) (h2 : P_X7_addLeg_0 Q2 v0 v1 v2 v3 v4 v6 S) (hq : ∀ (T : HS), Q1 T → Q2 T → Q3 T) : P_X7_addLeg_0 Q3 v0 v1 v2 v3 v4 v6 S := by
  delta P_X7_addLeg_0 at h1 h2 ⊢
  obtain ⟨c1, h1⟩ := h1
  obtain ⟨_, h2⟩ := h2
  refine ⟨c1, ?_⟩
  refine cm_X5_minutesAt h1 h2 (fun x2 x3 h1 h2 g4 => ?_)
  have h1 := h1 g4
  have h2 := h2 g4
  obtain ⟨c5, h1⟩ := h1
  obtain ⟨_, h2⟩ := h2
  refine ⟨c5, ?_⟩
  intro x7 e6
  have h1 := h1 x7 e6
  have h2 := h2 x7 e6
  intro x9 e8
  have h1 := h1 x9 e8
  have h2 := h2 x9 e8
  refine ⟨?_, ?_⟩
  · intro c10
    have h1 := h1.1 c10
    have h2 := h2.1 c10
    exact cm_X7_addLeg_82 h1 h2 hq
  · intro c11
    have h1 := h1.2 c11
    have h2 := h2.2 c11
    refine ⟨?_, ?_⟩
    · intro c12
      have h1 := h1.1 c12
      have h2 := h2.1 c12
      exact cm_X7_addLeg_82 h1 h2 hq
    · intro c13
      have h1 := h1.2 c13
      have h2 := h2.2 c13
      obtain ⟨b14, e15, h1⟩ := h1
      obtain ⟨b16, e17, h2⟩ := h2
      cases e15.symm.trans e17
      refine ⟨b14, e15, ?_⟩
      obtain ⟨c18, h1⟩ := h1
      obtain ⟨_, h2⟩ := h2
      refine ⟨c18, ?_⟩
      obtain ⟨c19, h1⟩ := h1
      obtain ⟨_, h2⟩ := h2
      refine ⟨c19, ?_⟩
      intro x21 e20
      have h1 := h1 x21 e20
      have h2 := h2 x21 e20
      intro x23 e22
      have h1 := h1 x23 e22
      have h2 := h2 x23 e22
      intro x25 e24
      have h1 := h1 x25 e24
      have h2 := h2 x25 e24
      refine ⟨?_, ?_⟩
      · intro c26
        have h1 := h1.1 c26
        have h2 := h2.1 c26
        exact cm_X7_addLeg_82 h1 h2 hq
      · intro c27
        have h1 := h1.2 c27
        have h2 := h2.2 c27
        obtain ⟨b28, e29, h1⟩ := h1
        obtain ⟨b30, e31, h2⟩ := h2
        cases e29.symm.trans e31
        refine ⟨b28, e29, ?_⟩
        obtain ⟨c32, h1⟩ := h1
        obtain ⟨_, h2⟩ := h2
        refine ⟨c32, ?_⟩
        obtain ⟨c33, h1⟩ := h1
        obtain ⟨_, h2⟩ := h2
        refine ⟨c33, ?_⟩
        intro x35 e34
        have h1 := h1 x35 e34
        have h2 := h2 x35 e34
        refine ⟨?_, ?_⟩
        · intro c36
          have h1 := h1.1 c36
          have h2 := h2.1 c36
          exact cm_X7_addLeg_82 h1 h2 hq
        · intro c37
          have h1 := h1.2 c37
          have h2 := h2.2 c37
          obtain ⟨b38, e39, h1⟩ := h1
          obtain ⟨b40, e41, h2⟩ := h2
          cases e39.symm.trans e41
          refine ⟨b38, e39, ?_⟩
          obtain ⟨c42, h1⟩ := h1
          obtain ⟨_, h2⟩ := h2
          refine ⟨c42, ?_⟩
          obtain ⟨c43, h1⟩ := h1
          obtain ⟨_, h2⟩ := h2
          refine ⟨c43, ?_⟩
          intro x45 e44
          have h1 := h1 x45 e44
          have h2 := h2 x45 e44
          refine ⟨?_, ?_⟩
          · intro c46
            have h1 := h1.1 c46
            have h2 := h2.1 c46
            intro x48 e47
            have h1 := h1 x48 e47
            have h2 := h2 x48 e47
            exact cm_X7_addLeg_82 h1 h2 hq
          · intro c49
            have h1 := h1.2 c49
            have h2 := h2.2 c49
            exact hq _ h1 h2
theorem cm_X7_addLeg {Q1 Q2 Q3 : HS → Prop} {v0 : Nat} {v1 : Nat} {v2 : Int32} {v3 : Int32} {v4 : Int64} {v6 : Int32} {S : HS} (h1 : P_X7_addLeg v0 v1 v2 v3 v4 v6 Q1 S) (h2 : P_X7_addLeg v0 v1 v2 v3 v4 v6 Q2 S) (hq : ∀ (T : HS), Q1 T → Q2 T → Q3 T) : P_X7_addLeg v0 v1 v2 v3 v4 v6 Q3 S := cm_X7_addLeg_0 h1 h2 hq
set_option maxRecDepth 20000 in
set_option maxHeartbeats 1000000 in
theorem cm_X7_keyOf_0 {Q1 Q2 Q3 : Int64 → HS → Prop} {v0 : Nat} {v1 : Int32} {v2 : Int32} {S : HS} (h1 : P_X7_keyOf_0 Q1 v0 v1 v2 S) (h2 : P_X7_keyOf_0 Q2 v0 v1 v2 S) (hq : ∀ (r : Int64) (T : HS), Q1 r T → Q2 r T → Q3 r T) : P_X7_keyOf_0 Q3 v0 v1 v2 S := by
  delta P_X7_keyOf_0 at h1 h2 ⊢
  intro x2 e1
  have h1 := h1 x2 e1
  have h2 := h2 x2 e1
  refine ⟨?_, ?_⟩
  · intro c3
    have h1 := h1.1 c3
    have h2 := h2.1 c3
    exact hq _ _ h1 h2
  · intro c4
    have h1 := h1.2 c4
    have h2 := h2.2 c4
    obtain ⟨c5, h1⟩ := h1
    obtain ⟨_, h2⟩ := h2
    refine ⟨c5, ?_⟩
    obtain ⟨b6, e7, h1⟩ := h1
    obtain ⟨b8, e9, h2⟩ := h2
    cases e7.symm.trans e9
    refine ⟨b6, e7, ?_⟩
    obtain ⟨c10, h1⟩ := h1
    obtain ⟨_, h2⟩ := h2
    refine ⟨c10, ?_⟩
    refine ⟨?_, ?_⟩
    · intro c11
      have h1 := h1.1 c11
      have h2 := h2.1 c11
      exact hq _ _ h1 h2
    · intro c12
      have h1 := h1.2 c12
      have h2 := h2.2 c12
      obtain ⟨b13, e14, h1⟩ := h1
      obtain ⟨b15, e16, h2⟩ := h2
      cases e14.symm.trans e16
      refine ⟨b13, e14, ?_⟩
      obtain ⟨c17, h1⟩ := h1
      obtain ⟨_, h2⟩ := h2
      refine ⟨c17, ?_⟩
      obtain ⟨c18, h1⟩ := h1
      obtain ⟨_, h2⟩ := h2
      refine ⟨c18, ?_⟩
      intro x20 e19
      have h1 := h1 x20 e19
      have h2 := h2 x20 e19
      exact hq _ _ h1 h2
theorem cm_X7_keyOf {Q1 Q2 Q3 : Int64 → HS → Prop} {v0 : Nat} {v1 : Int32} {v2 : Int32} {S : HS} (h1 : P_X7_keyOf v0 v1 v2 Q1 S) (h2 : P_X7_keyOf v0 v1 v2 Q2 S) (hq : ∀ (r : Int64) (T : HS), Q1 r T → Q2 r T → Q3 r T) : P_X7_keyOf v0 v1 v2 Q3 S := cm_X7_keyOf_0 h1 h2 hq
set_option maxRecDepth 20000 in
set_option maxHeartbeats 1000000 in
theorem cm_X7_endFrom_0 {Q1 Q2 Q3 : Int32 → HS → Prop} {v0 : Nat} {v1 : Int32} {v2 : Int32} {S : HS} (h1 : P_X7_endFrom_0 Q1 v0 v1 v2 S) (h2 : P_X7_endFrom_0 Q2 v0 v1 v2 S) (hq : ∀ (r : Int32) (T : HS), Q1 r T → Q2 r T → Q3 r T) : P_X7_endFrom_0 Q3 v0 v1 v2 S := by
  delta P_X7_endFrom_0 at h1 h2 ⊢
  obtain ⟨c1, h1⟩ := h1
  obtain ⟨_, h2⟩ := h2
  refine ⟨c1, ?_⟩
  refine cm_X7_keyOf h1 h2 (fun x2 x3 h1 h2 g4 => ?_)
  have h1 := h1 g4
  have h2 := h2 g4
  intro x6 e5
  have h1 := h1 x6 e5
  have h2 := h2 x6 e5
  exact hq _ _ h1 h2
theorem cm_X7_endFrom {Q1 Q2 Q3 : Int32 → HS → Prop} {v0 : Nat} {v1 : Int32} {v2 : Int32} {S : HS} (h1 : P_X7_endFrom v0 v1 v2 Q1 S) (h2 : P_X7_endFrom v0 v1 v2 Q2 S) (hq : ∀ (r : Int32) (T : HS), Q1 r T → Q2 r T → Q3 r T) : P_X7_endFrom v0 v1 v2 Q3 S := cm_X7_endFrom_0 h1 h2 hq
set_option maxRecDepth 20000 in
set_option maxHeartbeats 1000000 in
theorem cm_X7_forget_0 {Q1 Q2 Q3 : HS → Prop} {v0 : Nat} {S : HS} (h1 : P_X7_forget_0 Q1 v0 S) (h2 : P_X7_forget_0 Q2 v0 S) (hq : ∀ (T : HS), Q1 T → Q2 T → Q3 T) : P_X7_forget_0 Q3 v0 S := by
  delta P_X7_forget_0 at h1 h2 ⊢
  obtain ⟨c1, h1⟩ := h1
  obtain ⟨_, h2⟩ := h2
  refine ⟨c1, ?_⟩
  intro x3 e2
  have h1 := h1 x3 e2
  have h2 := h2 x3 e2
  exact hq _ h1 h2
theorem cm_X7_forget {Q1 Q2 Q3 : HS → Prop} {v0 : Nat} {S : HS} (h1 : P_X7_forget v0 Q1 S) (h2 : P_X7_forget v0 Q2 S) (hq : ∀ (T : HS), Q1 T → Q2 T → Q3 T) : P_X7_forget v0 Q3 S := cm_X7_forget_0 h1 h2 hq
set_option maxRecDepth 20000 in
set_option maxHeartbeats 1000000 in
theorem cm_X7_init_0 {Q1 Q2 Q3 : HS → Prop} {v0 : Nat} {S : HS} (h1 : P_X7_init_0 Q1 v0 S) (h2 : P_X7_init_0 Q2 v0 S) (hq : ∀ (T : HS), Q1 T → Q2 T → Q3 T) : P_X7_init_0 Q3 v0 S := by
  delta P_X7_init_0 at h1 h2 ⊢
  intro x2 e1
  have h1 := h1 x2 e1
  have h2 := h2 x2 e1
  intro x4 e3
  have h1 := h1 x4 e3
  have h2 := h2 x4 e3
  obtain ⟨c5, h1⟩ := h1
  obtain ⟨_, h2⟩ := h2
  refine ⟨c5, ?_⟩
  intro x7 e6
  have h1 := h1 x7 e6
  have h2 := h2 x7 e6
  intro x9 e8
  have h1 := h1 x9 e8
  have h2 := h2 x9 e8
  intro x11 e10
  have h1 := h1 x11 e10
  have h2 := h2 x11 e10
  intro x13 e12
  have h1 := h1 x13 e12
  have h2 := h2 x13 e12
  intro x15 e14
  have h1 := h1 x15 e14
  have h2 := h2 x15 e14
  intro x17 e16
  have h1 := h1 x17 e16
  have h2 := h2 x17 e16
  intro x19 e18
  have h1 := h1 x19 e18
  have h2 := h2 x19 e18
  intro x21 e20
  have h1 := h1 x21 e20
  have h2 := h2 x21 e20
  intro x23 e22
  have h1 := h1 x23 e22
  have h2 := h2 x23 e22
  intro x25 e24
  have h1 := h1 x25 e24
  have h2 := h2 x25 e24
  intro x27 e26
  have h1 := h1 x27 e26
  have h2 := h2 x27 e26
  intro x29 e28
  have h1 := h1 x29 e28
  have h2 := h2 x29 e28
  intro x31 e30
  have h1 := h1 x31 e30
  have h2 := h2 x31 e30
  intro x33 e32
  have h1 := h1 x33 e32
  have h2 := h2 x33 e32
  intro x35 e34
  have h1 := h1 x35 e34
  have h2 := h2 x35 e34
  intro x37 e36
  have h1 := h1 x37 e36
  have h2 := h2 x37 e36
  intro x39 e38
  have h1 := h1 x39 e38
  have h2 := h2 x39 e38
  intro x41 e40
  have h1 := h1 x41 e40
  have h2 := h2 x41 e40
  intro x43 e42
  have h1 := h1 x43 e42
  have h2 := h2 x43 e42
  intro x45 e44
  have h1 := h1 x45 e44
  have h2 := h2 x45 e44
  intro x47 e46
  have h1 := h1 x47 e46
  have h2 := h2 x47 e46
  intro x49 e48
  have h1 := h1 x49 e48
  have h2 := h2 x49 e48
  intro x51 e50
  have h1 := h1 x51 e50
  have h2 := h2 x51 e50
  intro x53 e52
  have h1 := h1 x53 e52
  have h2 := h2 x53 e52
  intro x55 e54
  have h1 := h1 x55 e54
  have h2 := h2 x55 e54
  intro x57 e56
  have h1 := h1 x57 e56
  have h2 := h2 x57 e56
  exact hq _ h1 h2
theorem cm_X7_init {Q1 Q2 Q3 : HS → Prop} {v0 : Nat} {S : HS} (h1 : P_X7_init v0 Q1 S) (h2 : P_X7_init v0 Q2 S) (hq : ∀ (T : HS), Q1 T → Q2 T → Q3 T) : P_X7_init v0 Q3 S := cm_X7_init_0 h1 h2 hq
set_option maxRecDepth 20000 in
set_option maxHeartbeats 1000000 in
theorem cm_X7_isOpen_0 {Q1 Q2 Q3 : Int32 → HS → Prop} {v0 : Nat} {v1 : Int32} {v2 : Int32} {S : HS} (h1 : P_X7_isOpen_0 Q1 v0 v1 v2 S) (h2 : P_X7_isOpen_0 Q2 v0 v1 v2 S) (hq : ∀ (r : Int32) (T : HS), Q1 r T → Q2 r T → Q3 r T) : P_X7_isOpen_0 Q3 v0 v1 v2 S := by
  delta P_X7_isOpen_0 at h1 h2 ⊢
  obtain ⟨c1, h1⟩ := h1
  obtain ⟨_, h2⟩ := h2
  refine ⟨c1, ?_⟩
  refine cm_X7_keyOf h1 h2 (fun x2 x3 h1 h2 g4 => ?_)
  have h1 := h1 g4
  have h2 := h2 g4
  refine ⟨?_, ?_⟩
  · intro c5
    have h1 := h1.1 c5
    have h2 := h2.1 c5
    exact hq _ _ h1 h2
  · intro c6
    have h1 := h1.2 c6
    have h2 := h2.2 c6
    exact hq _ _ h1 h2
theorem cm_X7_isOpen {Q1 Q2 Q3 : Int32 → HS → Prop} {v0 : Nat} {v1 : Int32} {v2 : Int32} {S : HS} (h1 : P_X7_isOpen v0 v1 v2 Q1 S) (h2 : P_X7_isOpen v0 v1 v2 Q2 S) (hq : ∀ (r : Int32) (T : HS), Q1 r T → Q2 r T → Q3 r T) : P_X7_isOpen v0 v1 v2 Q3 S := cm_X7_isOpen_0 h1 h2 hq
set_option maxRecDepth 20000 in
set_option maxHeartbeats 1000000 in
theorem cm_X7_makeRows_0 {Q1 Q2 Q3 : HS → Prop} {v0 : Nat} {S : HS} (h1 : P_X7_makeRows_0 Q1 v0 S) (h2 : P_X7_makeRows_0 Q2 v0 S) (hq : ∀ (T : HS), Q1 T → Q2 T → Q3 T) : P_X7_makeRows_0 Q3 v0 S := by
  delta P_X7_makeRows_0 at h1 h2 ⊢
  intro x2 e1
  have h1 := h1 x2 e1
  have h2 := h2 x2 e1
  intro x4 e3
  have h1 := h1 x4 e3
  have h2 := h2 x4 e3
  obtain ⟨c5, h1⟩ := h1
  obtain ⟨_, h2⟩ := h2
  refine ⟨c5, ?_⟩
  intro x7 e6
  have h1 := h1 x7 e6
  have h2 := h2 x7 e6
  intro x9 e8
  have h1 := h1 x9 e8
  have h2 := h2 x9 e8
  intro x11 e10
  have h1 := h1 x11 e10
  have h2 := h2 x11 e10
  intro x13 e12
  have h1 := h1 x13 e12
  have h2 := h2 x13 e12
  intro x15 e14
  have h1 := h1 x15 e14
  have h2 := h2 x15 e14
  intro x17 e16
  have h1 := h1 x17 e16
  have h2 := h2 x17 e16
  intro x19 e18
  have h1 := h1 x19 e18
  have h2 := h2 x19 e18
  intro x21 e20
  have h1 := h1 x21 e20
  have h2 := h2 x21 e20
  intro x23 e22
  have h1 := h1 x23 e22
  have h2 := h2 x23 e22
  intro x25 e24
  have h1 := h1 x25 e24
  have h2 := h2 x25 e24
  intro x27 e26
  have h1 := h1 x27 e26
  have h2 := h2 x27 e26
  intro x29 e28
  have h1 := h1 x29 e28
  have h2 := h2 x29 e28
  intro x31 e30
  have h1 := h1 x31 e30
  have h2 := h2 x31 e30
  intro x33 e32
  have h1 := h1 x33 e32
  have h2 := h2 x33 e32
  intro x35 e34
  have h1 := h1 x35 e34
  have h2 := h2 x35 e34
  intro x37 e36
  have h1 := h1 x37 e36
  have h2 := h2 x37 e36
  intro x39 e38
  have h1 := h1 x39 e38
  have h2 := h2 x39 e38
  intro x41 e40
  have h1 := h1 x41 e40
  have h2 := h2 x41 e40
  intro x43 e42
  have h1 := h1 x43 e42
  have h2 := h2 x43 e42
  intro x45 e44
  have h1 := h1 x45 e44
  have h2 := h2 x45 e44
  intro x47 e46
  have h1 := h1 x47 e46
  have h2 := h2 x47 e46
  intro x49 e48
  have h1 := h1 x49 e48
  have h2 := h2 x49 e48
  exact hq _ h1 h2
theorem cm_X7_makeRows {Q1 Q2 Q3 : HS → Prop} {v0 : Nat} {S : HS} (h1 : P_X7_makeRows v0 Q1 S) (h2 : P_X7_makeRows v0 Q2 S) (hq : ∀ (T : HS), Q1 T → Q2 T → Q3 T) : P_X7_makeRows v0 Q3 S := cm_X7_makeRows_0 h1 h2 hq
set_option maxRecDepth 20000 in
set_option maxHeartbeats 1000000 in
theorem cm_X7_meanFrom_0 {Q1 Q2 Q3 : Int64 → HS → Prop} {v0 : Nat} {v1 : Int32} {v2 : Int32} {S : HS} (h1 : P_X7_meanFrom_0 Q1 v0 v1 v2 S) (h2 : P_X7_meanFrom_0 Q2 v0 v1 v2 S) (hq : ∀ (r : Int64) (T : HS), Q1 r T → Q2 r T → Q3 r T) : P_X7_meanFrom_0 Q3 v0 v1 v2 S := by
  delta P_X7_meanFrom_0 at h1 h2 ⊢
  obtain ⟨c1, h1⟩ := h1
  obtain ⟨_, h2⟩ := h2
  refine ⟨c1, ?_⟩
  refine cm_X7_keyOf h1 h2 (fun x2 x3 h1 h2 g4 => ?_)
  have h1 := h1 g4
  have h2 := h2 g4
  intro x6 e5
  have h1 := h1 x6 e5
  have h2 := h2 x6 e5
  exact hq _ _ h1 h2
theorem cm_X7_meanFrom {Q1 Q2 Q3 : Int64 → HS → Prop} {v0 : Nat} {v1 : Int32} {v2 : Int32} {S : HS} (h1 : P_X7_meanFrom v0 v1 v2 Q1 S) (h2 : P_X7_meanFrom v0 v1 v2 Q2 S) (hq : ∀ (r : Int64) (T : HS), Q1 r T → Q2 r T → Q3 r T) : P_X7_meanFrom v0 v1 v2 Q3 S := cm_X7_meanFrom_0 h1 h2 hq
set_option maxRecDepth 20000 in
set_option maxHeartbeats 1000000 in
theorem cm_X8_hasPlace_0 {Q1 Q2 Q3 : Int32 → HS → Prop} {v0 : Nat} {v1 : Int32} {S : HS} (h1 : P_X8_hasPlace_0 Q1 v0 v1 S) (h2 : P_X8_hasPlace_0 Q2 v0 v1 S) (hq : ∀ (r : Int32) (T : HS), Q1 r T → Q2 r T → Q3 r T) : P_X8_hasPlace_0 Q3 v0 v1 S := by
  delta P_X8_hasPlace_0 at h1 h2 ⊢
  refine ⟨?_, ?_⟩
  · intro c1
    have h1 := h1.1 c1
    have h2 := h2.1 c1
    exact hq _ _ h1 h2
  · intro c2
    have h1 := h1.2 c2
    have h2 := h2.2 c2
    obtain ⟨c3, h1⟩ := h1
    obtain ⟨_, h2⟩ := h2
    refine ⟨c3, ?_⟩
    intro x5 e4
    have h1 := h1 x5 e4
    have h2 := h2 x5 e4
    refine ⟨?_, ?_⟩
    · intro c6
      have h1 := h1.1 c6
      have h2 := h2.1 c6
      exact hq _ _ h1 h2
    · intro c7
      have h1 := h1.2 c7
      have h2 := h2.2 c7
      obtain ⟨b8, e9, h1⟩ := h1
      obtain ⟨b10, e11, h2⟩ := h2
      cases e9.symm.trans e11
      refine ⟨b8, e9, ?_⟩
      obtain ⟨c12, h1⟩ := h1
      obtain ⟨_, h2⟩ := h2
      refine ⟨c12, ?_⟩
      refine ⟨?_, ?_⟩
      · intro c13
        have h1 := h1.1 c13
        have h2 := h2.1 c13
        exact hq _ _ h1 h2
      · intro c14
        have h1 := h1.2 c14
        have h2 := h2.2 c14
        exact hq _ _ h1 h2
theorem cm_X8_hasPlace {Q1 Q2 Q3 : Int32 → HS → Prop} {v0 : Nat} {v1 : Int32} {S : HS} (h1 : P_X8_hasPlace v0 v1 Q1 S) (h2 : P_X8_hasPlace v0 v1 Q2 S) (hq : ∀ (r : Int32) (T : HS), Q1 r T → Q2 r T → Q3 r T) : P_X8_hasPlace v0 v1 Q3 S := cm_X8_hasPlace_0 h1 h2 hq
set_option maxRecDepth 20000 in
set_option maxHeartbeats 1000000 in
theorem cm_X8_canWait_0 {Q1 Q2 Q3 : Int32 → HS → Prop} {v0 : Nat} {v1 : Int32} {S : HS} (h1 : P_X8_canWait_0 Q1 v0 v1 S) (h2 : P_X8_canWait_0 Q2 v0 v1 S) (hq : ∀ (r : Int32) (T : HS), Q1 r T → Q2 r T → Q3 r T) : P_X8_canWait_0 Q3 v0 v1 S := by
  delta P_X8_canWait_0 at h1 h2 ⊢
  obtain ⟨c1, h1⟩ := h1
  obtain ⟨_, h2⟩ := h2
  refine ⟨c1, ?_⟩
  refine cm_X8_hasPlace h1 h2 (fun x2 x3 h1 h2 g4 g5 => ?_)
  have h1 := h1 g4 g5
  have h2 := h2 g4 g5
  refine ⟨?_, ?_⟩
  · intro c6
    have h1 := h1.1 c6
    have h2 := h2.1 c6
    exact hq _ _ h1 h2
  · intro c7
    have h1 := h1.2 c7
    have h2 := h2.2 c7
    obtain ⟨b8, e9, h1⟩ := h1
    obtain ⟨b10, e11, h2⟩ := h2
    cases e9.symm.trans e11
    refine ⟨b8, e9, ?_⟩
    obtain ⟨c12, h1⟩ := h1
    obtain ⟨_, h2⟩ := h2
    refine ⟨c12, ?_⟩
    obtain ⟨c13, h1⟩ := h1
    obtain ⟨_, h2⟩ := h2
    refine ⟨c13, ?_⟩
    intro x15 e14
    have h1 := h1 x15 e14
    have h2 := h2 x15 e14
    refine ⟨?_, ?_⟩
    · intro c16
      have h1 := h1.1 c16
      have h2 := h2.1 c16
      exact hq _ _ h1 h2
    · intro c17
      have h1 := h1.2 c17
      have h2 := h2.2 c17
      exact hq _ _ h1 h2
theorem cm_X8_canWait {Q1 Q2 Q3 : Int32 → HS → Prop} {v0 : Nat} {v1 : Int32} {S : HS} (h1 : P_X8_canWait v0 v1 Q1 S) (h2 : P_X8_canWait v0 v1 Q2 S) (hq : ∀ (r : Int32) (T : HS), Q1 r T → Q2 r T → Q3 r T) : P_X8_canWait v0 v1 Q3 S := cm_X8_canWait_0 h1 h2 hq
set_option maxRecDepth 20000 in
set_option maxHeartbeats 1000000 in
theorem cm_X8_dripOn_0 {Q1 Q2 Q3 : Int32 → HS → Prop} {v0 : Nat} {v1 : Nat} {v2 : Int32} {S : HS} (h1 : P_X8_dripOn_0 Q1 v0 v1 v2 S) (h2 : P_X8_dripOn_0 Q2 v0 v1 v2 S) (hq : ∀ (r : Int32) (T : HS), Q1 r T → Q2 r T → Q3 r T) : P_X8_dripOn_0 Q3 v0 v1 v2 S := by
  delta P_X8_dripOn_0 at h1 h2 ⊢
  obtain ⟨c1, h1⟩ := h1
  obtain ⟨_, h2⟩ := h2
  refine ⟨c1, ?_⟩
  refine cm_X8_canWait h1 h2 (fun x2 x3 h1 h2 g4 g5 => ?_)
  have h1 := h1 g4 g5
  have h2 := h2 g4 g5
  refine ⟨?_, ?_⟩
  · intro c6
    have h1 := h1.1 c6
    have h2 := h2.1 c6
    exact hq _ _ h1 h2
  · intro c7
    have h1 := h1.2 c7
    have h2 := h2.2 c7
    obtain ⟨b8, e9, h1⟩ := h1
    obtain ⟨b10, e11, h2⟩ := h2
    cases e9.symm.trans e11
    refine ⟨b8, e9, ?_⟩
    obtain ⟨c12, h1⟩ := h1
    obtain ⟨_, h2⟩ := h2
    refine ⟨c12, ?_⟩
    obtain ⟨c13, h1⟩ := h1
    obtain ⟨_, h2⟩ := h2
    refine ⟨c13, ?_⟩
    intro x15 e14
    have h1 := h1 x15 e14
    have h2 := h2 x15 e14
    obtain ⟨c16, h1⟩ := h1
    obtain ⟨_, h2⟩ := h2
    refine ⟨c16, ?_⟩
    intro x18 e17
    have h1 := h1 x18 e17
    have h2 := h2 x18 e17
    refine cm_X6_shield h1 h2 (fun x19 x20 h1 h2 g21 => ?_)
    have h1 := h1 g21
    have h2 := h2 g21
    intro x23 e22
    have h1 := h1 x23 e22
    have h2 := h2 x23 e22
    exact hq _ _ h1 h2
theorem cm_X8_dripOn {Q1 Q2 Q3 : Int32 → HS → Prop} {v0 : Nat} {v1 : Nat} {v2 : Int32} {S : HS} (h1 : P_X8_dripOn v0 v1 v2 Q1 S) (h2 : P_X8_dripOn v0 v1 v2 Q2 S) (hq : ∀ (r : Int32) (T : HS), Q1 r T → Q2 r T → Q3 r T) : P_X8_dripOn v0 v1 v2 Q3 S := cm_X8_dripOn_0 h1 h2 hq
set_option maxRecDepth 20000 in
set_option maxHeartbeats 1000000 in
theorem cm_X8_hasHour_0 {Q1 Q2 Q3 : Int32 → HS → Prop} {v0 : Nat} {v1 : Int32} {S : HS} (h1 : P_X8_hasHour_0 Q1 v0 v1 S) (h2 : P_X8_hasHour_0 Q2 v0 v1 S) (hq : ∀ (r : Int32) (T : HS), Q1 r T → Q2 r T → Q3 r T) : P_X8_hasHour_0 Q3 v0 v1 S := by
  delta P_X8_hasHour_0 at h1 h2 ⊢
  refine ⟨?_, ?_⟩
  · intro c1
    have h1 := h1.1 c1
    have h2 := h2.1 c1
    exact hq _ _ h1 h2
  · intro c2
    have h1 := h1.2 c2
    have h2 := h2.2 c2
    obtain ⟨c3, h1⟩ := h1
    obtain ⟨_, h2⟩ := h2
    refine ⟨c3, ?_⟩
    intro x5 e4
    have h1 := h1 x5 e4
    have h2 := h2 x5 e4
    refine ⟨?_, ?_⟩
    · intro c6
      have h1 := h1.1 c6
      have h2 := h2.1 c6
      exact hq _ _ h1 h2
    · intro c7
      have h1 := h1.2 c7
      have h2 := h2.2 c7
      obtain ⟨b8, e9, h1⟩ := h1
      obtain ⟨b10, e11, h2⟩ := h2
      cases e9.symm.trans e11
      refine ⟨b8, e9, ?_⟩
      obtain ⟨c12, h1⟩ := h1
      obtain ⟨_, h2⟩ := h2
      refine ⟨c12, ?_⟩
      refine ⟨?_, ?_⟩
      · intro c13
        have h1 := h1.1 c13
        have h2 := h2.1 c13
        exact hq _ _ h1 h2
      · intro c14
        have h1 := h1.2 c14
        have h2 := h2.2 c14
        exact hq _ _ h1 h2
theorem cm_X8_hasHour {Q1 Q2 Q3 : Int32 → HS → Prop} {v0 : Nat} {v1 : Int32} {S : HS} (h1 : P_X8_hasHour v0 v1 Q1 S) (h2 : P_X8_hasHour v0 v1 Q2 S) (hq : ∀ (r : Int32) (T : HS), Q1 r T → Q2 r T → Q3 r T) : P_X8_hasHour v0 v1 Q3 S := cm_X8_hasHour_0 h1 h2 hq
set_option maxRecDepth 20000 in
set_option maxHeartbeats 1000000 in
theorem cm_X7_price_134 {Q1 Q2 Q3 : HS → Prop} {X51_1 X51_2 X51_3 : Nat → Nat → Nat → Int32 → Nat → Int32 → Int32 → HS → Prop} {X86_1 X86_2 X86_3 : Nat → Nat → Nat → Int32 → Nat → Int32 → Int32 → Nat → Int32 → Int32 → HS → Prop} {v0 : Nat} {v1 : Nat} {v2 : Nat} {v3 : Int32} {v4 : Nat} {v5 : Int32} {v6 : Int32} {v7 : Nat} {v8 : Int32} {v9 : Int32} {s0 : Int64} {S : HS} (h1 : P_X7_price_134 Q1 X51_1 X86_1 v0 v1 v2 v3 v4 v5 v6 v7 v8 v9 s0 S) (h2 : P_X7_price_134 Q2 X51_2 X86_2 v0 v1 v2 v3 v4 v5 v6 v7 v8 v9 s0 S) (hq : ∀ (T : HS), Q1 T → Q2 T → Q3 T) (hX51 : ∀ (u0 : Nat) (u1 : Nat) (u2 : Nat) (u3 : Int32) (u4 : Nat) (u5 : Int32) (u6 : Int32) (u7 : HS), X51_1 u0 u1 u2 u3 u4 u5 u6 u7 → X51_2 u0 u1 u2 u3 u4 u5 u6 u7 → X51_3 u0 u1 u2 u3 u4 u5 u6 u7) (hX86 : ∀ (u0 : Nat) (u1 : Nat) (u2 : Nat) (u3 : Int32) (u4 : Nat) (u5 : Int32) (u6 : Int32) (u7 : Nat) (u8 : Int32) (u9 : Int32) (u10 : HS), X86_1 u0 u1 u2 u3 u4 u5 u6 u7 u8 u9 u10 → X86_2 u0 u1 u2 u3 u4 u5 u6 u7 u8 u9 u10 → X86_3 u0 u1 u2 u3 u4 u5 u6 u7 u8 u9 u10) : P_X7_price_134 Q3 X51_3 X86_3 v0 v1 v2 v3 v4 v5 v6 v7 v8 v9 s0 S := by
  delta P_X7_price_134 at h1 h2 ⊢
  intro x2 e1
  have h1 := h1 x2 e1
  have h2 := h2 x2 e1
  obtain ⟨c3, h1⟩ := h1
  obtain ⟨_, h2⟩ := h2
  refine ⟨c3, ?_⟩
  refine cm_X7_addLeg h1 h2 (fun x4 h1 h2 g5 => ?_)
  have h1 := h1 g5
  have h2 := h2 g5
  intro x7 e6
  have h1 := h1 x7 e6
  have h2 := h2 x7 e6
  exact hX86 _ _ _ _ _ _ _ _ _ _ _ h1 h2
set_option maxRecDepth 20000 in
set_option maxHeartbeats 1000000 in
theorem cmB_X7_price_86 {Q1 Q2 Q3 : HS → Prop} {X51_1 X51_2 X51_3 : Nat → Nat → Nat → Int32 → Nat → Int32 → Int32 → HS → Prop} {X86_1 X86_2 X86_3 : Nat → Nat → Nat → Int32 → Nat → Int32 → Int32 → Nat → Int32 → Int32 → HS → Prop} {v0 : Nat} {v1 : Nat} {v2 : Nat} {v3 : Int32} {v4 : Nat} {v5 : Int32} {v6 : Int32} {v7 : Nat} {v8 : Int32} {v9 : Int32} {S : HS} (h1 : B_X7_price_86 Q1 X51_1 X86_1 v0 v1 v2 v3 v4 v5 v6 v7 v8 v9 S) (h2 : B_X7_price_86 Q2 X51_2 X86_2 v0 v1 v2 v3 v4 v5 v6 v7 v8 v9 S) (hq : ∀ (T : HS), Q1 T → Q2 T → Q3 T) (hX51 : ∀ (u0 : Nat) (u1 : Nat) (u2 : Nat) (u3 : Int32) (u4 : Nat) (u5 : Int32) (u6 : Int32) (u7 : HS), X51_1 u0 u1 u2 u3 u4 u5 u6 u7 → X51_2 u0 u1 u2 u3 u4 u5 u6 u7 → X51_3 u0 u1 u2 u3 u4 u5 u6 u7) (hX86 : ∀ (u0 : Nat) (u1 : Nat) (u2 : Nat) (u3 : Int32) (u4 : Nat) (u5 : Int32) (u6 : Int32) (u7 : Nat) (u8 : Int32) (u9 : Int32) (u10 : HS), X86_1 u0 u1 u2 u3 u4 u5 u6 u7 u8 u9 u10 → X86_2 u0 u1 u2 u3 u4 u5 u6 u7 u8 u9 u10 → X86_3 u0 u1 u2 u3 u4 u5 u6 u7 u8 u9 u10) : B_X7_price_86 Q3 X51_3 X86_3 v0 v1 v2 v3 v4 v5 v6 v7 v8 v9 S := by
  delta B_X7_price_86 at h1 h2 ⊢
  obtain ⟨c1, h1⟩ := h1
  obtain ⟨_, h2⟩ := h2
  refine ⟨c1, ?_⟩
  intro x3 e2
  have h1 := h1 x3 e2
  have h2 := h2 x3 e2
  refine ⟨?_, ?_⟩
  · intro c4
    have h1 := h1.1 c4
    have h2 := h2.1 c4
    intro x6 e5
    have h1 := h1 x6 e5
    have h2 := h2 x6 e5
    exact hX51 _ _ _ _ _ _ _ _ h1 h2
  · intro c7
    have h1 := h1.2 c7
    have h2 := h2.2 c7
    refine ⟨?_, ?_⟩
    · intro c8
      have h1 := h1.1 c8
      have h2 := h2.1 c8
      obtain ⟨c9, h1⟩ := h1
      obtain ⟨_, h2⟩ := h2
      refine ⟨c9, ?_⟩
      obtain ⟨b10, e11, h1⟩ := h1
      obtain ⟨b12, e13, h2⟩ := h2
      cases e11.symm.trans e13
      refine ⟨b10, e11, ?_⟩
      obtain ⟨c14, h1⟩ := h1
      obtain ⟨_, h2⟩ := h2
      refine ⟨c14, ?_⟩
      obtain ⟨c15, h1⟩ := h1
      obtain ⟨_, h2⟩ := h2
      refine ⟨c15, ?_⟩
      obtain ⟨b16, e17, h1⟩ := h1
      obtain ⟨b18, e19, h2⟩ := h2
      cases e17.symm.trans e19
      refine ⟨b16, e17, ?_⟩
      obtain ⟨c20, h1⟩ := h1
      obtain ⟨_, h2⟩ := h2
      refine ⟨c20, ?_⟩
      refine cm_X1_wetOf h1 h2 (fun x21 x22 h1 h2 g23 => ?_)
      have h1 := h1 g23
      have h2 := h2 g23
      obtain ⟨b24, e25, h1⟩ := h1
      obtain ⟨b26, e27, h2⟩ := h2
      cases e25.symm.trans e27
      refine ⟨b24, e25, ?_⟩
      obtain ⟨c28, h1⟩ := h1
      obtain ⟨_, h2⟩ := h2
      refine ⟨c28, ?_⟩
      obtain ⟨c29, h1⟩ := h1
      obtain ⟨_, h2⟩ := h2
      refine ⟨c29, ?_⟩
      obtain ⟨b30, e31, h1⟩ := h1
      obtain ⟨b32, e33, h2⟩ := h2
      cases e31.symm.trans e33
      refine ⟨b30, e31, ?_⟩
      obtain ⟨c34, h1⟩ := h1
      obtain ⟨_, h2⟩ := h2
      refine ⟨c34, ?_⟩
      intro x36 e35
      have h1 := h1 x36 e35
      have h2 := h2 x36 e35
      exact cm_X7_price_134 h1 h2 hq hX51 hX86
    · intro c37
      have h1 := h1.2 c37
      have h2 := h2.2 c37
      exact cm_X7_price_134 h1 h2 hq hX51 hX86
theorem fd_X7_price_86 {Q : HS → Prop} {X51 : Nat → Nat → Nat → Int32 → Nat → Int32 → Int32 → HS → Prop} {v0 : Nat} {v1 : Nat} {v2 : Nat} {v3 : Int32} {v4 : Nat} {v5 : Int32} {v6 : Int32} {v7 : Nat} {v8 : Int32} {v9 : Int32} {S : HS} (h : B_X7_price_86 Q X51 (P_X7_price_86 Q X51) v0 v1 v2 v3 v4 v5 v6 v7 v8 v9 S) : P_X7_price_86 Q X51 v0 v1 v2 v3 v4 v5 v6 v7 v8 v9 S := fun X hX => hX v0 v1 v2 v3 v4 v5 v6 v7 v8 v9 S (cmB_X7_price_86 h h (fun _ a _ => a) (fun _ _ _ _ _ _ _ _ a _ => a) (fun _ _ _ _ _ _ _ _ _ _ _ hp _ => hp X hX))
theorem uf_X7_price_86 {Q : HS → Prop} {X51 : Nat → Nat → Nat → Int32 → Nat → Int32 → Int32 → HS → Prop} {v0 : Nat} {v1 : Nat} {v2 : Nat} {v3 : Int32} {v4 : Nat} {v5 : Int32} {v6 : Int32} {v7 : Nat} {v8 : Int32} {v9 : Int32} {S : HS} (h : P_X7_price_86 Q X51 v0 v1 v2 v3 v4 v5 v6 v7 v8 v9 S) : B_X7_price_86 Q X51 (P_X7_price_86 Q X51) v0 v1 v2 v3 v4 v5 v6 v7 v8 v9 S := h (fun v0 v1 v2 v3 v4 v5 v6 v7 v8 v9 S => B_X7_price_86 Q X51 (P_X7_price_86 Q X51) v0 v1 v2 v3 v4 v5 v6 v7 v8 v9 S) (fun v0 v1 v2 v3 v4 v5 v6 v7 v8 v9 S hB => cmB_X7_price_86 hB hB (fun _ a _ => a) (fun _ _ _ _ _ _ _ _ a _ => a) (fun _ _ _ _ _ _ _ _ _ _ _ hb _ => fd_X7_price_86 hb))
theorem cm_X7_price_86 {Q1 Q2 Q3 : HS → Prop} {X51_1 X51_2 X51_3 : Nat → Nat → Nat → Int32 → Nat → Int32 → Int32 → HS → Prop} {v0 : Nat} {v1 : Nat} {v2 : Nat} {v3 : Int32} {v4 : Nat} {v5 : Int32} {v6 : Int32} {v7 : Nat} {v8 : Int32} {v9 : Int32} {S : HS} (h1 : P_X7_price_86 Q1 X51_1 v0 v1 v2 v3 v4 v5 v6 v7 v8 v9 S) (h2 : P_X7_price_86 Q2 X51_2 v0 v1 v2 v3 v4 v5 v6 v7 v8 v9 S) (hq : ∀ (T : HS), Q1 T → Q2 T → Q3 T) (hX51 : ∀ (u0 : Nat) (u1 : Nat) (u2 : Nat) (u3 : Int32) (u4 : Nat) (u5 : Int32) (u6 : Int32) (u7 : HS), X51_1 u0 u1 u2 u3 u4 u5 u6 u7 → X51_2 u0 u1 u2 u3 u4 u5 u6 u7 → X51_3 u0 u1 u2 u3 u4 u5 u6 u7) : P_X7_price_86 Q3 X51_3 v0 v1 v2 v3 v4 v5 v6 v7 v8 v9 S := h1 (fun v0 v1 v2 v3 v4 v5 v6 v7 v8 v9 S => P_X7_price_86 Q2 X51_2 v0 v1 v2 v3 v4 v5 v6 v7 v8 v9 S → P_X7_price_86 Q3 X51_3 v0 v1 v2 v3 v4 v5 v6 v7 v8 v9 S) (fun v0 v1 v2 v3 v4 v5 v6 v7 v8 v9 S hB hp => fd_X7_price_86 (cmB_X7_price_86 hB (uf_X7_price_86 hp) hq hX51 (fun _ _ _ _ _ _ _ _ _ _ _ hx hp => hx hp))) h2
set_option maxRecDepth 20000 in
set_option maxHeartbeats 1000000 in
theorem cm_X7_price_245 {Q1 Q2 Q3 : HS → Prop} {X179_1 X179_2 X179_3 : Nat → Nat → Int32 → Nat → Int32 → Int32 → HS → Prop} {v0 : Nat} {v1 : Nat} {v3 : Int32} {v4 : Nat} {v5 : Int32} {v6 : Int32} {S : HS} (h1 : P_X7_price_245 Q1 X179_1 v0 v1 v3 v4 v5 v6 S) (h2 : P_X7_price_245 Q2 X179_2 v0 v1 v3 v4 v5 v6 S) (hq : ∀ (T : HS), Q1 T → Q2 T → Q3 T) (hX179 : ∀ (u0 : Nat) (u1 : Nat) (u2 : Int32) (u3 : Nat) (u4 : Int32) (u5 : Int32) (u6 : HS), X179_1 u0 u1 u2 u3 u4 u5 u6 → X179_2 u0 u1 u2 u3 u4 u5 u6 → X179_3 u0 u1 u2 u3 u4 u5 u6) : P_X7_price_245 Q3 X179_3 v0 v1 v3 v4 v5 v6 S := by
  delta P_X7_price_245 at h1 h2 ⊢
  intro x2 e1
  have h1 := h1 x2 e1
  have h2 := h2 x2 e1
  exact hX179 _ _ _ _ _ _ _ h1 h2
set_option maxRecDepth 20000 in
set_option maxHeartbeats 1000000 in
theorem cm_X7_price_230 {Q1 Q2 Q3 : HS → Prop} {X179_1 X179_2 X179_3 : Nat → Nat → Int32 → Nat → Int32 → Int32 → HS → Prop} {v0 : Nat} {v1 : Nat} {v3 : Int32} {v4 : Nat} {v5 : Int32} {v6 : Int32} {s0 : Int64} {S : HS} (h1 : P_X7_price_230 Q1 X179_1 v0 v1 v3 v4 v5 v6 s0 S) (h2 : P_X7_price_230 Q2 X179_2 v0 v1 v3 v4 v5 v6 s0 S) (hq : ∀ (T : HS), Q1 T → Q2 T → Q3 T) (hX179 : ∀ (u0 : Nat) (u1 : Nat) (u2 : Int32) (u3 : Nat) (u4 : Int32) (u5 : Int32) (u6 : HS), X179_1 u0 u1 u2 u3 u4 u5 u6 → X179_2 u0 u1 u2 u3 u4 u5 u6 → X179_3 u0 u1 u2 u3 u4 u5 u6) : P_X7_price_230 Q3 X179_3 v0 v1 v3 v4 v5 v6 s0 S := by
  delta P_X7_price_230 at h1 h2 ⊢
  obtain ⟨c1, h1⟩ := h1
  obtain ⟨_, h2⟩ := h2
  refine ⟨c1, ?_⟩
  refine cm_X7_addMove h1 h2 (fun x2 h1 h2 g3 => ?_)
  have h1 := h1 g3
  have h2 := h2 g3
  exact cm_X7_price_245 h1 h2 hq hX179
set_option maxRecDepth 20000 in
set_option maxHeartbeats 1000000 in
theorem cmB_X7_price_179 {Q1 Q2 Q3 : HS → Prop} {X179_1 X179_2 X179_3 : Nat → Nat → Int32 → Nat → Int32 → Int32 → HS → Prop} {v0 : Nat} {v1 : Nat} {v3 : Int32} {v4 : Nat} {v5 : Int32} {v6 : Int32} {S : HS} (h1 : B_X7_price_179 Q1 X179_1 v0 v1 v3 v4 v5 v6 S) (h2 : B_X7_price_179 Q2 X179_2 v0 v1 v3 v4 v5 v6 S) (hq : ∀ (T : HS), Q1 T → Q2 T → Q3 T) (hX179 : ∀ (u0 : Nat) (u1 : Nat) (u2 : Int32) (u3 : Nat) (u4 : Int32) (u5 : Int32) (u6 : HS), X179_1 u0 u1 u2 u3 u4 u5 u6 → X179_2 u0 u1 u2 u3 u4 u5 u6 → X179_3 u0 u1 u2 u3 u4 u5 u6) : B_X7_price_179 Q3 X179_3 v0 v1 v3 v4 v5 v6 S := by
  delta B_X7_price_179 at h1 h2 ⊢
  obtain ⟨c1, h1⟩ := h1
  obtain ⟨_, h2⟩ := h2
  refine ⟨c1, ?_⟩
  intro x3 e2
  have h1 := h1 x3 e2
  have h2 := h2 x3 e2
  refine ⟨?_, ?_⟩
  · intro c4
    have h1 := h1.1 c4
    have h2 := h2.1 c4
    exact hq _ h1 h2
  · intro c5
    have h1 := h1.2 c5
    have h2 := h2.2 c5
    refine cm_X8_canWait h1 h2 (fun x6 x7 h1 h2 g8 g9 => ?_)
    have h1 := h1 g8 g9
    have h2 := h2 g8 g9
    refine ⟨?_, ?_⟩
    · intro c10
      have h1 := h1.1 c10
      have h2 := h2.1 c10
      exact cm_X7_price_245 h1 h2 hq hX179
    · intro c11
      have h1 := h1.2 c11
      have h2 := h2.2 c11
      refine ⟨?_, ?_⟩
      · intro c12
        have h1 := h1.1 c12
        have h2 := h2.1 c12
        refine cm_X8_dripOn h1 h2 (fun x13 x14 h1 h2 g15 => ?_)
        have h1 := h1 g15
        have h2 := h2 g15
        obtain ⟨b16, e17, h1⟩ := h1
        obtain ⟨b18, e19, h2⟩ := h2
        cases e17.symm.trans e19
        refine ⟨b16, e17, ?_⟩
        obtain ⟨c20, h1⟩ := h1
        obtain ⟨_, h2⟩ := h2
        refine ⟨c20, ?_⟩
        obtain ⟨c21, h1⟩ := h1
        obtain ⟨_, h2⟩ := h2
        refine ⟨c21, ?_⟩
        obtain ⟨b22, e23, h1⟩ := h1
        obtain ⟨b24, e25, h2⟩ := h2
        cases e23.symm.trans e25
        refine ⟨b22, e23, ?_⟩
        obtain ⟨c26, h1⟩ := h1
        obtain ⟨_, h2⟩ := h2
        refine ⟨c26, ?_⟩
        intro x28 e27
        have h1 := h1 x28 e27
        have h2 := h2 x28 e27
        exact cm_X7_price_230 h1 h2 hq hX179
      · intro c29
        have h1 := h1.2 c29
        have h2 := h2.2 c29
        exact cm_X7_price_230 h1 h2 hq hX179
theorem fd_X7_price_179 {Q : HS → Prop} {v0 : Nat} {v1 : Nat} {v3 : Int32} {v4 : Nat} {v5 : Int32} {v6 : Int32} {S : HS} (h : B_X7_price_179 Q (P_X7_price_179 Q) v0 v1 v3 v4 v5 v6 S) : P_X7_price_179 Q v0 v1 v3 v4 v5 v6 S := fun X hX => hX v0 v1 v3 v4 v5 v6 S (cmB_X7_price_179 h h (fun _ a _ => a) (fun _ _ _ _ _ _ _ hp _ => hp X hX))
theorem uf_X7_price_179 {Q : HS → Prop} {v0 : Nat} {v1 : Nat} {v3 : Int32} {v4 : Nat} {v5 : Int32} {v6 : Int32} {S : HS} (h : P_X7_price_179 Q v0 v1 v3 v4 v5 v6 S) : B_X7_price_179 Q (P_X7_price_179 Q) v0 v1 v3 v4 v5 v6 S := h (fun v0 v1 v3 v4 v5 v6 S => B_X7_price_179 Q (P_X7_price_179 Q) v0 v1 v3 v4 v5 v6 S) (fun v0 v1 v3 v4 v5 v6 S hB => cmB_X7_price_179 hB hB (fun _ a _ => a) (fun _ _ _ _ _ _ _ hb _ => fd_X7_price_179 hb))
theorem cm_X7_price_179 {Q1 Q2 Q3 : HS → Prop} {v0 : Nat} {v1 : Nat} {v3 : Int32} {v4 : Nat} {v5 : Int32} {v6 : Int32} {S : HS} (h1 : P_X7_price_179 Q1 v0 v1 v3 v4 v5 v6 S) (h2 : P_X7_price_179 Q2 v0 v1 v3 v4 v5 v6 S) (hq : ∀ (T : HS), Q1 T → Q2 T → Q3 T) : P_X7_price_179 Q3 v0 v1 v3 v4 v5 v6 S := h1 (fun v0 v1 v3 v4 v5 v6 S => P_X7_price_179 Q2 v0 v1 v3 v4 v5 v6 S → P_X7_price_179 Q3 v0 v1 v3 v4 v5 v6 S) (fun v0 v1 v3 v4 v5 v6 S hB hp => fd_X7_price_179 (cmB_X7_price_179 hB (uf_X7_price_179 hp) hq (fun _ _ _ _ _ _ _ hx hp => hx hp))) h2
set_option maxRecDepth 20000 in
set_option maxHeartbeats 1000000 in
theorem cmB_X7_price_51 {Q1 Q2 Q3 : HS → Prop} {X51_1 X51_2 X51_3 : Nat → Nat → Nat → Int32 → Nat → Int32 → Int32 → HS → Prop} {v0 : Nat} {v1 : Nat} {v2 : Nat} {v3 : Int32} {v4 : Nat} {v5 : Int32} {v6 : Int32} {S : HS} (h1 : B_X7_price_51 Q1 X51_1 v0 v1 v2 v3 v4 v5 v6 S) (h2 : B_X7_price_51 Q2 X51_2 v0 v1 v2 v3 v4 v5 v6 S) (hq : ∀ (T : HS), Q1 T → Q2 T → Q3 T) (hX51 : ∀ (u0 : Nat) (u1 : Nat) (u2 : Nat) (u3 : Int32) (u4 : Nat) (u5 : Int32) (u6 : Int32) (u7 : HS), X51_1 u0 u1 u2 u3 u4 u5 u6 u7 → X51_2 u0 u1 u2 u3 u4 u5 u6 u7 → X51_3 u0 u1 u2 u3 u4 u5 u6 u7) : B_X7_price_51 Q3 X51_3 v0 v1 v2 v3 v4 v5 v6 S := by
  delta B_X7_price_51 at h1 h2 ⊢
  obtain ⟨c1, h1⟩ := h1
  obtain ⟨_, h2⟩ := h2
  refine ⟨c1, ?_⟩
  intro x3 e2
  have h1 := h1 x3 e2
  have h2 := h2 x3 e2
  refine ⟨?_, ?_⟩
  · intro c4
    have h1 := h1.1 c4
    have h2 := h2.1 c4
    exact cm_X7_price_179 h1 h2 hq
  · intro c5
    have h1 := h1.2 c5
    have h2 := h2.2 c5
    obtain ⟨b6, e7, h1⟩ := h1
    obtain ⟨b8, e9, h2⟩ := h2
    cases e7.symm.trans e9
    refine ⟨b6, e7, ?_⟩
    intro x11 e10
    have h1 := h1 x11 e10
    have h2 := h2 x11 e10
    obtain ⟨c12, h1⟩ := h1
    obtain ⟨_, h2⟩ := h2
    refine ⟨c12, ?_⟩
    obtain ⟨c13, h1⟩ := h1
    obtain ⟨_, h2⟩ := h2
    refine ⟨c13, ?_⟩
    obtain ⟨b14, e15, h1⟩ := h1
    obtain ⟨b16, e17, h2⟩ := h2
    cases e15.symm.trans e17
    refine ⟨b14, e15, ?_⟩
    intro x19 e18
    have h1 := h1 x19 e18
    have h2 := h2 x19 e18
    obtain ⟨c20, h1⟩ := h1
    obtain ⟨_, h2⟩ := h2
    refine ⟨c20, ?_⟩
    intro x22 e21
    have h1 := h1 x22 e21
    have h2 := h2 x22 e21
    exact cm_X7_price_86 h1 h2 hq hX51
theorem fd_X7_price_51 {Q : HS → Prop} {v0 : Nat} {v1 : Nat} {v2 : Nat} {v3 : Int32} {v4 : Nat} {v5 : Int32} {v6 : Int32} {S : HS} (h : B_X7_price_51 Q (P_X7_price_51 Q) v0 v1 v2 v3 v4 v5 v6 S) : P_X7_price_51 Q v0 v1 v2 v3 v4 v5 v6 S := fun X hX => hX v0 v1 v2 v3 v4 v5 v6 S (cmB_X7_price_51 h h (fun _ a _ => a) (fun _ _ _ _ _ _ _ _ hp _ => hp X hX))
theorem uf_X7_price_51 {Q : HS → Prop} {v0 : Nat} {v1 : Nat} {v2 : Nat} {v3 : Int32} {v4 : Nat} {v5 : Int32} {v6 : Int32} {S : HS} (h : P_X7_price_51 Q v0 v1 v2 v3 v4 v5 v6 S) : B_X7_price_51 Q (P_X7_price_51 Q) v0 v1 v2 v3 v4 v5 v6 S := h (fun v0 v1 v2 v3 v4 v5 v6 S => B_X7_price_51 Q (P_X7_price_51 Q) v0 v1 v2 v3 v4 v5 v6 S) (fun v0 v1 v2 v3 v4 v5 v6 S hB => cmB_X7_price_51 hB hB (fun _ a _ => a) (fun _ _ _ _ _ _ _ _ hb _ => fd_X7_price_51 hb))
theorem cm_X7_price_51 {Q1 Q2 Q3 : HS → Prop} {v0 : Nat} {v1 : Nat} {v2 : Nat} {v3 : Int32} {v4 : Nat} {v5 : Int32} {v6 : Int32} {S : HS} (h1 : P_X7_price_51 Q1 v0 v1 v2 v3 v4 v5 v6 S) (h2 : P_X7_price_51 Q2 v0 v1 v2 v3 v4 v5 v6 S) (hq : ∀ (T : HS), Q1 T → Q2 T → Q3 T) : P_X7_price_51 Q3 v0 v1 v2 v3 v4 v5 v6 S := h1 (fun v0 v1 v2 v3 v4 v5 v6 S => P_X7_price_51 Q2 v0 v1 v2 v3 v4 v5 v6 S → P_X7_price_51 Q3 v0 v1 v2 v3 v4 v5 v6 S) (fun v0 v1 v2 v3 v4 v5 v6 S hB hp => fd_X7_price_51 (cmB_X7_price_51 hB (uf_X7_price_51 hp) hq (fun _ _ _ _ _ _ _ _ hx hp => hx hp))) h2
set_option maxRecDepth 20000 in
set_option maxHeartbeats 1000000 in
theorem cm_X7_price_46 {Q1 Q2 Q3 : HS → Prop} {v0 : Nat} {v1 : Nat} {v2 : Nat} {v3 : Int32} {v4 : Nat} {s0 : Int32} {S : HS} (h1 : P_X7_price_46 Q1 v0 v1 v2 v3 v4 s0 S) (h2 : P_X7_price_46 Q2 v0 v1 v2 v3 v4 s0 S) (hq : ∀ (T : HS), Q1 T → Q2 T → Q3 T) : P_X7_price_46 Q3 v0 v1 v2 v3 v4 s0 S := by
  delta P_X7_price_46 at h1 h2 ⊢
  exact cm_X7_price_51 h1 h2 hq
set_option maxRecDepth 20000 in
set_option maxHeartbeats 1000000 in
theorem cm_X7_price_0 {Q1 Q2 Q3 : HS → Prop} {v0 : Nat} {v1 : Nat} {v2 : Nat} {v3 : Int32} {S : HS} (h1 : P_X7_price_0 Q1 v0 v1 v2 v3 S) (h2 : P_X7_price_0 Q2 v0 v1 v2 v3 S) (hq : ∀ (T : HS), Q1 T → Q2 T → Q3 T) : P_X7_price_0 Q3 v0 v1 v2 v3 S := by
  delta P_X7_price_0 at h1 h2 ⊢
  obtain ⟨c1, h1⟩ := h1
  obtain ⟨_, h2⟩ := h2
  refine ⟨c1, ?_⟩
  intro x3 e2
  have h1 := h1 x3 e2
  have h2 := h2 x3 e2
  intro x5 e4
  have h1 := h1 x5 e4
  have h2 := h2 x5 e4
  intro x7 e6
  have h1 := h1 x7 e6
  have h2 := h2 x7 e6
  obtain ⟨c8, h1⟩ := h1
  obtain ⟨_, h2⟩ := h2
  refine ⟨c8, ?_⟩
  refine cm_X8_hasWalker h1 h2 (fun x9 x10 h1 h2 g11 g12 => ?_)
  have h1 := h1 g11 g12
  have h2 := h2 g11 g12
  refine ⟨?_, ?_⟩
  · intro c13
    have h1 := h1.1 c13
    have h2 := h2.1 c13
    obtain ⟨b14, e15, h1⟩ := h1
    obtain ⟨b16, e17, h2⟩ := h2
    cases e15.symm.trans e17
    refine ⟨b14, e15, ?_⟩
    intro x19 e18
    have h1 := h1 x19 e18
    have h2 := h2 x19 e18
    obtain ⟨c20, h1⟩ := h1
    obtain ⟨_, h2⟩ := h2
    refine ⟨c20, ?_⟩
    obtain ⟨c21, h1⟩ := h1
    obtain ⟨_, h2⟩ := h2
    refine ⟨c21, ?_⟩
    obtain ⟨b22, e23, h1⟩ := h1
    obtain ⟨b24, e25, h2⟩ := h2
    cases e23.symm.trans e25
    refine ⟨b22, e23, ?_⟩
    refine cm_X8_hasHour h1 h2 (fun x26 x27 h1 h2 g28 g29 => ?_)
    have h1 := h1 g28 g29
    have h2 := h2 g28 g29
    refine ⟨?_, ?_⟩
    · intro c30
      have h1 := h1.1 c30
      have h2 := h2.1 c30
      exact cm_X7_price_46 h1 h2 hq
    · intro c31
      have h1 := h1.2 c31
      have h2 := h2.2 c31
      exact cm_X7_price_46 h1 h2 hq
  · intro c32
    have h1 := h1.2 c32
    have h2 := h2.2 c32
    exact hq _ h1 h2
theorem cm_X7_price {Q1 Q2 Q3 : HS → Prop} {v0 : Nat} {v1 : Nat} {v2 : Nat} {v3 : Int32} {S : HS} (h1 : P_X7_price v0 v1 v2 v3 Q1 S) (h2 : P_X7_price v0 v1 v2 v3 Q2 S) (hq : ∀ (T : HS), Q1 T → Q2 T → Q3 T) : P_X7_price v0 v1 v2 v3 Q3 S := cm_X7_price_0 h1 h2 hq
set_option maxRecDepth 20000 in
set_option maxHeartbeats 1000000 in
theorem cm_X7_reckonMinute_40 {Q1 Q2 Q3 : HS → Prop} {X2_1 X2_2 X2_3 : Nat → Int32 → Int32 → Int32 → HS → Prop} {v0 : Nat} {v1 : Int32} {v2 : Int32} {v3 : Int32} {s0 : Nat} {s1 : Int32} {s2 : Int64} {S : HS} (h1 : P_X7_reckonMinute_40 Q1 X2_1 v0 v1 v2 v3 s0 s1 s2 S) (h2 : P_X7_reckonMinute_40 Q2 X2_2 v0 v1 v2 v3 s0 s1 s2 S) (hq : ∀ (T : HS), Q1 T → Q2 T → Q3 T) (hX2 : ∀ (u0 : Nat) (u1 : Int32) (u2 : Int32) (u3 : Int32) (u4 : HS), X2_1 u0 u1 u2 u3 u4 → X2_2 u0 u1 u2 u3 u4 → X2_3 u0 u1 u2 u3 u4) : P_X7_reckonMinute_40 Q3 X2_3 v0 v1 v2 v3 s0 s1 s2 S := by
  delta P_X7_reckonMinute_40 at h1 h2 ⊢
  obtain ⟨c1, h1⟩ := h1
  obtain ⟨_, h2⟩ := h2
  refine ⟨c1, ?_⟩
  obtain ⟨c2, h1⟩ := h1
  obtain ⟨_, h2⟩ := h2
  refine ⟨c2, ?_⟩
  intro x4 e3
  have h1 := h1 x4 e3
  have h2 := h2 x4 e3
  obtain ⟨c5, h1⟩ := h1
  obtain ⟨_, h2⟩ := h2
  refine ⟨c5, ?_⟩
  obtain ⟨b6, e7, h1⟩ := h1
  obtain ⟨b8, e9, h2⟩ := h2
  cases e7.symm.trans e9
  refine ⟨b6, e7, ?_⟩
  obtain ⟨c10, h1⟩ := h1
  obtain ⟨_, h2⟩ := h2
  refine ⟨c10, ?_⟩
  obtain ⟨c11, h1⟩ := h1
  obtain ⟨_, h2⟩ := h2
  refine ⟨c11, ?_⟩
  intro x13 e12
  have h1 := h1 x13 e12
  have h2 := h2 x13 e12
  intro x15 e14
  have h1 := h1 x15 e14
  have h2 := h2 x15 e14
  exact hX2 _ _ _ _ _ h1 h2
set_option maxRecDepth 20000 in
set_option maxHeartbeats 1000000 in
theorem cm_X7_reckonMinute_219 {Q1 Q2 Q3 : HS → Prop} {X62_1 X62_2 X62_3 : Nat → Int32 → Int32 → HS → Prop} {v0 : Nat} {v2 : Int32} {v3 : Int32} {S : HS} (h1 : P_X7_reckonMinute_219 Q1 X62_1 v0 v2 v3 S) (h2 : P_X7_reckonMinute_219 Q2 X62_2 v0 v2 v3 S) (hq : ∀ (T : HS), Q1 T → Q2 T → Q3 T) (hX62 : ∀ (u0 : Nat) (u1 : Int32) (u2 : Int32) (u3 : HS), X62_1 u0 u1 u2 u3 → X62_2 u0 u1 u2 u3 → X62_3 u0 u1 u2 u3) : P_X7_reckonMinute_219 Q3 X62_3 v0 v2 v3 S := by
  delta P_X7_reckonMinute_219 at h1 h2 ⊢
  intro x2 e1
  have h1 := h1 x2 e1
  have h2 := h2 x2 e1
  exact hX62 _ _ _ _ h1 h2
set_option maxRecDepth 20000 in
set_option maxHeartbeats 1000000 in
theorem cm_X7_reckonMinute_117 {Q1 Q2 Q3 : HS → Prop} {X62_1 X62_2 X62_3 : Nat → Int32 → Int32 → HS → Prop} {v0 : Nat} {v2 : Int32} {v3 : Int32} {v4 : Int32} {v5 : Int32} {s0 : Int32} {S : HS} (h1 : P_X7_reckonMinute_117 Q1 X62_1 v0 v2 v3 v4 v5 s0 S) (h2 : P_X7_reckonMinute_117 Q2 X62_2 v0 v2 v3 v4 v5 s0 S) (hq : ∀ (T : HS), Q1 T → Q2 T → Q3 T) (hX62 : ∀ (u0 : Nat) (u1 : Int32) (u2 : Int32) (u3 : HS), X62_1 u0 u1 u2 u3 → X62_2 u0 u1 u2 u3 → X62_3 u0 u1 u2 u3) : P_X7_reckonMinute_117 Q3 X62_3 v0 v2 v3 v4 v5 s0 S := by
  delta P_X7_reckonMinute_117 at h1 h2 ⊢
  refine ⟨?_, ?_⟩
  · intro c1
    have h1 := h1.1 c1
    have h2 := h2.1 c1
    exact cm_X7_reckonMinute_219 h1 h2 hq hX62
  · intro c2
    have h1 := h1.2 c2
    have h2 := h2.2 c2
    refine ⟨?_, ?_⟩
    · intro c3
      have h1 := h1.1 c3
      have h2 := h2.1 c3
      exact cm_X7_reckonMinute_219 h1 h2 hq hX62
    · intro c4
      have h1 := h1.2 c4
      have h2 := h2.2 c4
      obtain ⟨c5, h1⟩ := h1
      obtain ⟨_, h2⟩ := h2
      refine ⟨c5, ?_⟩
      obtain ⟨b6, e7, h1⟩ := h1
      obtain ⟨b8, e9, h2⟩ := h2
      cases e7.symm.trans e9
      refine ⟨b6, e7, ?_⟩
      obtain ⟨c10, h1⟩ := h1
      obtain ⟨_, h2⟩ := h2
      refine ⟨c10, ?_⟩
      refine ⟨?_, ?_⟩
      · intro c11
        have h1 := h1.1 c11
        have h2 := h2.1 c11
        exact cm_X7_reckonMinute_219 h1 h2 hq hX62
      · intro c12
        have h1 := h1.2 c12
        have h2 := h2.2 c12
        refine ⟨?_, ?_⟩
        · intro c13
          have h1 := h1.1 c13
          have h2 := h2.1 c13
          exact cm_X7_reckonMinute_219 h1 h2 hq hX62
        · intro c14
          have h1 := h1.2 c14
          have h2 := h2.2 c14
          obtain ⟨b15, e16, h1⟩ := h1
          obtain ⟨b17, e18, h2⟩ := h2
          cases e16.symm.trans e18
          refine ⟨b15, e16, ?_⟩
          obtain ⟨c19, h1⟩ := h1
          obtain ⟨_, h2⟩ := h2
          refine ⟨c19, ?_⟩
          refine ⟨?_, ?_⟩
          · intro c20
            have h1 := h1.1 c20
            have h2 := h2.1 c20
            exact cm_X7_reckonMinute_219 h1 h2 hq hX62
          · intro c21
            have h1 := h1.2 c21
            have h2 := h2.2 c21
            obtain ⟨b22, e23, h1⟩ := h1
            obtain ⟨b24, e25, h2⟩ := h2
            cases e23.symm.trans e25
            refine ⟨b22, e23, ?_⟩
            obtain ⟨c26, h1⟩ := h1
            obtain ⟨_, h2⟩ := h2
            refine ⟨c26, ?_⟩
            obtain ⟨c27, h1⟩ := h1
            obtain ⟨_, h2⟩ := h2
            refine ⟨c27, ?_⟩
            intro x29 e28
            have h1 := h1 x29 e28
            have h2 := h2 x29 e28
            refine ⟨?_, ?_⟩
            · intro c30
              have h1 := h1.1 c30
              have h2 := h2.1 c30
              exact cm_X7_reckonMinute_219 h1 h2 hq hX62
            · intro c31
              have h1 := h1.2 c31
              have h2 := h2.2 c31
              obtain ⟨b32, e33, h1⟩ := h1
              obtain ⟨b34, e35, h2⟩ := h2
              cases e33.symm.trans e35
              refine ⟨b32, e33, ?_⟩
              obtain ⟨c36, h1⟩ := h1
              obtain ⟨_, h2⟩ := h2
              refine ⟨c36, ?_⟩
              obtain ⟨c37, h1⟩ := h1
              obtain ⟨_, h2⟩ := h2
              refine ⟨c37, ?_⟩
              intro x39 e38
              have h1 := h1 x39 e38
              have h2 := h2 x39 e38
              obtain ⟨b40, e41, h1⟩ := h1
              obtain ⟨b42, e43, h2⟩ := h2
              cases e41.symm.trans e43
              refine ⟨b40, e41, ?_⟩
              obtain ⟨c44, h1⟩ := h1
              obtain ⟨_, h2⟩ := h2
              refine ⟨c44, ?_⟩
              obtain ⟨c45, h1⟩ := h1
              obtain ⟨_, h2⟩ := h2
              refine ⟨c45, ?_⟩
              intro x47 e46
              have h1 := h1 x47 e46
              have h2 := h2 x47 e46
              intro x49 e48
              have h1 := h1 x49 e48
              have h2 := h2 x49 e48
              obtain ⟨b50, e51, h1⟩ := h1
              obtain ⟨b52, e53, h2⟩ := h2
              cases e51.symm.trans e53
              refine ⟨b50, e51, ?_⟩
              obtain ⟨c54, h1⟩ := h1
              obtain ⟨_, h2⟩ := h2
              refine ⟨c54, ?_⟩
              obtain ⟨c55, h1⟩ := h1
              obtain ⟨_, h2⟩ := h2
              refine ⟨c55, ?_⟩
              intro x57 e56
              have h1 := h1 x57 e56
              have h2 := h2 x57 e56
              refine ⟨?_, ?_⟩
              · intro c58
                have h1 := h1.1 c58
                have h2 := h2.1 c58
                exact cm_X7_reckonMinute_219 h1 h2 hq hX62
              · intro c59
                have h1 := h1.2 c59
                have h2 := h2.2 c59
                obtain ⟨b60, e61, h1⟩ := h1
                obtain ⟨b62, e63, h2⟩ := h2
                cases e61.symm.trans e63
                refine ⟨b60, e61, ?_⟩
                obtain ⟨c64, h1⟩ := h1
                obtain ⟨_, h2⟩ := h2
                refine ⟨c64, ?_⟩
                obtain ⟨c65, h1⟩ := h1
                obtain ⟨_, h2⟩ := h2
                refine ⟨c65, ?_⟩
                intro x67 e66
                have h1 := h1 x67 e66
                have h2 := h2 x67 e66
                obtain ⟨b68, e69, h1⟩ := h1
                obtain ⟨b70, e71, h2⟩ := h2
                cases e69.symm.trans e71
                refine ⟨b68, e69, ?_⟩
                obtain ⟨b72, e73, h1⟩ := h1
                obtain ⟨b74, e75, h2⟩ := h2
                cases e73.symm.trans e75
                refine ⟨b72, e73, ?_⟩
                obtain ⟨c76, h1⟩ := h1
                obtain ⟨_, h2⟩ := h2
                refine ⟨c76, ?_⟩
                obtain ⟨c77, h1⟩ := h1
                obtain ⟨_, h2⟩ := h2
                refine ⟨c77, ?_⟩
                intro x79 e78
                have h1 := h1 x79 e78
                have h2 := h2 x79 e78
                obtain ⟨c80, h1⟩ := h1
                obtain ⟨_, h2⟩ := h2
                refine ⟨c80, ?_⟩
                obtain ⟨c81, h1⟩ := h1
                obtain ⟨_, h2⟩ := h2
                refine ⟨c81, ?_⟩
                intro x83 e82
                have h1 := h1 x83 e82
                have h2 := h2 x83 e82
                exact cm_X7_reckonMinute_219 h1 h2 hq hX62
set_option maxRecDepth 20000 in
set_option maxHeartbeats 1000000 in
theorem cmB_X7_reckonMinute_62 {Q1 Q2 Q3 : HS → Prop} {X62_1 X62_2 X62_3 : Nat → Int32 → Int32 → HS → Prop} {v0 : Nat} {v2 : Int32} {v3 : Int32} {S : HS} (h1 : B_X7_reckonMinute_62 Q1 X62_1 v0 v2 v3 S) (h2 : B_X7_reckonMinute_62 Q2 X62_2 v0 v2 v3 S) (hq : ∀ (T : HS), Q1 T → Q2 T → Q3 T) (hX62 : ∀ (u0 : Nat) (u1 : Int32) (u2 : Int32) (u3 : HS), X62_1 u0 u1 u2 u3 → X62_2 u0 u1 u2 u3 → X62_3 u0 u1 u2 u3) : B_X7_reckonMinute_62 Q3 X62_3 v0 v2 v3 S := by
  delta B_X7_reckonMinute_62 at h1 h2 ⊢
  obtain ⟨c1, h1⟩ := h1
  obtain ⟨_, h2⟩ := h2
  refine ⟨c1, ?_⟩
  intro x3 e2
  have h1 := h1 x3 e2
  have h2 := h2 x3 e2
  refine ⟨?_, ?_⟩
  · intro c4
    have h1 := h1.1 c4
    have h2 := h2.1 c4
    exact hq _ h1 h2
  · intro c5
    have h1 := h1.2 c5
    have h2 := h2.2 c5
    refine ⟨?_, ?_⟩
    · intro c6
      have h1 := h1.1 c6
      have h2 := h2.1 c6
      exact hq _ h1 h2
    · intro c7
      have h1 := h1.2 c7
      have h2 := h2.2 c7
      obtain ⟨b8, e9, h1⟩ := h1
      obtain ⟨b10, e11, h2⟩ := h2
      cases e9.symm.trans e11
      refine ⟨b8, e9, ?_⟩
      obtain ⟨c12, h1⟩ := h1
      obtain ⟨_, h2⟩ := h2
      refine ⟨c12, ?_⟩
      obtain ⟨c13, h1⟩ := h1
      obtain ⟨_, h2⟩ := h2
      refine ⟨c13, ?_⟩
      intro x15 e14
      have h1 := h1 x15 e14
      have h2 := h2 x15 e14
      intro x17 e16
      have h1 := h1 x17 e16
      have h2 := h2 x17 e16
      obtain ⟨b18, e19, h1⟩ := h1
      obtain ⟨b20, e21, h2⟩ := h2
      cases e19.symm.trans e21
      refine ⟨b18, e19, ?_⟩
      obtain ⟨c22, h1⟩ := h1
      obtain ⟨_, h2⟩ := h2
      refine ⟨c22, ?_⟩
      obtain ⟨c23, h1⟩ := h1
      obtain ⟨_, h2⟩ := h2
      refine ⟨c23, ?_⟩
      intro x25 e24
      have h1 := h1 x25 e24
      have h2 := h2 x25 e24
      intro x27 e26
      have h1 := h1 x27 e26
      have h2 := h2 x27 e26
      obtain ⟨b28, e29, h1⟩ := h1
      obtain ⟨b30, e31, h2⟩ := h2
      cases e29.symm.trans e31
      refine ⟨b28, e29, ?_⟩
      obtain ⟨c32, h1⟩ := h1
      obtain ⟨_, h2⟩ := h2
      refine ⟨c32, ?_⟩
      obtain ⟨c33, h1⟩ := h1
      obtain ⟨_, h2⟩ := h2
      refine ⟨c33, ?_⟩
      intro x35 e34
      have h1 := h1 x35 e34
      have h2 := h2 x35 e34
      intro x37 e36
      have h1 := h1 x37 e36
      have h2 := h2 x37 e36
      refine ⟨?_, ?_⟩
      · intro c38
        have h1 := h1.1 c38
        have h2 := h2.1 c38
        exact cm_X7_reckonMinute_117 h1 h2 hq hX62
      · intro c39
        have h1 := h1.2 c39
        have h2 := h2.2 c39
        exact cm_X7_reckonMinute_117 h1 h2 hq hX62
theorem fd_X7_reckonMinute_62 {Q : HS → Prop} {v0 : Nat} {v2 : Int32} {v3 : Int32} {S : HS} (h : B_X7_reckonMinute_62 Q (P_X7_reckonMinute_62 Q) v0 v2 v3 S) : P_X7_reckonMinute_62 Q v0 v2 v3 S := fun X hX => hX v0 v2 v3 S (cmB_X7_reckonMinute_62 h h (fun _ a _ => a) (fun _ _ _ _ hp _ => hp X hX))
theorem uf_X7_reckonMinute_62 {Q : HS → Prop} {v0 : Nat} {v2 : Int32} {v3 : Int32} {S : HS} (h : P_X7_reckonMinute_62 Q v0 v2 v3 S) : B_X7_reckonMinute_62 Q (P_X7_reckonMinute_62 Q) v0 v2 v3 S := h (fun v0 v2 v3 S => B_X7_reckonMinute_62 Q (P_X7_reckonMinute_62 Q) v0 v2 v3 S) (fun v0 v2 v3 S hB => cmB_X7_reckonMinute_62 hB hB (fun _ a _ => a) (fun _ _ _ _ hb _ => fd_X7_reckonMinute_62 hb))
theorem cm_X7_reckonMinute_62 {Q1 Q2 Q3 : HS → Prop} {v0 : Nat} {v2 : Int32} {v3 : Int32} {S : HS} (h1 : P_X7_reckonMinute_62 Q1 v0 v2 v3 S) (h2 : P_X7_reckonMinute_62 Q2 v0 v2 v3 S) (hq : ∀ (T : HS), Q1 T → Q2 T → Q3 T) : P_X7_reckonMinute_62 Q3 v0 v2 v3 S := h1 (fun v0 v2 v3 S => P_X7_reckonMinute_62 Q2 v0 v2 v3 S → P_X7_reckonMinute_62 Q3 v0 v2 v3 S) (fun v0 v2 v3 S hB hp => fd_X7_reckonMinute_62 (cmB_X7_reckonMinute_62 hB (uf_X7_reckonMinute_62 hp) hq (fun _ _ _ _ hx hp => hx hp))) h2
set_option maxRecDepth 20000 in
set_option maxHeartbeats 1000000 in
theorem cm_X7_reckonMinute_60 {Q1 Q2 Q3 : HS → Prop} {v0 : Nat} {v2 : Int32} {S : HS} (h1 : P_X7_reckonMinute_60 Q1 v0 v2 S) (h2 : P_X7_reckonMinute_60 Q2 v0 v2 S) (hq : ∀ (T : HS), Q1 T → Q2 T → Q3 T) : P_X7_reckonMinute_60 Q3 v0 v2 S := by
  delta P_X7_reckonMinute_60 at h1 h2 ⊢
  exact cm_X7_reckonMinute_62 h1 h2 hq
set_option maxRecDepth 20000 in
set_option maxHeartbeats 1000000 in
theorem cmB_X7_reckonMinute_2 {Q1 Q2 Q3 : HS → Prop} {X2_1 X2_2 X2_3 : Nat → Int32 → Int32 → Int32 → HS → Prop} {v0 : Nat} {v1 : Int32} {v2 : Int32} {v3 : Int32} {S : HS} (h1 : B_X7_reckonMinute_2 Q1 X2_1 v0 v1 v2 v3 S) (h2 : B_X7_reckonMinute_2 Q2 X2_2 v0 v1 v2 v3 S) (hq : ∀ (T : HS), Q1 T → Q2 T → Q3 T) (hX2 : ∀ (u0 : Nat) (u1 : Int32) (u2 : Int32) (u3 : Int32) (u4 : HS), X2_1 u0 u1 u2 u3 u4 → X2_2 u0 u1 u2 u3 u4 → X2_3 u0 u1 u2 u3 u4) : B_X7_reckonMinute_2 Q3 X2_3 v0 v1 v2 v3 S := by
  delta B_X7_reckonMinute_2 at h1 h2 ⊢
  refine ⟨?_, ?_⟩
  · intro c1
    have h1 := h1.1 c1
    have h2 := h2.1 c1
    exact cm_X7_reckonMinute_60 h1 h2 hq
  · intro c2
    have h1 := h1.2 c2
    have h2 := h2.2 c2
    refine ⟨?_, ?_⟩
    · intro c3
      have h1 := h1.1 c3
      have h2 := h2.1 c3
      exact cm_X7_reckonMinute_60 h1 h2 hq
    · intro c4
      have h1 := h1.2 c4
      have h2 := h2.2 c4
      obtain ⟨c5, h1⟩ := h1
      obtain ⟨_, h2⟩ := h2
      refine ⟨c5, ?_⟩
      obtain ⟨b6, e7, h1⟩ := h1
      obtain ⟨b8, e9, h2⟩ := h2
      cases e7.symm.trans e9
      refine ⟨b6, e7, ?_⟩
      intro x11 e10
      have h1 := h1 x11 e10
      have h2 := h2 x11 e10
      refine ⟨?_, ?_⟩
      · intro c12
        have h1 := h1.1 c12
        have h2 := h2.1 c12
        exact cm_X7_reckonMinute_40 h1 h2 hq hX2
      · intro c13
        have h1 := h1.2 c13
        have h2 := h2.2 c13
        exact cm_X7_reckonMinute_40 h1 h2 hq hX2
theorem fd_X7_reckonMinute_2 {Q : HS → Prop} {v0 : Nat} {v1 : Int32} {v2 : Int32} {v3 : Int32} {S : HS} (h : B_X7_reckonMinute_2 Q (P_X7_reckonMinute_2 Q) v0 v1 v2 v3 S) : P_X7_reckonMinute_2 Q v0 v1 v2 v3 S := fun X hX => hX v0 v1 v2 v3 S (cmB_X7_reckonMinute_2 h h (fun _ a _ => a) (fun _ _ _ _ _ hp _ => hp X hX))
theorem uf_X7_reckonMinute_2 {Q : HS → Prop} {v0 : Nat} {v1 : Int32} {v2 : Int32} {v3 : Int32} {S : HS} (h : P_X7_reckonMinute_2 Q v0 v1 v2 v3 S) : B_X7_reckonMinute_2 Q (P_X7_reckonMinute_2 Q) v0 v1 v2 v3 S := h (fun v0 v1 v2 v3 S => B_X7_reckonMinute_2 Q (P_X7_reckonMinute_2 Q) v0 v1 v2 v3 S) (fun v0 v1 v2 v3 S hB => cmB_X7_reckonMinute_2 hB hB (fun _ a _ => a) (fun _ _ _ _ _ hb _ => fd_X7_reckonMinute_2 hb))
theorem cm_X7_reckonMinute_2 {Q1 Q2 Q3 : HS → Prop} {v0 : Nat} {v1 : Int32} {v2 : Int32} {v3 : Int32} {S : HS} (h1 : P_X7_reckonMinute_2 Q1 v0 v1 v2 v3 S) (h2 : P_X7_reckonMinute_2 Q2 v0 v1 v2 v3 S) (hq : ∀ (T : HS), Q1 T → Q2 T → Q3 T) : P_X7_reckonMinute_2 Q3 v0 v1 v2 v3 S := h1 (fun v0 v1 v2 v3 S => P_X7_reckonMinute_2 Q2 v0 v1 v2 v3 S → P_X7_reckonMinute_2 Q3 v0 v1 v2 v3 S) (fun v0 v1 v2 v3 S hB hp => fd_X7_reckonMinute_2 (cmB_X7_reckonMinute_2 hB (uf_X7_reckonMinute_2 hp) hq (fun _ _ _ _ _ hx hp => hx hp))) h2
set_option maxRecDepth 20000 in
set_option maxHeartbeats 1000000 in
theorem cm_X7_reckonMinute_0 {Q1 Q2 Q3 : HS → Prop} {v0 : Nat} {v1 : Int32} {v2 : Int32} {S : HS} (h1 : P_X7_reckonMinute_0 Q1 v0 v1 v2 S) (h2 : P_X7_reckonMinute_0 Q2 v0 v1 v2 S) (hq : ∀ (T : HS), Q1 T → Q2 T → Q3 T) : P_X7_reckonMinute_0 Q3 v0 v1 v2 S := by
  delta P_X7_reckonMinute_0 at h1 h2 ⊢
  exact cm_X7_reckonMinute_2 h1 h2 hq
theorem cm_X7_reckonMinute {Q1 Q2 Q3 : HS → Prop} {v0 : Nat} {v1 : Int32} {v2 : Int32} {S : HS} (h1 : P_X7_reckonMinute v0 v1 v2 Q1 S) (h2 : P_X7_reckonMinute v0 v1 v2 Q2 S) (hq : ∀ (T : HS), Q1 T → Q2 T → Q3 T) : P_X7_reckonMinute v0 v1 v2 Q3 S := cm_X7_reckonMinute_0 h1 h2 hq
set_option maxRecDepth 20000 in
set_option maxHeartbeats 1000000 in
theorem cm_X8_hourOf_0 {Q1 Q2 Q3 : Int32 → HS → Prop} {v0 : Nat} {v1 : Int32} {S : HS} (h1 : P_X8_hourOf_0 Q1 v0 v1 S) (h2 : P_X8_hourOf_0 Q2 v0 v1 S) (hq : ∀ (r : Int32) (T : HS), Q1 r T → Q2 r T → Q3 r T) : P_X8_hourOf_0 Q3 v0 v1 S := by
  delta P_X8_hourOf_0 at h1 h2 ⊢
  obtain ⟨c1, h1⟩ := h1
  obtain ⟨_, h2⟩ := h2
  refine ⟨c1, ?_⟩
  intro x3 e2
  have h1 := h1 x3 e2
  have h2 := h2 x3 e2
  refine ⟨?_, ?_⟩
  · intro c4
    have h1 := h1.1 c4
    have h2 := h2.1 c4
    exact hq _ _ h1 h2
  · intro c5
    have h1 := h1.2 c5
    have h2 := h2.2 c5
    intro x7 e6
    have h1 := h1 x7 e6
    have h2 := h2 x7 e6
    obtain ⟨c8, h1⟩ := h1
    obtain ⟨_, h2⟩ := h2
    refine ⟨c8, ?_⟩
    intro x10 e9
    have h1 := h1 x10 e9
    have h2 := h2 x10 e9
    exact hq _ _ h1 h2
theorem cm_X8_hourOf {Q1 Q2 Q3 : Int32 → HS → Prop} {v0 : Nat} {v1 : Int32} {S : HS} (h1 : P_X8_hourOf v0 v1 Q1 S) (h2 : P_X8_hourOf v0 v1 Q2 S) (hq : ∀ (r : Int32) (T : HS), Q1 r T → Q2 r T → Q3 r T) : P_X8_hourOf v0 v1 Q3 S := cm_X8_hourOf_0 h1 h2 hq
set_option maxRecDepth 20000 in
set_option maxHeartbeats 1000000 in
theorem cm_X7_reckon_120 {Q1 Q2 Q3 : HS → Prop} {X76_1 X76_2 X76_3 : Nat → Nat → Nat → Int32 → Int32 → HS → Prop} {v0 : Nat} {v1 : Nat} {v2 : Nat} {v6 : Int32} {v7 : Int32} {S : HS} (h1 : P_X7_reckon_120 Q1 X76_1 v0 v1 v2 v6 v7 S) (h2 : P_X7_reckon_120 Q2 X76_2 v0 v1 v2 v6 v7 S) (hq : ∀ (T : HS), Q1 T → Q2 T → Q3 T) (hX76 : ∀ (u0 : Nat) (u1 : Nat) (u2 : Nat) (u3 : Int32) (u4 : Int32) (u5 : HS), X76_1 u0 u1 u2 u3 u4 u5 → X76_2 u0 u1 u2 u3 u4 u5 → X76_3 u0 u1 u2 u3 u4 u5) : P_X7_reckon_120 Q3 X76_3 v0 v1 v2 v6 v7 S := by
  delta P_X7_reckon_120 at h1 h2 ⊢
  obtain ⟨c1, h1⟩ := h1
  obtain ⟨_, h2⟩ := h2
  refine ⟨c1, ?_⟩
  intro x3 e2
  have h1 := h1 x3 e2
  have h2 := h2 x3 e2
  obtain ⟨c4, h1⟩ := h1
  obtain ⟨_, h2⟩ := h2
  refine ⟨c4, ?_⟩
  refine cm_X7_reckonMinute h1 h2 (fun x5 h1 h2 g6 => ?_)
  have h1 := h1 g6
  have h2 := h2 g6
  intro x8 e7
  have h1 := h1 x8 e7
  have h2 := h2 x8 e7
  intro x10 e9
  have h1 := h1 x10 e9
  have h2 := h2 x10 e9
  exact hX76 _ _ _ _ _ _ h1 h2
set_option maxRecDepth 20000 in
set_option maxHeartbeats 1000000 in
theorem cmB_X7_reckon_76 {Q1 Q2 Q3 : HS → Prop} {X76_1 X76_2 X76_3 : Nat → Nat → Nat → Int32 → Int32 → HS → Prop} {v0 : Nat} {v1 : Nat} {v2 : Nat} {v6 : Int32} {v7 : Int32} {S : HS} (h1 : B_X7_reckon_76 Q1 X76_1 v0 v1 v2 v6 v7 S) (h2 : B_X7_reckon_76 Q2 X76_2 v0 v1 v2 v6 v7 S) (hq : ∀ (T : HS), Q1 T → Q2 T → Q3 T) (hX76 : ∀ (u0 : Nat) (u1 : Nat) (u2 : Nat) (u3 : Int32) (u4 : Int32) (u5 : HS), X76_1 u0 u1 u2 u3 u4 u5 → X76_2 u0 u1 u2 u3 u4 u5 → X76_3 u0 u1 u2 u3 u4 u5) : B_X7_reckon_76 Q3 X76_3 v0 v1 v2 v6 v7 S := by
  delta B_X7_reckon_76 at h1 h2 ⊢
  refine ⟨?_, ?_⟩
  · intro c1
    have h1 := h1.1 c1
    have h2 := h2.1 c1
    exact hq _ h1 h2
  · intro c2
    have h1 := h1.2 c2
    have h2 := h2.2 c2
    refine ⟨?_, ?_⟩
    · intro c3
      have h1 := h1.1 c3
      have h2 := h2.1 c3
      exact hq _ h1 h2
    · intro c4
      have h1 := h1.2 c4
      have h2 := h2.2 c4
      obtain ⟨c5, h1⟩ := h1
      obtain ⟨_, h2⟩ := h2
      refine ⟨c5, ?_⟩
      refine cm_X8_hourOf h1 h2 (fun x6 x7 h1 h2 g8 => ?_)
      have h1 := h1 g8
      have h2 := h2 g8
      intro x10 e9
      have h1 := h1 x10 e9
      have h2 := h2 x10 e9
      intro x12 e11
      have h1 := h1 x12 e11
      have h2 := h2 x12 e11
      obtain ⟨c13, h1⟩ := h1
      obtain ⟨_, h2⟩ := h2
      refine ⟨c13, ?_⟩
      intro x15 e14
      have h1 := h1 x15 e14
      have h2 := h2 x15 e14
      refine ⟨?_, ?_⟩
      · intro c16
        have h1 := h1.1 c16
        have h2 := h2.1 c16
        exact cm_X7_reckon_120 h1 h2 hq hX76
      · intro c17
        have h1 := h1.2 c17
        have h2 := h2.2 c17
        refine cm_X7_price h1 h2 (fun x18 h1 h2 g19 => ?_)
        have h1 := h1 g19
        have h2 := h2 g19
        exact cm_X7_reckon_120 h1 h2 hq hX76
theorem fd_X7_reckon_76 {Q : HS → Prop} {v0 : Nat} {v1 : Nat} {v2 : Nat} {v6 : Int32} {v7 : Int32} {S : HS} (h : B_X7_reckon_76 Q (P_X7_reckon_76 Q) v0 v1 v2 v6 v7 S) : P_X7_reckon_76 Q v0 v1 v2 v6 v7 S := fun X hX => hX v0 v1 v2 v6 v7 S (cmB_X7_reckon_76 h h (fun _ a _ => a) (fun _ _ _ _ _ _ hp _ => hp X hX))
theorem uf_X7_reckon_76 {Q : HS → Prop} {v0 : Nat} {v1 : Nat} {v2 : Nat} {v6 : Int32} {v7 : Int32} {S : HS} (h : P_X7_reckon_76 Q v0 v1 v2 v6 v7 S) : B_X7_reckon_76 Q (P_X7_reckon_76 Q) v0 v1 v2 v6 v7 S := h (fun v0 v1 v2 v6 v7 S => B_X7_reckon_76 Q (P_X7_reckon_76 Q) v0 v1 v2 v6 v7 S) (fun v0 v1 v2 v6 v7 S hB => cmB_X7_reckon_76 hB hB (fun _ a _ => a) (fun _ _ _ _ _ _ hb _ => fd_X7_reckon_76 hb))
theorem cm_X7_reckon_76 {Q1 Q2 Q3 : HS → Prop} {v0 : Nat} {v1 : Nat} {v2 : Nat} {v6 : Int32} {v7 : Int32} {S : HS} (h1 : P_X7_reckon_76 Q1 v0 v1 v2 v6 v7 S) (h2 : P_X7_reckon_76 Q2 v0 v1 v2 v6 v7 S) (hq : ∀ (T : HS), Q1 T → Q2 T → Q3 T) : P_X7_reckon_76 Q3 v0 v1 v2 v6 v7 S := h1 (fun v0 v1 v2 v6 v7 S => P_X7_reckon_76 Q2 v0 v1 v2 v6 v7 S → P_X7_reckon_76 Q3 v0 v1 v2 v6 v7 S) (fun v0 v1 v2 v6 v7 S hB hp => fd_X7_reckon_76 (cmB_X7_reckon_76 hB (uf_X7_reckon_76 hp) hq (fun _ _ _ _ _ _ hx hp => hx hp))) h2
set_option maxRecDepth 20000 in
set_option maxHeartbeats 1000000 in
theorem cm_X7_reckon_68 {Q1 Q2 Q3 : HS → Prop} {v0 : Nat} {v1 : Nat} {v2 : Nat} {v6 : Int32} {S : HS} (h1 : P_X7_reckon_68 Q1 v0 v1 v2 v6 S) (h2 : P_X7_reckon_68 Q2 v0 v1 v2 v6 S) (hq : ∀ (T : HS), Q1 T → Q2 T → Q3 T) : P_X7_reckon_68 Q3 v0 v1 v2 v6 S := by
  delta P_X7_reckon_68 at h1 h2 ⊢
  obtain ⟨c1, h1⟩ := h1
  obtain ⟨_, h2⟩ := h2
  refine ⟨c1, ?_⟩
  intro x3 e2
  have h1 := h1 x3 e2
  have h2 := h2 x3 e2
  intro x5 e4
  have h1 := h1 x5 e4
  have h2 := h2 x5 e4
  exact cm_X7_reckon_76 h1 h2 hq
set_option maxRecDepth 20000 in
set_option maxHeartbeats 1000000 in
theorem cm_X7_reckon_38 {Q1 Q2 Q3 : HS → Prop} {v0 : Nat} {v1 : Nat} {v2 : Nat} {v3 : Int32} {v4 : Int32} {v5 : Int32} {v6 : Int32} {S : HS} (h1 : P_X7_reckon_38 Q1 v0 v1 v2 v3 v4 v5 v6 S) (h2 : P_X7_reckon_38 Q2 v0 v1 v2 v3 v4 v5 v6 S) (hq : ∀ (T : HS), Q1 T → Q2 T → Q3 T) : P_X7_reckon_38 Q3 v0 v1 v2 v3 v4 v5 v6 S := by
  delta P_X7_reckon_38 at h1 h2 ⊢
  obtain ⟨c1, h1⟩ := h1
  obtain ⟨_, h2⟩ := h2
  refine ⟨c1, ?_⟩
  intro x3 e2
  have h1 := h1 x3 e2
  have h2 := h2 x3 e2
  intro x5 e4
  have h1 := h1 x5 e4
  have h2 := h2 x5 e4
  intro x7 e6
  have h1 := h1 x7 e6
  have h2 := h2 x7 e6
  intro x9 e8
  have h1 := h1 x9 e8
  have h2 := h2 x9 e8
  intro x11 e10
  have h1 := h1 x11 e10
  have h2 := h2 x11 e10
  intro x13 e12
  have h1 := h1 x13 e12
  have h2 := h2 x13 e12
  exact cm_X7_reckon_68 h1 h2 hq
set_option maxRecDepth 20000 in
set_option maxHeartbeats 1000000 in
theorem cm_X7_reckon_12 {Q1 Q2 Q3 : HS → Prop} {v0 : Nat} {v1 : Nat} {v2 : Nat} {v3 : Int32} {v4 : Int32} {v5 : Int32} {v6 : Int32} {S : HS} (h1 : P_X7_reckon_12 Q1 v0 v1 v2 v3 v4 v5 v6 S) (h2 : P_X7_reckon_12 Q2 v0 v1 v2 v3 v4 v5 v6 S) (hq : ∀ (T : HS), Q1 T → Q2 T → Q3 T) : P_X7_reckon_12 Q3 v0 v1 v2 v3 v4 v5 v6 S := by
  delta P_X7_reckon_12 at h1 h2 ⊢
  obtain ⟨c1, h1⟩ := h1
  obtain ⟨_, h2⟩ := h2
  refine ⟨c1, ?_⟩
  intro x3 e2
  have h1 := h1 x3 e2
  have h2 := h2 x3 e2
  refine ⟨?_, ?_⟩
  · intro c4
    have h1 := h1.1 c4
    have h2 := h2.1 c4
    exact cm_X7_reckon_38 h1 h2 hq
  · intro c5
    have h1 := h1.2 c5
    have h2 := h2.2 c5
    intro x7 e6
    have h1 := h1 x7 e6
    have h2 := h2 x7 e6
    refine ⟨?_, ?_⟩
    · intro c8
      have h1 := h1.1 c8
      have h2 := h2.1 c8
      exact cm_X7_reckon_38 h1 h2 hq
    · intro c9
      have h1 := h1.2 c9
      have h2 := h2.2 c9
      intro x11 e10
      have h1 := h1 x11 e10
      have h2 := h2 x11 e10
      refine ⟨?_, ?_⟩
      · intro c12
        have h1 := h1.1 c12
        have h2 := h2.1 c12
        exact cm_X7_reckon_68 h1 h2 hq
      · intro c13
        have h1 := h1.2 c13
        have h2 := h2.2 c13
        exact cm_X7_reckon_38 h1 h2 hq
set_option maxRecDepth 20000 in
set_option maxHeartbeats 1000000 in
theorem cm_X7_reckon_0 {Q1 Q2 Q3 : HS → Prop} {v0 : Nat} {v1 : Nat} {v2 : Nat} {v3 : Int32} {v4 : Int32} {v5 : Int32} {v6 : Int32} {S : HS} (h1 : P_X7_reckon_0 Q1 v0 v1 v2 v3 v4 v5 v6 S) (h2 : P_X7_reckon_0 Q2 v0 v1 v2 v3 v4 v5 v6 S) (hq : ∀ (T : HS), Q1 T → Q2 T → Q3 T) : P_X7_reckon_0 Q3 v0 v1 v2 v3 v4 v5 v6 S := by
  delta P_X7_reckon_0 at h1 h2 ⊢
  obtain ⟨c1, h1⟩ := h1
  obtain ⟨_, h2⟩ := h2
  refine ⟨c1, ?_⟩
  obtain ⟨b2, e3, h1⟩ := h1
  obtain ⟨b4, e5, h2⟩ := h2
  cases e3.symm.trans e5
  refine ⟨b2, e3, ?_⟩
  obtain ⟨c6, h1⟩ := h1
  obtain ⟨_, h2⟩ := h2
  refine ⟨c6, ?_⟩
  refine ⟨?_, ?_⟩
  · intro c7
    have h1 := h1.1 c7
    have h2 := h2.1 c7
    exact cm_X7_reckon_12 h1 h2 hq
  · intro c8
    have h1 := h1.2 c8
    have h2 := h2.2 c8
    refine cm_X7_makeRows h1 h2 (fun x9 h1 h2 g10 => ?_)
    have h1 := h1 g10
    have h2 := h2 g10
    exact cm_X7_reckon_12 h1 h2 hq
theorem cm_X7_reckon {Q1 Q2 Q3 : HS → Prop} {v0 : Nat} {v1 : Nat} {v2 : Nat} {v3 : Int32} {v4 : Int32} {v5 : Int32} {v6 : Int32} {S : HS} (h1 : P_X7_reckon v0 v1 v2 v3 v4 v5 v6 Q1 S) (h2 : P_X7_reckon v0 v1 v2 v3 v4 v5 v6 Q2 S) (hq : ∀ (T : HS), Q1 T → Q2 T → Q3 T) : P_X7_reckon v0 v1 v2 v3 v4 v5 v6 Q3 S := cm_X7_reckon_0 h1 h2 hq
set_option maxRecDepth 20000 in
set_option maxHeartbeats 1000000 in
theorem cm_X7_trace_143 {Q1 Q2 Q3 : Int32 → HS → Prop} {X9_1 X9_2 X9_3 : Nat → Nat → Int32 → Int32 → Int32 → HS → Prop} {v0 : Nat} {v1 : Nat} {v4 : Int32} {v5 : Int32} {v6 : Int32} {S : HS} (h1 : P_X7_trace_143 Q1 X9_1 v0 v1 v4 v5 v6 S) (h2 : P_X7_trace_143 Q2 X9_2 v0 v1 v4 v5 v6 S) (hq : ∀ (r : Int32) (T : HS), Q1 r T → Q2 r T → Q3 r T) (hX9 : ∀ (u0 : Nat) (u1 : Nat) (u2 : Int32) (u3 : Int32) (u4 : Int32) (u5 : HS), X9_1 u0 u1 u2 u3 u4 u5 → X9_2 u0 u1 u2 u3 u4 u5 → X9_3 u0 u1 u2 u3 u4 u5) : P_X7_trace_143 Q3 X9_3 v0 v1 v4 v5 v6 S := by
  delta P_X7_trace_143 at h1 h2 ⊢
  intro x2 e1
  have h1 := h1 x2 e1
  have h2 := h2 x2 e1
  exact hX9 _ _ _ _ _ _ h1 h2
set_option maxRecDepth 20000 in
set_option maxHeartbeats 1000000 in
theorem cm_X7_trace_56 {Q1 Q2 Q3 : Int32 → HS → Prop} {X9_1 X9_2 X9_3 : Nat → Nat → Int32 → Int32 → Int32 → HS → Prop} {v0 : Nat} {v1 : Nat} {v4 : Int32} {v5 : Int32} {v6 : Int32} {s0 : Int32} {S : HS} (h1 : P_X7_trace_56 Q1 X9_1 v0 v1 v4 v5 v6 s0 S) (h2 : P_X7_trace_56 Q2 X9_2 v0 v1 v4 v5 v6 s0 S) (hq : ∀ (r : Int32) (T : HS), Q1 r T → Q2 r T → Q3 r T) (hX9 : ∀ (u0 : Nat) (u1 : Nat) (u2 : Int32) (u3 : Int32) (u4 : Int32) (u5 : HS), X9_1 u0 u1 u2 u3 u4 u5 → X9_2 u0 u1 u2 u3 u4 u5 → X9_3 u0 u1 u2 u3 u4 u5) : P_X7_trace_56 Q3 X9_3 v0 v1 v4 v5 v6 s0 S := by
  delta P_X7_trace_56 at h1 h2 ⊢
  refine ⟨?_, ?_⟩
  · intro c1
    have h1 := h1.1 c1
    have h2 := h2.1 c1
    obtain ⟨c2, h1⟩ := h1
    obtain ⟨_, h2⟩ := h2
    refine ⟨c2, ?_⟩
    obtain ⟨b3, e4, h1⟩ := h1
    obtain ⟨b5, e6, h2⟩ := h2
    cases e4.symm.trans e6
    refine ⟨b3, e4, ?_⟩
    obtain ⟨c7, h1⟩ := h1
    obtain ⟨_, h2⟩ := h2
    refine ⟨c7, ?_⟩
    obtain ⟨c8, h1⟩ := h1
    obtain ⟨_, h2⟩ := h2
    refine ⟨c8, ?_⟩
    intro x10 e9
    have h1 := h1 x10 e9
    have h2 := h2 x10 e9
    refine ⟨?_, ?_⟩
    · intro c11
      have h1 := h1.1 c11
      have h2 := h2.1 c11
      intro x13 e12
      have h1 := h1 x13 e12
      have h2 := h2 x13 e12
      obtain ⟨c14, h1⟩ := h1
      obtain ⟨_, h2⟩ := h2
      refine ⟨c14, ?_⟩
      refine cm_X8_hasRoad h1 h2 (fun x15 x16 h1 h2 g17 g18 => ?_)
      have h1 := h1 g17 g18
      have h2 := h2 g17 g18
      refine ⟨?_, ?_⟩
      · intro c19
        have h1 := h1.1 c19
        have h2 := h2.1 c19
        exact cm_X7_trace_143 h1 h2 hq hX9
      · intro c20
        have h1 := h1.2 c20
        have h2 := h2.2 c20
        obtain ⟨b21, e22, h1⟩ := h1
        obtain ⟨b23, e24, h2⟩ := h2
        cases e22.symm.trans e24
        refine ⟨b21, e22, ?_⟩
        intro x26 e25
        have h1 := h1 x26 e25
        have h2 := h2 x26 e25
        obtain ⟨c27, h1⟩ := h1
        obtain ⟨_, h2⟩ := h2
        refine ⟨c27, ?_⟩
        obtain ⟨c28, h1⟩ := h1
        obtain ⟨_, h2⟩ := h2
        refine ⟨c28, ?_⟩
        obtain ⟨b29, e30, h1⟩ := h1
        obtain ⟨b31, e32, h2⟩ := h2
        cases e30.symm.trans e32
        refine ⟨b29, e30, ?_⟩
        intro x34 e33
        have h1 := h1 x34 e33
        have h2 := h2 x34 e33
        intro x36 e35
        have h1 := h1 x36 e35
        have h2 := h2 x36 e35
        obtain ⟨c37, h1⟩ := h1
        obtain ⟨_, h2⟩ := h2
        refine ⟨c37, ?_⟩
        refine cm_X5_endOf h1 h2 (fun x38 x39 h1 h2 g40 => ?_)
        have h1 := h1 g40
        have h2 := h2 g40
        intro x42 e41
        have h1 := h1 x42 e41
        have h2 := h2 x42 e41
        refine cm_X5_minutesAt h1 h2 (fun x43 x44 h1 h2 g45 => ?_)
        have h1 := h1 g45
        have h2 := h2 g45
        intro x47 e46
        have h1 := h1 x47 e46
        have h2 := h2 x47 e46
        exact cm_X7_trace_143 h1 h2 hq hX9
    · intro c48
      have h1 := h1.2 c48
      have h2 := h2.2 c48
      intro x50 e49
      have h1 := h1 x50 e49
      have h2 := h2 x50 e49
      exact cm_X7_trace_143 h1 h2 hq hX9
  · intro c51
    have h1 := h1.2 c51
    have h2 := h2.2 c51
    exact hq _ _ h1 h2
set_option maxRecDepth 20000 in
set_option maxHeartbeats 1000000 in
theorem cm_X7_trace_55 {Q1 Q2 Q3 : Int32 → HS → Prop} {X9_1 X9_2 X9_3 : Nat → Nat → Int32 → Int32 → Int32 → HS → Prop} {v0 : Nat} {v1 : Nat} {v4 : Int32} {v5 : Int32} {v6 : Int32} {S : HS} (h1 : P_X7_trace_55 Q1 X9_1 v0 v1 v4 v5 v6 S) (h2 : P_X7_trace_55 Q2 X9_2 v0 v1 v4 v5 v6 S) (hq : ∀ (r : Int32) (T : HS), Q1 r T → Q2 r T → Q3 r T) (hX9 : ∀ (u0 : Nat) (u1 : Nat) (u2 : Int32) (u3 : Int32) (u4 : Int32) (u5 : HS), X9_1 u0 u1 u2 u3 u4 u5 → X9_2 u0 u1 u2 u3 u4 u5 → X9_3 u0 u1 u2 u3 u4 u5) : P_X7_trace_55 Q3 X9_3 v0 v1 v4 v5 v6 S := by
  delta P_X7_trace_55 at h1 h2 ⊢
  exact cm_X7_trace_56 h1 h2 hq hX9
set_option maxRecDepth 20000 in
set_option maxHeartbeats 1000000 in
theorem cmB_X7_trace_9 {Q1 Q2 Q3 : Int32 → HS → Prop} {X9_1 X9_2 X9_3 : Nat → Nat → Int32 → Int32 → Int32 → HS → Prop} {v0 : Nat} {v1 : Nat} {v4 : Int32} {v5 : Int32} {v6 : Int32} {S : HS} (h1 : B_X7_trace_9 Q1 X9_1 v0 v1 v4 v5 v6 S) (h2 : B_X7_trace_9 Q2 X9_2 v0 v1 v4 v5 v6 S) (hq : ∀ (r : Int32) (T : HS), Q1 r T → Q2 r T → Q3 r T) (hX9 : ∀ (u0 : Nat) (u1 : Nat) (u2 : Int32) (u3 : Int32) (u4 : Int32) (u5 : HS), X9_1 u0 u1 u2 u3 u4 u5 → X9_2 u0 u1 u2 u3 u4 u5 → X9_3 u0 u1 u2 u3 u4 u5) : B_X7_trace_9 Q3 X9_3 v0 v1 v4 v5 v6 S := by
  delta B_X7_trace_9 at h1 h2 ⊢
  obtain ⟨c1, h1⟩ := h1
  obtain ⟨_, h2⟩ := h2
  refine ⟨c1, ?_⟩
  obtain ⟨b2, e3, h1⟩ := h1
  obtain ⟨b4, e5, h2⟩ := h2
  cases e3.symm.trans e5
  refine ⟨b2, e3, ?_⟩
  obtain ⟨c6, h1⟩ := h1
  obtain ⟨_, h2⟩ := h2
  refine ⟨c6, ?_⟩
  refine ⟨?_, ?_⟩
  · intro c7
    have h1 := h1.1 c7
    have h2 := h2.1 c7
    obtain ⟨b8, e9, h1⟩ := h1
    obtain ⟨b10, e11, h2⟩ := h2
    cases e9.symm.trans e11
    refine ⟨b8, e9, ?_⟩
    obtain ⟨c12, h1⟩ := h1
    obtain ⟨_, h2⟩ := h2
    refine ⟨c12, ?_⟩
    exact hq _ _ h1 h2
  · intro c13
    have h1 := h1.2 c13
    have h2 := h2.2 c13
    intro x15 e14
    have h1 := h1 x15 e14
    have h2 := h2 x15 e14
    refine ⟨?_, ?_⟩
    · intro c16
      have h1 := h1.1 c16
      have h2 := h2.1 c16
      exact cm_X7_trace_55 h1 h2 hq hX9
    · intro c17
      have h1 := h1.2 c17
      have h2 := h2.2 c17
      obtain ⟨b18, e19, h1⟩ := h1
      obtain ⟨b20, e21, h2⟩ := h2
      cases e19.symm.trans e21
      refine ⟨b18, e19, ?_⟩
      obtain ⟨c22, h1⟩ := h1
      obtain ⟨_, h2⟩ := h2
      refine ⟨c22, ?_⟩
      refine ⟨?_, ?_⟩
      · intro c23
        have h1 := h1.1 c23
        have h2 := h2.1 c23
        exact cm_X7_trace_55 h1 h2 hq hX9
      · intro c24
        have h1 := h1.2 c24
        have h2 := h2.2 c24
        obtain ⟨b25, e26, h1⟩ := h1
        obtain ⟨b27, e28, h2⟩ := h2
        cases e26.symm.trans e28
        refine ⟨b25, e26, ?_⟩
        obtain ⟨c29, h1⟩ := h1
        obtain ⟨_, h2⟩ := h2
        refine ⟨c29, ?_⟩
        obtain ⟨c30, h1⟩ := h1
        obtain ⟨_, h2⟩ := h2
        refine ⟨c30, ?_⟩
        intro x32 e31
        have h1 := h1 x32 e31
        have h2 := h2 x32 e31
        exact cm_X7_trace_56 h1 h2 hq hX9
theorem fd_X7_trace_9 {Q : Int32 → HS → Prop} {v0 : Nat} {v1 : Nat} {v4 : Int32} {v5 : Int32} {v6 : Int32} {S : HS} (h : B_X7_trace_9 Q (P_X7_trace_9 Q) v0 v1 v4 v5 v6 S) : P_X7_trace_9 Q v0 v1 v4 v5 v6 S := fun X hX => hX v0 v1 v4 v5 v6 S (cmB_X7_trace_9 h h (fun _ _ a _ => a) (fun _ _ _ _ _ _ hp _ => hp X hX))
theorem uf_X7_trace_9 {Q : Int32 → HS → Prop} {v0 : Nat} {v1 : Nat} {v4 : Int32} {v5 : Int32} {v6 : Int32} {S : HS} (h : P_X7_trace_9 Q v0 v1 v4 v5 v6 S) : B_X7_trace_9 Q (P_X7_trace_9 Q) v0 v1 v4 v5 v6 S := h (fun v0 v1 v4 v5 v6 S => B_X7_trace_9 Q (P_X7_trace_9 Q) v0 v1 v4 v5 v6 S) (fun v0 v1 v4 v5 v6 S hB => cmB_X7_trace_9 hB hB (fun _ _ a _ => a) (fun _ _ _ _ _ _ hb _ => fd_X7_trace_9 hb))
theorem cm_X7_trace_9 {Q1 Q2 Q3 : Int32 → HS → Prop} {v0 : Nat} {v1 : Nat} {v4 : Int32} {v5 : Int32} {v6 : Int32} {S : HS} (h1 : P_X7_trace_9 Q1 v0 v1 v4 v5 v6 S) (h2 : P_X7_trace_9 Q2 v0 v1 v4 v5 v6 S) (hq : ∀ (r : Int32) (T : HS), Q1 r T → Q2 r T → Q3 r T) : P_X7_trace_9 Q3 v0 v1 v4 v5 v6 S := h1 (fun v0 v1 v4 v5 v6 S => P_X7_trace_9 Q2 v0 v1 v4 v5 v6 S → P_X7_trace_9 Q3 v0 v1 v4 v5 v6 S) (fun v0 v1 v4 v5 v6 S hB hp => fd_X7_trace_9 (cmB_X7_trace_9 hB (uf_X7_trace_9 hp) hq (fun _ _ _ _ _ _ hx hp => hx hp))) h2
set_option maxRecDepth 20000 in
set_option maxHeartbeats 1000000 in
theorem cm_X7_trace_0 {Q1 Q2 Q3 : Int32 → HS → Prop} {v0 : Nat} {v1 : Nat} {v2 : Int32} {v3 : Int32} {S : HS} (h1 : P_X7_trace_0 Q1 v0 v1 v2 v3 S) (h2 : P_X7_trace_0 Q2 v0 v1 v2 v3 S) (hq : ∀ (r : Int32) (T : HS), Q1 r T → Q2 r T → Q3 r T) : P_X7_trace_0 Q3 v0 v1 v2 v3 S := by
  delta P_X7_trace_0 at h1 h2 ⊢
  exact cm_X7_trace_9 h1 h2 hq
theorem cm_X7_trace {Q1 Q2 Q3 : Int32 → HS → Prop} {v0 : Nat} {v1 : Nat} {v2 : Int32} {v3 : Int32} {S : HS} (h1 : P_X7_trace v0 v1 v2 v3 Q1 S) (h2 : P_X7_trace v0 v1 v2 v3 Q2 S) (hq : ∀ (r : Int32) (T : HS), Q1 r T → Q2 r T → Q3 r T) : P_X7_trace v0 v1 v2 v3 Q3 S := cm_X7_trace_0 h1 h2 hq
