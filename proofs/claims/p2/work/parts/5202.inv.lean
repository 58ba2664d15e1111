set_option maxHeartbeats 4000000 in
set_option maxRecDepth 20000 in
theorem m_X4_whole {v0 : Nat} {v1 : Int32} {v2 : Int32} {Q : Int32 → HS → Prop} {S : HS} (hI : IV S) (o_v0 : ob S v0 4)    (hT : TX S v0) (hq : ∀ (r : Int32) (T : HS), IV T → Gr S T → bl r → (TX T v0) → Q r T) : P_X4_whole v0 v1 v2 Q S := by
  have g0 := gr_rf S
  refine u_X4_whole ?_
  refine u_X4_whole_0 ?_
  refine ⟨o_v0, ?_⟩
  intro x1 ex1
  refine ⟨fun c2 => ?_, fun c2 => ?_⟩
  · intro x3 ex3
    refine ⟨fun c4 => ?_, fun c4 => ?_⟩
    · refine u_X4_whole_34 ?_
      refine ⟨o_v0, ?_⟩
      refine u_X4_fail ?_
      refine u_X4_fail_0 ?_
      refine ⟨o_v0, ?_⟩
      have hI := iv_sI (j := 0) (v := (4 : Int32)) hI o_v0 (by decide) (nu_free (by decide))
      intro x5 ex5
      have hI := iv_sI (j := 1) (v := x5) hI o_v0 (by decide) (nu_free (by decide))
      intro _ _
      exact hq _ _ hI g0 (Or.inl rfl) hT
    · intro x6 ex6
      refine ⟨fun c7 => ?_, fun c7 => ?_⟩
      · intro x8 ex8
        intro x9 ex9
        have hI := iv_sI (j := 9) (v := x9) hI o_v0 (by decide) (nu_free (by decide))
        refine m_X4_next hI o_v0 hT (fun S11 hI g12 p_S11 => ?_)
        obtain hT := p_S11
        have o_v0 := gr_ob g12 o_v0
        have g0 := gr_tr g0 g12
        intro _
        exact hq _ _ hI g0 (Or.inr rfl) hT
      · refine u_X4_whole_34 ?_
        refine ⟨o_v0, ?_⟩
        refine u_X4_fail ?_
        refine u_X4_fail_0 ?_
        refine ⟨o_v0, ?_⟩
        have hI := iv_sI (j := 0) (v := (4 : Int32)) hI o_v0 (by decide) (nu_free (by decide))
        intro x13 ex13
        have hI := iv_sI (j := 1) (v := x13) hI o_v0 (by decide) (nu_free (by decide))
        intro _ _
        exact hq _ _ hI g0 (Or.inl rfl) hT
  · refine u_X4_fail ?_
    refine u_X4_fail_0 ?_
    refine ⟨o_v0, ?_⟩
    have hI := iv_sI (j := 0) (v := (1 : Int32)) hI o_v0 (by decide) (nu_free (by decide))
    intro x14 ex14
    have hI := iv_sI (j := 1) (v := x14) hI o_v0 (by decide) (nu_free (by decide))
    intro _ _
    exact hq _ _ hI g0 (Or.inl rfl) hT
set_option maxHeartbeats 4000000 in
set_option maxRecDepth 20000 in
theorem m_X4_is {v0 : Nat} {v1 : Nat} {Q : Int32 → HS → Prop} {S : HS} (hI : IV S) (o_v0 : ob S v0 4)  (hw_v1 : v1 < 54)  (hT : TX S v0) (hq : ∀ (r : Int32) (T : HS), IV T → Gr S T → bl r → (S = T) → Q r T) : P_X4_is v0 v1 Q S := by
  have g0 := gr_rf S
  refine u_X4_is ?_
  refine u_X4_is_0 ?_
  refine ⟨o_v0, ?_⟩
  intro x1 ex1
  refine ⟨fun c2 => ?_, fun c2 => ?_⟩
  · refine i_X4_is_15 (fun (y0 : Nat) (y1 : Nat) (y2 : Int64) (y4 : Int32) (Z : HS) => ((2147483647 : Int32).toInt - y4.toInt).toNat) (fun (y0 : Nat) (y1 : Nat) (y2 : Int64) (y4 : Int32) (Z : HS) => (S = Z) ∧ (v0 = y0) ∧ (v1 = y1) ∧ (0 ≤ y4)) ?_ _ _ _ _ _ ⟨rfl, rfl, rfl, (q43)⟩
    intro w5 w7 w9 w10 S3 X11 ⟨eS3, q6, q8, i1⟩ ih12
    subst q6
    subst q8
    subst eS3
    refine u_X4_is_15 ?_
    refine ⟨hw_v1, ?_⟩
    intro x13 ex13
    refine ⟨fun c14 => ?_, fun c14 => ?_⟩
    · refine ⟨o_v0, ?_⟩
      intro x15 ex15
      refine ⟨fun c16 => ?_, fun c16 => ?_⟩
      · exact hq _ _ hI g0 (Or.inl rfl) rfl
      · exact hq _ _ hI g0 (Or.inr rfl) rfl
    · refine ⟨hw_v1, sorry, ?_⟩
      intro x17 ex17
      intro x18 ex18
      intro x19 ex19
      exact ih12 _ _ _ _ _ ⟨rfl, rfl, rfl, (q124 i1 c14 ex19)⟩ (mu_up (q125 i1 c14 ex19) (q126 i1 c14 ex19))
  · exact hq _ _ hI g0 (Or.inl rfl) rfl
set_option maxHeartbeats 4000000 in
set_option maxRecDepth 20000 in
theorem m_X4_word {v0 : Nat} {v1 : Nat} {Q : Int32 → HS → Prop} {S : HS} (hI : IV S) (o_v0 : ob S v0 4)  (hw_v1 : v1 < 54)  (hT : TX S v0) (hq : ∀ (r : Int32) (T : HS), IV T → Gr S T → bl r → (TX T v0) → Q r T) : P_X4_word v0 v1 Q S := by
  have g0 := gr_rf S
  refine u_X4_word ?_
  refine u_X4_word_0 ?_
  refine ⟨o_v0, ?_⟩
  refine m_X4_is hI o_v0 hw_v1 hT (fun x1 S2 hI2 g3 b_x1 p_x1 => ?_)
  subst p_x1
  intro _ _
  have bb_x1 : x1 = 0 ∨ x1 = 1 := b_x1
  refine ⟨fun c4 => ?_, fun c4 => ?_⟩
  · refine m_X4_next hI o_v0 hT (fun S6 hI g7 p_S6 => ?_)
    obtain hT := p_S6
    have o_v0 := gr_ob g7 o_v0
    have g0 := gr_tr g0 g7
    intro _
    exact hq _ _ hI g0 (Or.inr rfl) hT
  · refine u_X4_fail ?_
    refine u_X4_fail_0 ?_
    refine ⟨o_v0, ?_⟩
    have hI := iv_sI (j := 0) (v := (1 : Int32)) hI o_v0 (by decide) (nu_free (by decide))
    intro x8 ex8
    have hI := iv_sI (j := 1) (v := x8) hI o_v0 (by decide) (nu_free (by decide))
    intro _ _
    exact hq _ _ hI g0 (Or.inl rfl) hT
set_option maxHeartbeats 4000000 in
set_option maxRecDepth 20000 in
theorem m_X4_wordAndWhole {v0 : Nat} {v1 : Nat} {v2 : Int32} {v3 : Int32} {Q : Int32 → HS → Prop} {S : HS} (hI : IV S) (o_v0 : ob S v0 4)  (hw_v1 : v1 < 54)  (hT : TX S v0) (hq : ∀ (r : Int32) (T : HS), IV T → Gr S T → bl r → (TX T v0) → Q r T) : P_X4_wordAndWhole v0 v1 v2 v3 Q S := by
  have g0 := gr_rf S
  refine u_X4_wordAndWhole ?_
  refine u_X4_wordAndWhole_0 ?_
  refine ⟨o_v0, ?_⟩
  refine m_X4_word hI o_v0 hw_v1 hT (fun x1 S2 hI g3 b_x1 p_x1 => ?_)
  obtain hT := p_x1
  have o_v0 := gr_ob g3 o_v0
  have g0 := gr_tr g0 g3
  intro _ _
  have bb_x1 : x1 = 0 ∨ x1 = 1 := b_x1
  refine ⟨fun c4 => ?_, fun c4 => ?_⟩
  · exact hq _ _ hI g0 (Or.inl rfl) hT
  · refine m_X4_whole hI o_v0 hT (fun x5 S6 hI g7 b_x5 p_x5 => ?_)
    obtain hT := p_x5
    have o_v0 := gr_ob g7 o_v0
    have g0 := gr_tr g0 g7
    intro _ _
    have bb_x5 : x5 = 0 ∨ x5 = 1 := b_x5
    refine ⟨fun c8 => ?_, fun c8 => ?_⟩
    · exact hq _ _ hI g0 (Or.inl rfl) hT
    · exact hq _ _ hI g0 (Or.inr rfl) hT
set_option maxHeartbeats 4000000 in
set_option maxRecDepth 20000 in
theorem m_X6_shape {v0 : Nat} {v1 : Int32} {v2 : Int32} {v3 : Int32} {Q : HS → Prop} {S : HS} (hI : IV S) (o_v0 : ob S v0 6)     (hq : ∀ (T : HS), IV T → Gr S T → Q T) : P_X6_shape v0 v1 v2 v3 Q S := by
  have g0 := gr_rf S
  refine u_X6_shape ?_
  refine u_X6_shape_0 ?_
  refine ⟨o_v0, ?_⟩
  intro x1 ex1
  refine ⟨fun c2 => ?_, fun c2 => ?_⟩
  · refine u_X6_shape_16 ?_
    refine ⟨o_v0, ?_⟩
    intro x3 ex3
    have hI := iv_sI (j := 2) (v := x3) hI o_v0 (by decide) (nu_free (by decide))
    intro x4 ex4
    have hI := iv_sI (j := 3) (v := x4) hI o_v0 (by decide) (nu_free (by decide))
    intro x5 ex5
    have hI := iv_sI (j := 4) (v := x5) hI o_v0 (by decide) (nu_free (by decide))
    exact hq _ hI g0
  · intro x6 ex6
    refine u_X6_shape_16 ?_
    refine ⟨o_v0, ?_⟩
    intro x7 ex7
    have hI := iv_sI (j := 2) (v := x7) hI o_v0 (by decide) (nu_free (by decide))
    intro x8 ex8
    have hI := iv_sI (j := 3) (v := x8) hI o_v0 (by decide) (nu_free (by decide))
    intro x9 ex9
    have hI := iv_sI (j := 4) (v := x9) hI o_v0 (by decide) (nu_free (by decide))
    exact hq _ hI g0
set_option maxHeartbeats 4000000 in
set_option maxRecDepth 20000 in
theorem m_X4_bodyOf {v0 : Nat} {v1 : Nat} {Q : Int32 → HS → Prop} {S : HS} (hI : IV S) (o_v0 : ob S v0 4) (o_v1 : ob S v1 6)    (hT : TX S v0) (hq : ∀ (r : Int32) (T : HS), IV T → Gr S T → bl r → (TX T v0) → Q r T) : P_X4_bodyOf v0 v1 Q S := by
  have g0 := gr_rf S
  refine u_X4_bodyOf ?_
  refine u_X4_bodyOf_0 ?_
  refine ⟨o_v0, ?_⟩
  refine m_X4_wordAndWhole hI o_v0 (by decide) hT (fun x1 S2 hI g3 b_x1 p_x1 => ?_)
  obtain hT := p_x1
  have o_v0 := gr_ob g3 o_v0
  have o_v1 := gr_ob g3 o_v1
  have g0 := gr_tr g0 g3
  intro _ _
  have bb_x1 : x1 = 0 ∨ x1 = 1 := b_x1
  refine ⟨fun c4 => ?_, fun c4 => ?_⟩
  · intro x5 ex5
    refine m_X4_wordAndWhole hI o_v0 (by decide) hT (fun x6 S7 hI g8 b_x6 p_x6 => ?_)
    obtain hT := p_x6
    have o_v0 := gr_ob g8 o_v0
    have o_v1 := gr_ob g8 o_v1
    have g0 := gr_tr g0 g8
    intro _ _
    have bb_x6 : x6 = 0 ∨ x6 = 1 := b_x6
    refine ⟨fun c9 => ?_, fun c9 => ?_⟩
    · intro x10 ex10
      refine ⟨o_v1, ?_⟩
      intro x11 ex11
      refine ⟨fun c12 => ?_, fun c12 => ?_⟩
      · refine u_X4_bodyOf_58 ?_
        refine ⟨o_v0, ?_⟩
        refine m_X4_wordAndWhole hI o_v0 (by decide) hT (fun x13 S14 hI g15 b_x13 p_x13 => ?_)
        obtain hT := p_x13
        have o_v0 := gr_ob g15 o_v0
        have o_v1 := gr_ob g15 o_v1
        have g0 := gr_tr g0 g15
        intro _ _
        have bb_x13 : x13 = 0 ∨ x13 = 1 := b_x13
        refine ⟨fun c16 => ?_, fun c16 => ?_⟩
        · intro x17 ex17
          refine ⟨o_v1, ?_⟩
          refine u_X6_shape ?_
          refine u_X6_shape_0 ?_
          refine ⟨o_v1, ?_⟩
          intro x18 ex18
          refine ⟨fun c19 => ?_, fun c19 => ?_⟩
          · refine u_X6_shape_16 ?_
            refine ⟨o_v1, ?_⟩
            intro x20 ex20
            have hI := iv_sI (j := 2) (v := x20) hI o_v1 (by decide) (nu_free (by decide))
            intro x21 ex21
            have hI := iv_sI (j := 3) (v := x21) hI o_v1 (by decide) (nu_free (by decide))
            intro x22 ex22
            have hI := iv_sI (j := 4) (v := x22) hI o_v1 (by decide) (nu_free (by decide))
            intro _
            exact hq _ _ hI g0 (Or.inr rfl) hT
          · intro x23 ex23
            refine u_X6_shape_16 ?_
            refine ⟨o_v1, ?_⟩
            intro x24 ex24
            have hI := iv_sI (j := 2) (v := x24) hI o_v1 (by decide) (nu_free (by decide))
            intro x25 ex25
            have hI := iv_sI (j := 3) (v := x25) hI o_v1 (by decide) (nu_free (by decide))
            intro x26 ex26
            have hI := iv_sI (j := 4) (v := x26) hI o_v1 (by decide) (nu_free (by decide))
            intro _
            exact hq _ _ hI g0 (Or.inr rfl) hT
        · exact hq _ _ hI g0 (Or.inl rfl) hT
      · intro x27 ex27
        refine u_X4_bodyOf_58 ?_
        intro x28 ex28
        refine ⟨o_v0, ?_⟩
        refine m_X4_wordAndWhole hI o_v0 (by decide) hT (fun x29 S30 hI g31 b_x29 p_x29 => ?_)
        obtain hT := p_x29
        have o_v0 := gr_ob g31 o_v0
        have o_v1 := gr_ob g31 o_v1
        have g0 := gr_tr g0 g31
        intro _ _
        have bb_x29 : x29 = 0 ∨ x29 = 1 := b_x29
        refine ⟨fun c32 => ?_, fun c32 => ?_⟩
        · intro x33 ex33
          refine ⟨o_v1, ?_⟩
          refine u_X6_shape ?_
          refine u_X6_shape_0 ?_
          refine ⟨o_v1, ?_⟩
          intro x34 ex34
          refine ⟨fun c35 => ?_, fun c35 => ?_⟩
          · refine u_X6_shape_16 ?_
            refine ⟨o_v1, ?_⟩
            intro x36 ex36
            have hI := iv_sI (j := 2) (v := x36) hI o_v1 (by decide) (nu_free (by decide))
            intro x37 ex37
            have hI := iv_sI (j := 3) (v := x37) hI o_v1 (by decide) (nu_free (by decide))
            intro x38 ex38
            have hI := iv_sI (j := 4) (v := x38) hI o_v1 (by decide) (nu_free (by decide))
            intro _
            exact hq _ _ hI g0 (Or.inr rfl) hT
          · intro x39 ex39
            refine u_X6_shape_16 ?_
            refine ⟨o_v1, ?_⟩
            intro x40 ex40
            have hI := iv_sI (j := 2) (v := x40) hI o_v1 (by decide) (nu_free (by decide))
            intro x41 ex41
            have hI := iv_sI (j := 3) (v := x41) hI o_v1 (by decide) (nu_free (by decide))
            intro x42 ex42
            have hI := iv_sI (j := 4) (v := x42) hI o_v1 (by decide) (nu_free (by decide))
            intro _
            exact hq _ _ hI g0 (Or.inr rfl) hT
        · exact hq _ _ hI g0 (Or.inl rfl) hT
    · exact hq _ _ hI g0 (Or.inl rfl) hT
  · exact hq _ _ hI g0 (Or.inl rfl) hT
set_option maxHeartbeats 4000000 in
set_option maxRecDepth 20000 in
theorem m_X4_canBeName {v0 : Nat} {Q : Int32 → HS → Prop} {S : HS} (hI : IV S) (o_v0 : ob S v0 4)    (hT : TX S v0) (hq : ∀ (r : Int32) (T : HS), IV T → Gr S T → bl r → (S = T) → Q r T) : P_X4_canBeName v0 Q S := by
  have g0 := gr_rf S
  refine u_X4_canBeName ?_
  refine u_X4_canBeName_0 ?_
  refine ⟨o_v0, ?_⟩
  refine m_X4_is hI o_v0 (by decide) hT (fun x1 S2 hI2 g3 b_x1 p_x1 => ?_)
  subst p_x1
  intro _ _
  have bb_x1 : x1 = 0 ∨ x1 = 1 := b_x1
  refine ⟨fun c4 => ?_, fun c4 => ?_⟩
  · refine u_X4_canBeName_81 ?_
    refine u_X4_canBeName_86 ?_
    refine ⟨o_v0, ?_⟩
    intro x5 ex5
    refine ⟨fun c6 => ?_, fun c6 => ?_⟩
    · exact hq _ _ hI g0 (Or.inl rfl) rfl
    · refine ⟨fun c7 => ?_, fun c7 => ?_⟩
      · exact hq _ _ hI g0 (Or.inl rfl) rfl
      · exact hq _ _ hI g0 (Or.inr rfl) rfl
  · refine m_X4_is hI o_v0 (by decide) hT (fun x8 S9 hI2 g10 b_x8 p_x8 => ?_)
    subst p_x8
    intro _ _
    have bb_x8 : x8 = 0 ∨ x8 = 1 := b_x8
    refine ⟨fun c11 => ?_, fun c11 => ?_⟩
    · refine u_X4_canBeName_81 ?_
      refine u_X4_canBeName_86 ?_
      refine ⟨o_v0, ?_⟩
      intro x12 ex12
      refine ⟨fun c13 => ?_, fun c13 => ?_⟩
      · exact hq _ _ hI g0 (Or.inl rfl) rfl
      · refine ⟨fun c14 => ?_, fun c14 => ?_⟩
        · exact hq _ _ hI g0 (Or.inl rfl) rfl
        · exact hq _ _ hI g0 (Or.inr rfl) rfl
    · refine m_X4_is hI o_v0 (by decide) hT (fun x15 S16 hI2 g17 b_x15 p_x15 => ?_)
      subst p_x15
      intro _ _
      have bb_x15 : x15 = 0 ∨ x15 = 1 := b_x15
      refine ⟨fun c18 => ?_, fun c18 => ?_⟩
      · refine u_X4_canBeName_81 ?_
        refine u_X4_canBeName_86 ?_
        refine ⟨o_v0, ?_⟩
        intro x19 ex19
        refine ⟨fun c20 => ?_, fun c20 => ?_⟩
        · exact hq _ _ hI g0 (Or.inl rfl) rfl
        · refine ⟨fun c21 => ?_, fun c21 => ?_⟩
          · exact hq _ _ hI g0 (Or.inl rfl) rfl
          · exact hq _ _ hI g0 (Or.inr rfl) rfl
      · refine m_X4_is hI o_v0 (by decide) hT (fun x22 S23 hI2 g24 b_x22 p_x22 => ?_)
        subst p_x22
        intro _ _
        have bb_x22 : x22 = 0 ∨ x22 = 1 := b_x22
        refine ⟨fun c25 => ?_, fun c25 => ?_⟩
        · refine u_X4_canBeName_81 ?_
          refine u_X4_canBeName_86 ?_
          refine ⟨o_v0, ?_⟩
          intro x26 ex26
          refine ⟨fun c27 => ?_, fun c27 => ?_⟩
          · exact hq _ _ hI g0 (Or.inl rfl) rfl
          · refine ⟨fun c28 => ?_, fun c28 => ?_⟩
            · exact hq _ _ hI g0 (Or.inl rfl) rfl
            · exact hq _ _ hI g0 (Or.inr rfl) rfl
        · refine m_X4_is hI o_v0 (by decide) hT (fun x29 S30 hI2 g31 b_x29 p_x29 => ?_)
          subst p_x29
          intro _ _
          have bb_x29 : x29 = 0 ∨ x29 = 1 := b_x29
          refine ⟨fun c32 => ?_, fun c32 => ?_⟩
          · refine u_X4_canBeName_81 ?_
            refine u_X4_canBeName_86 ?_
            refine ⟨o_v0, ?_⟩
            intro x33 ex33
            refine ⟨fun c34 => ?_, fun c34 => ?_⟩
            · exact hq _ _ hI g0 (Or.inl rfl) rfl
            · refine ⟨fun c35 => ?_, fun c35 => ?_⟩
              · exact hq _ _ hI g0 (Or.inl rfl) rfl
              · exact hq _ _ hI g0 (Or.inr rfl) rfl
          · refine m_X4_is hI o_v0 (by decide) hT (fun x36 S37 hI2 g38 b_x36 p_x36 => ?_)
            subst p_x36
            intro _ _
            have bb_x36 : x36 = 0 ∨ x36 = 1 := b_x36
            refine ⟨fun c39 => ?_, fun c39 => ?_⟩
            · refine u_X4_canBeName_81 ?_
              refine u_X4_canBeName_86 ?_
              refine ⟨o_v0, ?_⟩
              intro x40 ex40
              refine ⟨fun c41 => ?_, fun c41 => ?_⟩
              · exact hq _ _ hI g0 (Or.inl rfl) rfl
              · refine ⟨fun c42 => ?_, fun c42 => ?_⟩
                · exact hq _ _ hI g0 (Or.inl rfl) rfl
                · exact hq _ _ hI g0 (Or.inr rfl) rfl
            · refine m_X4_is hI o_v0 (by decide) hT (fun x43 S44 hI2 g45 b_x43 p_x43 => ?_)
              subst p_x43
              intro _ _
              have bb_x43 : x43 = 0 ∨ x43 = 1 := b_x43
              refine ⟨fun c46 => ?_, fun c46 => ?_⟩
              · refine u_X4_canBeName_81 ?_
                refine u_X4_canBeName_86 ?_
                refine ⟨o_v0, ?_⟩
                intro x47 ex47
                refine ⟨fun c48 => ?_, fun c48 => ?_⟩
                · exact hq _ _ hI g0 (Or.inl rfl) rfl
                · refine ⟨fun c49 => ?_, fun c49 => ?_⟩
                  · exact hq _ _ hI g0 (Or.inl rfl) rfl
                  · exact hq _ _ hI g0 (Or.inr rfl) rfl
              · refine m_X4_is hI o_v0 (by decide) hT (fun x50 S51 hI2 g52 b_x50 p_x50 => ?_)
                subst p_x50
                intro _ _
                have bb_x50 : x50 = 0 ∨ x50 = 1 := b_x50
                refine ⟨fun c53 => ?_, fun c53 => ?_⟩
                · refine u_X4_canBeName_81 ?_
                  refine u_X4_canBeName_86 ?_
                  refine ⟨o_v0, ?_⟩
                  intro x54 ex54
                  refine ⟨fun c55 => ?_, fun c55 => ?_⟩
                  · exact hq _ _ hI g0 (Or.inl rfl) rfl
                  · refine ⟨fun c56 => ?_, fun c56 => ?_⟩
                    · exact hq _ _ hI g0 (Or.inl rfl) rfl
                    · exact hq _ _ hI g0 (Or.inr rfl) rfl
                · refine m_X4_is hI o_v0 (by decide) hT (fun x57 S58 hI2 g59 b_x57 p_x57 => ?_)
                  subst p_x57
                  intro _ _
                  have bb_x57 : x57 = 0 ∨ x57 = 1 := b_x57
                  refine ⟨fun c60 => ?_, fun c60 => ?_⟩
                  · refine u_X4_canBeName_86 ?_
                    refine ⟨o_v0, ?_⟩
                    intro x61 ex61
                    refine ⟨fun c62 => ?_, fun c62 => ?_⟩
                    · exact hq _ _ hI g0 (Or.inl rfl) rfl
                    · refine ⟨fun c63 => ?_, fun c63 => ?_⟩
                      · exact hq _ _ hI g0 (Or.inl rfl) rfl
                      · exact hq _ _ hI g0 (Or.inr rfl) rfl
                  · refine u_X4_canBeName_81 ?_
                    refine u_X4_canBeName_86 ?_
                    refine ⟨o_v0, ?_⟩
                    intro x64 ex64
                    refine ⟨fun c65 => ?_, fun c65 => ?_⟩
                    · exact hq _ _ hI g0 (Or.inl rfl) rfl
                    · refine ⟨fun c66 => ?_, fun c66 => ?_⟩
                      · exact hq _ _ hI g0 (Or.inl rfl) rfl
                      · exact hq _ _ hI g0 (Or.inr rfl) rfl
set_option maxHeartbeats 4000000 in
set_option maxRecDepth 20000 in
theorem m_X4_exchange {v0 : Nat} {v1 : Nat} {Q : Nat → HS → Prop} {S : HS} (hI : IV S) (o_v0 : ob S v0 4) (o_v1 : ob S v1 8)     (hq : ∀ (r : Nat) (T : HS), IV T → Gr S T → ob T r 8 → Q r T) : P_X4_exchange v0 v1 Q S := by
  have g0 := gr_rf S
  refine u_X4_exchange ?_
  refine u_X4_exchange_0 ?_
  refine ⟨o_v0, ?_⟩
  obtain ⟨a1, ea1, o_a1, -⟩ := sh 12 rfl hI o_v0
  refine ⟨a1, ea1, ?_⟩
  have hI := iv_sR (j := 5) (v := v1) hI o_v0 (by decide) (by decide) (sh_one (by decide) ⟨o_v1, Or.inl rfl⟩)
  exact hq _ _ hI g0 o_a1
set_option maxHeartbeats 4000000 in
set_option maxRecDepth 20000 in
theorem m_X4_findName {v0 : Nat} {Q : Int32 → HS → Prop} {S : HS} (hI : IV S) (o_v0 : ob S v0 4)    (hT : TX S v0) (hq : ∀ (r : Int32) (T : HS), IV T → Gr S T → (S = T) → Q r T) : P_X4_findName v0 Q S := by
  have g0 := gr_rf S
  refine u_X4_findName ?_
  refine u_X4_findName_0 ?_
  refine i_X4_findName_2 (fun (y0 : Nat) (y1 : Int32) (Z : HS) => ((2147483647 : Int32).toInt - y1.toInt).toNat) (fun (y0 : Nat) (y1 : Int32) (Z : HS) => (S = Z) ∧ (v0 = y0) ∧ (0 ≤ y1)) ?_ _ _ _ ⟨rfl, rfl, (q43)⟩
  intro w3 w5 S1 X6 ⟨eS1, q4, i1⟩ ih7
  subst q4
  subst eS1
  refine u_X4_findName_2 ?_
  refine ⟨o_v0, ?_⟩
  intro x8 ex8
  have r_x8 : (0 : Int32) ≤ x8 ∧ x8 ≤ (12 : Int32) := by rw [ex8]; exact nu 8 rfl hI o_v0
  refine ⟨fun c9 => ?_, fun c9 => ?_⟩
  · exact hq _ _ hI g0 rfl
  · refine ⟨fun c10 => ?_, fun c10 => ?_⟩
    · exact hq _ _ hI g0 rfl
    · obtain ⟨a11, ea11, o_a11, l_a11⟩ := shl 13 rfl hI o_v0
      refine ⟨a11, ea11, ?_⟩
      refine ⟨o_a11, ?_⟩
      refine ⟨(vin l_a11 (m := 12) (by decide) (q127 i1 r_x8 c9 c10)), ?_⟩
      intro x12 ex12
      intro x13 ex13
      refine ⟨fun c14 => ?_, fun c14 => ?_⟩
      · intro x15 ex15
        exact ih7 _ _ _ ⟨rfl, rfl, (q128 i1 r_x8 c9 c10 ex15)⟩ (mu_up (q129 i1 r_x8 c9 c10 ex15) (q130 i1 r_x8 c9 c10 ex15))
      · obtain ⟨a16, ea16, o_a16, l_a16⟩ := shl 14 rfl hI o_v0
        refine ⟨a16, ea16, ?_⟩
        refine ⟨o_a16, ?_⟩
        refine ⟨(vin l_a16 (m := 12) (by decide) (q127 i1 r_x8 c9 c10)), ?_⟩
        intro x17 ex17
        exact hq _ _ hI g0 rfl
set_option maxHeartbeats 4000000 in
set_option maxRecDepth 20000 in
theorem m_X8_isTold {v0 : Nat} {Q : Int32 → HS → Prop} {S : HS} (hI : IV S) (o_v0 : ob S v0 8)     (hq : ∀ (r : Int32) (T : HS), IV T → Gr S T → bl r → (S = T) → Q r T) : P_X8_isTold v0 Q S := by
  have g0 := gr_rf S
  refine u_X8_isTold ?_
  refine u_X8_isTold_0 ?_
  refine ⟨o_v0, ?_⟩
  intro x1 ex1
  have r_x1 : (0 : Int32) ≤ x1 ∧ x1 ≤ (60 : Int32) := by rw [ex1]; exact nu 10 rfl hI o_v0
  refine ⟨fun c2 => ?_, fun c2 => ?_⟩
  · exact hq _ _ hI g0 (Or.inl rfl) rfl
  · exact hq _ _ hI g0 (Or.inr rfl) rfl
set_option maxHeartbeats 4000000 in
set_option maxRecDepth 20000 in
theorem m_X4_hasRoom {v0 : Nat} {v1 : Int32} {v2 : Int32} {Q : Int32 → HS → Prop} {S : HS} (hI : IV S) (o_v0 : ob S v0 4)    (hT : TX S v0) (hq : ∀ (r : Int32) (T : HS), IV T → Gr S T → bl r → (TX T v0) → Q r T) : P_X4_hasRoom v0 v1 v2 Q S := by
  have g0 := gr_rf S
  refine u_X4_hasRoom ?_
  refine u_X4_hasRoom_0 ?_
  refine ⟨o_v0, ?_⟩
  obtain ⟨a1, ea1, o_a1, -⟩ := sh 12 rfl hI o_v0
  refine ⟨a1, ea1, ?_⟩
  refine ⟨o_a1, ?_⟩
  refine m_X8_isTold hI o_a1 (fun x2 S3 hI2 g4 b_x2 p_x2 => ?_)
  subst p_x2
  intro _ _
  have bb_x2 : x2 = 0 ∨ x2 = 1 := b_x2
  refine ⟨fun c5 => ?_, fun c5 => ?_⟩
  · refine ⟨fun c6 => ?_, fun c6 => ?_⟩
    · refine m_X4_next hI o_v0 hT (fun S8 hI g9 p_S8 => ?_)
      obtain hT := p_S8
      have o_a1 := gr_ob g9 o_a1
      have o_v0 := gr_ob g9 o_v0
      have g0 := gr_tr g0 g9
      intro _
      exact hq _ _ hI g0 (Or.inr rfl) hT
    · refine u_X4_fail ?_
      refine u_X4_fail_0 ?_
      refine ⟨o_v0, ?_⟩
      have hI := iv_sI (j := 0) (v := (5 : Int32)) hI o_v0 (by decide) (nu_free (by decide))
      intro x10 ex10
      have hI := iv_sI (j := 1) (v := x10) hI o_v0 (by decide) (nu_free (by decide))
      intro _ _
      exact hq _ _ hI g0 (Or.inl rfl) hT
  · refine u_X4_fail ?_
    refine u_X4_fail_0 ?_
    refine ⟨o_v0, ?_⟩
    have hI := iv_sI (j := 0) (v := (6 : Int32)) hI o_v0 (by decide) (nu_free (by decide))
    intro x11 ex11
    have hI := iv_sI (j := 1) (v := x11) hI o_v0 (by decide) (nu_free (by decide))
    intro _ _
    exact hq _ _ hI g0 (Or.inl rfl) hT
set_option maxHeartbeats 4000000 in
set_option maxRecDepth 20000 in
theorem m_X4_kindOf {v0 : Nat} {v1 : Nat} {Q : Int32 → HS → Prop} {S : HS} (hI : IV S) (o_v0 : ob S v0 4) (o_v1 : ob S v1 6)    (hT : TX S v0) (hq : ∀ (r : Int32) (T : HS), IV T → Gr S T → bl r → (TX T v0) → Q r T) : P_X4_kindOf v0 v1 Q S := by
  have g0 := gr_rf S
  refine u_X4_kindOf ?_
  refine u_X4_kindOf_0 ?_
  refine ⟨o_v0, ?_⟩
  have hI := iv_sI (j := 9) (v := (0 : Int32)) hI o_v0 (by decide) (nu_free (by decide))
  refine m_X4_is hI o_v0 (by decide) hT (fun x1 S2 hI2 g3 b_x1 p_x1 => ?_)
  subst p_x1
  intro _ _
  have bb_x1 : x1 = 0 ∨ x1 = 1 := b_x1
  refine ⟨fun c4 => ?_, fun c4 => ?_⟩
  · refine m_X4_is hI o_v0 (by decide) hT (fun x5 S6 hI2 g7 b_x5 p_x5 => ?_)
    subst p_x5
    intro _ _
    have bb_x5 : x5 = 0 ∨ x5 = 1 := b_x5
    refine ⟨fun c8 => ?_, fun c8 => ?_⟩
    · refine m_X4_is hI o_v0 (by decide) hT (fun x9 S10 hI2 g11 b_x9 p_x9 => ?_)
      subst p_x9
      intro _ _
      have bb_x9 : x9 = 0 ∨ x9 = 1 := b_x9
      refine ⟨fun c12 => ?_, fun c12 => ?_⟩
      · refine ⟨o_v1, ?_⟩
        have hI := iv_sI (j := 0) (v := (0 : Int32)) hI o_v1 (by decide) (nu_free (by decide))
        refine m_X4_word hI o_v0 (by decide) hT (fun x13 S14 hI g15 b_x13 p_x13 => ?_)
        obtain hT := p_x13
        have o_v0 := gr_ob g15 o_v0
        have o_v1 := gr_ob g15 o_v1
        have g0 := gr_tr g0 g15
        intro _ _
        have bb_x13 : x13 = 0 ∨ x13 = 1 := b_x13
        intro x16 ex16
        have hI := iv_sI (j := 1) (v := x16) hI o_v1 (by decide) (nu_free (by decide))
        refine ⟨b_x13, ?_⟩
        exact hq _ _ hI g0 b_x13 hT
      · refine ⟨o_v1, ?_⟩
        have hI := iv_sI (j := 0) (v := (3 : Int32)) hI o_v1 (by decide) (nu_free (by decide))
        refine m_X4_wordAndWhole hI o_v0 (by decide) hT (fun x17 S18 hI g19 b_x17 p_x17 => ?_)
        obtain hT := p_x17
        have o_v0 := gr_ob g19 o_v0
        have o_v1 := gr_ob g19 o_v1
        have g0 := gr_tr g0 g19
        intro _ _
        have bb_x17 : x17 = 0 ∨ x17 = 1 := b_x17
        intro x20 ex20
        have hI := iv_sI (j := 1) (v := x20) hI o_v1 (by decide) (nu_free (by decide))
        refine ⟨b_x17, ?_⟩
        exact hq _ _ hI g0 b_x17 hT
    · refine ⟨o_v1, ?_⟩
      have hI := iv_sI (j := 0) (v := (2 : Int32)) hI o_v1 (by decide) (nu_free (by decide))
      refine m_X4_wordAndWhole hI o_v0 (by decide) hT (fun x21 S22 hI g23 b_x21 p_x21 => ?_)
      obtain hT := p_x21
      have o_v0 := gr_ob g23 o_v0
      have o_v1 := gr_ob g23 o_v1
      have g0 := gr_tr g0 g23
      intro _ _
      have bb_x21 : x21 = 0 ∨ x21 = 1 := b_x21
      intro x24 ex24
      have hI := iv_sI (j := 1) (v := x24) hI o_v1 (by decide) (nu_free (by decide))
      refine ⟨b_x21, ?_⟩
      exact hq _ _ hI g0 b_x21 hT
  · refine ⟨o_v1, ?_⟩
    have hI := iv_sI (j := 0) (v := (1 : Int32)) hI o_v1 (by decide) (nu_free (by decide))
    refine m_X4_wordAndWhole hI o_v0 (by decide) hT (fun x25 S26 hI g27 b_x25 p_x25 => ?_)
    obtain hT := p_x25
    have o_v0 := gr_ob g27 o_v0
    have o_v1 := gr_ob g27 o_v1
    have g0 := gr_tr g0 g27
    intro _ _
    have bb_x25 : x25 = 0 ∨ x25 = 1 := b_x25
    intro x28 ex28
    have hI := iv_sI (j := 1) (v := x28) hI o_v1 (by decide) (nu_free (by decide))
    refine ⟨b_x25, ?_⟩
    exact hq _ _ hI g0 b_x25 hT
set_option maxHeartbeats 4000000 in
set_option maxRecDepth 20000 in
theorem m_X4_newName {v0 : Nat} {v1 : Int32} {Q : Int32 → HS → Prop} {S : HS} (hI : IV S) (o_v0 : ob S v0 4)    (hT : TX S v0) (hq : ∀ (r : Int32) (T : HS), IV T → Gr S T → bl r → (TX T v0) → Q r T) : P_X4_newName v0 v1 Q S := by
  have g0 := gr_rf S
  refine u_X4_newName ?_
  refine u_X4_newName_0 ?_
  refine ⟨o_v0, ?_⟩
  refine m_X4_canBeName hI o_v0 hT (fun x1 S2 hI2 g3 b_x1 p_x1 => ?_)
  subst p_x1
  intro _ _
  have bb_x1 : x1 = 0 ∨ x1 = 1 := b_x1
  refine ⟨fun c4 => ?_, fun c4 => ?_⟩
  · refine m_X4_findName hI o_v0 hT (fun x5 S6 hI2 g7 p_x5 => ?_)
    subst p_x5
    intro _
    refine ⟨fun c8 => ?_, fun c8 => ?_⟩
    · intro x9 ex9
      have r_x9 : (0 : Int32) ≤ x9 ∧ x9 ≤ (12 : Int32) := by rw [ex9]; exact nu 8 rfl hI o_v0
      refine ⟨fun c10 => ?_, fun c10 => ?_⟩
      · refine u_X4_newName_69 ?_
        refine ⟨o_v0, ?_⟩
        refine m_X4_next hI o_v0 hT (fun S12 hI g13 p_S12 => ?_)
        obtain hT := p_S12
        have o_v0 := gr_ob g13 o_v0
        have g0 := gr_tr g0 g13
        intro _
        exact hq _ _ hI g0 (Or.inr rfl) hT
      · obtain ⟨a14, ea14, o_a14, l_a14⟩ := shl 13 rfl hI o_v0
        refine ⟨a14, ea14, ?_⟩
        intro x15 ex15
        have r_x15 : (0 : Int32) ≤ x15 ∧ x15 ≤ (12 : Int32) := by rw [ex15]; exact nu 8 rfl hI o_v0
        intro x16 ex16
        refine ⟨o_a14, ?_⟩
        have i17 : vp_in x15 (hN _ a14) := (vin l_a14 (m := 12) (by decide) (q71 r_x15))
        refine ⟨i17, ?_⟩
        have hI := iv_aJ (i := x15.toNatClampNeg) (v := x16) hI o_v0 (by decide) ea14 o_a14 (by decide)
        obtain ⟨a18, ea18, o_a18, l_a18⟩ := shl 14 rfl hI o_v0
        refine ⟨a18, ea18, ?_⟩
        intro x19 ex19
        have r_x19 : (0 : Int32) ≤ x19 ∧ x19 ≤ (12 : Int32) := by rw [ex19]; exact nu 8 rfl hI o_v0
        refine ⟨o_a18, ?_⟩
        have i20 : vp_in x19 (hN _ a18) := (vin l_a18 (m := 12) (by decide) (q71 r_x19))
        refine ⟨i20, ?_⟩
        have hI := iv_aI (i := x19.toNatClampNeg) (v := v1) hI o_v0 (by decide) ea18 o_a18 (by decide)
        intro x21 ex21
        have r_x21 : (0 : Int32) ≤ x21 ∧ x21 ≤ (12 : Int32) := by rw [ex21]; exact nu 8 rfl hI o_v0
        intro x22 ex22
        have hI := iv_sI (j := 10) (v := x22) hI o_v0 (by decide) (nu_one (lo := (0 : Int32)) (hi := (12 : Int32)) (by decide) (q72 r_x21 ex22))
        refine u_X4_newName_69 ?_
        refine ⟨o_v0, ?_⟩
        refine m_X4_next hI o_v0 hT (fun S24 hI g25 p_S24 => ?_)
        obtain hT := p_S24
        have l_a14 := (gr_len g25 o_a14).trans l_a14
        have l_a18 := (gr_len g25 o_a18).trans l_a18
        have o_a14 := gr_ob g25 o_a14
        have o_a18 := gr_ob g25 o_a18
        have o_v0 := gr_ob g25 o_v0
        have g0 := gr_tr g0 g25
        intro _
        exact hq _ _ hI g0 (Or.inr rfl) hT
    · refine u_X4_fail ?_
      refine u_X4_fail_0 ?_
      refine ⟨o_v0, ?_⟩
      have hI := iv_sI (j := 0) (v := (3 : Int32)) hI o_v0 (by decide) (nu_free (by decide))
      intro x26 ex26
      have hI := iv_sI (j := 1) (v := x26) hI o_v0 (by decide) (nu_free (by decide))
      intro _ _
      exact hq _ _ hI g0 (Or.inl rfl) hT
  · refine u_X4_fail ?_
    refine u_X4_fail_0 ?_
    refine ⟨o_v0, ?_⟩
    have hI := iv_sI (j := 0) (v := (1 : Int32)) hI o_v0 (by decide) (nu_free (by decide))
    intro x27 ex27
    have hI := iv_sI (j := 1) (v := x27) hI o_v0 (by decide) (nu_free (by decide))
    intro _ _
    exact hq _ _ hI g0 (Or.inl rfl) hT
set_option maxHeartbeats 4000000 in
set_option maxRecDepth 20000 in
theorem m_X8_clear {v0 : Nat} {Q : HS → Prop} {S : HS} (hI : IV S) (o_v0 : ob S v0 8)     (hq : ∀ (T : HS), IV T → Gr S T → Q T) : P_X8_clear v0 Q S := by
  have g0 := gr_rf S
  refine u_X8_clear ?_
  refine u_X8_clear_0 ?_
  refine ⟨o_v0, ?_⟩
  have hI := iv_sI (j := 0) (v := (0 : Int32)) hI o_v0 (by decide) (nu_one (lo := (0 : Int32)) (hi := (60 : Int32)) (by decide) (q79))
  have hI := iv_sI (j := 1) (v := (0 : Int32)) hI o_v0 (by decide) (nu_one (lo := (0 : Int32)) (hi := (6 : Int32)) (by decide) (q80))
  have hI := iv_sI (j := 2) (v := (0 : Int32)) hI o_v0 (by decide) (nu_one (lo := (0 : Int32)) (hi := (8 : Int32)) (by decide) (q81))
  have hI := iv_sI (j := 3) (v := (0 : Int32)) hI o_v0 (by decide) (nu_one (lo := (0 : Int32)) (hi := (12 : Int32)) (by decide) (q78))
  have hI := iv_sI (j := 4) (v := (0 : Int32)) hI o_v0 (by decide) (nu_one (lo := (0 : Int32)) (hi := (4 : Int32)) (by decide) (q82))
  have hI := iv_sI (j := 5) (v := (0 : Int32)) hI o_v0 (by decide) (nu_one (lo := (0 : Int32)) (hi := (4 : Int32)) (by decide) (q82))
  exact hq _ hI g0
set_option maxHeartbeats 4000000 in
set_option maxRecDepth 20000 in
theorem m_X4_open {v0 : Nat} {v1 : Nat} {v2 : Int32} {Q : HS → Prop} {S : HS} (hI : IV S) (o_v0 : ob S v0 4) (o_v1 : ob S v1 12)     (hq : ∀ (T : HS), IV T → Gr S T → Q T) : P_X4_open v0 v1 v2 Q S := by
  have g0 := gr_rf S
  refine u_X4_open ?_
  refine u_X4_open_0 ?_
  refine ⟨o_v0, ?_⟩
  have hI := iv_sR (j := 2) (v := v1) hI o_v0 (by decide) (by decide) (sh_free (by decide))
  refine ⟨o_v1, ?_⟩
  intro x1 ex1
  have hI := iv_sI (j := 3) (v := x1) hI o_v0 (by decide) (nu_one (lo := (0 : Int32)) (hi := (900 : Int32)) (by decide) (q77))
  have hI := iv_sI (j := 4) (v := (0 : Int32)) hI o_v0 (by decide) (nu_one (lo := (0 : Int32)) (hi := (900 : Int32)) (by decide) (q39))
  have hI := iv_sI (j := 0) (v := (0 : Int32)) hI o_v0 (by decide) (nu_free (by decide))
  have hI := iv_sI (j := 1) (v := (0 : Int32)) hI o_v0 (by decide) (nu_free (by decide))
  have hI := iv_sI (j := 10) (v := (0 : Int32)) hI o_v0 (by decide) (nu_one (lo := (0 : Int32)) (hi := (12 : Int32)) (by decide) (q78))
  obtain ⟨a2, ea2, o_a2, -⟩ := sh 12 rfl hI o_v0
  refine ⟨a2, ea2, ?_⟩
  refine ⟨o_a2, ?_⟩
  refine u_X8_clear ?_
  refine u_X8_clear_0 ?_
  refine ⟨o_a2, ?_⟩
  have hI := iv_sI (j := 0) (v := (0 : Int32)) hI o_a2 (by decide) (nu_one (lo := (0 : Int32)) (hi := (60 : Int32)) (by decide) (q79))
  have hI := iv_sI (j := 1) (v := (0 : Int32)) hI o_a2 (by decide) (nu_one (lo := (0 : Int32)) (hi := (6 : Int32)) (by decide) (q80))
  have hI := iv_sI (j := 2) (v := (0 : Int32)) hI o_a2 (by decide) (nu_one (lo := (0 : Int32)) (hi := (8 : Int32)) (by decide) (q81))
  have hI := iv_sI (j := 3) (v := (0 : Int32)) hI o_a2 (by decide) (nu_one (lo := (0 : Int32)) (hi := (12 : Int32)) (by decide) (q78))
  have hI := iv_sI (j := 4) (v := (0 : Int32)) hI o_a2 (by decide) (nu_one (lo := (0 : Int32)) (hi := (4 : Int32)) (by decide) (q82))
  have hI := iv_sI (j := 5) (v := (0 : Int32)) hI o_a2 (by decide) (nu_one (lo := (0 : Int32)) (hi := (4 : Int32)) (by decide) (q82))
  intro _
  refine m_X4_next hI o_v0 hT (fun S4 hI g5 p_S4 => ?_)
  obtain hT := p_S4
  have o_a2 := gr_ob g5 o_a2
  have o_v0 := gr_ob g5 o_v0
  have o_v1 := gr_ob g5 o_v1
  have g0 := gr_tr g0 g5
  intro _
  exact hq _ hI g0
set_option maxHeartbeats 4000000 in
set_option maxRecDepth 20000 in
theorem m_X4_placeBut {v0 : Nat} {v1 : Int32} {Q : Int32 → HS → Prop} {S : HS} (hI : IV S) (o_v0 : ob S v0 4)    (hT : TX S v0) (hq : ∀ (r : Int32) (T : HS), IV T → Gr S T → bl r → (TX T v0) → Q r T) : P_X4_placeBut v0 v1 Q S := by
  have g0 := gr_rf S
  refine u_X4_placeBut ?_
  refine u_X4_placeBut_0 ?_
  refine ⟨o_v0, ?_⟩
  refine m_X4_canBeName hI o_v0 hT (fun x1 S2 hI2 g3 b_x1 p_x1 => ?_)
  subst p_x1
  intro _ _
  have bb_x1 : x1 = 0 ∨ x1 = 1 := b_x1
  refine ⟨fun c4 => ?_, fun c4 => ?_⟩
  · refine m_X4_findName hI o_v0 hT (fun x5 S6 hI2 g7 p_x5 => ?_)
    subst p_x5
    intro _
    refine ⟨fun c8 => ?_, fun c8 => ?_⟩
    · refine u_X4_placeBut_29 ?_
      refine ⟨o_v0, ?_⟩
      refine u_X4_fail ?_
      refine u_X4_fail_0 ?_
      refine ⟨o_v0, ?_⟩
      have hI := iv_sI (j := 0) (v := (2 : Int32)) hI o_v0 (by decide) (nu_free (by decide))
      intro x9 ex9
      have hI := iv_sI (j := 1) (v := x9) hI o_v0 (by decide) (nu_free (by decide))
      intro _ _
      exact hq _ _ hI g0 (Or.inl rfl) hT
    · refine ⟨fun c10 => ?_, fun c10 => ?_⟩
      · refine ⟨fun c11 => ?_, fun c11 => ?_⟩
        · have hI := iv_sI (j := 9) (v := x5) hI o_v0 (by decide) (nu_free (by decide))
          refine m_X4_next hI o_v0 hT (fun S13 hI g14 p_S13 => ?_)
          obtain hT := p_S13
          have o_v0 := gr_ob g14 o_v0
          have g0 := gr_tr g0 g14
          intro _
          exact hq _ _ hI g0 (Or.inr rfl) hT
        · refine u_X4_fail ?_
          refine u_X4_fail_0 ?_
          refine ⟨o_v0, ?_⟩
          have hI := iv_sI (j := 0) (v := (3 : Int32)) hI o_v0 (by decide) (nu_free (by decide))
          intro x15 ex15
          have hI := iv_sI (j := 1) (v := x15) hI o_v0 (by decide) (nu_free (by decide))
          intro _ _
          exact hq _ _ hI g0 (Or.inl rfl) hT
      · refine u_X4_placeBut_29 ?_
        refine ⟨o_v0, ?_⟩
        refine u_X4_fail ?_
        refine u_X4_fail_0 ?_
        refine ⟨o_v0, ?_⟩
        have hI := iv_sI (j := 0) (v := (2 : Int32)) hI o_v0 (by decide) (nu_free (by decide))
        intro x16 ex16
        have hI := iv_sI (j := 1) (v := x16) hI o_v0 (by decide) (nu_free (by decide))
        intro _ _
        exact hq _ _ hI g0 (Or.inl rfl) hT
  · refine u_X4_fail ?_
    refine u_X4_fail_0 ?_
    refine ⟨o_v0, ?_⟩
    have hI := iv_sI (j := 0) (v := (1 : Int32)) hI o_v0 (by decide) (nu_free (by decide))
    intro x17 ex17
    have hI := iv_sI (j := 1) (v := x17) hI o_v0 (by decide) (nu_free (by decide))
    intro _ _
    exact hq _ _ hI g0 (Or.inl rfl) hT
set_option maxHeartbeats 4000000 in
set_option maxRecDepth 20000 in
theorem m_X4_placeLine {v0 : Nat} {Q : Int32 → HS → Prop} {S : HS} (hI : IV S) (o_v0 : ob S v0 4)    (hT : TX S v0) (hq : ∀ (r : Int32) (T : HS), IV T → Gr S T → bl r → (TX T v0) → Q r T) : P_X4_placeLine v0 Q S := by
  have g0 := gr_rf S
  refine u_X4_placeLine ?_
  refine u_X4_placeLine_0 ?_
  refine ⟨o_v0, ?_⟩
  obtain ⟨a1, ea1, o_a1, -⟩ := sh 12 rfl hI o_v0
  refine ⟨a1, ea1, ?_⟩
  refine ⟨o_a1, ?_⟩
  intro x2 ex2
  have r_x2 : (0 : Int32) ≤ x2 ∧ x2 ≤ (8 : Int32) := by rw [ex2]; exact nu 12 rfl hI o_a1
  refine m_X4_newName hI o_v0 hT (fun x3 S4 hI g5 b_x3 p_x3 => ?_)
  obtain hT := p_x3
  have o_a1 := gr_ob g5 o_a1
  have o_v0 := gr_ob g5 o_v0
  have g0 := gr_tr g0 g5
  intro _ _
  have bb_x3 : x3 = 0 ∨ x3 = 1 := b_x3
  refine ⟨fun c6 => ?_, fun c6 => ?_⟩
  · refine m_X4_is hI o_v0 (by decide) hT (fun x7 S8 hI2 g9 b_x7 p_x7 => ?_)
    subst p_x7
    intro _ _
    have bb_x7 : x7 = 0 ∨ x7 = 1 := b_x7
    refine ⟨fun c10 => ?_, fun c10 => ?_⟩
    · refine m_X4_is hI o_v0 (by decide) hT (fun x11 S12 hI2 g13 b_x11 p_x11 => ?_)
      subst p_x11
      intro _ _
      have bb_x11 : x11 = 0 ∨ x11 = 1 := b_x11
      refine ⟨fun c14 => ?_, fun c14 => ?_⟩
      · refine u_X4_placeLine_64 ?_
        refine ⟨o_v0, ?_⟩
        obtain ⟨a15, ea15, o_a15, -⟩ := sh 12 rfl hI o_v0
        refine ⟨a15, ea15, ?_⟩
        refine ⟨o_a15, ?_⟩
        obtain ⟨a16, ea16, o_a16, l_a16⟩ := shl 16 rfl hI o_a15
        refine ⟨a16, ea16, ?_⟩
        obtain ⟨a17, ea17, o_a17, -⟩ := sh 12 rfl hI o_v0
        refine ⟨a17, ea17, ?_⟩
        refine ⟨o_a17, ?_⟩
        intro x18 ex18
        have r_x18 : (0 : Int32) ≤ x18 ∧ x18 ≤ (8 : Int32) := by rw [ex18]; exact nu 12 rfl hI o_a17
        refine ⟨o_a16, ?_⟩
        have i19 : vp_in x18 (hN _ a16) := (vin l_a16 (m := 8) (by decide) (q75 r_x18))
        refine ⟨i19, ?_⟩
        have hI := iv_aI (i := x18.toNatClampNeg) (v := (-1 : Int32)) hI o_a15 (by decide) ea16 o_a16 (by decide)
        obtain ⟨a20, ea20, o_a20, -⟩ := sh 12 rfl hI o_v0
        refine ⟨a20, ea20, ?_⟩
        refine ⟨o_a20, ?_⟩
        intro x21 ex21
        have r_x21 : (0 : Int32) ≤ x21 ∧ x21 ≤ (8 : Int32) := by rw [ex21]; exact nu 12 rfl hI o_a20
        intro x22 ex22
        have hI := iv_sI (j := 2) (v := x22) hI o_a20 (by decide) (nu_one (lo := (0 : Int32)) (hi := (8 : Int32)) (by decide) (q76 r_x21 ex22))
        exact hq _ _ hI g0 (Or.inr rfl) hT
      · refine m_X4_wordAndWhole hI o_v0 (by decide) hT (fun x23 S24 hI g25 b_x23 p_x23 => ?_)
        obtain hT := p_x23
        have o_a1 := gr_ob g25 o_a1
        have o_v0 := gr_ob g25 o_v0
        have g0 := gr_tr g0 g25
        intro _ _
        have bb_x23 : x23 = 0 ∨ x23 = 1 := b_x23
        refine ⟨fun c26 => ?_, fun c26 => ?_⟩
        · intro x27 ex27
          refine u_X4_placeLine_64 ?_
          refine ⟨o_v0, ?_⟩
          obtain ⟨a28, ea28, o_a28, -⟩ := sh 12 rfl hI o_v0
          refine ⟨a28, ea28, ?_⟩
          refine ⟨o_a28, ?_⟩
          obtain ⟨a29, ea29, o_a29, l_a29⟩ := shl 16 rfl hI o_a28
          refine ⟨a29, ea29, ?_⟩
          obtain ⟨a30, ea30, o_a30, -⟩ := sh 12 rfl hI o_v0
          refine ⟨a30, ea30, ?_⟩
          refine ⟨o_a30, ?_⟩
          intro x31 ex31
          have r_x31 : (0 : Int32) ≤ x31 ∧ x31 ≤ (8 : Int32) := by rw [ex31]; exact nu 12 rfl hI o_a30
          refine ⟨o_a29, ?_⟩
          have i32 : vp_in x31 (hN _ a29) := (vin l_a29 (m := 8) (by decide) (q75 r_x31))
          refine ⟨i32, ?_⟩
          have hI := iv_aI (i := x31.toNatClampNeg) (v := x27) hI o_a28 (by decide) ea29 o_a29 (by decide)
          obtain ⟨a33, ea33, o_a33, -⟩ := sh 12 rfl hI o_v0
          refine ⟨a33, ea33, ?_⟩
          refine ⟨o_a33, ?_⟩
          intro x34 ex34
          have r_x34 : (0 : Int32) ≤ x34 ∧ x34 ≤ (8 : Int32) := by rw [ex34]; exact nu 12 rfl hI o_a33
          intro x35 ex35
          have hI := iv_sI (j := 2) (v := x35) hI o_a33 (by decide) (nu_one (lo := (0 : Int32)) (hi := (8 : Int32)) (by decide) (q76 r_x34 ex35))
          exact hq _ _ hI g0 (Or.inr rfl) hT
        · exact hq _ _ hI g0 (Or.inl rfl) hT
    · refine m_X4_next hI o_v0 hT (fun S37 hI g38 p_S37 => ?_)
      obtain hT := p_S37
      have o_a1 := gr_ob g38 o_a1
      have o_v0 := gr_ob g38 o_v0
      have g0 := gr_tr g0 g38
      intro _
      refine u_X4_placeLine_64 ?_
      refine ⟨o_v0, ?_⟩
      obtain ⟨a39, ea39, o_a39, -⟩ := sh 12 rfl hI o_v0
      refine ⟨a39, ea39, ?_⟩
      refine ⟨o_a39, ?_⟩
      obtain ⟨a40, ea40, o_a40, l_a40⟩ := shl 16 rfl hI o_a39
      refine ⟨a40, ea40, ?_⟩
      obtain ⟨a41, ea41, o_a41, -⟩ := sh 12 rfl hI o_v0
      refine ⟨a41, ea41, ?_⟩
      refine ⟨o_a41, ?_⟩
      intro x42 ex42
      have r_x42 : (0 : Int32) ≤ x42 ∧ x42 ≤ (8 : Int32) := by rw [ex42]; exact nu 12 rfl hI o_a41
      refine ⟨o_a40, ?_⟩
      have i43 : vp_in x42 (hN _ a40) := (vin l_a40 (m := 8) (by decide) (q75 r_x42))
      refine ⟨i43, ?_⟩
      have hI := iv_aI (i := x42.toNatClampNeg) (v := (0 : Int32)) hI o_a39 (by decide) ea40 o_a40 (by decide)
      obtain ⟨a44, ea44, o_a44, -⟩ := sh 12 rfl hI o_v0
      refine ⟨a44, ea44, ?_⟩
      refine ⟨o_a44, ?_⟩
      intro x45 ex45
      have r_x45 : (0 : Int32) ≤ x45 ∧ x45 ≤ (8 : Int32) := by rw [ex45]; exact nu 12 rfl hI o_a44
      intro x46 ex46
      have hI := iv_sI (j := 2) (v := x46) hI o_a44 (by decide) (nu_one (lo := (0 : Int32)) (hi := (8 : Int32)) (by decide) (q76 r_x45 ex46))
      exact hq _ _ hI g0 (Or.inr rfl) hT
  · exact hq _ _ hI g0 (Or.inl rfl) hT
set_option maxHeartbeats 4000000 in
set_option maxRecDepth 20000 in
theorem m_X4_side {v0 : Nat} {Q : Int32 → HS → Prop} {S : HS} (hI : IV S) (o_v0 : ob S v0 4)    (hT : TX S v0) (hq : ∀ (r : Int32) (T : HS), IV T → Gr S T → bl r → (TX T v0) → Q r T) : P_X4_side v0 Q S := by
  have g0 := gr_rf S
  refine u_X4_side ?_
  refine u_X4_side_0 ?_
  refine ⟨o_v0, ?_⟩
  refine m_X4_is hI o_v0 (by decide) hT (fun x1 S2 hI2 g3 b_x1 p_x1 => ?_)
  subst p_x1
  intro _ _
  have bb_x1 : x1 = 0 ∨ x1 = 1 := b_x1
  refine ⟨fun c4 => ?_, fun c4 => ?_⟩
  · refine m_X4_is hI o_v0 (by decide) hT (fun x5 S6 hI2 g7 b_x5 p_x5 => ?_)
    subst p_x5
    intro _ _
    have bb_x5 : x5 = 0 ∨ x5 = 1 := b_x5
    refine ⟨fun c8 => ?_, fun c8 => ?_⟩
    · refine m_X4_is hI o_v0 (by decide) hT (fun x9 S10 hI2 g11 b_x9 p_x9 => ?_)
      subst p_x9
      intro _ _
      have bb_x9 : x9 = 0 ∨ x9 = 1 := b_x9
      refine ⟨fun c12 => ?_, fun c12 => ?_⟩
      · refine m_X4_is hI o_v0 (by decide) hT (fun x13 S14 hI2 g15 b_x13 p_x13 => ?_)
        subst p_x13
        intro _ _
        have bb_x13 : x13 = 0 ∨ x13 = 1 := b_x13
        refine ⟨fun c16 => ?_, fun c16 => ?_⟩
        · refine u_X4_fail ?_
          refine u_X4_fail_0 ?_
          refine ⟨o_v0, ?_⟩
          have hI := iv_sI (j := 0) (v := (1 : Int32)) hI o_v0 (by decide) (nu_free (by decide))
          intro x17 ex17
          have hI := iv_sI (j := 1) (v := x17) hI o_v0 (by decide) (nu_free (by decide))
          intro _ _
          exact hq _ _ hI g0 (Or.inl rfl) hT
        · have hI := iv_sI (j := 9) (v := (3 : Int32)) hI o_v0 (by decide) (nu_free (by decide))
          refine u_X4_side_74 ?_
          refine ⟨o_v0, ?_⟩
          refine m_X4_next hI o_v0 hT (fun S19 hI g20 p_S19 => ?_)
          obtain hT := p_S19
          have o_v0 := gr_ob g20 o_v0
          have g0 := gr_tr g0 g20
          intro _
          exact hq _ _ hI g0 (Or.inr rfl) hT
      · have hI := iv_sI (j := 9) (v := (2 : Int32)) hI o_v0 (by decide) (nu_free (by decide))
        refine u_X4_side_74 ?_
        refine ⟨o_v0, ?_⟩
        refine m_X4_next hI o_v0 hT (fun S22 hI g23 p_S22 => ?_)
        obtain hT := p_S22
        have o_v0 := gr_ob g23 o_v0
        have g0 := gr_tr g0 g23
        intro _
        exact hq _ _ hI g0 (Or.inr rfl) hT
    · have hI := iv_sI (j := 9) (v := (1 : Int32)) hI o_v0 (by decide) (nu_free (by decide))
      refine u_X4_side_74 ?_
      refine ⟨o_v0, ?_⟩
      refine m_X4_next hI o_v0 hT (fun S25 hI g26 p_S25 => ?_)
      obtain hT := p_S25
      have o_v0 := gr_ob g26 o_v0
      have g0 := gr_tr g0 g26
      intro _
      exact hq _ _ hI g0 (Or.inr rfl) hT
  · have hI := iv_sI (j := 9) (v := (0 : Int32)) hI o_v0 (by decide) (nu_free (by decide))
    refine u_X4_side_74 ?_
    refine ⟨o_v0, ?_⟩
    refine m_X4_next hI o_v0 hT (fun S28 hI g29 p_S28 => ?_)
    obtain hT := p_S28
    have o_v0 := gr_ob g29 o_v0
    have g0 := gr_tr g0 g29
    intro _
    exact hq _ _ hI g0 (Or.inr rfl) hT
set_option maxHeartbeats 4000000 in
set_option maxRecDepth 20000 in
theorem m_X4_rainLine {v0 : Nat} {Q : Int32 → HS → Prop} {S : HS} (hI : IV S) (o_v0 : ob S v0 4)    (hT : TX S v0) (hq : ∀ (r : Int32) (T : HS), IV T → Gr S T → bl r → (TX T v0) → Q r T) : P_X4_rainLine v0 Q S := by
  have g0 := gr_rf S
  refine u_X4_rainLine ?_
  refine u_X4_rainLine_0 ?_
  refine ⟨o_v0, ?_⟩
  obtain ⟨a1, ea1, o_a1, -⟩ := sh 12 rfl hI o_v0
  refine ⟨a1, ea1, ?_⟩
  refine ⟨o_a1, ?_⟩
  obtain ⟨a2, ea2, o_a2, l_a2⟩ := shl 15 rfl hI o_a1
  refine ⟨a2, ea2, ?_⟩
  obtain ⟨a3, ea3, o_a3, -⟩ := sh 12 rfl hI o_v0
  refine ⟨a3, ea3, ?_⟩
  refine ⟨o_a3, ?_⟩
  intro x4 ex4
  have r_x4 : (0 : Int32) ≤ x4 ∧ x4 ≤ (6 : Int32) := by rw [ex4]; exact nu 11 rfl hI o_a3
  refine ⟨o_a2, ?_⟩
  have i6 : vp_in x4 (hN _ a2) := (vin l_a2 (m := 6) (by decide) (q73 r_x4))
  obtain ⟨a5, ea5, o_a5⟩ := ae hI o_a2 (by decide) (by decide) i6
  replace o_a5 : ob _ a5 3 := o_a5
  refine ⟨i6, a5, ea5, ?_⟩
  refine m_X4_wordAndWhole hI o_v0 (by decide) hT (fun x7 S8 hI g9 b_x7 p_x7 => ?_)
  obtain hT := p_x7
  have l_a2 := (gr_len g9 o_a2).trans l_a2
  have o_a1 := gr_ob g9 o_a1
  have o_a2 := gr_ob g9 o_a2
  have o_a3 := gr_ob g9 o_a3
  have o_a5 := gr_ob g9 o_a5
  have o_v0 := gr_ob g9 o_v0
  have g0 := gr_tr g0 g9
  intro _ _
  have bb_x7 : x7 = 0 ∨ x7 = 1 := b_x7
  refine ⟨fun c10 => ?_, fun c10 => ?_⟩
  · intro x11 ex11
    refine ⟨o_a5, ?_⟩
    have hI := iv_sI (j := 0) (v := x11) hI o_a5 (by decide) (nu_free (by decide))
    refine m_X4_wordAndWhole hI o_v0 (by decide) hT (fun x12 S13 hI g14 b_x12 p_x12 => ?_)
    obtain hT := p_x12
    have l_a2 := (gr_len g14 o_a2).trans l_a2
    have o_a1 := gr_ob g14 o_a1
    have o_a2 := gr_ob g14 o_a2
    have o_a3 := gr_ob g14 o_a3
    have o_a5 := gr_ob g14 o_a5
    have o_v0 := gr_ob g14 o_v0
    have g0 := gr_tr g0 g14
    intro _ _
    have bb_x12 : x12 = 0 ∨ x12 = 1 := b_x12
    refine ⟨fun c15 => ?_, fun c15 => ?_⟩
    · intro x16 ex16
      have hI := iv_sI (j := 1) (v := x16) hI o_a5 (by decide) (nu_free (by decide))
      refine m_X4_word hI o_v0 (by decide) hT (fun x17 S18 hI g19 b_x17 p_x17 => ?_)
      obtain hT := p_x17
      have l_a2 := (gr_len g19 o_a2).trans l_a2
      have o_a1 := gr_ob g19 o_a1
      have o_a2 := gr_ob g19 o_a2
      have o_a3 := gr_ob g19 o_a3
      have o_a5 := gr_ob g19 o_a5
      have o_v0 := gr_ob g19 o_v0
      have g0 := gr_tr g0 g19
      intro _ _
      have bb_x17 : x17 = 0 ∨ x17 = 1 := b_x17
      refine ⟨fun c20 => ?_, fun c20 => ?_⟩
      · exact hq _ _ hI g0 (Or.inl rfl) hT
      · refine m_X4_side hI o_v0 hT (fun x21 S22 hI g23 b_x21 p_x21 => ?_)
        obtain hT := p_x21
        have l_a2 := (gr_len g23 o_a2).trans l_a2
        have o_a1 := gr_ob g23 o_a1
        have o_a2 := gr_ob g23 o_a2
        have o_a3 := gr_ob g23 o_a3
        have o_a5 := gr_ob g23 o_a5
        have o_v0 := gr_ob g23 o_v0
        have g0 := gr_tr g0 g23
        intro _ _
        have bb_x21 : x21 = 0 ∨ x21 = 1 := b_x21
        refine ⟨fun c24 => ?_, fun c24 => ?_⟩
        · intro x25 ex25
          have hI := iv_sI (j := 2) (v := x25) hI o_a5 (by decide) (nu_free (by decide))
          refine m_X4_whole hI o_v0 hT (fun x26 S27 hI g28 b_x26 p_x26 => ?_)
          obtain hT := p_x26
          have l_a2 := (gr_len g28 o_a2).trans l_a2
          have o_a1 := gr_ob g28 o_a1
          have o_a2 := gr_ob g28 o_a2
          have o_a3 := gr_ob g28 o_a3
          have o_a5 := gr_ob g28 o_a5
          have o_v0 := gr_ob g28 o_v0
          have g0 := gr_tr g0 g28
          intro _ _
          have bb_x26 : x26 = 0 ∨ x26 = 1 := b_x26
          refine ⟨fun c29 => ?_, fun c29 => ?_⟩
          · intro x30 ex30
            have hI := iv_sI (j := 3) (v := x30) hI o_a5 (by decide) (nu_free (by decide))
            refine m_X4_wordAndWhole hI o_v0 (by decide) hT (fun x31 S32 hI g33 b_x31 p_x31 => ?_)
            obtain hT := p_x31
            have l_a2 := (gr_len g33 o_a2).trans l_a2
            have o_a1 := gr_ob g33 o_a1
            have o_a2 := gr_ob g33 o_a2
            have o_a3 := gr_ob g33 o_a3
            have o_a5 := gr_ob g33 o_a5
            have o_v0 := gr_ob g33 o_v0
            have g0 := gr_tr g0 g33
            intro _ _
            have bb_x31 : x31 = 0 ∨ x31 = 1 := b_x31
            refine ⟨fun c34 => ?_, fun c34 => ?_⟩
            · intro x35 ex35
              have hI := iv_sI (j := 4) (v := x35) hI o_a5 (by decide) (nu_free (by decide))
              obtain ⟨a36, ea36, o_a36, -⟩ := sh 12 rfl hI o_v0
              refine ⟨a36, ea36, ?_⟩
              refine ⟨o_a36, ?_⟩
              intro x37 ex37
              have r_x37 : (0 : Int32) ≤ x37 ∧ x37 ≤ (6 : Int32) := by rw [ex37]; exact nu 11 rfl hI o_a36
              intro x38 ex38
              have hI := iv_sI (j := 1) (v := x38) hI o_a36 (by decide) (nu_one (lo := (0 : Int32)) (hi := (6 : Int32)) (by decide) (q74 r_x37 ex38))
              exact hq _ _ hI g0 (Or.inr rfl) hT
            · exact hq _ _ hI g0 (Or.inl rfl) hT
          · exact hq _ _ hI g0 (Or.inl rfl) hT
        · exact hq _ _ hI g0 (Or.inl rfl) hT
    · exact hq _ _ hI g0 (Or.inl rfl) hT
  · exact hq _ _ hI g0 (Or.inl rfl) hT
set_option maxHeartbeats 4000000 in
set_option maxRecDepth 20000 in
theorem m_X4_roadLine {v0 : Nat} {Q : Int32 → HS → Prop} {S : HS} (hI : IV S) (o_v0 : ob S v0 4)    (hT : TX S v0) (hq : ∀ (r : Int32) (T : HS), IV T → Gr S T → bl r → (TX T v0) → Q r T) : P_X4_roadLine v0 Q S := by
  have g0 := gr_rf S
  refine u_X4_roadLine ?_
  refine u_X4_roadLine_0 ?_
  refine ⟨o_v0, ?_⟩
  obtain ⟨a1, ea1, o_a1, -⟩ := sh 12 rfl hI o_v0
  refine ⟨a1, ea1, ?_⟩
  refine ⟨o_a1, ?_⟩
  obtain ⟨a2, ea2, o_a2, l_a2⟩ := shl 17 rfl hI o_a1
  refine ⟨a2, ea2, ?_⟩
  obtain ⟨a3, ea3, o_a3, -⟩ := sh 12 rfl hI o_v0
  refine ⟨a3, ea3, ?_⟩
  refine ⟨o_a3, ?_⟩
  intro x4 ex4
  have r_x4 : (0 : Int32) ≤ x4 ∧ x4 ≤ (12 : Int32) := by rw [ex4]; exact nu 13 rfl hI o_a3
  refine ⟨o_a2, ?_⟩
  have i6 : vp_in x4 (hN _ a2) := (vin l_a2 (m := 12) (by decide) (q71 r_x4))
  obtain ⟨a5, ea5, o_a5⟩ := ae hI o_a2 (by decide) (by decide) i6
  replace o_a5 : ob _ a5 5 := o_a5
  refine ⟨i6, a5, ea5, ?_⟩
  refine m_X4_placeBut hI o_v0 hT (fun x7 S8 hI g9 b_x7 p_x7 => ?_)
  obtain hT := p_x7
  have l_a2 := (gr_len g9 o_a2).trans l_a2
  have o_a1 := gr_ob g9 o_a1
  have o_a2 := gr_ob g9 o_a2
  have o_a3 := gr_ob g9 o_a3
  have o_a5 := gr_ob g9 o_a5
  have o_v0 := gr_ob g9 o_v0
  have g0 := gr_tr g0 g9
  intro _ _
  have bb_x7 : x7 = 0 ∨ x7 = 1 := b_x7
  refine ⟨fun c10 => ?_, fun c10 => ?_⟩
  · intro x11 ex11
    refine ⟨o_a5, ?_⟩
    have hI := iv_sI (j := 0) (v := x11) hI o_a5 (by decide) (nu_free (by decide))
    refine m_X4_side hI o_v0 hT (fun x12 S13 hI g14 b_x12 p_x12 => ?_)
    obtain hT := p_x12
    have l_a2 := (gr_len g14 o_a2).trans l_a2
    have o_a1 := gr_ob g14 o_a1
    have o_a2 := gr_ob g14 o_a2
    have o_a3 := gr_ob g14 o_a3
    have o_a5 := gr_ob g14 o_a5
    have o_v0 := gr_ob g14 o_v0
    have g0 := gr_tr g0 g14
    intro _ _
    have bb_x12 : x12 = 0 ∨ x12 = 1 := b_x12
    refine ⟨fun c15 => ?_, fun c15 => ?_⟩
    · intro x16 ex16
      have hI := iv_sI (j := 2) (v := x16) hI o_a5 (by decide) (nu_free (by decide))
      refine m_X4_whole hI o_v0 hT (fun x17 S18 hI g19 b_x17 p_x17 => ?_)
      obtain hT := p_x17
      have l_a2 := (gr_len g19 o_a2).trans l_a2
      have o_a1 := gr_ob g19 o_a1
      have o_a2 := gr_ob g19 o_a2
      have o_a3 := gr_ob g19 o_a3
      have o_a5 := gr_ob g19 o_a5
      have o_v0 := gr_ob g19 o_v0
      have g0 := gr_tr g0 g19
      intro _ _
      have bb_x17 : x17 = 0 ∨ x17 = 1 := b_x17
      refine ⟨fun c20 => ?_, fun c20 => ?_⟩
      · intro x21 ex21
        have hI := iv_sI (j := 3) (v := x21) hI o_a5 (by decide) (nu_free (by decide))
        intro x22 ex22
        refine m_X4_placeBut hI o_v0 hT (fun x23 S24 hI g25 b_x23 p_x23 => ?_)
        obtain hT := p_x23
        have l_a2 := (gr_len g25 o_a2).trans l_a2
        have o_a1 := gr_ob g25 o_a1
        have o_a2 := gr_ob g25 o_a2
        have o_a3 := gr_ob g25 o_a3
        have o_a5 := gr_ob g25 o_a5
        have o_v0 := gr_ob g25 o_v0
        have g0 := gr_tr g0 g25
        intro _ _
        have bb_x23 : x23 = 0 ∨ x23 = 1 := b_x23
        refine ⟨fun c26 => ?_, fun c26 => ?_⟩
        · intro x27 ex27
          have hI := iv_sI (j := 1) (v := x27) hI o_a5 (by decide) (nu_free (by decide))
          have hI := iv_sI (j := 4) (v := (0 : Int32)) hI o_a5 (by decide) (nu_free (by decide))
          refine m_X4_is hI o_v0 (by decide) hT (fun x28 S29 hI2 g30 b_x28 p_x28 => ?_)
          subst p_x28
          intro _ _
          have bb_x28 : x28 = 0 ∨ x28 = 1 := b_x28
          refine ⟨fun c31 => ?_, fun c31 => ?_⟩
          · refine u_X4_roadLine_130 ?_
            refine ⟨o_v0, ?_⟩
            obtain ⟨a32, ea32, o_a32, -⟩ := sh 12 rfl hI o_v0
            refine ⟨a32, ea32, ?_⟩
            refine ⟨o_a32, ?_⟩
            intro x33 ex33
            have r_x33 : (0 : Int32) ≤ x33 ∧ x33 ≤ (12 : Int32) := by rw [ex33]; exact nu 13 rfl hI o_a32
            intro x34 ex34
            have hI := iv_sI (j := 3) (v := x34) hI o_a32 (by decide) (nu_one (lo := (0 : Int32)) (hi := (12 : Int32)) (by decide) (q72 r_x33 ex34))
            exact hq _ _ hI g0 (Or.inr rfl) hT
          · intro x35 ex35
            refine m_X4_wordAndWhole hI o_v0 (by decide) hT (fun x36 S37 hI g38 b_x36 p_x36 => ?_)
            obtain hT := p_x36
            have l_a2 := (gr_len g38 o_a2).trans l_a2
            have o_a1 := gr_ob g38 o_a1
            have o_a2 := gr_ob g38 o_a2
            have o_a3 := gr_ob g38 o_a3
            have o_a5 := gr_ob g38 o_a5
            have o_v0 := gr_ob g38 o_v0
            have g0 := gr_tr g0 g38
            intro _ _
            have bb_x36 : x36 = 0 ∨ x36 = 1 := b_x36
            refine ⟨fun c39 => ?_, fun c39 => ?_⟩
            · intro x40 ex40
              have hI := iv_sI (j := 4) (v := x40) hI o_a5 (by decide) (nu_free (by decide))
              refine u_X4_roadLine_130 ?_
              refine ⟨o_v0, ?_⟩
              obtain ⟨a41, ea41, o_a41, -⟩ := sh 12 rfl hI o_v0
              refine ⟨a41, ea41, ?_⟩
              refine ⟨o_a41, ?_⟩
              intro x42 ex42
              have r_x42 : (0 : Int32) ≤ x42 ∧ x42 ≤ (12 : Int32) := by rw [ex42]; exact nu 13 rfl hI o_a41
              intro x43 ex43
              have hI := iv_sI (j := 3) (v := x43) hI o_a41 (by decide) (nu_one (lo := (0 : Int32)) (hi := (12 : Int32)) (by decide) (q72 r_x42 ex43))
              exact hq _ _ hI g0 (Or.inr rfl) hT
            · exact hq _ _ hI g0 (Or.inl rfl) hT
        · exact hq _ _ hI g0 (Or.inl rfl) hT
      · exact hq _ _ hI g0 (Or.inl rfl) hT
    · exact hq _ _ hI g0 (Or.inl rfl) hT
  · exact hq _ _ hI g0 (Or.inl rfl) hT
set_option maxHeartbeats 4000000 in
set_option maxRecDepth 20000 in
theorem m_X4_sign {v0 : Nat} {v1 : Int32} {Q : Int32 → HS → Prop} {S : HS} (hI : IV S) (o_v0 : ob S v0 4)    (hT : TX S v0) (hq : ∀ (r : Int32) (T : HS), IV T → Gr S T → bl r → (TX T v0) → Q r T) : P_X4_sign v0 v1 Q S := by
  have g0 := gr_rf S
  refine u_X4_sign ?_
  refine u_X4_sign_0 ?_
  refine ⟨o_v0, ?_⟩
  intro x1 ex1
  refine ⟨fun c2 => ?_, fun c2 => ?_⟩
  · refine m_X4_next hI o_v0 hT (fun S4 hI g5 p_S4 => ?_)
    obtain hT := p_S4
    have o_v0 := gr_ob g5 o_v0
    have g0 := gr_tr g0 g5
    intro _
    exact hq _ _ hI g0 (Or.inr rfl) hT
  · refine u_X4_fail ?_
    refine u_X4_fail_0 ?_
    refine ⟨o_v0, ?_⟩
    have hI := iv_sI (j := 0) (v := (1 : Int32)) hI o_v0 (by decide) (nu_free (by decide))
    intro x6 ex6
    have hI := iv_sI (j := 1) (v := x6) hI o_v0 (by decide) (nu_free (by decide))
    intro _ _
    exact hq _ _ hI g0 (Or.inl rfl) hT
set_option maxHeartbeats 4000000 in
set_option maxRecDepth 20000 in
theorem m_X4_someWalker {v0 : Nat} {Q : Int32 → HS → Prop} {S : HS} (hI : IV S) (o_v0 : ob S v0 4)    (hT : TX S v0) (hq : ∀ (r : Int32) (T : HS), IV T → Gr S T → bl r → (TX T v0) → Q r T) : P_X4_someWalker v0 Q S := by
  have g0 := gr_rf S
  refine u_X4_someWalker ?_
  refine u_X4_someWalker_0 ?_
  refine ⟨o_v0, ?_⟩
  refine m_X4_canBeName hI o_v0 hT (fun x1 S2 hI2 g3 b_x1 p_x1 => ?_)
  subst p_x1
  intro _ _
  have bb_x1 : x1 = 0 ∨ x1 = 1 := b_x1
  refine ⟨fun c4 => ?_, fun c4 => ?_⟩
  · refine m_X4_findName hI o_v0 hT (fun x5 S6 hI2 g7 p_x5 => ?_)
    subst p_x5
    intro _
    refine ⟨fun c8 => ?_, fun c8 => ?_⟩
    · intro x9 ex9
      have hI := iv_sI (j := 9) (v := x9) hI o_v0 (by decide) (nu_free (by decide))
      refine m_X4_next hI o_v0 hT (fun S11 hI g12 p_S11 => ?_)
      obtain hT := p_S11
      have o_v0 := gr_ob g12 o_v0
      have g0 := gr_tr g0 g12
      intro _
      exact hq _ _ hI g0 (Or.inr rfl) hT
    · refine u_X4_fail ?_
      refine u_X4_fail_0 ?_
      refine ⟨o_v0, ?_⟩
      have hI := iv_sI (j := 0) (v := (2 : Int32)) hI o_v0 (by decide) (nu_free (by decide))
      intro x13 ex13
      have hI := iv_sI (j := 1) (v := x13) hI o_v0 (by decide) (nu_free (by decide))
      intro _ _
      exact hq _ _ hI g0 (Or.inl rfl) hT
  · refine u_X4_fail ?_
    refine u_X4_fail_0 ?_
    refine ⟨o_v0, ?_⟩
    have hI := iv_sI (j := 0) (v := (1 : Int32)) hI o_v0 (by decide) (nu_free (by decide))
    intro x14 ex14
    have hI := iv_sI (j := 1) (v := x14) hI o_v0 (by decide) (nu_free (by decide))
    intro _ _
    exact hq _ _ hI g0 (Or.inl rfl) hT
set_option maxHeartbeats 4000000 in
set_option maxRecDepth 20000 in
theorem m_X4_seenLine {v0 : Nat} {Q : Int32 → HS → Prop} {S : HS} (hI : IV S) (o_v0 : ob S v0 4)    (hT : TX S v0) (hq : ∀ (r : Int32) (T : HS), IV T → Gr S T → bl r → (TX T v0) → Q r T) : P_X4_seenLine v0 Q S := by
  have g0 := gr_rf S
  refine u_X4_seenLine ?_
  refine u_X4_seenLine_0 ?_
  refine ⟨o_v0, ?_⟩
  refine m_X4_someWalker hI o_v0 hT (fun x1 S2 hI g3 b_x1 p_x1 => ?_)
  obtain hT := p_x1
  have o_v0 := gr_ob g3 o_v0
  have g0 := gr_tr g0 g3
  intro _ _
  have bb_x1 : x1 = 0 ∨ x1 = 1 := b_x1
  refine ⟨fun c4 => ?_, fun c4 => ?_⟩
  · obtain ⟨a5, ea5, o_a5, -⟩ := sh 12 rfl hI o_v0
    refine ⟨a5, ea5, ?_⟩
    refine ⟨o_a5, ?_⟩
    obtain ⟨a6, ea6, o_a6, l_a6⟩ := shl 19 rfl hI o_a5
    refine ⟨a6, ea6, ?_⟩
    obtain ⟨a7, ea7, o_a7, -⟩ := sh 12 rfl hI o_v0
    refine ⟨a7, ea7, ?_⟩
    refine ⟨o_a7, ?_⟩
    intro x8 ex8
    have r_x8 : (0 : Int32) ≤ x8 ∧ x8 ≤ (4 : Int32) := by rw [ex8]; exact nu 15 rfl hI o_a7
    intro x9 ex9
    refine ⟨o_a6, ?_⟩
    have i10 : vp_in x8 (hN _ a6) := (vin l_a6 (m := 4) (by decide) (q60 r_x8))
    refine ⟨i10, ?_⟩
    have hI := iv_aI (i := x8.toNatClampNeg) (v := x9) hI o_a5 (by decide) ea6 o_a6 (by decide)
    refine i_X4_seenLine_30 (fun (y0 : Nat) (y1 : Int32) (Z : HS) => ((2147483647 : Int32).toInt - y1.toInt).toNat) (fun (y0 : Nat) (y1 : Int32) (Z : HS) => (IV Z) ∧ (Gr (sI S2 a6 x8.toNatClampNeg x9) Z) ∧ (v0 = y0) ∧ (TX Z v0) ∧ (0 ≤ y1)) ?_ _ _ _ ⟨hI, (gr_rf _), rfl, hT, (q43)⟩
    intro w13 w15 S11 X16 ⟨hI, gL12, q14, hT, i1⟩ ih17
    subst q14
    have l_a6 := (gr_len gL12 o_a6).trans l_a6
    have o_a5 := gr_ob gL12 o_a5
    have o_a6 := gr_ob gL12 o_a6
    have o_a7 := gr_ob gL12 o_a7
    have o_v0 := gr_ob gL12 o_v0
    have g0 := gr_tr g0 gL12
    refine u_X4_seenLine_30 ?_
    refine ⟨fun c18 => ?_, fun c18 => ?_⟩
    · refine ⟨o_v0, ?_⟩
      obtain ⟨a19, ea19, o_a19, -⟩ := sh 12 rfl hI o_v0
      refine ⟨a19, ea19, ?_⟩
      refine ⟨o_a19, ?_⟩
      intro x20 ex20
      have r_x20 : (0 : Int32) ≤ x20 ∧ x20 ≤ (4 : Int32) := by rw [ex20]; exact nu 15 rfl hI o_a19
      intro x21 ex21
      have hI := iv_sI (j := 5) (v := x21) hI o_a19 (by decide) (nu_one (lo := (0 : Int32)) (hi := (4 : Int32)) (by decide) (q62 r_x20 ex21))
      exact hq _ _ hI g0 (Or.inr rfl) hT
    · refine ⟨fun c22 => ?_, fun c22 => ?_⟩
      · refine u_X4_seenLine_47 ?_
        refine ⟨o_v0, ?_⟩
        refine m_X4_whole hI o_v0 hT (fun x23 S24 hI g25 b_x23 p_x23 => ?_)
        obtain hT := p_x23
        have l_a6 := (gr_len g25 o_a6).trans l_a6
        have o_a5 := gr_ob g25 o_a5
        have o_a6 := gr_ob g25 o_a6
        have o_a7 := gr_ob g25 o_a7
        have o_v0 := gr_ob g25 o_v0
        have g0 := gr_tr g0 g25
        have gL12 := gr_tr gL12 g25
        intro _ _
        have bb_x23 : x23 = 0 ∨ x23 = 1 := b_x23
        refine ⟨fun c26 => ?_, fun c26 => ?_⟩
        · obtain ⟨a27, ea27, o_a27, -⟩ := sh 12 rfl hI o_v0
          refine ⟨a27, ea27, ?_⟩
          refine ⟨o_a27, ?_⟩
          obtain ⟨a28, ea28, o_a28, l_a28⟩ := shl 20 rfl hI o_a27
          refine ⟨a28, ea28, ?_⟩
          obtain ⟨a29, ea29, o_a29, -⟩ := sh 12 rfl hI o_v0
          refine ⟨a29, ea29, ?_⟩
          refine ⟨o_a29, ?_⟩
          intro x30 ex30
          have r_x30 : (0 : Int32) ≤ x30 ∧ x30 ≤ (4 : Int32) := by rw [ex30]; exact nu 15 rfl hI o_a29
          intro x31 ex31
          refine ⟨o_a28, ?_⟩
          have i32 : vp_in (x30 * (5 : Int32)) + w15 (hN _ a28) := (vin l_a28 (m := 20) (by decide) (q63 i1 c18 c22 r_x30))
          refine ⟨i32, ?_⟩
          have hI := iv_aI (i := ((x30 * (5 : Int32)) + w15).toNatClampNeg) (v := x31) hI o_a27 (by decide) ea28 o_a28 (by decide)
          intro x33 ex33
          exact ih17 _ _ _ ⟨hI, gL12, rfl, hT, (q64 i1 c18 c22 ex33)⟩ (mu_up (q65 i1 c18 c22 ex33) (q66 i1 c18 c22 ex33))
        · exact hq _ _ hI g0 (Or.inl rfl) hT
      · refine ⟨o_v0, ?_⟩
        refine m_X4_sign hI o_v0 hT (fun x34 S35 hI g36 b_x34 p_x34 => ?_)
        obtain hT := p_x34
        have l_a6 := (gr_len g36 o_a6).trans l_a6
        have o_a5 := gr_ob g36 o_a5
        have o_a6 := gr_ob g36 o_a6
        have o_a7 := gr_ob g36 o_a7
        have o_v0 := gr_ob g36 o_v0
        have g0 := gr_tr g0 g36
        have gL12 := gr_tr gL12 g36
        intro _ _
        have bb_x34 : x34 = 0 ∨ x34 = 1 := b_x34
        refine ⟨fun c37 => ?_, fun c37 => ?_⟩
        · exact hq _ _ hI g0 (Or.inl rfl) hT
        · refine u_X4_seenLine_47 ?_
          refine ⟨o_v0, ?_⟩
          refine m_X4_whole hI o_v0 hT (fun x38 S39 hI g40 b_x38 p_x38 => ?_)
          obtain hT := p_x38
          have l_a6 := (gr_len g40 o_a6).trans l_a6
          have o_a5 := gr_ob g40 o_a5
          have o_a6 := gr_ob g40 o_a6
          have o_a7 := gr_ob g40 o_a7
          have o_v0 := gr_ob g40 o_v0
          have g0 := gr_tr g0 g40
          have gL12 := gr_tr gL12 g40
          intro _ _
          have bb_x38 : x38 = 0 ∨ x38 = 1 := b_x38
          refine ⟨fun c41 => ?_, fun c41 => ?_⟩
          · obtain ⟨a42, ea42, o_a42, -⟩ := sh 12 rfl hI o_v0
            refine ⟨a42, ea42, ?_⟩
            refine ⟨o_a42, ?_⟩
            obtain ⟨a43, ea43, o_a43, l_a43⟩ := shl 20 rfl hI o_a42
            refine ⟨a43, ea43, ?_⟩
            obtain ⟨a44, ea44, o_a44, -⟩ := sh 12 rfl hI o_v0
            refine ⟨a44, ea44, ?_⟩
            refine ⟨o_a44, ?_⟩
            intro x45 ex45
            have r_x45 : (0 : Int32) ≤ x45 ∧ x45 ≤ (4 : Int32) := by rw [ex45]; exact nu 15 rfl hI o_a44
            intro x46 ex46
            refine ⟨o_a43, ?_⟩
            have i47 : vp_in (x45 * (5 : Int32)) + w15 (hN _ a43) := (vin l_a43 (m := 20) (by decide) (q67 i1 c18 c22 r_x45))
            refine ⟨i47, ?_⟩
            have hI := iv_aI (i := ((x45 * (5 : Int32)) + w15).toNatClampNeg) (v := x46) hI o_a42 (by decide) ea43 o_a43 (by decide)
            intro x48 ex48
            exact ih17 _ _ _ ⟨hI, gL12, rfl, hT, (q68 i1 c18 c22 ex48)⟩ (mu_up (q69 i1 c18 c22 ex48) (q70 i1 c18 c22 ex48))
          · exact hq _ _ hI g0 (Or.inl rfl) hT
  · exact hq _ _ hI g0 (Or.inl rfl) hT
