set_option maxHeartbeats 4000000 in
set_option maxRecDepth 20000 in
theorem m_X5_endOf {v0 : Nat} {v1 : Int32} {Q : Int32 → HS → Prop} {S : HS} (hI : IV S) (o_v0 : ob S v0 5)     (hq : ∀ (r : Int32) (T : HS), IV T → Gr S T → (S = T) → Q r T) : P_X5_endOf v0 v1 Q S := by
  have g0 := gr_rf S
  refine u_X5_endOf ?_
  refine u_X5_endOf_0 ?_
  refine ⟨fun c1 => ?_, fun c1 => ?_⟩
  · refine ⟨o_v0, ?_⟩
    intro x2 ex2
    exact hq _ _ hI g0 rfl
  · refine ⟨o_v0, ?_⟩
    intro x3 ex3
    exact hq _ _ hI g0 rfl
set_option maxHeartbeats 4000000 in
set_option maxRecDepth 20000 in
theorem m_X5_minutesAt {v0 : Nat} {v1 : Int32} {Q : Int32 → HS → Prop} {S : HS} (hI : IV S) (o_v0 : ob S v0 5)     (hq : ∀ (r : Int32) (T : HS), IV T → Gr S T → (S = T) → Q r T) : P_X5_minutesAt v0 v1 Q S := by
  have g0 := gr_rf S
  refine u_X5_minutesAt ?_
  refine u_X5_minutesAt_0 ?_
  refine ⟨fun c1 => ?_, fun c1 => ?_⟩
  · exact hq _ _ hI g0 rfl
  · refine ⟨o_v0, ?_⟩
    intro x2 ex2
    refine ⟨(q38 c1), ?_⟩
    intro x3 ex3
    exact hq _ _ hI g0 rfl
set_option maxHeartbeats 4000000 in
set_option maxRecDepth 20000 in
theorem m_X5_startOf {v0 : Nat} {v1 : Int32} {Q : Int32 → HS → Prop} {S : HS} (hI : IV S) (o_v0 : ob S v0 5)     (hq : ∀ (r : Int32) (T : HS), IV T → Gr S T → (S = T) → Q r T) : P_X5_startOf v0 v1 Q S := by
  have g0 := gr_rf S
  refine u_X5_startOf ?_
  refine u_X5_startOf_0 ?_
  refine ⟨fun c1 => ?_, fun c1 => ?_⟩
  · refine ⟨o_v0, ?_⟩
    intro x2 ex2
    exact hq _ _ hI g0 rfl
  · refine ⟨o_v0, ?_⟩
    intro x3 ex3
    exact hq _ _ hI g0 rfl
set_option maxHeartbeats 4000000 in
set_option maxRecDepth 20000 in
theorem m_X5_tell {v0 : Nat} {v1 : Int32} {Q : Int32 → HS → Prop} {S : HS} (hI : IV S) (o_v0 : ob S v0 5)     (hq : ∀ (r : Int32) (T : HS), IV T → Gr S T → (S = T) → Q r T) : P_X5_tell v0 v1 Q S := by
  have g0 := gr_rf S
  refine u_X5_tell ?_
  refine u_X5_tell_0 ?_
  refine ⟨fun c1 => ?_, fun c1 => ?_, fun c1 => ?_, fun c1 => ?_, fun c1 => ?_⟩
  · refine ⟨o_v0, ?_⟩
    intro x2 ex2
    exact hq _ _ hI g0 rfl
  · refine ⟨o_v0, ?_⟩
    intro x3 ex3
    exact hq _ _ hI g0 rfl
  · refine ⟨o_v0, ?_⟩
    intro x4 ex4
    exact hq _ _ hI g0 rfl
  · refine ⟨o_v0, ?_⟩
    intro x5 ex5
    exact hq _ _ hI g0 rfl
  · refine ⟨o_v0, ?_⟩
    intro x6 ex6
    exact hq _ _ hI g0 rfl
set_option maxHeartbeats 4000000 in
set_option maxRecDepth 20000 in
theorem m_X5_touches {v0 : Nat} {v1 : Int32} {Q : Int32 → HS → Prop} {S : HS} (hI : IV S) (o_v0 : ob S v0 5)     (hq : ∀ (r : Int32) (T : HS), IV T → Gr S T → bl r → (S = T) → Q r T) : P_X5_touches v0 v1 Q S := by
  have g0 := gr_rf S
  refine u_X5_touches ?_
  refine u_X5_touches_0 ?_
  refine ⟨o_v0, ?_⟩
  intro x1 ex1
  refine ⟨fun c2 => ?_, fun c2 => ?_⟩
  · exact hq _ _ hI g0 (Or.inr rfl) rfl
  · intro x3 ex3
    refine ⟨fun c4 => ?_, fun c4 => ?_⟩
    · exact hq _ _ hI g0 (Or.inl rfl) rfl
    · exact hq _ _ hI g0 (Or.inr rfl) rfl
set_option maxHeartbeats 4000000 in
set_option maxRecDepth 20000 in
theorem m_X6_tell {v0 : Nat} {v1 : Int32} {Q : Int32 → HS → Prop} {S : HS} (hI : IV S) (o_v0 : ob S v0 6)     (hq : ∀ (r : Int32) (T : HS), IV T → Gr S T → (S = T) → Q r T) : P_X6_tell v0 v1 Q S := by
  have g0 := gr_rf S
  refine u_X6_tell ?_
  refine u_X6_tell_0 ?_
  refine ⟨fun c1 => ?_, fun c1 => ?_, fun c1 => ?_, fun c1 => ?_, fun c1 => ?_, fun c1 => ?_, fun c1 => ?_⟩
  · refine ⟨o_v0, ?_⟩
    intro x2 ex2
    have r_x2 : (0 : Int32) ≤ x2 ∧ x2 ≤ (9 : Int32) := by rw [ex2]; exact nu 5 rfl hI o_v0
    exact hq _ _ hI g0 rfl
  · refine ⟨o_v0, ?_⟩
    intro x3 ex3
    exact hq _ _ hI g0 rfl
  · refine ⟨o_v0, ?_⟩
    intro x4 ex4
    exact hq _ _ hI g0 rfl
  · refine ⟨o_v0, ?_⟩
    intro x5 ex5
    exact hq _ _ hI g0 rfl
  · refine ⟨o_v0, ?_⟩
    intro x6 ex6
    exact hq _ _ hI g0 rfl
  · refine ⟨o_v0, ?_⟩
    intro x7 ex7
    exact hq _ _ hI g0 rfl
  · refine ⟨o_v0, ?_⟩
    intro x8 ex8
    have r_x8 : (0 : Int32) ≤ x8 ∧ x8 ≤ (9 : Int32) := by rw [ex8]; exact nu 4 rfl hI o_v0
    exact hq _ _ hI g0 rfl
set_option maxHeartbeats 4000000 in
set_option maxRecDepth 20000 in
theorem m_X7_addMove {v0 : Nat} {v1 : Int32} {v2 : Int32} {v3 : Int32} {v4 : Int64} {v6 : Int32} {Q : HS → Prop} {S : HS} (hI : IV S) (o_v0 : ob S v0 7)     (hq : ∀ (T : HS), IV T → Gr S T → Q T) : P_X7_addMove v0 v1 v2 v3 v4 v6 Q S := by
  have g0 := gr_rf S
  refine u_X7_addMove ?_
  refine u_X7_addMove_0 ?_
  refine ⟨o_v0, ?_⟩
  intro x1 ex1
  refine ⟨fun c2 => ?_, fun c2 => ?_⟩
  · exact hq _ hI g0
  · intro x3 ex3
    have r_x3 : (0 : Int32) ≤ x3 ∧ x3 ≤ (224 : Int32) := by rw [ex3]; exact nu 9 rfl hI o_v0
    refine ⟨fun c4 => ?_, fun c4 => ?_⟩
    · exact hq _ hI g0
    · intro x5 ex5
      have r_x5 : (0 : Int32) ≤ x5 ∧ x5 ≤ (224 : Int32) := by rw [ex5]; exact nu 9 rfl hI o_v0
      refine ⟨fun c6 => ?_, fun c6 => ?_⟩
      · obtain ⟨a7, ea7, o_a7, -⟩ := sh 24 rfl hI o_v0
        refine ⟨a7, ea7, ?_⟩
        intro x8 ex8
        have r_x8 : (0 : Int32) ≤ x8 ∧ x8 ≤ (224 : Int32) := by rw [ex8]; exact nu 9 rfl hI o_v0
        refine ⟨o_a7, ?_⟩
        intro x9 ex9
        have i10 : vp_in x8 (hN _ a7) := (vinL hl_a7 (q226 r_x8))
        refine ⟨i10, ?_⟩
        have hI := iv_aI (i := x8.toNatClampNeg) (v := x9) hI o_v0 (by decide) ea7 o_a7 (by decide)
        obtain ⟨a11, ea11, o_a11, -⟩ := sh 25 rfl hI o_v0
        refine ⟨a11, ea11, ?_⟩
        intro x12 ex12
        have r_x12 : (0 : Int32) ≤ x12 ∧ x12 ≤ (224 : Int32) := by rw [ex12]; exact nu 9 rfl hI o_v0
        refine ⟨o_a11, ?_⟩
        intro x13 ex13
        have i14 : vp_in x12 (hN _ a11) := (vinL hl_a11 (q226 r_x12))
        refine ⟨i14, ?_⟩
        have hI := iv_aI (i := x12.toNatClampNeg) (v := x13) hI o_v0 (by decide) ea11 o_a11 (by decide)
        obtain ⟨a15, ea15, o_a15, -⟩ := sh 26 rfl hI o_v0
        refine ⟨a15, ea15, ?_⟩
        intro x16 ex16
        have r_x16 : (0 : Int32) ≤ x16 ∧ x16 ≤ (224 : Int32) := by rw [ex16]; exact nu 9 rfl hI o_v0
        refine ⟨o_a15, ?_⟩
        have i17 : vp_in x16 (hN _ a15) := (vinL hl_a15 (q226 r_x16))
        refine ⟨i17, ?_⟩
        have hI := iv_aI (i := x16.toNatClampNeg) (v := v3) hI o_v0 (by decide) ea15 o_a15 (by decide)
        obtain ⟨a18, ea18, o_a18, -⟩ := sh 27 rfl hI o_v0
        refine ⟨a18, ea18, ?_⟩
        intro x19 ex19
        have r_x19 : (0 : Int32) ≤ x19 ∧ x19 ≤ (224 : Int32) := by rw [ex19]; exact nu 9 rfl hI o_v0
        refine ⟨o_a18, ?_⟩
        intro x20 ex20
        have i21 : vp_in x19 (hN _ a18) := (vinL hl_a18 (q226 r_x19))
        refine ⟨i21, ?_⟩
        have hI := iv_aJ (i := x19.toNatClampNeg) (v := x20) hI o_v0 (by decide) ea18 o_a18 (by decide)
        obtain ⟨a22, ea22, o_a22, -⟩ := sh 28 rfl hI o_v0
        refine ⟨a22, ea22, ?_⟩
        intro x23 ex23
        have r_x23 : (0 : Int32) ≤ x23 ∧ x23 ≤ (224 : Int32) := by rw [ex23]; exact nu 9 rfl hI o_v0
        refine ⟨o_a22, ?_⟩
        have i24 : vp_in x23 (hN _ a22) := (vinL hl_a22 (q226 r_x23))
        refine ⟨i24, ?_⟩
        have hI := iv_aI (i := x23.toNatClampNeg) (v := v6) hI o_v0 (by decide) ea22 o_a22 (by decide)
        intro x25 ex25
        have r_x25 : (0 : Int32) ≤ x25 ∧ x25 ≤ (224 : Int32) := by rw [ex25]; exact nu 9 rfl hI o_v0
        intro x26 ex26
        have hI := iv_sI (j := 3) (v := x26) hI o_v0 (by decide) (nu_one (lo := (0 : Int32)) (hi := (224 : Int32)) (by decide) (q227 r_x25 ex26))
        exact hq _ hI g0
      · exact hq _ hI g0
set_option maxHeartbeats 4000000 in
set_option maxRecDepth 20000 in
theorem m_X7_addLeg {v0 : Nat} {v1 : Nat} {v2 : Int32} {v3 : Int32} {v4 : Int64} {v6 : Int32} {Q : HS → Prop} {S : HS} (hI : IV S) (o_v0 : ob S v0 7) (o_v1 : ob S v1 5)     (hq : ∀ (T : HS), IV T → Gr S T → Q T) : P_X7_addLeg v0 v1 v2 v3 v4 v6 Q S := by
  have g0 := gr_rf S
  refine u_X7_addLeg ?_
  refine u_X7_addLeg_0 ?_
  refine ⟨o_v1, ?_⟩
  refine m_X5_minutesAt hI o_v1 (fun x1 S2 hI2 g3 p_x1 => ?_)
  subst p_x1
  intro _
  refine ⟨o_v0, ?_⟩
  intro x4 ex4
  have r_x4 : (0 : Int32) ≤ x4 ∧ x4 ≤ (224 : Int32) := by rw [ex4]; exact nu 9 rfl hI o_v0
  intro x5 ex5
  refine ⟨fun c6 => ?_, fun c6 => ?_⟩
  · refine u_X7_addLeg_82 ?_
    refine ⟨o_v1, ?_⟩
    refine m_X5_startOf hI o_v1 (fun x7 S8 hI2 g9 p_x7 => ?_)
    subst p_x7
    intro _
    refine m_X5_endOf hI o_v1 (fun x10 S11 hI2 g12 p_x10 => ?_)
    subst p_x10
    intro _
    refine ⟨o_v0, ?_⟩
    refine m_X7_addMove hI o_v0 (fun S14 hI g15 => ?_)
    have o_v0 := gr_ob g15 o_v0
    have o_v1 := gr_ob g15 o_v1
    have g0 := gr_tr g0 g15
    intro _
    exact hq _ hI g0
  · refine ⟨fun c16 => ?_, fun c16 => ?_⟩
    · refine u_X7_addLeg_82 ?_
      refine ⟨o_v1, ?_⟩
      refine m_X5_startOf hI o_v1 (fun x17 S18 hI2 g19 p_x17 => ?_)
      subst p_x17
      intro _
      refine m_X5_endOf hI o_v1 (fun x20 S21 hI2 g22 p_x20 => ?_)
      subst p_x20
      intro _
      refine ⟨o_v0, ?_⟩
      refine m_X7_addMove hI o_v0 (fun S24 hI g25 => ?_)
      have o_v0 := gr_ob g25 o_v0
      have o_v1 := gr_ob g25 o_v1
      have g0 := gr_tr g0 g25
      intro _
      exact hq _ hI g0
    · obtain ⟨a26, ea26, o_a26, -⟩ := sh 28 rfl hI o_v0
      refine ⟨a26, ea26, ?_⟩
      refine ⟨o_a26, ?_⟩
      refine ⟨(vinL hl_a26 (q228 r_x4 ex5 c6 c16)), ?_⟩
      intro x27 ex27
      intro x28 ex28
      intro x29 ex29
      refine ⟨fun c30 => ?_, fun c30 => ?_⟩
      · refine u_X7_addLeg_82 ?_
        refine ⟨o_v1, ?_⟩
        refine m_X5_startOf hI o_v1 (fun x31 S32 hI2 g33 p_x31 => ?_)
        subst p_x31
        intro _
        refine m_X5_endOf hI o_v1 (fun x34 S35 hI2 g36 p_x34 => ?_)
        subst p_x34
        intro _
        refine ⟨o_v0, ?_⟩
        refine m_X7_addMove hI o_v0 (fun S38 hI g39 => ?_)
        have o_a26 := gr_ob g39 o_a26
        have o_v0 := gr_ob g39 o_v0
        have o_v1 := gr_ob g39 o_v1
        have g0 := gr_tr g0 g39
        intro _
        exact hq _ hI g0
      · obtain ⟨a40, ea40, o_a40, -⟩ := sh 26 rfl hI o_v0
        refine ⟨a40, ea40, ?_⟩
        refine ⟨o_a40, ?_⟩
        refine ⟨(vinL hl_a40 (q228 r_x4 ex5 c6 c16)), ?_⟩
        intro x41 ex41
        refine ⟨fun c42 => ?_, fun c42 => ?_⟩
        · refine u_X7_addLeg_82 ?_
          refine ⟨o_v1, ?_⟩
          refine m_X5_startOf hI o_v1 (fun x43 S44 hI2 g45 p_x43 => ?_)
          subst p_x43
          intro _
          refine m_X5_endOf hI o_v1 (fun x46 S47 hI2 g48 p_x46 => ?_)
          subst p_x46
          intro _
          refine ⟨o_v0, ?_⟩
          refine m_X7_addMove hI o_v0 (fun S50 hI g51 => ?_)
          have o_a26 := gr_ob g51 o_a26
          have o_a40 := gr_ob g51 o_a40
          have o_v0 := gr_ob g51 o_v0
          have o_v1 := gr_ob g51 o_v1
          have g0 := gr_tr g0 g51
          intro _
          exact hq _ hI g0
        · obtain ⟨a52, ea52, o_a52, -⟩ := sh 27 rfl hI o_v0
          refine ⟨a52, ea52, ?_⟩
          refine ⟨o_a52, ?_⟩
          refine ⟨(vinL hl_a52 (q228 r_x4 ex5 c6 c16)), ?_⟩
          intro x53 ex53
          refine ⟨fun c54 => ?_, fun c54 => ?_⟩
          · have hI := iv_sI (j := 3) (v := x5) hI o_v0 (by decide) (nu_one (lo := (0 : Int32)) (hi := (224 : Int32)) (by decide) (q229 r_x4 ex5 c6 c16))
            refine u_X7_addLeg_82 ?_
            refine ⟨o_v1, ?_⟩
            refine m_X5_startOf hI o_v1 (fun x55 S56 hI2 g57 p_x55 => ?_)
            subst p_x55
            intro _
            refine m_X5_endOf hI o_v1 (fun x58 S59 hI2 g60 p_x58 => ?_)
            subst p_x58
            intro _
            refine ⟨o_v0, ?_⟩
            refine m_X7_addMove hI o_v0 (fun S62 hI g63 => ?_)
            have o_a26 := gr_ob g63 o_a26
            have o_a40 := gr_ob g63 o_a40
            have o_a52 := gr_ob g63 o_a52
            have o_v0 := gr_ob g63 o_v0
            have o_v1 := gr_ob g63 o_v1
            have g0 := gr_tr g0 g63
            intro _
            exact hq _ hI g0
          · exact hq _ hI g0
set_option maxHeartbeats 4000000 in
set_option maxRecDepth 20000 in
theorem m_X7_keyOf {v0 : Nat} {v1 : Int32} {v2 : Int32} {Q : Int64 → HS → Prop} {S : HS} (hI : IV S) (o_v0 : ob S v0 7)     (hq : ∀ (r : Int64) (T : HS), IV T → Gr S T → (S = T) → Q r T) : P_X7_keyOf v0 v1 v2 Q S := by
  have g0 := gr_rf S
  refine u_X7_keyOf ?_
  refine u_X7_keyOf_0 ?_
  intro x1 ex1
  refine ⟨fun c2 => ?_, fun c2 => ?_⟩
  · exact hq _ _ hI g0 rfl
  · refine ⟨o_v0, ?_⟩
    obtain ⟨a3, ea3, o_a3, -⟩ := sh 22 rfl hI o_v0
    refine ⟨a3, ea3, ?_⟩
    refine ⟨o_a3, ?_⟩
    refine ⟨fun c4 => ?_, fun c4 => ?_⟩
    · exact hq _ _ hI g0 rfl
    · obtain ⟨a5, ea5, o_a5, -⟩ := sh 22 rfl hI o_v0
      refine ⟨a5, ea5, ?_⟩
      refine ⟨o_a5, ?_⟩
      refine ⟨(vinL hl_a5 (q225 ex1 c2 c4)), ?_⟩
      intro x6 ex6
      exact hq _ _ hI g0 rfl
set_option maxHeartbeats 4000000 in
set_option maxRecDepth 20000 in
theorem m_X7_endFrom {v0 : Nat} {v1 : Int32} {v2 : Int32} {Q : Int32 → HS → Prop} {S : HS} (hI : IV S) (o_v0 : ob S v0 7)     (hq : ∀ (r : Int32) (T : HS), IV T → Gr S T → (S = T) → Q r T) : P_X7_endFrom v0 v1 v2 Q S := by
  have g0 := gr_rf S
  refine u_X7_endFrom ?_
  refine u_X7_endFrom_0 ?_
  refine ⟨o_v0, ?_⟩
  refine m_X7_keyOf hI o_v0 (fun x1 S2 hI2 g3 p_x1 => ?_)
  subst p_x1
  intro _
  intro x4 ex4
  exact hq _ _ hI g0 rfl
set_option maxHeartbeats 4000000 in
set_option maxRecDepth 20000 in
theorem m_X7_forget {v0 : Nat} {Q : HS → Prop} {S : HS} (hI : IV S) (o_v0 : ob S v0 7)     (hq : ∀ (T : HS), IV T → Gr S T → Q T) : P_X7_forget v0 Q S := by
  have g0 := gr_rf S
  refine u_X7_forget ?_
  refine u_X7_forget_0 ?_
  refine ⟨o_v0, ?_⟩
  have hI := iv_sI (j := 10) (v := (-1 : Int32)) hI o_v0 (by decide) (nu_free (by decide))
  exact hq _ hI g0
set_option maxHeartbeats 4000000 in
set_option maxRecDepth 20000 in
theorem m_X7_isOpen {v0 : Nat} {v1 : Int32} {v2 : Int32} {Q : Int32 → HS → Prop} {S : HS} (hI : IV S) (o_v0 : ob S v0 7)     (hq : ∀ (r : Int32) (T : HS), IV T → Gr S T → bl r → (S = T) → Q r T) : P_X7_isOpen v0 v1 v2 Q S := by
  have g0 := gr_rf S
  refine u_X7_isOpen ?_
  refine u_X7_isOpen_0 ?_
  refine ⟨o_v0, ?_⟩
  refine m_X7_keyOf hI o_v0 (fun x1 S2 hI2 g3 p_x1 => ?_)
  subst p_x1
  intro _
  refine ⟨fun c4 => ?_, fun c4 => ?_⟩
  · exact hq _ _ hI g0 (Or.inl rfl) rfl
  · exact hq _ _ hI g0 (Or.inr rfl) rfl
set_option maxHeartbeats 4000000 in
set_option maxRecDepth 20000 in
theorem m_X7_meanFrom {v0 : Nat} {v1 : Int32} {v2 : Int32} {Q : Int64 → HS → Prop} {S : HS} (hI : IV S) (o_v0 : ob S v0 7)     (hq : ∀ (r : Int64) (T : HS), IV T → Gr S T → (S = T) → Q r T) : P_X7_meanFrom v0 v1 v2 Q S := by
  have g0 := gr_rf S
  refine u_X7_meanFrom ?_
  refine u_X7_meanFrom_0 ?_
  refine ⟨o_v0, ?_⟩
  refine m_X7_keyOf hI o_v0 (fun x1 S2 hI2 g3 p_x1 => ?_)
  subst p_x1
  intro _
  intro x4 ex4
  exact hq _ _ hI g0 rfl
set_option maxHeartbeats 4000000 in
set_option maxRecDepth 20000 in
theorem m_X8_hasPlace {v0 : Nat} {v1 : Int32} {Q : Int32 → HS → Prop} {S : HS} (hI : IV S) (o_v0 : ob S v0 8)     (hq : ∀ (r : Int32) (T : HS), IV T → Gr S T → bl r → (S = T) ∧ (r = 1 → 0 ≤ v1 ∧ v1 < 8) → Q r T) : P_X8_hasPlace v0 v1 Q S := by
  have g0 := gr_rf S
  refine u_X8_hasPlace ?_
  refine u_X8_hasPlace_0 ?_
  refine ⟨fun c1 => ?_, fun c1 => ?_⟩
  · exact hq _ _ hI g0 (Or.inl rfl) ⟨rfl, (q156 c1)⟩
  · refine ⟨o_v0, ?_⟩
    intro x2 ex2
    have r_x2 : (0 : Int32) ≤ x2 ∧ x2 ≤ (8 : Int32) := by rw [ex2]; exact nu 12 rfl hI o_v0
    refine ⟨fun c3 => ?_, fun c3 => ?_⟩
    · exact hq _ _ hI g0 (Or.inl rfl) ⟨rfl, (q157 c1 r_x2 c3)⟩
    · obtain ⟨a4, ea4, o_a4, l_a4⟩ := shl 16 rfl hI o_v0
      refine ⟨a4, ea4, ?_⟩
      refine ⟨o_a4, ?_⟩
      have n_a4 : nI (hN S a4) = 8 := by rw [show hN S a4 = 8 from l_a4]; decide
      refine ⟨fun c5 => ?_, fun c5 => ?_⟩
      · rw [n_a4] at c5
        exact hq _ _ hI g0 (Or.inl rfl) ⟨rfl, (q158 c1 r_x2 c3 c5)⟩
      · rw [n_a4] at c5
        exact hq _ _ hI g0 (Or.inr rfl) ⟨rfl, (q159 c1 r_x2 c3 c5)⟩
set_option maxHeartbeats 4000000 in
set_option maxRecDepth 20000 in
theorem m_X8_canWait {v0 : Nat} {v1 : Int32} {Q : Int32 → HS → Prop} {S : HS} (hI : IV S) (o_v0 : ob S v0 8)     (hq : ∀ (r : Int32) (T : HS), IV T → Gr S T → bl r → (S = T) ∧ (r = 1 → 0 ≤ v1 ∧ v1 < 8) → Q r T) : P_X8_canWait v0 v1 Q S := by
  have g0 := gr_rf S
  refine u_X8_canWait ?_
  refine u_X8_canWait_0 ?_
  refine ⟨o_v0, ?_⟩
  refine m_X8_hasPlace hI o_v0 (fun x1 S2 hI2 g3 b_x1 p_x1 => ?_)
  obtain ⟨z_S2, p_x1⟩ := p_x1
  subst z_S2
  intro _ _
  have bb_x1 : x1 = 0 ∨ x1 = 1 := b_x1
  refine ⟨fun c4 => ?_, fun c4 => ?_⟩
  · exact hq _ _ hI g0 (Or.inl rfl) ⟨rfl, (q222 p_x1 bb_x1 c4)⟩
  · obtain ⟨a5, ea5, o_a5, l_a5⟩ := shl 16 rfl hI o_v0
    refine ⟨a5, ea5, ?_⟩
    refine ⟨o_a5, ?_⟩
    refine ⟨(vin l_a5 (m := 8) (by decide) (q221 p_x1 bb_x1 c4)), ?_⟩
    intro x6 ex6
    refine ⟨fun c7 => ?_, fun c7 => ?_⟩
    · exact hq _ _ hI g0 (Or.inl rfl) ⟨rfl, (q223 p_x1 bb_x1 c4)⟩
    · exact hq _ _ hI g0 (Or.inr rfl) ⟨rfl, (q224 p_x1 bb_x1 c4)⟩
set_option maxHeartbeats 4000000 in
set_option maxRecDepth 20000 in
theorem m_X8_dripOn {v0 : Nat} {v1 : Nat} {v2 : Int32} {Q : Int32 → HS → Prop} {S : HS} (hI : IV S) (o_v0 : ob S v0 8) (o_v1 : ob S v1 6)     (hq : ∀ (r : Int32) (T : HS), IV T → Gr S T → (S = T) → Q r T) : P_X8_dripOn v0 v1 v2 Q S := by
  have g0 := gr_rf S
  refine u_X8_dripOn ?_
  refine u_X8_dripOn_0 ?_
  refine ⟨o_v0, ?_⟩
  refine m_X8_canWait hI o_v0 (fun x1 S2 hI2 g3 b_x1 p_x1 => ?_)
  obtain ⟨z_S2, p_x1⟩ := p_x1
  subst z_S2
  intro _ _
  have bb_x1 : x1 = 0 ∨ x1 = 1 := b_x1
  refine ⟨fun c4 => ?_, fun c4 => ?_⟩
  · exact hq _ _ hI g0 rfl
  · obtain ⟨a5, ea5, o_a5, l_a5⟩ := shl 16 rfl hI o_v0
    refine ⟨a5, ea5, ?_⟩
    refine ⟨o_a5, ?_⟩
    refine ⟨(vin l_a5 (m := 8) (by decide) (q221 p_x1 bb_x1 c4)), ?_⟩
    intro x6 ex6
    refine ⟨o_v1, ?_⟩
    intro x7 ex7
    refine m_X6_shield hI o_v1 (fun x8 S9 hI2 g10 p_x8 => ?_)
    subst p_x8
    intro _
    intro x11 ex11
    exact hq _ _ hI g0 rfl
set_option maxHeartbeats 4000000 in
set_option maxRecDepth 20000 in
theorem m_X8_hasHour {v0 : Nat} {v1 : Int32} {Q : Int32 → HS → Prop} {S : HS} (hI : IV S) (o_v0 : ob S v0 8)     (hq : ∀ (r : Int32) (T : HS), IV T → Gr S T → bl r → (S = T) ∧ (r = 1 → 0 ≤ v1 ∧ v1 < 6) → Q r T) : P_X8_hasHour v0 v1 Q S := by
  have g0 := gr_rf S
  refine u_X8_hasHour ?_
  refine u_X8_hasHour_0 ?_
  refine ⟨fun c1 => ?_, fun c1 => ?_⟩
  · exact hq _ _ hI g0 (Or.inl rfl) ⟨rfl, (q27 c1)⟩
  · refine ⟨o_v0, ?_⟩
    intro x2 ex2
    have r_x2 : (0 : Int32) ≤ x2 ∧ x2 ≤ (6 : Int32) := by rw [ex2]; exact nu 11 rfl hI o_v0
    refine ⟨fun c3 => ?_, fun c3 => ?_⟩
    · exact hq _ _ hI g0 (Or.inl rfl) ⟨rfl, (q28 c1 r_x2 c3)⟩
    · obtain ⟨a4, ea4, o_a4, l_a4⟩ := shl 15 rfl hI o_v0
      refine ⟨a4, ea4, ?_⟩
      refine ⟨o_a4, ?_⟩
      have n_a4 : nI (hN S a4) = 6 := by rw [show hN S a4 = 6 from l_a4]; decide
      refine ⟨fun c5 => ?_, fun c5 => ?_⟩
      · rw [n_a4] at c5
        exact hq _ _ hI g0 (Or.inl rfl) ⟨rfl, (q29 c1 r_x2 c3 c5)⟩
      · rw [n_a4] at c5
        exact hq _ _ hI g0 (Or.inr rfl) ⟨rfl, (q30 c1 r_x2 c3 c5)⟩
set_option maxHeartbeats 4000000 in
set_option maxRecDepth 20000 in
theorem m_X7_price {v0 : Nat} {v1 : Nat} {v2 : Nat} {v3 : Int32} {Q : HS → Prop} {S : HS} (hI : IV S) (o_v0 : ob S v0 7) (o_v1 : ob S v1 8) (o_v2 : ob S v2 1)     (hq : ∀ (T : HS), IV T → Gr S T → Q T) : P_X7_price v0 v1 v2 v3 Q S := by
  have g0 := gr_rf S
  refine u_X7_price ?_
  refine u_X7_price_0 ?_
  refine ⟨o_v0, ?_⟩
  have hI := iv_sI (j := 9) (v := v3) hI o_v0 (by decide) (nu_free (by decide))
  have hI := iv_sI (j := 3) (v := (0 : Int32)) hI o_v0 (by decide) (nu_one (lo := (0 : Int32)) (hi := (224 : Int32)) (by decide) (q190))
  intro x1 ex1
  refine ⟨o_v1, ?_⟩
  refine m_X8_hasWalker hI o_v1 (fun x2 S3 hI2 g4 b_x2 p_x2 => ?_)
  obtain ⟨z_S3, p_x2⟩ := p_x2
  subst z_S3
  intro _ _
  have bb_x2 : x2 = 0 ∨ x2 = 1 := b_x2
  refine ⟨fun c5 => ?_, fun c5 => ?_⟩
  · obtain ⟨a6, ea6, o_a6, l_a6⟩ := shl 18 rfl hI o_v1
    refine ⟨a6, ea6, ?_⟩
    intro x7 ex7
    refine ⟨o_a6, ?_⟩
    have i9 : vp_in x7 (hN _ a6) := (vin l_a6 (m := 4) (by decide) (q191))
    obtain ⟨a8, ea8, o_a8⟩ := ae hI o_a6 (by decide) (by decide) i9
    replace o_a8 : ob _ a8 6 := o_a8
    refine ⟨i9, a8, ea8, ?_⟩
    refine m_X8_hasHour hI o_v1 (fun x10 S11 hI2 g12 b_x10 p_x10 => ?_)
    obtain ⟨z_S11, p_x10⟩ := p_x10
    subst z_S11
    intro _ _
    have bb_x10 : x10 = 0 ∨ x10 = 1 := b_x10
    refine ⟨fun c13 => ?_, fun c13 => ?_⟩
    · refine u_X7_price_46 ?_
      refine i_X7_price_51 (fun (y0 : Nat) (y1 : Nat) (y2 : Nat) (y3 : Int32) (y4 : Nat) (y5 : Int32) (y6 : Int32) (Z : HS) => ((2147483647 : Int32).toInt - y6.toInt).toNat) (fun (y0 : Nat) (y1 : Nat) (y2 : Nat) (y3 : Int32) (y4 : Nat) (y5 : Int32) (y6 : Int32) (Z : HS) => (IV Z) ∧ (Gr (sI (sI S v0 9 v3) v0 3 (0 : Int32)) Z) ∧ (v0 = y0) ∧ (v1 = y1) ∧ (v2 = y2) ∧ (v3 = y3) ∧ (a8 = y4) ∧ ((0 : Int32) = y5) ∧ (0 ≤ y6)) ?_ _ _ _ _ _ _ _ _ ⟨hI, (gr_rf _), rfl, rfl, rfl, rfl, rfl, rfl, (q43)⟩
      intro w16 w18 w20 w22 w24 w26 w28 S14 X29 ⟨hI, gL15, q17, q19, q21, q23, q25, q27, i1⟩ ih30
      subst q17
      subst q19
      subst q21
      subst q23
      subst q25
      subst q27
      have l_a6 := (gr_len gL15 o_a6).trans l_a6
      have o_a6 := gr_ob gL15 o_a6
      have o_a8 := gr_ob gL15 o_a8
      have o_v0 := gr_ob gL15 o_v0
      have o_v1 := gr_ob gL15 o_v1
      have o_v2 := gr_ob gL15 o_v2
      have g0 := gr_tr g0 gL15
      refine u_X7_price_51 ?_
      refine ⟨o_v1, ?_⟩
      intro x31 ex31
      have r_x31 : (0 : Int32) ≤ x31 ∧ x31 ≤ (12 : Int32) := by rw [ex31]; exact nu 13 rfl hI o_v1
      refine ⟨fun c32 => ?_, fun c32 => ?_⟩
      · refine i_X7_price_179 (fun (y0 : Nat) (y1 : Nat) (y3 : Int32) (y4 : Nat) (y5 : Int32) (y6 : Int32) (Z : HS) => ((2147483647 : Int32).toInt - y6.toInt).toNat) (fun (y0 : Nat) (y1 : Nat) (y3 : Int32) (y4 : Nat) (y5 : Int32) (y6 : Int32) (Z : HS) => (IV Z) ∧ (Gr S14 Z) ∧ (v0 = y0) ∧ (v1 = y1) ∧ (v3 = y3) ∧ (a8 = y4) ∧ ((0 : Int32) = y5) ∧ (0 ≤ y6)) ?_ _ _ _ _ _ _ _ ⟨hI, (gr_rf _), rfl, rfl, rfl, rfl, rfl, (q43)⟩
        intro w35 w37 w39 w41 w43 w45 S33 X46 ⟨hI, gL34, q36, q38, q40, q42, q44, i1⟩ ih47
        subst q36
        subst q38
        subst q40
        subst q42
        subst q44
        have l_a6 := (gr_len gL34 o_a6).trans l_a6
        have o_a6 := gr_ob gL34 o_a6
        have o_a8 := gr_ob gL34 o_a8
        have o_v0 := gr_ob gL34 o_v0
        have o_v1 := gr_ob gL34 o_v1
        have o_v2 := gr_ob gL34 o_v2
        have g0 := gr_tr g0 gL34
        have gL15 := gr_tr gL15 gL34
        refine u_X7_price_179 ?_
        refine ⟨o_v1, ?_⟩
        intro x48 ex48
        have r_x48 : (0 : Int32) ≤ x48 ∧ x48 ≤ (8 : Int32) := by rw [ex48]; exact nu 12 rfl hI o_v1
        refine ⟨fun c49 => ?_, fun c49 => ?_⟩
        · exact hq _ hI g0
        · refine m_X8_canWait hI o_v1 (fun x50 S51 hI2 g52 b_x50 p_x50 => ?_)
          obtain ⟨z_S51, p_x50⟩ := p_x50
          subst z_S51
          intro _ _
          have bb_x50 : x50 = 0 ∨ x50 = 1 := b_x50
          refine ⟨fun c53 => ?_, fun c53 => ?_⟩
          · refine u_X7_price_245 ?_
            intro x54 ex54
            exact ih47 _ _ _ _ _ _ _ ⟨hI, gL34, rfl, rfl, rfl, rfl, rfl, (q192 i1 r_x48 c49 p_x50 bb_x50 c53 ex54)⟩ (mu_up (q193 i1 r_x48 c49 p_x50 bb_x50 c53 ex54) (q194 i1 r_x48 c49 p_x50 bb_x50 c53 ex54))
          · refine ⟨fun c55 => ?_, fun c55 => ?_⟩
            · refine m_X8_dripOn hI o_v1 o_a8 (fun x56 S57 hI2 g58 p_x56 => ?_)
              subst p_x56
              intro _
              obtain ⟨a59, ea59, o_a59, l_a59⟩ := shl 15 rfl hI o_v1
              refine ⟨a59, ea59, ?_⟩
              refine ⟨o_a59, ?_⟩
              have i61 : vp_in v3 (hN _ a59) := (vin l_a59 (m := 6) (by decide) (q195 p_x10 bb_x10 c13 c55))
              obtain ⟨a60, ea60, o_a60⟩ := ae hI o_a59 (by decide) (by decide) i61
              replace o_a60 : ob _ a60 3 := o_a60
              refine ⟨i61, a60, ea60, ?_⟩
              refine ⟨o_a60, ?_⟩
              intro x62 ex62
              refine u_X7_price_230 ?_
              intro x63 ex63
              refine ⟨o_v0, ?_⟩
              refine m_X7_addMove hI o_v0 (fun S65 hI g66 => ?_)
              have l_a59 := (gr_len g66 o_a59).trans l_a59
              have l_a6 := (gr_len g66 o_a6).trans l_a6
              have o_a59 := gr_ob g66 o_a59
              have o_a6 := gr_ob g66 o_a6
              have o_a60 := gr_ob g66 o_a60
              have o_a8 := gr_ob g66 o_a8
              have o_v0 := gr_ob g66 o_v0
              have o_v1 := gr_ob g66 o_v1
              have o_v2 := gr_ob g66 o_v2
              have g0 := gr_tr g0 g66
              have gL15 := gr_tr gL15 g66
              have gL34 := gr_tr gL34 g66
              intro _
              refine u_X7_price_245 ?_
              intro x67 ex67
              exact ih47 _ _ _ _ _ _ _ ⟨hI, gL34, rfl, rfl, rfl, rfl, rfl, (q196 i1 r_x48 c49 p_x50 bb_x50 c53 c55 ex67)⟩ (mu_up (q197 i1 r_x48 c49 p_x50 bb_x50 c53 c55 ex67) (q198 i1 r_x48 c49 p_x50 bb_x50 c53 c55 ex67))
            · refine u_X7_price_230 ?_
              refine ⟨o_v0, ?_⟩
              refine m_X7_addMove hI o_v0 (fun S69 hI g70 => ?_)
              have l_a6 := (gr_len g70 o_a6).trans l_a6
              have o_a6 := gr_ob g70 o_a6
              have o_a8 := gr_ob g70 o_a8
              have o_v0 := gr_ob g70 o_v0
              have o_v1 := gr_ob g70 o_v1
              have o_v2 := gr_ob g70 o_v2
              have g0 := gr_tr g0 g70
              have gL15 := gr_tr gL15 g70
              have gL34 := gr_tr gL34 g70
              intro _
              refine u_X7_price_245 ?_
              intro x71 ex71
              exact ih47 _ _ _ _ _ _ _ ⟨hI, gL34, rfl, rfl, rfl, rfl, rfl, (q199 i1 r_x48 c49 p_x50 bb_x50 c53 c55 ex71)⟩ (mu_up (q200 i1 r_x48 c49 p_x50 bb_x50 c53 c55 ex71) (q201 i1 r_x48 c49 p_x50 bb_x50 c53 c55 ex71))
      · obtain ⟨a72, ea72, o_a72, l_a72⟩ := shl 17 rfl hI o_v1
        refine ⟨a72, ea72, ?_⟩
        intro x73 ex73
        refine ⟨o_a72, ?_⟩
        have i75 : vp_in x73 (hN _ a72) := (vin l_a72 (m := 12) (by decide) (q202 i1 r_x31 c32 ex73))
        obtain ⟨a74, ea74, o_a74⟩ := ae hI o_a72 (by decide) (by decide) i75
        replace o_a74 : ob _ a74 5 := o_a74
        refine ⟨i75, a74, ea74, ?_⟩
        intro x76 ex76
        refine ⟨o_a8, ?_⟩
        intro x77 ex77
        have r_x77 : (0 : Int32) ≤ x77 ∧ x77 ≤ (9 : Int32) := by rw [ex77]; exact nu 4 rfl hI o_a8
        refine i_X7_price_86 (fun (y0 : Nat) (y1 : Nat) (y2 : Nat) (y3 : Int32) (y4 : Nat) (y5 : Int32) (y6 : Int32) (y7 : Nat) (y8 : Int32) (y9 : Int32) (Z : HS) => ((2147483647 : Int32).toInt - y9.toInt).toNat) (fun (y0 : Nat) (y1 : Nat) (y2 : Nat) (y3 : Int32) (y4 : Nat) (y5 : Int32) (y6 : Int32) (y7 : Nat) (y8 : Int32) (y9 : Int32) (Z : HS) => (IV Z) ∧ (Gr S14 Z) ∧ (v0 = y0) ∧ (v1 = y1) ∧ (v2 = y2) ∧ (v3 = y3) ∧ (a8 = y4) ∧ ((0 : Int32) = y5) ∧ (w28 = y6) ∧ (a74 = y7) ∧ (x76 = y8)) ?_ _ _ _ _ _ _ _ _ _ _ _ ⟨hI, (gr_rf _), rfl, rfl, rfl, rfl, rfl, rfl, rfl, rfl, rfl⟩
        intro w80 w82 w84 w86 w88 w90 w92 w94 w96 w98 S78 X99 ⟨hI, gL79, q81, q83, q85, q87, q89, q91, q93, q95, q97⟩ ih100
        subst q81
        subst q83
        subst q85
        subst q87
        subst q89
        subst q91
        subst q93
        subst q95
        subst q97
        have l_a6 := (gr_len gL79 o_a6).trans l_a6
        have l_a72 := (gr_len gL79 o_a72).trans l_a72
        have o_a6 := gr_ob gL79 o_a6
        have o_a72 := gr_ob gL79 o_a72
        have o_a74 := gr_ob gL79 o_a74
        have o_a8 := gr_ob gL79 o_a8
        have o_v0 := gr_ob gL79 o_v0
        have o_v1 := gr_ob gL79 o_v1
        have o_v2 := gr_ob gL79 o_v2
        have g0 := gr_tr g0 gL79
        have gL15 := gr_tr gL15 gL79
        refine u_X7_price_86 ?_
        refine ⟨o_a8, ?_⟩
        intro x101 ex101
        have r_x101 : (0 : Int32) ≤ x101 ∧ x101 ≤ (9 : Int32) := by rw [ex101]; exact nu 5 rfl hI o_a8
        refine ⟨fun c102 => ?_, fun c102 => ?_⟩
        · intro x103 ex103
          exact ih30 _ _ _ _ _ _ _ _ ⟨hI, gL15, rfl, rfl, rfl, rfl, rfl, rfl, (q203 i1 r_x31 c32 ex73 ex76 ex103)⟩ (mu_up (q204 i1 r_x31 c32 ex73 ex76 ex103) (q205 i1 r_x31 c32 ex73 ex76 ex103))
        · refine ⟨fun c104 => ?_, fun c104 => ?_⟩
          · refine ⟨o_v1, ?_⟩
            obtain ⟨a105, ea105, o_a105, l_a105⟩ := shl 15 rfl hI o_v1
            refine ⟨a105, ea105, ?_⟩
            refine ⟨o_a105, ?_⟩
            have i107 : vp_in v3 (hN _ a105) := (vin l_a105 (m := 6) (by decide) (q195 p_x10 bb_x10 c13 c104))
            obtain ⟨a106, ea106, o_a106⟩ := ae hI o_a105 (by decide) (by decide) i107
            replace o_a106 : ob _ a106 3 := o_a106
            refine ⟨i107, a106, ea106, ?_⟩
            refine ⟨o_v2, ?_⟩
            refine m_X1_wetOf hI o_v2 o_a8 o_a74 o_a106 (fun x108 S109 hI g110 => ?_)
            have l_a105 := (gr_len g110 o_a105).trans l_a105
            have l_a6 := (gr_len g110 o_a6).trans l_a6
            have l_a72 := (gr_len g110 o_a72).trans l_a72
            have o_a105 := gr_ob g110 o_a105
            have o_a106 := gr_ob g110 o_a106
            have o_a6 := gr_ob g110 o_a6
            have o_a72 := gr_ob g110 o_a72
            have o_a74 := gr_ob g110 o_a74
            have o_a8 := gr_ob g110 o_a8
            have o_v0 := gr_ob g110 o_v0
            have o_v1 := gr_ob g110 o_v1
            have o_v2 := gr_ob g110 o_v2
            have g0 := gr_tr g0 g110
            have gL15 := gr_tr gL15 g110
            have gL79 := gr_tr gL79 g110
            intro _
            obtain ⟨a111, ea111, o_a111, l_a111⟩ := shl 15 rfl hI o_v1
            refine ⟨a111, ea111, ?_⟩
            refine ⟨o_a111, ?_⟩
            have i113 : vp_in v3 (hN _ a111) := (vin l_a111 (m := 6) (by decide) (q195 p_x10 bb_x10 c13 c104))
            obtain ⟨a112, ea112, o_a112⟩ := ae hI o_a111 (by decide) (by decide) i113
            replace o_a112 : ob _ a112 3 := o_a112
            refine ⟨i113, a112, ea112, ?_⟩
            refine ⟨o_a112, ?_⟩
            intro x114 ex114
            refine u_X7_price_134 ?_
            intro x115 ex115
            intro x116 ex116
            refine ⟨o_v0, ?_⟩
            refine m_X7_addLeg hI o_v0 o_a74 (fun S118 hI g119 => ?_)
            have l_a105 := (gr_len g119 o_a105).trans l_a105
            have l_a111 := (gr_len g119 o_a111).trans l_a111
            have l_a6 := (gr_len g119 o_a6).trans l_a6
            have l_a72 := (gr_len g119 o_a72).trans l_a72
            have o_a105 := gr_ob g119 o_a105
            have o_a106 := gr_ob g119 o_a106
            have o_a111 := gr_ob g119 o_a111
            have o_a112 := gr_ob g119 o_a112
            have o_a6 := gr_ob g119 o_a6
            have o_a72 := gr_ob g119 o_a72
            have o_a74 := gr_ob g119 o_a74
            have o_a8 := gr_ob g119 o_a8
            have o_v0 := gr_ob g119 o_v0
            have o_v1 := gr_ob g119 o_v1
            have o_v2 := gr_ob g119 o_v2
            have g0 := gr_tr g0 g119
            have gL15 := gr_tr gL15 g119
            have gL79 := gr_tr gL79 g119
            intro _
            intro x120 ex120
            exact ih100 _ _ _ _ _ _ _ _ _ _ _ ⟨hI, gL79, rfl, rfl, rfl, rfl, rfl, rfl, rfl, rfl, rfl⟩ (mu_up (q206 r_x101 c102 c104 ex120) (q207 r_x101 c102 c104 ex120))
          · refine u_X7_price_134 ?_
            intro x121 ex121
            refine ⟨o_v0, ?_⟩
            refine m_X7_addLeg hI o_v0 o_a74 (fun S123 hI g124 => ?_)
            have l_a6 := (gr_len g124 o_a6).trans l_a6
            have l_a72 := (gr_len g124 o_a72).trans l_a72
            have o_a6 := gr_ob g124 o_a6
            have o_a72 := gr_ob g124 o_a72
            have o_a74 := gr_ob g124 o_a74
            have o_a8 := gr_ob g124 o_a8
            have o_v0 := gr_ob g124 o_v0
            have o_v1 := gr_ob g124 o_v1
            have o_v2 := gr_ob g124 o_v2
            have g0 := gr_tr g0 g124
            have gL15 := gr_tr gL15 g124
            have gL79 := gr_tr gL79 g124
            intro _
            intro x125 ex125
            exact ih100 _ _ _ _ _ _ _ _ _ _ _ ⟨hI, gL79, rfl, rfl, rfl, rfl, rfl, rfl, rfl, rfl, rfl⟩ (mu_up (q208 r_x101 c102 c104 ex125) (q209 r_x101 c102 c104 ex125))
    · refine u_X7_price_46 ?_
      refine i_X7_price_51 (fun (y0 : Nat) (y1 : Nat) (y2 : Nat) (y3 : Int32) (y4 : Nat) (y5 : Int32) (y6 : Int32) (Z : HS) => ((2147483647 : Int32).toInt - y6.toInt).toNat) (fun (y0 : Nat) (y1 : Nat) (y2 : Nat) (y3 : Int32) (y4 : Nat) (y5 : Int32) (y6 : Int32) (Z : HS) => (IV Z) ∧ (Gr (sI (sI S v0 9 v3) v0 3 (0 : Int32)) Z) ∧ (v0 = y0) ∧ (v1 = y1) ∧ (v2 = y2) ∧ (v3 = y3) ∧ (a8 = y4) ∧ ((1 : Int32) = y5) ∧ (0 ≤ y6)) ?_ _ _ _ _ _ _ _ _ ⟨hI, (gr_rf _), rfl, rfl, rfl, rfl, rfl, rfl, (q43)⟩
      intro w128 w130 w132 w134 w136 w138 w140 S126 X141 ⟨hI, gL127, q129, q131, q133, q135, q137, q139, i1⟩ ih142
      subst q129
      subst q131
      subst q133
      subst q135
      subst q137
      subst q139
      have l_a6 := (gr_len gL127 o_a6).trans l_a6
      have o_a6 := gr_ob gL127 o_a6
      have o_a8 := gr_ob gL127 o_a8
      have o_v0 := gr_ob gL127 o_v0
      have o_v1 := gr_ob gL127 o_v1
      have o_v2 := gr_ob gL127 o_v2
      have g0 := gr_tr g0 gL127
      refine u_X7_price_51 ?_
      refine ⟨o_v1, ?_⟩
      intro x143 ex143
      have r_x143 : (0 : Int32) ≤ x143 ∧ x143 ≤ (12 : Int32) := by rw [ex143]; exact nu 13 rfl hI o_v1
      refine ⟨fun c144 => ?_, fun c144 => ?_⟩
      · refine i_X7_price_179 (fun (y0 : Nat) (y1 : Nat) (y3 : Int32) (y4 : Nat) (y5 : Int32) (y6 : Int32) (Z : HS) => ((2147483647 : Int32).toInt - y6.toInt).toNat) (fun (y0 : Nat) (y1 : Nat) (y3 : Int32) (y4 : Nat) (y5 : Int32) (y6 : Int32) (Z : HS) => (IV Z) ∧ (Gr S126 Z) ∧ (v0 = y0) ∧ (v1 = y1) ∧ (v3 = y3) ∧ (a8 = y4) ∧ ((1 : Int32) = y5) ∧ (0 ≤ y6)) ?_ _ _ _ _ _ _ _ ⟨hI, (gr_rf _), rfl, rfl, rfl, rfl, rfl, (q43)⟩
        intro w147 w149 w151 w153 w155 w157 S145 X158 ⟨hI, gL146, q148, q150, q152, q154, q156, i1⟩ ih159
        subst q148
        subst q150
        subst q152
        subst q154
        subst q156
        have l_a6 := (gr_len gL146 o_a6).trans l_a6
        have o_a6 := gr_ob gL146 o_a6
        have o_a8 := gr_ob gL146 o_a8
        have o_v0 := gr_ob gL146 o_v0
        have o_v1 := gr_ob gL146 o_v1
        have o_v2 := gr_ob gL146 o_v2
        have g0 := gr_tr g0 gL146
        have gL127 := gr_tr gL127 gL146
        refine u_X7_price_179 ?_
        refine ⟨o_v1, ?_⟩
        intro x160 ex160
        have r_x160 : (0 : Int32) ≤ x160 ∧ x160 ≤ (8 : Int32) := by rw [ex160]; exact nu 12 rfl hI o_v1
        refine ⟨fun c161 => ?_, fun c161 => ?_⟩
        · exact hq _ hI g0
        · refine m_X8_canWait hI o_v1 (fun x162 S163 hI2 g164 b_x162 p_x162 => ?_)
          obtain ⟨z_S163, p_x162⟩ := p_x162
          subst z_S163
          intro _ _
          have bb_x162 : x162 = 0 ∨ x162 = 1 := b_x162
          refine ⟨fun c165 => ?_, fun c165 => ?_⟩
          · refine u_X7_price_245 ?_
            intro x166 ex166
            exact ih159 _ _ _ _ _ _ _ ⟨hI, gL146, rfl, rfl, rfl, rfl, rfl, (q192 i1 r_x160 c161 p_x162 bb_x162 c165 ex166)⟩ (mu_up (q193 i1 r_x160 c161 p_x162 bb_x162 c165 ex166) (q194 i1 r_x160 c161 p_x162 bb_x162 c165 ex166))
          · refine ⟨fun c167 => ?_, fun c167 => ?_⟩
            · refine m_X8_dripOn hI o_v1 o_a8 (fun x168 S169 hI2 g170 p_x168 => ?_)
              subst p_x168
              intro _
              obtain ⟨a171, ea171, o_a171, l_a171⟩ := shl 15 rfl hI o_v1
              refine ⟨a171, ea171, ?_⟩
              refine ⟨o_a171, ?_⟩
              have i173 : vp_in v3 (hN _ a171) := (vin l_a171 (m := 6) (by decide) (q210 p_x10 bb_x10 c13 c167))
              obtain ⟨a172, ea172, o_a172⟩ := ae hI o_a171 (by decide) (by decide) i173
              replace o_a172 : ob _ a172 3 := o_a172
              refine ⟨i173, a172, ea172, ?_⟩
              refine ⟨o_a172, ?_⟩
              intro x174 ex174
              refine u_X7_price_230 ?_
              intro x175 ex175
              refine ⟨o_v0, ?_⟩
              refine m_X7_addMove hI o_v0 (fun S177 hI g178 => ?_)
              have l_a171 := (gr_len g178 o_a171).trans l_a171
              have l_a6 := (gr_len g178 o_a6).trans l_a6
              have o_a171 := gr_ob g178 o_a171
              have o_a172 := gr_ob g178 o_a172
              have o_a6 := gr_ob g178 o_a6
              have o_a8 := gr_ob g178 o_a8
              have o_v0 := gr_ob g178 o_v0
              have o_v1 := gr_ob g178 o_v1
              have o_v2 := gr_ob g178 o_v2
              have g0 := gr_tr g0 g178
              have gL127 := gr_tr gL127 g178
              have gL146 := gr_tr gL146 g178
              intro _
              refine u_X7_price_245 ?_
              intro x179 ex179
              exact ih159 _ _ _ _ _ _ _ ⟨hI, gL146, rfl, rfl, rfl, rfl, rfl, (q211 i1 r_x160 c161 p_x162 bb_x162 c165 c167 ex179)⟩ (mu_up (q212 i1 r_x160 c161 p_x162 bb_x162 c165 c167 ex179) (q213 i1 r_x160 c161 p_x162 bb_x162 c165 c167 ex179))
            · refine u_X7_price_230 ?_
              refine ⟨o_v0, ?_⟩
              refine m_X7_addMove hI o_v0 (fun S181 hI g182 => ?_)
              have l_a6 := (gr_len g182 o_a6).trans l_a6
              have o_a6 := gr_ob g182 o_a6
              have o_a8 := gr_ob g182 o_a8
              have o_v0 := gr_ob g182 o_v0
              have o_v1 := gr_ob g182 o_v1
              have o_v2 := gr_ob g182 o_v2
              have g0 := gr_tr g0 g182
              have gL127 := gr_tr gL127 g182
              have gL146 := gr_tr gL146 g182
              intro _
              refine u_X7_price_245 ?_
              intro x183 ex183
              exact ih159 _ _ _ _ _ _ _ ⟨hI, gL146, rfl, rfl, rfl, rfl, rfl, (q214 i1 r_x160 c161 p_x162 bb_x162 c165 c167 ex183)⟩ (mu_up (q215 i1 r_x160 c161 p_x162 bb_x162 c165 c167 ex183) (q216 i1 r_x160 c161 p_x162 bb_x162 c165 c167 ex183))
      · obtain ⟨a184, ea184, o_a184, l_a184⟩ := shl 17 rfl hI o_v1
        refine ⟨a184, ea184, ?_⟩
        intro x185 ex185
        refine ⟨o_a184, ?_⟩
        have i187 : vp_in x185 (hN _ a184) := (vin l_a184 (m := 12) (by decide) (q202 i1 r_x143 c144 ex185))
        obtain ⟨a186, ea186, o_a186⟩ := ae hI o_a184 (by decide) (by decide) i187
        replace o_a186 : ob _ a186 5 := o_a186
        refine ⟨i187, a186, ea186, ?_⟩
        intro x188 ex188
        refine ⟨o_a8, ?_⟩
        intro x189 ex189
        have r_x189 : (0 : Int32) ≤ x189 ∧ x189 ≤ (9 : Int32) := by rw [ex189]; exact nu 4 rfl hI o_a8
        refine i_X7_price_86 (fun (y0 : Nat) (y1 : Nat) (y2 : Nat) (y3 : Int32) (y4 : Nat) (y5 : Int32) (y6 : Int32) (y7 : Nat) (y8 : Int32) (y9 : Int32) (Z : HS) => ((2147483647 : Int32).toInt - y9.toInt).toNat) (fun (y0 : Nat) (y1 : Nat) (y2 : Nat) (y3 : Int32) (y4 : Nat) (y5 : Int32) (y6 : Int32) (y7 : Nat) (y8 : Int32) (y9 : Int32) (Z : HS) => (IV Z) ∧ (Gr S126 Z) ∧ (v0 = y0) ∧ (v1 = y1) ∧ (v2 = y2) ∧ (v3 = y3) ∧ (a8 = y4) ∧ ((1 : Int32) = y5) ∧ (w140 = y6) ∧ (a186 = y7) ∧ (x188 = y8)) ?_ _ _ _ _ _ _ _ _ _ _ _ ⟨hI, (gr_rf _), rfl, rfl, rfl, rfl, rfl, rfl, rfl, rfl, rfl⟩
        intro w192 w194 w196 w198 w200 w202 w204 w206 w208 w210 S190 X211 ⟨hI, gL191, q193, q195, q197, q199, q201, q203, q205, q207, q209⟩ ih212
        subst q193
        subst q195
        subst q197
        subst q199
        subst q201
        subst q203
        subst q205
        subst q207
        subst q209
        have l_a184 := (gr_len gL191 o_a184).trans l_a184
        have l_a6 := (gr_len gL191 o_a6).trans l_a6
        have o_a184 := gr_ob gL191 o_a184
        have o_a186 := gr_ob gL191 o_a186
        have o_a6 := gr_ob gL191 o_a6
        have o_a8 := gr_ob gL191 o_a8
        have o_v0 := gr_ob gL191 o_v0
        have o_v1 := gr_ob gL191 o_v1
        have o_v2 := gr_ob gL191 o_v2
        have g0 := gr_tr g0 gL191
        have gL127 := gr_tr gL127 gL191
        refine u_X7_price_86 ?_
        refine ⟨o_a8, ?_⟩
        intro x213 ex213
        have r_x213 : (0 : Int32) ≤ x213 ∧ x213 ≤ (9 : Int32) := by rw [ex213]; exact nu 5 rfl hI o_a8
        refine ⟨fun c214 => ?_, fun c214 => ?_⟩
        · intro x215 ex215
          exact ih142 _ _ _ _ _ _ _ _ ⟨hI, gL127, rfl, rfl, rfl, rfl, rfl, rfl, (q203 i1 r_x143 c144 ex185 ex188 ex215)⟩ (mu_up (q204 i1 r_x143 c144 ex185 ex188 ex215) (q205 i1 r_x143 c144 ex185 ex188 ex215))
        · refine ⟨fun c216 => ?_, fun c216 => ?_⟩
          · refine ⟨o_v1, ?_⟩
            obtain ⟨a217, ea217, o_a217, l_a217⟩ := shl 15 rfl hI o_v1
            refine ⟨a217, ea217, ?_⟩
            refine ⟨o_a217, ?_⟩
            have i219 : vp_in v3 (hN _ a217) := (vin l_a217 (m := 6) (by decide) (q210 p_x10 bb_x10 c13 c216))
            obtain ⟨a218, ea218, o_a218⟩ := ae hI o_a217 (by decide) (by decide) i219
            replace o_a218 : ob _ a218 3 := o_a218
            refine ⟨i219, a218, ea218, ?_⟩
            refine ⟨o_v2, ?_⟩
            refine m_X1_wetOf hI o_v2 o_a8 o_a186 o_a218 (fun x220 S221 hI g222 => ?_)
            have l_a184 := (gr_len g222 o_a184).trans l_a184
            have l_a217 := (gr_len g222 o_a217).trans l_a217
            have l_a6 := (gr_len g222 o_a6).trans l_a6
            have o_a184 := gr_ob g222 o_a184
            have o_a186 := gr_ob g222 o_a186
            have o_a217 := gr_ob g222 o_a217
            have o_a218 := gr_ob g222 o_a218
            have o_a6 := gr_ob g222 o_a6
            have o_a8 := gr_ob g222 o_a8
            have o_v0 := gr_ob g222 o_v0
            have o_v1 := gr_ob g222 o_v1
            have o_v2 := gr_ob g222 o_v2
            have g0 := gr_tr g0 g222
            have gL127 := gr_tr gL127 g222
            have gL191 := gr_tr gL191 g222
            intro _
            obtain ⟨a223, ea223, o_a223, l_a223⟩ := shl 15 rfl hI o_v1
            refine ⟨a223, ea223, ?_⟩
            refine ⟨o_a223, ?_⟩
            have i225 : vp_in v3 (hN _ a223) := (vin l_a223 (m := 6) (by decide) (q210 p_x10 bb_x10 c13 c216))
            obtain ⟨a224, ea224, o_a224⟩ := ae hI o_a223 (by decide) (by decide) i225
            replace o_a224 : ob _ a224 3 := o_a224
            refine ⟨i225, a224, ea224, ?_⟩
            refine ⟨o_a224, ?_⟩
            intro x226 ex226
            refine u_X7_price_134 ?_
            intro x227 ex227
            intro x228 ex228
            refine ⟨o_v0, ?_⟩
            refine m_X7_addLeg hI o_v0 o_a186 (fun S230 hI g231 => ?_)
            have l_a184 := (gr_len g231 o_a184).trans l_a184
            have l_a217 := (gr_len g231 o_a217).trans l_a217
            have l_a223 := (gr_len g231 o_a223).trans l_a223
            have l_a6 := (gr_len g231 o_a6).trans l_a6
            have o_a184 := gr_ob g231 o_a184
            have o_a186 := gr_ob g231 o_a186
            have o_a217 := gr_ob g231 o_a217
            have o_a218 := gr_ob g231 o_a218
            have o_a223 := gr_ob g231 o_a223
            have o_a224 := gr_ob g231 o_a224
            have o_a6 := gr_ob g231 o_a6
            have o_a8 := gr_ob g231 o_a8
            have o_v0 := gr_ob g231 o_v0
            have o_v1 := gr_ob g231 o_v1
            have o_v2 := gr_ob g231 o_v2
            have g0 := gr_tr g0 g231
            have gL127 := gr_tr gL127 g231
            have gL191 := gr_tr gL191 g231
            intro _
            intro x232 ex232
            exact ih212 _ _ _ _ _ _ _ _ _ _ _ ⟨hI, gL191, rfl, rfl, rfl, rfl, rfl, rfl, rfl, rfl, rfl⟩ (mu_up (q217 r_x213 c214 c216 ex232) (q218 r_x213 c214 c216 ex232))
          · refine u_X7_price_134 ?_
            intro x233 ex233
            refine ⟨o_v0, ?_⟩
            refine m_X7_addLeg hI o_v0 o_a186 (fun S235 hI g236 => ?_)
            have l_a184 := (gr_len g236 o_a184).trans l_a184
            have l_a6 := (gr_len g236 o_a6).trans l_a6
            have o_a184 := gr_ob g236 o_a184
            have o_a186 := gr_ob g236 o_a186
            have o_a6 := gr_ob g236 o_a6
            have o_a8 := gr_ob g236 o_a8
            have o_v0 := gr_ob g236 o_v0
            have o_v1 := gr_ob g236 o_v1
            have o_v2 := gr_ob g236 o_v2
            have g0 := gr_tr g0 g236
            have gL127 := gr_tr gL127 g236
            have gL191 := gr_tr gL191 g236
            intro _
            intro x237 ex237
            exact ih212 _ _ _ _ _ _ _ _ _ _ _ ⟨hI, gL191, rfl, rfl, rfl, rfl, rfl, rfl, rfl, rfl, rfl⟩ (mu_up (q219 r_x213 c214 c216 ex237) (q220 r_x213 c214 c216 ex237))
  · exact hq _ hI g0
set_option maxHeartbeats 4000000 in
set_option maxRecDepth 20000 in
theorem m_X7_reckonMinute {v0 : Nat} {v1 : Int32} {v2 : Int32} {Q : HS → Prop} {S : HS} (hI : IV S) (o_v0 : ob S v0 7)     (hq : ∀ (T : HS), IV T → Gr S T → Q T) : P_X7_reckonMinute v0 v1 v2 Q S := by
  have g0 := gr_rf S
  refine u_X7_reckonMinute ?_
  refine u_X7_reckonMinute_0 ?_
  refine i_X7_reckonMinute_2 (fun (y0 : Nat) (y1 : Int32) (y2 : Int32) (y3 : Int32) (Z : HS) => ((2147483647 : Int32).toInt - y3.toInt).toNat) (fun (y0 : Nat) (y1 : Int32) (y2 : Int32) (y3 : Int32) (Z : HS) => (IV Z) ∧ (Gr S Z) ∧ (v0 = y0) ∧ (v1 = y1) ∧ (v2 = y2) ∧ (0 ≤ y3)) ?_ _ _ _ _ _ ⟨hI, (gr_rf _), rfl, rfl, rfl, (q43)⟩
  intro w3 w5 w7 w9 S1 X10 ⟨hI, gL2, q4, q6, q8, i1⟩ ih11
  subst q4
  subst q6
  subst q8
  have o_v0 := gr_ob gL2 o_v0
  have g0 := gr_tr g0 gL2
  refine u_X7_reckonMinute_2 ?_
  refine ⟨fun c12 => ?_, fun c12 => ?_⟩
  · refine u_X7_reckonMinute_60 ?_
    refine i_X7_reckonMinute_62 (fun (y0 : Nat) (y2 : Int32) (y3 : Int32) (Z : HS) => ((2147483647 : Int32).toInt - y3.toInt).toNat) (fun (y0 : Nat) (y2 : Int32) (y3 : Int32) (Z : HS) => (IV Z) ∧ (Gr S1 Z) ∧ (v0 = y0) ∧ (v2 = y2) ∧ (0 ≤ y3)) ?_ _ _ _ _ ⟨hI, (gr_rf _), rfl, rfl, (q43)⟩
    intro w15 w17 w19 S13 X20 ⟨hI, gL14, q16, q18, i1⟩ ih21
    subst q16
    subst q18
    have o_v0 := gr_ob gL14 o_v0
    have g0 := gr_tr g0 gL14
    have gL2 := gr_tr gL2 gL14
    refine u_X7_reckonMinute_62 ?_
    refine ⟨o_v0, ?_⟩
    intro x22 ex22
    have r_x22 : (0 : Int32) ≤ x22 ∧ x22 ≤ (224 : Int32) := by rw [ex22]; exact nu 9 rfl hI o_v0
    refine ⟨fun c23 => ?_, fun c23 => ?_⟩
    · exact hq _ hI g0
    · refine ⟨fun c24 => ?_, fun c24 => ?_⟩
      · exact hq _ hI g0
      · obtain ⟨a25, ea25, o_a25, -⟩ := sh 24 rfl hI o_v0
        refine ⟨a25, ea25, ?_⟩
        refine ⟨o_a25, ?_⟩
        refine ⟨(vinL hl_a25 (q163 i1 r_x22 c23 c24)), ?_⟩
        intro x26 ex26
        intro x27 ex27
        obtain ⟨a28, ea28, o_a28, -⟩ := sh 25 rfl hI o_v0
        refine ⟨a28, ea28, ?_⟩
        refine ⟨o_a28, ?_⟩
        refine ⟨(vinL hl_a28 (q163 i1 r_x22 c23 c24)), ?_⟩
        intro x29 ex29
        intro x30 ex30
        obtain ⟨a31, ea31, o_a31, -⟩ := sh 26 rfl hI o_v0
        refine ⟨a31, ea31, ?_⟩
        refine ⟨o_a31, ?_⟩
        refine ⟨(vinL hl_a31 (q163 i1 r_x22 c23 c24)), ?_⟩
        intro x32 ex32
        intro x33 ex33
        refine ⟨fun c34 => ?_, fun c34 => ?_⟩
        · refine u_X7_reckonMinute_117 ?_
          refine ⟨fun c35 => ?_, fun c35 => ?_⟩
          · refine u_X7_reckonMinute_219 ?_
            intro x36 ex36
            exact ih21 _ _ _ _ ⟨hI, gL14, rfl, rfl, (q164 i1 r_x22 c23 c24 c35 ex36)⟩ (mu_up (q165 i1 r_x22 c23 c24 c35 ex36) (q166 i1 r_x22 c23 c24 c35 ex36))
          · refine ⟨fun c37 => ?_, fun c37 => ?_⟩
            · refine u_X7_reckonMinute_219 ?_
              intro x38 ex38
              exact ih21 _ _ _ _ ⟨hI, gL14, rfl, rfl, (q167 i1 r_x22 c23 c24 c35 ex38)⟩ (mu_up (q168 i1 r_x22 c23 c24 c35 ex38) (q169 i1 r_x22 c23 c24 c35 ex38))
            · refine ⟨o_v0, ?_⟩
              obtain ⟨a39, ea39, o_a39, -⟩ := sh 22 rfl hI o_v0
              refine ⟨a39, ea39, ?_⟩
              refine ⟨o_a39, ?_⟩
              refine ⟨fun c40 => ?_, fun c40 => ?_⟩
              · refine u_X7_reckonMinute_219 ?_
                intro x41 ex41
                exact ih21 _ _ _ _ ⟨hI, gL14, rfl, rfl, (q167 i1 r_x22 c23 c24 c35 ex41)⟩ (mu_up (q168 i1 r_x22 c23 c24 c35 ex41) (q169 i1 r_x22 c23 c24 c35 ex41))
              · refine ⟨fun c42 => ?_, fun c42 => ?_⟩
                · refine u_X7_reckonMinute_219 ?_
                  intro x43 ex43
                  exact ih21 _ _ _ _ ⟨hI, gL14, rfl, rfl, (q167 i1 r_x22 c23 c24 c35 ex43)⟩ (mu_up (q168 i1 r_x22 c23 c24 c35 ex43) (q169 i1 r_x22 c23 c24 c35 ex43))
                · obtain ⟨a44, ea44, o_a44, -⟩ := sh 22 rfl hI o_v0
                  refine ⟨a44, ea44, ?_⟩
                  refine ⟨o_a44, ?_⟩
                  refine ⟨fun c45 => ?_, fun c45 => ?_⟩
                  · refine u_X7_reckonMinute_219 ?_
                    intro x46 ex46
                    exact ih21 _ _ _ _ ⟨hI, gL14, rfl, rfl, (q167 i1 r_x22 c23 c24 c35 ex46)⟩ (mu_up (q168 i1 r_x22 c23 c24 c35 ex46) (q169 i1 r_x22 c23 c24 c35 ex46))
                  · obtain ⟨a47, ea47, o_a47, -⟩ := sh 22 rfl hI o_v0
                    refine ⟨a47, ea47, ?_⟩
                    refine ⟨o_a47, ?_⟩
                    refine ⟨(vinL hl_a47 (q170 ex27 ex30 c34 c35 c37 c40 c42 c45)), ?_⟩
                    intro x48 ex48
                    refine ⟨fun c49 => ?_, fun c49 => ?_⟩
                    · refine u_X7_reckonMinute_219 ?_
                      intro x50 ex50
                      exact ih21 _ _ _ _ ⟨hI, gL14, rfl, rfl, (q167 i1 r_x22 c23 c24 c35 ex50)⟩ (mu_up (q168 i1 r_x22 c23 c24 c35 ex50) (q169 i1 r_x22 c23 c24 c35 ex50))
                    · obtain ⟨a51, ea51, o_a51, -⟩ := sh 27 rfl hI o_v0
                      refine ⟨a51, ea51, ?_⟩
                      refine ⟨o_a51, ?_⟩
                      refine ⟨(vinL hl_a51 (q171 i1 r_x22 c23 c24 c35)), ?_⟩
                      intro x52 ex52
                      obtain ⟨a53, ea53, o_a53, -⟩ := sh 22 rfl hI o_v0
                      refine ⟨a53, ea53, ?_⟩
                      refine ⟨o_a53, ?_⟩
                      refine ⟨(vinL hl_a53 (q170 ex27 ex30 c34 c35 c37 c40 c42 c45)), ?_⟩
                      intro x54 ex54
                      intro x55 ex55
                      obtain ⟨a56, ea56, o_a56, -⟩ := sh 22 rfl hI o_v0
                      refine ⟨a56, ea56, ?_⟩
                      refine ⟨o_a56, ?_⟩
                      refine ⟨(vinL hl_a56 (q172 ex27 ex30 c34 c35 c37 c40 c42 c45)), ?_⟩
                      intro x57 ex57
                      refine ⟨fun c58 => ?_, fun c58 => ?_⟩
                      · refine u_X7_reckonMinute_219 ?_
                        intro x59 ex59
                        exact ih21 _ _ _ _ ⟨hI, gL14, rfl, rfl, (q167 i1 r_x22 c23 c24 c35 ex59)⟩ (mu_up (q168 i1 r_x22 c23 c24 c35 ex59) (q169 i1 r_x22 c23 c24 c35 ex59))
                      · obtain ⟨a60, ea60, o_a60, -⟩ := sh 22 rfl hI o_v0
                        refine ⟨a60, ea60, ?_⟩
                        refine ⟨o_a60, ?_⟩
                        have i61 : vp_in x27 (hN _ a60) := (vinL hl_a60 (q172 ex27 ex30 c34 c35 c37 c40 c42 c45))
                        refine ⟨i61, ?_⟩
                        have hI := iv_aJ (i := x27.toNatClampNeg) (v := x55) hI o_v0 (by decide) ea60 o_a60 (by decide)
                        obtain ⟨a62, ea62, o_a62, -⟩ := sh 23 rfl hI o_v0
                        refine ⟨a62, ea62, ?_⟩
                        obtain ⟨a63, ea63, o_a63, -⟩ := sh 28 rfl hI o_v0
                        refine ⟨a63, ea63, ?_⟩
                        refine ⟨o_a63, ?_⟩
                        refine ⟨(vinL hl_a63 (q171 i1 r_x22 c23 c24 c35)), ?_⟩
                        intro x64 ex64
                        refine ⟨o_a62, ?_⟩
                        have i65 : vp_in x27 (hN _ a62) := (vinL hl_a62 (q172 ex27 ex30 c34 c35 c37 c40 c42 c45))
                        refine ⟨i65, ?_⟩
                        have hI := iv_aI (i := x27.toNatClampNeg) (v := x64) hI o_v0 (by decide) ea62 o_a62 (by decide)
                        refine u_X7_reckonMinute_219 ?_
                        intro x66 ex66
                        exact ih21 _ _ _ _ ⟨hI, gL14, rfl, rfl, (q167 i1 r_x22 c23 c24 c35 ex66)⟩ (mu_up (q168 i1 r_x22 c23 c24 c35 ex66) (q169 i1 r_x22 c23 c24 c35 ex66))
        · refine u_X7_reckonMinute_117 ?_
          refine ⟨fun c67 => ?_, fun c67 => ?_⟩
          · refine u_X7_reckonMinute_219 ?_
            intro x68 ex68
            exact ih21 _ _ _ _ ⟨hI, gL14, rfl, rfl, (q173 i1 r_x22 c23 c24 c67 ex68)⟩ (mu_up (q174 i1 r_x22 c23 c24 c67 ex68) (q175 i1 r_x22 c23 c24 c67 ex68))
          · refine ⟨fun c69 => ?_, fun c69 => ?_⟩
            · refine u_X7_reckonMinute_219 ?_
              intro x70 ex70
              exact ih21 _ _ _ _ ⟨hI, gL14, rfl, rfl, (q176 i1 r_x22 c23 c24 c67 ex70)⟩ (mu_up (q177 i1 r_x22 c23 c24 c67 ex70) (q178 i1 r_x22 c23 c24 c67 ex70))
            · refine ⟨o_v0, ?_⟩
              obtain ⟨a71, ea71, o_a71, -⟩ := sh 22 rfl hI o_v0
              refine ⟨a71, ea71, ?_⟩
              refine ⟨o_a71, ?_⟩
              refine ⟨fun c72 => ?_, fun c72 => ?_⟩
              · refine u_X7_reckonMinute_219 ?_
                intro x73 ex73
                exact ih21 _ _ _ _ ⟨hI, gL14, rfl, rfl, (q176 i1 r_x22 c23 c24 c67 ex73)⟩ (mu_up (q177 i1 r_x22 c23 c24 c67 ex73) (q178 i1 r_x22 c23 c24 c67 ex73))
              · refine ⟨fun c74 => ?_, fun c74 => ?_⟩
                · refine u_X7_reckonMinute_219 ?_
                  intro x75 ex75
                  exact ih21 _ _ _ _ ⟨hI, gL14, rfl, rfl, (q176 i1 r_x22 c23 c24 c67 ex75)⟩ (mu_up (q177 i1 r_x22 c23 c24 c67 ex75) (q178 i1 r_x22 c23 c24 c67 ex75))
                · obtain ⟨a76, ea76, o_a76, -⟩ := sh 22 rfl hI o_v0
                  refine ⟨a76, ea76, ?_⟩
                  refine ⟨o_a76, ?_⟩
                  refine ⟨fun c77 => ?_, fun c77 => ?_⟩
                  · refine u_X7_reckonMinute_219 ?_
                    intro x78 ex78
                    exact ih21 _ _ _ _ ⟨hI, gL14, rfl, rfl, (q176 i1 r_x22 c23 c24 c67 ex78)⟩ (mu_up (q177 i1 r_x22 c23 c24 c67 ex78) (q178 i1 r_x22 c23 c24 c67 ex78))
                  · obtain ⟨a79, ea79, o_a79, -⟩ := sh 22 rfl hI o_v0
                    refine ⟨a79, ea79, ?_⟩
                    refine ⟨o_a79, ?_⟩
                    refine ⟨(vinL hl_a79 (q179 ex27 ex30 c34 c67 c69 c72 c74 c77)), ?_⟩
                    intro x80 ex80
                    refine ⟨fun c81 => ?_, fun c81 => ?_⟩
                    · refine u_X7_reckonMinute_219 ?_
                      intro x82 ex82
                      exact ih21 _ _ _ _ ⟨hI, gL14, rfl, rfl, (q176 i1 r_x22 c23 c24 c67 ex82)⟩ (mu_up (q177 i1 r_x22 c23 c24 c67 ex82) (q178 i1 r_x22 c23 c24 c67 ex82))
                    · obtain ⟨a83, ea83, o_a83, -⟩ := sh 27 rfl hI o_v0
                      refine ⟨a83, ea83, ?_⟩
                      refine ⟨o_a83, ?_⟩
                      refine ⟨(vinL hl_a83 (q180 i1 r_x22 c23 c24 c67)), ?_⟩
                      intro x84 ex84
                      obtain ⟨a85, ea85, o_a85, -⟩ := sh 22 rfl hI o_v0
                      refine ⟨a85, ea85, ?_⟩
                      refine ⟨o_a85, ?_⟩
                      refine ⟨(vinL hl_a85 (q179 ex27 ex30 c34 c67 c69 c72 c74 c77)), ?_⟩
                      intro x86 ex86
                      intro x87 ex87
                      obtain ⟨a88, ea88, o_a88, -⟩ := sh 22 rfl hI o_v0
                      refine ⟨a88, ea88, ?_⟩
                      refine ⟨o_a88, ?_⟩
                      refine ⟨(vinL hl_a88 (q181 ex27 ex30 c34 c67 c69 c72 c74 c77)), ?_⟩
                      intro x89 ex89
                      refine ⟨fun c90 => ?_, fun c90 => ?_⟩
                      · refine u_X7_reckonMinute_219 ?_
                        intro x91 ex91
                        exact ih21 _ _ _ _ ⟨hI, gL14, rfl, rfl, (q176 i1 r_x22 c23 c24 c67 ex91)⟩ (mu_up (q177 i1 r_x22 c23 c24 c67 ex91) (q178 i1 r_x22 c23 c24 c67 ex91))
                      · obtain ⟨a92, ea92, o_a92, -⟩ := sh 22 rfl hI o_v0
                        refine ⟨a92, ea92, ?_⟩
                        refine ⟨o_a92, ?_⟩
                        have i93 : vp_in x27 (hN _ a92) := (vinL hl_a92 (q181 ex27 ex30 c34 c67 c69 c72 c74 c77))
                        refine ⟨i93, ?_⟩
                        have hI := iv_aJ (i := x27.toNatClampNeg) (v := x87) hI o_v0 (by decide) ea92 o_a92 (by decide)
                        obtain ⟨a94, ea94, o_a94, -⟩ := sh 23 rfl hI o_v0
                        refine ⟨a94, ea94, ?_⟩
                        obtain ⟨a95, ea95, o_a95, -⟩ := sh 28 rfl hI o_v0
                        refine ⟨a95, ea95, ?_⟩
                        refine ⟨o_a95, ?_⟩
                        refine ⟨(vinL hl_a95 (q180 i1 r_x22 c23 c24 c67)), ?_⟩
                        intro x96 ex96
                        refine ⟨o_a94, ?_⟩
                        have i97 : vp_in x27 (hN _ a94) := (vinL hl_a94 (q181 ex27 ex30 c34 c67 c69 c72 c74 c77))
                        refine ⟨i97, ?_⟩
                        have hI := iv_aI (i := x27.toNatClampNeg) (v := x96) hI o_v0 (by decide) ea94 o_a94 (by decide)
                        refine u_X7_reckonMinute_219 ?_
                        intro x98 ex98
                        exact ih21 _ _ _ _ ⟨hI, gL14, rfl, rfl, (q176 i1 r_x22 c23 c24 c67 ex98)⟩ (mu_up (q177 i1 r_x22 c23 c24 c67 ex98) (q178 i1 r_x22 c23 c24 c67 ex98))
  · refine ⟨fun c99 => ?_, fun c99 => ?_⟩
    · refine u_X7_reckonMinute_60 ?_
      refine i_X7_reckonMinute_62 (fun (y0 : Nat) (y2 : Int32) (y3 : Int32) (Z : HS) => ((2147483647 : Int32).toInt - y3.toInt).toNat) (fun (y0 : Nat) (y2 : Int32) (y3 : Int32) (Z : HS) => (IV Z) ∧ (Gr S1 Z) ∧ (v0 = y0) ∧ (v2 = y2) ∧ (0 ≤ y3)) ?_ _ _ _ _ ⟨hI, (gr_rf _), rfl, rfl, (q43)⟩
      intro w102 w104 w106 S100 X107 ⟨hI, gL101, q103, q105, i1⟩ ih108
      subst q103
      subst q105
      have o_v0 := gr_ob gL101 o_v0
      have g0 := gr_tr g0 gL101
      have gL2 := gr_tr gL2 gL101
      refine u_X7_reckonMinute_62 ?_
      refine ⟨o_v0, ?_⟩
      intro x109 ex109
      have r_x109 : (0 : Int32) ≤ x109 ∧ x109 ≤ (224 : Int32) := by rw [ex109]; exact nu 9 rfl hI o_v0
      refine ⟨fun c110 => ?_, fun c110 => ?_⟩
      · exact hq _ hI g0
      · refine ⟨fun c111 => ?_, fun c111 => ?_⟩
        · exact hq _ hI g0
        · obtain ⟨a112, ea112, o_a112, -⟩ := sh 24 rfl hI o_v0
          refine ⟨a112, ea112, ?_⟩
          refine ⟨o_a112, ?_⟩
          refine ⟨(vinL hl_a112 (q163 i1 r_x109 c110 c111)), ?_⟩
          intro x113 ex113
          intro x114 ex114
          obtain ⟨a115, ea115, o_a115, -⟩ := sh 25 rfl hI o_v0
          refine ⟨a115, ea115, ?_⟩
          refine ⟨o_a115, ?_⟩
          refine ⟨(vinL hl_a115 (q163 i1 r_x109 c110 c111)), ?_⟩
          intro x116 ex116
          intro x117 ex117
          obtain ⟨a118, ea118, o_a118, -⟩ := sh 26 rfl hI o_v0
          refine ⟨a118, ea118, ?_⟩
          refine ⟨o_a118, ?_⟩
          refine ⟨(vinL hl_a118 (q163 i1 r_x109 c110 c111)), ?_⟩
          intro x119 ex119
          intro x120 ex120
          refine ⟨fun c121 => ?_, fun c121 => ?_⟩
          · refine u_X7_reckonMinute_117 ?_
            refine ⟨fun c122 => ?_, fun c122 => ?_⟩
            · refine u_X7_reckonMinute_219 ?_
              intro x123 ex123
              exact ih108 _ _ _ _ ⟨hI, gL101, rfl, rfl, (q164 i1 r_x109 c110 c111 c122 ex123)⟩ (mu_up (q165 i1 r_x109 c110 c111 c122 ex123) (q166 i1 r_x109 c110 c111 c122 ex123))
            · refine ⟨fun c124 => ?_, fun c124 => ?_⟩
              · refine u_X7_reckonMinute_219 ?_
                intro x125 ex125
                exact ih108 _ _ _ _ ⟨hI, gL101, rfl, rfl, (q167 i1 r_x109 c110 c111 c122 ex125)⟩ (mu_up (q168 i1 r_x109 c110 c111 c122 ex125) (q169 i1 r_x109 c110 c111 c122 ex125))
              · refine ⟨o_v0, ?_⟩
                obtain ⟨a126, ea126, o_a126, -⟩ := sh 22 rfl hI o_v0
                refine ⟨a126, ea126, ?_⟩
                refine ⟨o_a126, ?_⟩
                refine ⟨fun c127 => ?_, fun c127 => ?_⟩
                · refine u_X7_reckonMinute_219 ?_
                  intro x128 ex128
                  exact ih108 _ _ _ _ ⟨hI, gL101, rfl, rfl, (q167 i1 r_x109 c110 c111 c122 ex128)⟩ (mu_up (q168 i1 r_x109 c110 c111 c122 ex128) (q169 i1 r_x109 c110 c111 c122 ex128))
                · refine ⟨fun c129 => ?_, fun c129 => ?_⟩
                  · refine u_X7_reckonMinute_219 ?_
                    intro x130 ex130
                    exact ih108 _ _ _ _ ⟨hI, gL101, rfl, rfl, (q167 i1 r_x109 c110 c111 c122 ex130)⟩ (mu_up (q168 i1 r_x109 c110 c111 c122 ex130) (q169 i1 r_x109 c110 c111 c122 ex130))
                  · obtain ⟨a131, ea131, o_a131, -⟩ := sh 22 rfl hI o_v0
                    refine ⟨a131, ea131, ?_⟩
                    refine ⟨o_a131, ?_⟩
                    refine ⟨fun c132 => ?_, fun c132 => ?_⟩
                    · refine u_X7_reckonMinute_219 ?_
                      intro x133 ex133
                      exact ih108 _ _ _ _ ⟨hI, gL101, rfl, rfl, (q167 i1 r_x109 c110 c111 c122 ex133)⟩ (mu_up (q168 i1 r_x109 c110 c111 c122 ex133) (q169 i1 r_x109 c110 c111 c122 ex133))
                    · obtain ⟨a134, ea134, o_a134, -⟩ := sh 22 rfl hI o_v0
                      refine ⟨a134, ea134, ?_⟩
                      refine ⟨o_a134, ?_⟩
                      refine ⟨(vinL hl_a134 (q170 ex114 ex117 c121 c122 c124 c127 c129 c132)), ?_⟩
                      intro x135 ex135
                      refine ⟨fun c136 => ?_, fun c136 => ?_⟩
                      · refine u_X7_reckonMinute_219 ?_
                        intro x137 ex137
                        exact ih108 _ _ _ _ ⟨hI, gL101, rfl, rfl, (q167 i1 r_x109 c110 c111 c122 ex137)⟩ (mu_up (q168 i1 r_x109 c110 c111 c122 ex137) (q169 i1 r_x109 c110 c111 c122 ex137))
                      · obtain ⟨a138, ea138, o_a138, -⟩ := sh 27 rfl hI o_v0
                        refine ⟨a138, ea138, ?_⟩
                        refine ⟨o_a138, ?_⟩
                        refine ⟨(vinL hl_a138 (q171 i1 r_x109 c110 c111 c122)), ?_⟩
                        intro x139 ex139
                        obtain ⟨a140, ea140, o_a140, -⟩ := sh 22 rfl hI o_v0
                        refine ⟨a140, ea140, ?_⟩
                        refine ⟨o_a140, ?_⟩
                        refine ⟨(vinL hl_a140 (q170 ex114 ex117 c121 c122 c124 c127 c129 c132)), ?_⟩
                        intro x141 ex141
                        intro x142 ex142
                        obtain ⟨a143, ea143, o_a143, -⟩ := sh 22 rfl hI o_v0
                        refine ⟨a143, ea143, ?_⟩
                        refine ⟨o_a143, ?_⟩
                        refine ⟨(vinL hl_a143 (q172 ex114 ex117 c121 c122 c124 c127 c129 c132)), ?_⟩
                        intro x144 ex144
                        refine ⟨fun c145 => ?_, fun c145 => ?_⟩
                        · refine u_X7_reckonMinute_219 ?_
                          intro x146 ex146
                          exact ih108 _ _ _ _ ⟨hI, gL101, rfl, rfl, (q167 i1 r_x109 c110 c111 c122 ex146)⟩ (mu_up (q168 i1 r_x109 c110 c111 c122 ex146) (q169 i1 r_x109 c110 c111 c122 ex146))
                        · obtain ⟨a147, ea147, o_a147, -⟩ := sh 22 rfl hI o_v0
                          refine ⟨a147, ea147, ?_⟩
                          refine ⟨o_a147, ?_⟩
                          have i148 : vp_in x114 (hN _ a147) := (vinL hl_a147 (q172 ex114 ex117 c121 c122 c124 c127 c129 c132))
                          refine ⟨i148, ?_⟩
                          have hI := iv_aJ (i := x114.toNatClampNeg) (v := x142) hI o_v0 (by decide) ea147 o_a147 (by decide)
                          obtain ⟨a149, ea149, o_a149, -⟩ := sh 23 rfl hI o_v0
                          refine ⟨a149, ea149, ?_⟩
                          obtain ⟨a150, ea150, o_a150, -⟩ := sh 28 rfl hI o_v0
                          refine ⟨a150, ea150, ?_⟩
                          refine ⟨o_a150, ?_⟩
                          refine ⟨(vinL hl_a150 (q171 i1 r_x109 c110 c111 c122)), ?_⟩
                          intro x151 ex151
                          refine ⟨o_a149, ?_⟩
                          have i152 : vp_in x114 (hN _ a149) := (vinL hl_a149 (q172 ex114 ex117 c121 c122 c124 c127 c129 c132))
                          refine ⟨i152, ?_⟩
                          have hI := iv_aI (i := x114.toNatClampNeg) (v := x151) hI o_v0 (by decide) ea149 o_a149 (by decide)
                          refine u_X7_reckonMinute_219 ?_
                          intro x153 ex153
                          exact ih108 _ _ _ _ ⟨hI, gL101, rfl, rfl, (q167 i1 r_x109 c110 c111 c122 ex153)⟩ (mu_up (q168 i1 r_x109 c110 c111 c122 ex153) (q169 i1 r_x109 c110 c111 c122 ex153))
          · refine u_X7_reckonMinute_117 ?_
            refine ⟨fun c154 => ?_, fun c154 => ?_⟩
            · refine u_X7_reckonMinute_219 ?_
              intro x155 ex155
              exact ih108 _ _ _ _ ⟨hI, gL101, rfl, rfl, (q173 i1 r_x109 c110 c111 c154 ex155)⟩ (mu_up (q174 i1 r_x109 c110 c111 c154 ex155) (q175 i1 r_x109 c110 c111 c154 ex155))
            · refine ⟨fun c156 => ?_, fun c156 => ?_⟩
              · refine u_X7_reckonMinute_219 ?_
                intro x157 ex157
                exact ih108 _ _ _ _ ⟨hI, gL101, rfl, rfl, (q176 i1 r_x109 c110 c111 c154 ex157)⟩ (mu_up (q177 i1 r_x109 c110 c111 c154 ex157) (q178 i1 r_x109 c110 c111 c154 ex157))
              · refine ⟨o_v0, ?_⟩
                obtain ⟨a158, ea158, o_a158, -⟩ := sh 22 rfl hI o_v0
                refine ⟨a158, ea158, ?_⟩
                refine ⟨o_a158, ?_⟩
                refine ⟨fun c159 => ?_, fun c159 => ?_⟩
                · refine u_X7_reckonMinute_219 ?_
                  intro x160 ex160
                  exact ih108 _ _ _ _ ⟨hI, gL101, rfl, rfl, (q176 i1 r_x109 c110 c111 c154 ex160)⟩ (mu_up (q177 i1 r_x109 c110 c111 c154 ex160) (q178 i1 r_x109 c110 c111 c154 ex160))
                · refine ⟨fun c161 => ?_, fun c161 => ?_⟩
                  · refine u_X7_reckonMinute_219 ?_
                    intro x162 ex162
                    exact ih108 _ _ _ _ ⟨hI, gL101, rfl, rfl, (q176 i1 r_x109 c110 c111 c154 ex162)⟩ (mu_up (q177 i1 r_x109 c110 c111 c154 ex162) (q178 i1 r_x109 c110 c111 c154 ex162))
                  · obtain ⟨a163, ea163, o_a163, -⟩ := sh 22 rfl hI o_v0
                    refine ⟨a163, ea163, ?_⟩
                    refine ⟨o_a163, ?_⟩
                    refine ⟨fun c164 => ?_, fun c164 => ?_⟩
                    · refine u_X7_reckonMinute_219 ?_
                      intro x165 ex165
                      exact ih108 _ _ _ _ ⟨hI, gL101, rfl, rfl, (q176 i1 r_x109 c110 c111 c154 ex165)⟩ (mu_up (q177 i1 r_x109 c110 c111 c154 ex165) (q178 i1 r_x109 c110 c111 c154 ex165))
                    · obtain ⟨a166, ea166, o_a166, -⟩ := sh 22 rfl hI o_v0
                      refine ⟨a166, ea166, ?_⟩
                      refine ⟨o_a166, ?_⟩
                      refine ⟨(vinL hl_a166 (q179 ex114 ex117 c121 c154 c156 c159 c161 c164)), ?_⟩
                      intro x167 ex167
                      refine ⟨fun c168 => ?_, fun c168 => ?_⟩
                      · refine u_X7_reckonMinute_219 ?_
                        intro x169 ex169
                        exact ih108 _ _ _ _ ⟨hI, gL101, rfl, rfl, (q176 i1 r_x109 c110 c111 c154 ex169)⟩ (mu_up (q177 i1 r_x109 c110 c111 c154 ex169) (q178 i1 r_x109 c110 c111 c154 ex169))
                      · obtain ⟨a170, ea170, o_a170, -⟩ := sh 27 rfl hI o_v0
                        refine ⟨a170, ea170, ?_⟩
                        refine ⟨o_a170, ?_⟩
                        refine ⟨(vinL hl_a170 (q180 i1 r_x109 c110 c111 c154)), ?_⟩
                        intro x171 ex171
                        obtain ⟨a172, ea172, o_a172, -⟩ := sh 22 rfl hI o_v0
                        refine ⟨a172, ea172, ?_⟩
                        refine ⟨o_a172, ?_⟩
                        refine ⟨(vinL hl_a172 (q179 ex114 ex117 c121 c154 c156 c159 c161 c164)), ?_⟩
                        intro x173 ex173
                        intro x174 ex174
                        obtain ⟨a175, ea175, o_a175, -⟩ := sh 22 rfl hI o_v0
                        refine ⟨a175, ea175, ?_⟩
                        refine ⟨o_a175, ?_⟩
                        refine ⟨(vinL hl_a175 (q181 ex114 ex117 c121 c154 c156 c159 c161 c164)), ?_⟩
                        intro x176 ex176
                        refine ⟨fun c177 => ?_, fun c177 => ?_⟩
                        · refine u_X7_reckonMinute_219 ?_
                          intro x178 ex178
                          exact ih108 _ _ _ _ ⟨hI, gL101, rfl, rfl, (q176 i1 r_x109 c110 c111 c154 ex178)⟩ (mu_up (q177 i1 r_x109 c110 c111 c154 ex178) (q178 i1 r_x109 c110 c111 c154 ex178))
                        · obtain ⟨a179, ea179, o_a179, -⟩ := sh 22 rfl hI o_v0
                          refine ⟨a179, ea179, ?_⟩
                          refine ⟨o_a179, ?_⟩
                          have i180 : vp_in x114 (hN _ a179) := (vinL hl_a179 (q181 ex114 ex117 c121 c154 c156 c159 c161 c164))
                          refine ⟨i180, ?_⟩
                          have hI := iv_aJ (i := x114.toNatClampNeg) (v := x174) hI o_v0 (by decide) ea179 o_a179 (by decide)
                          obtain ⟨a181, ea181, o_a181, -⟩ := sh 23 rfl hI o_v0
                          refine ⟨a181, ea181, ?_⟩
                          obtain ⟨a182, ea182, o_a182, -⟩ := sh 28 rfl hI o_v0
                          refine ⟨a182, ea182, ?_⟩
                          refine ⟨o_a182, ?_⟩
                          refine ⟨(vinL hl_a182 (q180 i1 r_x109 c110 c111 c154)), ?_⟩
                          intro x183 ex183
                          refine ⟨o_a181, ?_⟩
                          have i184 : vp_in x114 (hN _ a181) := (vinL hl_a181 (q181 ex114 ex117 c121 c154 c156 c159 c161 c164))
                          refine ⟨i184, ?_⟩
                          have hI := iv_aI (i := x114.toNatClampNeg) (v := x183) hI o_v0 (by decide) ea181 o_a181 (by decide)
                          refine u_X7_reckonMinute_219 ?_
                          intro x185 ex185
                          exact ih108 _ _ _ _ ⟨hI, gL101, rfl, rfl, (q176 i1 r_x109 c110 c111 c154 ex185)⟩ (mu_up (q177 i1 r_x109 c110 c111 c154 ex185) (q178 i1 r_x109 c110 c111 c154 ex185))
    · refine ⟨o_v0, ?_⟩
      obtain ⟨a186, ea186, o_a186, -⟩ := sh 22 rfl hI o_v0
      refine ⟨a186, ea186, ?_⟩
      intro x187 ex187
      refine ⟨fun c188 => ?_, fun c188 => ?_⟩
      · refine u_X7_reckonMinute_40 ?_
        refine ⟨o_a186, ?_⟩
        have i189 : vp_in (w9 * (401 : Int32)) + v2 (hN _ a186) := (vinL hl_a186 (q182 i1 c12 c99 c188))
        refine ⟨i189, ?_⟩
        have hI := iv_aJ (i := ((w9 * (401 : Int32)) + v2).toNatClampNeg) (v := (4611686018427387904 : Int64)) hI o_v0 (by decide) ea186 o_a186 (by decide)
        refine ⟨o_v0, ?_⟩
        obtain ⟨a190, ea190, o_a190, -⟩ := sh 23 rfl hI o_v0
        refine ⟨a190, ea190, ?_⟩
        refine ⟨o_a190, ?_⟩
        have i191 : vp_in (w9 * (401 : Int32)) + v2 (hN _ a190) := (vinL hl_a190 (q182 i1 c12 c99 c188))
        refine ⟨i191, ?_⟩
        have hI := iv_aI (i := ((w9 * (401 : Int32)) + v2).toNatClampNeg) (v := (-1 : Int32)) hI o_v0 (by decide) ea190 o_a190 (by decide)
        intro x192 ex192
        exact ih11 _ _ _ _ _ ⟨hI, gL2, rfl, rfl, rfl, (q183 i1 c12 c99 c188 ex192)⟩ (mu_up (q184 i1 c12 c99 c188 ex192) (q185 i1 c12 c99 c188 ex192))
      · refine u_X7_reckonMinute_40 ?_
        refine ⟨o_a186, ?_⟩
        intro x193 ex193
        have i194 : vp_in (w9 * (401 : Int32)) + v2 (hN _ a186) := (vinL hl_a186 (q186 i1 c12 c99 c188 ex193))
        refine ⟨i194, ?_⟩
        have hI := iv_aJ (i := ((w9 * (401 : Int32)) + v2).toNatClampNeg) (v := x193) hI o_v0 (by decide) ea186 o_a186 (by decide)
        refine ⟨o_v0, ?_⟩
        obtain ⟨a195, ea195, o_a195, -⟩ := sh 23 rfl hI o_v0
        refine ⟨a195, ea195, ?_⟩
        refine ⟨o_a195, ?_⟩
        have i196 : vp_in (w9 * (401 : Int32)) + v2 (hN _ a195) := (vinL hl_a195 (q186 i1 c12 c99 c188 ex193))
        refine ⟨i196, ?_⟩
        have hI := iv_aI (i := ((w9 * (401 : Int32)) + v2).toNatClampNeg) (v := (-1 : Int32)) hI o_v0 (by decide) ea195 o_a195 (by decide)
        intro x197 ex197
        exact ih11 _ _ _ _ _ ⟨hI, gL2, rfl, rfl, rfl, (q187 i1 c12 c99 c188 ex197)⟩ (mu_up (q188 i1 c12 c99 c188 ex197) (q189 i1 c12 c99 c188 ex197))
