set_option maxHeartbeats 4000000 in
set_option maxRecDepth 20000 in
theorem m_X5_endOf {v0 : Nat} {v1 : Int32} {Q : Int32 → HS → Prop} {S : HS} (hI : IV S) (o_v0 : ob S v0 5)     (hq : ∀ (r : Int32) (T : HS), IV T → Gr S T → (S = T) → Q r T) : P_X5_endOf v0 v1 Q S := by
  have g0 := gr_rf S
  refine u_X5_endOf ?_
  refine u_X5_endOf_0 ?_
  refine ⟨fun c1 => ?_, fun c1 => ?_⟩
  · refine ⟨o_v0, ?_⟩
    intro x2 ex2
    have d_x2 := ex2
    exact hq _ _ hI g0 rfl
  · refine ⟨o_v0, ?_⟩
    intro x3 ex3
    have d_x3 := ex3
    exact hq _ _ hI g0 rfl
set_option maxHeartbeats 4000000 in
set_option maxRecDepth 20000 in
theorem m_X5_minutesAt {v0 : Nat} {v1 : Int32} {Q : Int32 → HS → Prop} {S : HS} (hI : IV S) (o_v0 : ob S v0 5)     (hq : ∀ (r : Int32) (T : HS), IV T → Gr S T → (S = T) → Q r T) : P_X5_minutesAt v0 v1 Q S := by
  have g0 := gr_rf S
  refine u_X5_minutesAt ?_
  refine u_X5_minutesAt_0 ?_
  refine ⟨fun c1 => ?_, fun c1 => ?_⟩
  · exact hq _ _ hI g0 rfl
  · refine ⟨o_v0, ?_⟩
    intro x2 ex2
    have d_x2 := ex2
    refine ⟨(q64 c1), ?_⟩
    intro x3 ex3
    exact hq _ _ hI g0 rfl
set_option maxHeartbeats 4000000 in
set_option maxRecDepth 20000 in
theorem m_X5_startOf {v0 : Nat} {v1 : Int32} {Q : Int32 → HS → Prop} {S : HS} (hI : IV S) (o_v0 : ob S v0 5)     (hq : ∀ (r : Int32) (T : HS), IV T → Gr S T → (S = T) → Q r T) : P_X5_startOf v0 v1 Q S := by
  have g0 := gr_rf S
  refine u_X5_startOf ?_
  refine u_X5_startOf_0 ?_
  refine ⟨fun c1 => ?_, fun c1 => ?_⟩
  · refine ⟨o_v0, ?_⟩
    intro x2 ex2
    have d_x2 := ex2
    exact hq _ _ hI g0 rfl
  · refine ⟨o_v0, ?_⟩
    intro x3 ex3
    have d_x3 := ex3
    exact hq _ _ hI g0 rfl
set_option maxHeartbeats 4000000 in
set_option maxRecDepth 20000 in
theorem m_X5_tell {v0 : Nat} {v1 : Int32} {Q : Int32 → HS → Prop} {S : HS} (hI : IV S) (o_v0 : ob S v0 5)     (hq : ∀ (r : Int32) (T : HS), IV T → Gr S T → (S = T) → Q r T) : P_X5_tell v0 v1 Q S := by
  have g0 := gr_rf S
  refine u_X5_tell ?_
  refine u_X5_tell_0 ?_
  refine ⟨fun c1 => ?_, fun c1 => ?_, fun c1 => ?_, fun c1 => ?_, fun c1 => ?_⟩
  · refine ⟨o_v0, ?_⟩
    intro x2 ex2
    have d_x2 := ex2
    exact hq _ _ hI g0 rfl
  · refine ⟨o_v0, ?_⟩
    intro x3 ex3
    have d_x3 := ex3
    exact hq _ _ hI g0 rfl
  · refine ⟨o_v0, ?_⟩
    intro x4 ex4
    have d_x4 := ex4
    exact hq _ _ hI g0 rfl
  · refine ⟨o_v0, ?_⟩
    intro x5 ex5
    have d_x5 := ex5
    exact hq _ _ hI g0 rfl
  · refine ⟨o_v0, ?_⟩
    intro x6 ex6
    have d_x6 := ex6
    exact hq _ _ hI g0 rfl
set_option maxHeartbeats 4000000 in
set_option maxRecDepth 20000 in
theorem m_X5_touches {v0 : Nat} {v1 : Int32} {Q : Int32 → HS → Prop} {S : HS} (hI : IV S) (o_v0 : ob S v0 5)     (hq : ∀ (r : Int32) (T : HS), IV T → Gr S T → bl r → (S = T) → Q r T) : P_X5_touches v0 v1 Q S := by
  have g0 := gr_rf S
  refine u_X5_touches ?_
  refine u_X5_touches_0 ?_
  refine ⟨o_v0, ?_⟩
  intro x1 ex1
  have d_x1 := ex1
  refine ⟨fun c2 => ?_, fun c2 => ?_⟩
  · exact hq _ _ hI g0 (Or.inr rfl) rfl
  · intro x3 ex3
    have d_x3 := ex3
    refine ⟨fun c4 => ?_, fun c4 => ?_⟩
    · exact hq _ _ hI g0 (Or.inl rfl) rfl
    · exact hq _ _ hI g0 (Or.inr rfl) rfl
set_option maxHeartbeats 4000000 in
set_option maxRecDepth 20000 in
theorem m_X6_tell {v0 : Nat} {v1 : Int32} {Q : Int32 → HS → Prop} {S : HS} (hI : IV S) (o_v0 : ob S v0 6)     (hq : ∀ (r : Int32) (T : HS), IV T → Gr S T → (S = T) → Q r T) : P_X6_tell v0 v1 Q S := by
  have g0 := gr_rf S
  refine u_X6_tell ?_
  refine u_X6_tell_0 ?_
  refine ⟨fun c1 => ?_, fun c1 => ?_, fun c1 => ?_, fun c1 => ?_, fun c1 => ?_, fun c1 => ?_, fun c1 => ?_⟩
  · refine ⟨o_v0, ?_⟩
    intro x2 ex2
    have r_x2 : (0 : Int32) ≤ x2 ∧ x2 ≤ (9 : Int32) := by rw [ex2]; exact nu 5 rfl hI o_v0
    have d_x2 := ex2
    exact hq _ _ hI g0 rfl
  · refine ⟨o_v0, ?_⟩
    intro x3 ex3
    have d_x3 := ex3
    exact hq _ _ hI g0 rfl
  · refine ⟨o_v0, ?_⟩
    intro x4 ex4
    have d_x4 := ex4
    exact hq _ _ hI g0 rfl
  · refine ⟨o_v0, ?_⟩
    intro x5 ex5
    have d_x5 := ex5
    exact hq _ _ hI g0 rfl
  · refine ⟨o_v0, ?_⟩
    intro x6 ex6
    have d_x6 := ex6
    exact hq _ _ hI g0 rfl
  · refine ⟨o_v0, ?_⟩
    intro x7 ex7
    have d_x7 := ex7
    exact hq _ _ hI g0 rfl
  · refine ⟨o_v0, ?_⟩
    intro x8 ex8
    have r_x8 : (0 : Int32) ≤ x8 ∧ x8 ≤ (9 : Int32) := by rw [ex8]; exact nu 4 rfl hI o_v0
    have d_x8 := ex8
    exact hq _ _ hI g0 rfl
set_option maxHeartbeats 4000000 in
set_option maxRecDepth 20000 in
theorem m_X7_addMove {v0 : Nat} {v1 : Int32} {v2 : Int32} {v3 : Int32} {v4 : Int64} {v6 : Int32} {Q : HS → Prop} {S : HS} (hI : IV S) (o_v0 : ob S v0 7)    (hM : WM S v0) (hq : ∀ (T : HS), IV T → Gr S T → FRI [(7, 3)] [] S T → (WM T v0) → Q T) : P_X7_addMove v0 v1 v2 v3 v4 v6 Q S := by
  have g0 := gr_rf S
  have f0 := fri_rf [(7, 3)] [] S
  refine u_X7_addMove ?_
  refine u_X7_addMove_0 ?_
  refine ⟨o_v0, ?_⟩
  intro x1 ex1
  have d_x1 := ex1
  refine ⟨fun c2 => ?_, fun c2 => ?_⟩
  · exact hq _ hI g0 f0 hM
  · intro x3 ex3
    have r_x3 : (0 : Int32) ≤ x3 ∧ x3 ≤ (224 : Int32) := by rw [ex3]; exact nu 8 rfl hI o_v0
    have d_x3 := ex3
    refine ⟨fun c4 => ?_, fun c4 => ?_⟩
    · exact hq _ hI g0 f0 hM
    · intro x5 ex5
      have r_x5 : (0 : Int32) ≤ x5 ∧ x5 ≤ (224 : Int32) := by rw [ex5]; exact nu 8 rfl hI o_v0
      have q_x5 : x5 = x3 := ex5.trans d_x3.symm
      have d_x5 := ex5
      refine ⟨fun c6 => ?_, fun c6 => ?_⟩
      · obtain ⟨a7, ea7, o_a7, -⟩ := sh 24 rfl hI o_v0
        have l_a7 := wm hM 3 rfl ea7
        refine ⟨a7, ea7, ?_⟩
        intro x8 ex8
        have r_x8 : (0 : Int32) ≤ x8 ∧ x8 ≤ (224 : Int32) := by rw [ex8]; exact nu 8 rfl hI o_v0
        have q_x8 : x8 = x5 := ex8.trans d_x5.symm
        have d_x8 := ex8
        refine ⟨o_a7, ?_⟩
        intro x9 ex9
        have i10 : vp_in x8 (hN _ a7) := (vin l_a7 (m := 224) (by decide) (q1034 c2 r_x3 c4 r_x5 q_x5 c6 r_x8 q_x8 ex9))
        refine ⟨i10, ?_⟩
        intro S11 eS11
        have hI : IV S11 := by rw [eS11]; exact iv_aI hI o_v0 (by decide) ea7 o_a7 (by decide)
        have f0 := fr_A eS11 g0 f0 o_a7 (by decide)
        have d_x1 := rd_Ik eS11 o_a7 o_v0 (by decide) d_x1
        have d_x8 := rd_Ik eS11 o_a7 o_v0 (by decide) d_x8
        have ea7 := rf_I eS11 ea7
        have hM := wm_I eS11 hM
        have l_a7 := ln_I eS11 l_a7
        have g0 := gr_I eS11 g0
        have o_a7 := ob_I eS11 o_a7
        have o_v0 := ob_I eS11 o_v0
        obtain ⟨a12, ea12, o_a12, -⟩ := sh 25 rfl hI o_v0
        have l_a12 := wm hM 4 rfl ea12
        refine ⟨a12, ea12, ?_⟩
        intro x13 ex13
        have r_x13 : (0 : Int32) ≤ x13 ∧ x13 ≤ (224 : Int32) := by rw [ex13]; exact nu 8 rfl hI o_v0
        have q_x13 : x13 = x8 := ex13.trans d_x8.symm
        have d_x13 := ex13
        refine ⟨o_a12, ?_⟩
        intro x14 ex14
        have i15 : vp_in x13 (hN _ a12) := (vin l_a12 (m := 224) (by decide) (q1035 c2 r_x3 c4 r_x5 q_x5 c6 r_x8 q_x8 ex9 r_x13 q_x13))
        refine ⟨i15, ?_⟩
        intro S16 eS16
        have hI : IV S16 := by rw [eS16]; exact iv_aI hI o_v0 (by decide) ea12 o_a12 (by decide)
        have f0 := fr_A eS16 g0 f0 o_a12 (by decide)
        have d_x1 := rd_Ik eS16 o_a12 o_v0 (by decide) d_x1
        have d_x13 := rd_Ik eS16 o_a12 o_v0 (by decide) d_x13
        have ea7 := rf_I eS16 ea7
        have ea12 := rf_I eS16 ea12
        have hM := wm_I eS16 hM
        have l_a12 := ln_I eS16 l_a12
        have l_a7 := ln_I eS16 l_a7
        have g0 := gr_I eS16 g0
        have o_a12 := ob_I eS16 o_a12
        have o_a7 := ob_I eS16 o_a7
        have o_v0 := ob_I eS16 o_v0
        obtain ⟨a17, ea17, o_a17, -⟩ := sh 26 rfl hI o_v0
        have l_a17 := wm hM 5 rfl ea17
        refine ⟨a17, ea17, ?_⟩
        intro x18 ex18
        have r_x18 : (0 : Int32) ≤ x18 ∧ x18 ≤ (224 : Int32) := by rw [ex18]; exact nu 8 rfl hI o_v0
        have q_x18 : x18 = x13 := ex18.trans d_x13.symm
        have d_x18 := ex18
        refine ⟨o_a17, ?_⟩
        have i19 : vp_in x18 (hN _ a17) := (vin l_a17 (m := 224) (by decide) (q1036 c2 r_x3 c4 r_x5 q_x5 c6 r_x8 q_x8 ex9 r_x13 q_x13 r_x18 q_x18))
        refine ⟨i19, ?_⟩
        intro S20 eS20
        have hI : IV S20 := by rw [eS20]; exact iv_aI hI o_v0 (by decide) ea17 o_a17 (by decide)
        have f0 := fr_A eS20 g0 f0 o_a17 (by decide)
        have d_x1 := rd_Ik eS20 o_a17 o_v0 (by decide) d_x1
        have d_x18 := rd_Ik eS20 o_a17 o_v0 (by decide) d_x18
        have ea7 := rf_I eS20 ea7
        have ea12 := rf_I eS20 ea12
        have ea17 := rf_I eS20 ea17
        have hM := wm_I eS20 hM
        have l_a12 := ln_I eS20 l_a12
        have l_a17 := ln_I eS20 l_a17
        have l_a7 := ln_I eS20 l_a7
        have g0 := gr_I eS20 g0
        have o_a12 := ob_I eS20 o_a12
        have o_a17 := ob_I eS20 o_a17
        have o_a7 := ob_I eS20 o_a7
        have o_v0 := ob_I eS20 o_v0
        obtain ⟨a21, ea21, o_a21, -⟩ := sh 27 rfl hI o_v0
        have l_a21 := wm hM 6 rfl ea21
        refine ⟨a21, ea21, ?_⟩
        intro x22 ex22
        have r_x22 : (0 : Int32) ≤ x22 ∧ x22 ≤ (224 : Int32) := by rw [ex22]; exact nu 8 rfl hI o_v0
        have q_x22 : x22 = x18 := ex22.trans d_x18.symm
        have d_x22 := ex22
        refine ⟨o_a21, ?_⟩
        intro x23 ex23
        have i24 : vp_in x22 (hN _ a21) := (vin l_a21 (m := 224) (by decide) (q1037 c2 r_x3 c4 r_x5 q_x5 c6 r_x8 q_x8 ex9 r_x13 q_x13 r_x18 q_x18 r_x22 q_x22))
        refine ⟨i24, ?_⟩
        intro S25 eS25
        have hI : IV S25 := by rw [eS25]; exact iv_aJ hI o_v0 (by decide) ea21 o_a21 (by decide)
        have f0 := fr_J eS25 f0
        have d_x1 := rd_J eS25 d_x1
        have d_x22 := rd_J eS25 d_x22
        have ea7 := rf_J eS25 ea7
        have ea12 := rf_J eS25 ea12
        have ea17 := rf_J eS25 ea17
        have ea21 := rf_J eS25 ea21
        have hM := wm_J eS25 hM
        have l_a12 := ln_J eS25 l_a12
        have l_a17 := ln_J eS25 l_a17
        have l_a21 := ln_J eS25 l_a21
        have l_a7 := ln_J eS25 l_a7
        have g0 := gr_J eS25 g0
        have o_a12 := ob_J eS25 o_a12
        have o_a17 := ob_J eS25 o_a17
        have o_a21 := ob_J eS25 o_a21
        have o_a7 := ob_J eS25 o_a7
        have o_v0 := ob_J eS25 o_v0
        obtain ⟨a26, ea26, o_a26, -⟩ := sh 28 rfl hI o_v0
        have l_a26 := wm hM 7 rfl ea26
        refine ⟨a26, ea26, ?_⟩
        intro x27 ex27
        have r_x27 : (0 : Int32) ≤ x27 ∧ x27 ≤ (224 : Int32) := by rw [ex27]; exact nu 8 rfl hI o_v0
        have q_x27 : x27 = x22 := ex27.trans d_x22.symm
        have d_x27 := ex27
        refine ⟨o_a26, ?_⟩
        have i28 : vp_in x27 (hN _ a26) := (vin l_a26 (m := 224) (by decide) (q1038 c2 r_x3 c4 r_x5 q_x5 c6 r_x8 q_x8 ex9 r_x13 q_x13 r_x18 q_x18 r_x22 q_x22 r_x27 q_x27))
        refine ⟨i28, ?_⟩
        intro S29 eS29
        have hI : IV S29 := by rw [eS29]; exact iv_aI hI o_v0 (by decide) ea26 o_a26 (by decide)
        have f0 := fr_A eS29 g0 f0 o_a26 (by decide)
        have d_x1 := rd_Ik eS29 o_a26 o_v0 (by decide) d_x1
        have d_x27 := rd_Ik eS29 o_a26 o_v0 (by decide) d_x27
        have ea7 := rf_I eS29 ea7
        have ea12 := rf_I eS29 ea12
        have ea17 := rf_I eS29 ea17
        have ea21 := rf_I eS29 ea21
        have ea26 := rf_I eS29 ea26
        have hM := wm_I eS29 hM
        have l_a12 := ln_I eS29 l_a12
        have l_a17 := ln_I eS29 l_a17
        have l_a21 := ln_I eS29 l_a21
        have l_a26 := ln_I eS29 l_a26
        have l_a7 := ln_I eS29 l_a7
        have g0 := gr_I eS29 g0
        have o_a12 := ob_I eS29 o_a12
        have o_a17 := ob_I eS29 o_a17
        have o_a21 := ob_I eS29 o_a21
        have o_a26 := ob_I eS29 o_a26
        have o_a7 := ob_I eS29 o_a7
        have o_v0 := ob_I eS29 o_v0
        intro x30 ex30
        have r_x30 : (0 : Int32) ≤ x30 ∧ x30 ≤ (224 : Int32) := by rw [ex30]; exact nu 8 rfl hI o_v0
        have q_x30 : x30 = x27 := ex30.trans d_x27.symm
        have d_x30 := ex30
        intro x31 ex31
        intro S32 eS32
        have hI : IV S32 := by rw [eS32]; exact iv_sI hI o_v0 (by decide) (nu_one (lo := (0 : Int32)) (hi := (224 : Int32)) (by decide) (q1039 c2 r_x3 c4 r_x5 q_x5 c6 r_x8 q_x8 ex9 r_x13 q_x13 r_x18 q_x18 r_x22 q_x22 r_x27 q_x27 r_x30 q_x30 ex31))
        have f0 := fr_I eS32 g0 f0 o_v0 (by decide)
        have d_x1 := rd_Ij eS32 (by decide) d_x1
        have d_x31 := rd_Is eS32 (rfl : x31 = x31)
        have ea7 := rf_I eS32 ea7
        have ea12 := rf_I eS32 ea12
        have ea17 := rf_I eS32 ea17
        have ea21 := rf_I eS32 ea21
        have ea26 := rf_I eS32 ea26
        have hM := wm_I eS32 hM
        have l_a12 := ln_I eS32 l_a12
        have l_a17 := ln_I eS32 l_a17
        have l_a21 := ln_I eS32 l_a21
        have l_a26 := ln_I eS32 l_a26
        have l_a7 := ln_I eS32 l_a7
        have g0 := gr_I eS32 g0
        have o_a12 := ob_I eS32 o_a12
        have o_a17 := ob_I eS32 o_a17
        have o_a21 := ob_I eS32 o_a21
        have o_a26 := ob_I eS32 o_a26
        have o_a7 := ob_I eS32 o_a7
        have o_v0 := ob_I eS32 o_v0
        exact hq _ hI g0 f0 hM
      · exact hq _ hI g0 f0 hM
set_option maxHeartbeats 4000000 in
set_option maxRecDepth 20000 in
theorem m_X7_addLeg {v0 : Nat} {v1 : Nat} {v2 : Int32} {v3 : Int32} {v4 : Int64} {v6 : Int32} {Q : HS → Prop} {S : HS} (hI : IV S) (o_v0 : ob S v0 7) (o_v1 : ob S v1 5)    (hM : WM S v0) (hq : ∀ (T : HS), IV T → Gr S T → FRI [(7, 3)] [] S T → (WM T v0) → Q T) : P_X7_addLeg v0 v1 v2 v3 v4 v6 Q S := by
  have g0 := gr_rf S
  have f0 := fri_rf [(7, 3)] [] S
  refine u_X7_addLeg ?_
  refine u_X7_addLeg_0 ?_
  refine ⟨o_v1, ?_⟩
  refine m_X5_minutesAt hI o_v1 (fun x1 S2 hI2 g3 p_x1 => ?_)
  subst p_x1
  intro _
  refine ⟨o_v0, ?_⟩
  intro x5 ex5
  have r_x5 : (0 : Int32) ≤ x5 ∧ x5 ≤ (224 : Int32) := by rw [ex5]; exact nu 8 rfl hI o_v0
  have d_x5 := ex5
  intro x6 ex6
  refine ⟨fun c7 => ?_, fun c7 => ?_⟩
  · refine u_X7_addLeg_82 ?_
    refine ⟨o_v1, ?_⟩
    refine m_X5_startOf hI o_v1 (fun x8 S9 hI2 g10 p_x8 => ?_)
    subst p_x8
    intro _
    refine m_X5_endOf hI o_v1 (fun x12 S13 hI2 g14 p_x12 => ?_)
    subst p_x12
    intro _
    refine ⟨o_v0, ?_⟩
    refine m_X7_addMove hI o_v0 hM (fun S17 hJ g18 fc19 p_S17 => ?_)
    have hM := p_S17
    have hI := hJ
    have f0 := fri_tr (S := S) g0 f0 fc19 (by decide) (by decide)
    have o_v0 := gr_ob g18 o_v0
    have o_v1 := gr_ob g18 o_v1
    have g0 := gr_tr (T := S) g0 g18
    intro _
    exact hq _ hI g0 f0 hM
  · refine ⟨fun c20 => ?_, fun c20 => ?_⟩
    · refine u_X7_addLeg_82 ?_
      refine ⟨o_v1, ?_⟩
      refine m_X5_startOf hI o_v1 (fun x21 S22 hI2 g23 p_x21 => ?_)
      subst p_x21
      intro _
      refine m_X5_endOf hI o_v1 (fun x25 S26 hI2 g27 p_x25 => ?_)
      subst p_x25
      intro _
      refine ⟨o_v0, ?_⟩
      refine m_X7_addMove hI o_v0 hM (fun S30 hJ g31 fc32 p_S30 => ?_)
      have hM := p_S30
      have hI := hJ
      have f0 := fri_tr (S := S) g0 f0 fc32 (by decide) (by decide)
      have o_v0 := gr_ob g31 o_v0
      have o_v1 := gr_ob g31 o_v1
      have g0 := gr_tr (T := S) g0 g31
      intro _
      exact hq _ hI g0 f0 hM
    · obtain ⟨a33, ea33, o_a33, -⟩ := sh 28 rfl hI o_v0
      have l_a33 := wm hM 7 rfl ea33
      refine ⟨a33, ea33, ?_⟩
      refine ⟨o_a33, ?_⟩
      refine ⟨(vin l_a33 (m := 224) (by decide) (q1040 r_x5 ex6 c7 c20)), ?_⟩
      intro x34 ex34
      intro x35 ex35
      intro x36 ex36
      refine ⟨fun c37 => ?_, fun c37 => ?_⟩
      · refine u_X7_addLeg_82 ?_
        refine ⟨o_v1, ?_⟩
        refine m_X5_startOf hI o_v1 (fun x38 S39 hI2 g40 p_x38 => ?_)
        subst p_x38
        intro _
        refine m_X5_endOf hI o_v1 (fun x42 S43 hI2 g44 p_x42 => ?_)
        subst p_x42
        intro _
        refine ⟨o_v0, ?_⟩
        refine m_X7_addMove hI o_v0 hM (fun S47 hJ g48 fc49 p_S47 => ?_)
        have hM := p_S47
        have hI := hJ
        have l_a33 := (gr_len g48 o_a33).trans l_a33
        have ea33 := (frr_at fc49 (by decide) (by decide) o_v0).trans ea33
        have f0 := fri_tr (S := S) g0 f0 fc49 (by decide) (by decide)
        have o_a33 := gr_ob g48 o_a33
        have o_v0 := gr_ob g48 o_v0
        have o_v1 := gr_ob g48 o_v1
        have g0 := gr_tr (T := S) g0 g48
        intro _
        exact hq _ hI g0 f0 hM
      · obtain ⟨a50, ea50, o_a50, -⟩ := sh 26 rfl hI o_v0
        have l_a50 := wm hM 5 rfl ea50
        refine ⟨a50, ea50, ?_⟩
        refine ⟨o_a50, ?_⟩
        refine ⟨(vin l_a50 (m := 224) (by decide) (q1041 r_x5 ex6 c7 c20 ex35 ex36 c37)), ?_⟩
        intro x51 ex51
        refine ⟨fun c52 => ?_, fun c52 => ?_⟩
        · refine u_X7_addLeg_82 ?_
          refine ⟨o_v1, ?_⟩
          refine m_X5_startOf hI o_v1 (fun x53 S54 hI2 g55 p_x53 => ?_)
          subst p_x53
          intro _
          refine m_X5_endOf hI o_v1 (fun x57 S58 hI2 g59 p_x57 => ?_)
          subst p_x57
          intro _
          refine ⟨o_v0, ?_⟩
          refine m_X7_addMove hI o_v0 hM (fun S62 hJ g63 fc64 p_S62 => ?_)
          have hM := p_S62
          have hI := hJ
          have l_a33 := (gr_len g63 o_a33).trans l_a33
          have l_a50 := (gr_len g63 o_a50).trans l_a50
          have ea33 := (frr_at fc64 (by decide) (by decide) o_v0).trans ea33
          have ea50 := (frr_at fc64 (by decide) (by decide) o_v0).trans ea50
          have f0 := fri_tr (S := S) g0 f0 fc64 (by decide) (by decide)
          have o_a33 := gr_ob g63 o_a33
          have o_a50 := gr_ob g63 o_a50
          have o_v0 := gr_ob g63 o_v0
          have o_v1 := gr_ob g63 o_v1
          have g0 := gr_tr (T := S) g0 g63
          intro _
          exact hq _ hI g0 f0 hM
        · obtain ⟨a65, ea65, o_a65, -⟩ := sh 27 rfl hI o_v0
          have l_a65 := wm hM 6 rfl ea65
          refine ⟨a65, ea65, ?_⟩
          refine ⟨o_a65, ?_⟩
          refine ⟨(vin l_a65 (m := 224) (by decide) (q1042 r_x5 ex6 c7 c20 ex35 ex36 c37 c52)), ?_⟩
          intro x66 ex66
          refine ⟨fun c67 => ?_, fun c67 => ?_⟩
          · intro S68 eS68
            have hI : IV S68 := by rw [eS68]; exact iv_sI hI o_v0 (by decide) (nu_one (lo := (0 : Int32)) (hi := (224 : Int32)) (by decide) (q1043 r_x5 ex6 c7 c20 ex35 ex36 c37 c52 c67))
            have f0 := fr_I eS68 g0 f0 o_v0 (by decide)
            have d_x6 := rd_Is eS68 (rfl : x6 = x6)
            have ea33 := rf_I eS68 ea33
            have ea50 := rf_I eS68 ea50
            have ea65 := rf_I eS68 ea65
            have hM := wm_I eS68 hM
            have l_a33 := ln_I eS68 l_a33
            have l_a50 := ln_I eS68 l_a50
            have l_a65 := ln_I eS68 l_a65
            have g0 := gr_I eS68 g0
            have o_a33 := ob_I eS68 o_a33
            have o_a50 := ob_I eS68 o_a50
            have o_a65 := ob_I eS68 o_a65
            have o_v0 := ob_I eS68 o_v0
            have o_v1 := ob_I eS68 o_v1
            refine u_X7_addLeg_82 ?_
            refine ⟨o_v1, ?_⟩
            refine m_X5_startOf hI o_v1 (fun x69 S70 hI2 g71 p_x69 => ?_)
            subst p_x69
            intro _
            refine m_X5_endOf hI o_v1 (fun x73 S74 hI2 g75 p_x73 => ?_)
            subst p_x73
            intro _
            refine ⟨o_v0, ?_⟩
            refine m_X7_addMove hI o_v0 hM (fun S78 hJ g79 fc80 p_S78 => ?_)
            have hM := p_S78
            have hI := hJ
            have l_a33 := (gr_len g79 o_a33).trans l_a33
            have l_a50 := (gr_len g79 o_a50).trans l_a50
            have l_a65 := (gr_len g79 o_a65).trans l_a65
            have ea33 := (frr_at fc80 (by decide) (by decide) o_v0).trans ea33
            have ea50 := (frr_at fc80 (by decide) (by decide) o_v0).trans ea50
            have ea65 := (frr_at fc80 (by decide) (by decide) o_v0).trans ea65
            have f0 := fri_tr (S := S68) g0 f0 fc80 (by decide) (by decide)
            have o_a33 := gr_ob g79 o_a33
            have o_a50 := gr_ob g79 o_a50
            have o_a65 := gr_ob g79 o_a65
            have o_v0 := gr_ob g79 o_v0
            have o_v1 := gr_ob g79 o_v1
            have g0 := gr_tr (T := S68) g0 g79
            intro _
            exact hq _ hI g0 f0 hM
          · exact hq _ hI g0 f0 hM
set_option maxHeartbeats 4000000 in
set_option maxRecDepth 20000 in
theorem m_X7_keyOf {v0 : Nat} {v1 : Int32} {v2 : Int32} {Q : Int64 → HS → Prop} {S : HS} (hI : IV S) (o_v0 : ob S v0 7)     (hq : ∀ (r : Int64) (T : HS), IV T → Gr S T → (S = T) → Q r T) : P_X7_keyOf v0 v1 v2 Q S := by
  have g0 := gr_rf S
  refine u_X7_keyOf ?_
  refine u_X7_keyOf_0 ?_
  intro x1 ex1
  refine ⟨fun c2 => ?_, fun c2 => ?_⟩
  · exact hq _ _ hI g0 rfl
  · refine ⟨o_v0, ?_⟩
    obtain ⟨a3, ea3, o_a3, -⟩ := sh 22 rfl hI o_v0
    have hl_a3 := wyl hI o_v0 1 rfl (by decide) ea3
    refine ⟨a3, ea3, ?_⟩
    refine ⟨o_a3, ?_⟩
    refine ⟨fun c4 => ?_, fun c4 => ?_⟩
    · exact hq _ _ hI g0 rfl
    · refine ⟨a3, ea3, ?_⟩
      refine ⟨o_a3, ?_⟩
      refine ⟨(vinL hl_a3 (q1033 ex1 c2 c4)), ?_⟩
      intro x6 ex6
      exact hq _ _ hI g0 rfl
set_option maxHeartbeats 4000000 in
set_option maxRecDepth 20000 in
theorem m_X7_endFrom {v0 : Nat} {v1 : Int32} {v2 : Int32} {Q : Int32 → HS → Prop} {S : HS} (hI : IV S) (o_v0 : ob S v0 7)     (hq : ∀ (r : Int32) (T : HS), IV T → Gr S T → (S = T) → Q r T) : P_X7_endFrom v0 v1 v2 Q S := by
  have g0 := gr_rf S
  refine u_X7_endFrom ?_
  refine u_X7_endFrom_0 ?_
  refine ⟨o_v0, ?_⟩
  refine m_X7_keyOf hI o_v0 (fun x1 S2 hI2 g3 p_x1 => ?_)
  subst p_x1
  intro _
  intro x5 ex5
  exact hq _ _ hI g0 rfl
set_option maxHeartbeats 4000000 in
set_option maxRecDepth 20000 in
theorem m_X7_forget {v0 : Nat} {Q : HS → Prop} {S : HS} (hI : IV S) (o_v0 : ob S v0 7)     (hq : ∀ (T : HS), IV T → Gr S T → FRI [(7, 10)] [] S T → Q T) : P_X7_forget v0 Q S := by
  have g0 := gr_rf S
  have f0 := fri_rf [(7, 10)] [] S
  refine u_X7_forget ?_
  refine u_X7_forget_0 ?_
  refine ⟨o_v0, ?_⟩
  intro S1 eS1
  have hI : IV S1 := by rw [eS1]; exact iv_sI hI o_v0 (by decide) (nu_free (by decide))
  have f0 := fr_I eS1 g0 f0 o_v0 (by decide)
  obtain ⟨y2, hy2⟩ : ∃ z : Int32, z = (-1 : Int32) := ⟨_, rfl⟩
  have d_y2 := rd_Is eS1 hy2
  have g0 := gr_I eS1 g0
  have o_v0 := ob_I eS1 o_v0
  exact hq _ hI g0 f0
set_option maxHeartbeats 4000000 in
set_option maxRecDepth 20000 in
theorem m_X7_isOpen {v0 : Nat} {v1 : Int32} {v2 : Int32} {Q : Int32 → HS → Prop} {S : HS} (hI : IV S) (o_v0 : ob S v0 7)     (hq : ∀ (r : Int32) (T : HS), IV T → Gr S T → bl r → (S = T) → Q r T) : P_X7_isOpen v0 v1 v2 Q S := by
  have g0 := gr_rf S
  refine u_X7_isOpen ?_
  refine u_X7_isOpen_0 ?_
  refine ⟨o_v0, ?_⟩
  refine m_X7_keyOf hI o_v0 (fun x1 S2 hI2 g3 p_x1 => ?_)
  subst p_x1
  intro _
  refine ⟨fun c5 => ?_, fun c5 => ?_⟩
  · exact hq _ _ hI g0 (Or.inl rfl) rfl
  · exact hq _ _ hI g0 (Or.inr rfl) rfl
set_option maxHeartbeats 4000000 in
set_option maxRecDepth 20000 in
theorem m_X7_meanFrom {v0 : Nat} {v1 : Int32} {v2 : Int32} {Q : Int64 → HS → Prop} {S : HS} (hI : IV S) (o_v0 : ob S v0 7)     (hq : ∀ (r : Int64) (T : HS), IV T → Gr S T → (S = T) → Q r T) : P_X7_meanFrom v0 v1 v2 Q S := by
  have g0 := gr_rf S
  refine u_X7_meanFrom ?_
  refine u_X7_meanFrom_0 ?_
  refine ⟨o_v0, ?_⟩
  refine m_X7_keyOf hI o_v0 (fun x1 S2 hI2 g3 p_x1 => ?_)
  subst p_x1
  intro _
  intro x5 ex5
  exact hq _ _ hI g0 rfl
set_option maxHeartbeats 4000000 in
set_option maxRecDepth 20000 in
theorem m_X8_hasPlace {v0 : Nat} {v1 : Int32} {Q : Int32 → HS → Prop} {S : HS} (hI : IV S) (o_v0 : ob S v0 8)     (hq : ∀ (r : Int32) (T : HS), IV T → Gr S T → bl r → (S = T) ∧ (r = 1 → 0 ≤ v1 ∧ v1 < 8) → Q r T) : P_X8_hasPlace v0 v1 Q S := by
  have g0 := gr_rf S
  refine u_X8_hasPlace ?_
  refine u_X8_hasPlace_0 ?_
  refine ⟨fun c1 => ?_, fun c1 => ?_⟩
  · exact hq _ _ hI g0 (Or.inl rfl) ⟨rfl, (q750 c1)⟩
  · refine ⟨o_v0, ?_⟩
    intro x2 ex2
    have r_x2 : (0 : Int32) ≤ x2 ∧ x2 ≤ (8 : Int32) := by rw [ex2]; exact nu 12 rfl hI o_v0
    have d_x2 := ex2
    refine ⟨fun c3 => ?_, fun c3 => ?_⟩
    · exact hq _ _ hI g0 (Or.inl rfl) ⟨rfl, (q751 c1 r_x2 c3)⟩
    · obtain ⟨a4, ea4, o_a4, l_a4⟩ := shl 16 rfl hI o_v0
      refine ⟨a4, ea4, ?_⟩
      refine ⟨o_a4, ?_⟩
      have n_a4 : nI (hN S a4) = 8 := by rw [show hN S a4 = 8 from l_a4]; decide
      refine ⟨fun c5 => ?_, fun c5 => ?_⟩
      · rw [n_a4] at c5
        exact hq _ _ hI g0 (Or.inl rfl) ⟨rfl, (q752 c1 r_x2 c3 c5)⟩
      · rw [n_a4] at c5
        exact hq _ _ hI g0 (Or.inr rfl) ⟨rfl, (q753 c1 r_x2 c3 c5)⟩
set_option maxHeartbeats 4000000 in
set_option maxRecDepth 20000 in
theorem m_X8_canWait {v0 : Nat} {v1 : Int32} {Q : Int32 → HS → Prop} {S : HS} (hI : IV S) (o_v0 : ob S v0 8)     (hq : ∀ (r : Int32) (T : HS), IV T → Gr S T → bl r → (S = T) ∧ (r = 1 → 0 ≤ v1 ∧ v1 < 8) → Q r T) : P_X8_canWait v0 v1 Q S := by
  have g0 := gr_rf S
  refine u_X8_canWait ?_
  refine u_X8_canWait_0 ?_
  refine ⟨o_v0, ?_⟩
  refine m_X8_hasPlace hI o_v0 (fun x1 S2 hI2 g3 b_x1 p_x1 => ?_)
  obtain ⟨z_S2, p_x1⟩ := p_x1
  subst z_S2
  intro _ _
  have bb_x1 : x1 = 0 ∨ x1 = 1 := b_x1
  refine ⟨fun c5 => ?_, fun c5 => ?_⟩
  · exact hq _ _ hI g0 (Or.inl rfl) ⟨rfl, (q1030 p_x1 bb_x1 c5)⟩
  · obtain ⟨a6, ea6, o_a6, l_a6⟩ := shl 16 rfl hI o_v0
    refine ⟨a6, ea6, ?_⟩
    refine ⟨o_a6, ?_⟩
    refine ⟨(vin l_a6 (m := 8) (by decide) (q1029 p_x1 bb_x1 c5)), ?_⟩
    intro x7 ex7
    refine ⟨fun c8 => ?_, fun c8 => ?_⟩
    · exact hq _ _ hI g0 (Or.inl rfl) ⟨rfl, (q1031 p_x1 bb_x1 c5 c8)⟩
    · exact hq _ _ hI g0 (Or.inr rfl) ⟨rfl, (q1032 p_x1 bb_x1 c5 c8)⟩
set_option maxHeartbeats 4000000 in
set_option maxRecDepth 20000 in
theorem m_X8_dripOn {v0 : Nat} {v1 : Nat} {v2 : Int32} {Q : Int32 → HS → Prop} {S : HS} (hI : IV S) (o_v0 : ob S v0 8) (o_v1 : ob S v1 6)     (hq : ∀ (r : Int32) (T : HS), IV T → Gr S T → (S = T) → Q r T) : P_X8_dripOn v0 v1 v2 Q S := by
  have g0 := gr_rf S
  refine u_X8_dripOn ?_
  refine u_X8_dripOn_0 ?_
  refine ⟨o_v0, ?_⟩
  refine m_X8_canWait hI o_v0 (fun x1 S2 hI2 g3 b_x1 p_x1 => ?_)
  obtain ⟨z_S2, p_x1⟩ := p_x1
  subst z_S2
  intro _ _
  have bb_x1 : x1 = 0 ∨ x1 = 1 := b_x1
  refine ⟨fun c5 => ?_, fun c5 => ?_⟩
  · exact hq _ _ hI g0 rfl
  · obtain ⟨a6, ea6, o_a6, l_a6⟩ := shl 16 rfl hI o_v0
    refine ⟨a6, ea6, ?_⟩
    refine ⟨o_a6, ?_⟩
    refine ⟨(vin l_a6 (m := 8) (by decide) (q1029 p_x1 bb_x1 c5)), ?_⟩
    intro x7 ex7
    refine ⟨o_v1, ?_⟩
    intro x8 ex8
    have d_x8 := ex8
    refine m_X6_shield hI o_v1 (fun x9 S10 hI2 g11 p_x9 => ?_)
    subst p_x9
    intro _
    intro x13 ex13
    exact hq _ _ hI g0 rfl
set_option maxHeartbeats 4000000 in
set_option maxRecDepth 20000 in
theorem m_X8_hasHour {v0 : Nat} {v1 : Int32} {Q : Int32 → HS → Prop} {S : HS} (hI : IV S) (o_v0 : ob S v0 8)     (hq : ∀ (r : Int32) (T : HS), IV T → Gr S T → bl r → (S = T) ∧ (r = 1 → 0 ≤ v1 ∧ v1 < 6) → Q r T) : P_X8_hasHour v0 v1 Q S := by
  have g0 := gr_rf S
  refine u_X8_hasHour ?_
  refine u_X8_hasHour_0 ?_
  refine ⟨fun c1 => ?_, fun c1 => ?_⟩
  · exact hq _ _ hI g0 (Or.inl rfl) ⟨rfl, (q27 c1)⟩
  · refine ⟨o_v0, ?_⟩
    intro x2 ex2
    have r_x2 : (0 : Int32) ≤ x2 ∧ x2 ≤ (6 : Int32) := by rw [ex2]; exact nu 11 rfl hI o_v0
    have d_x2 := ex2
    refine ⟨fun c3 => ?_, fun c3 => ?_⟩
    · exact hq _ _ hI g0 (Or.inl rfl) ⟨rfl, (q28 c1 r_x2 c3)⟩
    · obtain ⟨a4, ea4, o_a4, l_a4⟩ := shl 15 rfl hI o_v0
      refine ⟨a4, ea4, ?_⟩
      refine ⟨o_a4, ?_⟩
      have n_a4 : nI (hN S a4) = 6 := by rw [show hN S a4 = 6 from l_a4]; decide
      refine ⟨fun c5 => ?_, fun c5 => ?_⟩
      · rw [n_a4] at c5
        exact hq _ _ hI g0 (Or.inl rfl) ⟨rfl, (q29 c1 r_x2 c3 c5)⟩
      · rw [n_a4] at c5
        exact hq _ _ hI g0 (Or.inr rfl) ⟨rfl, (q30 c1 r_x2 c3 c5)⟩
set_option maxHeartbeats 4000000 in
set_option maxRecDepth 20000 in
theorem m_X7_price {v0 : Nat} {v1 : Nat} {v2 : Nat} {v3 : Int32} {Q : HS → Prop} {S : HS} (hI : IV S) (o_v0 : ob S v0 7) (o_v1 : ob S v1 8) (o_v2 : ob S v2 1)    (hM : WM S v0) (hq : ∀ (T : HS), IV T → Gr S T → FRI [(7, 3), (7, 9)] [] S T → (WM T v0) → Q T) : P_X7_price v0 v1 v2 v3 Q S := by
  have g0 := gr_rf S
  have f0 := fri_rf [(7, 3), (7, 9)] [] S
  refine u_X7_price ?_
  refine u_X7_price_0 ?_
  refine ⟨o_v0, ?_⟩
  intro S1 eS1
  have hI : IV S1 := by rw [eS1]; exact iv_sI hI o_v0 (by decide) (nu_free (by decide))
  have f0 := fr_I eS1 g0 f0 o_v0 (by decide)
  have d_v3 := rd_Is eS1 (rfl : v3 = v3)
  have hM := wm_I eS1 hM
  have g0 := gr_I eS1 g0
  have o_v0 := ob_I eS1 o_v0
  have o_v1 := ob_I eS1 o_v1
  have o_v2 := ob_I eS1 o_v2
  intro S2 eS2
  have hI : IV S2 := by rw [eS2]; exact iv_sI hI o_v0 (by decide) (nu_one (lo := (0 : Int32)) (hi := (224 : Int32)) (by decide) (q981))
  have f0 := fr_I eS2 g0 f0 o_v0 (by decide)
  have d_v3 := rd_Ij eS2 (by decide) d_v3
  obtain ⟨y3, hy3⟩ : ∃ z : Int32, z = (0 : Int32) := ⟨_, rfl⟩
  have d_y3 := rd_Is eS2 hy3
  have hM := wm_I eS2 hM
  have g0 := gr_I eS2 g0
  have o_v0 := ob_I eS2 o_v0
  have o_v1 := ob_I eS2 o_v1
  have o_v2 := ob_I eS2 o_v2
  intro x4 ex4
  have d_x4 := ex4
  refine ⟨o_v1, ?_⟩
  refine m_X8_hasWalker hI o_v1 (fun x5 S6 hI2 g7 b_x5 p_x5 => ?_)
  obtain ⟨z_S6, p_x5⟩ := p_x5
  subst z_S6
  intro _ _
  have bb_x5 : x5 = 0 ∨ x5 = 1 := b_x5
  refine ⟨fun c9 => ?_, fun c9 => ?_⟩
  · obtain ⟨a10, ea10, o_a10, l_a10⟩ := shl 18 rfl hI o_v1
    refine ⟨a10, ea10, ?_⟩
    intro x11 ex11
    have q_x11 : x11 = x4 := ex11.trans d_x4.symm
    have d_x11 := ex11
    refine ⟨o_a10, ?_⟩
    have i13 : vp_in x11 (hN _ a10) := (vin l_a10 (m := 4) (by decide) (q982 p_x5 bb_x5 c9 q_x11))
    obtain ⟨a12, ea12, o_a12⟩ := ae hI o_a10 (by decide) (by decide) i13
    replace o_a12 : ob _ a12 6 := o_a12
    refine ⟨i13, a12, ea12, ?_⟩
    refine m_X8_hasHour hI o_v1 (fun x14 S15 hI2 g16 b_x14 p_x14 => ?_)
    obtain ⟨z_S15, p_x14⟩ := p_x14
    subst z_S15
    intro _ _
    have bb_x14 : x14 = 0 ∨ x14 = 1 := b_x14
    refine ⟨fun c18 => ?_, fun c18 => ?_⟩
    · refine u_X7_price_46 ?_
      refine i_X7_price_51 (fun (y0 : Nat) (y1 : Nat) (y2 : Nat) (y3 : Int32) (y4 : Nat) (y5 : Int32) (y6 : Int32) (Z : HS) => ((2147483647 : Int32).toInt - y6.toInt).toNat) (fun (y0 : Nat) (y1 : Nat) (y2 : Nat) (y3 : Int32) (y4 : Nat) (y5 : Int32) (y6 : Int32) (Z : HS) => (IV Z) ∧ (Gr S2 Z) ∧ (FRI [(7, 3)] [] S2 Z) ∧ (v0 = y0) ∧ (v1 = y1) ∧ (v2 = y2) ∧ (v3 = y3) ∧ (a12 = y4) ∧ ((0 : Int32) = y5) ∧ (WM Z v0) ∧ (0 ≤ y6)) ?_ _ _ _ _ _ _ _ _ ⟨hI, (gr_rf _), (fri_rf _ _ _), rfl, rfl, rfl, rfl, rfl, rfl, hM, (q983 p_x5 bb_x5 c9 q_x11 p_x14 bb_x14 c18)⟩
      intro w23 w25 w27 w29 w31 w33 w35 S20 X36 ⟨hI, gL21, fL22, q24, q26, q28, q30, q32, q34, hM, i1u19⟩ ih37
      subst q24
      subst q26
      subst q28
      subst q30
      subst q32
      subst q34
      have l_a10 := (gr_len gL21 o_a10).trans l_a10
      have d_v3 := d_v3.trans (fri_at fL22 (by decide) (by decide) o_v0).symm
      have d_x11 := d_x11.trans (fri_at fL22 (by decide) (by decide) o_v0).symm
      have ea10 := (frr_at fL22 (by decide) (by decide) o_v1).trans ea10
      have f0 := fri_tr (S := S2) g0 f0 fL22 (by decide) (by decide)
      have o_a10 := gr_ob gL21 o_a10
      have o_a12 := gr_ob gL21 o_a12
      have o_v0 := gr_ob gL21 o_v0
      have o_v1 := gr_ob gL21 o_v1
      have o_v2 := gr_ob gL21 o_v2
      have g0 := gr_tr (T := S2) g0 gL21
      refine u_X7_price_51 ?_
      refine ⟨o_v1, ?_⟩
      intro x38 ex38
      have r_x38 : (0 : Int32) ≤ x38 ∧ x38 ≤ (12 : Int32) := by rw [ex38]; exact nu 13 rfl hI o_v1
      have d_x38 := ex38
      refine ⟨fun c39 => ?_, fun c39 => ?_⟩
      · refine i_X7_price_179 (fun (y0 : Nat) (y1 : Nat) (y3 : Int32) (y4 : Nat) (y5 : Int32) (y6 : Int32) (Z : HS) => ((2147483647 : Int32).toInt - y6.toInt).toNat) (fun (y0 : Nat) (y1 : Nat) (y3 : Int32) (y4 : Nat) (y5 : Int32) (y6 : Int32) (Z : HS) => (IV Z) ∧ (Gr S20 Z) ∧ (FRI [(7, 3)] [] S20 Z) ∧ (v0 = y0) ∧ (v1 = y1) ∧ (v3 = y3) ∧ (a12 = y4) ∧ ((0 : Int32) = y5) ∧ (WM Z v0) ∧ (0 ≤ y6)) ?_ _ _ _ _ _ _ _ ⟨hI, (gr_rf _), (fri_rf _ _ _), rfl, rfl, rfl, rfl, rfl, hM, (q984 p_x5 bb_x5 c9 q_x11 p_x14 bb_x14 c18 i1u19 r_x38 c39)⟩
        intro w44 w46 w48 w50 w52 w54 S41 X55 ⟨hI, gL42, fL43, q45, q47, q49, q51, q53, hM, i1u40⟩ ih56
        subst q45
        subst q47
        subst q49
        subst q51
        subst q53
        have l_a10 := (gr_len gL42 o_a10).trans l_a10
        have d_v3 := d_v3.trans (fri_at fL43 (by decide) (by decide) o_v0).symm
        have d_x11 := d_x11.trans (fri_at fL43 (by decide) (by decide) o_v0).symm
        have d_x38 := d_x38.trans (fri_at fL43 (by decide) (by decide) o_v1).symm
        have ea10 := (frr_at fL43 (by decide) (by decide) o_v1).trans ea10
        have f0 := fri_tr (S := S20) g0 f0 fL43 (by decide) (by decide)
        have o_a10 := gr_ob gL42 o_a10
        have o_a12 := gr_ob gL42 o_a12
        have o_v0 := gr_ob gL42 o_v0
        have o_v1 := gr_ob gL42 o_v1
        have o_v2 := gr_ob gL42 o_v2
        have g0 := gr_tr (T := S20) g0 gL42
        refine u_X7_price_179 ?_
        refine ⟨o_v1, ?_⟩
        intro x57 ex57
        have r_x57 : (0 : Int32) ≤ x57 ∧ x57 ≤ (8 : Int32) := by rw [ex57]; exact nu 12 rfl hI o_v1
        have d_x57 := ex57
        refine ⟨fun c58 => ?_, fun c58 => ?_⟩
        · exact hq _ hI g0 f0 hM
        · refine m_X8_canWait hI o_v1 (fun x59 S60 hI2 g61 b_x59 p_x59 => ?_)
          obtain ⟨z_S60, p_x59⟩ := p_x59
          subst z_S60
          intro _ _
          have bb_x59 : x59 = 0 ∨ x59 = 1 := b_x59
          refine ⟨fun c63 => ?_, fun c63 => ?_⟩
          · refine u_X7_price_245 ?_
            intro x64 ex64
            exact ih56 _ _ _ _ _ _ _ ⟨hI, gL42, fL43, rfl, rfl, rfl, rfl, rfl, hM, (q985 p_x5 bb_x5 c9 q_x11 p_x14 bb_x14 c18 i1u19 r_x38 c39 i1u40 r_x57 c58 p_x59 bb_x59 c63 ex64)⟩ (mu_up (q986 p_x5 bb_x5 c9 q_x11 p_x14 bb_x14 c18 i1u19 r_x38 c39 i1u40 r_x57 c58 p_x59 bb_x59 c63 ex64) (q987 p_x5 bb_x5 c9 q_x11 p_x14 bb_x14 c18 i1u19 r_x38 c39 i1u40 r_x57 c58 p_x59 bb_x59 c63 ex64))
          · refine ⟨fun c65 => ?_, fun c65 => ?_⟩
            · refine m_X8_dripOn hI o_v1 o_a12 (fun x66 S67 hI2 g68 p_x66 => ?_)
              subst p_x66
              intro _
              obtain ⟨a70, ea70, o_a70, l_a70⟩ := shl 15 rfl hI o_v1
              refine ⟨a70, ea70, ?_⟩
              refine ⟨o_a70, ?_⟩
              have i72 : vp_in v3 (hN _ a70) := (vin l_a70 (m := 6) (by decide) (q988 p_x5 bb_x5 c9 q_x11 p_x14 bb_x14 c18 i1u19 r_x38 c39 i1u40 r_x57 c58 p_x59 bb_x59 c63))
              obtain ⟨a71, ea71, o_a71⟩ := ae hI o_a70 (by decide) (by decide) i72
              replace o_a71 : ob _ a71 3 := o_a71
              refine ⟨i72, a71, ea71, ?_⟩
              refine ⟨o_a71, ?_⟩
              intro x73 ex73
              have d_x73 := ex73
              refine u_X7_price_230 ?_
              refine ⟨o_v0, ?_⟩
              refine m_X7_addMove hI o_v0 hM (fun S75 hJ g76 fc77 p_S75 => ?_)
              have hM := p_S75
              have hI := hJ
              have l_a10 := (gr_len g76 o_a10).trans l_a10
              have l_a70 := (gr_len g76 o_a70).trans l_a70
              have d_v3 := d_v3.trans (fri_at fc77 (by decide) (by decide) o_v0).symm
              have d_x11 := d_x11.trans (fri_at fc77 (by decide) (by decide) o_v0).symm
              have d_x38 := d_x38.trans (fri_at fc77 (by decide) (by decide) o_v1).symm
              have d_x57 := d_x57.trans (fri_at fc77 (by decide) (by decide) o_v1).symm
              have d_x73 := d_x73.trans (fri_at fc77 (by decide) (by decide) o_a71).symm
              have ea10 := (frr_at fc77 (by decide) (by decide) o_v1).trans ea10
              have ea70 := (frr_at fc77 (by decide) (by decide) o_v1).trans ea70
              have f0 := fri_tr (S := S41) g0 f0 fc77 (by decide) (by decide)
              have fL43 := fri_tr (S := S41) gL42 fL43 fc77 (by decide) (by decide)
              have o_a10 := gr_ob g76 o_a10
              have o_a12 := gr_ob g76 o_a12
              have o_a70 := gr_ob g76 o_a70
              have o_a71 := gr_ob g76 o_a71
              have o_v0 := gr_ob g76 o_v0
              have o_v1 := gr_ob g76 o_v1
              have o_v2 := gr_ob g76 o_v2
              have g0 := gr_tr (T := S41) g0 g76
              have gL42 := gr_tr (T := S41) gL42 g76
              intro _
              refine u_X7_price_245 ?_
              intro x78 ex78
              exact ih56 _ _ _ _ _ _ _ ⟨hI, gL42, fL43, rfl, rfl, rfl, rfl, rfl, hM, (q989 p_x5 bb_x5 c9 q_x11 p_x14 bb_x14 c18 i1u19 r_x38 c39 i1u40 r_x57 c58 p_x59 bb_x59 c63 ex78)⟩ (mu_up (q990 p_x5 bb_x5 c9 q_x11 p_x14 bb_x14 c18 i1u19 r_x38 c39 i1u40 r_x57 c58 p_x59 bb_x59 c63 ex78) (q991 p_x5 bb_x5 c9 q_x11 p_x14 bb_x14 c18 i1u19 r_x38 c39 i1u40 r_x57 c58 p_x59 bb_x59 c63 ex78))
            · refine u_X7_price_230 ?_
              refine ⟨o_v0, ?_⟩
              refine m_X7_addMove hI o_v0 hM (fun S80 hJ g81 fc82 p_S80 => ?_)
              have hM := p_S80
              have hI := hJ
              have l_a10 := (gr_len g81 o_a10).trans l_a10
              have d_v3 := d_v3.trans (fri_at fc82 (by decide) (by decide) o_v0).symm
              have d_x11 := d_x11.trans (fri_at fc82 (by decide) (by decide) o_v0).symm
              have d_x38 := d_x38.trans (fri_at fc82 (by decide) (by decide) o_v1).symm
              have d_x57 := d_x57.trans (fri_at fc82 (by decide) (by decide) o_v1).symm
              have ea10 := (frr_at fc82 (by decide) (by decide) o_v1).trans ea10
              have f0 := fri_tr (S := S41) g0 f0 fc82 (by decide) (by decide)
              have fL43 := fri_tr (S := S41) gL42 fL43 fc82 (by decide) (by decide)
              have o_a10 := gr_ob g81 o_a10
              have o_a12 := gr_ob g81 o_a12
              have o_v0 := gr_ob g81 o_v0
              have o_v1 := gr_ob g81 o_v1
              have o_v2 := gr_ob g81 o_v2
              have g0 := gr_tr (T := S41) g0 g81
              have gL42 := gr_tr (T := S41) gL42 g81
              intro _
              refine u_X7_price_245 ?_
              intro x83 ex83
              exact ih56 _ _ _ _ _ _ _ ⟨hI, gL42, fL43, rfl, rfl, rfl, rfl, rfl, hM, (q992 p_x5 bb_x5 c9 q_x11 p_x14 bb_x14 c18 i1u19 r_x38 c39 i1u40 r_x57 c58 p_x59 bb_x59 c63 c65 ex83)⟩ (mu_up (q993 p_x5 bb_x5 c9 q_x11 p_x14 bb_x14 c18 i1u19 r_x38 c39 i1u40 r_x57 c58 p_x59 bb_x59 c63 c65 ex83) (q994 p_x5 bb_x5 c9 q_x11 p_x14 bb_x14 c18 i1u19 r_x38 c39 i1u40 r_x57 c58 p_x59 bb_x59 c63 c65 ex83))
      · obtain ⟨a84, ea84, o_a84, l_a84⟩ := shl 17 rfl hI o_v1
        refine ⟨a84, ea84, ?_⟩
        intro x85 ex85
        have dv_x85 : 0 ≤ x85 ∧ x85 < (12 : Int32) := by rw [ex85]; exact dvl (k := 12) (m := 24) (q995 p_x5 bb_x5 c9 q_x11 p_x14 bb_x14 c18 i1u19 r_x38 c39 ex85) (q996 p_x5 bb_x5 c9 q_x11 p_x14 bb_x14 c18 i1u19 r_x38 c39 ex85) (by decide) (by decide)
        refine ⟨o_a84, ?_⟩
        have i87 : vp_in x85 (hN _ a84) := (vin l_a84 (m := 12) (by decide) (q997 p_x5 bb_x5 c9 q_x11 p_x14 bb_x14 c18 i1u19 r_x38 c39 ex85 dv_x85))
        obtain ⟨a86, ea86, o_a86⟩ := ae hI o_a84 (by decide) (by decide) i87
        replace o_a86 : ob _ a86 5 := o_a86
        refine ⟨i87, a86, ea86, ?_⟩
        intro x88 ex88
        refine ⟨o_a12, ?_⟩
        intro x89 ex89
        have r_x89 : (0 : Int32) ≤ x89 ∧ x89 ≤ (9 : Int32) := by rw [ex89]; exact nu 4 rfl hI o_a12
        have d_x89 := ex89
        refine i_X7_price_86 (fun (y0 : Nat) (y1 : Nat) (y2 : Nat) (y3 : Int32) (y4 : Nat) (y5 : Int32) (y6 : Int32) (y7 : Nat) (y8 : Int32) (y9 : Int32) (Z : HS) => ((2147483647 : Int32).toInt - y9.toInt).toNat) (fun (y0 : Nat) (y1 : Nat) (y2 : Nat) (y3 : Int32) (y4 : Nat) (y5 : Int32) (y6 : Int32) (y7 : Nat) (y8 : Int32) (y9 : Int32) (Z : HS) => (IV Z) ∧ (Gr S20 Z) ∧ (FRI [(7, 3)] [] S20 Z) ∧ (v0 = y0) ∧ (v1 = y1) ∧ (v2 = y2) ∧ (v3 = y3) ∧ (a12 = y4) ∧ ((0 : Int32) = y5) ∧ (w35 = y6) ∧ (a86 = y7) ∧ (x88 = y8) ∧ (WM Z v0)) ?_ _ _ _ _ _ _ _ _ _ _ _ ⟨hI, (gr_rf _), (fri_rf _ _ _), rfl, rfl, rfl, rfl, rfl, rfl, rfl, rfl, rfl, hM⟩
        intro w94 w96 w98 w100 w102 w104 w106 w108 w110 w112 S91 X113 ⟨hI, gL92, fL93, q95, q97, q99, q101, q103, q105, q107, q109, q111, hM⟩ ih114
        subst q95
        subst q97
        subst q99
        subst q101
        subst q103
        subst q105
        subst q107
        subst q109
        subst q111
        have l_a10 := (gr_len gL92 o_a10).trans l_a10
        have l_a84 := (gr_len gL92 o_a84).trans l_a84
        have d_v3 := d_v3.trans (fri_at fL93 (by decide) (by decide) o_v0).symm
        have d_x11 := d_x11.trans (fri_at fL93 (by decide) (by decide) o_v0).symm
        have d_x38 := d_x38.trans (fri_at fL93 (by decide) (by decide) o_v1).symm
        have d_x89 := d_x89.trans (fri_at fL93 (by decide) (by decide) o_a12).symm
        have ea10 := (frr_at fL93 (by decide) (by decide) o_v1).trans ea10
        have ea84 := (frr_at fL93 (by decide) (by decide) o_v1).trans ea84
        have f0 := fri_tr (S := S20) g0 f0 fL93 (by decide) (by decide)
        have fL22 := fri_tr (S := S20) gL21 fL22 fL93 (by decide) (by decide)
        have o_a10 := gr_ob gL92 o_a10
        have o_a12 := gr_ob gL92 o_a12
        have o_a84 := gr_ob gL92 o_a84
        have o_a86 := gr_ob gL92 o_a86
        have o_v0 := gr_ob gL92 o_v0
        have o_v1 := gr_ob gL92 o_v1
        have o_v2 := gr_ob gL92 o_v2
        have g0 := gr_tr (T := S20) g0 gL92
        have gL21 := gr_tr (T := S20) gL21 gL92
        refine u_X7_price_86 ?_
        refine ⟨o_a12, ?_⟩
        intro x115 ex115
        have r_x115 : (0 : Int32) ≤ x115 ∧ x115 ≤ (9 : Int32) := by rw [ex115]; exact nu 5 rfl hI o_a12
        have d_x115 := ex115
        refine ⟨fun c116 => ?_, fun c116 => ?_⟩
        · intro x117 ex117
          exact ih37 _ _ _ _ _ _ _ _ ⟨hI, gL21, fL22, rfl, rfl, rfl, rfl, rfl, rfl, hM, (q998 p_x5 bb_x5 c9 q_x11 p_x14 bb_x14 c18 i1u19 r_x38 c39 ex85 dv_x85 ex88 r_x115 c116 ex117)⟩ (mu_up (q999 p_x5 bb_x5 c9 q_x11 p_x14 bb_x14 c18 i1u19 r_x38 c39 ex85 dv_x85 ex88 r_x115 c116 ex117) (q1000 p_x5 bb_x5 c9 q_x11 p_x14 bb_x14 c18 i1u19 r_x38 c39 ex85 dv_x85 ex88 r_x115 c116 ex117))
        · refine ⟨fun c118 => ?_, fun c118 => ?_⟩
          · refine ⟨o_v1, ?_⟩
            obtain ⟨a119, ea119, o_a119, l_a119⟩ := shl 15 rfl hI o_v1
            refine ⟨a119, ea119, ?_⟩
            refine ⟨o_a119, ?_⟩
            have i121 : vp_in v3 (hN _ a119) := (vin l_a119 (m := 6) (by decide) (q1001 p_x5 bb_x5 c9 q_x11 p_x14 bb_x14 c18 i1u19 r_x38 c39 ex85 dv_x85 ex88 r_x115 c116))
            obtain ⟨a120, ea120, o_a120⟩ := ae hI o_a119 (by decide) (by decide) i121
            replace o_a120 : ob _ a120 3 := o_a120
            refine ⟨i121, a120, ea120, ?_⟩
            refine ⟨o_v2, ?_⟩
            refine m_X1_wetOf hI o_v2 o_a12 o_a86 o_a120 (fun x122 S123 hJ g124 fc125 => ?_)
            have hM := wm_fr fc125 g124 hI o_v0 (by decide) hM
            have hI := hJ
            have l_a10 := (gr_len g124 o_a10).trans l_a10
            have l_a119 := (gr_len g124 o_a119).trans l_a119
            have l_a84 := (gr_len g124 o_a84).trans l_a84
            have d_v3 := d_v3.trans (fri_at fc125 (by decide) (by decide) o_v0).symm
            have d_x11 := d_x11.trans (fri_at fc125 (by decide) (by decide) o_v0).symm
            have d_x38 := d_x38.trans (fri_at fc125 (by decide) (by decide) o_v1).symm
            have d_x89 := d_x89.trans (fri_at fc125 (by decide) (by decide) o_a12).symm
            have d_x115 := d_x115.trans (fri_at fc125 (by decide) (by decide) o_a12).symm
            have ea10 := (frr_at fc125 (by decide) (by decide) o_v1).trans ea10
            have ea84 := (frr_at fc125 (by decide) (by decide) o_v1).trans ea84
            have ea119 := (frr_at fc125 (by decide) (by decide) o_v1).trans ea119
            have f0 := fri_tr (S := S91) g0 f0 fc125 (by decide) (by decide)
            have fL22 := fri_tr (S := S91) gL21 fL22 fc125 (by decide) (by decide)
            have fL93 := fri_tr (S := S91) gL92 fL93 fc125 (by decide) (by decide)
            have o_a10 := gr_ob g124 o_a10
            have o_a119 := gr_ob g124 o_a119
            have o_a12 := gr_ob g124 o_a12
            have o_a120 := gr_ob g124 o_a120
            have o_a84 := gr_ob g124 o_a84
            have o_a86 := gr_ob g124 o_a86
            have o_v0 := gr_ob g124 o_v0
            have o_v1 := gr_ob g124 o_v1
            have o_v2 := gr_ob g124 o_v2
            have g0 := gr_tr (T := S91) g0 g124
            have gL21 := gr_tr (T := S91) gL21 g124
            have gL92 := gr_tr (T := S91) gL92 g124
            intro _
            refine ⟨a119, ea119, ?_⟩
            refine ⟨o_a119, ?_⟩
            have i128 : vp_in v3 (hN _ a119) := (vin l_a119 (m := 6) (by decide) (q1001 p_x5 bb_x5 c9 q_x11 p_x14 bb_x14 c18 i1u19 r_x38 c39 ex85 dv_x85 ex88 r_x115 c116))
            obtain ⟨a127, ea127, o_a127⟩ := ae hI o_a119 (by decide) (by decide) i128
            replace o_a127 : ob _ a127 3 := o_a127
            refine ⟨i128, a127, ea127, ?_⟩
            refine ⟨o_a127, ?_⟩
            intro x129 ex129
            have d_x129 := ex129
            refine u_X7_price_134 ?_
            intro x130 ex130
            refine ⟨o_v0, ?_⟩
            refine m_X7_addLeg hI o_v0 o_a86 hM (fun S132 hJ g133 fc134 p_S132 => ?_)
            have hM := p_S132
            have hI := hJ
            have l_a10 := (gr_len g133 o_a10).trans l_a10
            have l_a119 := (gr_len g133 o_a119).trans l_a119
            have l_a84 := (gr_len g133 o_a84).trans l_a84
            have d_v3 := d_v3.trans (fri_at fc134 (by decide) (by decide) o_v0).symm
            have d_x11 := d_x11.trans (fri_at fc134 (by decide) (by decide) o_v0).symm
            have d_x38 := d_x38.trans (fri_at fc134 (by decide) (by decide) o_v1).symm
            have d_x89 := d_x89.trans (fri_at fc134 (by decide) (by decide) o_a12).symm
            have d_x115 := d_x115.trans (fri_at fc134 (by decide) (by decide) o_a12).symm
            have d_x129 := d_x129.trans (fri_at fc134 (by decide) (by decide) o_a127).symm
            have ea10 := (frr_at fc134 (by decide) (by decide) o_v1).trans ea10
            have ea84 := (frr_at fc134 (by decide) (by decide) o_v1).trans ea84
            have ea119 := (frr_at fc134 (by decide) (by decide) o_v1).trans ea119
            have f0 := fri_tr (S := S123) g0 f0 fc134 (by decide) (by decide)
            have fL22 := fri_tr (S := S123) gL21 fL22 fc134 (by decide) (by decide)
            have fL93 := fri_tr (S := S123) gL92 fL93 fc134 (by decide) (by decide)
            have o_a10 := gr_ob g133 o_a10
            have o_a119 := gr_ob g133 o_a119
            have o_a12 := gr_ob g133 o_a12
            have o_a120 := gr_ob g133 o_a120
            have o_a127 := gr_ob g133 o_a127
            have o_a84 := gr_ob g133 o_a84
            have o_a86 := gr_ob g133 o_a86
            have o_v0 := gr_ob g133 o_v0
            have o_v1 := gr_ob g133 o_v1
            have o_v2 := gr_ob g133 o_v2
            have g0 := gr_tr (T := S123) g0 g133
            have gL21 := gr_tr (T := S123) gL21 g133
            have gL92 := gr_tr (T := S123) gL92 g133
            intro _
            intro x135 ex135
            exact ih114 _ _ _ _ _ _ _ _ _ _ _ ⟨hI, gL92, fL93, rfl, rfl, rfl, rfl, rfl, rfl, rfl, rfl, rfl, hM⟩ (mu_up (q1002 p_x5 bb_x5 c9 q_x11 p_x14 bb_x14 c18 i1u19 r_x38 c39 ex85 dv_x85 ex88 r_x115 c116 ex130 ex135) (q1003 p_x5 bb_x5 c9 q_x11 p_x14 bb_x14 c18 i1u19 r_x38 c39 ex85 dv_x85 ex88 r_x115 c116 ex130 ex135))
          · refine u_X7_price_134 ?_
            intro x136 ex136
            refine ⟨o_v0, ?_⟩
            refine m_X7_addLeg hI o_v0 o_a86 hM (fun S138 hJ g139 fc140 p_S138 => ?_)
            have hM := p_S138
            have hI := hJ
            have l_a10 := (gr_len g139 o_a10).trans l_a10
            have l_a84 := (gr_len g139 o_a84).trans l_a84
            have d_v3 := d_v3.trans (fri_at fc140 (by decide) (by decide) o_v0).symm
            have d_x11 := d_x11.trans (fri_at fc140 (by decide) (by decide) o_v0).symm
            have d_x38 := d_x38.trans (fri_at fc140 (by decide) (by decide) o_v1).symm
            have d_x89 := d_x89.trans (fri_at fc140 (by decide) (by decide) o_a12).symm
            have d_x115 := d_x115.trans (fri_at fc140 (by decide) (by decide) o_a12).symm
            have ea10 := (frr_at fc140 (by decide) (by decide) o_v1).trans ea10
            have ea84 := (frr_at fc140 (by decide) (by decide) o_v1).trans ea84
            have f0 := fri_tr (S := S91) g0 f0 fc140 (by decide) (by decide)
            have fL22 := fri_tr (S := S91) gL21 fL22 fc140 (by decide) (by decide)
            have fL93 := fri_tr (S := S91) gL92 fL93 fc140 (by decide) (by decide)
            have o_a10 := gr_ob g139 o_a10
            have o_a12 := gr_ob g139 o_a12
            have o_a84 := gr_ob g139 o_a84
            have o_a86 := gr_ob g139 o_a86
            have o_v0 := gr_ob g139 o_v0
            have o_v1 := gr_ob g139 o_v1
            have o_v2 := gr_ob g139 o_v2
            have g0 := gr_tr (T := S91) g0 g139
            have gL21 := gr_tr (T := S91) gL21 g139
            have gL92 := gr_tr (T := S91) gL92 g139
            intro _
            intro x141 ex141
            exact ih114 _ _ _ _ _ _ _ _ _ _ _ ⟨hI, gL92, fL93, rfl, rfl, rfl, rfl, rfl, rfl, rfl, rfl, rfl, hM⟩ (mu_up (q1004 p_x5 bb_x5 c9 q_x11 p_x14 bb_x14 c18 i1u19 r_x38 c39 ex85 dv_x85 ex88 r_x115 c116 c118 ex136 ex141) (q1005 p_x5 bb_x5 c9 q_x11 p_x14 bb_x14 c18 i1u19 r_x38 c39 ex85 dv_x85 ex88 r_x115 c116 c118 ex136 ex141))
    · refine u_X7_price_46 ?_
      refine i_X7_price_51 (fun (y0 : Nat) (y1 : Nat) (y2 : Nat) (y3 : Int32) (y4 : Nat) (y5 : Int32) (y6 : Int32) (Z : HS) => ((2147483647 : Int32).toInt - y6.toInt).toNat) (fun (y0 : Nat) (y1 : Nat) (y2 : Nat) (y3 : Int32) (y4 : Nat) (y5 : Int32) (y6 : Int32) (Z : HS) => (IV Z) ∧ (Gr S2 Z) ∧ (FRI [(7, 3)] [] S2 Z) ∧ (v0 = y0) ∧ (v1 = y1) ∧ (v2 = y2) ∧ (v3 = y3) ∧ (a12 = y4) ∧ ((1 : Int32) = y5) ∧ (WM Z v0) ∧ (0 ≤ y6)) ?_ _ _ _ _ _ _ _ _ ⟨hI, (gr_rf _), (fri_rf _ _ _), rfl, rfl, rfl, rfl, rfl, rfl, hM, (q1006 p_x5 bb_x5 c9 q_x11 p_x14 bb_x14 c18)⟩
      intro w146 w148 w150 w152 w154 w156 w158 S143 X159 ⟨hI, gL144, fL145, q147, q149, q151, q153, q155, q157, hM, i1u142⟩ ih160
      subst q147
      subst q149
      subst q151
      subst q153
      subst q155
      subst q157
      have l_a10 := (gr_len gL144 o_a10).trans l_a10
      have d_v3 := d_v3.trans (fri_at fL145 (by decide) (by decide) o_v0).symm
      have d_x11 := d_x11.trans (fri_at fL145 (by decide) (by decide) o_v0).symm
      have ea10 := (frr_at fL145 (by decide) (by decide) o_v1).trans ea10
      have f0 := fri_tr (S := S2) g0 f0 fL145 (by decide) (by decide)
      have o_a10 := gr_ob gL144 o_a10
      have o_a12 := gr_ob gL144 o_a12
      have o_v0 := gr_ob gL144 o_v0
      have o_v1 := gr_ob gL144 o_v1
      have o_v2 := gr_ob gL144 o_v2
      have g0 := gr_tr (T := S2) g0 gL144
      refine u_X7_price_51 ?_
      refine ⟨o_v1, ?_⟩
      intro x161 ex161
      have r_x161 : (0 : Int32) ≤ x161 ∧ x161 ≤ (12 : Int32) := by rw [ex161]; exact nu 13 rfl hI o_v1
      have d_x161 := ex161
      refine ⟨fun c162 => ?_, fun c162 => ?_⟩
      · refine i_X7_price_179 (fun (y0 : Nat) (y1 : Nat) (y3 : Int32) (y4 : Nat) (y5 : Int32) (y6 : Int32) (Z : HS) => ((2147483647 : Int32).toInt - y6.toInt).toNat) (fun (y0 : Nat) (y1 : Nat) (y3 : Int32) (y4 : Nat) (y5 : Int32) (y6 : Int32) (Z : HS) => (IV Z) ∧ (Gr S143 Z) ∧ (FRI [(7, 3)] [] S143 Z) ∧ (v0 = y0) ∧ (v1 = y1) ∧ (v3 = y3) ∧ (a12 = y4) ∧ ((1 : Int32) = y5) ∧ (WM Z v0) ∧ (0 ≤ y6)) ?_ _ _ _ _ _ _ _ ⟨hI, (gr_rf _), (fri_rf _ _ _), rfl, rfl, rfl, rfl, rfl, hM, (q1007 p_x5 bb_x5 c9 q_x11 p_x14 bb_x14 c18 i1u142 r_x161 c162)⟩
        intro w167 w169 w171 w173 w175 w177 S164 X178 ⟨hI, gL165, fL166, q168, q170, q172, q174, q176, hM, i1u163⟩ ih179
        subst q168
        subst q170
        subst q172
        subst q174
        subst q176
        have l_a10 := (gr_len gL165 o_a10).trans l_a10
        have d_v3 := d_v3.trans (fri_at fL166 (by decide) (by decide) o_v0).symm
        have d_x11 := d_x11.trans (fri_at fL166 (by decide) (by decide) o_v0).symm
        have d_x161 := d_x161.trans (fri_at fL166 (by decide) (by decide) o_v1).symm
        have ea10 := (frr_at fL166 (by decide) (by decide) o_v1).trans ea10
        have f0 := fri_tr (S := S143) g0 f0 fL166 (by decide) (by decide)
        have o_a10 := gr_ob gL165 o_a10
        have o_a12 := gr_ob gL165 o_a12
        have o_v0 := gr_ob gL165 o_v0
        have o_v1 := gr_ob gL165 o_v1
        have o_v2 := gr_ob gL165 o_v2
        have g0 := gr_tr (T := S143) g0 gL165
        refine u_X7_price_179 ?_
        refine ⟨o_v1, ?_⟩
        intro x180 ex180
        have r_x180 : (0 : Int32) ≤ x180 ∧ x180 ≤ (8 : Int32) := by rw [ex180]; exact nu 12 rfl hI o_v1
        have d_x180 := ex180
        refine ⟨fun c181 => ?_, fun c181 => ?_⟩
        · exact hq _ hI g0 f0 hM
        · refine m_X8_canWait hI o_v1 (fun x182 S183 hI2 g184 b_x182 p_x182 => ?_)
          obtain ⟨z_S183, p_x182⟩ := p_x182
          subst z_S183
          intro _ _
          have bb_x182 : x182 = 0 ∨ x182 = 1 := b_x182
          refine ⟨fun c186 => ?_, fun c186 => ?_⟩
          · refine u_X7_price_245 ?_
            intro x187 ex187
            exact ih179 _ _ _ _ _ _ _ ⟨hI, gL165, fL166, rfl, rfl, rfl, rfl, rfl, hM, (q1008 p_x5 bb_x5 c9 q_x11 p_x14 bb_x14 c18 i1u142 r_x161 c162 i1u163 r_x180 c181 p_x182 bb_x182 c186 ex187)⟩ (mu_up (q1009 p_x5 bb_x5 c9 q_x11 p_x14 bb_x14 c18 i1u142 r_x161 c162 i1u163 r_x180 c181 p_x182 bb_x182 c186 ex187) (q1010 p_x5 bb_x5 c9 q_x11 p_x14 bb_x14 c18 i1u142 r_x161 c162 i1u163 r_x180 c181 p_x182 bb_x182 c186 ex187))
          · refine ⟨fun c188 => ?_, fun c188 => ?_⟩
            · refine m_X8_dripOn hI o_v1 o_a12 (fun x189 S190 hI2 g191 p_x189 => ?_)
              subst p_x189
              intro _
              obtain ⟨a193, ea193, o_a193, l_a193⟩ := shl 15 rfl hI o_v1
              refine ⟨a193, ea193, ?_⟩
              refine ⟨o_a193, ?_⟩
              have i195 : vp_in v3 (hN _ a193) := (vin l_a193 (m := 6) (by decide) (q1011 p_x5 bb_x5 c9 q_x11 p_x14 bb_x14 c18 i1u142 r_x161 c162 i1u163 r_x180 c181 p_x182 bb_x182 c186 c188))
              obtain ⟨a194, ea194, o_a194⟩ := ae hI o_a193 (by decide) (by decide) i195
              replace o_a194 : ob _ a194 3 := o_a194
              refine ⟨i195, a194, ea194, ?_⟩
              refine ⟨o_a194, ?_⟩
              intro x196 ex196
              have d_x196 := ex196
              refine u_X7_price_230 ?_
              refine ⟨o_v0, ?_⟩
              refine m_X7_addMove hI o_v0 hM (fun S198 hJ g199 fc200 p_S198 => ?_)
              have hM := p_S198
              have hI := hJ
              have l_a10 := (gr_len g199 o_a10).trans l_a10
              have l_a193 := (gr_len g199 o_a193).trans l_a193
              have d_v3 := d_v3.trans (fri_at fc200 (by decide) (by decide) o_v0).symm
              have d_x11 := d_x11.trans (fri_at fc200 (by decide) (by decide) o_v0).symm
              have d_x161 := d_x161.trans (fri_at fc200 (by decide) (by decide) o_v1).symm
              have d_x180 := d_x180.trans (fri_at fc200 (by decide) (by decide) o_v1).symm
              have d_x196 := d_x196.trans (fri_at fc200 (by decide) (by decide) o_a194).symm
              have ea10 := (frr_at fc200 (by decide) (by decide) o_v1).trans ea10
              have ea193 := (frr_at fc200 (by decide) (by decide) o_v1).trans ea193
              have f0 := fri_tr (S := S164) g0 f0 fc200 (by decide) (by decide)
              have fL166 := fri_tr (S := S164) gL165 fL166 fc200 (by decide) (by decide)
              have o_a10 := gr_ob g199 o_a10
              have o_a12 := gr_ob g199 o_a12
              have o_a193 := gr_ob g199 o_a193
              have o_a194 := gr_ob g199 o_a194
              have o_v0 := gr_ob g199 o_v0
              have o_v1 := gr_ob g199 o_v1
              have o_v2 := gr_ob g199 o_v2
              have g0 := gr_tr (T := S164) g0 g199
              have gL165 := gr_tr (T := S164) gL165 g199
              intro _
              refine u_X7_price_245 ?_
              intro x201 ex201
              exact ih179 _ _ _ _ _ _ _ ⟨hI, gL165, fL166, rfl, rfl, rfl, rfl, rfl, hM, (q1012 p_x5 bb_x5 c9 q_x11 p_x14 bb_x14 c18 i1u142 r_x161 c162 i1u163 r_x180 c181 p_x182 bb_x182 c186 c188 ex201)⟩ (mu_up (q1013 p_x5 bb_x5 c9 q_x11 p_x14 bb_x14 c18 i1u142 r_x161 c162 i1u163 r_x180 c181 p_x182 bb_x182 c186 c188 ex201) (q1014 p_x5 bb_x5 c9 q_x11 p_x14 bb_x14 c18 i1u142 r_x161 c162 i1u163 r_x180 c181 p_x182 bb_x182 c186 c188 ex201))
            · refine u_X7_price_230 ?_
              refine ⟨o_v0, ?_⟩
              refine m_X7_addMove hI o_v0 hM (fun S203 hJ g204 fc205 p_S203 => ?_)
              have hM := p_S203
              have hI := hJ
              have l_a10 := (gr_len g204 o_a10).trans l_a10
              have d_v3 := d_v3.trans (fri_at fc205 (by decide) (by decide) o_v0).symm
              have d_x11 := d_x11.trans (fri_at fc205 (by decide) (by decide) o_v0).symm
              have d_x161 := d_x161.trans (fri_at fc205 (by decide) (by decide) o_v1).symm
              have d_x180 := d_x180.trans (fri_at fc205 (by decide) (by decide) o_v1).symm
              have ea10 := (frr_at fc205 (by decide) (by decide) o_v1).trans ea10
              have f0 := fri_tr (S := S164) g0 f0 fc205 (by decide) (by decide)
              have fL166 := fri_tr (S := S164) gL165 fL166 fc205 (by decide) (by decide)
              have o_a10 := gr_ob g204 o_a10
              have o_a12 := gr_ob g204 o_a12
              have o_v0 := gr_ob g204 o_v0
              have o_v1 := gr_ob g204 o_v1
              have o_v2 := gr_ob g204 o_v2
              have g0 := gr_tr (T := S164) g0 g204
              have gL165 := gr_tr (T := S164) gL165 g204
              intro _
              refine u_X7_price_245 ?_
              intro x206 ex206
              exact ih179 _ _ _ _ _ _ _ ⟨hI, gL165, fL166, rfl, rfl, rfl, rfl, rfl, hM, (q1015 p_x5 bb_x5 c9 q_x11 p_x14 bb_x14 c18 i1u142 r_x161 c162 i1u163 r_x180 c181 p_x182 bb_x182 c186 ex206)⟩ (mu_up (q1016 p_x5 bb_x5 c9 q_x11 p_x14 bb_x14 c18 i1u142 r_x161 c162 i1u163 r_x180 c181 p_x182 bb_x182 c186 ex206) (q1017 p_x5 bb_x5 c9 q_x11 p_x14 bb_x14 c18 i1u142 r_x161 c162 i1u163 r_x180 c181 p_x182 bb_x182 c186 ex206))
      · obtain ⟨a207, ea207, o_a207, l_a207⟩ := shl 17 rfl hI o_v1
        refine ⟨a207, ea207, ?_⟩
        intro x208 ex208
        have dv_x208 : 0 ≤ x208 ∧ x208 < (12 : Int32) := by rw [ex208]; exact dvl (k := 12) (m := 24) (q1018 p_x5 bb_x5 c9 q_x11 p_x14 bb_x14 c18 i1u142 r_x161 c162 ex208) (q1019 p_x5 bb_x5 c9 q_x11 p_x14 bb_x14 c18 i1u142 r_x161 c162 ex208) (by decide) (by decide)
        refine ⟨o_a207, ?_⟩
        have i210 : vp_in x208 (hN _ a207) := (vin l_a207 (m := 12) (by decide) (q1020 p_x5 bb_x5 c9 q_x11 p_x14 bb_x14 c18 i1u142 r_x161 c162 ex208 dv_x208))
        obtain ⟨a209, ea209, o_a209⟩ := ae hI o_a207 (by decide) (by decide) i210
        replace o_a209 : ob _ a209 5 := o_a209
        refine ⟨i210, a209, ea209, ?_⟩
        intro x211 ex211
        refine ⟨o_a12, ?_⟩
        intro x212 ex212
        have r_x212 : (0 : Int32) ≤ x212 ∧ x212 ≤ (9 : Int32) := by rw [ex212]; exact nu 4 rfl hI o_a12
        have d_x212 := ex212
        refine i_X7_price_86 (fun (y0 : Nat) (y1 : Nat) (y2 : Nat) (y3 : Int32) (y4 : Nat) (y5 : Int32) (y6 : Int32) (y7 : Nat) (y8 : Int32) (y9 : Int32) (Z : HS) => ((2147483647 : Int32).toInt - y9.toInt).toNat) (fun (y0 : Nat) (y1 : Nat) (y2 : Nat) (y3 : Int32) (y4 : Nat) (y5 : Int32) (y6 : Int32) (y7 : Nat) (y8 : Int32) (y9 : Int32) (Z : HS) => (IV Z) ∧ (Gr S143 Z) ∧ (FRI [(7, 3)] [] S143 Z) ∧ (v0 = y0) ∧ (v1 = y1) ∧ (v2 = y2) ∧ (v3 = y3) ∧ (a12 = y4) ∧ ((1 : Int32) = y5) ∧ (w158 = y6) ∧ (a209 = y7) ∧ (x211 = y8) ∧ (WM Z v0)) ?_ _ _ _ _ _ _ _ _ _ _ _ ⟨hI, (gr_rf _), (fri_rf _ _ _), rfl, rfl, rfl, rfl, rfl, rfl, rfl, rfl, rfl, hM⟩
        intro w217 w219 w221 w223 w225 w227 w229 w231 w233 w235 S214 X236 ⟨hI, gL215, fL216, q218, q220, q222, q224, q226, q228, q230, q232, q234, hM⟩ ih237
        subst q218
        subst q220
        subst q222
        subst q224
        subst q226
        subst q228
        subst q230
        subst q232
        subst q234
        have l_a10 := (gr_len gL215 o_a10).trans l_a10
        have l_a207 := (gr_len gL215 o_a207).trans l_a207
        have d_v3 := d_v3.trans (fri_at fL216 (by decide) (by decide) o_v0).symm
        have d_x11 := d_x11.trans (fri_at fL216 (by decide) (by decide) o_v0).symm
        have d_x161 := d_x161.trans (fri_at fL216 (by decide) (by decide) o_v1).symm
        have d_x212 := d_x212.trans (fri_at fL216 (by decide) (by decide) o_a12).symm
        have ea10 := (frr_at fL216 (by decide) (by decide) o_v1).trans ea10
        have ea207 := (frr_at fL216 (by decide) (by decide) o_v1).trans ea207
        have f0 := fri_tr (S := S143) g0 f0 fL216 (by decide) (by decide)
        have fL145 := fri_tr (S := S143) gL144 fL145 fL216 (by decide) (by decide)
        have o_a10 := gr_ob gL215 o_a10
        have o_a12 := gr_ob gL215 o_a12
        have o_a207 := gr_ob gL215 o_a207
        have o_a209 := gr_ob gL215 o_a209
        have o_v0 := gr_ob gL215 o_v0
        have o_v1 := gr_ob gL215 o_v1
        have o_v2 := gr_ob gL215 o_v2
        have g0 := gr_tr (T := S143) g0 gL215
        have gL144 := gr_tr (T := S143) gL144 gL215
        refine u_X7_price_86 ?_
        refine ⟨o_a12, ?_⟩
        intro x238 ex238
        have r_x238 : (0 : Int32) ≤ x238 ∧ x238 ≤ (9 : Int32) := by rw [ex238]; exact nu 5 rfl hI o_a12
        have d_x238 := ex238
        refine ⟨fun c239 => ?_, fun c239 => ?_⟩
        · intro x240 ex240
          exact ih160 _ _ _ _ _ _ _ _ ⟨hI, gL144, fL145, rfl, rfl, rfl, rfl, rfl, rfl, hM, (q1021 p_x5 bb_x5 c9 q_x11 p_x14 bb_x14 c18 i1u142 r_x161 c162 ex208 dv_x208 ex211 r_x238 c239 ex240)⟩ (mu_up (q1022 p_x5 bb_x5 c9 q_x11 p_x14 bb_x14 c18 i1u142 r_x161 c162 ex208 dv_x208 ex211 r_x238 c239 ex240) (q1023 p_x5 bb_x5 c9 q_x11 p_x14 bb_x14 c18 i1u142 r_x161 c162 ex208 dv_x208 ex211 r_x238 c239 ex240))
        · refine ⟨fun c241 => ?_, fun c241 => ?_⟩
          · refine ⟨o_v1, ?_⟩
            obtain ⟨a242, ea242, o_a242, l_a242⟩ := shl 15 rfl hI o_v1
            refine ⟨a242, ea242, ?_⟩
            refine ⟨o_a242, ?_⟩
            have i244 : vp_in v3 (hN _ a242) := (vin l_a242 (m := 6) (by decide) (q1024 p_x5 bb_x5 c9 q_x11 p_x14 bb_x14 c18 i1u142 r_x161 c162 ex208 dv_x208 ex211 r_x238 c239 c241))
            obtain ⟨a243, ea243, o_a243⟩ := ae hI o_a242 (by decide) (by decide) i244
            replace o_a243 : ob _ a243 3 := o_a243
            refine ⟨i244, a243, ea243, ?_⟩
            refine ⟨o_v2, ?_⟩
            refine m_X1_wetOf hI o_v2 o_a12 o_a209 o_a243 (fun x245 S246 hJ g247 fc248 => ?_)
            have hM := wm_fr fc248 g247 hI o_v0 (by decide) hM
            have hI := hJ
            have l_a10 := (gr_len g247 o_a10).trans l_a10
            have l_a207 := (gr_len g247 o_a207).trans l_a207
            have l_a242 := (gr_len g247 o_a242).trans l_a242
            have d_v3 := d_v3.trans (fri_at fc248 (by decide) (by decide) o_v0).symm
            have d_x11 := d_x11.trans (fri_at fc248 (by decide) (by decide) o_v0).symm
            have d_x161 := d_x161.trans (fri_at fc248 (by decide) (by decide) o_v1).symm
            have d_x212 := d_x212.trans (fri_at fc248 (by decide) (by decide) o_a12).symm
            have d_x238 := d_x238.trans (fri_at fc248 (by decide) (by decide) o_a12).symm
            have ea10 := (frr_at fc248 (by decide) (by decide) o_v1).trans ea10
            have ea207 := (frr_at fc248 (by decide) (by decide) o_v1).trans ea207
            have ea242 := (frr_at fc248 (by decide) (by decide) o_v1).trans ea242
            have f0 := fri_tr (S := S214) g0 f0 fc248 (by decide) (by decide)
            have fL145 := fri_tr (S := S214) gL144 fL145 fc248 (by decide) (by decide)
            have fL216 := fri_tr (S := S214) gL215 fL216 fc248 (by decide) (by decide)
            have o_a10 := gr_ob g247 o_a10
            have o_a12 := gr_ob g247 o_a12
            have o_a207 := gr_ob g247 o_a207
            have o_a209 := gr_ob g247 o_a209
            have o_a242 := gr_ob g247 o_a242
            have o_a243 := gr_ob g247 o_a243
            have o_v0 := gr_ob g247 o_v0
            have o_v1 := gr_ob g247 o_v1
            have o_v2 := gr_ob g247 o_v2
            have g0 := gr_tr (T := S214) g0 g247
            have gL144 := gr_tr (T := S214) gL144 g247
            have gL215 := gr_tr (T := S214) gL215 g247
            intro _
            refine ⟨a242, ea242, ?_⟩
            refine ⟨o_a242, ?_⟩
            have i251 : vp_in v3 (hN _ a242) := (vin l_a242 (m := 6) (by decide) (q1024 p_x5 bb_x5 c9 q_x11 p_x14 bb_x14 c18 i1u142 r_x161 c162 ex208 dv_x208 ex211 r_x238 c239 c241))
            obtain ⟨a250, ea250, o_a250⟩ := ae hI o_a242 (by decide) (by decide) i251
            replace o_a250 : ob _ a250 3 := o_a250
            refine ⟨i251, a250, ea250, ?_⟩
            refine ⟨o_a250, ?_⟩
            intro x252 ex252
            have d_x252 := ex252
            refine u_X7_price_134 ?_
            intro x253 ex253
            refine ⟨o_v0, ?_⟩
            refine m_X7_addLeg hI o_v0 o_a209 hM (fun S255 hJ g256 fc257 p_S255 => ?_)
            have hM := p_S255
            have hI := hJ
            have l_a10 := (gr_len g256 o_a10).trans l_a10
            have l_a207 := (gr_len g256 o_a207).trans l_a207
            have l_a242 := (gr_len g256 o_a242).trans l_a242
            have d_v3 := d_v3.trans (fri_at fc257 (by decide) (by decide) o_v0).symm
            have d_x11 := d_x11.trans (fri_at fc257 (by decide) (by decide) o_v0).symm
            have d_x161 := d_x161.trans (fri_at fc257 (by decide) (by decide) o_v1).symm
            have d_x212 := d_x212.trans (fri_at fc257 (by decide) (by decide) o_a12).symm
            have d_x238 := d_x238.trans (fri_at fc257 (by decide) (by decide) o_a12).symm
            have d_x252 := d_x252.trans (fri_at fc257 (by decide) (by decide) o_a250).symm
            have ea10 := (frr_at fc257 (by decide) (by decide) o_v1).trans ea10
            have ea207 := (frr_at fc257 (by decide) (by decide) o_v1).trans ea207
            have ea242 := (frr_at fc257 (by decide) (by decide) o_v1).trans ea242
            have f0 := fri_tr (S := S246) g0 f0 fc257 (by decide) (by decide)
            have fL145 := fri_tr (S := S246) gL144 fL145 fc257 (by decide) (by decide)
            have fL216 := fri_tr (S := S246) gL215 fL216 fc257 (by decide) (by decide)
            have o_a10 := gr_ob g256 o_a10
            have o_a12 := gr_ob g256 o_a12
            have o_a207 := gr_ob g256 o_a207
            have o_a209 := gr_ob g256 o_a209
            have o_a242 := gr_ob g256 o_a242
            have o_a243 := gr_ob g256 o_a243
            have o_a250 := gr_ob g256 o_a250
            have o_v0 := gr_ob g256 o_v0
            have o_v1 := gr_ob g256 o_v1
            have o_v2 := gr_ob g256 o_v2
            have g0 := gr_tr (T := S246) g0 g256
            have gL144 := gr_tr (T := S246) gL144 g256
            have gL215 := gr_tr (T := S246) gL215 g256
            intro _
            intro x258 ex258
            exact ih237 _ _ _ _ _ _ _ _ _ _ _ ⟨hI, gL215, fL216, rfl, rfl, rfl, rfl, rfl, rfl, rfl, rfl, rfl, hM⟩ (mu_up (q1025 p_x5 bb_x5 c9 q_x11 p_x14 bb_x14 c18 i1u142 r_x161 c162 ex208 dv_x208 ex211 r_x238 c239 c241 ex253 ex258) (q1026 p_x5 bb_x5 c9 q_x11 p_x14 bb_x14 c18 i1u142 r_x161 c162 ex208 dv_x208 ex211 r_x238 c239 c241 ex253 ex258))
          · refine u_X7_price_134 ?_
            intro x259 ex259
            refine ⟨o_v0, ?_⟩
            refine m_X7_addLeg hI o_v0 o_a209 hM (fun S261 hJ g262 fc263 p_S261 => ?_)
            have hM := p_S261
            have hI := hJ
            have l_a10 := (gr_len g262 o_a10).trans l_a10
            have l_a207 := (gr_len g262 o_a207).trans l_a207
            have d_v3 := d_v3.trans (fri_at fc263 (by decide) (by decide) o_v0).symm
            have d_x11 := d_x11.trans (fri_at fc263 (by decide) (by decide) o_v0).symm
            have d_x161 := d_x161.trans (fri_at fc263 (by decide) (by decide) o_v1).symm
            have d_x212 := d_x212.trans (fri_at fc263 (by decide) (by decide) o_a12).symm
            have d_x238 := d_x238.trans (fri_at fc263 (by decide) (by decide) o_a12).symm
            have ea10 := (frr_at fc263 (by decide) (by decide) o_v1).trans ea10
            have ea207 := (frr_at fc263 (by decide) (by decide) o_v1).trans ea207
            have f0 := fri_tr (S := S214) g0 f0 fc263 (by decide) (by decide)
            have fL145 := fri_tr (S := S214) gL144 fL145 fc263 (by decide) (by decide)
            have fL216 := fri_tr (S := S214) gL215 fL216 fc263 (by decide) (by decide)
            have o_a10 := gr_ob g262 o_a10
            have o_a12 := gr_ob g262 o_a12
            have o_a207 := gr_ob g262 o_a207
            have o_a209 := gr_ob g262 o_a209
            have o_v0 := gr_ob g262 o_v0
            have o_v1 := gr_ob g262 o_v1
            have o_v2 := gr_ob g262 o_v2
            have g0 := gr_tr (T := S214) g0 g262
            have gL144 := gr_tr (T := S214) gL144 g262
            have gL215 := gr_tr (T := S214) gL215 g262
            intro _
            intro x264 ex264
            exact ih237 _ _ _ _ _ _ _ _ _ _ _ ⟨hI, gL215, fL216, rfl, rfl, rfl, rfl, rfl, rfl, rfl, rfl, rfl, hM⟩ (mu_up (q1027 p_x5 bb_x5 c9 q_x11 p_x14 bb_x14 c18 i1u142 r_x161 c162 ex208 dv_x208 ex211 r_x238 c239 ex259 ex264) (q1028 p_x5 bb_x5 c9 q_x11 p_x14 bb_x14 c18 i1u142 r_x161 c162 ex208 dv_x208 ex211 r_x238 c239 ex259 ex264))
  · exact hq _ hI g0 f0 hM
