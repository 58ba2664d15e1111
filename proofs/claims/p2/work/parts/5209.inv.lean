set_option maxHeartbeats 4000000 in
set_option maxRecDepth 20000 in
theorem m_X9_wetness {v0 : Nat} {v1 : Int32} {Q : Int64 → HS → Prop} {S : HS} (hI : IV S) (o_v0 : ob S v0 9)     (hq : ∀ (r : Int64) (T : HS), IV T → Gr S T → Q r T) : P_X9_wetness v0 v1 Q S := by
  have g0 := gr_rf S
  refine u_X9_wetness ?_
  refine u_X9_wetness_0 ?_
  refine ⟨o_v0, ?_⟩
  obtain ⟨a1, ea1, o_a1, -⟩ := sh 5 rfl hI o_v0
  refine ⟨a1, ea1, ?_⟩
  refine ⟨o_a1, ?_⟩
  refine m_X0_isOn hI o_a1 (fun x2 S3 hI2 g4 b_x2 p_x2 => ?_)
  subst p_x2
  intro _ _
  have bb_x2 : x2 = 0 ∨ x2 = 1 := b_x2
  refine ⟨fun c5 => ?_, fun c5 => ?_⟩
  · refine u_X9_wetness_27 ?_
    refine ⟨o_v0, ?_⟩
    refine u_X9_refuse ?_
    refine u_X9_refuse_0 ?_
    refine ⟨o_v0, ?_⟩
    have hI := iv_sI (j := 9) (v := (1 : Int32)) hI o_v0 (by decide) (nu_free (by decide))
    intro _
    exact hq _ _ hI g0
  · obtain ⟨a6, ea6, o_a6, -⟩ := sh 1 rfl hI o_v0
    refine ⟨a6, ea6, ?_⟩
    obtain ⟨a7, ea7, o_a7, -⟩ := sh 5 rfl hI o_v0
    refine ⟨a7, ea7, ?_⟩
    refine ⟨o_a7, ?_⟩
    intro x8 ex8
    have r_x8 : (-1 : Int32) ≤ x8 ∧ x8 ≤ (3 : Int32) := by rw [ex8]; exact nu 1 rfl hI o_a7
    refine ⟨o_a6, ?_⟩
    refine m_X8_hasWalker hI o_a6 (fun x9 S10 hI2 g11 b_x9 p_x9 => ?_)
    obtain ⟨z_S10, p_x9⟩ := p_x9
    subst z_S10
    intro _ _
    have bb_x9 : x9 = 0 ∨ x9 = 1 := b_x9
    refine ⟨fun c12 => ?_, fun c12 => ?_⟩
    · have hI := iv_sI (j := 9) (v := (0 : Int32)) hI o_v0 (by decide) (nu_free (by decide))
      obtain ⟨a13, ea13, o_a13, -⟩ := sh 5 rfl hI o_v0
      refine ⟨a13, ea13, ?_⟩
      refine ⟨o_a13, ?_⟩
      obtain ⟨a14, ea14, o_a14, -⟩ := sh 6 rfl hI o_a13
      refine ⟨a14, ea14, ?_⟩
      refine ⟨o_a14, ?_⟩
      refine m_X2_allGot hI o_a14 (fun x15 S16 hI2 g17 p_x15 => ?_)
      subst p_x15
      intro _
      obtain ⟨a18, ea18, o_a18, -⟩ := sh 1 rfl hI o_v0
      refine ⟨a18, ea18, ?_⟩
      refine ⟨o_a18, ?_⟩
      obtain ⟨a19, ea19, o_a19, l_a19⟩ := shl 18 rfl hI o_a18
      refine ⟨a19, ea19, ?_⟩
      obtain ⟨a20, ea20, o_a20, -⟩ := sh 5 rfl hI o_v0
      refine ⟨a20, ea20, ?_⟩
      refine ⟨o_a20, ?_⟩
      intro x21 ex21
      have r_x21 : (-1 : Int32) ≤ x21 ∧ x21 ≤ (3 : Int32) := by rw [ex21]; exact nu 1 rfl hI o_a20
      refine ⟨o_a19, ?_⟩
      have i23 : vp_in x21 (hN _ a19) := (vin l_a19 (m := 4) (by decide) (q131 r_x21))
      obtain ⟨a22, ea22, o_a22⟩ := ae hI o_a19 (by decide) (by decide) i23
      replace o_a22 : ob _ a22 6 := o_a22
      refine ⟨i23, a22, ea22, ?_⟩
      refine m_X9_coatParts hI o_a22 (fun x24 S25 hI2 g26 p_x24 => ?_)
      subst p_x24
      intro _
      intro x27 ex27
      intro x28 ex28
      refine m_X9_fraction hI (fun x29 S30 hI2 g31 p_x29 => ?_)
      subst p_x29
      intro _
      exact hq _ _ hI g0
    · refine u_X9_wetness_27 ?_
      refine ⟨o_v0, ?_⟩
      refine u_X9_refuse ?_
      refine u_X9_refuse_0 ?_
      refine ⟨o_v0, ?_⟩
      have hI := iv_sI (j := 9) (v := (1 : Int32)) hI o_v0 (by decide) (nu_free (by decide))
      intro _
      exact hq _ _ hI g0
set_option maxHeartbeats 4000000 in
set_option maxRecDepth 20000 in
theorem m_X9_where {v0 : Nat} {Q : Int32 → HS → Prop} {S : HS} (hI : IV S) (o_v0 : ob S v0 9)     (hq : ∀ (r : Int32) (T : HS), IV T → Gr S T → (S = T) → Q r T) : P_X9_where v0 Q S := by
  have g0 := gr_rf S
  refine u_X9_where ?_
  refine u_X9_where_0 ?_
  refine ⟨o_v0, ?_⟩
  intro x1 ex1
  refine ⟨fun c2 => ?_, fun c2 => ?_⟩
  · exact hq _ _ hI g0 rfl
  · intro x3 ex3
    exact hq _ _ hI g0 rfl
set_option maxHeartbeats 4000000 in
set_option maxRecDepth 20000 in
theorem m_X9_world {v0 : Nat} {v1 : Int32} {Q : Int32 → HS → Prop} {S : HS} (hI : IV S) (o_v0 : ob S v0 9)     (hq : ∀ (r : Int32) (T : HS), IV T → Gr S T → Q r T) : P_X9_world v0 v1 Q S := by
  have g0 := gr_rf S
  refine u_X9_world ?_
  refine u_X9_world_0 ?_
  refine ⟨fun c1 => ?_, fun c1 => ?_⟩
  · refine u_X9_world_12 ?_
    refine ⟨o_v0, ?_⟩
    refine u_X9_refuse ?_
    refine u_X9_refuse_0 ?_
    refine ⟨o_v0, ?_⟩
    have hI := iv_sI (j := 9) (v := (2 : Int32)) hI o_v0 (by decide) (nu_free (by decide))
    intro _
    exact hq _ _ hI g0
  · refine ⟨o_v0, ?_⟩
    intro x2 ex2
    have r_x2 : (0 : Int32) ≤ x2 ∧ x2 ≤ (900 : Int32) := by rw [ex2]; exact nu 0 rfl hI o_v0
    refine ⟨fun c3 => ?_, fun c3 => ?_⟩
    · obtain ⟨a4, ea4, o_a4, -⟩ := sh 2 rfl hI o_v0
      refine ⟨a4, ea4, ?_⟩
      obtain ⟨a5, ea5, o_a5, l_a5⟩ := shl 0 rfl hI o_v0
      refine ⟨a5, ea5, ?_⟩
      refine ⟨o_a4, ?_⟩
      refine m_X4_read hI o_a4 o_a5 (fun x6 S7 hI g8 b_x6 => ?_)
      have l_a5 := (gr_len g8 o_a5).trans l_a5
      have o_a4 := gr_ob g8 o_a4
      have o_a5 := gr_ob g8 o_a5
      have o_v0 := gr_ob g8 o_v0
      have g0 := gr_tr g0 g8
      intro _ _
      have bb_x6 : x6 = 0 ∨ x6 = 1 := b_x6
      have hI := iv_sI (j := 1) (v := (0 : Int32)) hI o_v0 (by decide) (nu_one (lo := (0 : Int32)) (hi := (900 : Int32)) (by decide) (q39))
      obtain ⟨a9, ea9, o_a9, -⟩ := sh 2 rfl hI o_v0
      refine ⟨a9, ea9, ?_⟩
      refine ⟨o_a9, ?_⟩
      intro x10 ex10
      have hI := iv_sI (j := 7) (v := x10) hI o_v0 (by decide) (nu_free (by decide))
      obtain ⟨a11, ea11, o_a11, -⟩ := sh 2 rfl hI o_v0
      refine ⟨a11, ea11, ?_⟩
      refine ⟨o_a11, ?_⟩
      intro x12 ex12
      have hI := iv_sI (j := 8) (v := x12) hI o_v0 (by decide) (nu_free (by decide))
      refine ⟨fun c13 => ?_, fun c13 => ?_⟩
      · obtain ⟨a14, ea14, o_a14, -⟩ := sh 2 rfl hI o_v0
        refine ⟨a14, ea14, ?_⟩
        obtain ⟨a15, ea15, o_a15, -⟩ := sh 1 rfl hI o_v0
        refine ⟨a15, ea15, ?_⟩
        refine ⟨o_a14, ?_⟩
        refine u_X4_exchange ?_
        refine u_X4_exchange_0 ?_
        refine ⟨o_a14, ?_⟩
        obtain ⟨a16, ea16, o_a16, -⟩ := sh 12 rfl hI o_a14
        refine ⟨a16, ea16, ?_⟩
        have hI := iv_sR (j := 5) (v := a15) hI o_a14 (by decide) (by decide) (sh_one (by decide) ⟨o_a15, Or.inl rfl⟩)
        intro _
        have hI := iv_sR (j := 2) (v := a16) hI o_v0 (by decide) (by decide) (sh_one (by decide) ⟨o_a16, Or.inl rfl⟩)
        obtain ⟨a17, ea17, o_a17, -⟩ := sh 4 rfl hI o_v0
        refine ⟨a17, ea17, ?_⟩
        refine ⟨o_a17, ?_⟩
        refine u_X7_forget ?_
        refine u_X7_forget_0 ?_
        refine ⟨o_a17, ?_⟩
        have hI := iv_sI (j := 10) (v := (-1 : Int32)) hI o_a17 (by decide) (nu_free (by decide))
        intro _
        obtain ⟨a18, ea18, o_a18, -⟩ := sh 5 rfl hI o_v0
        refine ⟨a18, ea18, ?_⟩
        refine ⟨o_a18, ?_⟩
        refine u_X0_end ?_
        refine u_X0_end_0 ?_
        refine ⟨o_a18, ?_⟩
        have hI := iv_sI (j := 0) (v := (-1 : Int32)) hI o_a18 (by decide) (nu_one (lo := (-1 : Int32)) (hi := (3 : Int32)) (by decide) (q40))
        have hI := iv_sI (j := 2) (v := (0 : Int32)) hI o_a18 (by decide) (nu_one (lo := (0 : Int32)) (hi := (16 : Int32)) (by decide) (q41))
        have hI := iv_sI (j := 3) (v := (0 : Int32)) hI o_a18 (by decide) (nu_one (lo := (0 : Int32)) (hi := (3 : Int32)) (by decide) (q42))
        intro _
        obtain ⟨a19, ea19, o_a19, -⟩ := sh 1 rfl hI o_v0
        refine ⟨a19, ea19, ?_⟩
        refine ⟨o_a19, ?_⟩
        intro x20 ex20
        have r_x20 : (0 : Int32) ≤ x20 ∧ x20 ≤ (4 : Int32) := by rw [ex20]; exact nu 14 rfl hI o_a19
        refine u_X9_grant ?_
        refine u_X9_grant_0 ?_
        refine ⟨o_v0, ?_⟩
        have hI := iv_sI (j := 9) (v := (0 : Int32)) hI o_v0 (by decide) (nu_free (by decide))
        intro _
        exact hq _ _ hI g0
      · refine u_X9_refuse ?_
        refine u_X9_refuse_0 ?_
        refine ⟨o_v0, ?_⟩
        have hI := iv_sI (j := 9) (v := (4 : Int32)) hI o_v0 (by decide) (nu_free (by decide))
        intro _
        exact hq _ _ hI g0
    · refine u_X9_world_12 ?_
      refine ⟨o_v0, ?_⟩
      refine u_X9_refuse ?_
      refine u_X9_refuse_0 ?_
      refine ⟨o_v0, ?_⟩
      have hI := iv_sI (j := 9) (v := (2 : Int32)) hI o_v0 (by decide) (nu_free (by decide))
      intro _
      exact hq _ _ hI g0
set_option maxHeartbeats 4000000 in
set_option maxRecDepth 20000 in
theorem m_X9_worst {v0 : Nat} {v1 : Int32} {v2 : Int32} {v3 : Int32} {v4 : Int32} {Q : Int32 → HS → Prop} {S : HS} (hI : IV S) (o_v0 : ob S v0 9)     (hq : ∀ (r : Int32) (T : HS), IV T → Gr S T → Q r T) : P_X9_worst v0 v1 v2 v3 v4 Q S := by
  have g0 := gr_rf S
  refine u_X9_worst ?_
  refine u_X9_worst_0 ?_
  refine ⟨o_v0, ?_⟩
  refine m_X9_tripTrouble hI o_v0 (fun x1 S2 hI2 g3 p_x1 => ?_)
  obtain ⟨z_S2, p_x1⟩ := p_x1
  subst z_S2
  intro _
  refine u_X9_refusedBy ?_
  refine u_X9_refusedBy_0 ?_
  refine ⟨o_v0, ?_⟩
  have hI := iv_sI (j := 9) (v := x1) hI o_v0 (by decide) (nu_free (by decide))
  refine ⟨fun c4 => ?_, fun c4 => ?_⟩
  · intro _ _
    refine ⟨fun c5 => ?_, fun c5 => ?_⟩
    · obtain ⟨a6, ea6, o_a6, -⟩ := sh 3 rfl hI o_v0
      refine ⟨a6, ea6, ?_⟩
      obtain ⟨a7, ea7, o_a7, -⟩ := sh 1 rfl hI o_v0
      refine ⟨a7, ea7, ?_⟩
      refine ⟨o_a7, ?_⟩
      obtain ⟨a8, ea8, o_a8, l_a8⟩ := shl 18 rfl hI o_a7
      refine ⟨a8, ea8, ?_⟩
      refine ⟨o_a8, ?_⟩
      have i10 : vp_in v1 (hN _ a8) := (vin l_a8 (m := 4) (by decide) (q0 p_x1 c4 c5))
      obtain ⟨a9, ea9, o_a9⟩ := ae hI o_a8 (by decide) (by decide) i10
      replace o_a9 : ob _ a9 6 := o_a9
      refine ⟨i10, a9, ea9, ?_⟩
      obtain ⟨a11, ea11, o_a11, -⟩ := sh 1 rfl hI o_v0
      refine ⟨a11, ea11, ?_⟩
      refine ⟨o_a11, ?_⟩
      obtain ⟨a12, ea12, o_a12, l_a12⟩ := shl 17 rfl hI o_a11
      refine ⟨a12, ea12, ?_⟩
      refine ⟨o_a12, ?_⟩
      have i14 : vp_in v2 (hN _ a12) := (vin l_a12 (m := 12) (by decide) (q1 p_x1 c4 c5))
      obtain ⟨a13, ea13, o_a13⟩ := ae hI o_a12 (by decide) (by decide) i14
      replace o_a13 : ob _ a13 5 := o_a13
      refine ⟨i14, a13, ea13, ?_⟩
      obtain ⟨a15, ea15, o_a15, -⟩ := sh 1 rfl hI o_v0
      refine ⟨a15, ea15, ?_⟩
      refine ⟨o_a15, ?_⟩
      obtain ⟨a16, ea16, o_a16, l_a16⟩ := shl 15 rfl hI o_a15
      refine ⟨a16, ea16, ?_⟩
      refine ⟨o_a16, ?_⟩
      have i18 : vp_in v4 (hN _ a16) := (vin l_a16 (m := 6) (by decide) (q2 p_x1 c4 c5))
      obtain ⟨a17, ea17, o_a17⟩ := ae hI o_a16 (by decide) (by decide) i18
      replace o_a17 : ob _ a17 3 := o_a17
      refine ⟨i18, a17, ea17, ?_⟩
      refine ⟨o_a6, ?_⟩
      refine m_X1_worstSpeed hI o_a6 o_a9 o_a13 o_a17 (fun x19 S20 hI g21 => ?_)
      have l_a12 := (gr_len g21 o_a12).trans l_a12
      have l_a16 := (gr_len g21 o_a16).trans l_a16
      have l_a8 := (gr_len g21 o_a8).trans l_a8
      have o_a11 := gr_ob g21 o_a11
      have o_a12 := gr_ob g21 o_a12
      have o_a13 := gr_ob g21 o_a13
      have o_a15 := gr_ob g21 o_a15
      have o_a16 := gr_ob g21 o_a16
      have o_a17 := gr_ob g21 o_a17
      have o_a6 := gr_ob g21 o_a6
      have o_a7 := gr_ob g21 o_a7
      have o_a8 := gr_ob g21 o_a8
      have o_a9 := gr_ob g21 o_a9
      have o_v0 := gr_ob g21 o_v0
      have g0 := gr_tr g0 g21
      intro _
      exact hq _ _ hI g0
    · exact hq _ _ hI g0
  · intro _ _
    refine ⟨fun c22 => ?_, fun c22 => ?_⟩
    · obtain ⟨a23, ea23, o_a23, -⟩ := sh 3 rfl hI o_v0
      refine ⟨a23, ea23, ?_⟩
      obtain ⟨a24, ea24, o_a24, -⟩ := sh 1 rfl hI o_v0
      refine ⟨a24, ea24, ?_⟩
      refine ⟨o_a24, ?_⟩
      obtain ⟨a25, ea25, o_a25, l_a25⟩ := shl 18 rfl hI o_a24
      refine ⟨a25, ea25, ?_⟩
      refine ⟨o_a25, ?_⟩
      have i27 : vp_in v1 (hN _ a25) := (vin l_a25 (m := 4) (by decide) (q3 p_x1 c4 c22))
      obtain ⟨a26, ea26, o_a26⟩ := ae hI o_a25 (by decide) (by decide) i27
      replace o_a26 : ob _ a26 6 := o_a26
      refine ⟨i27, a26, ea26, ?_⟩
      obtain ⟨a28, ea28, o_a28, -⟩ := sh 1 rfl hI o_v0
      refine ⟨a28, ea28, ?_⟩
      refine ⟨o_a28, ?_⟩
      obtain ⟨a29, ea29, o_a29, l_a29⟩ := shl 17 rfl hI o_a28
      refine ⟨a29, ea29, ?_⟩
      refine ⟨o_a29, ?_⟩
      have i31 : vp_in v2 (hN _ a29) := (vin l_a29 (m := 12) (by decide) (q4 p_x1 c4 c22))
      obtain ⟨a30, ea30, o_a30⟩ := ae hI o_a29 (by decide) (by decide) i31
      replace o_a30 : ob _ a30 5 := o_a30
      refine ⟨i31, a30, ea30, ?_⟩
      obtain ⟨a32, ea32, o_a32, -⟩ := sh 1 rfl hI o_v0
      refine ⟨a32, ea32, ?_⟩
      refine ⟨o_a32, ?_⟩
      obtain ⟨a33, ea33, o_a33, l_a33⟩ := shl 15 rfl hI o_a32
      refine ⟨a33, ea33, ?_⟩
      refine ⟨o_a33, ?_⟩
      have i35 : vp_in v4 (hN _ a33) := (vin l_a33 (m := 6) (by decide) (q5 p_x1 c4 c22))
      obtain ⟨a34, ea34, o_a34⟩ := ae hI o_a33 (by decide) (by decide) i35
      replace o_a34 : ob _ a34 3 := o_a34
      refine ⟨i35, a34, ea34, ?_⟩
      refine ⟨o_a23, ?_⟩
      refine m_X1_worstSpeed hI o_a23 o_a26 o_a30 o_a34 (fun x36 S37 hI g38 => ?_)
      have l_a25 := (gr_len g38 o_a25).trans l_a25
      have l_a29 := (gr_len g38 o_a29).trans l_a29
      have l_a33 := (gr_len g38 o_a33).trans l_a33
      have o_a23 := gr_ob g38 o_a23
      have o_a24 := gr_ob g38 o_a24
      have o_a25 := gr_ob g38 o_a25
      have o_a26 := gr_ob g38 o_a26
      have o_a28 := gr_ob g38 o_a28
      have o_a29 := gr_ob g38 o_a29
      have o_a30 := gr_ob g38 o_a30
      have o_a32 := gr_ob g38 o_a32
      have o_a33 := gr_ob g38 o_a33
      have o_a34 := gr_ob g38 o_a34
      have o_v0 := gr_ob g38 o_v0
      have g0 := gr_tr g0 g38
      intro _
      exact hq _ _ hI g0
    · exact hq _ _ hI g0
