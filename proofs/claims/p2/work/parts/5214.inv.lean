set_option maxHeartbeats 4000000 in
set_option maxRecDepth 20000 in
theorem m_X9_road {v0 : Nat} {v1 : Int32} {v2 : Int32} {Q : Int32 → HS → Prop} {S : HS} (hI : IV S) (o_v0 : ob S v0 9)     (hq : ∀ (r : Int32) (T : HS), IV T → Gr S T → FRI [(9, 9)] [] S T → Q r T) : P_X9_road v0 v1 v2 Q S := by
  have g0 := gr_rf S
  have f0 := fri_rf [(9, 9)] [] S
  refine u_X9_road ?_
  refine u_X9_road_0 ?_
  refine ⟨o_v0, ?_⟩
  obtain ⟨a1, ea1, o_a1, -⟩ := sh 1 rfl hI o_v0
  refine ⟨a1, ea1, ?_⟩
  refine ⟨o_a1, ?_⟩
  refine m_X8_hasRoad hI o_a1 (fun x2 S3 hI2 g4 b_x2 p_x2 => ?_)
  obtain ⟨z_S3, p_x2⟩ := p_x2
  subst z_S3
  intro _ _
  have bb_x2 : x2 = 0 ∨ x2 = 1 := b_x2
  refine ⟨fun c6 => ?_, fun c6 => ?_⟩
  · refine u_X9_road_20 ?_
    refine ⟨o_v0, ?_⟩
    refine u_X9_refuse ?_
    refine u_X9_refuse_0 ?_
    refine ⟨o_v0, ?_⟩
    have hI := iv_sI (j := 9) (v := (1 : Int32)) hI o_v0 (by decide) (nu_free (by decide))
    have f0 : FRI _ _ _ (sI S v0 9 (1 : Int32)) := fri_sI (S := S) g0 f0 o_v0 (by decide)
    obtain ⟨y7, hy7⟩ : ∃ z : Int32, z = (1 : Int32) := ⟨_, rfl⟩
    have d_y7 : y7 = fI (sI S v0 9 (1 : Int32)) v0 9 := hy7.trans (u2_self _ _ _ _).symm
    intro _
    exact hq _ _ hI g0 f0
  · refine ⟨fun c8 => ?_, fun c8 => ?_⟩
    · refine u_X9_road_20 ?_
      refine ⟨o_v0, ?_⟩
      refine u_X9_refuse ?_
      refine u_X9_refuse_0 ?_
      refine ⟨o_v0, ?_⟩
      have hI := iv_sI (j := 9) (v := (1 : Int32)) hI o_v0 (by decide) (nu_free (by decide))
      have f0 : FRI _ _ _ (sI S v0 9 (1 : Int32)) := fri_sI (S := S) g0 f0 o_v0 (by decide)
      obtain ⟨y9, hy9⟩ : ∃ z : Int32, z = (1 : Int32) := ⟨_, rfl⟩
      have d_y9 : y9 = fI (sI S v0 9 (1 : Int32)) v0 9 := hy9.trans (u2_self _ _ _ _).symm
      intro _
      exact hq _ _ hI g0 f0
    · refine ⟨fun c10 => ?_, fun c10 => ?_⟩
      · refine ⟨a1, ea1, ?_⟩
        refine ⟨o_a1, ?_⟩
        obtain ⟨a12, ea12, o_a12, l_a12⟩ := shl 17 rfl hI o_a1
        refine ⟨a12, ea12, ?_⟩
        refine ⟨o_a12, ?_⟩
        have i14 : vp_in v1 (hN _ a12) := (vin l_a12 (m := 12) (by decide) (q479 p_x2 bb_x2 c6 c8 c10))
        obtain ⟨a13, ea13, o_a13⟩ := ae hI o_a12 (by decide) (by decide) i14
        replace o_a13 : ob _ a13 5 := o_a13
        refine ⟨i14, a13, ea13, ?_⟩
        refine ⟨o_a13, ?_⟩
        refine m_X5_tell hI o_a13 (fun x15 S16 hI2 g17 p_x15 => ?_)
        subst p_x15
        intro _
        refine u_X9_grant ?_
        refine u_X9_grant_0 ?_
        refine ⟨o_v0, ?_⟩
        have hI := iv_sI (j := 9) (v := (0 : Int32)) hI o_v0 (by decide) (nu_free (by decide))
        have f0 : FRI _ _ _ (sI S v0 9 (0 : Int32)) := fri_sI (S := S) g0 f0 o_v0 (by decide)
        obtain ⟨y19, hy19⟩ : ∃ z : Int32, z = (0 : Int32) := ⟨_, rfl⟩
        have d_y19 : y19 = fI (sI S v0 9 (0 : Int32)) v0 9 := hy19.trans (u2_self _ _ _ _).symm
        intro _
        exact hq _ _ hI g0 f0
      · refine u_X9_road_20 ?_
        refine ⟨o_v0, ?_⟩
        refine u_X9_refuse ?_
        refine u_X9_refuse_0 ?_
        refine ⟨o_v0, ?_⟩
        have hI := iv_sI (j := 9) (v := (1 : Int32)) hI o_v0 (by decide) (nu_free (by decide))
        have f0 : FRI _ _ _ (sI S v0 9 (1 : Int32)) := fri_sI (S := S) g0 f0 o_v0 (by decide)
        obtain ⟨y20, hy20⟩ : ∃ z : Int32, z = (1 : Int32) := ⟨_, rfl⟩
        have d_y20 : y20 = fI (sI S v0 9 (1 : Int32)) v0 9 := hy20.trans (u2_self _ _ _ _).symm
        intro _
        exact hq _ _ hI g0 f0
set_option maxHeartbeats 4000000 in
set_option maxRecDepth 20000 in
theorem m_X9_round {v0 : Nat} {v1 : Int32} {v2 : Int32} {v3 : Int32} {v4 : Int32} {Q : Int64 → HS → Prop} {S : HS} (hI : IV S) (o_v0 : ob S v0 9)     (hq : ∀ (r : Int64) (T : HS), IV T → Gr S T → FRI [(9, 9)] [] S T → Q r T) : P_X9_round v0 v1 v2 v3 v4 Q S := by
  have g0 := gr_rf S
  have f0 := fri_rf [(9, 9)] [] S
  refine u_X9_round ?_
  refine u_X9_round_0 ?_
  refine ⟨o_v0, ?_⟩
  refine m_X9_tripTrouble hI o_v0 (fun x1 S2 hI2 g3 p_x1 => ?_)
  obtain ⟨z_S2, p_x1⟩ := p_x1
  subst z_S2
  intro _
  refine u_X9_refusedBy ?_
  refine u_X9_refusedBy_0 ?_
  refine ⟨o_v0, ?_⟩
  have hI := iv_sI (j := 9) (v := x1) hI o_v0 (by decide) (nu_free (by decide))
  have f0 : FRI _ _ _ (sI S v0 9 x1) := fri_sI (S := S) g0 f0 o_v0 (by decide)
  have d_x1 : x1 = fI (sI S v0 9 x1) v0 9 := (u2_self _ _ _ _).symm
  refine ⟨fun c5 => ?_, fun c5 => ?_⟩
  · intro _ _
    refine ⟨fun c6 => ?_, fun c6 => ?_⟩
    · obtain ⟨a7, ea7, o_a7, -⟩ := sh 3 rfl hI o_v0
      refine ⟨a7, ea7, ?_⟩
      obtain ⟨a8, ea8, o_a8, -⟩ := sh 1 rfl hI o_v0
      refine ⟨a8, ea8, ?_⟩
      refine ⟨o_a8, ?_⟩
      obtain ⟨a9, ea9, o_a9, l_a9⟩ := shl 18 rfl hI o_a8
      refine ⟨a9, ea9, ?_⟩
      refine ⟨o_a9, ?_⟩
      have i11 : vp_in v1 (hN _ a9) := (vin l_a9 (m := 4) (by decide) (q0 p_x1 c5))
      obtain ⟨a10, ea10, o_a10⟩ := ae hI o_a9 (by decide) (by decide) i11
      replace o_a10 : ob _ a10 6 := o_a10
      refine ⟨i11, a10, ea10, ?_⟩
      refine ⟨a8, ea8, ?_⟩
      refine ⟨o_a8, ?_⟩
      obtain ⟨a13, ea13, o_a13, l_a13⟩ := shl 17 rfl hI o_a8
      refine ⟨a13, ea13, ?_⟩
      refine ⟨o_a13, ?_⟩
      have i15 : vp_in v2 (hN _ a13) := (vin l_a13 (m := 12) (by decide) (q1 p_x1 c5))
      obtain ⟨a14, ea14, o_a14⟩ := ae hI o_a13 (by decide) (by decide) i15
      replace o_a14 : ob _ a14 5 := o_a14
      refine ⟨i15, a14, ea14, ?_⟩
      refine ⟨a8, ea8, ?_⟩
      refine ⟨o_a8, ?_⟩
      obtain ⟨a17, ea17, o_a17, l_a17⟩ := shl 15 rfl hI o_a8
      refine ⟨a17, ea17, ?_⟩
      refine ⟨o_a17, ?_⟩
      have i19 : vp_in v3 (hN _ a17) := (vin l_a17 (m := 6) (by decide) (q2 p_x1 c5))
      obtain ⟨a18, ea18, o_a18⟩ := ae hI o_a17 (by decide) (by decide) i19
      replace o_a18 : ob _ a18 3 := o_a18
      refine ⟨i19, a18, ea18, ?_⟩
      refine ⟨o_a7, ?_⟩
      refine m_X1_leastWet hI o_a7 o_a10 o_a14 o_a18 (fun x20 S21 hI g22 fc23 => ?_)
      have l_a13 := (gr_len g22 o_a13).trans l_a13
      have l_a17 := (gr_len g22 o_a17).trans l_a17
      have l_a9 := (gr_len g22 o_a9).trans l_a9
      have d_x1 := d_x1.trans (fri_at fc23 (by decide) (by decide) o_v0).symm
      have ea7 := (frr_at fc23 (by decide) (by decide) o_v0).trans ea7
      have ea8 := (frr_at fc23 (by decide) (by decide) o_v0).trans ea8
      have ea9 := (frr_at fc23 (by decide) (by decide) o_a8).trans ea9
      have ea13 := (frr_at fc23 (by decide) (by decide) o_a8).trans ea13
      have ea17 := (frr_at fc23 (by decide) (by decide) o_a8).trans ea17
      have f0 := fri_tr (S := sI S v0 9 x1) g0 f0 fc23 (by decide) (by decide)
      have o_a10 := gr_ob g22 o_a10
      have o_a13 := gr_ob g22 o_a13
      have o_a14 := gr_ob g22 o_a14
      have o_a17 := gr_ob g22 o_a17
      have o_a18 := gr_ob g22 o_a18
      have o_a7 := gr_ob g22 o_a7
      have o_a8 := gr_ob g22 o_a8
      have o_a9 := gr_ob g22 o_a9
      have o_v0 := gr_ob g22 o_v0
      have g0 := gr_tr (T := sI S v0 9 x1) g0 g22
      intro _
      refine ⟨a7, ea7, ?_⟩
      refine ⟨a8, ea8, ?_⟩
      refine ⟨o_a8, ?_⟩
      refine ⟨a9, ea9, ?_⟩
      refine ⟨o_a9, ?_⟩
      have i28 : vp_in v1 (hN _ a9) := (vin l_a9 (m := 4) (by decide) (q0 p_x1 c5))
      obtain ⟨a27, ea27, o_a27⟩ := ae hI o_a9 (by decide) (by decide) i28
      replace o_a27 : ob _ a27 6 := o_a27
      refine ⟨i28, a27, ea27, ?_⟩
      refine ⟨a8, ea8, ?_⟩
      refine ⟨o_a8, ?_⟩
      refine ⟨a13, ea13, ?_⟩
      refine ⟨o_a13, ?_⟩
      have i32 : vp_in v2 (hN _ a13) := (vin l_a13 (m := 12) (by decide) (q1 p_x1 c5))
      obtain ⟨a31, ea31, o_a31⟩ := ae hI o_a13 (by decide) (by decide) i32
      replace o_a31 : ob _ a31 5 := o_a31
      refine ⟨i32, a31, ea31, ?_⟩
      refine ⟨a8, ea8, ?_⟩
      refine ⟨o_a8, ?_⟩
      refine ⟨a17, ea17, ?_⟩
      refine ⟨o_a17, ?_⟩
      have i36 : vp_in v3 (hN _ a17) := (vin l_a17 (m := 6) (by decide) (q2 p_x1 c5))
      obtain ⟨a35, ea35, o_a35⟩ := ae hI o_a17 (by decide) (by decide) i36
      replace o_a35 : ob _ a35 3 := o_a35
      refine ⟨i36, a35, ea35, ?_⟩
      refine ⟨o_a7, ?_⟩
      refine m_X1_leastWet hI o_a7 o_a27 o_a31 o_a35 (fun x37 S38 hI g39 fc40 => ?_)
      have l_a13 := (gr_len g39 o_a13).trans l_a13
      have l_a17 := (gr_len g39 o_a17).trans l_a17
      have l_a9 := (gr_len g39 o_a9).trans l_a9
      have d_x1 := d_x1.trans (fri_at fc40 (by decide) (by decide) o_v0).symm
      have ea7 := (frr_at fc40 (by decide) (by decide) o_v0).trans ea7
      have ea8 := (frr_at fc40 (by decide) (by decide) o_v0).trans ea8
      have ea9 := (frr_at fc40 (by decide) (by decide) o_a8).trans ea9
      have ea13 := (frr_at fc40 (by decide) (by decide) o_a8).trans ea13
      have ea17 := (frr_at fc40 (by decide) (by decide) o_a8).trans ea17
      have f0 := fri_tr (S := S21) g0 f0 fc40 (by decide) (by decide)
      have o_a10 := gr_ob g39 o_a10
      have o_a13 := gr_ob g39 o_a13
      have o_a14 := gr_ob g39 o_a14
      have o_a17 := gr_ob g39 o_a17
      have o_a18 := gr_ob g39 o_a18
      have o_a27 := gr_ob g39 o_a27
      have o_a31 := gr_ob g39 o_a31
      have o_a35 := gr_ob g39 o_a35
      have o_a7 := gr_ob g39 o_a7
      have o_a8 := gr_ob g39 o_a8
      have o_a9 := gr_ob g39 o_a9
      have o_v0 := gr_ob g39 o_v0
      have g0 := gr_tr (T := S21) g0 g39
      intro _
      refine m_X9_fraction hI (fun x41 S42 hI2 g43 p_x41 => ?_)
      subst p_x41
      intro _
      exact hq _ _ hI g0 f0
    · exact hq _ _ hI g0 f0
  · intro _ _
    refine ⟨fun c45 => ?_, fun c45 => ?_⟩
    · obtain ⟨a46, ea46, o_a46, -⟩ := sh 3 rfl hI o_v0
      refine ⟨a46, ea46, ?_⟩
      obtain ⟨a47, ea47, o_a47, -⟩ := sh 1 rfl hI o_v0
      refine ⟨a47, ea47, ?_⟩
      refine ⟨o_a47, ?_⟩
      obtain ⟨a48, ea48, o_a48, l_a48⟩ := shl 18 rfl hI o_a47
      refine ⟨a48, ea48, ?_⟩
      refine ⟨o_a48, ?_⟩
      have i50 : vp_in v1 (hN _ a48) := (vin l_a48 (m := 4) (by decide) (q3 p_x1 c5 c45))
      obtain ⟨a49, ea49, o_a49⟩ := ae hI o_a48 (by decide) (by decide) i50
      replace o_a49 : ob _ a49 6 := o_a49
      refine ⟨i50, a49, ea49, ?_⟩
      refine ⟨a47, ea47, ?_⟩
      refine ⟨o_a47, ?_⟩
      obtain ⟨a52, ea52, o_a52, l_a52⟩ := shl 17 rfl hI o_a47
      refine ⟨a52, ea52, ?_⟩
      refine ⟨o_a52, ?_⟩
      have i54 : vp_in v2 (hN _ a52) := (vin l_a52 (m := 12) (by decide) (q4 p_x1 c5 c45))
      obtain ⟨a53, ea53, o_a53⟩ := ae hI o_a52 (by decide) (by decide) i54
      replace o_a53 : ob _ a53 5 := o_a53
      refine ⟨i54, a53, ea53, ?_⟩
      refine ⟨a47, ea47, ?_⟩
      refine ⟨o_a47, ?_⟩
      obtain ⟨a56, ea56, o_a56, l_a56⟩ := shl 15 rfl hI o_a47
      refine ⟨a56, ea56, ?_⟩
      refine ⟨o_a56, ?_⟩
      have i58 : vp_in v3 (hN _ a56) := (vin l_a56 (m := 6) (by decide) (q5 p_x1 c5 c45))
      obtain ⟨a57, ea57, o_a57⟩ := ae hI o_a56 (by decide) (by decide) i58
      replace o_a57 : ob _ a57 3 := o_a57
      refine ⟨i58, a57, ea57, ?_⟩
      refine ⟨o_a46, ?_⟩
      refine m_X1_leastWet hI o_a46 o_a49 o_a53 o_a57 (fun x59 S60 hI g61 fc62 => ?_)
      have l_a48 := (gr_len g61 o_a48).trans l_a48
      have l_a52 := (gr_len g61 o_a52).trans l_a52
      have l_a56 := (gr_len g61 o_a56).trans l_a56
      have d_x1 := d_x1.trans (fri_at fc62 (by decide) (by decide) o_v0).symm
      have ea46 := (frr_at fc62 (by decide) (by decide) o_v0).trans ea46
      have ea47 := (frr_at fc62 (by decide) (by decide) o_v0).trans ea47
      have ea48 := (frr_at fc62 (by decide) (by decide) o_a47).trans ea48
      have ea52 := (frr_at fc62 (by decide) (by decide) o_a47).trans ea52
      have ea56 := (frr_at fc62 (by decide) (by decide) o_a47).trans ea56
      have f0 := fri_tr (S := sI S v0 9 x1) g0 f0 fc62 (by decide) (by decide)
      have o_a46 := gr_ob g61 o_a46
      have o_a47 := gr_ob g61 o_a47
      have o_a48 := gr_ob g61 o_a48
      have o_a49 := gr_ob g61 o_a49
      have o_a52 := gr_ob g61 o_a52
      have o_a53 := gr_ob g61 o_a53
      have o_a56 := gr_ob g61 o_a56
      have o_a57 := gr_ob g61 o_a57
      have o_v0 := gr_ob g61 o_v0
      have g0 := gr_tr (T := sI S v0 9 x1) g0 g61
      intro _
      refine ⟨a46, ea46, ?_⟩
      refine ⟨a47, ea47, ?_⟩
      refine ⟨o_a47, ?_⟩
      refine ⟨a48, ea48, ?_⟩
      refine ⟨o_a48, ?_⟩
      have i67 : vp_in v1 (hN _ a48) := (vin l_a48 (m := 4) (by decide) (q3 p_x1 c5 c45))
      obtain ⟨a66, ea66, o_a66⟩ := ae hI o_a48 (by decide) (by decide) i67
      replace o_a66 : ob _ a66 6 := o_a66
      refine ⟨i67, a66, ea66, ?_⟩
      refine ⟨a47, ea47, ?_⟩
      refine ⟨o_a47, ?_⟩
      refine ⟨a52, ea52, ?_⟩
      refine ⟨o_a52, ?_⟩
      have i71 : vp_in v2 (hN _ a52) := (vin l_a52 (m := 12) (by decide) (q4 p_x1 c5 c45))
      obtain ⟨a70, ea70, o_a70⟩ := ae hI o_a52 (by decide) (by decide) i71
      replace o_a70 : ob _ a70 5 := o_a70
      refine ⟨i71, a70, ea70, ?_⟩
      refine ⟨a47, ea47, ?_⟩
      refine ⟨o_a47, ?_⟩
      refine ⟨a56, ea56, ?_⟩
      refine ⟨o_a56, ?_⟩
      have i75 : vp_in v3 (hN _ a56) := (vin l_a56 (m := 6) (by decide) (q5 p_x1 c5 c45))
      obtain ⟨a74, ea74, o_a74⟩ := ae hI o_a56 (by decide) (by decide) i75
      replace o_a74 : ob _ a74 3 := o_a74
      refine ⟨i75, a74, ea74, ?_⟩
      refine ⟨o_a46, ?_⟩
      refine m_X1_leastWet hI o_a46 o_a66 o_a70 o_a74 (fun x76 S77 hI g78 fc79 => ?_)
      have l_a48 := (gr_len g78 o_a48).trans l_a48
      have l_a52 := (gr_len g78 o_a52).trans l_a52
      have l_a56 := (gr_len g78 o_a56).trans l_a56
      have d_x1 := d_x1.trans (fri_at fc79 (by decide) (by decide) o_v0).symm
      have ea46 := (frr_at fc79 (by decide) (by decide) o_v0).trans ea46
      have ea47 := (frr_at fc79 (by decide) (by decide) o_v0).trans ea47
      have ea48 := (frr_at fc79 (by decide) (by decide) o_a47).trans ea48
      have ea52 := (frr_at fc79 (by decide) (by decide) o_a47).trans ea52
      have ea56 := (frr_at fc79 (by decide) (by decide) o_a47).trans ea56
      have f0 := fri_tr (S := S60) g0 f0 fc79 (by decide) (by decide)
      have o_a46 := gr_ob g78 o_a46
      have o_a47 := gr_ob g78 o_a47
      have o_a48 := gr_ob g78 o_a48
      have o_a49 := gr_ob g78 o_a49
      have o_a52 := gr_ob g78 o_a52
      have o_a53 := gr_ob g78 o_a53
      have o_a56 := gr_ob g78 o_a56
      have o_a57 := gr_ob g78 o_a57
      have o_a66 := gr_ob g78 o_a66
      have o_a70 := gr_ob g78 o_a70
      have o_a74 := gr_ob g78 o_a74
      have o_v0 := gr_ob g78 o_v0
      have g0 := gr_tr (T := S60) g0 g78
      intro _
      refine m_X9_fraction hI (fun x80 S81 hI2 g82 p_x80 => ?_)
      subst p_x80
      intro _
      exact hq _ _ hI g0 f0
    · exact hq _ _ hI g0 f0
set_option maxHeartbeats 4000000 in
set_option maxRecDepth 20000 in
theorem m_X9_saves {v0 : Nat} {v1 : Int32} {v2 : Int32} {v3 : Int32} {v4 : Int32} {v5 : Int32} {Q : Int64 → HS → Prop} {S : HS} (hI : IV S) (o_v0 : ob S v0 9)     (hq : ∀ (r : Int64) (T : HS), IV T → Gr S T → FRI [(9, 9)] [] S T → Q r T) : P_X9_saves v0 v1 v2 v3 v4 v5 Q S := by
  have g0 := gr_rf S
  have f0 := fri_rf [(9, 9)] [] S
  refine u_X9_saves ?_
  refine u_X9_saves_0 ?_
  refine ⟨o_v0, ?_⟩
  refine m_X9_tripTrouble hI o_v0 (fun x1 S2 hI2 g3 p_x1 => ?_)
  obtain ⟨z_S2, p_x1⟩ := p_x1
  subst z_S2
  intro _
  refine u_X9_refusedBy ?_
  refine u_X9_refusedBy_0 ?_
  refine ⟨o_v0, ?_⟩
  have hI := iv_sI (j := 9) (v := x1) hI o_v0 (by decide) (nu_free (by decide))
  have f0 : FRI _ _ _ (sI S v0 9 x1) := fri_sI (S := S) g0 f0 o_v0 (by decide)
  have d_x1 : x1 = fI (sI S v0 9 x1) v0 9 := (u2_self _ _ _ _).symm
  refine ⟨fun c5 => ?_, fun c5 => ?_⟩
  · intro _ _
    refine ⟨fun c6 => ?_, fun c6 => ?_⟩
    · obtain ⟨a7, ea7, o_a7, -⟩ := sh 1 rfl hI o_v0
      refine ⟨a7, ea7, ?_⟩
      refine ⟨o_a7, ?_⟩
      obtain ⟨a8, ea8, o_a8, l_a8⟩ := shl 18 rfl hI o_a7
      refine ⟨a8, ea8, ?_⟩
      refine ⟨o_a8, ?_⟩
      have i10 : vp_in v1 (hN _ a8) := (vin l_a8 (m := 4) (by decide) (q0 p_x1 c5))
      obtain ⟨a9, ea9, o_a9⟩ := ae hI o_a8 (by decide) (by decide) i10
      replace o_a9 : ob _ a9 6 := o_a9
      refine ⟨i10, a9, ea9, ?_⟩
      obtain ⟨a11, ea11, o_a11, -⟩ := sh 3 rfl hI o_v0
      refine ⟨a11, ea11, ?_⟩
      refine ⟨a7, ea7, ?_⟩
      refine ⟨o_a7, ?_⟩
      obtain ⟨a13, ea13, o_a13, l_a13⟩ := shl 17 rfl hI o_a7
      refine ⟨a13, ea13, ?_⟩
      refine ⟨o_a13, ?_⟩
      have i15 : vp_in v2 (hN _ a13) := (vin l_a13 (m := 12) (by decide) (q1 p_x1 c5))
      obtain ⟨a14, ea14, o_a14⟩ := ae hI o_a13 (by decide) (by decide) i15
      replace o_a14 : ob _ a14 5 := o_a14
      refine ⟨i15, a14, ea14, ?_⟩
      refine ⟨a7, ea7, ?_⟩
      refine ⟨o_a7, ?_⟩
      obtain ⟨a17, ea17, o_a17, l_a17⟩ := shl 15 rfl hI o_a7
      refine ⟨a17, ea17, ?_⟩
      refine ⟨o_a17, ?_⟩
      have i19 : vp_in v4 (hN _ a17) := (vin l_a17 (m := 6) (by decide) (q2 p_x1 c5))
      obtain ⟨a18, ea18, o_a18⟩ := ae hI o_a17 (by decide) (by decide) i19
      replace o_a18 : ob _ a18 3 := o_a18
      refine ⟨i19, a18, ea18, ?_⟩
      refine ⟨o_a9, ?_⟩
      intro x20 ex20
      have r_x20 : (0 : Int32) ≤ x20 ∧ x20 ≤ (9 : Int32) := by rw [ex20]; exact nu 4 rfl hI o_a9
      have d_x20 := ex20
      refine ⟨o_a11, ?_⟩
      refine m_X1_wetOf hI o_a11 o_a9 o_a14 o_a18 (fun x21 S22 hI g23 fc24 => ?_)
      have l_a13 := (gr_len g23 o_a13).trans l_a13
      have l_a17 := (gr_len g23 o_a17).trans l_a17
      have l_a8 := (gr_len g23 o_a8).trans l_a8
      have d_x1 := d_x1.trans (fri_at fc24 (by decide) (by decide) o_v0).symm
      have d_x20 := d_x20.trans (fri_at fc24 (by decide) (by decide) o_a9).symm
      have ea7 := (frr_at fc24 (by decide) (by decide) o_v0).trans ea7
      have ea8 := (frr_at fc24 (by decide) (by decide) o_a7).trans ea8
      have ea11 := (frr_at fc24 (by decide) (by decide) o_v0).trans ea11
      have ea13 := (frr_at fc24 (by decide) (by decide) o_a7).trans ea13
      have ea17 := (frr_at fc24 (by decide) (by decide) o_a7).trans ea17
      have f0 := fri_tr (S := sI S v0 9 x1) g0 f0 fc24 (by decide) (by decide)
      have o_a11 := gr_ob g23 o_a11
      have o_a13 := gr_ob g23 o_a13
      have o_a14 := gr_ob g23 o_a14
      have o_a17 := gr_ob g23 o_a17
      have o_a18 := gr_ob g23 o_a18
      have o_a7 := gr_ob g23 o_a7
      have o_a8 := gr_ob g23 o_a8
      have o_a9 := gr_ob g23 o_a9
      have o_v0 := gr_ob g23 o_v0
      have g0 := gr_tr (T := sI S v0 9 x1) g0 g23
      intro _
      refine ⟨a11, ea11, ?_⟩
      refine ⟨a7, ea7, ?_⟩
      refine ⟨o_a7, ?_⟩
      refine ⟨a13, ea13, ?_⟩
      refine ⟨o_a13, ?_⟩
      have i29 : vp_in v2 (hN _ a13) := (vin l_a13 (m := 12) (by decide) (q1 p_x1 c5))
      obtain ⟨a28, ea28, o_a28⟩ := ae hI o_a13 (by decide) (by decide) i29
      replace o_a28 : ob _ a28 5 := o_a28
      refine ⟨i29, a28, ea28, ?_⟩
      refine ⟨a7, ea7, ?_⟩
      refine ⟨o_a7, ?_⟩
      refine ⟨a17, ea17, ?_⟩
      refine ⟨o_a17, ?_⟩
      have i33 : vp_in v4 (hN _ a17) := (vin l_a17 (m := 6) (by decide) (q2 p_x1 c5))
      obtain ⟨a32, ea32, o_a32⟩ := ae hI o_a17 (by decide) (by decide) i33
      replace o_a32 : ob _ a32 3 := o_a32
      refine ⟨i33, a32, ea32, ?_⟩
      refine ⟨o_a11, ?_⟩
      refine m_X1_leastWet hI o_a11 o_a9 o_a28 o_a32 (fun x34 S35 hI g36 fc37 => ?_)
      have l_a13 := (gr_len g36 o_a13).trans l_a13
      have l_a17 := (gr_len g36 o_a17).trans l_a17
      have l_a8 := (gr_len g36 o_a8).trans l_a8
      have d_x1 := d_x1.trans (fri_at fc37 (by decide) (by decide) o_v0).symm
      have d_x20 := d_x20.trans (fri_at fc37 (by decide) (by decide) o_a9).symm
      have ea7 := (frr_at fc37 (by decide) (by decide) o_v0).trans ea7
      have ea8 := (frr_at fc37 (by decide) (by decide) o_a7).trans ea8
      have ea11 := (frr_at fc37 (by decide) (by decide) o_v0).trans ea11
      have ea13 := (frr_at fc37 (by decide) (by decide) o_a7).trans ea13
      have ea17 := (frr_at fc37 (by decide) (by decide) o_a7).trans ea17
      have f0 := fri_tr (S := S22) g0 f0 fc37 (by decide) (by decide)
      have o_a11 := gr_ob g36 o_a11
      have o_a13 := gr_ob g36 o_a13
      have o_a14 := gr_ob g36 o_a14
      have o_a17 := gr_ob g36 o_a17
      have o_a18 := gr_ob g36 o_a18
      have o_a28 := gr_ob g36 o_a28
      have o_a32 := gr_ob g36 o_a32
      have o_a7 := gr_ob g36 o_a7
      have o_a8 := gr_ob g36 o_a8
      have o_a9 := gr_ob g36 o_a9
      have o_v0 := gr_ob g36 o_v0
      have g0 := gr_tr (T := S22) g0 g36
      intro _
      refine m_X9_fraction hI (fun x38 S39 hI2 g40 p_x38 => ?_)
      subst p_x38
      intro _
      exact hq _ _ hI g0 f0
    · exact hq _ _ hI g0 f0
  · intro _ _
    refine ⟨fun c42 => ?_, fun c42 => ?_⟩
    · obtain ⟨a43, ea43, o_a43, -⟩ := sh 1 rfl hI o_v0
      refine ⟨a43, ea43, ?_⟩
      refine ⟨o_a43, ?_⟩
      obtain ⟨a44, ea44, o_a44, l_a44⟩ := shl 18 rfl hI o_a43
      refine ⟨a44, ea44, ?_⟩
      refine ⟨o_a44, ?_⟩
      have i46 : vp_in v1 (hN _ a44) := (vin l_a44 (m := 4) (by decide) (q3 p_x1 c5 c42))
      obtain ⟨a45, ea45, o_a45⟩ := ae hI o_a44 (by decide) (by decide) i46
      replace o_a45 : ob _ a45 6 := o_a45
      refine ⟨i46, a45, ea45, ?_⟩
      obtain ⟨a47, ea47, o_a47, -⟩ := sh 3 rfl hI o_v0
      refine ⟨a47, ea47, ?_⟩
      refine ⟨a43, ea43, ?_⟩
      refine ⟨o_a43, ?_⟩
      obtain ⟨a49, ea49, o_a49, l_a49⟩ := shl 17 rfl hI o_a43
      refine ⟨a49, ea49, ?_⟩
      refine ⟨o_a49, ?_⟩
      have i51 : vp_in v2 (hN _ a49) := (vin l_a49 (m := 12) (by decide) (q4 p_x1 c5 c42))
      obtain ⟨a50, ea50, o_a50⟩ := ae hI o_a49 (by decide) (by decide) i51
      replace o_a50 : ob _ a50 5 := o_a50
      refine ⟨i51, a50, ea50, ?_⟩
      refine ⟨a43, ea43, ?_⟩
      refine ⟨o_a43, ?_⟩
      obtain ⟨a53, ea53, o_a53, l_a53⟩ := shl 15 rfl hI o_a43
      refine ⟨a53, ea53, ?_⟩
      refine ⟨o_a53, ?_⟩
      have i55 : vp_in v4 (hN _ a53) := (vin l_a53 (m := 6) (by decide) (q5 p_x1 c5 c42))
      obtain ⟨a54, ea54, o_a54⟩ := ae hI o_a53 (by decide) (by decide) i55
      replace o_a54 : ob _ a54 3 := o_a54
      refine ⟨i55, a54, ea54, ?_⟩
      refine ⟨o_a45, ?_⟩
      intro x56 ex56
      have r_x56 : (0 : Int32) ≤ x56 ∧ x56 ≤ (9 : Int32) := by rw [ex56]; exact nu 4 rfl hI o_a45
      have d_x56 := ex56
      refine ⟨o_a47, ?_⟩
      refine m_X1_wetOf hI o_a47 o_a45 o_a50 o_a54 (fun x57 S58 hI g59 fc60 => ?_)
      have l_a44 := (gr_len g59 o_a44).trans l_a44
      have l_a49 := (gr_len g59 o_a49).trans l_a49
      have l_a53 := (gr_len g59 o_a53).trans l_a53
      have d_x1 := d_x1.trans (fri_at fc60 (by decide) (by decide) o_v0).symm
      have d_x56 := d_x56.trans (fri_at fc60 (by decide) (by decide) o_a45).symm
      have ea43 := (frr_at fc60 (by decide) (by decide) o_v0).trans ea43
      have ea44 := (frr_at fc60 (by decide) (by decide) o_a43).trans ea44
      have ea47 := (frr_at fc60 (by decide) (by decide) o_v0).trans ea47
      have ea49 := (frr_at fc60 (by decide) (by decide) o_a43).trans ea49
      have ea53 := (frr_at fc60 (by decide) (by decide) o_a43).trans ea53
      have f0 := fri_tr (S := sI S v0 9 x1) g0 f0 fc60 (by decide) (by decide)
      have o_a43 := gr_ob g59 o_a43
      have o_a44 := gr_ob g59 o_a44
      have o_a45 := gr_ob g59 o_a45
      have o_a47 := gr_ob g59 o_a47
      have o_a49 := gr_ob g59 o_a49
      have o_a50 := gr_ob g59 o_a50
      have o_a53 := gr_ob g59 o_a53
      have o_a54 := gr_ob g59 o_a54
      have o_v0 := gr_ob g59 o_v0
      have g0 := gr_tr (T := sI S v0 9 x1) g0 g59
      intro _
      refine ⟨a47, ea47, ?_⟩
      refine ⟨a43, ea43, ?_⟩
      refine ⟨o_a43, ?_⟩
      refine ⟨a49, ea49, ?_⟩
      refine ⟨o_a49, ?_⟩
      have i65 : vp_in v2 (hN _ a49) := (vin l_a49 (m := 12) (by decide) (q4 p_x1 c5 c42))
      obtain ⟨a64, ea64, o_a64⟩ := ae hI o_a49 (by decide) (by decide) i65
      replace o_a64 : ob _ a64 5 := o_a64
      refine ⟨i65, a64, ea64, ?_⟩
      refine ⟨a43, ea43, ?_⟩
      refine ⟨o_a43, ?_⟩
      refine ⟨a53, ea53, ?_⟩
      refine ⟨o_a53, ?_⟩
      have i69 : vp_in v4 (hN _ a53) := (vin l_a53 (m := 6) (by decide) (q5 p_x1 c5 c42))
      obtain ⟨a68, ea68, o_a68⟩ := ae hI o_a53 (by decide) (by decide) i69
      replace o_a68 : ob _ a68 3 := o_a68
      refine ⟨i69, a68, ea68, ?_⟩
      refine ⟨o_a47, ?_⟩
      refine m_X1_leastWet hI o_a47 o_a45 o_a64 o_a68 (fun x70 S71 hI g72 fc73 => ?_)
      have l_a44 := (gr_len g72 o_a44).trans l_a44
      have l_a49 := (gr_len g72 o_a49).trans l_a49
      have l_a53 := (gr_len g72 o_a53).trans l_a53
      have d_x1 := d_x1.trans (fri_at fc73 (by decide) (by decide) o_v0).symm
      have d_x56 := d_x56.trans (fri_at fc73 (by decide) (by decide) o_a45).symm
      have ea43 := (frr_at fc73 (by decide) (by decide) o_v0).trans ea43
      have ea44 := (frr_at fc73 (by decide) (by decide) o_a43).trans ea44
      have ea47 := (frr_at fc73 (by decide) (by decide) o_v0).trans ea47
      have ea49 := (frr_at fc73 (by decide) (by decide) o_a43).trans ea49
      have ea53 := (frr_at fc73 (by decide) (by decide) o_a43).trans ea53
      have f0 := fri_tr (S := S58) g0 f0 fc73 (by decide) (by decide)
      have o_a43 := gr_ob g72 o_a43
      have o_a44 := gr_ob g72 o_a44
      have o_a45 := gr_ob g72 o_a45
      have o_a47 := gr_ob g72 o_a47
      have o_a49 := gr_ob g72 o_a49
      have o_a50 := gr_ob g72 o_a50
      have o_a53 := gr_ob g72 o_a53
      have o_a54 := gr_ob g72 o_a54
      have o_a64 := gr_ob g72 o_a64
      have o_a68 := gr_ob g72 o_a68
      have o_v0 := gr_ob g72 o_v0
      have g0 := gr_tr (T := S58) g0 g72
      intro _
      refine m_X9_fraction hI (fun x74 S75 hI2 g76 p_x74 => ?_)
      subst p_x74
      intro _
      exact hq _ _ hI g0 f0
    · exact hq _ _ hI g0 f0
set_option maxHeartbeats 4000000 in
set_option maxRecDepth 20000 in
theorem m_X9_size {v0 : Nat} {v1 : Int32} {Q : Int32 → HS → Prop} {S : HS} (hI : IV S) (o_v0 : ob S v0 9)     (hq : ∀ (r : Int32) (T : HS), IV T → Gr S T → (S = T) → Q r T) : P_X9_size v0 v1 Q S := by
  have g0 := gr_rf S
  refine u_X9_size ?_
  refine u_X9_size_0 ?_
  refine ⟨fun c1 => ?_, fun c1 => ?_, fun c1 => ?_, fun c1 => ?_, fun c1 => ?_, fun c1 => ?_, fun c1 => ?_, fun c1 => ?_, fun c1 => ?_, fun c1 => ?_, fun c1 => ?_, fun c1 => ?_, fun c1 => ?_⟩
  · exact hq _ _ hI g0 rfl
  · refine ⟨o_v0, ?_⟩
    obtain ⟨a2, ea2, o_a2, -⟩ := sh 1 rfl hI o_v0
    refine ⟨a2, ea2, ?_⟩
    refine ⟨o_a2, ?_⟩
    intro x3 ex3
    have r_x3 : (0 : Int32) ≤ x3 ∧ x3 ≤ (60 : Int32) := by rw [ex3]; exact nu 10 rfl hI o_a2
    have d_x3 := ex3
    exact hq _ _ hI g0 rfl
  · refine ⟨o_v0, ?_⟩
    obtain ⟨a4, ea4, o_a4, -⟩ := sh 1 rfl hI o_v0
    refine ⟨a4, ea4, ?_⟩
    refine ⟨o_a4, ?_⟩
    intro x5 ex5
    have r_x5 : (0 : Int32) ≤ x5 ∧ x5 ≤ (6 : Int32) := by rw [ex5]; exact nu 11 rfl hI o_a4
    have d_x5 := ex5
    exact hq _ _ hI g0 rfl
  · refine ⟨o_v0, ?_⟩
    obtain ⟨a6, ea6, o_a6, -⟩ := sh 1 rfl hI o_v0
    refine ⟨a6, ea6, ?_⟩
    refine ⟨o_a6, ?_⟩
    intro x7 ex7
    have r_x7 : (0 : Int32) ≤ x7 ∧ x7 ≤ (8 : Int32) := by rw [ex7]; exact nu 12 rfl hI o_a6
    have d_x7 := ex7
    exact hq _ _ hI g0 rfl
  · refine ⟨o_v0, ?_⟩
    obtain ⟨a8, ea8, o_a8, -⟩ := sh 1 rfl hI o_v0
    refine ⟨a8, ea8, ?_⟩
    refine ⟨o_a8, ?_⟩
    intro x9 ex9
    have r_x9 : (0 : Int32) ≤ x9 ∧ x9 ≤ (12 : Int32) := by rw [ex9]; exact nu 13 rfl hI o_a8
    have d_x9 := ex9
    exact hq _ _ hI g0 rfl
  · refine ⟨o_v0, ?_⟩
    obtain ⟨a10, ea10, o_a10, -⟩ := sh 1 rfl hI o_v0
    refine ⟨a10, ea10, ?_⟩
    refine ⟨o_a10, ?_⟩
    intro x11 ex11
    have r_x11 : (0 : Int32) ≤ x11 ∧ x11 ≤ (4 : Int32) := by rw [ex11]; exact nu 14 rfl hI o_a10
    have d_x11 := ex11
    exact hq _ _ hI g0 rfl
  · refine ⟨o_v0, ?_⟩
    obtain ⟨a12, ea12, o_a12, -⟩ := sh 1 rfl hI o_v0
    refine ⟨a12, ea12, ?_⟩
    refine ⟨o_a12, ?_⟩
    intro x13 ex13
    have r_x13 : (0 : Int32) ≤ x13 ∧ x13 ≤ (4 : Int32) := by rw [ex13]; exact nu 15 rfl hI o_a12
    have d_x13 := ex13
    exact hq _ _ hI g0 rfl
  · refine ⟨o_v0, ?_⟩
    obtain ⟨a14, ea14, o_a14, -⟩ := sh 5 rfl hI o_v0
    refine ⟨a14, ea14, ?_⟩
    refine ⟨o_a14, ?_⟩
    refine m_X0_isOn hI o_a14 (fun x15 S16 hI2 g17 b_x15 p_x15 => ?_)
    subst p_x15
    intro _ _
    have bb_x15 : x15 = 0 ∨ x15 = 1 := b_x15
    refine ⟨fun c19 => ?_, fun c19 => ?_⟩
    · exact hq _ _ hI g0 rfl
    · refine ⟨a14, ea14, ?_⟩
      refine ⟨o_a14, ?_⟩
      intro x21 ex21
      have r_x21 : (-1 : Int32) ≤ x21 ∧ x21 ≤ (3 : Int32) := by rw [ex21]; exact nu 1 rfl hI o_a14
      have d_x21 := ex21
      exact hq _ _ hI g0 rfl
  · refine ⟨o_v0, ?_⟩
    obtain ⟨a22, ea22, o_a22, -⟩ := sh 5 rfl hI o_v0
    refine ⟨a22, ea22, ?_⟩
    refine ⟨o_a22, ?_⟩
    refine m_X0_isOn hI o_a22 (fun x23 S24 hI2 g25 b_x23 p_x23 => ?_)
    subst p_x23
    intro _ _
    have bb_x23 : x23 = 0 ∨ x23 = 1 := b_x23
    refine ⟨fun c27 => ?_, fun c27 => ?_⟩
    · exact hq _ _ hI g0 rfl
    · refine ⟨a22, ea22, ?_⟩
      refine ⟨o_a22, ?_⟩
      obtain ⟨a29, ea29, o_a29, -⟩ := sh 6 rfl hI o_a22
      refine ⟨a29, ea29, ?_⟩
      refine ⟨o_a29, ?_⟩
      intro x30 ex30
      have d_x30 := ex30
      exact hq _ _ hI g0 rfl
  · refine ⟨o_v0, ?_⟩
    obtain ⟨a31, ea31, o_a31, -⟩ := sh 5 rfl hI o_v0
    refine ⟨a31, ea31, ?_⟩
    refine ⟨o_a31, ?_⟩
    refine m_X0_isOn hI o_a31 (fun x32 S33 hI2 g34 b_x32 p_x32 => ?_)
    subst p_x32
    intro _ _
    have bb_x32 : x32 = 0 ∨ x32 = 1 := b_x32
    refine ⟨fun c36 => ?_, fun c36 => ?_⟩
    · exact hq _ _ hI g0 rfl
    · refine ⟨a31, ea31, ?_⟩
      refine ⟨o_a31, ?_⟩
      obtain ⟨a38, ea38, o_a38, -⟩ := sh 6 rfl hI o_a31
      refine ⟨a38, ea38, ?_⟩
      refine ⟨o_a38, ?_⟩
      intro x39 ex39
      have d_x39 := ex39
      exact hq _ _ hI g0 rfl
  · refine ⟨o_v0, ?_⟩
    obtain ⟨a40, ea40, o_a40, -⟩ := sh 5 rfl hI o_v0
    refine ⟨a40, ea40, ?_⟩
    refine ⟨o_a40, ?_⟩
    intro x41 ex41
    have r_x41 : (0 : Int32) ≤ x41 ∧ x41 ≤ (16 : Int32) := by rw [ex41]; exact nu 2 rfl hI o_a40
    have d_x41 := ex41
    exact hq _ _ hI g0 rfl
  · refine ⟨o_v0, ?_⟩
    obtain ⟨a42, ea42, o_a42, -⟩ := sh 5 rfl hI o_v0
    refine ⟨a42, ea42, ?_⟩
    refine ⟨o_a42, ?_⟩
    intro x43 ex43
    have r_x43 : (0 : Int32) ≤ x43 ∧ x43 ≤ (3 : Int32) := by rw [ex43]; exact nu 3 rfl hI o_a42
    have d_x43 := ex43
    exact hq _ _ hI g0 rfl
  · refine ⟨o_v0, ?_⟩
    intro x44 ex44
    have r_x44 : (0 : Int32) ≤ x44 ∧ x44 ≤ (900 : Int32) := by rw [ex44]; exact nu 0 rfl hI o_v0
    have d_x44 := ex44
    exact hq _ _ hI g0 rfl
set_option maxHeartbeats 4000000 in
set_option maxRecDepth 20000 in
theorem m_X9_soaked {v0 : Nat} {Q : Int32 → HS → Prop} {S : HS} (hI : IV S) (o_v0 : ob S v0 9)     (hq : ∀ (r : Int32) (T : HS), IV T → Gr S T → FRI [(9, 9)] [] S T → Q r T) : P_X9_soaked v0 Q S := by
  have g0 := gr_rf S
  have f0 := fri_rf [(9, 9)] [] S
  refine u_X9_soaked ?_
  refine u_X9_soaked_0 ?_
  refine ⟨o_v0, ?_⟩
  obtain ⟨a1, ea1, o_a1, -⟩ := sh 5 rfl hI o_v0
  refine ⟨a1, ea1, ?_⟩
  refine ⟨o_a1, ?_⟩
  refine m_X0_isOn hI o_a1 (fun x2 S3 hI2 g4 b_x2 p_x2 => ?_)
  subst p_x2
  intro _ _
  have bb_x2 : x2 = 0 ∨ x2 = 1 := b_x2
  refine ⟨fun c6 => ?_, fun c6 => ?_⟩
  · refine u_X9_soaked_27 ?_
    refine ⟨o_v0, ?_⟩
    refine u_X9_refuse ?_
    refine u_X9_refuse_0 ?_
    refine ⟨o_v0, ?_⟩
    have hI := iv_sI (j := 9) (v := (1 : Int32)) hI o_v0 (by decide) (nu_free (by decide))
    have f0 : FRI _ _ _ (sI S v0 9 (1 : Int32)) := fri_sI (S := S) g0 f0 o_v0 (by decide)
    obtain ⟨y7, hy7⟩ : ∃ z : Int32, z = (1 : Int32) := ⟨_, rfl⟩
    have d_y7 : y7 = fI (sI S v0 9 (1 : Int32)) v0 9 := hy7.trans (u2_self _ _ _ _).symm
    intro _
    exact hq _ _ hI g0 f0
  · obtain ⟨a8, ea8, o_a8, -⟩ := sh 1 rfl hI o_v0
    refine ⟨a8, ea8, ?_⟩
    refine ⟨a1, ea1, ?_⟩
    refine ⟨o_a1, ?_⟩
    intro x10 ex10
    have r_x10 : (-1 : Int32) ≤ x10 ∧ x10 ≤ (3 : Int32) := by rw [ex10]; exact nu 1 rfl hI o_a1
    have d_x10 := ex10
    refine ⟨o_a8, ?_⟩
    refine m_X8_hasWalker hI o_a8 (fun x11 S12 hI2 g13 b_x11 p_x11 => ?_)
    obtain ⟨z_S12, p_x11⟩ := p_x11
    subst z_S12
    intro _ _
    have bb_x11 : x11 = 0 ∨ x11 = 1 := b_x11
    refine ⟨fun c15 => ?_, fun c15 => ?_⟩
    · refine ⟨a8, ea8, ?_⟩
      refine ⟨o_a8, ?_⟩
      obtain ⟨a17, ea17, o_a17, l_a17⟩ := shl 18 rfl hI o_a8
      refine ⟨a17, ea17, ?_⟩
      refine ⟨a1, ea1, ?_⟩
      refine ⟨o_a1, ?_⟩
      intro x19 ex19
      have r_x19 : (-1 : Int32) ≤ x19 ∧ x19 ≤ (3 : Int32) := by rw [ex19]; exact nu 1 rfl hI o_a1
      have q_x19 : x19 = x10 := ex19.trans d_x10.symm
      have d_x19 := ex19
      refine ⟨o_a17, ?_⟩
      have i21 : vp_in x19 (hN _ a17) := (vin l_a17 (m := 4) (by decide) (q81 bb_x2 c6 r_x10 p_x11 bb_x11 c15 r_x19 q_x19))
      obtain ⟨a20, ea20, o_a20⟩ := ae hI o_a17 (by decide) (by decide) i21
      replace o_a20 : ob _ a20 6 := o_a20
      refine ⟨i21, a20, ea20, ?_⟩
      refine ⟨o_a20, ?_⟩
      intro x22 ex22
      have d_x22 := ex22
      refine ⟨fun c23 => ?_, fun c23 => ?_⟩
      · refine ⟨a1, ea1, ?_⟩
        refine ⟨o_a1, ?_⟩
        obtain ⟨a25, ea25, o_a25, -⟩ := sh 6 rfl hI o_a1
        refine ⟨a25, ea25, ?_⟩
        refine ⟨o_a25, ?_⟩
        refine m_X2_allGot hI o_a25 (fun x26 S27 hI2 g28 p_x26 => ?_)
        subst p_x26
        intro _
        refine m_X9_coatParts hI o_a20 (fun x30 S31 hI2 g32 p_x30 => ?_)
        subst p_x30
        intro _
        refine ⟨fun c34 => ?_, fun c34 => ?_⟩
        · refine u_X9_soaked_88 ?_
          refine ⟨o_v0, ?_⟩
          refine u_X9_grant ?_
          refine u_X9_grant_0 ?_
          refine ⟨o_v0, ?_⟩
          have hI := iv_sI (j := 9) (v := (0 : Int32)) hI o_v0 (by decide) (nu_free (by decide))
          have f0 : FRI _ _ _ (sI S v0 9 (0 : Int32)) := fri_sI (S := S) g0 f0 o_v0 (by decide)
          have d_x19 : x19 = fI (sI S v0 9 (0 : Int32)) a1 0 := d_x19.trans (sI_ne (S := S) o_v0 o_a1 (by decide) 0).symm
          have d_x22 : x22 = fI (sI S v0 9 (0 : Int32)) a20 0 := d_x22.trans (sI_ne (S := S) o_v0 o_a20 (by decide) 0).symm
          obtain ⟨y35, hy35⟩ : ∃ z : Int32, z = (0 : Int32) := ⟨_, rfl⟩
          have d_y35 : y35 = fI (sI S v0 9 (0 : Int32)) v0 9 := hy35.trans (u2_self _ _ _ _).symm
          intro _
          exact hq _ _ hI g0 f0
        · refine u_X9_soaked_88 ?_
          refine ⟨o_v0, ?_⟩
          refine u_X9_grant ?_
          refine u_X9_grant_0 ?_
          refine ⟨o_v0, ?_⟩
          have hI := iv_sI (j := 9) (v := (0 : Int32)) hI o_v0 (by decide) (nu_free (by decide))
          have f0 : FRI _ _ _ (sI S v0 9 (0 : Int32)) := fri_sI (S := S) g0 f0 o_v0 (by decide)
          have d_x19 : x19 = fI (sI S v0 9 (0 : Int32)) a1 0 := d_x19.trans (sI_ne (S := S) o_v0 o_a1 (by decide) 0).symm
          have d_x22 : x22 = fI (sI S v0 9 (0 : Int32)) a20 0 := d_x22.trans (sI_ne (S := S) o_v0 o_a20 (by decide) 0).symm
          obtain ⟨y36, hy36⟩ : ∃ z : Int32, z = (0 : Int32) := ⟨_, rfl⟩
          have d_y36 : y36 = fI (sI S v0 9 (0 : Int32)) v0 9 := hy36.trans (u2_self _ _ _ _).symm
          intro _
          exact hq _ _ hI g0 f0
      · refine u_X9_grant ?_
        refine u_X9_grant_0 ?_
        refine ⟨o_v0, ?_⟩
        have hI := iv_sI (j := 9) (v := (0 : Int32)) hI o_v0 (by decide) (nu_free (by decide))
        have f0 : FRI _ _ _ (sI S v0 9 (0 : Int32)) := fri_sI (S := S) g0 f0 o_v0 (by decide)
        have d_x19 : x19 = fI (sI S v0 9 (0 : Int32)) a1 0 := d_x19.trans (sI_ne (S := S) o_v0 o_a1 (by decide) 0).symm
        have d_x22 : x22 = fI (sI S v0 9 (0 : Int32)) a20 0 := d_x22.trans (sI_ne (S := S) o_v0 o_a20 (by decide) 0).symm
        obtain ⟨y37, hy37⟩ : ∃ z : Int32, z = (0 : Int32) := ⟨_, rfl⟩
        have d_y37 : y37 = fI (sI S v0 9 (0 : Int32)) v0 9 := hy37.trans (u2_self _ _ _ _).symm
        intro _
        exact hq _ _ hI g0 f0
    · refine u_X9_soaked_27 ?_
      refine ⟨o_v0, ?_⟩
      refine u_X9_refuse ?_
      refine u_X9_refuse_0 ?_
      refine ⟨o_v0, ?_⟩
      have hI := iv_sI (j := 9) (v := (1 : Int32)) hI o_v0 (by decide) (nu_free (by decide))
      have f0 : FRI _ _ _ (sI S v0 9 (1 : Int32)) := fri_sI (S := S) g0 f0 o_v0 (by decide)
      have d_x10 : x10 = fI (sI S v0 9 (1 : Int32)) a1 0 := d_x10.trans (sI_ne (S := S) o_v0 o_a1 (by decide) 0).symm
      obtain ⟨y38, hy38⟩ : ∃ z : Int32, z = (1 : Int32) := ⟨_, rfl⟩
      have d_y38 : y38 = fI (sI S v0 9 (1 : Int32)) v0 9 := hy38.trans (u2_self _ _ _ _).symm
      intro _
      exact hq _ _ hI g0 f0
set_option maxHeartbeats 4000000 in
set_option maxRecDepth 20000 in
theorem m_X9_stayTrouble {v0 : Nat} {v1 : Int32} {Q : Int32 → HS → Prop} {S : HS} (hI : IV S) (o_v0 : ob S v0 9)     (hq : ∀ (r : Int32) (T : HS), IV T → Gr S T → (S = T) ∧ (r = 0 → ∀ d, fR S v0 6 = some d → 0 ≤ fI S d 0) → Q r T) : P_X9_stayTrouble v0 v1 Q S := by
  have g0 := gr_rf S
  refine u_X9_stayTrouble ?_
  refine u_X9_stayTrouble_0 ?_
  refine ⟨o_v0, ?_⟩
  obtain ⟨a1, ea1, o_a1, -⟩ := sh 5 rfl hI o_v0
  refine ⟨a1, ea1, ?_⟩
  refine ⟨o_a1, ?_⟩
  refine m_X0_isOn hI o_a1 (fun x2 S3 hI2 g4 b_x2 p_x2 => ?_)
  subst p_x2
  intro _ _
  have bb_x2 : x2 = 0 ∨ x2 = 1 := b_x2
  refine ⟨fun c6 => ?_, fun c6 => ?_⟩
  · exact hq _ _ hI g0 ⟨rfl, (fun h => absurd h (by decide))⟩
  · obtain ⟨a7, ea7, o_a7, -⟩ := sh 1 rfl hI o_v0
    refine ⟨a7, ea7, ?_⟩
    refine ⟨a1, ea1, ?_⟩
    refine ⟨o_a1, ?_⟩
    intro x9 ex9
    have r_x9 : (-1 : Int32) ≤ x9 ∧ x9 ≤ (3 : Int32) := by rw [ex9]; exact nu 1 rfl hI o_a1
    have d_x9 := ex9
    refine ⟨o_a7, ?_⟩
    refine m_X8_hasWalker hI o_a7 (fun x10 S11 hI2 g12 b_x10 p_x10 => ?_)
    obtain ⟨z_S11, p_x10⟩ := p_x10
    subst z_S11
    intro _ _
    have bb_x10 : x10 = 0 ∨ x10 = 1 := b_x10
    refine ⟨fun c14 => ?_, fun c14 => ?_⟩
    · refine ⟨fun c15 => ?_, fun c15 => ?_⟩
      · exact hq _ _ hI g0 ⟨rfl, (fun h => absurd h (by decide))⟩
      · refine ⟨fun c16 => ?_, fun c16 => ?_⟩
        · refine ⟨a7, ea7, ?_⟩
          refine ⟨a1, ea1, ?_⟩
          refine ⟨o_a1, ?_⟩
          obtain ⟨a19, ea19, o_a19, -⟩ := sh 6 rfl hI o_a1
          refine ⟨a19, ea19, ?_⟩
          refine ⟨o_a19, ?_⟩
          intro x20 ex20
          have d_x20 := ex20
          refine ⟨o_a7, ?_⟩
          refine m_X8_canWait hI o_a7 (fun x21 S22 hI2 g23 b_x21 p_x21 => ?_)
          obtain ⟨z_S22, p_x21⟩ := p_x21
          subst z_S22
          intro _ _
          have bb_x21 : x21 = 0 ∨ x21 = 1 := b_x21
          refine ⟨fun c25 => ?_, fun c25 => ?_⟩
          · refine ⟨a1, ea1, ?_⟩
            refine ⟨o_a1, ?_⟩
            refine ⟨a19, ea19, ?_⟩
            refine ⟨o_a19, ?_⟩
            intro x28 ex28
            have d_x28 := ex28
            refine ⟨fun c29 => ?_, fun c29 => ?_⟩
            · exact hq _ _ hI g0 ⟨rfl, (fun _ d hd => by cases ea1.symm.trans hd; rw [← d_x9]; exact (q443 bb_x2 c6 r_x9 p_x10 bb_x10 c14 c15 c16 p_x21 bb_x21 c25 c29))⟩
            · exact hq _ _ hI g0 ⟨rfl, (fun h => absurd h (by decide))⟩
          · exact hq _ _ hI g0 ⟨rfl, (fun h => absurd h (by decide))⟩
        · exact hq _ _ hI g0 ⟨rfl, (fun h => absurd h (by decide))⟩
    · exact hq _ _ hI g0 ⟨rfl, (fun h => absurd h (by decide))⟩
set_option maxHeartbeats 4000000 in
set_option maxRecDepth 20000 in
theorem m_X9_stay {v0 : Nat} {v1 : Int32} {Q : Int32 → HS → Prop} {S : HS} (hI : IV S) (o_v0 : ob S v0 9)     (hq : ∀ (r : Int32) (T : HS), IV T → Gr S T → FRI [(0, 2), (2, 0), (2, 1), (9, 9)] [] S T → bl r → Q r T) : P_X9_stay v0 v1 Q S := by
  have g0 := gr_rf S
  have f0 := fri_rf [(0, 2), (2, 0), (2, 1), (9, 9)] [] S
  refine u_X9_stay ?_
  refine u_X9_stay_0 ?_
  refine ⟨o_v0, ?_⟩
  refine m_X9_stayTrouble hI o_v0 (fun x1 S2 hI2 g3 p_x1 => ?_)
  obtain ⟨z_S2, p_x1⟩ := p_x1
  subst z_S2
  intro _
  obtain ⟨a5, ea5, o_a5, -⟩ := sh 5 rfl hI o_v0
  obtain ⟨y6, d_y6⟩ : ∃ z : Int32, z = fI S a5 0 := ⟨_, rfl⟩
  have st_y6 : x1 = 0 → 0 ≤ y6 := fun z => by rw [d_y6]; exact p_x1 z _ ea5
  refine u_X9_refusedBy ?_
  refine u_X9_refusedBy_0 ?_
  refine ⟨o_v0, ?_⟩
  have hI := iv_sI (j := 9) (v := x1) hI o_v0 (by decide) (nu_free (by decide))
  have f0 : FRI _ _ _ (sI S v0 9 x1) := fri_sI (S := S) g0 f0 o_v0 (by decide)
  have d_y6 : y6 = fI (sI S v0 9 x1) a5 0 := d_y6.trans (sI_ne (S := S) o_v0 o_a5 (by decide) 0).symm
  have d_x1 : x1 = fI (sI S v0 9 x1) v0 9 := (u2_self _ _ _ _).symm
  refine ⟨fun c7 => ?_, fun c7 => ?_⟩
  · intro _ _
    refine ⟨fun c8 => ?_, fun c8 => ?_⟩
    · refine ⟨a5, ea5, ?_⟩
      refine ⟨o_a5, ?_⟩
      refine m_X0_keepForUndo hI o_a5 (fun S11 hI g12 fc13 => ?_)
      have d_y6 := d_y6.trans (fri_at fc13 (by decide) (by decide) o_a5).symm
      have d_x1 := d_x1.trans (fri_at fc13 (by decide) (by decide) o_v0).symm
      have ea5 := (frr_at fc13 (by decide) (by decide) o_v0).trans ea5
      have f0 := fri_tr (S := sI S v0 9 x1) g0 f0 fc13 (by decide) (by decide)
      have o_a5 := gr_ob g12 o_a5
      have o_v0 := gr_ob g12 o_v0
      have g0 := gr_tr (T := sI S v0 9 x1) g0 g12
      intro _
      obtain ⟨a14, ea14, o_a14, -⟩ := sh 1 rfl hI o_v0
      refine ⟨a14, ea14, ?_⟩
      refine ⟨a14, ea14, ?_⟩
      refine ⟨o_a14, ?_⟩
      obtain ⟨a16, ea16, o_a16, l_a16⟩ := shl 18 rfl hI o_a14
      refine ⟨a16, ea16, ?_⟩
      refine ⟨a5, ea5, ?_⟩
      refine ⟨o_a5, ?_⟩
      intro x18 ex18
      have r_x18 : (-1 : Int32) ≤ x18 ∧ x18 ≤ (3 : Int32) := by rw [ex18]; exact nu 1 rfl hI o_a5
      have q_x18 : x18 = y6 := ex18.trans d_y6.symm
      have d_x18 := ex18
      refine ⟨o_a16, ?_⟩
      have i20 : vp_in x18 (hN _ a16) := (vin l_a16 (m := 4) (by decide) (q444 st_y6 c7 r_x18 q_x18))
      obtain ⟨a19, ea19, o_a19⟩ := ae hI o_a16 (by decide) (by decide) i20
      replace o_a19 : ob _ a19 6 := o_a19
      refine ⟨i20, a19, ea19, ?_⟩
      refine ⟨a5, ea5, ?_⟩
      refine ⟨o_a5, ?_⟩
      obtain ⟨a22, ea22, o_a22, -⟩ := sh 6 rfl hI o_a5
      refine ⟨a22, ea22, ?_⟩
      refine ⟨o_a22, ?_⟩
      intro x23 ex23
      have d_x23 := ex23
      refine ⟨o_a14, ?_⟩
      refine m_X8_dripOn hI o_a14 o_a19 (fun x24 S25 hI2 g26 p_x24 => ?_)
      subst p_x24
      intro _
      intro x28 ex28
      refine i_X9_stay_58 (fun (y0 : Nat) (y1 : Int32) (y2 : Int64) (y4 : Int32) (Z : HS) => ((2147483647 : Int32).toInt - y4.toInt).toNat) (fun (y0 : Nat) (y1 : Int32) (y2 : Int64) (y4 : Int32) (Z : HS) => (IV Z) ∧ (Gr S11 Z) ∧ (FRI [(2, 1)] [] S11 Z) ∧ (v0 = y0) ∧ (v1 = y1) ∧ (x28 = y2) ∧ (0 ≤ y4)) ?_ _ _ _ _ _ ⟨hI, (gr_rf _), (fri_rf _ _ _), rfl, rfl, rfl, (q445 st_y6 c7 r_x18 q_x18)⟩
      intro w32 w34 w36 w38 S29 X39 ⟨hI, gL30, fL31, q33, q35, q37, i1⟩ ih40
      subst q33
      subst q35
      subst q37
      have l_a16 := (gr_len gL30 o_a16).trans l_a16
      have d_x18 := d_x18.trans (fri_at fL31 (by decide) (by decide) o_a5).symm
      have d_x1 := d_x1.trans (fri_at fL31 (by decide) (by decide) o_v0).symm
      have d_x23 := d_x23.trans (fri_at fL31 (by decide) (by decide) o_a22).symm
      have ea5 := (frr_at fL31 (by decide) (by decide) o_v0).trans ea5
      have ea14 := (frr_at fL31 (by decide) (by decide) o_v0).trans ea14
      have ea16 := (frr_at fL31 (by decide) (by decide) o_a14).trans ea16
      have ea22 := (frr_at fL31 (by decide) (by decide) o_a5).trans ea22
      have f0 := fri_tr (S := S11) g0 f0 fL31 (by decide) (by decide)
      have o_a14 := gr_ob gL30 o_a14
      have o_a16 := gr_ob gL30 o_a16
      have o_a19 := gr_ob gL30 o_a19
      have o_a22 := gr_ob gL30 o_a22
      have o_a5 := gr_ob gL30 o_a5
      have o_v0 := gr_ob gL30 o_v0
      have g0 := gr_tr (T := S11) g0 gL30
      refine u_X9_stay_58 ?_
      refine ⟨fun c41 => ?_, fun c41 => ?_⟩
      · exact hq _ _ hI g0 f0 (Or.inr rfl)
      · refine ⟨o_v0, ?_⟩
        refine ⟨a5, ea5, ?_⟩
        refine ⟨a14, ea14, ?_⟩
        refine ⟨a5, ea5, ?_⟩
        refine ⟨o_a5, ?_⟩
        refine ⟨a22, ea22, ?_⟩
        refine ⟨o_a22, ?_⟩
        intro x46 ex46
        have d_x46 := ex46
        refine ⟨o_a14, ?_⟩
        refine m_X8_hourOf hI o_a14 (fun x47 S48 hI2 g49 p_x47 => ?_)
        subst p_x47
        intro _
        refine ⟨o_a5, ?_⟩
        refine m_X0_rainsIn hI o_a5 (fun x51 S52 hI2 g53 b_x51 p_x51 => ?_)
        subst p_x51
        intro _ _
        have bb_x51 : x51 = 0 ∨ x51 = 1 := b_x51
        refine ⟨fun c55 => ?_, fun c55 => ?_⟩
        · refine u_X9_stay_111 ?_
          refine ⟨o_v0, ?_⟩
          refine ⟨a5, ea5, ?_⟩
          refine ⟨o_a5, ?_⟩
          refine ⟨a22, ea22, ?_⟩
          refine ⟨o_a22, ?_⟩
          intro x58 ex58
          have q_x58 : x58 = x46 := ex58.trans d_x46.symm
          have d_x58 := ex58
          intro x59 ex59
          have hI := iv_sI (j := 1) (v := x59) hI o_a22 (by decide) (nu_free (by decide))
          have f0 : FRI _ _ _ (sI S29 a22 1 x59) := fri_sI (S := S29) g0 f0 o_a22 (by decide)
          have fL31 : FRI _ _ _ (sI S29 a22 1 x59) := fri_sI (S := S29) gL30 fL31 o_a22 (by decide)
          have d_x18 : x18 = fI (sI S29 a22 1 x59) a5 0 := d_x18.trans (sI_ne (S := S29) o_a22 o_a5 (by decide) 0).symm
          have d_x1 : x1 = fI (sI S29 a22 1 x59) v0 9 := d_x1.trans (sI_ne (S := S29) o_a22 o_v0 (by decide) 9).symm
          have d_x23 : x23 = fI (sI S29 a22 1 x59) a22 0 := d_x23.trans (rd_j (by decide)).symm
          have d_x59 : x59 = fI (sI S29 a22 1 x59) a22 1 := (u2_self _ _ _ _).symm
          intro x60 ex60
          exact ih40 _ _ _ _ _ ⟨hI, gL30, fL31, rfl, rfl, rfl, (q446 st_y6 c7 r_x18 q_x18 i1 c41 bb_x51 c55 ex60)⟩ (mu_up (q447 st_y6 c7 r_x18 q_x18 i1 c41 bb_x51 c55 ex60) (q448 st_y6 c7 r_x18 q_x18 i1 c41 bb_x51 c55 ex60))
        · refine ⟨a5, ea5, ?_⟩
          refine ⟨o_a5, ?_⟩
          refine ⟨a22, ea22, ?_⟩
          refine ⟨o_a22, ?_⟩
          obtain ⟨a63, ea63, o_a63, l_a63⟩ := shl 11 rfl hI o_a22
          refine ⟨a63, ea63, ?_⟩
          refine ⟨o_a63, ?_⟩
          refine ⟨(vin l_a63 (m := 5) (by decide) (q449 st_y6 c7 r_x18 q_x18 i1 c41 bb_x51 c55)), ?_⟩
          intro x64 ex64
          intro x65 ex65
          have i66 : vp_in (0 : Int32) (hN _ a63) := (vin l_a63 (m := 5) (by decide) (q449 st_y6 c7 r_x18 q_x18 i1 c41 bb_x51 c55))
          refine ⟨i66, ?_⟩
          have hI := iv_aJ (i := (0 : Int32).toNatClampNeg) (v := x65) hI o_a22 (by decide) ea63 o_a63 (by decide)
          refine u_X9_stay_111 ?_
          refine ⟨o_v0, ?_⟩
          refine ⟨a5, ea5, ?_⟩
          refine ⟨o_a5, ?_⟩
          refine ⟨a22, ea22, ?_⟩
          refine ⟨o_a22, ?_⟩
          intro x69 ex69
          have q_x69 : x69 = x46 := ex69.trans d_x46.symm
          have d_x69 := ex69
          intro x70 ex70
          have hI := iv_sI (j := 1) (v := x70) hI o_a22 (by decide) (nu_free (by decide))
          have f0 : FRI _ _ _ (sI (sJ S29 a63 (0 : Int32).toNatClampNeg x65) a22 1 x70) := fri_sI (S := sJ S29 a63 (0 : Int32).toNatClampNeg x65) g0 f0 o_a22 (by decide)
          have fL31 : FRI _ _ _ (sI (sJ S29 a63 (0 : Int32).toNatClampNeg x65) a22 1 x70) := fri_sI (S := sJ S29 a63 (0 : Int32).toNatClampNeg x65) gL30 fL31 o_a22 (by decide)
          have d_x18 : x18 = fI (sI (sJ S29 a63 (0 : Int32).toNatClampNeg x65) a22 1 x70) a5 0 := d_x18.trans (sI_ne (S := sJ S29 a63 (0 : Int32).toNatClampNeg x65) o_a22 o_a5 (by decide) 0).symm
          have d_x1 : x1 = fI (sI (sJ S29 a63 (0 : Int32).toNatClampNeg x65) a22 1 x70) v0 9 := d_x1.trans (sI_ne (S := sJ S29 a63 (0 : Int32).toNatClampNeg x65) o_a22 o_v0 (by decide) 9).symm
          have d_x23 : x23 = fI (sI (sJ S29 a63 (0 : Int32).toNatClampNeg x65) a22 1 x70) a22 0 := d_x23.trans (rd_j (by decide)).symm
          have d_x70 : x70 = fI (sI (sJ S29 a63 (0 : Int32).toNatClampNeg x65) a22 1 x70) a22 1 := (u2_self _ _ _ _).symm
          intro x71 ex71
          exact ih40 _ _ _ _ _ ⟨hI, gL30, fL31, rfl, rfl, rfl, (q450 st_y6 c7 r_x18 q_x18 i1 c41 bb_x51 c55 ex71)⟩ (mu_up (q451 st_y6 c7 r_x18 q_x18 i1 c41 bb_x51 c55 ex71) (q452 st_y6 c7 r_x18 q_x18 i1 c41 bb_x51 c55 ex71))
    · exact hq _ _ hI g0 f0 (Or.inl rfl)
  · intro _ _
    refine ⟨fun c72 => ?_, fun c72 => ?_⟩
    · refine ⟨a5, ea5, ?_⟩
      refine ⟨o_a5, ?_⟩
      refine m_X0_keepForUndo hI o_a5 (fun S75 hI g76 fc77 => ?_)
      have d_y6 := d_y6.trans (fri_at fc77 (by decide) (by decide) o_a5).symm
      have d_x1 := d_x1.trans (fri_at fc77 (by decide) (by decide) o_v0).symm
      have ea5 := (frr_at fc77 (by decide) (by decide) o_v0).trans ea5
      have f0 := fri_tr (S := sI S v0 9 x1) g0 f0 fc77 (by decide) (by decide)
      have o_a5 := gr_ob g76 o_a5
      have o_v0 := gr_ob g76 o_v0
      have g0 := gr_tr (T := sI S v0 9 x1) g0 g76
      intro _
      obtain ⟨a78, ea78, o_a78, -⟩ := sh 1 rfl hI o_v0
      refine ⟨a78, ea78, ?_⟩
      refine ⟨a78, ea78, ?_⟩
      refine ⟨o_a78, ?_⟩
      obtain ⟨a80, ea80, o_a80, l_a80⟩ := shl 18 rfl hI o_a78
      refine ⟨a80, ea80, ?_⟩
      refine ⟨a5, ea5, ?_⟩
      refine ⟨o_a5, ?_⟩
      intro x82 ex82
      have r_x82 : (-1 : Int32) ≤ x82 ∧ x82 ≤ (3 : Int32) := by rw [ex82]; exact nu 1 rfl hI o_a5
      have q_x82 : x82 = y6 := ex82.trans d_y6.symm
      have d_x82 := ex82
      refine ⟨o_a80, ?_⟩
      have i84 : vp_in x82 (hN _ a80) := (vin l_a80 (m := 4) (by decide) (q453 st_y6 c7 c72 r_x82 q_x82))
      obtain ⟨a83, ea83, o_a83⟩ := ae hI o_a80 (by decide) (by decide) i84
      replace o_a83 : ob _ a83 6 := o_a83
      refine ⟨i84, a83, ea83, ?_⟩
      refine ⟨a5, ea5, ?_⟩
      refine ⟨o_a5, ?_⟩
      obtain ⟨a86, ea86, o_a86, -⟩ := sh 6 rfl hI o_a5
      refine ⟨a86, ea86, ?_⟩
      refine ⟨o_a86, ?_⟩
      intro x87 ex87
      have d_x87 := ex87
      refine ⟨o_a78, ?_⟩
      refine m_X8_dripOn hI o_a78 o_a83 (fun x88 S89 hI2 g90 p_x88 => ?_)
      subst p_x88
      intro _
      intro x92 ex92
      refine i_X9_stay_58 (fun (y0 : Nat) (y1 : Int32) (y2 : Int64) (y4 : Int32) (Z : HS) => ((2147483647 : Int32).toInt - y4.toInt).toNat) (fun (y0 : Nat) (y1 : Int32) (y2 : Int64) (y4 : Int32) (Z : HS) => (IV Z) ∧ (Gr S75 Z) ∧ (FRI [(2, 1)] [] S75 Z) ∧ (v0 = y0) ∧ (v1 = y1) ∧ (x92 = y2) ∧ (0 ≤ y4)) ?_ _ _ _ _ _ ⟨hI, (gr_rf _), (fri_rf _ _ _), rfl, rfl, rfl, (q454 st_y6 c7 c72 r_x82 q_x82)⟩
      intro w96 w98 w100 w102 S93 X103 ⟨hI, gL94, fL95, q97, q99, q101, i1⟩ ih104
      subst q97
      subst q99
      subst q101
      have l_a80 := (gr_len gL94 o_a80).trans l_a80
      have d_x82 := d_x82.trans (fri_at fL95 (by decide) (by decide) o_a5).symm
      have d_x1 := d_x1.trans (fri_at fL95 (by decide) (by decide) o_v0).symm
      have d_x87 := d_x87.trans (fri_at fL95 (by decide) (by decide) o_a86).symm
      have ea5 := (frr_at fL95 (by decide) (by decide) o_v0).trans ea5
      have ea78 := (frr_at fL95 (by decide) (by decide) o_v0).trans ea78
      have ea80 := (frr_at fL95 (by decide) (by decide) o_a78).trans ea80
      have ea86 := (frr_at fL95 (by decide) (by decide) o_a5).trans ea86
      have f0 := fri_tr (S := S75) g0 f0 fL95 (by decide) (by decide)
      have o_a5 := gr_ob gL94 o_a5
      have o_a78 := gr_ob gL94 o_a78
      have o_a80 := gr_ob gL94 o_a80
      have o_a83 := gr_ob gL94 o_a83
      have o_a86 := gr_ob gL94 o_a86
      have o_v0 := gr_ob gL94 o_v0
      have g0 := gr_tr (T := S75) g0 gL94
      refine u_X9_stay_58 ?_
      refine ⟨fun c105 => ?_, fun c105 => ?_⟩
      · exact hq _ _ hI g0 f0 (Or.inr rfl)
      · refine ⟨o_v0, ?_⟩
        refine ⟨a5, ea5, ?_⟩
        refine ⟨a78, ea78, ?_⟩
        refine ⟨a5, ea5, ?_⟩
        refine ⟨o_a5, ?_⟩
        refine ⟨a86, ea86, ?_⟩
        refine ⟨o_a86, ?_⟩
        intro x110 ex110
        have d_x110 := ex110
        refine ⟨o_a78, ?_⟩
        refine m_X8_hourOf hI o_a78 (fun x111 S112 hI2 g113 p_x111 => ?_)
        subst p_x111
        intro _
        refine ⟨o_a5, ?_⟩
        refine m_X0_rainsIn hI o_a5 (fun x115 S116 hI2 g117 b_x115 p_x115 => ?_)
        subst p_x115
        intro _ _
        have bb_x115 : x115 = 0 ∨ x115 = 1 := b_x115
        refine ⟨fun c119 => ?_, fun c119 => ?_⟩
        · refine u_X9_stay_111 ?_
          refine ⟨o_v0, ?_⟩
          refine ⟨a5, ea5, ?_⟩
          refine ⟨o_a5, ?_⟩
          refine ⟨a86, ea86, ?_⟩
          refine ⟨o_a86, ?_⟩
          intro x122 ex122
          have q_x122 : x122 = x110 := ex122.trans d_x110.symm
          have d_x122 := ex122
          intro x123 ex123
          have hI := iv_sI (j := 1) (v := x123) hI o_a86 (by decide) (nu_free (by decide))
          have f0 : FRI _ _ _ (sI S93 a86 1 x123) := fri_sI (S := S93) g0 f0 o_a86 (by decide)
          have fL95 : FRI _ _ _ (sI S93 a86 1 x123) := fri_sI (S := S93) gL94 fL95 o_a86 (by decide)
          have d_x82 : x82 = fI (sI S93 a86 1 x123) a5 0 := d_x82.trans (sI_ne (S := S93) o_a86 o_a5 (by decide) 0).symm
          have d_x1 : x1 = fI (sI S93 a86 1 x123) v0 9 := d_x1.trans (sI_ne (S := S93) o_a86 o_v0 (by decide) 9).symm
          have d_x87 : x87 = fI (sI S93 a86 1 x123) a86 0 := d_x87.trans (rd_j (by decide)).symm
          have d_x123 : x123 = fI (sI S93 a86 1 x123) a86 1 := (u2_self _ _ _ _).symm
          intro x124 ex124
          exact ih104 _ _ _ _ _ ⟨hI, gL94, fL95, rfl, rfl, rfl, (q455 st_y6 c7 c72 r_x82 q_x82 i1 c105 bb_x115 c119 ex124)⟩ (mu_up (q456 st_y6 c7 c72 r_x82 q_x82 i1 c105 bb_x115 c119 ex124) (q457 st_y6 c7 c72 r_x82 q_x82 i1 c105 bb_x115 c119 ex124))
        · refine ⟨a5, ea5, ?_⟩
          refine ⟨o_a5, ?_⟩
          refine ⟨a86, ea86, ?_⟩
          refine ⟨o_a86, ?_⟩
          obtain ⟨a127, ea127, o_a127, l_a127⟩ := shl 11 rfl hI o_a86
          refine ⟨a127, ea127, ?_⟩
          refine ⟨o_a127, ?_⟩
          refine ⟨(vin l_a127 (m := 5) (by decide) (q458 st_y6 c7 c72 r_x82 q_x82 i1 c105 bb_x115 c119)), ?_⟩
          intro x128 ex128
          intro x129 ex129
          have i130 : vp_in (0 : Int32) (hN _ a127) := (vin l_a127 (m := 5) (by decide) (q458 st_y6 c7 c72 r_x82 q_x82 i1 c105 bb_x115 c119))
          refine ⟨i130, ?_⟩
          have hI := iv_aJ (i := (0 : Int32).toNatClampNeg) (v := x129) hI o_a86 (by decide) ea127 o_a127 (by decide)
          refine u_X9_stay_111 ?_
          refine ⟨o_v0, ?_⟩
          refine ⟨a5, ea5, ?_⟩
          refine ⟨o_a5, ?_⟩
          refine ⟨a86, ea86, ?_⟩
          refine ⟨o_a86, ?_⟩
          intro x133 ex133
          have q_x133 : x133 = x110 := ex133.trans d_x110.symm
          have d_x133 := ex133
          intro x134 ex134
          have hI := iv_sI (j := 1) (v := x134) hI o_a86 (by decide) (nu_free (by decide))
          have f0 : FRI _ _ _ (sI (sJ S93 a127 (0 : Int32).toNatClampNeg x129) a86 1 x134) := fri_sI (S := sJ S93 a127 (0 : Int32).toNatClampNeg x129) g0 f0 o_a86 (by decide)
          have fL95 : FRI _ _ _ (sI (sJ S93 a127 (0 : Int32).toNatClampNeg x129) a86 1 x134) := fri_sI (S := sJ S93 a127 (0 : Int32).toNatClampNeg x129) gL94 fL95 o_a86 (by decide)
          have d_x82 : x82 = fI (sI (sJ S93 a127 (0 : Int32).toNatClampNeg x129) a86 1 x134) a5 0 := d_x82.trans (sI_ne (S := sJ S93 a127 (0 : Int32).toNatClampNeg x129) o_a86 o_a5 (by decide) 0).symm
          have d_x1 : x1 = fI (sI (sJ S93 a127 (0 : Int32).toNatClampNeg x129) a86 1 x134) v0 9 := d_x1.trans (sI_ne (S := sJ S93 a127 (0 : Int32).toNatClampNeg x129) o_a86 o_v0 (by decide) 9).symm
          have d_x87 : x87 = fI (sI (sJ S93 a127 (0 : Int32).toNatClampNeg x129) a86 1 x134) a86 0 := d_x87.trans (rd_j (by decide)).symm
          have d_x134 : x134 = fI (sI (sJ S93 a127 (0 : Int32).toNatClampNeg x129) a86 1 x134) a86 1 := (u2_self _ _ _ _).symm
          intro x135 ex135
          exact ih104 _ _ _ _ _ ⟨hI, gL94, fL95, rfl, rfl, rfl, (q459 st_y6 c7 c72 r_x82 q_x82 i1 c105 bb_x115 c119 ex135)⟩ (mu_up (q460 st_y6 c7 c72 r_x82 q_x82 i1 c105 bb_x115 c119 ex135) (q461 st_y6 c7 c72 r_x82 q_x82 i1 c105 bb_x115 c119 ex135))
    · exact hq _ _ hI g0 f0 (Or.inl rfl)
