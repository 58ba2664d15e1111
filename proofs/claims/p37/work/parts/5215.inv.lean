set_option maxHeartbeats 4000000 in
set_option maxRecDepth 20000 in
theorem m_X9_road {v0 : Nat} {v1 : Int32} {v2 : Int32} {Q : Int32 → HS → Prop} {S : HS} (hI : IV S) (o_v0 : ob S v0 9)     (hq : ∀ (r : Int32) (T : HS), IV T → Gr S T → FRI [(9, 9)] [] S T → Q r T) : P_X9_road v0 v1 v2 Q S := by
  have g0 := gr_rf S
  have f0 := fri_rf [(9, 9)] [] S
  refine u_X9_road ?_
  refine u_X9_road_0 ?_
  refine ⟨o_v0, ?_⟩
  obtain ⟨a1, ea1, o_a1, -⟩ := sh 1 rfl hI o_v0
  refine ⟨a1, ea1, ?_⟩
  refine ⟨o_a1, ?_⟩
  refine m_X8_hasRoad hI o_a1 (fun x2 S3 hI2 g4 b_x2 p_x2 => ?_)
  obtain ⟨z_S3, p_x2⟩ := p_x2
  subst z_S3
  intro _ _
  have bb_x2 : x2 = 0 ∨ x2 = 1 := b_x2
  refine ⟨fun c6 => ?_, fun c6 => ?_⟩
  · refine u_X9_road_20 ?_
    refine ⟨o_v0, ?_⟩
    refine u_X9_refuse ?_
    refine u_X9_refuse_0 ?_
    refine ⟨o_v0, ?_⟩
    intro S7 eS7
    have hI : IV S7 := by rw [eS7]; exact iv_sI hI o_v0 (by decide) (nu_free (by decide))
    have f0 := fr_I eS7 g0 f0 o_v0 (by decide)
    obtain ⟨y8, hy8⟩ : ∃ z : Int32, z = (1 : Int32) := ⟨_, rfl⟩
    have d_y8 := rd_Is eS7 hy8
    have ea1 := rf_I eS7 ea1
    have g0 := gr_I eS7 g0
    have o_a1 := ob_I eS7 o_a1
    have o_v0 := ob_I eS7 o_v0
    intro _
    exact hq _ _ hI g0 f0
  · refine ⟨fun c10 => ?_, fun c10 => ?_⟩
    · refine u_X9_road_20 ?_
      refine ⟨o_v0, ?_⟩
      refine u_X9_refuse ?_
      refine u_X9_refuse_0 ?_
      refine ⟨o_v0, ?_⟩
      intro S11 eS11
      have hI : IV S11 := by rw [eS11]; exact iv_sI hI o_v0 (by decide) (nu_free (by decide))
      have f0 := fr_I eS11 g0 f0 o_v0 (by decide)
      obtain ⟨y12, hy12⟩ : ∃ z : Int32, z = (1 : Int32) := ⟨_, rfl⟩
      have d_y12 := rd_Is eS11 hy12
      have ea1 := rf_I eS11 ea1
      have g0 := gr_I eS11 g0
      have o_a1 := ob_I eS11 o_a1
      have o_v0 := ob_I eS11 o_v0
      intro _
      exact hq _ _ hI g0 f0
    · refine ⟨fun c14 => ?_, fun c14 => ?_⟩
      · refine ⟨a1, ea1, ?_⟩
        refine ⟨o_a1, ?_⟩
        obtain ⟨a16, ea16, o_a16, l_a16⟩ := shl 17 rfl hI o_a1
        refine ⟨a16, ea16, ?_⟩
        refine ⟨o_a16, ?_⟩
        have i18 : vp_in v1 (hN _ a16) := (vin l_a16 (m := 12) (by decide) (q1124 p_x2 bb_x2 c6 c10 c14))
        obtain ⟨a17, ea17, o_a17⟩ := ae hI o_a16 (by decide) (by decide) i18
        replace o_a17 : ob _ a17 5 := o_a17
        refine ⟨i18, a17, ea17, ?_⟩
        refine ⟨o_a17, ?_⟩
        refine m_X5_tell hI o_a17 (fun x19 S20 hI2 g21 p_x19 => ?_)
        subst p_x19
        intro _
        refine u_X9_grant ?_
        refine u_X9_grant_0 ?_
        refine ⟨o_v0, ?_⟩
        intro S23 eS23
        have hI : IV S23 := by rw [eS23]; exact iv_sI hI o_v0 (by decide) (nu_free (by decide))
        have f0 := fr_I eS23 g0 f0 o_v0 (by decide)
        obtain ⟨y24, hy24⟩ : ∃ z : Int32, z = (0 : Int32) := ⟨_, rfl⟩
        have d_y24 := rd_Is eS23 hy24
        have ea1 := rf_I eS23 ea1
        have ea16 := rf_I eS23 ea16
        have l_a16 := ln_I eS23 l_a16
        have g0 := gr_I eS23 g0
        have o_a1 := ob_I eS23 o_a1
        have o_a16 := ob_I eS23 o_a16
        have o_a17 := ob_I eS23 o_a17
        have o_v0 := ob_I eS23 o_v0
        intro _
        exact hq _ _ hI g0 f0
      · refine u_X9_road_20 ?_
        refine ⟨o_v0, ?_⟩
        refine u_X9_refuse ?_
        refine u_X9_refuse_0 ?_
        refine ⟨o_v0, ?_⟩
        intro S26 eS26
        have hI : IV S26 := by rw [eS26]; exact iv_sI hI o_v0 (by decide) (nu_free (by decide))
        have f0 := fr_I eS26 g0 f0 o_v0 (by decide)
        obtain ⟨y27, hy27⟩ : ∃ z : Int32, z = (1 : Int32) := ⟨_, rfl⟩
        have d_y27 := rd_Is eS26 hy27
        have ea1 := rf_I eS26 ea1
        have g0 := gr_I eS26 g0
        have o_a1 := ob_I eS26 o_a1
        have o_v0 := ob_I eS26 o_v0
        intro _
        exact hq _ _ hI g0 f0
set_option maxHeartbeats 4000000 in
set_option maxRecDepth 20000 in
theorem m_X9_round {v0 : Nat} {v1 : Int32} {v2 : Int32} {v3 : Int32} {v4 : Int32} {Q : Int64 → HS → Prop} {S : HS} (hI : IV S) (o_v0 : ob S v0 9)     (hq : ∀ (r : Int64) (T : HS), IV T → Gr S T → FRI [(9, 9)] [] S T → Q r T) : P_X9_round v0 v1 v2 v3 v4 Q S := by
  have g0 := gr_rf S
  have f0 := fri_rf [(9, 9)] [] S
  refine u_X9_round ?_
  refine u_X9_round_0 ?_
  refine ⟨o_v0, ?_⟩
  refine m_X9_tripTrouble hI o_v0 (fun x1 S2 hI2 g3 p_x1 => ?_)
  obtain ⟨z_S2, p_x1⟩ := p_x1
  subst z_S2
  intro _
  refine u_X9_refusedBy ?_
  refine u_X9_refusedBy_0 ?_
  refine ⟨o_v0, ?_⟩
  intro S5 eS5
  have hI : IV S5 := by rw [eS5]; exact iv_sI hI o_v0 (by decide) (nu_free (by decide))
  have f0 := fr_I eS5 g0 f0 o_v0 (by decide)
  have d_x1 := rd_Is eS5 (rfl : x1 = x1)
  have g0 := gr_I eS5 g0
  have o_v0 := ob_I eS5 o_v0
  refine ⟨fun c6 => ?_, fun c6 => ?_⟩
  · intro _ _
    refine ⟨fun c8 => ?_, fun c8 => ?_⟩
    · obtain ⟨a9, ea9, o_a9, -⟩ := sh 3 rfl hI o_v0
      refine ⟨a9, ea9, ?_⟩
      obtain ⟨a10, ea10, o_a10, -⟩ := sh 1 rfl hI o_v0
      refine ⟨a10, ea10, ?_⟩
      refine ⟨o_a10, ?_⟩
      obtain ⟨a11, ea11, o_a11, l_a11⟩ := shl 18 rfl hI o_a10
      refine ⟨a11, ea11, ?_⟩
      refine ⟨o_a11, ?_⟩
      have i13 : vp_in v1 (hN _ a11) := (vin l_a11 (m := 4) (by decide) (q0 p_x1 c6))
      obtain ⟨a12, ea12, o_a12⟩ := ae hI o_a11 (by decide) (by decide) i13
      replace o_a12 : ob _ a12 6 := o_a12
      refine ⟨i13, a12, ea12, ?_⟩
      refine ⟨a10, ea10, ?_⟩
      refine ⟨o_a10, ?_⟩
      obtain ⟨a15, ea15, o_a15, l_a15⟩ := shl 17 rfl hI o_a10
      refine ⟨a15, ea15, ?_⟩
      refine ⟨o_a15, ?_⟩
      have i17 : vp_in v2 (hN _ a15) := (vin l_a15 (m := 12) (by decide) (q1 p_x1 c6))
      obtain ⟨a16, ea16, o_a16⟩ := ae hI o_a15 (by decide) (by decide) i17
      replace o_a16 : ob _ a16 5 := o_a16
      refine ⟨i17, a16, ea16, ?_⟩
      refine ⟨a10, ea10, ?_⟩
      refine ⟨o_a10, ?_⟩
      obtain ⟨a19, ea19, o_a19, l_a19⟩ := shl 15 rfl hI o_a10
      refine ⟨a19, ea19, ?_⟩
      refine ⟨o_a19, ?_⟩
      have i21 : vp_in v3 (hN _ a19) := (vin l_a19 (m := 6) (by decide) (q2 p_x1 c6))
      obtain ⟨a20, ea20, o_a20⟩ := ae hI o_a19 (by decide) (by decide) i21
      replace o_a20 : ob _ a20 3 := o_a20
      refine ⟨i21, a20, ea20, ?_⟩
      refine ⟨o_a9, ?_⟩
      refine m_X1_leastWet hI o_a9 o_a12 o_a16 o_a20 (fun x22 S23 hJ g24 fc25 => ?_)
      have hI := hJ
      have l_a11 := (gr_len g24 o_a11).trans l_a11
      have l_a15 := (gr_len g24 o_a15).trans l_a15
      have l_a19 := (gr_len g24 o_a19).trans l_a19
      have d_x1 := d_x1.trans (fri_at fc25 (by decide) (by decide) o_v0).symm
      have ea9 := (frr_at fc25 (by decide) (by decide) o_v0).trans ea9
      have ea10 := (frr_at fc25 (by decide) (by decide) o_v0).trans ea10
      have ea11 := (frr_at fc25 (by decide) (by decide) o_a10).trans ea11
      have ea15 := (frr_at fc25 (by decide) (by decide) o_a10).trans ea15
      have ea19 := (frr_at fc25 (by decide) (by decide) o_a10).trans ea19
      have f0 := fri_tr (S := S5) g0 f0 fc25 (by decide) (by decide)
      have o_a10 := gr_ob g24 o_a10
      have o_a11 := gr_ob g24 o_a11
      have o_a12 := gr_ob g24 o_a12
      have o_a15 := gr_ob g24 o_a15
      have o_a16 := gr_ob g24 o_a16
      have o_a19 := gr_ob g24 o_a19
      have o_a20 := gr_ob g24 o_a20
      have o_a9 := gr_ob g24 o_a9
      have o_v0 := gr_ob g24 o_v0
      have g0 := gr_tr (T := S5) g0 g24
      intro _
      refine ⟨a9, ea9, ?_⟩
      refine ⟨a10, ea10, ?_⟩
      refine ⟨o_a10, ?_⟩
      refine ⟨a11, ea11, ?_⟩
      refine ⟨o_a11, ?_⟩
      have i30 : vp_in v1 (hN _ a11) := (vin l_a11 (m := 4) (by decide) (q0 p_x1 c6))
      obtain ⟨a29, ea29, o_a29⟩ := ae hI o_a11 (by decide) (by decide) i30
      replace o_a29 : ob _ a29 6 := o_a29
      refine ⟨i30, a29, ea29, ?_⟩
      refine ⟨a10, ea10, ?_⟩
      refine ⟨o_a10, ?_⟩
      refine ⟨a15, ea15, ?_⟩
      refine ⟨o_a15, ?_⟩
      have i34 : vp_in v2 (hN _ a15) := (vin l_a15 (m := 12) (by decide) (q1 p_x1 c6))
      obtain ⟨a33, ea33, o_a33⟩ := ae hI o_a15 (by decide) (by decide) i34
      replace o_a33 : ob _ a33 5 := o_a33
      refine ⟨i34, a33, ea33, ?_⟩
      refine ⟨a10, ea10, ?_⟩
      refine ⟨o_a10, ?_⟩
      refine ⟨a19, ea19, ?_⟩
      refine ⟨o_a19, ?_⟩
      have i38 : vp_in v3 (hN _ a19) := (vin l_a19 (m := 6) (by decide) (q2 p_x1 c6))
      obtain ⟨a37, ea37, o_a37⟩ := ae hI o_a19 (by decide) (by decide) i38
      replace o_a37 : ob _ a37 3 := o_a37
      refine ⟨i38, a37, ea37, ?_⟩
      refine ⟨o_a9, ?_⟩
      refine m_X1_leastWet hI o_a9 o_a29 o_a33 o_a37 (fun x39 S40 hJ g41 fc42 => ?_)
      have hI := hJ
      have l_a11 := (gr_len g41 o_a11).trans l_a11
      have l_a15 := (gr_len g41 o_a15).trans l_a15
      have l_a19 := (gr_len g41 o_a19).trans l_a19
      have d_x1 := d_x1.trans (fri_at fc42 (by decide) (by decide) o_v0).symm
      have ea9 := (frr_at fc42 (by decide) (by decide) o_v0).trans ea9
      have ea10 := (frr_at fc42 (by decide) (by decide) o_v0).trans ea10
      have ea11 := (frr_at fc42 (by decide) (by decide) o_a10).trans ea11
      have ea15 := (frr_at fc42 (by decide) (by decide) o_a10).trans ea15
      have ea19 := (frr_at fc42 (by decide) (by decide) o_a10).trans ea19
      have f0 := fri_tr (S := S23) g0 f0 fc42 (by decide) (by decide)
      have o_a10 := gr_ob g41 o_a10
      have o_a11 := gr_ob g41 o_a11
      have o_a12 := gr_ob g41 o_a12
      have o_a15 := gr_ob g41 o_a15
      have o_a16 := gr_ob g41 o_a16
      have o_a19 := gr_ob g41 o_a19
      have o_a20 := gr_ob g41 o_a20
      have o_a29 := gr_ob g41 o_a29
      have o_a33 := gr_ob g41 o_a33
      have o_a37 := gr_ob g41 o_a37
      have o_a9 := gr_ob g41 o_a9
      have o_v0 := gr_ob g41 o_v0
      have g0 := gr_tr (T := S23) g0 g41
      intro _
      refine m_X9_fraction hI (fun x43 S44 hI2 g45 p_x43 => ?_)
      subst p_x43
      intro _
      exact hq _ _ hI g0 f0
    · exact hq _ _ hI g0 f0
  · intro _ _
    refine ⟨fun c48 => ?_, fun c48 => ?_⟩
    · obtain ⟨a49, ea49, o_a49, -⟩ := sh 3 rfl hI o_v0
      refine ⟨a49, ea49, ?_⟩
      obtain ⟨a50, ea50, o_a50, -⟩ := sh 1 rfl hI o_v0
      refine ⟨a50, ea50, ?_⟩
      refine ⟨o_a50, ?_⟩
      obtain ⟨a51, ea51, o_a51, l_a51⟩ := shl 18 rfl hI o_a50
      refine ⟨a51, ea51, ?_⟩
      refine ⟨o_a51, ?_⟩
      have i53 : vp_in v1 (hN _ a51) := (vin l_a51 (m := 4) (by decide) (q3 p_x1 c6 c48))
      obtain ⟨a52, ea52, o_a52⟩ := ae hI o_a51 (by decide) (by decide) i53
      replace o_a52 : ob _ a52 6 := o_a52
      refine ⟨i53, a52, ea52, ?_⟩
      refine ⟨a50, ea50, ?_⟩
      refine ⟨o_a50, ?_⟩
      obtain ⟨a55, ea55, o_a55, l_a55⟩ := shl 17 rfl hI o_a50
      refine ⟨a55, ea55, ?_⟩
      refine ⟨o_a55, ?_⟩
      have i57 : vp_in v2 (hN _ a55) := (vin l_a55 (m := 12) (by decide) (q4 p_x1 c6 c48))
      obtain ⟨a56, ea56, o_a56⟩ := ae hI o_a55 (by decide) (by decide) i57
      replace o_a56 : ob _ a56 5 := o_a56
      refine ⟨i57, a56, ea56, ?_⟩
      refine ⟨a50, ea50, ?_⟩
      refine ⟨o_a50, ?_⟩
      obtain ⟨a59, ea59, o_a59, l_a59⟩ := shl 15 rfl hI o_a50
      refine ⟨a59, ea59, ?_⟩
      refine ⟨o_a59, ?_⟩
      have i61 : vp_in v3 (hN _ a59) := (vin l_a59 (m := 6) (by decide) (q5 p_x1 c6 c48))
      obtain ⟨a60, ea60, o_a60⟩ := ae hI o_a59 (by decide) (by decide) i61
      replace o_a60 : ob _ a60 3 := o_a60
      refine ⟨i61, a60, ea60, ?_⟩
      refine ⟨o_a49, ?_⟩
      refine m_X1_leastWet hI o_a49 o_a52 o_a56 o_a60 (fun x62 S63 hJ g64 fc65 => ?_)
      have hI := hJ
      have l_a51 := (gr_len g64 o_a51).trans l_a51
      have l_a55 := (gr_len g64 o_a55).trans l_a55
      have l_a59 := (gr_len g64 o_a59).trans l_a59
      have d_x1 := d_x1.trans (fri_at fc65 (by decide) (by decide) o_v0).symm
      have ea49 := (frr_at fc65 (by decide) (by decide) o_v0).trans ea49
      have ea50 := (frr_at fc65 (by decide) (by decide) o_v0).trans ea50
      have ea51 := (frr_at fc65 (by decide) (by decide) o_a50).trans ea51
      have ea55 := (frr_at fc65 (by decide) (by decide) o_a50).trans ea55
      have ea59 := (frr_at fc65 (by decide) (by decide) o_a50).trans ea59
      have f0 := fri_tr (S := S5) g0 f0 fc65 (by decide) (by decide)
      have o_a49 := gr_ob g64 o_a49
      have o_a50 := gr_ob g64 o_a50
      have o_a51 := gr_ob g64 o_a51
      have o_a52 := gr_ob g64 o_a52
      have o_a55 := gr_ob g64 o_a55
      have o_a56 := gr_ob g64 o_a56
      have o_a59 := gr_ob g64 o_a59
      have o_a60 := gr_ob g64 o_a60
      have o_v0 := gr_ob g64 o_v0
      have g0 := gr_tr (T := S5) g0 g64
      intro _
      refine ⟨a49, ea49, ?_⟩
      refine ⟨a50, ea50, ?_⟩
      refine ⟨o_a50, ?_⟩
      refine ⟨a51, ea51, ?_⟩
      refine ⟨o_a51, ?_⟩
      have i70 : vp_in v1 (hN _ a51) := (vin l_a51 (m := 4) (by decide) (q3 p_x1 c6 c48))
      obtain ⟨a69, ea69, o_a69⟩ := ae hI o_a51 (by decide) (by decide) i70
      replace o_a69 : ob _ a69 6 := o_a69
      refine ⟨i70, a69, ea69, ?_⟩
      refine ⟨a50, ea50, ?_⟩
      refine ⟨o_a50, ?_⟩
      refine ⟨a55, ea55, ?_⟩
      refine ⟨o_a55, ?_⟩
      have i74 : vp_in v2 (hN _ a55) := (vin l_a55 (m := 12) (by decide) (q4 p_x1 c6 c48))
      obtain ⟨a73, ea73, o_a73⟩ := ae hI o_a55 (by decide) (by decide) i74
      replace o_a73 : ob _ a73 5 := o_a73
      refine ⟨i74, a73, ea73, ?_⟩
      refine ⟨a50, ea50, ?_⟩
      refine ⟨o_a50, ?_⟩
      refine ⟨a59, ea59, ?_⟩
      refine ⟨o_a59, ?_⟩
      have i78 : vp_in v3 (hN _ a59) := (vin l_a59 (m := 6) (by decide) (q5 p_x1 c6 c48))
      obtain ⟨a77, ea77, o_a77⟩ := ae hI o_a59 (by decide) (by decide) i78
      replace o_a77 : ob _ a77 3 := o_a77
      refine ⟨i78, a77, ea77, ?_⟩
      refine ⟨o_a49, ?_⟩
      refine m_X1_leastWet hI o_a49 o_a69 o_a73 o_a77 (fun x79 S80 hJ g81 fc82 => ?_)
      have hI := hJ
      have l_a51 := (gr_len g81 o_a51).trans l_a51
      have l_a55 := (gr_len g81 o_a55).trans l_a55
      have l_a59 := (gr_len g81 o_a59).trans l_a59
      have d_x1 := d_x1.trans (fri_at fc82 (by decide) (by decide) o_v0).symm
      have ea49 := (frr_at fc82 (by decide) (by decide) o_v0).trans ea49
      have ea50 := (frr_at fc82 (by decide) (by decide) o_v0).trans ea50
      have ea51 := (frr_at fc82 (by decide) (by decide) o_a50).trans ea51
      have ea55 := (frr_at fc82 (by decide) (by decide) o_a50).trans ea55
      have ea59 := (frr_at fc82 (by decide) (by decide) o_a50).trans ea59
      have f0 := fri_tr (S := S63) g0 f0 fc82 (by decide) (by decide)
      have o_a49 := gr_ob g81 o_a49
      have o_a50 := gr_ob g81 o_a50
      have o_a51 := gr_ob g81 o_a51
      have o_a52 := gr_ob g81 o_a52
      have o_a55 := gr_ob g81 o_a55
      have o_a56 := gr_ob g81 o_a56
      have o_a59 := gr_ob g81 o_a59
      have o_a60 := gr_ob g81 o_a60
      have o_a69 := gr_ob g81 o_a69
      have o_a73 := gr_ob g81 o_a73
      have o_a77 := gr_ob g81 o_a77
      have o_v0 := gr_ob g81 o_v0
      have g0 := gr_tr (T := S63) g0 g81
      intro _
      refine m_X9_fraction hI (fun x83 S84 hI2 g85 p_x83 => ?_)
      subst p_x83
      intro _
      exact hq _ _ hI g0 f0
    · exact hq _ _ hI g0 f0
set_option maxHeartbeats 4000000 in
set_option maxRecDepth 20000 in
theorem m_X9_saves {v0 : Nat} {v1 : Int32} {v2 : Int32} {v3 : Int32} {v4 : Int32} {v5 : Int32} {Q : Int64 → HS → Prop} {S : HS} (hI : IV S) (o_v0 : ob S v0 9)     (hq : ∀ (r : Int64) (T : HS), IV T → Gr S T → FRI [(9, 9)] [] S T → Q r T) : P_X9_saves v0 v1 v2 v3 v4 v5 Q S := by
  have g0 := gr_rf S
  have f0 := fri_rf [(9, 9)] [] S
  refine u_X9_saves ?_
  refine u_X9_saves_0 ?_
  refine ⟨o_v0, ?_⟩
  refine m_X9_tripTrouble hI o_v0 (fun x1 S2 hI2 g3 p_x1 => ?_)
  obtain ⟨z_S2, p_x1⟩ := p_x1
  subst z_S2
  intro _
  refine u_X9_refusedBy ?_
  refine u_X9_refusedBy_0 ?_
  refine ⟨o_v0, ?_⟩
  intro S5 eS5
  have hI : IV S5 := by rw [eS5]; exact iv_sI hI o_v0 (by decide) (nu_free (by decide))
  have f0 := fr_I eS5 g0 f0 o_v0 (by decide)
  have d_x1 := rd_Is eS5 (rfl : x1 = x1)
  have g0 := gr_I eS5 g0
  have o_v0 := ob_I eS5 o_v0
  refine ⟨fun c6 => ?_, fun c6 => ?_⟩
  · intro _ _
    refine ⟨fun c8 => ?_, fun c8 => ?_⟩
    · obtain ⟨a9, ea9, o_a9, -⟩ := sh 1 rfl hI o_v0
      refine ⟨a9, ea9, ?_⟩
      refine ⟨o_a9, ?_⟩
      obtain ⟨a10, ea10, o_a10, l_a10⟩ := shl 18 rfl hI o_a9
      refine ⟨a10, ea10, ?_⟩
      refine ⟨o_a10, ?_⟩
      have i12 : vp_in v1 (hN _ a10) := (vin l_a10 (m := 4) (by decide) (q0 p_x1 c6))
      obtain ⟨a11, ea11, o_a11⟩ := ae hI o_a10 (by decide) (by decide) i12
      replace o_a11 : ob _ a11 6 := o_a11
      refine ⟨i12, a11, ea11, ?_⟩
      obtain ⟨a13, ea13, o_a13, -⟩ := sh 3 rfl hI o_v0
      refine ⟨a13, ea13, ?_⟩
      refine ⟨a9, ea9, ?_⟩
      refine ⟨o_a9, ?_⟩
      obtain ⟨a15, ea15, o_a15, l_a15⟩ := shl 17 rfl hI o_a9
      refine ⟨a15, ea15, ?_⟩
      refine ⟨o_a15, ?_⟩
      have i17 : vp_in v2 (hN _ a15) := (vin l_a15 (m := 12) (by decide) (q1 p_x1 c6))
      obtain ⟨a16, ea16, o_a16⟩ := ae hI o_a15 (by decide) (by decide) i17
      replace o_a16 : ob _ a16 5 := o_a16
      refine ⟨i17, a16, ea16, ?_⟩
      refine ⟨a9, ea9, ?_⟩
      refine ⟨o_a9, ?_⟩
      obtain ⟨a19, ea19, o_a19, l_a19⟩ := shl 15 rfl hI o_a9
      refine ⟨a19, ea19, ?_⟩
      refine ⟨o_a19, ?_⟩
      have i21 : vp_in v4 (hN _ a19) := (vin l_a19 (m := 6) (by decide) (q2 p_x1 c6))
      obtain ⟨a20, ea20, o_a20⟩ := ae hI o_a19 (by decide) (by decide) i21
      replace o_a20 : ob _ a20 3 := o_a20
      refine ⟨i21, a20, ea20, ?_⟩
      refine ⟨o_a11, ?_⟩
      intro x22 ex22
      have r_x22 : (0 : Int32) ≤ x22 ∧ x22 ≤ (9 : Int32) := by rw [ex22]; exact nu 4 rfl hI o_a11
      have d_x22 := ex22
      refine ⟨o_a13, ?_⟩
      refine m_X1_wetOf hI o_a13 o_a11 o_a16 o_a20 (fun x23 S24 hJ g25 fc26 => ?_)
      have hI := hJ
      have l_a10 := (gr_len g25 o_a10).trans l_a10
      have l_a15 := (gr_len g25 o_a15).trans l_a15
      have l_a19 := (gr_len g25 o_a19).trans l_a19
      have d_x1 := d_x1.trans (fri_at fc26 (by decide) (by decide) o_v0).symm
      have d_x22 := d_x22.trans (fri_at fc26 (by decide) (by decide) o_a11).symm
      have ea9 := (frr_at fc26 (by decide) (by decide) o_v0).trans ea9
      have ea10 := (frr_at fc26 (by decide) (by decide) o_a9).trans ea10
      have ea13 := (frr_at fc26 (by decide) (by decide) o_v0).trans ea13
      have ea15 := (frr_at fc26 (by decide) (by decide) o_a9).trans ea15
      have ea19 := (frr_at fc26 (by decide) (by decide) o_a9).trans ea19
      have f0 := fri_tr (S := S5) g0 f0 fc26 (by decide) (by decide)
      have o_a10 := gr_ob g25 o_a10
      have o_a11 := gr_ob g25 o_a11
      have o_a13 := gr_ob g25 o_a13
      have o_a15 := gr_ob g25 o_a15
      have o_a16 := gr_ob g25 o_a16
      have o_a19 := gr_ob g25 o_a19
      have o_a20 := gr_ob g25 o_a20
      have o_a9 := gr_ob g25 o_a9
      have o_v0 := gr_ob g25 o_v0
      have g0 := gr_tr (T := S5) g0 g25
      intro _
      refine ⟨a13, ea13, ?_⟩
      refine ⟨a9, ea9, ?_⟩
      refine ⟨o_a9, ?_⟩
      refine ⟨a15, ea15, ?_⟩
      refine ⟨o_a15, ?_⟩
      have i31 : vp_in v2 (hN _ a15) := (vin l_a15 (m := 12) (by decide) (q1 p_x1 c6))
      obtain ⟨a30, ea30, o_a30⟩ := ae hI o_a15 (by decide) (by decide) i31
      replace o_a30 : ob _ a30 5 := o_a30
      refine ⟨i31, a30, ea30, ?_⟩
      refine ⟨a9, ea9, ?_⟩
      refine ⟨o_a9, ?_⟩
      refine ⟨a19, ea19, ?_⟩
      refine ⟨o_a19, ?_⟩
      have i35 : vp_in v4 (hN _ a19) := (vin l_a19 (m := 6) (by decide) (q2 p_x1 c6))
      obtain ⟨a34, ea34, o_a34⟩ := ae hI o_a19 (by decide) (by decide) i35
      replace o_a34 : ob _ a34 3 := o_a34
      refine ⟨i35, a34, ea34, ?_⟩
      refine ⟨o_a13, ?_⟩
      refine m_X1_leastWet hI o_a13 o_a11 o_a30 o_a34 (fun x36 S37 hJ g38 fc39 => ?_)
      have hI := hJ
      have l_a10 := (gr_len g38 o_a10).trans l_a10
      have l_a15 := (gr_len g38 o_a15).trans l_a15
      have l_a19 := (gr_len g38 o_a19).trans l_a19
      have d_x1 := d_x1.trans (fri_at fc39 (by decide) (by decide) o_v0).symm
      have d_x22 := d_x22.trans (fri_at fc39 (by decide) (by decide) o_a11).symm
      have ea9 := (frr_at fc39 (by decide) (by decide) o_v0).trans ea9
      have ea10 := (frr_at fc39 (by decide) (by decide) o_a9).trans ea10
      have ea13 := (frr_at fc39 (by decide) (by decide) o_v0).trans ea13
      have ea15 := (frr_at fc39 (by decide) (by decide) o_a9).trans ea15
      have ea19 := (frr_at fc39 (by decide) (by decide) o_a9).trans ea19
      have f0 := fri_tr (S := S24) g0 f0 fc39 (by decide) (by decide)
      have o_a10 := gr_ob g38 o_a10
      have o_a11 := gr_ob g38 o_a11
      have o_a13 := gr_ob g38 o_a13
      have o_a15 := gr_ob g38 o_a15
      have o_a16 := gr_ob g38 o_a16
      have o_a19 := gr_ob g38 o_a19
      have o_a20 := gr_ob g38 o_a20
      have o_a30 := gr_ob g38 o_a30
      have o_a34 := gr_ob g38 o_a34
      have o_a9 := gr_ob g38 o_a9
      have o_v0 := gr_ob g38 o_v0
      have g0 := gr_tr (T := S24) g0 g38
      intro _
      refine m_X9_fraction hI (fun x40 S41 hI2 g42 p_x40 => ?_)
      subst p_x40
      intro _
      exact hq _ _ hI g0 f0
    · exact hq _ _ hI g0 f0
  · intro _ _
    refine ⟨fun c45 => ?_, fun c45 => ?_⟩
    · obtain ⟨a46, ea46, o_a46, -⟩ := sh 1 rfl hI o_v0
      refine ⟨a46, ea46, ?_⟩
      refine ⟨o_a46, ?_⟩
      obtain ⟨a47, ea47, o_a47, l_a47⟩ := shl 18 rfl hI o_a46
      refine ⟨a47, ea47, ?_⟩
      refine ⟨o_a47, ?_⟩
      have i49 : vp_in v1 (hN _ a47) := (vin l_a47 (m := 4) (by decide) (q3 p_x1 c6 c45))
      obtain ⟨a48, ea48, o_a48⟩ := ae hI o_a47 (by decide) (by decide) i49
      replace o_a48 : ob _ a48 6 := o_a48
      refine ⟨i49, a48, ea48, ?_⟩
      obtain ⟨a50, ea50, o_a50, -⟩ := sh 3 rfl hI o_v0
      refine ⟨a50, ea50, ?_⟩
      refine ⟨a46, ea46, ?_⟩
      refine ⟨o_a46, ?_⟩
      obtain ⟨a52, ea52, o_a52, l_a52⟩ := shl 17 rfl hI o_a46
      refine ⟨a52, ea52, ?_⟩
      refine ⟨o_a52, ?_⟩
      have i54 : vp_in v2 (hN _ a52) := (vin l_a52 (m := 12) (by decide) (q4 p_x1 c6 c45))
      obtain ⟨a53, ea53, o_a53⟩ := ae hI o_a52 (by decide) (by decide) i54
      replace o_a53 : ob _ a53 5 := o_a53
      refine ⟨i54, a53, ea53, ?_⟩
      refine ⟨a46, ea46, ?_⟩
      refine ⟨o_a46, ?_⟩
      obtain ⟨a56, ea56, o_a56, l_a56⟩ := shl 15 rfl hI o_a46
      refine ⟨a56, ea56, ?_⟩
      refine ⟨o_a56, ?_⟩
      have i58 : vp_in v4 (hN _ a56) := (vin l_a56 (m := 6) (by decide) (q5 p_x1 c6 c45))
      obtain ⟨a57, ea57, o_a57⟩ := ae hI o_a56 (by decide) (by decide) i58
      replace o_a57 : ob _ a57 3 := o_a57
      refine ⟨i58, a57, ea57, ?_⟩
      refine ⟨o_a48, ?_⟩
      intro x59 ex59
      have r_x59 : (0 : Int32) ≤ x59 ∧ x59 ≤ (9 : Int32) := by rw [ex59]; exact nu 4 rfl hI o_a48
      have d_x59 := ex59
      refine ⟨o_a50, ?_⟩
      refine m_X1_wetOf hI o_a50 o_a48 o_a53 o_a57 (fun x60 S61 hJ g62 fc63 => ?_)
      have hI := hJ
      have l_a47 := (gr_len g62 o_a47).trans l_a47
      have l_a52 := (gr_len g62 o_a52).trans l_a52
      have l_a56 := (gr_len g62 o_a56).trans l_a56
      have d_x1 := d_x1.trans (fri_at fc63 (by decide) (by decide) o_v0).symm
      have d_x59 := d_x59.trans (fri_at fc63 (by decide) (by decide) o_a48).symm
      have ea46 := (frr_at fc63 (by decide) (by decide) o_v0).trans ea46
      have ea47 := (frr_at fc63 (by decide) (by decide) o_a46).trans ea47
      have ea50 := (frr_at fc63 (by decide) (by decide) o_v0).trans ea50
      have ea52 := (frr_at fc63 (by decide) (by decide) o_a46).trans ea52
      have ea56 := (frr_at fc63 (by decide) (by decide) o_a46).trans ea56
      have f0 := fri_tr (S := S5) g0 f0 fc63 (by decide) (by decide)
      have o_a46 := gr_ob g62 o_a46
      have o_a47 := gr_ob g62 o_a47
      have o_a48 := gr_ob g62 o_a48
      have o_a50 := gr_ob g62 o_a50
      have o_a52 := gr_ob g62 o_a52
      have o_a53 := gr_ob g62 o_a53
      have o_a56 := gr_ob g62 o_a56
      have o_a57 := gr_ob g62 o_a57
      have o_v0 := gr_ob g62 o_v0
      have g0 := gr_tr (T := S5) g0 g62
      intro _
      refine ⟨a50, ea50, ?_⟩
      refine ⟨a46, ea46, ?_⟩
      refine ⟨o_a46, ?_⟩
      refine ⟨a52, ea52, ?_⟩
      refine ⟨o_a52, ?_⟩
      have i68 : vp_in v2 (hN _ a52) := (vin l_a52 (m := 12) (by decide) (q4 p_x1 c6 c45))
      obtain ⟨a67, ea67, o_a67⟩ := ae hI o_a52 (by decide) (by decide) i68
      replace o_a67 : ob _ a67 5 := o_a67
      refine ⟨i68, a67, ea67, ?_⟩
      refine ⟨a46, ea46, ?_⟩
      refine ⟨o_a46, ?_⟩
      refine ⟨a56, ea56, ?_⟩
      refine ⟨o_a56, ?_⟩
      have i72 : vp_in v4 (hN _ a56) := (vin l_a56 (m := 6) (by decide) (q5 p_x1 c6 c45))
      obtain ⟨a71, ea71, o_a71⟩ := ae hI o_a56 (by decide) (by decide) i72
      replace o_a71 : ob _ a71 3 := o_a71
      refine ⟨i72, a71, ea71, ?_⟩
      refine ⟨o_a50, ?_⟩
      refine m_X1_leastWet hI o_a50 o_a48 o_a67 o_a71 (fun x73 S74 hJ g75 fc76 => ?_)
      have hI := hJ
      have l_a47 := (gr_len g75 o_a47).trans l_a47
      have l_a52 := (gr_len g75 o_a52).trans l_a52
      have l_a56 := (gr_len g75 o_a56).trans l_a56
      have d_x1 := d_x1.trans (fri_at fc76 (by decide) (by decide) o_v0).symm
      have d_x59 := d_x59.trans (fri_at fc76 (by decide) (by decide) o_a48).symm
      have ea46 := (frr_at fc76 (by decide) (by decide) o_v0).trans ea46
      have ea47 := (frr_at fc76 (by decide) (by decide) o_a46).trans ea47
      have ea50 := (frr_at fc76 (by decide) (by decide) o_v0).trans ea50
      have ea52 := (frr_at fc76 (by decide) (by decide) o_a46).trans ea52
      have ea56 := (frr_at fc76 (by decide) (by decide) o_a46).trans ea56
      have f0 := fri_tr (S := S61) g0 f0 fc76 (by decide) (by decide)
      have o_a46 := gr_ob g75 o_a46
      have o_a47 := gr_ob g75 o_a47
      have o_a48 := gr_ob g75 o_a48
      have o_a50 := gr_ob g75 o_a50
      have o_a52 := gr_ob g75 o_a52
      have o_a53 := gr_ob g75 o_a53
      have o_a56 := gr_ob g75 o_a56
      have o_a57 := gr_ob g75 o_a57
      have o_a67 := gr_ob g75 o_a67
      have o_a71 := gr_ob g75 o_a71
      have o_v0 := gr_ob g75 o_v0
      have g0 := gr_tr (T := S61) g0 g75
      intro _
      refine m_X9_fraction hI (fun x77 S78 hI2 g79 p_x77 => ?_)
      subst p_x77
      intro _
      exact hq _ _ hI g0 f0
    · exact hq _ _ hI g0 f0
set_option maxHeartbeats 4000000 in
set_option maxRecDepth 20000 in
theorem m_X9_size {v0 : Nat} {v1 : Int32} {Q : Int32 → HS → Prop} {S : HS} (hI : IV S) (o_v0 : ob S v0 9)     (hq : ∀ (r : Int32) (T : HS), IV T → Gr S T → (S = T) → Q r T) : P_X9_size v0 v1 Q S := by
  have g0 := gr_rf S
  refine u_X9_size ?_
  refine u_X9_size_0 ?_
  refine ⟨fun c1 => ?_, fun c1 => ?_, fun c1 => ?_, fun c1 => ?_, fun c1 => ?_, fun c1 => ?_, fun c1 => ?_, fun c1 => ?_, fun c1 => ?_, fun c1 => ?_, fun c1 => ?_, fun c1 => ?_, fun c1 => ?_⟩
  · exact hq _ _ hI g0 rfl
  · refine ⟨o_v0, ?_⟩
    obtain ⟨a2, ea2, o_a2, -⟩ := sh 1 rfl hI o_v0
    refine ⟨a2, ea2, ?_⟩
    refine ⟨o_a2, ?_⟩
    intro x3 ex3
    have r_x3 : (0 : Int32) ≤ x3 ∧ x3 ≤ (60 : Int32) := by rw [ex3]; exact nu 10 rfl hI o_a2
    have d_x3 := ex3
    exact hq _ _ hI g0 rfl
  · refine ⟨o_v0, ?_⟩
    obtain ⟨a4, ea4, o_a4, -⟩ := sh 1 rfl hI o_v0
    refine ⟨a4, ea4, ?_⟩
    refine ⟨o_a4, ?_⟩
    intro x5 ex5
    have r_x5 : (0 : Int32) ≤ x5 ∧ x5 ≤ (6 : Int32) := by rw [ex5]; exact nu 11 rfl hI o_a4
    have d_x5 := ex5
    exact hq _ _ hI g0 rfl
  · refine ⟨o_v0, ?_⟩
    obtain ⟨a6, ea6, o_a6, -⟩ := sh 1 rfl hI o_v0
    refine ⟨a6, ea6, ?_⟩
    refine ⟨o_a6, ?_⟩
    intro x7 ex7
    have r_x7 : (0 : Int32) ≤ x7 ∧ x7 ≤ (8 : Int32) := by rw [ex7]; exact nu 12 rfl hI o_a6
    have d_x7 := ex7
    exact hq _ _ hI g0 rfl
  · refine ⟨o_v0, ?_⟩
    obtain ⟨a8, ea8, o_a8, -⟩ := sh 1 rfl hI o_v0
    refine ⟨a8, ea8, ?_⟩
    refine ⟨o_a8, ?_⟩
    intro x9 ex9
    have r_x9 : (0 : Int32) ≤ x9 ∧ x9 ≤ (12 : Int32) := by rw [ex9]; exact nu 13 rfl hI o_a8
    have d_x9 := ex9
    exact hq _ _ hI g0 rfl
  · refine ⟨o_v0, ?_⟩
    obtain ⟨a10, ea10, o_a10, -⟩ := sh 1 rfl hI o_v0
    refine ⟨a10, ea10, ?_⟩
    refine ⟨o_a10, ?_⟩
    intro x11 ex11
    have r_x11 : (0 : Int32) ≤ x11 ∧ x11 ≤ (4 : Int32) := by rw [ex11]; exact nu 14 rfl hI o_a10
    have d_x11 := ex11
    exact hq _ _ hI g0 rfl
  · refine ⟨o_v0, ?_⟩
    obtain ⟨a12, ea12, o_a12, -⟩ := sh 1 rfl hI o_v0
    refine ⟨a12, ea12, ?_⟩
    refine ⟨o_a12, ?_⟩
    intro x13 ex13
    have r_x13 : (0 : Int32) ≤ x13 ∧ x13 ≤ (4 : Int32) := by rw [ex13]; exact nu 15 rfl hI o_a12
    have d_x13 := ex13
    exact hq _ _ hI g0 rfl
  · refine ⟨o_v0, ?_⟩
    obtain ⟨a14, ea14, o_a14, -⟩ := sh 5 rfl hI o_v0
    refine ⟨a14, ea14, ?_⟩
    refine ⟨o_a14, ?_⟩
    refine m_X0_isOn hI o_a14 (fun x15 S16 hI2 g17 b_x15 p_x15 => ?_)
    subst p_x15
    intro _ _
    have bb_x15 : x15 = 0 ∨ x15 = 1 := b_x15
    refine ⟨fun c19 => ?_, fun c19 => ?_⟩
    · exact hq _ _ hI g0 rfl
    · refine ⟨a14, ea14, ?_⟩
      refine ⟨o_a14, ?_⟩
      intro x21 ex21
      have r_x21 : (-1 : Int32) ≤ x21 ∧ x21 ≤ (3 : Int32) := by rw [ex21]; exact nu 1 rfl hI o_a14
      have d_x21 := ex21
      exact hq _ _ hI g0 rfl
  · refine ⟨o_v0, ?_⟩
    obtain ⟨a22, ea22, o_a22, -⟩ := sh 5 rfl hI o_v0
    refine ⟨a22, ea22, ?_⟩
    refine ⟨o_a22, ?_⟩
    refine m_X0_isOn hI o_a22 (fun x23 S24 hI2 g25 b_x23 p_x23 => ?_)
    subst p_x23
    intro _ _
    have bb_x23 : x23 = 0 ∨ x23 = 1 := b_x23
    refine ⟨fun c27 => ?_, fun c27 => ?_⟩
    · exact hq _ _ hI g0 rfl
    · refine ⟨a22, ea22, ?_⟩
      refine ⟨o_a22, ?_⟩
      obtain ⟨a29, ea29, o_a29, -⟩ := sh 6 rfl hI o_a22
      refine ⟨a29, ea29, ?_⟩
      refine ⟨o_a29, ?_⟩
      intro x30 ex30
      have d_x30 := ex30
      exact hq _ _ hI g0 rfl
  · refine ⟨o_v0, ?_⟩
    obtain ⟨a31, ea31, o_a31, -⟩ := sh 5 rfl hI o_v0
    refine ⟨a31, ea31, ?_⟩
    refine ⟨o_a31, ?_⟩
    refine m_X0_isOn hI o_a31 (fun x32 S33 hI2 g34 b_x32 p_x32 => ?_)
    subst p_x32
    intro _ _
    have bb_x32 : x32 = 0 ∨ x32 = 1 := b_x32
    refine ⟨fun c36 => ?_, fun c36 => ?_⟩
    · exact hq _ _ hI g0 rfl
    · refine ⟨a31, ea31, ?_⟩
      refine ⟨o_a31, ?_⟩
      obtain ⟨a38, ea38, o_a38, -⟩ := sh 6 rfl hI o_a31
      refine ⟨a38, ea38, ?_⟩
      refine ⟨o_a38, ?_⟩
      intro x39 ex39
      have d_x39 := ex39
      exact hq _ _ hI g0 rfl
  · refine ⟨o_v0, ?_⟩
    obtain ⟨a40, ea40, o_a40, -⟩ := sh 5 rfl hI o_v0
    refine ⟨a40, ea40, ?_⟩
    refine ⟨o_a40, ?_⟩
    intro x41 ex41
    have r_x41 : (0 : Int32) ≤ x41 ∧ x41 ≤ (16 : Int32) := by rw [ex41]; exact nu 2 rfl hI o_a40
    have d_x41 := ex41
    exact hq _ _ hI g0 rfl
  · refine ⟨o_v0, ?_⟩
    obtain ⟨a42, ea42, o_a42, -⟩ := sh 5 rfl hI o_v0
    refine ⟨a42, ea42, ?_⟩
    refine ⟨o_a42, ?_⟩
    intro x43 ex43
    have r_x43 : (0 : Int32) ≤ x43 ∧ x43 ≤ (3 : Int32) := by rw [ex43]; exact nu 3 rfl hI o_a42
    have d_x43 := ex43
    exact hq _ _ hI g0 rfl
  · refine ⟨o_v0, ?_⟩
    intro x44 ex44
    have r_x44 : (0 : Int32) ≤ x44 ∧ x44 ≤ (900 : Int32) := by rw [ex44]; exact nu 0 rfl hI o_v0
    have d_x44 := ex44
    exact hq _ _ hI g0 rfl
set_option maxHeartbeats 4000000 in
set_option maxRecDepth 20000 in
theorem m_X9_soaked {v0 : Nat} {Q : Int32 → HS → Prop} {S : HS} (hI : IV S) (o_v0 : ob S v0 9)     (hq : ∀ (r : Int32) (T : HS), IV T → Gr S T → FRI [(9, 9)] [] S T → Q r T) : P_X9_soaked v0 Q S := by
  have g0 := gr_rf S
  have f0 := fri_rf [(9, 9)] [] S
  refine u_X9_soaked ?_
  refine u_X9_soaked_0 ?_
  refine ⟨o_v0, ?_⟩
  obtain ⟨a1, ea1, o_a1, -⟩ := sh 5 rfl hI o_v0
  refine ⟨a1, ea1, ?_⟩
  refine ⟨o_a1, ?_⟩
  refine m_X0_isOn hI o_a1 (fun x2 S3 hI2 g4 b_x2 p_x2 => ?_)
  subst p_x2
  intro _ _
  have bb_x2 : x2 = 0 ∨ x2 = 1 := b_x2
  refine ⟨fun c6 => ?_, fun c6 => ?_⟩
  · refine u_X9_soaked_27 ?_
    refine ⟨o_v0, ?_⟩
    refine u_X9_refuse ?_
    refine u_X9_refuse_0 ?_
    refine ⟨o_v0, ?_⟩
    intro S7 eS7
    have hI : IV S7 := by rw [eS7]; exact iv_sI hI o_v0 (by decide) (nu_free (by decide))
    have f0 := fr_I eS7 g0 f0 o_v0 (by decide)
    obtain ⟨y8, hy8⟩ : ∃ z : Int32, z = (1 : Int32) := ⟨_, rfl⟩
    have d_y8 := rd_Is eS7 hy8
    have ea1 := rf_I eS7 ea1
    have g0 := gr_I eS7 g0
    have o_a1 := ob_I eS7 o_a1
    have o_v0 := ob_I eS7 o_v0
    intro _
    exact hq _ _ hI g0 f0
  · obtain ⟨a10, ea10, o_a10, -⟩ := sh 1 rfl hI o_v0
    refine ⟨a10, ea10, ?_⟩
    refine ⟨a1, ea1, ?_⟩
    refine ⟨o_a1, ?_⟩
    intro x12 ex12
    have r_x12 : (-1 : Int32) ≤ x12 ∧ x12 ≤ (3 : Int32) := by rw [ex12]; exact nu 1 rfl hI o_a1
    have d_x12 := ex12
    refine ⟨o_a10, ?_⟩
    refine m_X8_hasWalker hI o_a10 (fun x13 S14 hI2 g15 b_x13 p_x13 => ?_)
    obtain ⟨z_S14, p_x13⟩ := p_x13
    subst z_S14
    intro _ _
    have bb_x13 : x13 = 0 ∨ x13 = 1 := b_x13
    refine ⟨fun c17 => ?_, fun c17 => ?_⟩
    · refine ⟨a10, ea10, ?_⟩
      refine ⟨o_a10, ?_⟩
      obtain ⟨a19, ea19, o_a19, l_a19⟩ := shl 18 rfl hI o_a10
      refine ⟨a19, ea19, ?_⟩
      refine ⟨a1, ea1, ?_⟩
      refine ⟨o_a1, ?_⟩
      intro x21 ex21
      have r_x21 : (-1 : Int32) ≤ x21 ∧ x21 ≤ (3 : Int32) := by rw [ex21]; exact nu 1 rfl hI o_a1
      have q_x21 : x21 = x12 := ex21.trans d_x12.symm
      have d_x21 := ex21
      refine ⟨o_a19, ?_⟩
      have i23 : vp_in x21 (hN _ a19) := (vin l_a19 (m := 4) (by decide) (q727 bb_x2 c6 r_x12 p_x13 bb_x13 c17 r_x21 q_x21))
      obtain ⟨a22, ea22, o_a22⟩ := ae hI o_a19 (by decide) (by decide) i23
      replace o_a22 : ob _ a22 6 := o_a22
      refine ⟨i23, a22, ea22, ?_⟩
      refine ⟨o_a22, ?_⟩
      intro x24 ex24
      have d_x24 := ex24
      refine ⟨fun c25 => ?_, fun c25 => ?_⟩
      · refine ⟨a1, ea1, ?_⟩
        refine ⟨o_a1, ?_⟩
        obtain ⟨a27, ea27, o_a27, -⟩ := sh 6 rfl hI o_a1
        refine ⟨a27, ea27, ?_⟩
        refine ⟨o_a27, ?_⟩
        refine m_X2_allGot hI o_a27 (fun x28 S29 hI2 g30 p_x28 => ?_)
        subst p_x28
        intro _
        refine m_X9_coatParts hI o_a22 (fun x32 S33 hI2 g34 p_x32 => ?_)
        subst p_x32
        intro _
        refine ⟨fun c36 => ?_, fun c36 => ?_⟩
        · refine u_X9_soaked_88 ?_
          refine ⟨o_v0, ?_⟩
          refine u_X9_grant ?_
          refine u_X9_grant_0 ?_
          refine ⟨o_v0, ?_⟩
          intro S37 eS37
          have hI : IV S37 := by rw [eS37]; exact iv_sI hI o_v0 (by decide) (nu_free (by decide))
          have f0 := fr_I eS37 g0 f0 o_v0 (by decide)
          have d_x21 := rd_Ik eS37 o_v0 o_a1 (by decide) d_x21
          have d_x24 := rd_Ik eS37 o_v0 o_a22 (by decide) d_x24
          obtain ⟨y38, hy38⟩ : ∃ z : Int32, z = (0 : Int32) := ⟨_, rfl⟩
          have d_y38 := rd_Is eS37 hy38
          have ea1 := rf_I eS37 ea1
          have ea10 := rf_I eS37 ea10
          have ea19 := rf_I eS37 ea19
          have ea27 := rf_I eS37 ea27
          have l_a19 := ln_I eS37 l_a19
          have g0 := gr_I eS37 g0
          have o_a1 := ob_I eS37 o_a1
          have o_a10 := ob_I eS37 o_a10
          have o_a19 := ob_I eS37 o_a19
          have o_a22 := ob_I eS37 o_a22
          have o_a27 := ob_I eS37 o_a27
          have o_v0 := ob_I eS37 o_v0
          intro _
          exact hq _ _ hI g0 f0
        · refine u_X9_soaked_88 ?_
          refine ⟨o_v0, ?_⟩
          refine u_X9_grant ?_
          refine u_X9_grant_0 ?_
          refine ⟨o_v0, ?_⟩
          intro S40 eS40
          have hI : IV S40 := by rw [eS40]; exact iv_sI hI o_v0 (by decide) (nu_free (by decide))
          have f0 := fr_I eS40 g0 f0 o_v0 (by decide)
          have d_x21 := rd_Ik eS40 o_v0 o_a1 (by decide) d_x21
          have d_x24 := rd_Ik eS40 o_v0 o_a22 (by decide) d_x24
          obtain ⟨y41, hy41⟩ : ∃ z : Int32, z = (0 : Int32) := ⟨_, rfl⟩
          have d_y41 := rd_Is eS40 hy41
          have ea1 := rf_I eS40 ea1
          have ea10 := rf_I eS40 ea10
          have ea19 := rf_I eS40 ea19
          have ea27 := rf_I eS40 ea27
          have l_a19 := ln_I eS40 l_a19
          have g0 := gr_I eS40 g0
          have o_a1 := ob_I eS40 o_a1
          have o_a10 := ob_I eS40 o_a10
          have o_a19 := ob_I eS40 o_a19
          have o_a22 := ob_I eS40 o_a22
          have o_a27 := ob_I eS40 o_a27
          have o_v0 := ob_I eS40 o_v0
          intro _
          exact hq _ _ hI g0 f0
      · refine u_X9_grant ?_
        refine u_X9_grant_0 ?_
        refine ⟨o_v0, ?_⟩
        intro S43 eS43
        have hI : IV S43 := by rw [eS43]; exact iv_sI hI o_v0 (by decide) (nu_free (by decide))
        have f0 := fr_I eS43 g0 f0 o_v0 (by decide)
        have d_x21 := rd_Ik eS43 o_v0 o_a1 (by decide) d_x21
        have d_x24 := rd_Ik eS43 o_v0 o_a22 (by decide) d_x24
        obtain ⟨y44, hy44⟩ : ∃ z : Int32, z = (0 : Int32) := ⟨_, rfl⟩
        have d_y44 := rd_Is eS43 hy44
        have ea1 := rf_I eS43 ea1
        have ea10 := rf_I eS43 ea10
        have ea19 := rf_I eS43 ea19
        have l_a19 := ln_I eS43 l_a19
        have g0 := gr_I eS43 g0
        have o_a1 := ob_I eS43 o_a1
        have o_a10 := ob_I eS43 o_a10
        have o_a19 := ob_I eS43 o_a19
        have o_a22 := ob_I eS43 o_a22
        have o_v0 := ob_I eS43 o_v0
        intro _
        exact hq _ _ hI g0 f0
    · refine u_X9_soaked_27 ?_
      refine ⟨o_v0, ?_⟩
      refine u_X9_refuse ?_
      refine u_X9_refuse_0 ?_
      refine ⟨o_v0, ?_⟩
      intro S46 eS46
      have hI : IV S46 := by rw [eS46]; exact iv_sI hI o_v0 (by decide) (nu_free (by decide))
      have f0 := fr_I eS46 g0 f0 o_v0 (by decide)
      have d_x12 := rd_Ik eS46 o_v0 o_a1 (by decide) d_x12
      obtain ⟨y47, hy47⟩ : ∃ z : Int32, z = (1 : Int32) := ⟨_, rfl⟩
      have d_y47 := rd_Is eS46 hy47
      have ea1 := rf_I eS46 ea1
      have ea10 := rf_I eS46 ea10
      have g0 := gr_I eS46 g0
      have o_a1 := ob_I eS46 o_a1
      have o_a10 := ob_I eS46 o_a10
      have o_v0 := ob_I eS46 o_v0
      intro _
      exact hq _ _ hI g0 f0
set_option maxHeartbeats 4000000 in
set_option maxRecDepth 20000 in
theorem m_X9_stayTrouble {v0 : Nat} {v1 : Int32} {Q : Int32 → HS → Prop} {S : HS} (hI : IV S) (o_v0 : ob S v0 9)     (hq : ∀ (r : Int32) (T : HS), IV T → Gr S T → (S = T) ∧ (r = 0 → ∀ d, fR S v0 6 = some d → 0 ≤ fI S d 0) → Q r T) : P_X9_stayTrouble v0 v1 Q S := by
  have g0 := gr_rf S
  refine u_X9_stayTrouble ?_
  refine u_X9_stayTrouble_0 ?_
  refine ⟨o_v0, ?_⟩
  obtain ⟨a1, ea1, o_a1, -⟩ := sh 5 rfl hI o_v0
  refine ⟨a1, ea1, ?_⟩
  refine ⟨o_a1, ?_⟩
  refine m_X0_isOn hI o_a1 (fun x2 S3 hI2 g4 b_x2 p_x2 => ?_)
  subst p_x2
  intro _ _
  have bb_x2 : x2 = 0 ∨ x2 = 1 := b_x2
  refine ⟨fun c6 => ?_, fun c6 => ?_⟩
  · exact hq _ _ hI g0 ⟨rfl, (fun h => absurd h (by decide))⟩
  · obtain ⟨a7, ea7, o_a7, -⟩ := sh 1 rfl hI o_v0
    refine ⟨a7, ea7, ?_⟩
    refine ⟨a1, ea1, ?_⟩
    refine ⟨o_a1, ?_⟩
    intro x9 ex9
    have r_x9 : (-1 : Int32) ≤ x9 ∧ x9 ≤ (3 : Int32) := by rw [ex9]; exact nu 1 rfl hI o_a1
    have d_x9 := ex9
    refine ⟨o_a7, ?_⟩
    refine m_X8_hasWalker hI o_a7 (fun x10 S11 hI2 g12 b_x10 p_x10 => ?_)
    obtain ⟨z_S11, p_x10⟩ := p_x10
    subst z_S11
    intro _ _
    have bb_x10 : x10 = 0 ∨ x10 = 1 := b_x10
    refine ⟨fun c14 => ?_, fun c14 => ?_⟩
    · refine ⟨fun c15 => ?_, fun c15 => ?_⟩
      · exact hq _ _ hI g0 ⟨rfl, (fun h => absurd h (by decide))⟩
      · refine ⟨fun c16 => ?_, fun c16 => ?_⟩
        · refine ⟨a7, ea7, ?_⟩
          refine ⟨a1, ea1, ?_⟩
          refine ⟨o_a1, ?_⟩
          obtain ⟨a19, ea19, o_a19, -⟩ := sh 6 rfl hI o_a1
          refine ⟨a19, ea19, ?_⟩
          refine ⟨o_a19, ?_⟩
          intro x20 ex20
          have d_x20 := ex20
          refine ⟨o_a7, ?_⟩
          refine m_X8_canWait hI o_a7 (fun x21 S22 hI2 g23 b_x21 p_x21 => ?_)
          obtain ⟨z_S22, p_x21⟩ := p_x21
          subst z_S22
          intro _ _
          have bb_x21 : x21 = 0 ∨ x21 = 1 := b_x21
          refine ⟨fun c25 => ?_, fun c25 => ?_⟩
          · refine ⟨a1, ea1, ?_⟩
            refine ⟨o_a1, ?_⟩
            refine ⟨a19, ea19, ?_⟩
            refine ⟨o_a19, ?_⟩
            intro x28 ex28
            have d_x28 := ex28
            refine ⟨fun c29 => ?_, fun c29 => ?_⟩
            · exact hq _ _ hI g0 ⟨rfl, (fun _ d hd => by cases ea1.symm.trans hd; rw [← d_x9]; exact (q1088 bb_x2 c6 r_x9 p_x10 bb_x10 c14 c15 c16 p_x21 bb_x21 c25 c29))⟩
            · exact hq _ _ hI g0 ⟨rfl, (fun h => absurd h (by decide))⟩
          · exact hq _ _ hI g0 ⟨rfl, (fun h => absurd h (by decide))⟩
        · exact hq _ _ hI g0 ⟨rfl, (fun h => absurd h (by decide))⟩
    · exact hq _ _ hI g0 ⟨rfl, (fun h => absurd h (by decide))⟩
set_option maxHeartbeats 4000000 in
set_option maxRecDepth 20000 in
theorem m_X9_stay {v0 : Nat} {v1 : Int32} {Q : Int32 → HS → Prop} {S : HS} (hI : IV S) (o_v0 : ob S v0 9)     (hq : ∀ (r : Int32) (T : HS), IV T → Gr S T → FRI [(0, 2), (2, 0), (2, 1), (9, 9)] [] S T → bl r → Q r T) : P_X9_stay v0 v1 Q S := by
  have g0 := gr_rf S
  have f0 := fri_rf [(0, 2), (2, 0), (2, 1), (9, 9)] [] S
  refine u_X9_stay ?_
  refine u_X9_stay_0 ?_
  refine ⟨o_v0, ?_⟩
  refine m_X9_stayTrouble hI o_v0 (fun x1 S2 hI2 g3 p_x1 => ?_)
  obtain ⟨z_S2, p_x1⟩ := p_x1
  subst z_S2
  intro _
  obtain ⟨a5, ea5, o_a5, -⟩ := sh 5 rfl hI o_v0
  obtain ⟨y6, d_y6⟩ : ∃ z : Int32, z = fI S a5 0 := ⟨_, rfl⟩
  have st_y6 : x1 = 0 → 0 ≤ y6 := fun z => by rw [d_y6]; exact p_x1 z _ ea5
  refine u_X9_refusedBy ?_
  refine u_X9_refusedBy_0 ?_
  refine ⟨o_v0, ?_⟩
  intro S7 eS7
  have hI : IV S7 := by rw [eS7]; exact iv_sI hI o_v0 (by decide) (nu_free (by decide))
  have f0 := fr_I eS7 g0 f0 o_v0 (by decide)
  have d_y6 := rd_Ik eS7 o_v0 o_a5 (by decide) d_y6
  have d_x1 := rd_Is eS7 (rfl : x1 = x1)
  have ea5 := rf_I eS7 ea5
  have g0 := gr_I eS7 g0
  have o_a5 := ob_I eS7 o_a5
  have o_v0 := ob_I eS7 o_v0
  refine ⟨fun c8 => ?_, fun c8 => ?_⟩
  · intro _ _
    refine ⟨fun c10 => ?_, fun c10 => ?_⟩
    · refine ⟨a5, ea5, ?_⟩
      refine ⟨o_a5, ?_⟩
      refine m_X0_keepForUndo hI o_a5 (fun S13 hJ g14 fc15 => ?_)
      have hI := hJ
      have d_y6 := d_y6.trans (fri_at fc15 (by decide) (by decide) o_a5).symm
      have d_x1 := d_x1.trans (fri_at fc15 (by decide) (by decide) o_v0).symm
      have ea5 := (frr_at fc15 (by decide) (by decide) o_v0).trans ea5
      have f0 := fri_tr (S := S7) g0 f0 fc15 (by decide) (by decide)
      have o_a5 := gr_ob g14 o_a5
      have o_v0 := gr_ob g14 o_v0
      have g0 := gr_tr (T := S7) g0 g14
      intro _
      obtain ⟨a16, ea16, o_a16, -⟩ := sh 1 rfl hI o_v0
      refine ⟨a16, ea16, ?_⟩
      refine ⟨a16, ea16, ?_⟩
      refine ⟨o_a16, ?_⟩
      obtain ⟨a18, ea18, o_a18, l_a18⟩ := shl 18 rfl hI o_a16
      refine ⟨a18, ea18, ?_⟩
      refine ⟨a5, ea5, ?_⟩
      refine ⟨o_a5, ?_⟩
      intro x20 ex20
      have r_x20 : (-1 : Int32) ≤ x20 ∧ x20 ≤ (3 : Int32) := by rw [ex20]; exact nu 1 rfl hI o_a5
      have q_x20 : x20 = y6 := ex20.trans d_y6.symm
      have d_x20 := ex20
      refine ⟨o_a18, ?_⟩
      have i22 : vp_in x20 (hN _ a18) := (vin l_a18 (m := 4) (by decide) (q1089 st_y6 c8 r_x20 q_x20))
      obtain ⟨a21, ea21, o_a21⟩ := ae hI o_a18 (by decide) (by decide) i22
      replace o_a21 : ob _ a21 6 := o_a21
      refine ⟨i22, a21, ea21, ?_⟩
      refine ⟨a5, ea5, ?_⟩
      refine ⟨o_a5, ?_⟩
      obtain ⟨a24, ea24, o_a24, -⟩ := sh 6 rfl hI o_a5
      refine ⟨a24, ea24, ?_⟩
      refine ⟨o_a24, ?_⟩
      intro x25 ex25
      have d_x25 := ex25
      refine ⟨o_a16, ?_⟩
      refine m_X8_dripOn hI o_a16 o_a21 (fun x26 S27 hI2 g28 p_x26 => ?_)
      subst p_x26
      intro _
      intro x30 ex30
      refine i_X9_stay_58 (fun (y0 : Nat) (y1 : Int32) (y2 : Int64) (y4 : Int32) (Z : HS) => ((2147483647 : Int32).toInt - y4.toInt).toNat) (fun (y0 : Nat) (y1 : Int32) (y2 : Int64) (y4 : Int32) (Z : HS) => (IV Z) ∧ (Gr S13 Z) ∧ (FRI [(2, 1)] [] S13 Z) ∧ (v0 = y0) ∧ (v1 = y1) ∧ (x30 = y2) ∧ (0 ≤ y4)) ?_ _ _ _ _ _ ⟨hI, (gr_rf _), (fri_rf _ _ _), rfl, rfl, rfl, (q1090 st_y6 c8 r_x20 q_x20)⟩
      intro w35 w37 w39 w41 S32 X42 ⟨hI, gL33, fL34, q36, q38, q40, i1u31⟩ ih43
      subst q36
      subst q38
      subst q40
      have l_a18 := (gr_len gL33 o_a18).trans l_a18
      have d_x20 := d_x20.trans (fri_at fL34 (by decide) (by decide) o_a5).symm
      have d_x1 := d_x1.trans (fri_at fL34 (by decide) (by decide) o_v0).symm
      have d_x25 := d_x25.trans (fri_at fL34 (by decide) (by decide) o_a24).symm
      have ea5 := (frr_at fL34 (by decide) (by decide) o_v0).trans ea5
      have ea16 := (frr_at fL34 (by decide) (by decide) o_v0).trans ea16
      have ea18 := (frr_at fL34 (by decide) (by decide) o_a16).trans ea18
      have ea24 := (frr_at fL34 (by decide) (by decide) o_a5).trans ea24
      have f0 := fri_tr (S := S13) g0 f0 fL34 (by decide) (by decide)
      have o_a16 := gr_ob gL33 o_a16
      have o_a18 := gr_ob gL33 o_a18
      have o_a21 := gr_ob gL33 o_a21
      have o_a24 := gr_ob gL33 o_a24
      have o_a5 := gr_ob gL33 o_a5
      have o_v0 := gr_ob gL33 o_v0
      have g0 := gr_tr (T := S13) g0 gL33
      refine u_X9_stay_58 ?_
      refine ⟨fun c44 => ?_, fun c44 => ?_⟩
      · exact hq _ _ hI g0 f0 (Or.inr rfl)
      · refine ⟨o_v0, ?_⟩
        refine ⟨a5, ea5, ?_⟩
        refine ⟨a16, ea16, ?_⟩
        refine ⟨a5, ea5, ?_⟩
        refine ⟨o_a5, ?_⟩
        refine ⟨a24, ea24, ?_⟩
        refine ⟨o_a24, ?_⟩
        intro x49 ex49
        have d_x49 := ex49
        refine ⟨o_a16, ?_⟩
        refine m_X8_hourOf hI o_a16 (fun x50 S51 hI2 g52 p_x50 => ?_)
        subst p_x50
        intro _
        refine ⟨o_a5, ?_⟩
        refine m_X0_rainsIn hI o_a5 (fun x54 S55 hI2 g56 b_x54 p_x54 => ?_)
        subst p_x54
        intro _ _
        have bb_x54 : x54 = 0 ∨ x54 = 1 := b_x54
        refine ⟨fun c58 => ?_, fun c58 => ?_⟩
        · refine u_X9_stay_111 ?_
          refine ⟨o_v0, ?_⟩
          refine ⟨a5, ea5, ?_⟩
          refine ⟨o_a5, ?_⟩
          refine ⟨a24, ea24, ?_⟩
          refine ⟨o_a24, ?_⟩
          intro x61 ex61
          have q_x61 : x61 = x49 := ex61.trans d_x49.symm
          have d_x61 := ex61
          intro x62 ex62
          intro S63 eS63
          have hI : IV S63 := by rw [eS63]; exact iv_sI hI o_a24 (by decide) (nu_free (by decide))
          have f0 := fr_I eS63 g0 f0 o_a24 (by decide)
          have fL34 := fr_I eS63 gL33 fL34 o_a24 (by decide)
          have d_x20 := rd_Ik eS63 o_a24 o_a5 (by decide) d_x20
          have d_x1 := rd_Ik eS63 o_a24 o_v0 (by decide) d_x1
          have d_x25 := rd_Ij eS63 (by decide) d_x25
          have d_x62 := rd_Is eS63 (rfl : x62 = x62)
          have ea5 := rf_I eS63 ea5
          have ea16 := rf_I eS63 ea16
          have ea18 := rf_I eS63 ea18
          have ea24 := rf_I eS63 ea24
          have l_a18 := ln_I eS63 l_a18
          have g0 := gr_I eS63 g0
          have gL33 := gr_I eS63 gL33
          have o_a16 := ob_I eS63 o_a16
          have o_a18 := ob_I eS63 o_a18
          have o_a21 := ob_I eS63 o_a21
          have o_a24 := ob_I eS63 o_a24
          have o_a5 := ob_I eS63 o_a5
          have o_v0 := ob_I eS63 o_v0
          intro x64 ex64
          exact ih43 _ _ _ _ _ ⟨hI, gL33, fL34, rfl, rfl, rfl, (q1091 st_y6 c8 r_x20 q_x20 i1u31 c44 bb_x54 c58 ex64)⟩ (mu_up (q1092 st_y6 c8 r_x20 q_x20 i1u31 c44 bb_x54 c58 ex64) (q1093 st_y6 c8 r_x20 q_x20 i1u31 c44 bb_x54 c58 ex64))
        · refine ⟨a5, ea5, ?_⟩
          refine ⟨o_a5, ?_⟩
          refine ⟨a24, ea24, ?_⟩
          refine ⟨o_a24, ?_⟩
          obtain ⟨a67, ea67, o_a67, l_a67⟩ := shl 11 rfl hI o_a24
          refine ⟨a67, ea67, ?_⟩
          refine ⟨o_a67, ?_⟩
          refine ⟨(vin l_a67 (m := 5) (by decide) (q1094 st_y6 c8 r_x20 q_x20 i1u31 c44 bb_x54 c58)), ?_⟩
          intro x68 ex68
          intro x69 ex69
          have i70 : vp_in (0 : Int32) (hN _ a67) := (vin l_a67 (m := 5) (by decide) (q1094 st_y6 c8 r_x20 q_x20 i1u31 c44 bb_x54 c58))
          refine ⟨i70, ?_⟩
          intro S71 eS71
          have hI : IV S71 := by rw [eS71]; exact iv_aJ hI o_a24 (by decide) ea67 o_a67 (by decide)
          have f0 := fr_J eS71 f0
          have fL34 := fr_J eS71 fL34
          have d_x20 := rd_J eS71 d_x20
          have d_x1 := rd_J eS71 d_x1
          have d_x25 := rd_J eS71 d_x25
          have d_x49 := rd_J eS71 d_x49
          have ea5 := rf_J eS71 ea5
          have ea16 := rf_J eS71 ea16
          have ea18 := rf_J eS71 ea18
          have ea24 := rf_J eS71 ea24
          have ea67 := rf_J eS71 ea67
          have l_a18 := ln_J eS71 l_a18
          have l_a67 := ln_J eS71 l_a67
          have g0 := gr_J eS71 g0
          have gL33 := gr_J eS71 gL33
          have o_a16 := ob_J eS71 o_a16
          have o_a18 := ob_J eS71 o_a18
          have o_a21 := ob_J eS71 o_a21
          have o_a24 := ob_J eS71 o_a24
          have o_a5 := ob_J eS71 o_a5
          have o_a67 := ob_J eS71 o_a67
          have o_v0 := ob_J eS71 o_v0
          refine u_X9_stay_111 ?_
          refine ⟨o_v0, ?_⟩
          refine ⟨a5, ea5, ?_⟩
          refine ⟨o_a5, ?_⟩
          refine ⟨a24, ea24, ?_⟩
          refine ⟨o_a24, ?_⟩
          intro x74 ex74
          have q_x74 : x74 = x49 := ex74.trans d_x49.symm
          have d_x74 := ex74
          intro x75 ex75
          intro S76 eS76
          have hI : IV S76 := by rw [eS76]; exact iv_sI hI o_a24 (by decide) (nu_free (by decide))
          have f0 := fr_I eS76 g0 f0 o_a24 (by decide)
          have fL34 := fr_I eS76 gL33 fL34 o_a24 (by decide)
          have d_x20 := rd_Ik eS76 o_a24 o_a5 (by decide) d_x20
          have d_x1 := rd_Ik eS76 o_a24 o_v0 (by decide) d_x1
          have d_x25 := rd_Ij eS76 (by decide) d_x25
          have d_x75 := rd_Is eS76 (rfl : x75 = x75)
          have ea5 := rf_I eS76 ea5
          have ea16 := rf_I eS76 ea16
          have ea18 := rf_I eS76 ea18
          have ea24 := rf_I eS76 ea24
          have ea67 := rf_I eS76 ea67
          have l_a18 := ln_I eS76 l_a18
          have l_a67 := ln_I eS76 l_a67
          have g0 := gr_I eS76 g0
          have gL33 := gr_I eS76 gL33
          have o_a16 := ob_I eS76 o_a16
          have o_a18 := ob_I eS76 o_a18
          have o_a21 := ob_I eS76 o_a21
          have o_a24 := ob_I eS76 o_a24
          have o_a5 := ob_I eS76 o_a5
          have o_a67 := ob_I eS76 o_a67
          have o_v0 := ob_I eS76 o_v0
          intro x77 ex77
          exact ih43 _ _ _ _ _ ⟨hI, gL33, fL34, rfl, rfl, rfl, (q1095 st_y6 c8 r_x20 q_x20 i1u31 c44 bb_x54 c58 ex77)⟩ (mu_up (q1096 st_y6 c8 r_x20 q_x20 i1u31 c44 bb_x54 c58 ex77) (q1097 st_y6 c8 r_x20 q_x20 i1u31 c44 bb_x54 c58 ex77))
    · exact hq _ _ hI g0 f0 (Or.inl rfl)
  · intro _ _
    refine ⟨fun c79 => ?_, fun c79 => ?_⟩
    · refine ⟨a5, ea5, ?_⟩
      refine ⟨o_a5, ?_⟩
      refine m_X0_keepForUndo hI o_a5 (fun S82 hJ g83 fc84 => ?_)
      have hI := hJ
      have d_y6 := d_y6.trans (fri_at fc84 (by decide) (by decide) o_a5).symm
      have d_x1 := d_x1.trans (fri_at fc84 (by decide) (by decide) o_v0).symm
      have ea5 := (frr_at fc84 (by decide) (by decide) o_v0).trans ea5
      have f0 := fri_tr (S := S7) g0 f0 fc84 (by decide) (by decide)
      have o_a5 := gr_ob g83 o_a5
      have o_v0 := gr_ob g83 o_v0
      have g0 := gr_tr (T := S7) g0 g83
      intro _
      obtain ⟨a85, ea85, o_a85, -⟩ := sh 1 rfl hI o_v0
      refine ⟨a85, ea85, ?_⟩
      refine ⟨a85, ea85, ?_⟩
      refine ⟨o_a85, ?_⟩
      obtain ⟨a87, ea87, o_a87, l_a87⟩ := shl 18 rfl hI o_a85
      refine ⟨a87, ea87, ?_⟩
      refine ⟨a5, ea5, ?_⟩
      refine ⟨o_a5, ?_⟩
      intro x89 ex89
      have r_x89 : (-1 : Int32) ≤ x89 ∧ x89 ≤ (3 : Int32) := by rw [ex89]; exact nu 1 rfl hI o_a5
      have q_x89 : x89 = y6 := ex89.trans d_y6.symm
      have d_x89 := ex89
      refine ⟨o_a87, ?_⟩
      have i91 : vp_in x89 (hN _ a87) := (vin l_a87 (m := 4) (by decide) (q1098 st_y6 c8 c79 r_x89 q_x89))
      obtain ⟨a90, ea90, o_a90⟩ := ae hI o_a87 (by decide) (by decide) i91
      replace o_a90 : ob _ a90 6 := o_a90
      refine ⟨i91, a90, ea90, ?_⟩
      refine ⟨a5, ea5, ?_⟩
      refine ⟨o_a5, ?_⟩
      obtain ⟨a93, ea93, o_a93, -⟩ := sh 6 rfl hI o_a5
      refine ⟨a93, ea93, ?_⟩
      refine ⟨o_a93, ?_⟩
      intro x94 ex94
      have d_x94 := ex94
      refine ⟨o_a85, ?_⟩
      refine m_X8_dripOn hI o_a85 o_a90 (fun x95 S96 hI2 g97 p_x95 => ?_)
      subst p_x95
      intro _
      intro x99 ex99
      refine i_X9_stay_58 (fun (y0 : Nat) (y1 : Int32) (y2 : Int64) (y4 : Int32) (Z : HS) => ((2147483647 : Int32).toInt - y4.toInt).toNat) (fun (y0 : Nat) (y1 : Int32) (y2 : Int64) (y4 : Int32) (Z : HS) => (IV Z) ∧ (Gr S82 Z) ∧ (FRI [(2, 1)] [] S82 Z) ∧ (v0 = y0) ∧ (v1 = y1) ∧ (x99 = y2) ∧ (0 ≤ y4)) ?_ _ _ _ _ _ ⟨hI, (gr_rf _), (fri_rf _ _ _), rfl, rfl, rfl, (q1099 st_y6 c8 c79 r_x89 q_x89)⟩
      intro w104 w106 w108 w110 S101 X111 ⟨hI, gL102, fL103, q105, q107, q109, i1u100⟩ ih112
      subst q105
      subst q107
      subst q109
      have l_a87 := (gr_len gL102 o_a87).trans l_a87
      have d_x89 := d_x89.trans (fri_at fL103 (by decide) (by decide) o_a5).symm
      have d_x1 := d_x1.trans (fri_at fL103 (by decide) (by decide) o_v0).symm
      have d_x94 := d_x94.trans (fri_at fL103 (by decide) (by decide) o_a93).symm
      have ea5 := (frr_at fL103 (by decide) (by decide) o_v0).trans ea5
      have ea85 := (frr_at fL103 (by decide) (by decide) o_v0).trans ea85
      have ea87 := (frr_at fL103 (by decide) (by decide) o_a85).trans ea87
      have ea93 := (frr_at fL103 (by decide) (by decide) o_a5).trans ea93
      have f0 := fri_tr (S := S82) g0 f0 fL103 (by decide) (by decide)
      have o_a5 := gr_ob gL102 o_a5
      have o_a85 := gr_ob gL102 o_a85
      have o_a87 := gr_ob gL102 o_a87
      have o_a90 := gr_ob gL102 o_a90
      have o_a93 := gr_ob gL102 o_a93
      have o_v0 := gr_ob gL102 o_v0
      have g0 := gr_tr (T := S82) g0 gL102
      refine u_X9_stay_58 ?_
      refine ⟨fun c113 => ?_, fun c113 => ?_⟩
      · exact hq _ _ hI g0 f0 (Or.inr rfl)
      · refine ⟨o_v0, ?_⟩
        refine ⟨a5, ea5, ?_⟩
        refine ⟨a85, ea85, ?_⟩
        refine ⟨a5, ea5, ?_⟩
        refine ⟨o_a5, ?_⟩
        refine ⟨a93, ea93, ?_⟩
        refine ⟨o_a93, ?_⟩
        intro x118 ex118
        have d_x118 := ex118
        refine ⟨o_a85, ?_⟩
        refine m_X8_hourOf hI o_a85 (fun x119 S120 hI2 g121 p_x119 => ?_)
        subst p_x119
        intro _
        refine ⟨o_a5, ?_⟩
        refine m_X0_rainsIn hI o_a5 (fun x123 S124 hI2 g125 b_x123 p_x123 => ?_)
        subst p_x123
        intro _ _
        have bb_x123 : x123 = 0 ∨ x123 = 1 := b_x123
        refine ⟨fun c127 => ?_, fun c127 => ?_⟩
        · refine u_X9_stay_111 ?_
          refine ⟨o_v0, ?_⟩
          refine ⟨a5, ea5, ?_⟩
          refine ⟨o_a5, ?_⟩
          refine ⟨a93, ea93, ?_⟩
          refine ⟨o_a93, ?_⟩
          intro x130 ex130
          have q_x130 : x130 = x118 := ex130.trans d_x118.symm
          have d_x130 := ex130
          intro x131 ex131
          intro S132 eS132
          have hI : IV S132 := by rw [eS132]; exact iv_sI hI o_a93 (by decide) (nu_free (by decide))
          have f0 := fr_I eS132 g0 f0 o_a93 (by decide)
          have fL103 := fr_I eS132 gL102 fL103 o_a93 (by decide)
          have d_x89 := rd_Ik eS132 o_a93 o_a5 (by decide) d_x89
          have d_x1 := rd_Ik eS132 o_a93 o_v0 (by decide) d_x1
          have d_x94 := rd_Ij eS132 (by decide) d_x94
          have d_x131 := rd_Is eS132 (rfl : x131 = x131)
          have ea5 := rf_I eS132 ea5
          have ea85 := rf_I eS132 ea85
          have ea87 := rf_I eS132 ea87
          have ea93 := rf_I eS132 ea93
          have l_a87 := ln_I eS132 l_a87
          have g0 := gr_I eS132 g0
          have gL102 := gr_I eS132 gL102
          have o_a5 := ob_I eS132 o_a5
          have o_a85 := ob_I eS132 o_a85
          have o_a87 := ob_I eS132 o_a87
          have o_a90 := ob_I eS132 o_a90
          have o_a93 := ob_I eS132 o_a93
          have o_v0 := ob_I eS132 o_v0
          intro x133 ex133
          exact ih112 _ _ _ _ _ ⟨hI, gL102, fL103, rfl, rfl, rfl, (q1100 st_y6 c8 c79 r_x89 q_x89 i1u100 c113 bb_x123 c127 ex133)⟩ (mu_up (q1101 st_y6 c8 c79 r_x89 q_x89 i1u100 c113 bb_x123 c127 ex133) (q1102 st_y6 c8 c79 r_x89 q_x89 i1u100 c113 bb_x123 c127 ex133))
        · refine ⟨a5, ea5, ?_⟩
          refine ⟨o_a5, ?_⟩
          refine ⟨a93, ea93, ?_⟩
          refine ⟨o_a93, ?_⟩
          obtain ⟨a136, ea136, o_a136, l_a136⟩ := shl 11 rfl hI o_a93
          refine ⟨a136, ea136, ?_⟩
          refine ⟨o_a136, ?_⟩
          refine ⟨(vin l_a136 (m := 5) (by decide) (q1103 st_y6 c8 c79 r_x89 q_x89 i1u100 c113 bb_x123 c127)), ?_⟩
          intro x137 ex137
          intro x138 ex138
          have i139 : vp_in (0 : Int32) (hN _ a136) := (vin l_a136 (m := 5) (by decide) (q1103 st_y6 c8 c79 r_x89 q_x89 i1u100 c113 bb_x123 c127))
          refine ⟨i139, ?_⟩
          intro S140 eS140
          have hI : IV S140 := by rw [eS140]; exact iv_aJ hI o_a93 (by decide) ea136 o_a136 (by decide)
          have f0 := fr_J eS140 f0
          have fL103 := fr_J eS140 fL103
          have d_x89 := rd_J eS140 d_x89
          have d_x1 := rd_J eS140 d_x1
          have d_x94 := rd_J eS140 d_x94
          have d_x118 := rd_J eS140 d_x118
          have ea5 := rf_J eS140 ea5
          have ea85 := rf_J eS140 ea85
          have ea87 := rf_J eS140 ea87
          have ea93 := rf_J eS140 ea93
          have ea136 := rf_J eS140 ea136
          have l_a136 := ln_J eS140 l_a136
          have l_a87 := ln_J eS140 l_a87
          have g0 := gr_J eS140 g0
          have gL102 := gr_J eS140 gL102
          have o_a136 := ob_J eS140 o_a136
          have o_a5 := ob_J eS140 o_a5
          have o_a85 := ob_J eS140 o_a85
          have o_a87 := ob_J eS140 o_a87
          have o_a90 := ob_J eS140 o_a90
          have o_a93 := ob_J eS140 o_a93
          have o_v0 := ob_J eS140 o_v0
          refine u_X9_stay_111 ?_
          refine ⟨o_v0, ?_⟩
          refine ⟨a5, ea5, ?_⟩
          refine ⟨o_a5, ?_⟩
          refine ⟨a93, ea93, ?_⟩
          refine ⟨o_a93, ?_⟩
          intro x143 ex143
          have q_x143 : x143 = x118 := ex143.trans d_x118.symm
          have d_x143 := ex143
          intro x144 ex144
          intro S145 eS145
          have hI : IV S145 := by rw [eS145]; exact iv_sI hI o_a93 (by decide) (nu_free (by decide))
          have f0 := fr_I eS145 g0 f0 o_a93 (by decide)
          have fL103 := fr_I eS145 gL102 fL103 o_a93 (by decide)
          have d_x89 := rd_Ik eS145 o_a93 o_a5 (by decide) d_x89
          have d_x1 := rd_Ik eS145 o_a93 o_v0 (by decide) d_x1
          have d_x94 := rd_Ij eS145 (by decide) d_x94
          have d_x144 := rd_Is eS145 (rfl : x144 = x144)
          have ea5 := rf_I eS145 ea5
          have ea85 := rf_I eS145 ea85
          have ea87 := rf_I eS145 ea87
          have ea93 := rf_I eS145 ea93
          have ea136 := rf_I eS145 ea136
          have l_a136 := ln_I eS145 l_a136
          have l_a87 := ln_I eS145 l_a87
          have g0 := gr_I eS145 g0
          have gL102 := gr_I eS145 gL102
          have o_a136 := ob_I eS145 o_a136
          have o_a5 := ob_I eS145 o_a5
          have o_a85 := ob_I eS145 o_a85
          have o_a87 := ob_I eS145 o_a87
          have o_a90 := ob_I eS145 o_a90
          have o_a93 := ob_I eS145 o_a93
          have o_v0 := ob_I eS145 o_v0
          intro x146 ex146
          exact ih112 _ _ _ _ _ ⟨hI, gL102, fL103, rfl, rfl, rfl, (q1104 st_y6 c8 c79 r_x89 q_x89 i1u100 c113 bb_x123 c127 ex146)⟩ (mu_up (q1105 st_y6 c8 c79 r_x89 q_x89 i1u100 c113 bb_x123 c127 ex146) (q1106 st_y6 c8 c79 r_x89 q_x89 i1u100 c113 bb_x123 c127 ex146))
    · exact hq _ _ hI g0 f0 (Or.inl rfl)
