set_option maxHeartbeats 4000000 in
set_option maxRecDepth 20000 in
theorem m_X9_worst {v0 : Nat} {v1 : Int32} {v2 : Int32} {v3 : Int32} {v4 : Int32} {Q : Int32 → HS → Prop} {S : HS} (hI : IV S) (o_v0 : ob S v0 9)     (hq : ∀ (r : Int32) (T : HS), IV T → Gr S T → FRI [(9, 9)] [] S T → Q r T) : P_X9_worst v0 v1 v2 v3 v4 Q S := by
  have g0 := gr_rf S
  have f0 := fri_rf [(9, 9)] [] S
  refine u_X9_worst ?_
  refine u_X9_worst_0 ?_
  refine ⟨o_v0, ?_⟩
  refine m_X9_tripTrouble hI o_v0 (fun x1 S2 hI2 g3 p_x1 => ?_)
  obtain ⟨z_S2, p_x1⟩ := p_x1
  subst z_S2
  intro _
  refine u_X9_refusedBy ?_
  refine u_X9_refusedBy_0 ?_
  refine ⟨o_v0, ?_⟩
  intro S5 eS5
  have hI : IV S5 := by rw [eS5]; exact iv_sI hI o_v0 (by decide) (nu_free (by decide))
  have f0 := fr_I eS5 g0 f0 o_v0 (by decide)
  have d_x1 := rd_Is eS5 (rfl : x1 = x1)
  have g0 := gr_I eS5 g0
  have o_v0 := ob_I eS5 o_v0
  refine ⟨fun c6 => ?_, fun c6 => ?_⟩
  · intro _ _
    refine ⟨fun c8 => ?_, fun c8 => ?_⟩
    · obtain ⟨a9, ea9, o_a9, -⟩ := sh 3 rfl hI o_v0
      refine ⟨a9, ea9, ?_⟩
      obtain ⟨a10, ea10, o_a10, -⟩ := sh 1 rfl hI o_v0
      refine ⟨a10, ea10, ?_⟩
      refine ⟨o_a10, ?_⟩
      obtain ⟨a11, ea11, o_a11, l_a11⟩ := shl 18 rfl hI o_a10
      refine ⟨a11, ea11, ?_⟩
      refine ⟨o_a11, ?_⟩
      have i13 : vp_in v1 (hN _ a11) := (vin l_a11 (m := 4) (by decide) (q0 p_x1 c6))
      obtain ⟨a12, ea12, o_a12⟩ := ae hI o_a11 (by decide) (by decide) i13
      replace o_a12 : ob _ a12 6 := o_a12
      refine ⟨i13, a12, ea12, ?_⟩
      refine ⟨a10, ea10, ?_⟩
      refine ⟨o_a10, ?_⟩
      obtain ⟨a15, ea15, o_a15, l_a15⟩ := shl 17 rfl hI o_a10
      refine ⟨a15, ea15, ?_⟩
      refine ⟨o_a15, ?_⟩
      have i17 : vp_in v2 (hN _ a15) := (vin l_a15 (m := 12) (by decide) (q1 p_x1 c6))
      obtain ⟨a16, ea16, o_a16⟩ := ae hI o_a15 (by decide) (by decide) i17
      replace o_a16 : ob _ a16 5 := o_a16
      refine ⟨i17, a16, ea16, ?_⟩
      refine ⟨a10, ea10, ?_⟩
      refine ⟨o_a10, ?_⟩
      obtain ⟨a19, ea19, o_a19, l_a19⟩ := shl 15 rfl hI o_a10
      refine ⟨a19, ea19, ?_⟩
      refine ⟨o_a19, ?_⟩
      have i21 : vp_in v4 (hN _ a19) := (vin l_a19 (m := 6) (by decide) (q2 p_x1 c6))
      obtain ⟨a20, ea20, o_a20⟩ := ae hI o_a19 (by decide) (by decide) i21
      replace o_a20 : ob _ a20 3 := o_a20
      refine ⟨i21, a20, ea20, ?_⟩
      refine ⟨o_a9, ?_⟩
      refine m_X1_worstSpeed hI o_a9 o_a12 o_a16 o_a20 (fun x22 S23 hJ g24 fc25 => ?_)
      have hI := hJ
      have l_a11 := (gr_len g24 o_a11).trans l_a11
      have l_a15 := (gr_len g24 o_a15).trans l_a15
      have l_a19 := (gr_len g24 o_a19).trans l_a19
      have d_x1 := d_x1.trans (fri_at fc25 (by decide) (by decide) o_v0).symm
      have ea9 := (frr_at fc25 (by decide) (by decide) o_v0).trans ea9
      have ea10 := (frr_at fc25 (by decide) (by decide) o_v0).trans ea10
      have ea11 := (frr_at fc25 (by decide) (by decide) o_a10).trans ea11
      have ea15 := (frr_at fc25 (by decide) (by decide) o_a10).trans ea15
      have ea19 := (frr_at fc25 (by decide) (by decide) o_a10).trans ea19
      have f0 := fri_tr (S := S5) g0 f0 fc25 (by decide) (by decide)
      have o_a10 := gr_ob g24 o_a10
      have o_a11 := gr_ob g24 o_a11
      have o_a12 := gr_ob g24 o_a12
      have o_a15 := gr_ob g24 o_a15
      have o_a16 := gr_ob g24 o_a16
      have o_a19 := gr_ob g24 o_a19
      have o_a20 := gr_ob g24 o_a20
      have o_a9 := gr_ob g24 o_a9
      have o_v0 := gr_ob g24 o_v0
      have g0 := gr_tr (T := S5) g0 g24
      intro _
      exact hq _ _ hI g0 f0
    · exact hq _ _ hI g0 f0
  · intro _ _
    refine ⟨fun c27 => ?_, fun c27 => ?_⟩
    · obtain ⟨a28, ea28, o_a28, -⟩ := sh 3 rfl hI o_v0
      refine ⟨a28, ea28, ?_⟩
      obtain ⟨a29, ea29, o_a29, -⟩ := sh 1 rfl hI o_v0
      refine ⟨a29, ea29, ?_⟩
      refine ⟨o_a29, ?_⟩
      obtain ⟨a30, ea30, o_a30, l_a30⟩ := shl 18 rfl hI o_a29
      refine ⟨a30, ea30, ?_⟩
      refine ⟨o_a30, ?_⟩
      have i32 : vp_in v1 (hN _ a30) := (vin l_a30 (m := 4) (by decide) (q3 p_x1 c6 c27))
      obtain ⟨a31, ea31, o_a31⟩ := ae hI o_a30 (by decide) (by decide) i32
      replace o_a31 : ob _ a31 6 := o_a31
      refine ⟨i32, a31, ea31, ?_⟩
      refine ⟨a29, ea29, ?_⟩
      refine ⟨o_a29, ?_⟩
      obtain ⟨a34, ea34, o_a34, l_a34⟩ := shl 17 rfl hI o_a29
      refine ⟨a34, ea34, ?_⟩
      refine ⟨o_a34, ?_⟩
      have i36 : vp_in v2 (hN _ a34) := (vin l_a34 (m := 12) (by decide) (q4 p_x1 c6 c27))
      obtain ⟨a35, ea35, o_a35⟩ := ae hI o_a34 (by decide) (by decide) i36
      replace o_a35 : ob _ a35 5 := o_a35
      refine ⟨i36, a35, ea35, ?_⟩
      refine ⟨a29, ea29, ?_⟩
      refine ⟨o_a29, ?_⟩
      obtain ⟨a38, ea38, o_a38, l_a38⟩ := shl 15 rfl hI o_a29
      refine ⟨a38, ea38, ?_⟩
      refine ⟨o_a38, ?_⟩
      have i40 : vp_in v4 (hN _ a38) := (vin l_a38 (m := 6) (by decide) (q5 p_x1 c6 c27))
      obtain ⟨a39, ea39, o_a39⟩ := ae hI o_a38 (by decide) (by decide) i40
      replace o_a39 : ob _ a39 3 := o_a39
      refine ⟨i40, a39, ea39, ?_⟩
      refine ⟨o_a28, ?_⟩
      refine m_X1_worstSpeed hI o_a28 o_a31 o_a35 o_a39 (fun x41 S42 hJ g43 fc44 => ?_)
      have hI := hJ
      have l_a30 := (gr_len g43 o_a30).trans l_a30
      have l_a34 := (gr_len g43 o_a34).trans l_a34
      have l_a38 := (gr_len g43 o_a38).trans l_a38
      have d_x1 := d_x1.trans (fri_at fc44 (by decide) (by decide) o_v0).symm
      have ea28 := (frr_at fc44 (by decide) (by decide) o_v0).trans ea28
      have ea29 := (frr_at fc44 (by decide) (by decide) o_v0).trans ea29
      have ea30 := (frr_at fc44 (by decide) (by decide) o_a29).trans ea30
      have ea34 := (frr_at fc44 (by decide) (by decide) o_a29).trans ea34
      have ea38 := (frr_at fc44 (by decide) (by decide) o_a29).trans ea38
      have f0 := fri_tr (S := S5) g0 f0 fc44 (by decide) (by decide)
      have o_a28 := gr_ob g43 o_a28
      have o_a29 := gr_ob g43 o_a29
      have o_a30 := gr_ob g43 o_a30
      have o_a31 := gr_ob g43 o_a31
      have o_a34 := gr_ob g43 o_a34
      have o_a35 := gr_ob g43 o_a35
      have o_a38 := gr_ob g43 o_a38
      have o_a39 := gr_ob g43 o_a39
      have o_v0 := gr_ob g43 o_v0
      have g0 := gr_tr (T := S5) g0 g43
      intro _
      exact hq _ _ hI g0 f0
    · exact hq _ _ hI g0 f0
