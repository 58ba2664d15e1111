set_option maxHeartbeats 4000000 in
set_option maxRecDepth 20000 in
theorem m_X9_worst {v0 : Nat} {v1 : Int32} {v2 : Int32} {v3 : Int32} {v4 : Int32} {Q : Int32 → HS → Prop} {S : HS} (hI : IV S) (o_v0 : ob S v0 9)     (hq : ∀ (r : Int32) (T : HS), IV T → Gr S T → FRI [(9, 9)] [] S T → Q r T) : P_X9_worst v0 v1 v2 v3 v4 Q S := by
  have g0 := gr_rf S
  have f0 := fri_rf [(9, 9)] [] S
  refine u_X9_worst ?_
  refine u_X9_worst_0 ?_
  refine ⟨o_v0, ?_⟩
  refine m_X9_tripTrouble hI o_v0 (fun x1 S2 hI2 g3 p_x1 => ?_)
  obtain ⟨z_S2, p_x1⟩ := p_x1
  subst z_S2
  intro _
  refine u_X9_refusedBy ?_
  refine u_X9_refusedBy_0 ?_
  refine ⟨o_v0, ?_⟩
  have hI := iv_sI (j := 9) (v := x1) hI o_v0 (by decide) (nu_free (by decide))
  have f0 : FRI _ _ _ (sI S v0 9 x1) := fri_sI (S := S) g0 f0 o_v0 (by decide)
  have d_x1 : x1 = fI (sI S v0 9 x1) v0 9 := (u2_self _ _ _ _).symm
  refine ⟨fun c5 => ?_, fun c5 => ?_⟩
  · intro _ _
    refine ⟨fun c6 => ?_, fun c6 => ?_⟩
    · obtain ⟨a7, ea7, o_a7, -⟩ := sh 3 rfl hI o_v0
      refine ⟨a7, ea7, ?_⟩
      obtain ⟨a8, ea8, o_a8, -⟩ := sh 1 rfl hI o_v0
      refine ⟨a8, ea8, ?_⟩
      refine ⟨o_a8, ?_⟩
      obtain ⟨a9, ea9, o_a9, l_a9⟩ := shl 18 rfl hI o_a8
      refine ⟨a9, ea9, ?_⟩
      refine ⟨o_a9, ?_⟩
      have i11 : vp_in v1 (hN _ a9) := (vin l_a9 (m := 4) (by decide) (q0 p_x1 c5))
      obtain ⟨a10, ea10, o_a10⟩ := ae hI o_a9 (by decide) (by decide) i11
      replace o_a10 : ob _ a10 6 := o_a10
      refine ⟨i11, a10, ea10, ?_⟩
      refine ⟨a8, ea8, ?_⟩
      refine ⟨o_a8, ?_⟩
      obtain ⟨a13, ea13, o_a13, l_a13⟩ := shl 17 rfl hI o_a8
      refine ⟨a13, ea13, ?_⟩
      refine ⟨o_a13, ?_⟩
      have i15 : vp_in v2 (hN _ a13) := (vin l_a13 (m := 12) (by decide) (q1 p_x1 c5))
      obtain ⟨a14, ea14, o_a14⟩ := ae hI o_a13 (by decide) (by decide) i15
      replace o_a14 : ob _ a14 5 := o_a14
      refine ⟨i15, a14, ea14, ?_⟩
      refine ⟨a8, ea8, ?_⟩
      refine ⟨o_a8, ?_⟩
      obtain ⟨a17, ea17, o_a17, l_a17⟩ := shl 15 rfl hI o_a8
      refine ⟨a17, ea17, ?_⟩
      refine ⟨o_a17, ?_⟩
      have i19 : vp_in v4 (hN _ a17) := (vin l_a17 (m := 6) (by decide) (q2 p_x1 c5))
      obtain ⟨a18, ea18, o_a18⟩ := ae hI o_a17 (by decide) (by decide) i19
      replace o_a18 : ob _ a18 3 := o_a18
      refine ⟨i19, a18, ea18, ?_⟩
      refine ⟨o_a7, ?_⟩
      refine m_X1_worstSpeed hI o_a7 o_a10 o_a14 o_a18 (fun x20 S21 hI g22 fc23 => ?_)
      have l_a13 := (gr_len g22 o_a13).trans l_a13
      have l_a17 := (gr_len g22 o_a17).trans l_a17
      have l_a9 := (gr_len g22 o_a9).trans l_a9
      have d_x1 := d_x1.trans (fri_at fc23 (by decide) (by decide) o_v0).symm
      have ea7 := (frr_at fc23 (by decide) (by decide) o_v0).trans ea7
      have ea8 := (frr_at fc23 (by decide) (by decide) o_v0).trans ea8
      have ea9 := (frr_at fc23 (by decide) (by decide) o_a8).trans ea9
      have ea13 := (frr_at fc23 (by decide) (by decide) o_a8).trans ea13
      have ea17 := (frr_at fc23 (by decide) (by decide) o_a8).trans ea17
      have f0 := fri_tr (S := sI S v0 9 x1) g0 f0 fc23 (by decide) (by decide)
      have o_a10 := gr_ob g22 o_a10
      have o_a13 := gr_ob g22 o_a13
      have o_a14 := gr_ob g22 o_a14
      have o_a17 := gr_ob g22 o_a17
      have o_a18 := gr_ob g22 o_a18
      have o_a7 := gr_ob g22 o_a7
      have o_a8 := gr_ob g22 o_a8
      have o_a9 := gr_ob g22 o_a9
      have o_v0 := gr_ob g22 o_v0
      have g0 := gr_tr (T := sI S v0 9 x1) g0 g22
      intro _
      exact hq _ _ hI g0 f0
    · exact hq _ _ hI g0 f0
  · intro _ _
    refine ⟨fun c24 => ?_, fun c24 => ?_⟩
    · obtain ⟨a25, ea25, o_a25, -⟩ := sh 3 rfl hI o_v0
      refine ⟨a25, ea25, ?_⟩
      obtain ⟨a26, ea26, o_a26, -⟩ := sh 1 rfl hI o_v0
      refine ⟨a26, ea26, ?_⟩
      refine ⟨o_a26, ?_⟩
      obtain ⟨a27, ea27, o_a27, l_a27⟩ := shl 18 rfl hI o_a26
      refine ⟨a27, ea27, ?_⟩
      refine ⟨o_a27, ?_⟩
      have i29 : vp_in v1 (hN _ a27) := (vin l_a27 (m := 4) (by decide) (q3 p_x1 c5 c24))
      obtain ⟨a28, ea28, o_a28⟩ := ae hI o_a27 (by decide) (by decide) i29
      replace o_a28 : ob _ a28 6 := o_a28
      refine ⟨i29, a28, ea28, ?_⟩
      refine ⟨a26, ea26, ?_⟩
      refine ⟨o_a26, ?_⟩
      obtain ⟨a31, ea31, o_a31, l_a31⟩ := shl 17 rfl hI o_a26
      refine ⟨a31, ea31, ?_⟩
      refine ⟨o_a31, ?_⟩
      have i33 : vp_in v2 (hN _ a31) := (vin l_a31 (m := 12) (by decide) (q4 p_x1 c5 c24))
      obtain ⟨a32, ea32, o_a32⟩ := ae hI o_a31 (by decide) (by decide) i33
      replace o_a32 : ob _ a32 5 := o_a32
      refine ⟨i33, a32, ea32, ?_⟩
      refine ⟨a26, ea26, ?_⟩
      refine ⟨o_a26, ?_⟩
      obtain ⟨a35, ea35, o_a35, l_a35⟩ := shl 15 rfl hI o_a26
      refine ⟨a35, ea35, ?_⟩
      refine ⟨o_a35, ?_⟩
      have i37 : vp_in v4 (hN _ a35) := (vin l_a35 (m := 6) (by decide) (q5 p_x1 c5 c24))
      obtain ⟨a36, ea36, o_a36⟩ := ae hI o_a35 (by decide) (by decide) i37
      replace o_a36 : ob _ a36 3 := o_a36
      refine ⟨i37, a36, ea36, ?_⟩
      refine ⟨o_a25, ?_⟩
      refine m_X1_worstSpeed hI o_a25 o_a28 o_a32 o_a36 (fun x38 S39 hI g40 fc41 => ?_)
      have l_a27 := (gr_len g40 o_a27).trans l_a27
      have l_a31 := (gr_len g40 o_a31).trans l_a31
      have l_a35 := (gr_len g40 o_a35).trans l_a35
      have d_x1 := d_x1.trans (fri_at fc41 (by decide) (by decide) o_v0).symm
      have ea25 := (frr_at fc41 (by decide) (by decide) o_v0).trans ea25
      have ea26 := (frr_at fc41 (by decide) (by decide) o_v0).trans ea26
      have ea27 := (frr_at fc41 (by decide) (by decide) o_a26).trans ea27
      have ea31 := (frr_at fc41 (by decide) (by decide) o_a26).trans ea31
      have ea35 := (frr_at fc41 (by decide) (by decide) o_a26).trans ea35
      have f0 := fri_tr (S := sI S v0 9 x1) g0 f0 fc41 (by decide) (by decide)
      have o_a25 := gr_ob g40 o_a25
      have o_a26 := gr_ob g40 o_a26
      have o_a27 := gr_ob g40 o_a27
      have o_a28 := gr_ob g40 o_a28
      have o_a31 := gr_ob g40 o_a31
      have o_a32 := gr_ob g40 o_a32
      have o_a35 := gr_ob g40 o_a35
      have o_a36 := gr_ob g40 o_a36
      have o_v0 := gr_ob g40 o_v0
      have g0 := gr_tr (T := sI S v0 9 x1) g0 g40
      intro _
      exact hq _ _ hI g0 f0
    · exact hq _ _ hI g0 f0
