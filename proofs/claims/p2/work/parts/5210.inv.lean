set_option maxHeartbeats 4000000 in
set_option maxRecDepth 20000 in
theorem m_X9_even {v0 : Nat} {v1 : Int32} {v2 : Int32} {v3 : Int32} {v4 : Int32} {Q : Int32 → HS → Prop} {S : HS} (hI : IV S) (o_v0 : ob S v0 9)     (hq : ∀ (r : Int32) (T : HS), IV T → Gr S T → FRI [(9, 9)] [] S T → Q r T) : P_X9_even v0 v1 v2 v3 v4 Q S := by
  have g0 := gr_rf S
  have f0 := fri_rf [(9, 9)] [] S
  refine u_X9_even ?_
  refine u_X9_even_0 ?_
  refine ⟨o_v0, ?_⟩
  refine m_X9_tripTrouble hI o_v0 (fun x1 S2 hI2 g3 p_x1 => ?_)
  obtain ⟨z_S2, p_x1⟩ := p_x1
  subst z_S2
  intro _
  refine u_X9_refusedBy ?_
  refine u_X9_refusedBy_0 ?_
  refine ⟨o_v0, ?_⟩
  have hI := iv_sI (j := 9) (v := x1) hI o_v0 (by decide) (nu_free (by decide))
  have f0 : FRI _ _ _ (sI S v0 9 x1) := fri_sI (S := S) g0 f0 o_v0 (by decide)
  have d_x1 : x1 = fI (sI S v0 9 x1) v0 9 := (u2_self _ _ _ _).symm
  refine ⟨fun c5 => ?_, fun c5 => ?_⟩
  · intro _ _
    refine ⟨fun c6 => ?_, fun c6 => ?_⟩
    · obtain ⟨a7, ea7, o_a7, -⟩ := sh 1 rfl hI o_v0
      refine ⟨a7, ea7, ?_⟩
      refine ⟨o_a7, ?_⟩
      obtain ⟨a8, ea8, o_a8, l_a8⟩ := shl 18 rfl hI o_a7
      refine ⟨a8, ea8, ?_⟩
      refine ⟨o_a8, ?_⟩
      have i10 : vp_in v1 (hN _ a8) := (vin l_a8 (m := 4) (by decide) (q0 p_x1 c5))
      obtain ⟨a9, ea9, o_a9⟩ := ae hI o_a8 (by decide) (by decide) i10
      replace o_a9 : ob _ a9 6 := o_a9
      refine ⟨i10, a9, ea9, ?_⟩
      obtain ⟨a11, ea11, o_a11, -⟩ := sh 3 rfl hI o_v0
      refine ⟨a11, ea11, ?_⟩
      refine ⟨a7, ea7, ?_⟩
      refine ⟨o_a7, ?_⟩
      obtain ⟨a13, ea13, o_a13, l_a13⟩ := shl 17 rfl hI o_a7
      refine ⟨a13, ea13, ?_⟩
      refine ⟨o_a13, ?_⟩
      have i15 : vp_in v2 (hN _ a13) := (vin l_a13 (m := 12) (by decide) (q1 p_x1 c5))
      obtain ⟨a14, ea14, o_a14⟩ := ae hI o_a13 (by decide) (by decide) i15
      replace o_a14 : ob _ a14 5 := o_a14
      refine ⟨i15, a14, ea14, ?_⟩
      refine ⟨a7, ea7, ?_⟩
      refine ⟨o_a7, ?_⟩
      obtain ⟨a17, ea17, o_a17, l_a17⟩ := shl 15 rfl hI o_a7
      refine ⟨a17, ea17, ?_⟩
      refine ⟨o_a17, ?_⟩
      have i19 : vp_in v4 (hN _ a17) := (vin l_a17 (m := 6) (by decide) (q2 p_x1 c5))
      obtain ⟨a18, ea18, o_a18⟩ := ae hI o_a17 (by decide) (by decide) i19
      replace o_a18 : ob _ a18 3 := o_a18
      refine ⟨i19, a18, ea18, ?_⟩
      refine ⟨o_a11, ?_⟩
      refine m_X1_worstSpeed hI o_a11 o_a9 o_a14 o_a18 (fun x20 S21 hI g22 fc23 => ?_)
      have l_a13 := (gr_len g22 o_a13).trans l_a13
      have l_a17 := (gr_len g22 o_a17).trans l_a17
      have l_a8 := (gr_len g22 o_a8).trans l_a8
      have d_x1 := d_x1.trans (fri_at fc23 (by decide) (by decide) o_v0).symm
      have ea7 := (frr_at fc23 (by decide) (by decide) o_v0).trans ea7
      have ea8 := (frr_at fc23 (by decide) (by decide) o_a7).trans ea8
      have ea11 := (frr_at fc23 (by decide) (by decide) o_v0).trans ea11
      have ea13 := (frr_at fc23 (by decide) (by decide) o_a7).trans ea13
      have ea17 := (frr_at fc23 (by decide) (by decide) o_a7).trans ea17
      have f0 := fri_tr (S := sI S v0 9 x1) g0 f0 fc23 (by decide) (by decide)
      have o_a11 := gr_ob g22 o_a11
      have o_a13 := gr_ob g22 o_a13
      have o_a14 := gr_ob g22 o_a14
      have o_a17 := gr_ob g22 o_a17
      have o_a18 := gr_ob g22 o_a18
      have o_a7 := gr_ob g22 o_a7
      have o_a8 := gr_ob g22 o_a8
      have o_a9 := gr_ob g22 o_a9
      have o_v0 := gr_ob g22 o_v0
      have g0 := gr_tr (T := sI S v0 9 x1) g0 g22
      intro _
      refine ⟨a11, ea11, ?_⟩
      refine ⟨a7, ea7, ?_⟩
      refine ⟨o_a7, ?_⟩
      refine ⟨a13, ea13, ?_⟩
      refine ⟨o_a13, ?_⟩
      have i28 : vp_in v2 (hN _ a13) := (vin l_a13 (m := 12) (by decide) (q1 p_x1 c5))
      obtain ⟨a27, ea27, o_a27⟩ := ae hI o_a13 (by decide) (by decide) i28
      replace o_a27 : ob _ a27 5 := o_a27
      refine ⟨i28, a27, ea27, ?_⟩
      refine ⟨a7, ea7, ?_⟩
      refine ⟨o_a7, ?_⟩
      refine ⟨a17, ea17, ?_⟩
      refine ⟨o_a17, ?_⟩
      have i32 : vp_in v4 (hN _ a17) := (vin l_a17 (m := 6) (by decide) (q2 p_x1 c5))
      obtain ⟨a31, ea31, o_a31⟩ := ae hI o_a17 (by decide) (by decide) i32
      replace o_a31 : ob _ a31 3 := o_a31
      refine ⟨i32, a31, ea31, ?_⟩
      refine ⟨o_a11, ?_⟩
      refine m_X1_leastWet hI o_a11 o_a9 o_a27 o_a31 (fun x33 S34 hI g35 fc36 => ?_)
      have l_a13 := (gr_len g35 o_a13).trans l_a13
      have l_a17 := (gr_len g35 o_a17).trans l_a17
      have l_a8 := (gr_len g35 o_a8).trans l_a8
      have d_x1 := d_x1.trans (fri_at fc36 (by decide) (by decide) o_v0).symm
      have ea7 := (frr_at fc36 (by decide) (by decide) o_v0).trans ea7
      have ea8 := (frr_at fc36 (by decide) (by decide) o_a7).trans ea8
      have ea11 := (frr_at fc36 (by decide) (by decide) o_v0).trans ea11
      have ea13 := (frr_at fc36 (by decide) (by decide) o_a7).trans ea13
      have ea17 := (frr_at fc36 (by decide) (by decide) o_a7).trans ea17
      have f0 := fri_tr (S := S21) g0 f0 fc36 (by decide) (by decide)
      have o_a11 := gr_ob g35 o_a11
      have o_a13 := gr_ob g35 o_a13
      have o_a14 := gr_ob g35 o_a14
      have o_a17 := gr_ob g35 o_a17
      have o_a18 := gr_ob g35 o_a18
      have o_a27 := gr_ob g35 o_a27
      have o_a31 := gr_ob g35 o_a31
      have o_a7 := gr_ob g35 o_a7
      have o_a8 := gr_ob g35 o_a8
      have o_a9 := gr_ob g35 o_a9
      have o_v0 := gr_ob g35 o_v0
      have g0 := gr_tr (T := S21) g0 g35
      intro _
      refine ⟨a11, ea11, ?_⟩
      refine ⟨a7, ea7, ?_⟩
      refine ⟨o_a7, ?_⟩
      refine ⟨a13, ea13, ?_⟩
      refine ⟨o_a13, ?_⟩
      have i41 : vp_in v2 (hN _ a13) := (vin l_a13 (m := 12) (by decide) (q1 p_x1 c5))
      obtain ⟨a40, ea40, o_a40⟩ := ae hI o_a13 (by decide) (by decide) i41
      replace o_a40 : ob _ a40 5 := o_a40
      refine ⟨i41, a40, ea40, ?_⟩
      refine ⟨a7, ea7, ?_⟩
      refine ⟨o_a7, ?_⟩
      refine ⟨a17, ea17, ?_⟩
      refine ⟨o_a17, ?_⟩
      have i45 : vp_in v4 (hN _ a17) := (vin l_a17 (m := 6) (by decide) (q2 p_x1 c5))
      obtain ⟨a44, ea44, o_a44⟩ := ae hI o_a17 (by decide) (by decide) i45
      replace o_a44 : ob _ a44 3 := o_a44
      refine ⟨i45, a44, ea44, ?_⟩
      refine ⟨o_a11, ?_⟩
      refine m_X1_wetOf hI o_a11 o_a9 o_a40 o_a44 (fun x46 S47 hI g48 fc49 => ?_)
      have l_a13 := (gr_len g48 o_a13).trans l_a13
      have l_a17 := (gr_len g48 o_a17).trans l_a17
      have l_a8 := (gr_len g48 o_a8).trans l_a8
      have d_x1 := d_x1.trans (fri_at fc49 (by decide) (by decide) o_v0).symm
      have ea7 := (frr_at fc49 (by decide) (by decide) o_v0).trans ea7
      have ea8 := (frr_at fc49 (by decide) (by decide) o_a7).trans ea8
      have ea11 := (frr_at fc49 (by decide) (by decide) o_v0).trans ea11
      have ea13 := (frr_at fc49 (by decide) (by decide) o_a7).trans ea13
      have ea17 := (frr_at fc49 (by decide) (by decide) o_a7).trans ea17
      have f0 := fri_tr (S := S34) g0 f0 fc49 (by decide) (by decide)
      have o_a11 := gr_ob g48 o_a11
      have o_a13 := gr_ob g48 o_a13
      have o_a14 := gr_ob g48 o_a14
      have o_a17 := gr_ob g48 o_a17
      have o_a18 := gr_ob g48 o_a18
      have o_a27 := gr_ob g48 o_a27
      have o_a31 := gr_ob g48 o_a31
      have o_a40 := gr_ob g48 o_a40
      have o_a44 := gr_ob g48 o_a44
      have o_a7 := gr_ob g48 o_a7
      have o_a8 := gr_ob g48 o_a8
      have o_a9 := gr_ob g48 o_a9
      have o_v0 := gr_ob g48 o_v0
      have g0 := gr_tr (T := S34) g0 g48
      intro _
      refine ⟨fun c50 => ?_, fun c50 => ?_⟩
      · exact hq _ _ hI g0 f0
      · exact hq _ _ hI g0 f0
    · exact hq _ _ hI g0 f0
  · intro _ _
    refine ⟨fun c51 => ?_, fun c51 => ?_⟩
    · obtain ⟨a52, ea52, o_a52, -⟩ := sh 1 rfl hI o_v0
      refine ⟨a52, ea52, ?_⟩
      refine ⟨o_a52, ?_⟩
      obtain ⟨a53, ea53, o_a53, l_a53⟩ := shl 18 rfl hI o_a52
      refine ⟨a53, ea53, ?_⟩
      refine ⟨o_a53, ?_⟩
      have i55 : vp_in v1 (hN _ a53) := (vin l_a53 (m := 4) (by decide) (q3 p_x1 c5 c51))
      obtain ⟨a54, ea54, o_a54⟩ := ae hI o_a53 (by decide) (by decide) i55
      replace o_a54 : ob _ a54 6 := o_a54
      refine ⟨i55, a54, ea54, ?_⟩
      obtain ⟨a56, ea56, o_a56, -⟩ := sh 3 rfl hI o_v0
      refine ⟨a56, ea56, ?_⟩
      refine ⟨a52, ea52, ?_⟩
      refine ⟨o_a52, ?_⟩
      obtain ⟨a58, ea58, o_a58, l_a58⟩ := shl 17 rfl hI o_a52
      refine ⟨a58, ea58, ?_⟩
      refine ⟨o_a58, ?_⟩
      have i60 : vp_in v2 (hN _ a58) := (vin l_a58 (m := 12) (by decide) (q4 p_x1 c5 c51))
      obtain ⟨a59, ea59, o_a59⟩ := ae hI o_a58 (by decide) (by decide) i60
      replace o_a59 : ob _ a59 5 := o_a59
      refine ⟨i60, a59, ea59, ?_⟩
      refine ⟨a52, ea52, ?_⟩
      refine ⟨o_a52, ?_⟩
      obtain ⟨a62, ea62, o_a62, l_a62⟩ := shl 15 rfl hI o_a52
      refine ⟨a62, ea62, ?_⟩
      refine ⟨o_a62, ?_⟩
      have i64 : vp_in v4 (hN _ a62) := (vin l_a62 (m := 6) (by decide) (q5 p_x1 c5 c51))
      obtain ⟨a63, ea63, o_a63⟩ := ae hI o_a62 (by decide) (by decide) i64
      replace o_a63 : ob _ a63 3 := o_a63
      refine ⟨i64, a63, ea63, ?_⟩
      refine ⟨o_a56, ?_⟩
      refine m_X1_worstSpeed hI o_a56 o_a54 o_a59 o_a63 (fun x65 S66 hI g67 fc68 => ?_)
      have l_a53 := (gr_len g67 o_a53).trans l_a53
      have l_a58 := (gr_len g67 o_a58).trans l_a58
      have l_a62 := (gr_len g67 o_a62).trans l_a62
      have d_x1 := d_x1.trans (fri_at fc68 (by decide) (by decide) o_v0).symm
      have ea52 := (frr_at fc68 (by decide) (by decide) o_v0).trans ea52
      have ea53 := (frr_at fc68 (by decide) (by decide) o_a52).trans ea53
      have ea56 := (frr_at fc68 (by decide) (by decide) o_v0).trans ea56
      have ea58 := (frr_at fc68 (by decide) (by decide) o_a52).trans ea58
      have ea62 := (frr_at fc68 (by decide) (by decide) o_a52).trans ea62
      have f0 := fri_tr (S := sI S v0 9 x1) g0 f0 fc68 (by decide) (by decide)
      have o_a52 := gr_ob g67 o_a52
      have o_a53 := gr_ob g67 o_a53
      have o_a54 := gr_ob g67 o_a54
      have o_a56 := gr_ob g67 o_a56
      have o_a58 := gr_ob g67 o_a58
      have o_a59 := gr_ob g67 o_a59
      have o_a62 := gr_ob g67 o_a62
      have o_a63 := gr_ob g67 o_a63
      have o_v0 := gr_ob g67 o_v0
      have g0 := gr_tr (T := sI S v0 9 x1) g0 g67
      intro _
      refine ⟨a56, ea56, ?_⟩
      refine ⟨a52, ea52, ?_⟩
      refine ⟨o_a52, ?_⟩
      refine ⟨a58, ea58, ?_⟩
      refine ⟨o_a58, ?_⟩
      have i73 : vp_in v2 (hN _ a58) := (vin l_a58 (m := 12) (by decide) (q4 p_x1 c5 c51))
      obtain ⟨a72, ea72, o_a72⟩ := ae hI o_a58 (by decide) (by decide) i73
      replace o_a72 : ob _ a72 5 := o_a72
      refine ⟨i73, a72, ea72, ?_⟩
      refine ⟨a52, ea52, ?_⟩
      refine ⟨o_a52, ?_⟩
      refine ⟨a62, ea62, ?_⟩
      refine ⟨o_a62, ?_⟩
      have i77 : vp_in v4 (hN _ a62) := (vin l_a62 (m := 6) (by decide) (q5 p_x1 c5 c51))
      obtain ⟨a76, ea76, o_a76⟩ := ae hI o_a62 (by decide) (by decide) i77
      replace o_a76 : ob _ a76 3 := o_a76
      refine ⟨i77, a76, ea76, ?_⟩
      refine ⟨o_a56, ?_⟩
      refine m_X1_leastWet hI o_a56 o_a54 o_a72 o_a76 (fun x78 S79 hI g80 fc81 => ?_)
      have l_a53 := (gr_len g80 o_a53).trans l_a53
      have l_a58 := (gr_len g80 o_a58).trans l_a58
      have l_a62 := (gr_len g80 o_a62).trans l_a62
      have d_x1 := d_x1.trans (fri_at fc81 (by decide) (by decide) o_v0).symm
      have ea52 := (frr_at fc81 (by decide) (by decide) o_v0).trans ea52
      have ea53 := (frr_at fc81 (by decide) (by decide) o_a52).trans ea53
      have ea56 := (frr_at fc81 (by decide) (by decide) o_v0).trans ea56
      have ea58 := (frr_at fc81 (by decide) (by decide) o_a52).trans ea58
      have ea62 := (frr_at fc81 (by decide) (by decide) o_a52).trans ea62
      have f0 := fri_tr (S := S66) g0 f0 fc81 (by decide) (by decide)
      have o_a52 := gr_ob g80 o_a52
      have o_a53 := gr_ob g80 o_a53
      have o_a54 := gr_ob g80 o_a54
      have o_a56 := gr_ob g80 o_a56
      have o_a58 := gr_ob g80 o_a58
      have o_a59 := gr_ob g80 o_a59
      have o_a62 := gr_ob g80 o_a62
      have o_a63 := gr_ob g80 o_a63
      have o_a72 := gr_ob g80 o_a72
      have o_a76 := gr_ob g80 o_a76
      have o_v0 := gr_ob g80 o_v0
      have g0 := gr_tr (T := S66) g0 g80
      intro _
      refine ⟨a56, ea56, ?_⟩
      refine ⟨a52, ea52, ?_⟩
      refine ⟨o_a52, ?_⟩
      refine ⟨a58, ea58, ?_⟩
      refine ⟨o_a58, ?_⟩
      have i86 : vp_in v2 (hN _ a58) := (vin l_a58 (m := 12) (by decide) (q4 p_x1 c5 c51))
      obtain ⟨a85, ea85, o_a85⟩ := ae hI o_a58 (by decide) (by decide) i86
      replace o_a85 : ob _ a85 5 := o_a85
      refine ⟨i86, a85, ea85, ?_⟩
      refine ⟨a52, ea52, ?_⟩
      refine ⟨o_a52, ?_⟩
      refine ⟨a62, ea62, ?_⟩
      refine ⟨o_a62, ?_⟩
      have i90 : vp_in v4 (hN _ a62) := (vin l_a62 (m := 6) (by decide) (q5 p_x1 c5 c51))
      obtain ⟨a89, ea89, o_a89⟩ := ae hI o_a62 (by decide) (by decide) i90
      replace o_a89 : ob _ a89 3 := o_a89
      refine ⟨i90, a89, ea89, ?_⟩
      refine ⟨o_a56, ?_⟩
      refine m_X1_wetOf hI o_a56 o_a54 o_a85 o_a89 (fun x91 S92 hI g93 fc94 => ?_)
      have l_a53 := (gr_len g93 o_a53).trans l_a53
      have l_a58 := (gr_len g93 o_a58).trans l_a58
      have l_a62 := (gr_len g93 o_a62).trans l_a62
      have d_x1 := d_x1.trans (fri_at fc94 (by decide) (by decide) o_v0).symm
      have ea52 := (frr_at fc94 (by decide) (by decide) o_v0).trans ea52
      have ea53 := (frr_at fc94 (by decide) (by decide) o_a52).trans ea53
      have ea56 := (frr_at fc94 (by decide) (by decide) o_v0).trans ea56
      have ea58 := (frr_at fc94 (by decide) (by decide) o_a52).trans ea58
      have ea62 := (frr_at fc94 (by decide) (by decide) o_a52).trans ea62
      have f0 := fri_tr (S := S79) g0 f0 fc94 (by decide) (by decide)
      have o_a52 := gr_ob g93 o_a52
      have o_a53 := gr_ob g93 o_a53
      have o_a54 := gr_ob g93 o_a54
      have o_a56 := gr_ob g93 o_a56
      have o_a58 := gr_ob g93 o_a58
      have o_a59 := gr_ob g93 o_a59
      have o_a62 := gr_ob g93 o_a62
      have o_a63 := gr_ob g93 o_a63
      have o_a72 := gr_ob g93 o_a72
      have o_a76 := gr_ob g93 o_a76
      have o_a85 := gr_ob g93 o_a85
      have o_a89 := gr_ob g93 o_a89
      have o_v0 := gr_ob g93 o_v0
      have g0 := gr_tr (T := S79) g0 g93
      intro _
      refine ⟨fun c95 => ?_, fun c95 => ?_⟩
      · exact hq _ _ hI g0 f0
      · exact hq _ _ hI g0 f0
    · exact hq _ _ hI g0 f0
set_option maxHeartbeats 4000000 in
set_option maxRecDepth 20000 in
theorem m_X9_fraction {v0 : Int64} {v2 : Int64} {v4 : Int32} {Q : Int64 → HS → Prop} {S : HS} (hI : IV S)      (hq : ∀ (r : Int64) (T : HS), IV T → Gr S T → (S = T) → Q r T) : P_X9_fraction v0 v2 v4 Q S := by
  have g0 := gr_rf S
  refine u_X9_fraction ?_
  refine u_X9_fraction_0 ?_
  refine m_X9_commonDivisor hI (fun x1 S2 hI2 g3 p_x1 => ?_)
  subst p_x1
  intro _
  refine ⟨fun c5 => ?_, fun c5 => ?_⟩
  · refine ⟨fun c6 => ?_, fun c6 => ?_⟩
    · refine ⟨(lc_gt c5), ?_⟩
      intro x7 ex7
      exact hq _ _ hI g0 rfl
    · refine ⟨(lc_gt c5), ?_⟩
      intro x8 ex8
      exact hq _ _ hI g0 rfl
  · refine ⟨fun c9 => ?_, fun c9 => ?_⟩
    · exact hq _ _ hI g0 rfl
    · exact hq _ _ hI g0 rfl
set_option maxHeartbeats 4000000 in
set_option maxRecDepth 20000 in
theorem m_X9_isFace {v0 : Int32} {Q : Int32 → HS → Prop} {S : HS} (hI : IV S)      (hq : ∀ (r : Int32) (T : HS), IV T → Gr S T → bl r → (S = T) ∧ (r = 1 → 0 ≤ v0 ∧ v0 < 5) → Q r T) : P_X9_isFace v0 Q S := by
  have g0 := gr_rf S
  refine u_X9_isFace ?_
  refine u_X9_isFace_0 ?_
  refine ⟨fun c1 => ?_, fun c1 => ?_⟩
  · exact hq _ _ hI g0 (Or.inl rfl) ⟨rfl, (q716 c1)⟩
  · refine ⟨fun c2 => ?_, fun c2 => ?_⟩
    · exact hq _ _ hI g0 (Or.inl rfl) ⟨rfl, (q717 c1 c2)⟩
    · exact hq _ _ hI g0 (Or.inr rfl) ⟨rfl, (q718 c1 c2)⟩
set_option maxHeartbeats 4000000 in
set_option maxRecDepth 20000 in
theorem m_X9_legTrouble {v0 : Nat} {v1 : Int32} {v2 : Int32} {v3 : Int32} {v4 : Int32} {v5 : Int32} {Q : Int32 → HS → Prop} {S : HS} (hI : IV S) (o_v0 : ob S v0 9)     (hq : ∀ (r : Int32) (T : HS), IV T → Gr S T → (S = T) ∧ (r = 0 → 0 ≤ v1 ∧ v1 < 4 ∧ 0 ≤ v2 ∧ v2 < 12 ∧ 0 ≤ v4 ∧ v4 < 6) → Q r T) : P_X9_legTrouble v0 v1 v2 v3 v4 v5 Q S := by
  have g0 := gr_rf S
  refine u_X9_legTrouble ?_
  refine u_X9_legTrouble_0 ?_
  refine ⟨o_v0, ?_⟩
  refine m_X9_tripTrouble hI o_v0 (fun x1 S2 hI2 g3 p_x1 => ?_)
  obtain ⟨z_S2, p_x1⟩ := p_x1
  subst z_S2
  intro _
  refine ⟨fun c5 => ?_, fun c5 => ?_⟩
  · obtain ⟨a6, ea6, o_a6, -⟩ := sh 1 rfl hI o_v0
    refine ⟨a6, ea6, ?_⟩
    refine ⟨o_a6, ?_⟩
    obtain ⟨a7, ea7, o_a7, l_a7⟩ := shl 18 rfl hI o_a6
    refine ⟨a7, ea7, ?_⟩
    refine ⟨o_a7, ?_⟩
    have i9 : vp_in v1 (hN _ a7) := (vin l_a7 (m := 4) (by decide) (q0 p_x1 c5))
    obtain ⟨a8, ea8, o_a8⟩ := ae hI o_a7 (by decide) (by decide) i9
    replace o_a8 : ob _ a8 6 := o_a8
    refine ⟨i9, a8, ea8, ?_⟩
    refine ⟨o_a8, ?_⟩
    refine m_X6_canGo hI o_a8 (fun x10 S11 hI2 g12 b_x10 p_x10 => ?_)
    subst p_x10
    intro _ _
    have bb_x10 : x10 = 0 ∨ x10 = 1 := b_x10
    refine ⟨fun c14 => ?_, fun c14 => ?_⟩
    · exact hq _ _ hI g0 ⟨rfl, (q90 p_x1 c5 bb_x10 c14)⟩
    · exact hq _ _ hI g0 ⟨rfl, (q91 p_x1 c5 bb_x10 c14)⟩
  · exact hq _ _ hI g0 ⟨rfl, (q92 p_x1 c5)⟩
set_option maxHeartbeats 4000000 in
set_option maxRecDepth 20000 in
theorem m_X9_face {v0 : Nat} {v1 : Int32} {v2 : Int32} {v3 : Int32} {v4 : Int32} {v5 : Int32} {v6 : Int32} {v7 : Int32} {Q : Int64 → HS → Prop} {S : HS} (hI : IV S) (o_v0 : ob S v0 9)     (hq : ∀ (r : Int64) (T : HS), IV T → Gr S T → FRI [(9, 9)] [] S T → Q r T) : P_X9_face v0 v1 v2 v3 v4 v5 v6 v7 Q S := by
  have g0 := gr_rf S
  have f0 := fri_rf [(9, 9)] [] S
  refine u_X9_face ?_
  refine u_X9_face_0 ?_
  refine m_X9_isFace hI (fun x1 S2 hI2 g3 b_x1 p_x1 => ?_)
  obtain ⟨z_S2, p_x1⟩ := p_x1
  subst z_S2
  intro _ _
  have bb_x1 : x1 = 0 ∨ x1 = 1 := b_x1
  refine ⟨fun c5 => ?_, fun c5 => ?_⟩
  · refine u_X9_face_23 ?_
    refine ⟨o_v0, ?_⟩
    refine u_X9_refusedBy ?_
    refine u_X9_refusedBy_0 ?_
    refine ⟨o_v0, ?_⟩
    have hI := iv_sI (j := 9) (v := (1 : Int32)) hI o_v0 (by decide) (nu_free (by decide))
    have f0 : FRI _ _ _ (sI S v0 9 (1 : Int32)) := fri_sI (S := S) g0 f0 o_v0 (by decide)
    obtain ⟨y6, hy6⟩ : ∃ z : Int32, z = (1 : Int32) := ⟨_, rfl⟩
    have d_y6 : y6 = fI (sI S v0 9 (1 : Int32)) v0 9 := hy6.trans (u2_self _ _ _ _).symm
    refine ⟨fun c7 => ?_, fun c7 => ?_⟩
    · intro _ _
      refine ⟨fun c8 => ?_, fun c8 => ?_⟩
      · obtain ⟨a9, ea9, o_a9, -⟩ := sh 3 rfl hI o_v0
        refine ⟨a9, ea9, ?_⟩
        obtain ⟨a10, ea10, o_a10, -⟩ := sh 1 rfl hI o_v0
        refine ⟨a10, ea10, ?_⟩
        refine ⟨o_a10, ?_⟩
        obtain ⟨a11, ea11, o_a11, l_a11⟩ := shl 18 rfl hI o_a10
        refine ⟨a11, ea11, ?_⟩
        refine ⟨o_a11, ?_⟩
        have i13 : vp_in v1 (hN _ a11) := (vin l_a11 (m := 4) (by decide) (q739 p_x1 bb_x1 c5 c7))
        obtain ⟨a12, ea12, o_a12⟩ := ae hI o_a11 (by decide) (by decide) i13
        replace o_a12 : ob _ a12 6 := o_a12
        refine ⟨i13, a12, ea12, ?_⟩
        refine ⟨a10, ea10, ?_⟩
        refine ⟨o_a10, ?_⟩
        obtain ⟨a15, ea15, o_a15, l_a15⟩ := shl 17 rfl hI o_a10
        refine ⟨a15, ea15, ?_⟩
        refine ⟨o_a15, ?_⟩
        have i17 : vp_in v2 (hN _ a15) := (vin l_a15 (m := 12) (by decide) (q740 p_x1 bb_x1 c5 c7))
        obtain ⟨a16, ea16, o_a16⟩ := ae hI o_a15 (by decide) (by decide) i17
        replace o_a16 : ob _ a16 5 := o_a16
        refine ⟨i17, a16, ea16, ?_⟩
        refine ⟨a10, ea10, ?_⟩
        refine ⟨o_a10, ?_⟩
        obtain ⟨a19, ea19, o_a19, l_a19⟩ := shl 15 rfl hI o_a10
        refine ⟨a19, ea19, ?_⟩
        refine ⟨o_a19, ?_⟩
        have i21 : vp_in v4 (hN _ a19) := (vin l_a19 (m := 6) (by decide) (q741 p_x1 bb_x1 c5 c7))
        obtain ⟨a20, ea20, o_a20⟩ := ae hI o_a19 (by decide) (by decide) i21
        replace o_a20 : ob _ a20 3 := o_a20
        refine ⟨i21, a20, ea20, ?_⟩
        refine ⟨o_a9, ?_⟩
        refine m_X1_wetOf hI o_a9 o_a12 o_a16 o_a20 (fun x22 S23 hI g24 fc25 => ?_)
        have l_a11 := (gr_len g24 o_a11).trans l_a11
        have l_a15 := (gr_len g24 o_a15).trans l_a15
        have l_a19 := (gr_len g24 o_a19).trans l_a19
        have d_y6 := d_y6.trans (fri_at fc25 (by decide) (by decide) o_v0).symm
        have ea9 := (frr_at fc25 (by decide) (by decide) o_v0).trans ea9
        have ea10 := (frr_at fc25 (by decide) (by decide) o_v0).trans ea10
        have ea11 := (frr_at fc25 (by decide) (by decide) o_a10).trans ea11
        have ea15 := (frr_at fc25 (by decide) (by decide) o_a10).trans ea15
        have ea19 := (frr_at fc25 (by decide) (by decide) o_a10).trans ea19
        have f0 := fri_tr (S := sI S v0 9 (1 : Int32)) g0 f0 fc25 (by decide) (by decide)
        have o_a10 := gr_ob g24 o_a10
        have o_a11 := gr_ob g24 o_a11
        have o_a12 := gr_ob g24 o_a12
        have o_a15 := gr_ob g24 o_a15
        have o_a16 := gr_ob g24 o_a16
        have o_a19 := gr_ob g24 o_a19
        have o_a20 := gr_ob g24 o_a20
        have o_a9 := gr_ob g24 o_a9
        have o_v0 := gr_ob g24 o_v0
        have g0 := gr_tr (T := sI S v0 9 (1 : Int32)) g0 g24
        intro _
        refine ⟨a9, ea9, ?_⟩
        refine ⟨o_a9, ?_⟩
        obtain ⟨a27, ea27, o_a27, l_a27⟩ := shl 9 rfl hI o_a9
        refine ⟨a27, ea27, ?_⟩
        refine ⟨o_a27, ?_⟩
        refine ⟨(vin l_a27 (m := 5) (by decide) (q742 p_x1 bb_x1 c5 c7)), ?_⟩
        intro x28 ex28
        refine m_X9_fraction hI (fun x29 S30 hI2 g31 p_x29 => ?_)
        subst p_x29
        intro _
        exact hq _ _ hI g0 f0
      · exact hq _ _ hI g0 f0
    · intro _ _
      refine ⟨fun c33 => ?_, fun c33 => ?_⟩
      · obtain ⟨a34, ea34, o_a34, -⟩ := sh 3 rfl hI o_v0
        refine ⟨a34, ea34, ?_⟩
        obtain ⟨a35, ea35, o_a35, -⟩ := sh 1 rfl hI o_v0
        refine ⟨a35, ea35, ?_⟩
        refine ⟨o_a35, ?_⟩
        obtain ⟨a36, ea36, o_a36, l_a36⟩ := shl 18 rfl hI o_a35
        refine ⟨a36, ea36, ?_⟩
        refine ⟨o_a36, ?_⟩
        have i38 : vp_in v1 (hN _ a36) := (vin l_a36 (m := 4) (by decide) (q739 p_x1 bb_x1 c5 c33))
        obtain ⟨a37, ea37, o_a37⟩ := ae hI o_a36 (by decide) (by decide) i38
        replace o_a37 : ob _ a37 6 := o_a37
        refine ⟨i38, a37, ea37, ?_⟩
        refine ⟨a35, ea35, ?_⟩
        refine ⟨o_a35, ?_⟩
        obtain ⟨a40, ea40, o_a40, l_a40⟩ := shl 17 rfl hI o_a35
        refine ⟨a40, ea40, ?_⟩
        refine ⟨o_a40, ?_⟩
        have i42 : vp_in v2 (hN _ a40) := (vin l_a40 (m := 12) (by decide) (q740 p_x1 bb_x1 c5 c33))
        obtain ⟨a41, ea41, o_a41⟩ := ae hI o_a40 (by decide) (by decide) i42
        replace o_a41 : ob _ a41 5 := o_a41
        refine ⟨i42, a41, ea41, ?_⟩
        refine ⟨a35, ea35, ?_⟩
        refine ⟨o_a35, ?_⟩
        obtain ⟨a44, ea44, o_a44, l_a44⟩ := shl 15 rfl hI o_a35
        refine ⟨a44, ea44, ?_⟩
        refine ⟨o_a44, ?_⟩
        have i46 : vp_in v4 (hN _ a44) := (vin l_a44 (m := 6) (by decide) (q741 p_x1 bb_x1 c5 c33))
        obtain ⟨a45, ea45, o_a45⟩ := ae hI o_a44 (by decide) (by decide) i46
        replace o_a45 : ob _ a45 3 := o_a45
        refine ⟨i46, a45, ea45, ?_⟩
        refine ⟨o_a34, ?_⟩
        refine m_X1_wetOf hI o_a34 o_a37 o_a41 o_a45 (fun x47 S48 hI g49 fc50 => ?_)
        have l_a36 := (gr_len g49 o_a36).trans l_a36
        have l_a40 := (gr_len g49 o_a40).trans l_a40
        have l_a44 := (gr_len g49 o_a44).trans l_a44
        have d_y6 := d_y6.trans (fri_at fc50 (by decide) (by decide) o_v0).symm
        have ea34 := (frr_at fc50 (by decide) (by decide) o_v0).trans ea34
        have ea35 := (frr_at fc50 (by decide) (by decide) o_v0).trans ea35
        have ea36 := (frr_at fc50 (by decide) (by decide) o_a35).trans ea36
        have ea40 := (frr_at fc50 (by decide) (by decide) o_a35).trans ea40
        have ea44 := (frr_at fc50 (by decide) (by decide) o_a35).trans ea44
        have f0 := fri_tr (S := sI S v0 9 (1 : Int32)) g0 f0 fc50 (by decide) (by decide)
        have o_a34 := gr_ob g49 o_a34
        have o_a35 := gr_ob g49 o_a35
        have o_a36 := gr_ob g49 o_a36
        have o_a37 := gr_ob g49 o_a37
        have o_a40 := gr_ob g49 o_a40
        have o_a41 := gr_ob g49 o_a41
        have o_a44 := gr_ob g49 o_a44
        have o_a45 := gr_ob g49 o_a45
        have o_v0 := gr_ob g49 o_v0
        have g0 := gr_tr (T := sI S v0 9 (1 : Int32)) g0 g49
        intro _
        refine ⟨a34, ea34, ?_⟩
        refine ⟨o_a34, ?_⟩
        obtain ⟨a52, ea52, o_a52, l_a52⟩ := shl 9 rfl hI o_a34
        refine ⟨a52, ea52, ?_⟩
        refine ⟨o_a52, ?_⟩
        refine ⟨(vin l_a52 (m := 5) (by decide) (q742 p_x1 bb_x1 c5 c33)), ?_⟩
        intro x53 ex53
        refine m_X9_fraction hI (fun x54 S55 hI2 g56 p_x54 => ?_)
        subst p_x54
        intro _
        exact hq _ _ hI g0 f0
      · exact hq _ _ hI g0 f0
  · refine ⟨o_v0, ?_⟩
    refine m_X9_legTrouble hI o_v0 (fun x58 S59 hI2 g60 p_x58 => ?_)
    obtain ⟨z_S59, p_x58⟩ := p_x58
    subst z_S59
    intro _
    refine u_X9_face_23 ?_
    refine ⟨o_v0, ?_⟩
    refine u_X9_refusedBy ?_
    refine u_X9_refusedBy_0 ?_
    refine ⟨o_v0, ?_⟩
    have hI := iv_sI (j := 9) (v := x58) hI o_v0 (by decide) (nu_free (by decide))
    have f0 : FRI _ _ _ (sI S v0 9 x58) := fri_sI (S := S) g0 f0 o_v0 (by decide)
    have d_x58 : x58 = fI (sI S v0 9 x58) v0 9 := (u2_self _ _ _ _).symm
    refine ⟨fun c62 => ?_, fun c62 => ?_⟩
    · intro _ _
      refine ⟨fun c63 => ?_, fun c63 => ?_⟩
      · obtain ⟨a64, ea64, o_a64, -⟩ := sh 3 rfl hI o_v0
        refine ⟨a64, ea64, ?_⟩
        obtain ⟨a65, ea65, o_a65, -⟩ := sh 1 rfl hI o_v0
        refine ⟨a65, ea65, ?_⟩
        refine ⟨o_a65, ?_⟩
        obtain ⟨a66, ea66, o_a66, l_a66⟩ := shl 18 rfl hI o_a65
        refine ⟨a66, ea66, ?_⟩
        refine ⟨o_a66, ?_⟩
        have i68 : vp_in v1 (hN _ a66) := (vin l_a66 (m := 4) (by decide) (q743 p_x1 bb_x1 c5 p_x58 c62))
        obtain ⟨a67, ea67, o_a67⟩ := ae hI o_a66 (by decide) (by decide) i68
        replace o_a67 : ob _ a67 6 := o_a67
        refine ⟨i68, a67, ea67, ?_⟩
        refine ⟨a65, ea65, ?_⟩
        refine ⟨o_a65, ?_⟩
        obtain ⟨a70, ea70, o_a70, l_a70⟩ := shl 17 rfl hI o_a65
        refine ⟨a70, ea70, ?_⟩
        refine ⟨o_a70, ?_⟩
        have i72 : vp_in v2 (hN _ a70) := (vin l_a70 (m := 12) (by decide) (q744 p_x1 bb_x1 c5 p_x58 c62))
        obtain ⟨a71, ea71, o_a71⟩ := ae hI o_a70 (by decide) (by decide) i72
        replace o_a71 : ob _ a71 5 := o_a71
        refine ⟨i72, a71, ea71, ?_⟩
        refine ⟨a65, ea65, ?_⟩
        refine ⟨o_a65, ?_⟩
        obtain ⟨a74, ea74, o_a74, l_a74⟩ := shl 15 rfl hI o_a65
        refine ⟨a74, ea74, ?_⟩
        refine ⟨o_a74, ?_⟩
        have i76 : vp_in v4 (hN _ a74) := (vin l_a74 (m := 6) (by decide) (q745 p_x1 bb_x1 c5 p_x58 c62))
        obtain ⟨a75, ea75, o_a75⟩ := ae hI o_a74 (by decide) (by decide) i76
        replace o_a75 : ob _ a75 3 := o_a75
        refine ⟨i76, a75, ea75, ?_⟩
        refine ⟨o_a64, ?_⟩
        refine m_X1_wetOf hI o_a64 o_a67 o_a71 o_a75 (fun x77 S78 hI g79 fc80 => ?_)
        have l_a66 := (gr_len g79 o_a66).trans l_a66
        have l_a70 := (gr_len g79 o_a70).trans l_a70
        have l_a74 := (gr_len g79 o_a74).trans l_a74
        have d_x58 := d_x58.trans (fri_at fc80 (by decide) (by decide) o_v0).symm
        have ea64 := (frr_at fc80 (by decide) (by decide) o_v0).trans ea64
        have ea65 := (frr_at fc80 (by decide) (by decide) o_v0).trans ea65
        have ea66 := (frr_at fc80 (by decide) (by decide) o_a65).trans ea66
        have ea70 := (frr_at fc80 (by decide) (by decide) o_a65).trans ea70
        have ea74 := (frr_at fc80 (by decide) (by decide) o_a65).trans ea74
        have f0 := fri_tr (S := sI S v0 9 x58) g0 f0 fc80 (by decide) (by decide)
        have o_a64 := gr_ob g79 o_a64
        have o_a65 := gr_ob g79 o_a65
        have o_a66 := gr_ob g79 o_a66
        have o_a67 := gr_ob g79 o_a67
        have o_a70 := gr_ob g79 o_a70
        have o_a71 := gr_ob g79 o_a71
        have o_a74 := gr_ob g79 o_a74
        have o_a75 := gr_ob g79 o_a75
        have o_v0 := gr_ob g79 o_v0
        have g0 := gr_tr (T := sI S v0 9 x58) g0 g79
        intro _
        refine ⟨a64, ea64, ?_⟩
        refine ⟨o_a64, ?_⟩
        obtain ⟨a82, ea82, o_a82, l_a82⟩ := shl 9 rfl hI o_a64
        refine ⟨a82, ea82, ?_⟩
        refine ⟨o_a82, ?_⟩
        refine ⟨(vin l_a82 (m := 5) (by decide) (q746 p_x1 bb_x1 c5 p_x58 c62)), ?_⟩
        intro x83 ex83
        refine m_X9_fraction hI (fun x84 S85 hI2 g86 p_x84 => ?_)
        subst p_x84
        intro _
        exact hq _ _ hI g0 f0
      · exact hq _ _ hI g0 f0
    · intro _ _
      refine ⟨fun c88 => ?_, fun c88 => ?_⟩
      · obtain ⟨a89, ea89, o_a89, -⟩ := sh 3 rfl hI o_v0
        refine ⟨a89, ea89, ?_⟩
        obtain ⟨a90, ea90, o_a90, -⟩ := sh 1 rfl hI o_v0
        refine ⟨a90, ea90, ?_⟩
        refine ⟨o_a90, ?_⟩
        obtain ⟨a91, ea91, o_a91, l_a91⟩ := shl 18 rfl hI o_a90
        refine ⟨a91, ea91, ?_⟩
        refine ⟨o_a91, ?_⟩
        have i93 : vp_in v1 (hN _ a91) := (vin l_a91 (m := 4) (by decide) (q747 p_x1 bb_x1 c5 p_x58 c62 c88))
        obtain ⟨a92, ea92, o_a92⟩ := ae hI o_a91 (by decide) (by decide) i93
        replace o_a92 : ob _ a92 6 := o_a92
        refine ⟨i93, a92, ea92, ?_⟩
        refine ⟨a90, ea90, ?_⟩
        refine ⟨o_a90, ?_⟩
        obtain ⟨a95, ea95, o_a95, l_a95⟩ := shl 17 rfl hI o_a90
        refine ⟨a95, ea95, ?_⟩
        refine ⟨o_a95, ?_⟩
        have i97 : vp_in v2 (hN _ a95) := (vin l_a95 (m := 12) (by decide) (q748 p_x1 bb_x1 c5 p_x58 c62 c88))
        obtain ⟨a96, ea96, o_a96⟩ := ae hI o_a95 (by decide) (by decide) i97
        replace o_a96 : ob _ a96 5 := o_a96
        refine ⟨i97, a96, ea96, ?_⟩
        refine ⟨a90, ea90, ?_⟩
        refine ⟨o_a90, ?_⟩
        obtain ⟨a99, ea99, o_a99, l_a99⟩ := shl 15 rfl hI o_a90
        refine ⟨a99, ea99, ?_⟩
        refine ⟨o_a99, ?_⟩
        have i101 : vp_in v4 (hN _ a99) := (vin l_a99 (m := 6) (by decide) (q749 p_x1 bb_x1 c5 p_x58 c62 c88))
        obtain ⟨a100, ea100, o_a100⟩ := ae hI o_a99 (by decide) (by decide) i101
        replace o_a100 : ob _ a100 3 := o_a100
        refine ⟨i101, a100, ea100, ?_⟩
        refine ⟨o_a89, ?_⟩
        refine m_X1_wetOf hI o_a89 o_a92 o_a96 o_a100 (fun x102 S103 hI g104 fc105 => ?_)
        have l_a91 := (gr_len g104 o_a91).trans l_a91
        have l_a95 := (gr_len g104 o_a95).trans l_a95
        have l_a99 := (gr_len g104 o_a99).trans l_a99
        have d_x58 := d_x58.trans (fri_at fc105 (by decide) (by decide) o_v0).symm
        have ea89 := (frr_at fc105 (by decide) (by decide) o_v0).trans ea89
        have ea90 := (frr_at fc105 (by decide) (by decide) o_v0).trans ea90
        have ea91 := (frr_at fc105 (by decide) (by decide) o_a90).trans ea91
        have ea95 := (frr_at fc105 (by decide) (by decide) o_a90).trans ea95
        have ea99 := (frr_at fc105 (by decide) (by decide) o_a90).trans ea99
        have f0 := fri_tr (S := sI S v0 9 x58) g0 f0 fc105 (by decide) (by decide)
        have o_a100 := gr_ob g104 o_a100
        have o_a89 := gr_ob g104 o_a89
        have o_a90 := gr_ob g104 o_a90
        have o_a91 := gr_ob g104 o_a91
        have o_a92 := gr_ob g104 o_a92
        have o_a95 := gr_ob g104 o_a95
        have o_a96 := gr_ob g104 o_a96
        have o_a99 := gr_ob g104 o_a99
        have o_v0 := gr_ob g104 o_v0
        have g0 := gr_tr (T := sI S v0 9 x58) g0 g104
        intro _
        refine ⟨a89, ea89, ?_⟩
        refine ⟨o_a89, ?_⟩
        obtain ⟨a107, ea107, o_a107, l_a107⟩ := shl 9 rfl hI o_a89
        refine ⟨a107, ea107, ?_⟩
        refine ⟨o_a107, ?_⟩
        refine ⟨(vin l_a107 (m := 5) (by decide) (q750 p_x1 bb_x1 c5 p_x58 c62 c88)), ?_⟩
        intro x108 ex108
        refine m_X9_fraction hI (fun x109 S110 hI2 g111 p_x109 => ?_)
        subst p_x109
        intro _
        exact hq _ _ hI g0 f0
      · exact hq _ _ hI g0 f0
set_option maxHeartbeats 4000000 in
set_option maxRecDepth 20000 in
theorem m_X9_fault {v0 : Nat} {Q : Int32 → HS → Prop} {S : HS} (hI : IV S) (o_v0 : ob S v0 9)     (hq : ∀ (r : Int32) (T : HS), IV T → Gr S T → (S = T) → Q r T) : P_X9_fault v0 Q S := by
  have g0 := gr_rf S
  refine u_X9_fault ?_
  refine u_X9_fault_0 ?_
  refine ⟨o_v0, ?_⟩
  intro x1 ex1
  have d_x1 := ex1
  exact hq _ _ hI g0 rfl
set_option maxHeartbeats 4000000 in
set_option maxRecDepth 20000 in
theorem m_X9_putBytes {v0 : Nat} {v1 : Int32} {Q : HS → Prop} {S : HS} (hI : IV S) (o_v0 : ob S v0 9)     (hq : ∀ (T : HS), IV T → Gr S T → FRI [(9, 1)] [] S T → Q T) : P_X9_putBytes v0 v1 Q S := by
  have g0 := gr_rf S
  have f0 := fri_rf [(9, 1)] [] S
  refine u_X9_putBytes ?_
  refine u_X9_putBytes_0 ?_
  refine i_X9_putBytes_3 (fun (y0 : Nat) (y1 : Int32) (y2 : Int32) (Z : HS) => (y2.toInt - (-2147483648 : Int32).toInt).toNat) (fun (y0 : Nat) (y1 : Int32) (y2 : Int32) (Z : HS) => (IV Z) ∧ (Gr S Z) ∧ (FRI [(9, 1)] [] S Z) ∧ (v0 = y0) ∧ (v1 = y1)) ?_ _ _ _ _ ⟨hI, (gr_rf _), (fri_rf _ _ _), rfl, rfl⟩
  intro w4 w6 w8 S1 X9 ⟨hI, gL2, fL3, q5, q7⟩ ih10
  subst q5
  subst q7
  have f0 := fri_tr (S := S) g0 f0 fL3 (by decide) (by decide)
  have o_v0 := gr_ob gL2 o_v0
  have g0 := gr_tr (T := S) g0 gL2
  refine u_X9_putBytes_3 ?_
  refine ⟨fun c11 => ?_, fun c11 => ?_⟩
  · exact hq _ hI g0 f0
  · refine ⟨o_v0, ?_⟩
    intro x12 ex12
    have r_x12 : (0 : Int32) ≤ x12 ∧ x12 ≤ (900 : Int32) := by rw [ex12]; exact nu 0 rfl hI o_v0
    have d_x12 := ex12
    refine ⟨fun c13 => ?_, fun c13 => ?_⟩
    · refine u_X9_putBytes_49 ?_
      intro x14 ex14
      exact ih10 _ _ _ _ ⟨hI, gL2, fL3, rfl, rfl⟩ (mu_down (q480 c11 r_x12 c13 ex14) (q481 c11 r_x12 c13 ex14))
    · intro x15 ex15
      have r_x15 : (0 : Int32) ≤ x15 ∧ x15 ≤ (900 : Int32) := by rw [ex15]; exact nu 0 rfl hI o_v0
      have q_x15 : x15 = x12 := ex15.trans d_x12.symm
      have d_x15 := ex15
      obtain ⟨a16, ea16, o_a16, l_a16⟩ := shl 0 rfl hI o_v0
      refine ⟨a16, ea16, ?_⟩
      refine ⟨o_a16, ?_⟩
      have n_a16 : nI (hN S1 a16) = 900 := by rw [show hN S1 a16 = 900 from l_a16]; decide
      refine ⟨fun c17 => ?_, fun c17 => ?_⟩
      · rw [n_a16] at c17
        refine u_X9_putBytes_49 ?_
        intro x18 ex18
        exact ih10 _ _ _ _ ⟨hI, gL2, fL3, rfl, rfl⟩ (mu_down (q482 c11 r_x12 c13 r_x15 q_x15 c17 ex18) (q483 c11 r_x12 c13 r_x15 q_x15 c17 ex18))
      · rw [n_a16] at c17
        refine ⟨a16, ea16, ?_⟩
        intro x20 ex20
        have r_x20 : (0 : Int32) ≤ x20 ∧ x20 ≤ (900 : Int32) := by rw [ex20]; exact nu 0 rfl hI o_v0
        have q_x20 : x20 = x15 := ex20.trans d_x15.symm
        have d_x20 := ex20
        refine ⟨o_a16, ?_⟩
        intro x21 ex21
        have i22 : vp_in x20 (hN _ a16) := (vin l_a16 (m := 900) (by decide) (q484 c11 r_x12 c13 r_x15 q_x15 c17 r_x20 q_x20 ex21))
        refine ⟨i22, ?_⟩
        have hI := iv_aI (i := x20.toNatClampNeg) (v := (vp_nar .byte x21)) hI o_v0 (by decide) ea16 o_a16 (by decide)
        have f0 : FRI _ _ _ (sI S1 a16 x20.toNatClampNeg (vp_nar .byte x21)) := fri_aI (S := S1) g0 f0 o_a16 (by decide)
        have fL3 : FRI _ _ _ (sI S1 a16 x20.toNatClampNeg (vp_nar .byte x21)) := fri_aI (S := S1) gL2 fL3 o_a16 (by decide)
        have d_x20 : x20 = fI (sI S1 a16 x20.toNatClampNeg (vp_nar .byte x21)) v0 1 := d_x20.trans (sI_ne (S := S1) o_a16 o_v0 (by decide) 1).symm
        intro x23 ex23
        have r_x23 : (0 : Int32) ≤ x23 ∧ x23 ≤ (900 : Int32) := by rw [ex23]; exact nu 0 rfl hI o_v0
        have q_x23 : x23 = x20 := ex23.trans d_x20.symm
        have d_x23 := ex23
        intro x24 ex24
        have hI := iv_sI (j := 1) (v := x24) hI o_v0 (by decide) (nu_one (lo := (0 : Int32)) (hi := (900 : Int32)) (by decide) (q485 c11 r_x12 c13 r_x15 q_x15 c17 r_x20 q_x20 ex21 r_x23 q_x23 ex24))
        have f0 : FRI _ _ _ (sI (sI S1 a16 x20.toNatClampNeg (vp_nar .byte x21)) v0 1 x24) := fri_sI (S := sI S1 a16 x20.toNatClampNeg (vp_nar .byte x21)) g0 f0 o_v0 (by decide)
        have fL3 : FRI _ _ _ (sI (sI S1 a16 x20.toNatClampNeg (vp_nar .byte x21)) v0 1 x24) := fri_sI (S := sI S1 a16 x20.toNatClampNeg (vp_nar .byte x21)) gL2 fL3 o_v0 (by decide)
        have d_x24 : x24 = fI (sI (sI S1 a16 x20.toNatClampNeg (vp_nar .byte x21)) v0 1 x24) v0 1 := (u2_self _ _ _ _).symm
        refine u_X9_putBytes_49 ?_
        intro x25 ex25
        exact ih10 _ _ _ _ ⟨hI, gL2, fL3, rfl, rfl⟩ (mu_down (q486 c11 r_x12 c13 r_x15 q_x15 c17 r_x20 q_x20 ex21 r_x23 q_x23 ex24 ex25) (q487 c11 r_x12 c13 r_x15 q_x15 c17 r_x20 q_x20 ex21 r_x23 q_x23 ex24 ex25))
set_option maxHeartbeats 4000000 in
set_option maxRecDepth 20000 in
theorem m_X9_feed {v0 : Nat} {v1 : Int32} {v2 : Int32} {v3 : Int32} {v4 : Int32} {v5 : Int32} {Q : Int32 → HS → Prop} {S : HS} (hI : IV S) (o_v0 : ob S v0 9)     (hq : ∀ (r : Int32) (T : HS), IV T → Gr S T → FRI [(9, 1)] [] S T → Q r T) : P_X9_feed v0 v1 v2 v3 v4 v5 Q S := by
  have g0 := gr_rf S
  have f0 := fri_rf [(9, 1)] [] S
  refine u_X9_feed ?_
  refine u_X9_feed_0 ?_
  refine ⟨o_v0, ?_⟩
  intro x1 ex1
  have r_x1 : (0 : Int32) ≤ x1 ∧ x1 ≤ (900 : Int32) := by rw [ex1]; exact nu 0 rfl hI o_v0
  have d_x1 := ex1
  refine ⟨fun c2 => ?_, fun c2 => ?_⟩
  · refine m_X9_putBytes hI o_v0 (fun S4 hI g5 fc6 => ?_)
    have f0 := fri_tr (S := S) g0 f0 fc6 (by decide) (by decide)
    have o_v0 := gr_ob g5 o_v0
    have g0 := gr_tr (T := S) g0 g5
    intro _
    refine m_X9_putBytes hI o_v0 (fun S8 hI g9 fc10 => ?_)
    have f0 := fri_tr (S := S4) g0 f0 fc10 (by decide) (by decide)
    have o_v0 := gr_ob g9 o_v0
    have g0 := gr_tr (T := S4) g0 g9
    intro _
    refine m_X9_putBytes hI o_v0 (fun S12 hI g13 fc14 => ?_)
    have f0 := fri_tr (S := S8) g0 f0 fc14 (by decide) (by decide)
    have o_v0 := gr_ob g13 o_v0
    have g0 := gr_tr (T := S8) g0 g13
    intro _
    refine m_X9_putBytes hI o_v0 (fun S16 hI g17 fc18 => ?_)
    have f0 := fri_tr (S := S12) g0 f0 fc18 (by decide) (by decide)
    have o_v0 := gr_ob g17 o_v0
    have g0 := gr_tr (T := S12) g0 g17
    intro _
    refine m_X9_putBytes hI o_v0 (fun S20 hI g21 fc22 => ?_)
    have f0 := fri_tr (S := S16) g0 f0 fc22 (by decide) (by decide)
    have o_v0 := gr_ob g21 o_v0
    have g0 := gr_tr (T := S16) g0 g21
    intro _
    intro x23 ex23
    have r_x23 : (0 : Int32) ≤ x23 ∧ x23 ≤ (900 : Int32) := by rw [ex23]; exact nu 0 rfl hI o_v0
    have d_x23 := ex23
    exact hq _ _ hI g0 f0
  · exact hq _ _ hI g0 f0
set_option maxHeartbeats 4000000 in
set_option maxRecDepth 20000 in
theorem m_X9_leeTrouble {v0 : Nat} {v1 : Int32} {v2 : Int32} {v3 : Int32} {v4 : Int32} {v5 : Int32} {v6 : Int32} {Q : Int32 → HS → Prop} {S : HS} (hI : IV S) (o_v0 : ob S v0 9)     (hq : ∀ (r : Int32) (T : HS), IV T → Gr S T → (S = T) ∧ (r = 0 → 0 ≤ v1 ∧ v1 < 4 ∧ 0 ≤ v2 ∧ v2 < 4 ∧ 0 ≤ v3 ∧ v3 < 12 ∧ 0 ≤ v5 ∧ v5 < 6) → Q r T) : P_X9_leeTrouble v0 v1 v2 v3 v4 v5 v6 Q S := by
  have g0 := gr_rf S
  refine u_X9_leeTrouble ?_
  refine u_X9_leeTrouble_0 ?_
  refine ⟨fun c1 => ?_, fun c1 => ?_⟩
  · exact hq _ _ hI g0 ⟨rfl, (q701 c1)⟩
  · refine ⟨o_v0, ?_⟩
    obtain ⟨a2, ea2, o_a2, -⟩ := sh 1 rfl hI o_v0
    refine ⟨a2, ea2, ?_⟩
    refine ⟨o_a2, ?_⟩
    refine m_X8_hasWalker hI o_a2 (fun x3 S4 hI2 g5 b_x3 p_x3 => ?_)
    obtain ⟨z_S4, p_x3⟩ := p_x3
    subst z_S4
    intro _ _
    have bb_x3 : x3 = 0 ∨ x3 = 1 := b_x3
    refine ⟨fun c7 => ?_, fun c7 => ?_⟩
    · exact hq _ _ hI g0 ⟨rfl, (q702 c1 p_x3 bb_x3 c7)⟩
    · refine ⟨a2, ea2, ?_⟩
      refine ⟨o_a2, ?_⟩
      refine m_X8_hasWalker hI o_a2 (fun x9 S10 hI2 g11 b_x9 p_x9 => ?_)
      obtain ⟨z_S10, p_x9⟩ := p_x9
      subst z_S10
      intro _ _
      have bb_x9 : x9 = 0 ∨ x9 = 1 := b_x9
      refine ⟨fun c13 => ?_, fun c13 => ?_⟩
      · refine m_X9_legTrouble hI o_v0 (fun x14 S15 hI2 g16 p_x14 => ?_)
        obtain ⟨z_S15, p_x14⟩ := p_x14
        subst z_S15
        intro _
        refine ⟨fun c18 => ?_, fun c18 => ?_⟩
        · refine ⟨a2, ea2, ?_⟩
          refine ⟨o_a2, ?_⟩
          obtain ⟨a20, ea20, o_a20, l_a20⟩ := shl 18 rfl hI o_a2
          refine ⟨a20, ea20, ?_⟩
          refine ⟨o_a20, ?_⟩
          have i22 : vp_in v2 (hN _ a20) := (vin l_a20 (m := 4) (by decide) (q703 c1 p_x3 bb_x3 c7 p_x9 bb_x9 c13 p_x14 c18))
          obtain ⟨a21, ea21, o_a21⟩ := ae hI o_a20 (by decide) (by decide) i22
          replace o_a21 : ob _ a21 6 := o_a21
          refine ⟨i22, a21, ea21, ?_⟩
          refine ⟨o_a21, ?_⟩
          refine m_X6_canGo hI o_a21 (fun x23 S24 hI2 g25 b_x23 p_x23 => ?_)
          subst p_x23
          intro _ _
          have bb_x23 : x23 = 0 ∨ x23 = 1 := b_x23
          refine ⟨fun c27 => ?_, fun c27 => ?_⟩
          · exact hq _ _ hI g0 ⟨rfl, (q704 c1 p_x3 bb_x3 c7 p_x9 bb_x9 c13 p_x14 c18 bb_x23 c27)⟩
          · exact hq _ _ hI g0 ⟨rfl, (q705 c1 p_x3 bb_x3 c7 p_x9 bb_x9 c13 p_x14 c18 bb_x23 c27)⟩
        · exact hq _ _ hI g0 ⟨rfl, (q706 c1 p_x3 bb_x3 c7 p_x9 bb_x9 c13 p_x14 c18)⟩
      · exact hq _ _ hI g0 ⟨rfl, (q707 c1 p_x3 bb_x3 c7 p_x9 bb_x9 c13)⟩
