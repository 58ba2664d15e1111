set_option maxHeartbeats 4000000 in
set_option maxRecDepth 20000 in
theorem m_X9_even {v0 : Nat} {v1 : Int32} {v2 : Int32} {v3 : Int32} {v4 : Int32} {Q : Int32 → HS → Prop} {S : HS} (hI : IV S) (o_v0 : ob S v0 9)     (hq : ∀ (r : Int32) (T : HS), IV T → Gr S T → FRI [(9, 9)] [] S T → Q r T) : P_X9_even v0 v1 v2 v3 v4 Q S := by
  have g0 := gr_rf S
  have f0 := fri_rf [(9, 9)] [] S
  refine u_X9_even ?_
  refine u_X9_even_0 ?_
  refine ⟨o_v0, ?_⟩
  refine m_X9_tripTrouble hI o_v0 (fun x1 S2 hI2 g3 p_x1 => ?_)
  obtain ⟨z_S2, p_x1⟩ := p_x1
  subst z_S2
  intro _
  refine u_X9_refusedBy ?_
  refine u_X9_refusedBy_0 ?_
  refine ⟨o_v0, ?_⟩
  intro S5 eS5
  have hI : IV S5 := by rw [eS5]; exact iv_sI hI o_v0 (by decide) (nu_free (by decide))
  have f0 := fr_I eS5 g0 f0 o_v0 (by decide)
  have d_x1 := rd_Is eS5 (rfl : x1 = x1)
  have g0 := gr_I eS5 g0
  have o_v0 := ob_I eS5 o_v0
  refine ⟨fun c6 => ?_, fun c6 => ?_⟩
  · intro _ _
    refine ⟨fun c8 => ?_, fun c8 => ?_⟩
    · obtain ⟨a9, ea9, o_a9, -⟩ := sh 1 rfl hI o_v0
      refine ⟨a9, ea9, ?_⟩
      refine ⟨o_a9, ?_⟩
      obtain ⟨a10, ea10, o_a10, l_a10⟩ := shl 18 rfl hI o_a9
      refine ⟨a10, ea10, ?_⟩
      refine ⟨o_a10, ?_⟩
      have i12 : vp_in v1 (hN _ a10) := (vin l_a10 (m := 4) (by decide) (q0 p_x1 c6))
      obtain ⟨a11, ea11, o_a11⟩ := ae hI o_a10 (by decide) (by decide) i12
      replace o_a11 : ob _ a11 6 := o_a11
      refine ⟨i12, a11, ea11, ?_⟩
      obtain ⟨a13, ea13, o_a13, -⟩ := sh 3 rfl hI o_v0
      refine ⟨a13, ea13, ?_⟩
      refine ⟨a9, ea9, ?_⟩
      refine ⟨o_a9, ?_⟩
      obtain ⟨a15, ea15, o_a15, l_a15⟩ := shl 17 rfl hI o_a9
      refine ⟨a15, ea15, ?_⟩
      refine ⟨o_a15, ?_⟩
      have i17 : vp_in v2 (hN _ a15) := (vin l_a15 (m := 12) (by decide) (q1 p_x1 c6))
      obtain ⟨a16, ea16, o_a16⟩ := ae hI o_a15 (by decide) (by decide) i17
      replace o_a16 : ob _ a16 5 := o_a16
      refine ⟨i17, a16, ea16, ?_⟩
      refine ⟨a9, ea9, ?_⟩
      refine ⟨o_a9, ?_⟩
      obtain ⟨a19, ea19, o_a19, l_a19⟩ := shl 15 rfl hI o_a9
      refine ⟨a19, ea19, ?_⟩
      refine ⟨o_a19, ?_⟩
      have i21 : vp_in v4 (hN _ a19) := (vin l_a19 (m := 6) (by decide) (q2 p_x1 c6))
      obtain ⟨a20, ea20, o_a20⟩ := ae hI o_a19 (by decide) (by decide) i21
      replace o_a20 : ob _ a20 3 := o_a20
      refine ⟨i21, a20, ea20, ?_⟩
      refine ⟨o_a13, ?_⟩
      refine m_X1_worstSpeed hI o_a13 o_a11 o_a16 o_a20 (fun x22 S23 hJ g24 fc25 => ?_)
      have hI := hJ
      have l_a10 := (gr_len g24 o_a10).trans l_a10
      have l_a15 := (gr_len g24 o_a15).trans l_a15
      have l_a19 := (gr_len g24 o_a19).trans l_a19
      have d_x1 := d_x1.trans (fri_at fc25 (by decide) (by decide) o_v0).symm
      have ea9 := (frr_at fc25 (by decide) (by decide) o_v0).trans ea9
      have ea10 := (frr_at fc25 (by decide) (by decide) o_a9).trans ea10
      have ea13 := (frr_at fc25 (by decide) (by decide) o_v0).trans ea13
      have ea15 := (frr_at fc25 (by decide) (by decide) o_a9).trans ea15
      have ea19 := (frr_at fc25 (by decide) (by decide) o_a9).trans ea19
      have f0 := fri_tr (S := S5) g0 f0 fc25 (by decide) (by decide)
      have o_a10 := gr_ob g24 o_a10
      have o_a11 := gr_ob g24 o_a11
      have o_a13 := gr_ob g24 o_a13
      have o_a15 := gr_ob g24 o_a15
      have o_a16 := gr_ob g24 o_a16
      have o_a19 := gr_ob g24 o_a19
      have o_a20 := gr_ob g24 o_a20
      have o_a9 := gr_ob g24 o_a9
      have o_v0 := gr_ob g24 o_v0
      have g0 := gr_tr (T := S5) g0 g24
      intro _
      refine ⟨a13, ea13, ?_⟩
      refine ⟨a9, ea9, ?_⟩
      refine ⟨o_a9, ?_⟩
      refine ⟨a15, ea15, ?_⟩
      refine ⟨o_a15, ?_⟩
      have i30 : vp_in v2 (hN _ a15) := (vin l_a15 (m := 12) (by decide) (q1 p_x1 c6))
      obtain ⟨a29, ea29, o_a29⟩ := ae hI o_a15 (by decide) (by decide) i30
      replace o_a29 : ob _ a29 5 := o_a29
      refine ⟨i30, a29, ea29, ?_⟩
      refine ⟨a9, ea9, ?_⟩
      refine ⟨o_a9, ?_⟩
      refine ⟨a19, ea19, ?_⟩
      refine ⟨o_a19, ?_⟩
      have i34 : vp_in v4 (hN _ a19) := (vin l_a19 (m := 6) (by decide) (q2 p_x1 c6))
      obtain ⟨a33, ea33, o_a33⟩ := ae hI o_a19 (by decide) (by decide) i34
      replace o_a33 : ob _ a33 3 := o_a33
      refine ⟨i34, a33, ea33, ?_⟩
      refine ⟨o_a13, ?_⟩
      refine m_X1_leastWet hI o_a13 o_a11 o_a29 o_a33 (fun x35 S36 hJ g37 fc38 => ?_)
      have hI := hJ
      have l_a10 := (gr_len g37 o_a10).trans l_a10
      have l_a15 := (gr_len g37 o_a15).trans l_a15
      have l_a19 := (gr_len g37 o_a19).trans l_a19
      have d_x1 := d_x1.trans (fri_at fc38 (by decide) (by decide) o_v0).symm
      have ea9 := (frr_at fc38 (by decide) (by decide) o_v0).trans ea9
      have ea10 := (frr_at fc38 (by decide) (by decide) o_a9).trans ea10
      have ea13 := (frr_at fc38 (by decide) (by decide) o_v0).trans ea13
      have ea15 := (frr_at fc38 (by decide) (by decide) o_a9).trans ea15
      have ea19 := (frr_at fc38 (by decide) (by decide) o_a9).trans ea19
      have f0 := fri_tr (S := S23) g0 f0 fc38 (by decide) (by decide)
      have o_a10 := gr_ob g37 o_a10
      have o_a11 := gr_ob g37 o_a11
      have o_a13 := gr_ob g37 o_a13
      have o_a15 := gr_ob g37 o_a15
      have o_a16 := gr_ob g37 o_a16
      have o_a19 := gr_ob g37 o_a19
      have o_a20 := gr_ob g37 o_a20
      have o_a29 := gr_ob g37 o_a29
      have o_a33 := gr_ob g37 o_a33
      have o_a9 := gr_ob g37 o_a9
      have o_v0 := gr_ob g37 o_v0
      have g0 := gr_tr (T := S23) g0 g37
      intro _
      refine ⟨a13, ea13, ?_⟩
      refine ⟨a9, ea9, ?_⟩
      refine ⟨o_a9, ?_⟩
      refine ⟨a15, ea15, ?_⟩
      refine ⟨o_a15, ?_⟩
      have i43 : vp_in v2 (hN _ a15) := (vin l_a15 (m := 12) (by decide) (q1 p_x1 c6))
      obtain ⟨a42, ea42, o_a42⟩ := ae hI o_a15 (by decide) (by decide) i43
      replace o_a42 : ob _ a42 5 := o_a42
      refine ⟨i43, a42, ea42, ?_⟩
      refine ⟨a9, ea9, ?_⟩
      refine ⟨o_a9, ?_⟩
      refine ⟨a19, ea19, ?_⟩
      refine ⟨o_a19, ?_⟩
      have i47 : vp_in v4 (hN _ a19) := (vin l_a19 (m := 6) (by decide) (q2 p_x1 c6))
      obtain ⟨a46, ea46, o_a46⟩ := ae hI o_a19 (by decide) (by decide) i47
      replace o_a46 : ob _ a46 3 := o_a46
      refine ⟨i47, a46, ea46, ?_⟩
      refine ⟨o_a13, ?_⟩
      refine m_X1_wetOf hI o_a13 o_a11 o_a42 o_a46 (fun x48 S49 hJ g50 fc51 => ?_)
      have hI := hJ
      have l_a10 := (gr_len g50 o_a10).trans l_a10
      have l_a15 := (gr_len g50 o_a15).trans l_a15
      have l_a19 := (gr_len g50 o_a19).trans l_a19
      have d_x1 := d_x1.trans (fri_at fc51 (by decide) (by decide) o_v0).symm
      have ea9 := (frr_at fc51 (by decide) (by decide) o_v0).trans ea9
      have ea10 := (frr_at fc51 (by decide) (by decide) o_a9).trans ea10
      have ea13 := (frr_at fc51 (by decide) (by decide) o_v0).trans ea13
      have ea15 := (frr_at fc51 (by decide) (by decide) o_a9).trans ea15
      have ea19 := (frr_at fc51 (by decide) (by decide) o_a9).trans ea19
      have f0 := fri_tr (S := S36) g0 f0 fc51 (by decide) (by decide)
      have o_a10 := gr_ob g50 o_a10
      have o_a11 := gr_ob g50 o_a11
      have o_a13 := gr_ob g50 o_a13
      have o_a15 := gr_ob g50 o_a15
      have o_a16 := gr_ob g50 o_a16
      have o_a19 := gr_ob g50 o_a19
      have o_a20 := gr_ob g50 o_a20
      have o_a29 := gr_ob g50 o_a29
      have o_a33 := gr_ob g50 o_a33
      have o_a42 := gr_ob g50 o_a42
      have o_a46 := gr_ob g50 o_a46
      have o_a9 := gr_ob g50 o_a9
      have o_v0 := gr_ob g50 o_v0
      have g0 := gr_tr (T := S36) g0 g50
      intro _
      refine ⟨fun c52 => ?_, fun c52 => ?_⟩
      · exact hq _ _ hI g0 f0
      · exact hq _ _ hI g0 f0
    · exact hq _ _ hI g0 f0
  · intro _ _
    refine ⟨fun c54 => ?_, fun c54 => ?_⟩
    · obtain ⟨a55, ea55, o_a55, -⟩ := sh 1 rfl hI o_v0
      refine ⟨a55, ea55, ?_⟩
      refine ⟨o_a55, ?_⟩
      obtain ⟨a56, ea56, o_a56, l_a56⟩ := shl 18 rfl hI o_a55
      refine ⟨a56, ea56, ?_⟩
      refine ⟨o_a56, ?_⟩
      have i58 : vp_in v1 (hN _ a56) := (vin l_a56 (m := 4) (by decide) (q3 p_x1 c6 c54))
      obtain ⟨a57, ea57, o_a57⟩ := ae hI o_a56 (by decide) (by decide) i58
      replace o_a57 : ob _ a57 6 := o_a57
      refine ⟨i58, a57, ea57, ?_⟩
      obtain ⟨a59, ea59, o_a59, -⟩ := sh 3 rfl hI o_v0
      refine ⟨a59, ea59, ?_⟩
      refine ⟨a55, ea55, ?_⟩
      refine ⟨o_a55, ?_⟩
      obtain ⟨a61, ea61, o_a61, l_a61⟩ := shl 17 rfl hI o_a55
      refine ⟨a61, ea61, ?_⟩
      refine ⟨o_a61, ?_⟩
      have i63 : vp_in v2 (hN _ a61) := (vin l_a61 (m := 12) (by decide) (q4 p_x1 c6 c54))
      obtain ⟨a62, ea62, o_a62⟩ := ae hI o_a61 (by decide) (by decide) i63
      replace o_a62 : ob _ a62 5 := o_a62
      refine ⟨i63, a62, ea62, ?_⟩
      refine ⟨a55, ea55, ?_⟩
      refine ⟨o_a55, ?_⟩
      obtain ⟨a65, ea65, o_a65, l_a65⟩ := shl 15 rfl hI o_a55
      refine ⟨a65, ea65, ?_⟩
      refine ⟨o_a65, ?_⟩
      have i67 : vp_in v4 (hN _ a65) := (vin l_a65 (m := 6) (by decide) (q5 p_x1 c6 c54))
      obtain ⟨a66, ea66, o_a66⟩ := ae hI o_a65 (by decide) (by decide) i67
      replace o_a66 : ob _ a66 3 := o_a66
      refine ⟨i67, a66, ea66, ?_⟩
      refine ⟨o_a59, ?_⟩
      refine m_X1_worstSpeed hI o_a59 o_a57 o_a62 o_a66 (fun x68 S69 hJ g70 fc71 => ?_)
      have hI := hJ
      have l_a56 := (gr_len g70 o_a56).trans l_a56
      have l_a61 := (gr_len g70 o_a61).trans l_a61
      have l_a65 := (gr_len g70 o_a65).trans l_a65
      have d_x1 := d_x1.trans (fri_at fc71 (by decide) (by decide) o_v0).symm
      have ea55 := (frr_at fc71 (by decide) (by decide) o_v0).trans ea55
      have ea56 := (frr_at fc71 (by decide) (by decide) o_a55).trans ea56
      have ea59 := (frr_at fc71 (by decide) (by decide) o_v0).trans ea59
      have ea61 := (frr_at fc71 (by decide) (by decide) o_a55).trans ea61
      have ea65 := (frr_at fc71 (by decide) (by decide) o_a55).trans ea65
      have f0 := fri_tr (S := S5) g0 f0 fc71 (by decide) (by decide)
      have o_a55 := gr_ob g70 o_a55
      have o_a56 := gr_ob g70 o_a56
      have o_a57 := gr_ob g70 o_a57
      have o_a59 := gr_ob g70 o_a59
      have o_a61 := gr_ob g70 o_a61
      have o_a62 := gr_ob g70 o_a62
      have o_a65 := gr_ob g70 o_a65
      have o_a66 := gr_ob g70 o_a66
      have o_v0 := gr_ob g70 o_v0
      have g0 := gr_tr (T := S5) g0 g70
      intro _
      refine ⟨a59, ea59, ?_⟩
      refine ⟨a55, ea55, ?_⟩
      refine ⟨o_a55, ?_⟩
      refine ⟨a61, ea61, ?_⟩
      refine ⟨o_a61, ?_⟩
      have i76 : vp_in v2 (hN _ a61) := (vin l_a61 (m := 12) (by decide) (q4 p_x1 c6 c54))
      obtain ⟨a75, ea75, o_a75⟩ := ae hI o_a61 (by decide) (by decide) i76
      replace o_a75 : ob _ a75 5 := o_a75
      refine ⟨i76, a75, ea75, ?_⟩
      refine ⟨a55, ea55, ?_⟩
      refine ⟨o_a55, ?_⟩
      refine ⟨a65, ea65, ?_⟩
      refine ⟨o_a65, ?_⟩
      have i80 : vp_in v4 (hN _ a65) := (vin l_a65 (m := 6) (by decide) (q5 p_x1 c6 c54))
      obtain ⟨a79, ea79, o_a79⟩ := ae hI o_a65 (by decide) (by decide) i80
      replace o_a79 : ob _ a79 3 := o_a79
      refine ⟨i80, a79, ea79, ?_⟩
      refine ⟨o_a59, ?_⟩
      refine m_X1_leastWet hI o_a59 o_a57 o_a75 o_a79 (fun x81 S82 hJ g83 fc84 => ?_)
      have hI := hJ
      have l_a56 := (gr_len g83 o_a56).trans l_a56
      have l_a61 := (gr_len g83 o_a61).trans l_a61
      have l_a65 := (gr_len g83 o_a65).trans l_a65
      have d_x1 := d_x1.trans (fri_at fc84 (by decide) (by decide) o_v0).symm
      have ea55 := (frr_at fc84 (by decide) (by decide) o_v0).trans ea55
      have ea56 := (frr_at fc84 (by decide) (by decide) o_a55).trans ea56
      have ea59 := (frr_at fc84 (by decide) (by decide) o_v0).trans ea59
      have ea61 := (frr_at fc84 (by decide) (by decide) o_a55).trans ea61
      have ea65 := (frr_at fc84 (by decide) (by decide) o_a55).trans ea65
      have f0 := fri_tr (S := S69) g0 f0 fc84 (by decide) (by decide)
      have o_a55 := gr_ob g83 o_a55
      have o_a56 := gr_ob g83 o_a56
      have o_a57 := gr_ob g83 o_a57
      have o_a59 := gr_ob g83 o_a59
      have o_a61 := gr_ob g83 o_a61
      have o_a62 := gr_ob g83 o_a62
      have o_a65 := gr_ob g83 o_a65
      have o_a66 := gr_ob g83 o_a66
      have o_a75 := gr_ob g83 o_a75
      have o_a79 := gr_ob g83 o_a79
      have o_v0 := gr_ob g83 o_v0
      have g0 := gr_tr (T := S69) g0 g83
      intro _
      refine ⟨a59, ea59, ?_⟩
      refine ⟨a55, ea55, ?_⟩
      refine ⟨o_a55, ?_⟩
      refine ⟨a61, ea61, ?_⟩
      refine ⟨o_a61, ?_⟩
      have i89 : vp_in v2 (hN _ a61) := (vin l_a61 (m := 12) (by decide) (q4 p_x1 c6 c54))
      obtain ⟨a88, ea88, o_a88⟩ := ae hI o_a61 (by decide) (by decide) i89
      replace o_a88 : ob _ a88 5 := o_a88
      refine ⟨i89, a88, ea88, ?_⟩
      refine ⟨a55, ea55, ?_⟩
      refine ⟨o_a55, ?_⟩
      refine ⟨a65, ea65, ?_⟩
      refine ⟨o_a65, ?_⟩
      have i93 : vp_in v4 (hN _ a65) := (vin l_a65 (m := 6) (by decide) (q5 p_x1 c6 c54))
      obtain ⟨a92, ea92, o_a92⟩ := ae hI o_a65 (by decide) (by decide) i93
      replace o_a92 : ob _ a92 3 := o_a92
      refine ⟨i93, a92, ea92, ?_⟩
      refine ⟨o_a59, ?_⟩
      refine m_X1_wetOf hI o_a59 o_a57 o_a88 o_a92 (fun x94 S95 hJ g96 fc97 => ?_)
      have hI := hJ
      have l_a56 := (gr_len g96 o_a56).trans l_a56
      have l_a61 := (gr_len g96 o_a61).trans l_a61
      have l_a65 := (gr_len g96 o_a65).trans l_a65
      have d_x1 := d_x1.trans (fri_at fc97 (by decide) (by decide) o_v0).symm
      have ea55 := (frr_at fc97 (by decide) (by decide) o_v0).trans ea55
      have ea56 := (frr_at fc97 (by decide) (by decide) o_a55).trans ea56
      have ea59 := (frr_at fc97 (by decide) (by decide) o_v0).trans ea59
      have ea61 := (frr_at fc97 (by decide) (by decide) o_a55).trans ea61
      have ea65 := (frr_at fc97 (by decide) (by decide) o_a55).trans ea65
      have f0 := fri_tr (S := S82) g0 f0 fc97 (by decide) (by decide)
      have o_a55 := gr_ob g96 o_a55
      have o_a56 := gr_ob g96 o_a56
      have o_a57 := gr_ob g96 o_a57
      have o_a59 := gr_ob g96 o_a59
      have o_a61 := gr_ob g96 o_a61
      have o_a62 := gr_ob g96 o_a62
      have o_a65 := gr_ob g96 o_a65
      have o_a66 := gr_ob g96 o_a66
      have o_a75 := gr_ob g96 o_a75
      have o_a79 := gr_ob g96 o_a79
      have o_a88 := gr_ob g96 o_a88
      have o_a92 := gr_ob g96 o_a92
      have o_v0 := gr_ob g96 o_v0
      have g0 := gr_tr (T := S82) g0 g96
      intro _
      refine ⟨fun c98 => ?_, fun c98 => ?_⟩
      · exact hq _ _ hI g0 f0
      · exact hq _ _ hI g0 f0
    · exact hq _ _ hI g0 f0
set_option maxHeartbeats 4000000 in
set_option maxRecDepth 20000 in
theorem m_X9_fraction {v0 : Int64} {v2 : Int64} {v4 : Int32} {Q : Int64 → HS → Prop} {S : HS} (hI : IV S)      (hq : ∀ (r : Int64) (T : HS), IV T → Gr S T → (S = T) → Q r T) : P_X9_fraction v0 v2 v4 Q S := by
  have g0 := gr_rf S
  refine u_X9_fraction ?_
  refine u_X9_fraction_0 ?_
  refine m_X9_commonDivisor hI (fun x1 S2 hI2 g3 p_x1 => ?_)
  subst p_x1
  intro _
  refine ⟨fun c5 => ?_, fun c5 => ?_⟩
  · refine ⟨fun c6 => ?_, fun c6 => ?_⟩
    · refine ⟨(lc_gt c5), ?_⟩
      intro x7 ex7
      exact hq _ _ hI g0 rfl
    · refine ⟨(lc_gt c5), ?_⟩
      intro x8 ex8
      exact hq _ _ hI g0 rfl
  · refine ⟨fun c9 => ?_, fun c9 => ?_⟩
    · exact hq _ _ hI g0 rfl
    · exact hq _ _ hI g0 rfl
set_option maxHeartbeats 4000000 in
set_option maxRecDepth 20000 in
theorem m_X9_isFace {v0 : Int32} {Q : Int32 → HS → Prop} {S : HS} (hI : IV S)      (hq : ∀ (r : Int32) (T : HS), IV T → Gr S T → bl r → (S = T) ∧ (r = 1 → 0 ≤ v0 ∧ v0 < 5) → Q r T) : P_X9_isFace v0 Q S := by
  have g0 := gr_rf S
  refine u_X9_isFace ?_
  refine u_X9_isFace_0 ?_
  refine ⟨fun c1 => ?_, fun c1 => ?_⟩
  · exact hq _ _ hI g0 (Or.inl rfl) ⟨rfl, (q1360 c1)⟩
  · refine ⟨fun c2 => ?_, fun c2 => ?_⟩
    · exact hq _ _ hI g0 (Or.inl rfl) ⟨rfl, (q1361 c1 c2)⟩
    · exact hq _ _ hI g0 (Or.inr rfl) ⟨rfl, (q1362 c1 c2)⟩
set_option maxHeartbeats 4000000 in
set_option maxRecDepth 20000 in
theorem m_X9_legTrouble {v0 : Nat} {v1 : Int32} {v2 : Int32} {v3 : Int32} {v4 : Int32} {v5 : Int32} {Q : Int32 → HS → Prop} {S : HS} (hI : IV S) (o_v0 : ob S v0 9)     (hq : ∀ (r : Int32) (T : HS), IV T → Gr S T → (S = T) ∧ (r = 0 → 0 ≤ v1 ∧ v1 < 4 ∧ 0 ≤ v2 ∧ v2 < 12 ∧ 0 ≤ v4 ∧ v4 < 6) → Q r T) : P_X9_legTrouble v0 v1 v2 v3 v4 v5 Q S := by
  have g0 := gr_rf S
  refine u_X9_legTrouble ?_
  refine u_X9_legTrouble_0 ?_
  refine ⟨o_v0, ?_⟩
  refine m_X9_tripTrouble hI o_v0 (fun x1 S2 hI2 g3 p_x1 => ?_)
  obtain ⟨z_S2, p_x1⟩ := p_x1
  subst z_S2
  intro _
  refine ⟨fun c5 => ?_, fun c5 => ?_⟩
  · obtain ⟨a6, ea6, o_a6, -⟩ := sh 1 rfl hI o_v0
    refine ⟨a6, ea6, ?_⟩
    refine ⟨o_a6, ?_⟩
    obtain ⟨a7, ea7, o_a7, l_a7⟩ := shl 18 rfl hI o_a6
    refine ⟨a7, ea7, ?_⟩
    refine ⟨o_a7, ?_⟩
    have i9 : vp_in v1 (hN _ a7) := (vin l_a7 (m := 4) (by decide) (q0 p_x1 c5))
    obtain ⟨a8, ea8, o_a8⟩ := ae hI o_a7 (by decide) (by decide) i9
    replace o_a8 : ob _ a8 6 := o_a8
    refine ⟨i9, a8, ea8, ?_⟩
    refine ⟨o_a8, ?_⟩
    refine m_X6_canGo hI o_a8 (fun x10 S11 hI2 g12 b_x10 p_x10 => ?_)
    subst p_x10
    intro _ _
    have bb_x10 : x10 = 0 ∨ x10 = 1 := b_x10
    refine ⟨fun c14 => ?_, fun c14 => ?_⟩
    · exact hq _ _ hI g0 ⟨rfl, (q735 p_x1 c5 bb_x10 c14)⟩
    · exact hq _ _ hI g0 ⟨rfl, (q736 p_x1 c5 bb_x10 c14)⟩
  · exact hq _ _ hI g0 ⟨rfl, (q737 p_x1 c5)⟩
set_option maxHeartbeats 4000000 in
set_option maxRecDepth 20000 in
theorem m_X9_face {v0 : Nat} {v1 : Int32} {v2 : Int32} {v3 : Int32} {v4 : Int32} {v5 : Int32} {v6 : Int32} {v7 : Int32} {Q : Int64 → HS → Prop} {S : HS} (hI : IV S) (o_v0 : ob S v0 9)     (hq : ∀ (r : Int64) (T : HS), IV T → Gr S T → FRI [(9, 9)] [] S T → Q r T) : P_X9_face v0 v1 v2 v3 v4 v5 v6 v7 Q S := by
  have g0 := gr_rf S
  have f0 := fri_rf [(9, 9)] [] S
  refine u_X9_face ?_
  refine u_X9_face_0 ?_
  refine m_X9_isFace hI (fun x1 S2 hI2 g3 b_x1 p_x1 => ?_)
  obtain ⟨z_S2, p_x1⟩ := p_x1
  subst z_S2
  intro _ _
  have bb_x1 : x1 = 0 ∨ x1 = 1 := b_x1
  refine ⟨fun c5 => ?_, fun c5 => ?_⟩
  · refine u_X9_face_23 ?_
    refine ⟨o_v0, ?_⟩
    refine u_X9_refusedBy ?_
    refine u_X9_refusedBy_0 ?_
    refine ⟨o_v0, ?_⟩
    intro S6 eS6
    have hI : IV S6 := by rw [eS6]; exact iv_sI hI o_v0 (by decide) (nu_free (by decide))
    have f0 := fr_I eS6 g0 f0 o_v0 (by decide)
    obtain ⟨y7, hy7⟩ : ∃ z : Int32, z = (1 : Int32) := ⟨_, rfl⟩
    have d_y7 := rd_Is eS6 hy7
    have g0 := gr_I eS6 g0
    have o_v0 := ob_I eS6 o_v0
    refine ⟨fun c8 => ?_, fun c8 => ?_⟩
    · intro _ _
      refine ⟨fun c10 => ?_, fun c10 => ?_⟩
      · obtain ⟨a11, ea11, o_a11, -⟩ := sh 3 rfl hI o_v0
        refine ⟨a11, ea11, ?_⟩
        obtain ⟨a12, ea12, o_a12, -⟩ := sh 1 rfl hI o_v0
        refine ⟨a12, ea12, ?_⟩
        refine ⟨o_a12, ?_⟩
        obtain ⟨a13, ea13, o_a13, l_a13⟩ := shl 18 rfl hI o_a12
        refine ⟨a13, ea13, ?_⟩
        refine ⟨o_a13, ?_⟩
        have i15 : vp_in v1 (hN _ a13) := (vin l_a13 (m := 4) (by decide) (q1383 p_x1 bb_x1 c5 c8))
        obtain ⟨a14, ea14, o_a14⟩ := ae hI o_a13 (by decide) (by decide) i15
        replace o_a14 : ob _ a14 6 := o_a14
        refine ⟨i15, a14, ea14, ?_⟩
        refine ⟨a12, ea12, ?_⟩
        refine ⟨o_a12, ?_⟩
        obtain ⟨a17, ea17, o_a17, l_a17⟩ := shl 17 rfl hI o_a12
        refine ⟨a17, ea17, ?_⟩
        refine ⟨o_a17, ?_⟩
        have i19 : vp_in v2 (hN _ a17) := (vin l_a17 (m := 12) (by decide) (q1384 p_x1 bb_x1 c5 c8))
        obtain ⟨a18, ea18, o_a18⟩ := ae hI o_a17 (by decide) (by decide) i19
        replace o_a18 : ob _ a18 5 := o_a18
        refine ⟨i19, a18, ea18, ?_⟩
        refine ⟨a12, ea12, ?_⟩
        refine ⟨o_a12, ?_⟩
        obtain ⟨a21, ea21, o_a21, l_a21⟩ := shl 15 rfl hI o_a12
        refine ⟨a21, ea21, ?_⟩
        refine ⟨o_a21, ?_⟩
        have i23 : vp_in v4 (hN _ a21) := (vin l_a21 (m := 6) (by decide) (q1385 p_x1 bb_x1 c5 c8))
        obtain ⟨a22, ea22, o_a22⟩ := ae hI o_a21 (by decide) (by decide) i23
        replace o_a22 : ob _ a22 3 := o_a22
        refine ⟨i23, a22, ea22, ?_⟩
        refine ⟨o_a11, ?_⟩
        refine m_X1_wetOf hI o_a11 o_a14 o_a18 o_a22 (fun x24 S25 hJ g26 fc27 => ?_)
        have hI := hJ
        have l_a13 := (gr_len g26 o_a13).trans l_a13
        have l_a17 := (gr_len g26 o_a17).trans l_a17
        have l_a21 := (gr_len g26 o_a21).trans l_a21
        have d_y7 := d_y7.trans (fri_at fc27 (by decide) (by decide) o_v0).symm
        have ea11 := (frr_at fc27 (by decide) (by decide) o_v0).trans ea11
        have ea12 := (frr_at fc27 (by decide) (by decide) o_v0).trans ea12
        have ea13 := (frr_at fc27 (by decide) (by decide) o_a12).trans ea13
        have ea17 := (frr_at fc27 (by decide) (by decide) o_a12).trans ea17
        have ea21 := (frr_at fc27 (by decide) (by decide) o_a12).trans ea21
        have f0 := fri_tr (S := S6) g0 f0 fc27 (by decide) (by decide)
        have o_a11 := gr_ob g26 o_a11
        have o_a12 := gr_ob g26 o_a12
        have o_a13 := gr_ob g26 o_a13
        have o_a14 := gr_ob g26 o_a14
        have o_a17 := gr_ob g26 o_a17
        have o_a18 := gr_ob g26 o_a18
        have o_a21 := gr_ob g26 o_a21
        have o_a22 := gr_ob g26 o_a22
        have o_v0 := gr_ob g26 o_v0
        have g0 := gr_tr (T := S6) g0 g26
        intro _
        refine ⟨a11, ea11, ?_⟩
        refine ⟨o_a11, ?_⟩
        obtain ⟨a29, ea29, o_a29, l_a29⟩ := shl 9 rfl hI o_a11
        refine ⟨a29, ea29, ?_⟩
        refine ⟨o_a29, ?_⟩
        refine ⟨(vin l_a29 (m := 5) (by decide) (q1386 p_x1 bb_x1 c5 c8)), ?_⟩
        intro x30 ex30
        refine m_X9_fraction hI (fun x31 S32 hI2 g33 p_x31 => ?_)
        subst p_x31
        intro _
        exact hq _ _ hI g0 f0
      · exact hq _ _ hI g0 f0
    · intro _ _
      refine ⟨fun c36 => ?_, fun c36 => ?_⟩
      · obtain ⟨a37, ea37, o_a37, -⟩ := sh 3 rfl hI o_v0
        refine ⟨a37, ea37, ?_⟩
        obtain ⟨a38, ea38, o_a38, -⟩ := sh 1 rfl hI o_v0
        refine ⟨a38, ea38, ?_⟩
        refine ⟨o_a38, ?_⟩
        obtain ⟨a39, ea39, o_a39, l_a39⟩ := shl 18 rfl hI o_a38
        refine ⟨a39, ea39, ?_⟩
        refine ⟨o_a39, ?_⟩
        have i41 : vp_in v1 (hN _ a39) := (vin l_a39 (m := 4) (by decide) (q1383 p_x1 bb_x1 c5 c36))
        obtain ⟨a40, ea40, o_a40⟩ := ae hI o_a39 (by decide) (by decide) i41
        replace o_a40 : ob _ a40 6 := o_a40
        refine ⟨i41, a40, ea40, ?_⟩
        refine ⟨a38, ea38, ?_⟩
        refine ⟨o_a38, ?_⟩
        obtain ⟨a43, ea43, o_a43, l_a43⟩ := shl 17 rfl hI o_a38
        refine ⟨a43, ea43, ?_⟩
        refine ⟨o_a43, ?_⟩
        have i45 : vp_in v2 (hN _ a43) := (vin l_a43 (m := 12) (by decide) (q1384 p_x1 bb_x1 c5 c36))
        obtain ⟨a44, ea44, o_a44⟩ := ae hI o_a43 (by decide) (by decide) i45
        replace o_a44 : ob _ a44 5 := o_a44
        refine ⟨i45, a44, ea44, ?_⟩
        refine ⟨a38, ea38, ?_⟩
        refine ⟨o_a38, ?_⟩
        obtain ⟨a47, ea47, o_a47, l_a47⟩ := shl 15 rfl hI o_a38
        refine ⟨a47, ea47, ?_⟩
        refine ⟨o_a47, ?_⟩
        have i49 : vp_in v4 (hN _ a47) := (vin l_a47 (m := 6) (by decide) (q1385 p_x1 bb_x1 c5 c36))
        obtain ⟨a48, ea48, o_a48⟩ := ae hI o_a47 (by decide) (by decide) i49
        replace o_a48 : ob _ a48 3 := o_a48
        refine ⟨i49, a48, ea48, ?_⟩
        refine ⟨o_a37, ?_⟩
        refine m_X1_wetOf hI o_a37 o_a40 o_a44 o_a48 (fun x50 S51 hJ g52 fc53 => ?_)
        have hI := hJ
        have l_a39 := (gr_len g52 o_a39).trans l_a39
        have l_a43 := (gr_len g52 o_a43).trans l_a43
        have l_a47 := (gr_len g52 o_a47).trans l_a47
        have d_y7 := d_y7.trans (fri_at fc53 (by decide) (by decide) o_v0).symm
        have ea37 := (frr_at fc53 (by decide) (by decide) o_v0).trans ea37
        have ea38 := (frr_at fc53 (by decide) (by decide) o_v0).trans ea38
        have ea39 := (frr_at fc53 (by decide) (by decide) o_a38).trans ea39
        have ea43 := (frr_at fc53 (by decide) (by decide) o_a38).trans ea43
        have ea47 := (frr_at fc53 (by decide) (by decide) o_a38).trans ea47
        have f0 := fri_tr (S := S6) g0 f0 fc53 (by decide) (by decide)
        have o_a37 := gr_ob g52 o_a37
        have o_a38 := gr_ob g52 o_a38
        have o_a39 := gr_ob g52 o_a39
        have o_a40 := gr_ob g52 o_a40
        have o_a43 := gr_ob g52 o_a43
        have o_a44 := gr_ob g52 o_a44
        have o_a47 := gr_ob g52 o_a47
        have o_a48 := gr_ob g52 o_a48
        have o_v0 := gr_ob g52 o_v0
        have g0 := gr_tr (T := S6) g0 g52
        intro _
        refine ⟨a37, ea37, ?_⟩
        refine ⟨o_a37, ?_⟩
        obtain ⟨a55, ea55, o_a55, l_a55⟩ := shl 9 rfl hI o_a37
        refine ⟨a55, ea55, ?_⟩
        refine ⟨o_a55, ?_⟩
        refine ⟨(vin l_a55 (m := 5) (by decide) (q1386 p_x1 bb_x1 c5 c36)), ?_⟩
        intro x56 ex56
        refine m_X9_fraction hI (fun x57 S58 hI2 g59 p_x57 => ?_)
        subst p_x57
        intro _
        exact hq _ _ hI g0 f0
      · exact hq _ _ hI g0 f0
  · refine ⟨o_v0, ?_⟩
    refine m_X9_legTrouble hI o_v0 (fun x61 S62 hI2 g63 p_x61 => ?_)
    obtain ⟨z_S62, p_x61⟩ := p_x61
    subst z_S62
    intro _
    refine u_X9_face_23 ?_
    refine ⟨o_v0, ?_⟩
    refine u_X9_refusedBy ?_
    refine u_X9_refusedBy_0 ?_
    refine ⟨o_v0, ?_⟩
    intro S65 eS65
    have hI : IV S65 := by rw [eS65]; exact iv_sI hI o_v0 (by decide) (nu_free (by decide))
    have f0 := fr_I eS65 g0 f0 o_v0 (by decide)
    have d_x61 := rd_Is eS65 (rfl : x61 = x61)
    have g0 := gr_I eS65 g0
    have o_v0 := ob_I eS65 o_v0
    refine ⟨fun c66 => ?_, fun c66 => ?_⟩
    · intro _ _
      refine ⟨fun c68 => ?_, fun c68 => ?_⟩
      · obtain ⟨a69, ea69, o_a69, -⟩ := sh 3 rfl hI o_v0
        refine ⟨a69, ea69, ?_⟩
        obtain ⟨a70, ea70, o_a70, -⟩ := sh 1 rfl hI o_v0
        refine ⟨a70, ea70, ?_⟩
        refine ⟨o_a70, ?_⟩
        obtain ⟨a71, ea71, o_a71, l_a71⟩ := shl 18 rfl hI o_a70
        refine ⟨a71, ea71, ?_⟩
        refine ⟨o_a71, ?_⟩
        have i73 : vp_in v1 (hN _ a71) := (vin l_a71 (m := 4) (by decide) (q1387 p_x1 bb_x1 c5 p_x61 c66))
        obtain ⟨a72, ea72, o_a72⟩ := ae hI o_a71 (by decide) (by decide) i73
        replace o_a72 : ob _ a72 6 := o_a72
        refine ⟨i73, a72, ea72, ?_⟩
        refine ⟨a70, ea70, ?_⟩
        refine ⟨o_a70, ?_⟩
        obtain ⟨a75, ea75, o_a75, l_a75⟩ := shl 17 rfl hI o_a70
        refine ⟨a75, ea75, ?_⟩
        refine ⟨o_a75, ?_⟩
        have i77 : vp_in v2 (hN _ a75) := (vin l_a75 (m := 12) (by decide) (q1388 p_x1 bb_x1 c5 p_x61 c66))
        obtain ⟨a76, ea76, o_a76⟩ := ae hI o_a75 (by decide) (by decide) i77
        replace o_a76 : ob _ a76 5 := o_a76
        refine ⟨i77, a76, ea76, ?_⟩
        refine ⟨a70, ea70, ?_⟩
        refine ⟨o_a70, ?_⟩
        obtain ⟨a79, ea79, o_a79, l_a79⟩ := shl 15 rfl hI o_a70
        refine ⟨a79, ea79, ?_⟩
        refine ⟨o_a79, ?_⟩
        have i81 : vp_in v4 (hN _ a79) := (vin l_a79 (m := 6) (by decide) (q1389 p_x1 bb_x1 c5 p_x61 c66))
        obtain ⟨a80, ea80, o_a80⟩ := ae hI o_a79 (by decide) (by decide) i81
        replace o_a80 : ob _ a80 3 := o_a80
        refine ⟨i81, a80, ea80, ?_⟩
        refine ⟨o_a69, ?_⟩
        refine m_X1_wetOf hI o_a69 o_a72 o_a76 o_a80 (fun x82 S83 hJ g84 fc85 => ?_)
        have hI := hJ
        have l_a71 := (gr_len g84 o_a71).trans l_a71
        have l_a75 := (gr_len g84 o_a75).trans l_a75
        have l_a79 := (gr_len g84 o_a79).trans l_a79
        have d_x61 := d_x61.trans (fri_at fc85 (by decide) (by decide) o_v0).symm
        have ea69 := (frr_at fc85 (by decide) (by decide) o_v0).trans ea69
        have ea70 := (frr_at fc85 (by decide) (by decide) o_v0).trans ea70
        have ea71 := (frr_at fc85 (by decide) (by decide) o_a70).trans ea71
        have ea75 := (frr_at fc85 (by decide) (by decide) o_a70).trans ea75
        have ea79 := (frr_at fc85 (by decide) (by decide) o_a70).trans ea79
        have f0 := fri_tr (S := S65) g0 f0 fc85 (by decide) (by decide)
        have o_a69 := gr_ob g84 o_a69
        have o_a70 := gr_ob g84 o_a70
        have o_a71 := gr_ob g84 o_a71
        have o_a72 := gr_ob g84 o_a72
        have o_a75 := gr_ob g84 o_a75
        have o_a76 := gr_ob g84 o_a76
        have o_a79 := gr_ob g84 o_a79
        have o_a80 := gr_ob g84 o_a80
        have o_v0 := gr_ob g84 o_v0
        have g0 := gr_tr (T := S65) g0 g84
        intro _
        refine ⟨a69, ea69, ?_⟩
        refine ⟨o_a69, ?_⟩
        obtain ⟨a87, ea87, o_a87, l_a87⟩ := shl 9 rfl hI o_a69
        refine ⟨a87, ea87, ?_⟩
        refine ⟨o_a87, ?_⟩
        refine ⟨(vin l_a87 (m := 5) (by decide) (q1390 p_x1 bb_x1 c5 p_x61 c66)), ?_⟩
        intro x88 ex88
        refine m_X9_fraction hI (fun x89 S90 hI2 g91 p_x89 => ?_)
        subst p_x89
        intro _
        exact hq _ _ hI g0 f0
      · exact hq _ _ hI g0 f0
    · intro _ _
      refine ⟨fun c94 => ?_, fun c94 => ?_⟩
      · obtain ⟨a95, ea95, o_a95, -⟩ := sh 3 rfl hI o_v0
        refine ⟨a95, ea95, ?_⟩
        obtain ⟨a96, ea96, o_a96, -⟩ := sh 1 rfl hI o_v0
        refine ⟨a96, ea96, ?_⟩
        refine ⟨o_a96, ?_⟩
        obtain ⟨a97, ea97, o_a97, l_a97⟩ := shl 18 rfl hI o_a96
        refine ⟨a97, ea97, ?_⟩
        refine ⟨o_a97, ?_⟩
        have i99 : vp_in v1 (hN _ a97) := (vin l_a97 (m := 4) (by decide) (q1391 p_x1 bb_x1 c5 p_x61 c66 c94))
        obtain ⟨a98, ea98, o_a98⟩ := ae hI o_a97 (by decide) (by decide) i99
        replace o_a98 : ob _ a98 6 := o_a98
        refine ⟨i99, a98, ea98, ?_⟩
        refine ⟨a96, ea96, ?_⟩
        refine ⟨o_a96, ?_⟩
        obtain ⟨a101, ea101, o_a101, l_a101⟩ := shl 17 rfl hI o_a96
        refine ⟨a101, ea101, ?_⟩
        refine ⟨o_a101, ?_⟩
        have i103 : vp_in v2 (hN _ a101) := (vin l_a101 (m := 12) (by decide) (q1392 p_x1 bb_x1 c5 p_x61 c66 c94))
        obtain ⟨a102, ea102, o_a102⟩ := ae hI o_a101 (by decide) (by decide) i103
        replace o_a102 : ob _ a102 5 := o_a102
        refine ⟨i103, a102, ea102, ?_⟩
        refine ⟨a96, ea96, ?_⟩
        refine ⟨o_a96, ?_⟩
        obtain ⟨a105, ea105, o_a105, l_a105⟩ := shl 15 rfl hI o_a96
        refine ⟨a105, ea105, ?_⟩
        refine ⟨o_a105, ?_⟩
        have i107 : vp_in v4 (hN _ a105) := (vin l_a105 (m := 6) (by decide) (q1393 p_x1 bb_x1 c5 p_x61 c66 c94))
        obtain ⟨a106, ea106, o_a106⟩ := ae hI o_a105 (by decide) (by decide) i107
        replace o_a106 : ob _ a106 3 := o_a106
        refine ⟨i107, a106, ea106, ?_⟩
        refine ⟨o_a95, ?_⟩
        refine m_X1_wetOf hI o_a95 o_a98 o_a102 o_a106 (fun x108 S109 hJ g110 fc111 => ?_)
        have hI := hJ
        have l_a101 := (gr_len g110 o_a101).trans l_a101
        have l_a105 := (gr_len g110 o_a105).trans l_a105
        have l_a97 := (gr_len g110 o_a97).trans l_a97
        have d_x61 := d_x61.trans (fri_at fc111 (by decide) (by decide) o_v0).symm
        have ea95 := (frr_at fc111 (by decide) (by decide) o_v0).trans ea95
        have ea96 := (frr_at fc111 (by decide) (by decide) o_v0).trans ea96
        have ea97 := (frr_at fc111 (by decide) (by decide) o_a96).trans ea97
        have ea101 := (frr_at fc111 (by decide) (by decide) o_a96).trans ea101
        have ea105 := (frr_at fc111 (by decide) (by decide) o_a96).trans ea105
        have f0 := fri_tr (S := S65) g0 f0 fc111 (by decide) (by decide)
        have o_a101 := gr_ob g110 o_a101
        have o_a102 := gr_ob g110 o_a102
        have o_a105 := gr_ob g110 o_a105
        have o_a106 := gr_ob g110 o_a106
        have o_a95 := gr_ob g110 o_a95
        have o_a96 := gr_ob g110 o_a96
        have o_a97 := gr_ob g110 o_a97
        have o_a98 := gr_ob g110 o_a98
        have o_v0 := gr_ob g110 o_v0
        have g0 := gr_tr (T := S65) g0 g110
        intro _
        refine ⟨a95, ea95, ?_⟩
        refine ⟨o_a95, ?_⟩
        obtain ⟨a113, ea113, o_a113, l_a113⟩ := shl 9 rfl hI o_a95
        refine ⟨a113, ea113, ?_⟩
        refine ⟨o_a113, ?_⟩
        refine ⟨(vin l_a113 (m := 5) (by decide) (q1394 p_x1 bb_x1 c5 p_x61 c66 c94)), ?_⟩
        intro x114 ex114
        refine m_X9_fraction hI (fun x115 S116 hI2 g117 p_x115 => ?_)
        subst p_x115
        intro _
        exact hq _ _ hI g0 f0
      · exact hq _ _ hI g0 f0
set_option maxHeartbeats 4000000 in
set_option maxRecDepth 20000 in
theorem m_X9_fault {v0 : Nat} {Q : Int32 → HS → Prop} {S : HS} (hI : IV S) (o_v0 : ob S v0 9)     (hq : ∀ (r : Int32) (T : HS), IV T → Gr S T → (S = T) → Q r T) : P_X9_fault v0 Q S := by
  have g0 := gr_rf S
  refine u_X9_fault ?_
  refine u_X9_fault_0 ?_
  refine ⟨o_v0, ?_⟩
  intro x1 ex1
  have d_x1 := ex1
  exact hq _ _ hI g0 rfl
set_option maxHeartbeats 4000000 in
set_option maxRecDepth 20000 in
theorem m_X9_putBytes {v0 : Nat} {v1 : Int32} {Q : HS → Prop} {S : HS} (hI : IV S) (o_v0 : ob S v0 9)     (hq : ∀ (T : HS), IV T → Gr S T → FRI [(9, 1)] [] S T → Q T) : P_X9_putBytes v0 v1 Q S := by
  have g0 := gr_rf S
  have f0 := fri_rf [(9, 1)] [] S
  refine u_X9_putBytes ?_
  refine u_X9_putBytes_0 ?_
  refine i_X9_putBytes_3 (fun (y0 : Nat) (y1 : Int32) (y2 : Int32) (Z : HS) => (y2.toInt - (-2147483648 : Int32).toInt).toNat) (fun (y0 : Nat) (y1 : Int32) (y2 : Int32) (Z : HS) => (IV Z) ∧ (Gr S Z) ∧ (FRI [(9, 1)] [] S Z) ∧ (v0 = y0) ∧ (v1 = y1)) ?_ _ _ _ _ ⟨hI, (gr_rf _), (fri_rf _ _ _), rfl, rfl⟩
  intro w5 w7 w9 S2 X10 ⟨hI, gL3, fL4, q6, q8⟩ ih11
  subst q6
  subst q8
  have f0 := fri_tr (S := S) g0 f0 fL4 (by decide) (by decide)
  have o_v0 := gr_ob gL3 o_v0
  have g0 := gr_tr (T := S) g0 gL3
  refine u_X9_putBytes_3 ?_
  refine ⟨fun c12 => ?_, fun c12 => ?_⟩
  · exact hq _ hI g0 f0
  · refine ⟨o_v0, ?_⟩
    intro x13 ex13
    have r_x13 : (0 : Int32) ≤ x13 ∧ x13 ≤ (900 : Int32) := by rw [ex13]; exact nu 0 rfl hI o_v0
    have d_x13 := ex13
    refine ⟨fun c14 => ?_, fun c14 => ?_⟩
    · refine u_X9_putBytes_49 ?_
      intro x15 ex15
      exact ih11 _ _ _ _ ⟨hI, gL3, fL4, rfl, rfl⟩ (mu_down (q1125 c12 r_x13 c14 ex15) (q1126 c12 r_x13 c14 ex15))
    · intro x16 ex16
      have r_x16 : (0 : Int32) ≤ x16 ∧ x16 ≤ (900 : Int32) := by rw [ex16]; exact nu 0 rfl hI o_v0
      have q_x16 : x16 = x13 := ex16.trans d_x13.symm
      have d_x16 := ex16
      obtain ⟨a17, ea17, o_a17, l_a17⟩ := shl 0 rfl hI o_v0
      refine ⟨a17, ea17, ?_⟩
      refine ⟨o_a17, ?_⟩
      have n_a17 : nI (hN S2 a17) = 900 := by rw [show hN S2 a17 = 900 from l_a17]; decide
      refine ⟨fun c18 => ?_, fun c18 => ?_⟩
      · rw [n_a17] at c18
        refine u_X9_putBytes_49 ?_
        intro x19 ex19
        exact ih11 _ _ _ _ ⟨hI, gL3, fL4, rfl, rfl⟩ (mu_down (q1127 c12 r_x13 c14 r_x16 q_x16 c18 ex19) (q1128 c12 r_x13 c14 r_x16 q_x16 c18 ex19))
      · rw [n_a17] at c18
        refine ⟨a17, ea17, ?_⟩
        intro x21 ex21
        have r_x21 : (0 : Int32) ≤ x21 ∧ x21 ≤ (900 : Int32) := by rw [ex21]; exact nu 0 rfl hI o_v0
        have q_x21 : x21 = x16 := ex21.trans d_x16.symm
        have d_x21 := ex21
        refine ⟨o_a17, ?_⟩
        intro x22 ex22
        have i23 : vp_in x21 (hN _ a17) := (vin l_a17 (m := 900) (by decide) (q1129 c12 r_x13 c14 r_x16 q_x16 c18 r_x21 q_x21 ex22))
        refine ⟨i23, ?_⟩
        intro S24 eS24
        have hI : IV S24 := by rw [eS24]; exact iv_aI hI o_v0 (by decide) ea17 o_a17 (by decide)
        have f0 := fr_A eS24 g0 f0 o_a17 (by decide)
        have fL4 := fr_A eS24 gL3 fL4 o_a17 (by decide)
        have d_x21 := rd_Ik eS24 o_a17 o_v0 (by decide) d_x21
        have ea17 := rf_I eS24 ea17
        have l_a17 := ln_I eS24 l_a17
        have g0 := gr_I eS24 g0
        have gL3 := gr_I eS24 gL3
        have o_a17 := ob_I eS24 o_a17
        have o_v0 := ob_I eS24 o_v0
        intro x25 ex25
        have r_x25 : (0 : Int32) ≤ x25 ∧ x25 ≤ (900 : Int32) := by rw [ex25]; exact nu 0 rfl hI o_v0
        have q_x25 : x25 = x21 := ex25.trans d_x21.symm
        have d_x25 := ex25
        intro x26 ex26
        intro S27 eS27
        have hI : IV S27 := by rw [eS27]; exact iv_sI hI o_v0 (by decide) (nu_one (lo := (0 : Int32)) (hi := (900 : Int32)) (by decide) (q1130 c12 r_x13 c14 r_x16 q_x16 c18 r_x21 q_x21 ex22 r_x25 q_x25 ex26))
        have f0 := fr_I eS27 g0 f0 o_v0 (by decide)
        have fL4 := fr_I eS27 gL3 fL4 o_v0 (by decide)
        have d_x26 := rd_Is eS27 (rfl : x26 = x26)
        have ea17 := rf_I eS27 ea17
        have l_a17 := ln_I eS27 l_a17
        have g0 := gr_I eS27 g0
        have gL3 := gr_I eS27 gL3
        have o_a17 := ob_I eS27 o_a17
        have o_v0 := ob_I eS27 o_v0
        refine u_X9_putBytes_49 ?_
        intro x28 ex28
        exact ih11 _ _ _ _ ⟨hI, gL3, fL4, rfl, rfl⟩ (mu_down (q1131 c12 r_x13 c14 r_x16 q_x16 c18 r_x21 q_x21 ex22 r_x25 q_x25 ex26 ex28) (q1132 c12 r_x13 c14 r_x16 q_x16 c18 r_x21 q_x21 ex22 r_x25 q_x25 ex26 ex28))
set_option maxHeartbeats 4000000 in
set_option maxRecDepth 20000 in
theorem m_X9_feed {v0 : Nat} {v1 : Int32} {v2 : Int32} {v3 : Int32} {v4 : Int32} {v5 : Int32} {Q : Int32 → HS → Prop} {S : HS} (hI : IV S) (o_v0 : ob S v0 9)     (hq : ∀ (r : Int32) (T : HS), IV T → Gr S T → FRI [(9, 1)] [] S T → Q r T) : P_X9_feed v0 v1 v2 v3 v4 v5 Q S := by
  have g0 := gr_rf S
  have f0 := fri_rf [(9, 1)] [] S
  refine u_X9_feed ?_
  refine u_X9_feed_0 ?_
  refine ⟨o_v0, ?_⟩
  intro x1 ex1
  have r_x1 : (0 : Int32) ≤ x1 ∧ x1 ≤ (900 : Int32) := by rw [ex1]; exact nu 0 rfl hI o_v0
  have d_x1 := ex1
  refine ⟨fun c2 => ?_, fun c2 => ?_⟩
  · refine m_X9_putBytes hI o_v0 (fun S4 hJ g5 fc6 => ?_)
    have hI := hJ
    have f0 := fri_tr (S := S) g0 f0 fc6 (by decide) (by decide)
    have o_v0 := gr_ob g5 o_v0
    have g0 := gr_tr (T := S) g0 g5
    intro _
    refine m_X9_putBytes hI o_v0 (fun S8 hJ g9 fc10 => ?_)
    have hI := hJ
    have f0 := fri_tr (S := S4) g0 f0 fc10 (by decide) (by decide)
    have o_v0 := gr_ob g9 o_v0
    have g0 := gr_tr (T := S4) g0 g9
    intro _
    refine m_X9_putBytes hI o_v0 (fun S12 hJ g13 fc14 => ?_)
    have hI := hJ
    have f0 := fri_tr (S := S8) g0 f0 fc14 (by decide) (by decide)
    have o_v0 := gr_ob g13 o_v0
    have g0 := gr_tr (T := S8) g0 g13
    intro _
    refine m_X9_putBytes hI o_v0 (fun S16 hJ g17 fc18 => ?_)
    have hI := hJ
    have f0 := fri_tr (S := S12) g0 f0 fc18 (by decide) (by decide)
    have o_v0 := gr_ob g17 o_v0
    have g0 := gr_tr (T := S12) g0 g17
    intro _
    refine m_X9_putBytes hI o_v0 (fun S20 hJ g21 fc22 => ?_)
    have hI := hJ
    have f0 := fri_tr (S := S16) g0 f0 fc22 (by decide) (by decide)
    have o_v0 := gr_ob g21 o_v0
    have g0 := gr_tr (T := S16) g0 g21
    intro _
    intro x23 ex23
    have r_x23 : (0 : Int32) ≤ x23 ∧ x23 ≤ (900 : Int32) := by rw [ex23]; exact nu 0 rfl hI o_v0
    have d_x23 := ex23
    exact hq _ _ hI g0 f0
  · exact hq _ _ hI g0 f0
set_option maxHeartbeats 4000000 in
set_option maxRecDepth 20000 in
theorem m_X9_leeTrouble {v0 : Nat} {v1 : Int32} {v2 : Int32} {v3 : Int32} {v4 : Int32} {v5 : Int32} {v6 : Int32} {Q : Int32 → HS → Prop} {S : HS} (hI : IV S) (o_v0 : ob S v0 9)     (hq : ∀ (r : Int32) (T : HS), IV T → Gr S T → (S = T) ∧ (r = 0 → 0 ≤ v1 ∧ v1 < 4 ∧ 0 ≤ v2 ∧ v2 < 4 ∧ 0 ≤ v3 ∧ v3 < 12 ∧ 0 ≤ v5 ∧ v5 < 6) → Q r T) : P_X9_leeTrouble v0 v1 v2 v3 v4 v5 v6 Q S := by
  have g0 := gr_rf S
  refine u_X9_leeTrouble ?_
  refine u_X9_leeTrouble_0 ?_
  refine ⟨fun c1 => ?_, fun c1 => ?_⟩
  · exact hq _ _ hI g0 ⟨rfl, (q1345 c1)⟩
  · refine ⟨o_v0, ?_⟩
    obtain ⟨a2, ea2, o_a2, -⟩ := sh 1 rfl hI o_v0
    refine ⟨a2, ea2, ?_⟩
    refine ⟨o_a2, ?_⟩
    refine m_X8_hasWalker hI o_a2 (fun x3 S4 hI2 g5 b_x3 p_x3 => ?_)
    obtain ⟨z_S4, p_x3⟩ := p_x3
    subst z_S4
    intro _ _
    have bb_x3 : x3 = 0 ∨ x3 = 1 := b_x3
    refine ⟨fun c7 => ?_, fun c7 => ?_⟩
    · exact hq _ _ hI g0 ⟨rfl, (q1346 c1 p_x3 bb_x3 c7)⟩
    · refine ⟨a2, ea2, ?_⟩
      refine ⟨o_a2, ?_⟩
      refine m_X8_hasWalker hI o_a2 (fun x9 S10 hI2 g11 b_x9 p_x9 => ?_)
      obtain ⟨z_S10, p_x9⟩ := p_x9
      subst z_S10
      intro _ _
      have bb_x9 : x9 = 0 ∨ x9 = 1 := b_x9
      refine ⟨fun c13 => ?_, fun c13 => ?_⟩
      · refine m_X9_legTrouble hI o_v0 (fun x14 S15 hI2 g16 p_x14 => ?_)
        obtain ⟨z_S15, p_x14⟩ := p_x14
        subst z_S15
        intro _
        refine ⟨fun c18 => ?_, fun c18 => ?_⟩
        · refine ⟨a2, ea2, ?_⟩
          refine ⟨o_a2, ?_⟩
          obtain ⟨a20, ea20, o_a20, l_a20⟩ := shl 18 rfl hI o_a2
          refine ⟨a20, ea20, ?_⟩
          refine ⟨o_a20, ?_⟩
          have i22 : vp_in v2 (hN _ a20) := (vin l_a20 (m := 4) (by decide) (q1347 c1 p_x3 bb_x3 c7 p_x9 bb_x9 c13 p_x14 c18))
          obtain ⟨a21, ea21, o_a21⟩ := ae hI o_a20 (by decide) (by decide) i22
          replace o_a21 : ob _ a21 6 := o_a21
          refine ⟨i22, a21, ea21, ?_⟩
          refine ⟨o_a21, ?_⟩
          refine m_X6_canGo hI o_a21 (fun x23 S24 hI2 g25 b_x23 p_x23 => ?_)
          subst p_x23
          intro _ _
          have bb_x23 : x23 = 0 ∨ x23 = 1 := b_x23
          refine ⟨fun c27 => ?_, fun c27 => ?_⟩
          · exact hq _ _ hI g0 ⟨rfl, (q1348 c1 p_x3 bb_x3 c7 p_x9 bb_x9 c13 p_x14 c18 bb_x23 c27)⟩
          · exact hq _ _ hI g0 ⟨rfl, (q1349 c1 p_x3 bb_x3 c7 p_x9 bb_x9 c13 p_x14 c18 bb_x23 c27)⟩
        · exact hq _ _ hI g0 ⟨rfl, (q1350 c1 p_x3 bb_x3 c7 p_x9 bb_x9 c13 p_x14 c18)⟩
      · exact hq _ _ hI g0 ⟨rfl, (q1351 c1 p_x3 bb_x3 c7 p_x9 bb_x9 c13)⟩
