set_option maxHeartbeats 4000000 in
set_option maxRecDepth 20000 in
theorem m_X9_first {v0 : Nat} {v1 : Int32} {v2 : Int32} {v3 : Int32} {v4 : Int32} {v5 : Int32} {v6 : Int32} {Q : Int32 → HS → Prop} {S : HS} (hI : IV S) (o_v0 : ob S v0 9)     (hq : ∀ (r : Int32) (T : HS), IV T → Gr S T → FRI [(9, 9)] [] S T → Q r T) : P_X9_first v0 v1 v2 v3 v4 v5 v6 Q S := by
  have g0 := gr_rf S
  have f0 := fri_rf [(9, 9)] [] S
  refine u_X9_first ?_
  refine u_X9_first_0 ?_
  refine ⟨o_v0, ?_⟩
  refine m_X9_leeTrouble hI o_v0 (fun x1 S2 hI2 g3 p_x1 => ?_)
  obtain ⟨z_S2, p_x1⟩ := p_x1
  subst z_S2
  intro _
  refine u_X9_refusedBy ?_
  refine u_X9_refusedBy_0 ?_
  refine ⟨o_v0, ?_⟩
  have hI := iv_sI (j := 9) (v := x1) hI o_v0 (by decide) (nu_free (by decide))
  have f0 : FRI _ _ _ (sI S v0 9 x1) := fri_sI (S := S) g0 f0 o_v0 (by decide)
  have d_x1 : x1 = fI (sI S v0 9 x1) v0 9 := (u2_self _ _ _ _).symm
  refine ⟨fun c5 => ?_, fun c5 => ?_⟩
  · intro _ _
    refine ⟨fun c6 => ?_, fun c6 => ?_⟩
    · obtain ⟨a7, ea7, o_a7, -⟩ := sh 3 rfl hI o_v0
      refine ⟨a7, ea7, ?_⟩
      obtain ⟨a8, ea8, o_a8, -⟩ := sh 1 rfl hI o_v0
      refine ⟨a8, ea8, ?_⟩
      refine ⟨o_a8, ?_⟩
      obtain ⟨a9, ea9, o_a9, l_a9⟩ := shl 17 rfl hI o_a8
      refine ⟨a9, ea9, ?_⟩
      refine ⟨o_a9, ?_⟩
      have i11 : vp_in v3 (hN _ a9) := (vin l_a9 (m := 12) (by decide) (q708 p_x1 c5))
      obtain ⟨a10, ea10, o_a10⟩ := ae hI o_a9 (by decide) (by decide) i11
      replace o_a10 : ob _ a10 5 := o_a10
      refine ⟨i11, a10, ea10, ?_⟩
      refine ⟨a8, ea8, ?_⟩
      refine ⟨o_a8, ?_⟩
      obtain ⟨a13, ea13, o_a13, l_a13⟩ := shl 15 rfl hI o_a8
      refine ⟨a13, ea13, ?_⟩
      refine ⟨o_a13, ?_⟩
      have i15 : vp_in v5 (hN _ a13) := (vin l_a13 (m := 6) (by decide) (q709 p_x1 c5))
      obtain ⟨a14, ea14, o_a14⟩ := ae hI o_a13 (by decide) (by decide) i15
      replace o_a14 : ob _ a14 3 := o_a14
      refine ⟨i15, a14, ea14, ?_⟩
      refine ⟨o_a7, ?_⟩
      refine m_X1_lay hI o_a7 o_a10 o_a14 (fun S17 hI g18 fc19 => ?_)
      have l_a13 := (gr_len g18 o_a13).trans l_a13
      have l_a9 := (gr_len g18 o_a9).trans l_a9
      have d_x1 := d_x1.trans (fri_at fc19 (by decide) (by decide) o_v0).symm
      have ea7 := (frr_at fc19 (by decide) (by decide) o_v0).trans ea7
      have ea8 := (frr_at fc19 (by decide) (by decide) o_v0).trans ea8
      have ea9 := (frr_at fc19 (by decide) (by decide) o_a8).trans ea9
      have ea13 := (frr_at fc19 (by decide) (by decide) o_a8).trans ea13
      have f0 := fri_tr (S := sI S v0 9 x1) g0 f0 fc19 (by decide) (by decide)
      have o_a10 := gr_ob g18 o_a10
      have o_a13 := gr_ob g18 o_a13
      have o_a14 := gr_ob g18 o_a14
      have o_a7 := gr_ob g18 o_a7
      have o_a8 := gr_ob g18 o_a8
      have o_a9 := gr_ob g18 o_a9
      have o_v0 := gr_ob g18 o_v0
      have g0 := gr_tr (T := sI S v0 9 x1) g0 g18
      intro _
      refine ⟨a7, ea7, ?_⟩
      refine ⟨a8, ea8, ?_⟩
      refine ⟨o_a8, ?_⟩
      obtain ⟨a22, ea22, o_a22, l_a22⟩ := shl 18 rfl hI o_a8
      refine ⟨a22, ea22, ?_⟩
      refine ⟨o_a22, ?_⟩
      have i24 : vp_in v1 (hN _ a22) := (vin l_a22 (m := 4) (by decide) (q710 p_x1 c5))
      obtain ⟨a23, ea23, o_a23⟩ := ae hI o_a22 (by decide) (by decide) i24
      replace o_a23 : ob _ a23 6 := o_a23
      refine ⟨i24, a23, ea23, ?_⟩
      refine ⟨a8, ea8, ?_⟩
      refine ⟨o_a8, ?_⟩
      refine ⟨a22, ea22, ?_⟩
      refine ⟨o_a22, ?_⟩
      have i28 : vp_in v2 (hN _ a22) := (vin l_a22 (m := 4) (by decide) (q711 p_x1 c5))
      obtain ⟨a27, ea27, o_a27⟩ := ae hI o_a22 (by decide) (by decide) i28
      replace o_a27 : ob _ a27 6 := o_a27
      refine ⟨i28, a27, ea27, ?_⟩
      refine ⟨o_a7, ?_⟩
      refine m_X1_wetInLee hI o_a7 o_a23 o_a27 (fun x29 S30 hI g31 fc32 => ?_)
      have l_a13 := (gr_len g31 o_a13).trans l_a13
      have l_a22 := (gr_len g31 o_a22).trans l_a22
      have l_a9 := (gr_len g31 o_a9).trans l_a9
      have d_x1 := d_x1.trans (fri_at fc32 (by decide) (by decide) o_v0).symm
      have ea7 := (frr_at fc32 (by decide) (by decide) o_v0).trans ea7
      have ea8 := (frr_at fc32 (by decide) (by decide) o_v0).trans ea8
      have ea9 := (frr_at fc32 (by decide) (by decide) o_a8).trans ea9
      have ea13 := (frr_at fc32 (by decide) (by decide) o_a8).trans ea13
      have ea22 := (frr_at fc32 (by decide) (by decide) o_a8).trans ea22
      have f0 := fri_tr (S := S17) g0 f0 fc32 (by decide) (by decide)
      have o_a10 := gr_ob g31 o_a10
      have o_a13 := gr_ob g31 o_a13
      have o_a14 := gr_ob g31 o_a14
      have o_a22 := gr_ob g31 o_a22
      have o_a23 := gr_ob g31 o_a23
      have o_a27 := gr_ob g31 o_a27
      have o_a7 := gr_ob g31 o_a7
      have o_a8 := gr_ob g31 o_a8
      have o_a9 := gr_ob g31 o_a9
      have o_v0 := gr_ob g31 o_v0
      have g0 := gr_tr (T := S17) g0 g31
      intro _
      refine ⟨a7, ea7, ?_⟩
      refine ⟨a8, ea8, ?_⟩
      refine ⟨o_a8, ?_⟩
      refine ⟨a22, ea22, ?_⟩
      refine ⟨o_a22, ?_⟩
      have i37 : vp_in v2 (hN _ a22) := (vin l_a22 (m := 4) (by decide) (q711 p_x1 c5))
      obtain ⟨a36, ea36, o_a36⟩ := ae hI o_a22 (by decide) (by decide) i37
      replace o_a36 : ob _ a36 6 := o_a36
      refine ⟨i37, a36, ea36, ?_⟩
      refine ⟨a8, ea8, ?_⟩
      refine ⟨o_a8, ?_⟩
      refine ⟨a22, ea22, ?_⟩
      refine ⟨o_a22, ?_⟩
      have i41 : vp_in v1 (hN _ a22) := (vin l_a22 (m := 4) (by decide) (q710 p_x1 c5))
      obtain ⟨a40, ea40, o_a40⟩ := ae hI o_a22 (by decide) (by decide) i41
      replace o_a40 : ob _ a40 6 := o_a40
      refine ⟨i41, a40, ea40, ?_⟩
      refine ⟨o_a7, ?_⟩
      refine m_X1_wetInLee hI o_a7 o_a36 o_a40 (fun x42 S43 hI g44 fc45 => ?_)
      have l_a13 := (gr_len g44 o_a13).trans l_a13
      have l_a22 := (gr_len g44 o_a22).trans l_a22
      have l_a9 := (gr_len g44 o_a9).trans l_a9
      have d_x1 := d_x1.trans (fri_at fc45 (by decide) (by decide) o_v0).symm
      have ea7 := (frr_at fc45 (by decide) (by decide) o_v0).trans ea7
      have ea8 := (frr_at fc45 (by decide) (by decide) o_v0).trans ea8
      have ea9 := (frr_at fc45 (by decide) (by decide) o_a8).trans ea9
      have ea13 := (frr_at fc45 (by decide) (by decide) o_a8).trans ea13
      have ea22 := (frr_at fc45 (by decide) (by decide) o_a8).trans ea22
      have f0 := fri_tr (S := S30) g0 f0 fc45 (by decide) (by decide)
      have o_a10 := gr_ob g44 o_a10
      have o_a13 := gr_ob g44 o_a13
      have o_a14 := gr_ob g44 o_a14
      have o_a22 := gr_ob g44 o_a22
      have o_a23 := gr_ob g44 o_a23
      have o_a27 := gr_ob g44 o_a27
      have o_a36 := gr_ob g44 o_a36
      have o_a40 := gr_ob g44 o_a40
      have o_a7 := gr_ob g44 o_a7
      have o_a8 := gr_ob g44 o_a8
      have o_a9 := gr_ob g44 o_a9
      have o_v0 := gr_ob g44 o_v0
      have g0 := gr_tr (T := S30) g0 g44
      intro _
      refine ⟨fun c46 => ?_, fun c46 => ?_⟩
      · refine ⟨fun c47 => ?_, fun c47 => ?_⟩
        · exact hq _ _ hI g0 f0
        · exact hq _ _ hI g0 f0
      · exact hq _ _ hI g0 f0
    · exact hq _ _ hI g0 f0
  · intro _ _
    refine ⟨fun c48 => ?_, fun c48 => ?_⟩
    · obtain ⟨a49, ea49, o_a49, -⟩ := sh 3 rfl hI o_v0
      refine ⟨a49, ea49, ?_⟩
      obtain ⟨a50, ea50, o_a50, -⟩ := sh 1 rfl hI o_v0
      refine ⟨a50, ea50, ?_⟩
      refine ⟨o_a50, ?_⟩
      obtain ⟨a51, ea51, o_a51, l_a51⟩ := shl 17 rfl hI o_a50
      refine ⟨a51, ea51, ?_⟩
      refine ⟨o_a51, ?_⟩
      have i53 : vp_in v3 (hN _ a51) := (vin l_a51 (m := 12) (by decide) (q712 p_x1 c5 c48))
      obtain ⟨a52, ea52, o_a52⟩ := ae hI o_a51 (by decide) (by decide) i53
      replace o_a52 : ob _ a52 5 := o_a52
      refine ⟨i53, a52, ea52, ?_⟩
      refine ⟨a50, ea50, ?_⟩
      refine ⟨o_a50, ?_⟩
      obtain ⟨a55, ea55, o_a55, l_a55⟩ := shl 15 rfl hI o_a50
      refine ⟨a55, ea55, ?_⟩
      refine ⟨o_a55, ?_⟩
      have i57 : vp_in v5 (hN _ a55) := (vin l_a55 (m := 6) (by decide) (q713 p_x1 c5 c48))
      obtain ⟨a56, ea56, o_a56⟩ := ae hI o_a55 (by decide) (by decide) i57
      replace o_a56 : ob _ a56 3 := o_a56
      refine ⟨i57, a56, ea56, ?_⟩
      refine ⟨o_a49, ?_⟩
      refine m_X1_lay hI o_a49 o_a52 o_a56 (fun S59 hI g60 fc61 => ?_)
      have l_a51 := (gr_len g60 o_a51).trans l_a51
      have l_a55 := (gr_len g60 o_a55).trans l_a55
      have d_x1 := d_x1.trans (fri_at fc61 (by decide) (by decide) o_v0).symm
      have ea49 := (frr_at fc61 (by decide) (by decide) o_v0).trans ea49
      have ea50 := (frr_at fc61 (by decide) (by decide) o_v0).trans ea50
      have ea51 := (frr_at fc61 (by decide) (by decide) o_a50).trans ea51
      have ea55 := (frr_at fc61 (by decide) (by decide) o_a50).trans ea55
      have f0 := fri_tr (S := sI S v0 9 x1) g0 f0 fc61 (by decide) (by decide)
      have o_a49 := gr_ob g60 o_a49
      have o_a50 := gr_ob g60 o_a50
      have o_a51 := gr_ob g60 o_a51
      have o_a52 := gr_ob g60 o_a52
      have o_a55 := gr_ob g60 o_a55
      have o_a56 := gr_ob g60 o_a56
      have o_v0 := gr_ob g60 o_v0
      have g0 := gr_tr (T := sI S v0 9 x1) g0 g60
      intro _
      refine ⟨a49, ea49, ?_⟩
      refine ⟨a50, ea50, ?_⟩
      refine ⟨o_a50, ?_⟩
      obtain ⟨a64, ea64, o_a64, l_a64⟩ := shl 18 rfl hI o_a50
      refine ⟨a64, ea64, ?_⟩
      refine ⟨o_a64, ?_⟩
      have i66 : vp_in v1 (hN _ a64) := (vin l_a64 (m := 4) (by decide) (q714 p_x1 c5 c48))
      obtain ⟨a65, ea65, o_a65⟩ := ae hI o_a64 (by decide) (by decide) i66
      replace o_a65 : ob _ a65 6 := o_a65
      refine ⟨i66, a65, ea65, ?_⟩
      refine ⟨a50, ea50, ?_⟩
      refine ⟨o_a50, ?_⟩
      refine ⟨a64, ea64, ?_⟩
      refine ⟨o_a64, ?_⟩
      have i70 : vp_in v2 (hN _ a64) := (vin l_a64 (m := 4) (by decide) (q715 p_x1 c5 c48))
      obtain ⟨a69, ea69, o_a69⟩ := ae hI o_a64 (by decide) (by decide) i70
      replace o_a69 : ob _ a69 6 := o_a69
      refine ⟨i70, a69, ea69, ?_⟩
      refine ⟨o_a49, ?_⟩
      refine m_X1_wetInLee hI o_a49 o_a65 o_a69 (fun x71 S72 hI g73 fc74 => ?_)
      have l_a51 := (gr_len g73 o_a51).trans l_a51
      have l_a55 := (gr_len g73 o_a55).trans l_a55
      have l_a64 := (gr_len g73 o_a64).trans l_a64
      have d_x1 := d_x1.trans (fri_at fc74 (by decide) (by decide) o_v0).symm
      have ea49 := (frr_at fc74 (by decide) (by decide) o_v0).trans ea49
      have ea50 := (frr_at fc74 (by decide) (by decide) o_v0).trans ea50
      have ea51 := (frr_at fc74 (by decide) (by decide) o_a50).trans ea51
      have ea55 := (frr_at fc74 (by decide) (by decide) o_a50).trans ea55
      have ea64 := (frr_at fc74 (by decide) (by decide) o_a50).trans ea64
      have f0 := fri_tr (S := S59) g0 f0 fc74 (by decide) (by decide)
      have o_a49 := gr_ob g73 o_a49
      have o_a50 := gr_ob g73 o_a50
      have o_a51 := gr_ob g73 o_a51
      have o_a52 := gr_ob g73 o_a52
      have o_a55 := gr_ob g73 o_a55
      have o_a56 := gr_ob g73 o_a56
      have o_a64 := gr_ob g73 o_a64
      have o_a65 := gr_ob g73 o_a65
      have o_a69 := gr_ob g73 o_a69
      have o_v0 := gr_ob g73 o_v0
      have g0 := gr_tr (T := S59) g0 g73
      intro _
      refine ⟨a49, ea49, ?_⟩
      refine ⟨a50, ea50, ?_⟩
      refine ⟨o_a50, ?_⟩
      refine ⟨a64, ea64, ?_⟩
      refine ⟨o_a64, ?_⟩
      have i79 : vp_in v2 (hN _ a64) := (vin l_a64 (m := 4) (by decide) (q715 p_x1 c5 c48))
      obtain ⟨a78, ea78, o_a78⟩ := ae hI o_a64 (by decide) (by decide) i79
      replace o_a78 : ob _ a78 6 := o_a78
      refine ⟨i79, a78, ea78, ?_⟩
      refine ⟨a50, ea50, ?_⟩
      refine ⟨o_a50, ?_⟩
      refine ⟨a64, ea64, ?_⟩
      refine ⟨o_a64, ?_⟩
      have i83 : vp_in v1 (hN _ a64) := (vin l_a64 (m := 4) (by decide) (q714 p_x1 c5 c48))
      obtain ⟨a82, ea82, o_a82⟩ := ae hI o_a64 (by decide) (by decide) i83
      replace o_a82 : ob _ a82 6 := o_a82
      refine ⟨i83, a82, ea82, ?_⟩
      refine ⟨o_a49, ?_⟩
      refine m_X1_wetInLee hI o_a49 o_a78 o_a82 (fun x84 S85 hI g86 fc87 => ?_)
      have l_a51 := (gr_len g86 o_a51).trans l_a51
      have l_a55 := (gr_len g86 o_a55).trans l_a55
      have l_a64 := (gr_len g86 o_a64).trans l_a64
      have d_x1 := d_x1.trans (fri_at fc87 (by decide) (by decide) o_v0).symm
      have ea49 := (frr_at fc87 (by decide) (by decide) o_v0).trans ea49
      have ea50 := (frr_at fc87 (by decide) (by decide) o_v0).trans ea50
      have ea51 := (frr_at fc87 (by decide) (by decide) o_a50).trans ea51
      have ea55 := (frr_at fc87 (by decide) (by decide) o_a50).trans ea55
      have ea64 := (frr_at fc87 (by decide) (by decide) o_a50).trans ea64
      have f0 := fri_tr (S := S72) g0 f0 fc87 (by decide) (by decide)
      have o_a49 := gr_ob g86 o_a49
      have o_a50 := gr_ob g86 o_a50
      have o_a51 := gr_ob g86 o_a51
      have o_a52 := gr_ob g86 o_a52
      have o_a55 := gr_ob g86 o_a55
      have o_a56 := gr_ob g86 o_a56
      have o_a64 := gr_ob g86 o_a64
      have o_a65 := gr_ob g86 o_a65
      have o_a69 := gr_ob g86 o_a69
      have o_a78 := gr_ob g86 o_a78
      have o_a82 := gr_ob g86 o_a82
      have o_v0 := gr_ob g86 o_v0
      have g0 := gr_tr (T := S72) g0 g86
      intro _
      refine ⟨fun c88 => ?_, fun c88 => ?_⟩
      · refine ⟨fun c89 => ?_, fun c89 => ?_⟩
        · exact hq _ _ hI g0 f0
        · exact hq _ _ hI g0 f0
      · exact hq _ _ hI g0 f0
    · exact hq _ _ hI g0 f0
set_option maxHeartbeats 4000000 in
set_option maxRecDepth 20000 in
theorem m_X9_fit {v0 : Nat} {v1 : Int32} {v2 : Int32} {Q : Int32 → HS → Prop} {S : HS} (hI : IV S) (o_v0 : ob S v0 9)     (hq : ∀ (r : Int32) (T : HS), IV T → Gr S T → FRI [(9, 9)] [] S T → Q r T) : P_X9_fit v0 v1 v2 Q S := by
  have g0 := gr_rf S
  have f0 := fri_rf [(9, 9)] [] S
  refine u_X9_fit ?_
  refine u_X9_fit_0 ?_
  refine ⟨o_v0, ?_⟩
  obtain ⟨a1, ea1, o_a1, -⟩ := sh 1 rfl hI o_v0
  refine ⟨a1, ea1, ?_⟩
  refine ⟨o_a1, ?_⟩
  refine m_X8_hasSeen hI o_a1 (fun x2 S3 hI2 g4 b_x2 p_x2 => ?_)
  obtain ⟨z_S3, p_x2⟩ := p_x2
  subst z_S3
  intro _ _
  have bb_x2 : x2 = 0 ∨ x2 = 1 := b_x2
  refine ⟨fun c6 => ?_, fun c6 => ?_⟩
  · refine u_X9_fit_15 ?_
    refine ⟨o_v0, ?_⟩
    refine u_X9_refuse ?_
    refine u_X9_refuse_0 ?_
    refine ⟨o_v0, ?_⟩
    have hI := iv_sI (j := 9) (v := (1 : Int32)) hI o_v0 (by decide) (nu_free (by decide))
    have f0 : FRI _ _ _ (sI S v0 9 (1 : Int32)) := fri_sI (S := S) g0 f0 o_v0 (by decide)
    obtain ⟨y7, hy7⟩ : ∃ z : Int32, z = (1 : Int32) := ⟨_, rfl⟩
    have d_y7 : y7 = fI (sI S v0 9 (1 : Int32)) v0 9 := hy7.trans (u2_self _ _ _ _).symm
    intro _
    exact hq _ _ hI g0 f0
  · refine ⟨fun c8 => ?_, fun c8 => ?_⟩
    · obtain ⟨a9, ea9, o_a9, -⟩ := sh 3 rfl hI o_v0
      refine ⟨a9, ea9, ?_⟩
      refine ⟨a1, ea1, ?_⟩
      refine ⟨o_a9, ?_⟩
      refine m_X1_findFit hI o_a9 o_a1 (fun x11 S12 hI g13 fc14 => ?_)
      have ea1 := (frr_at fc14 (by decide) (by decide) o_v0).trans ea1
      have ea9 := (frr_at fc14 (by decide) (by decide) o_v0).trans ea9
      have f0 := fri_tr (S := S) g0 f0 fc14 (by decide) (by decide)
      have o_a1 := gr_ob g13 o_a1
      have o_a9 := gr_ob g13 o_a9
      have o_v0 := gr_ob g13 o_v0
      have g0 := gr_tr (T := S) g0 g13
      intro _
      refine ⟨fun c15 => ?_, fun c15 => ?_⟩
      · refine u_X9_grant ?_
        refine u_X9_grant_0 ?_
        refine ⟨o_v0, ?_⟩
        have hI := iv_sI (j := 9) (v := (0 : Int32)) hI o_v0 (by decide) (nu_free (by decide))
        have f0 : FRI _ _ _ (sI S12 v0 9 (0 : Int32)) := fri_sI (S := S12) g0 f0 o_v0 (by decide)
        obtain ⟨y16, hy16⟩ : ∃ z : Int32, z = (0 : Int32) := ⟨_, rfl⟩
        have d_y16 : y16 = fI (sI S12 v0 9 (0 : Int32)) v0 9 := hy16.trans (u2_self _ _ _ _).symm
        intro _
        exact hq _ _ hI g0 f0
      · refine u_X9_refuse ?_
        refine u_X9_refuse_0 ?_
        refine ⟨o_v0, ?_⟩
        have hI := iv_sI (j := 9) (v := (1 : Int32)) hI o_v0 (by decide) (nu_free (by decide))
        have f0 : FRI _ _ _ (sI S12 v0 9 (1 : Int32)) := fri_sI (S := S12) g0 f0 o_v0 (by decide)
        obtain ⟨y17, hy17⟩ : ∃ z : Int32, z = (1 : Int32) := ⟨_, rfl⟩
        have d_y17 : y17 = fI (sI S12 v0 9 (1 : Int32)) v0 9 := hy17.trans (u2_self _ _ _ _).symm
        intro _
        exact hq _ _ hI g0 f0
    · refine u_X9_fit_15 ?_
      refine ⟨o_v0, ?_⟩
      refine u_X9_refuse ?_
      refine u_X9_refuse_0 ?_
      refine ⟨o_v0, ?_⟩
      have hI := iv_sI (j := 9) (v := (1 : Int32)) hI o_v0 (by decide) (nu_free (by decide))
      have f0 : FRI _ _ _ (sI S v0 9 (1 : Int32)) := fri_sI (S := S) g0 f0 o_v0 (by decide)
      obtain ⟨y18, hy18⟩ : ∃ z : Int32, z = (1 : Int32) := ⟨_, rfl⟩
      have d_y18 : y18 = fI (sI S v0 9 (1 : Int32)) v0 9 := hy18.trans (u2_self _ _ _ _).symm
      intro _
      exact hq _ _ hI g0 f0
set_option maxHeartbeats 4000000 in
set_option maxRecDepth 20000 in
theorem m_X9_fits {v0 : Nat} {v1 : Int32} {Q : Int32 → HS → Prop} {S : HS} (hI : IV S) (o_v0 : ob S v0 9)     (hq : ∀ (r : Int32) (T : HS), IV T → Gr S T → FRI [(9, 9)] [] S T → Q r T) : P_X9_fits v0 v1 Q S := by
  have g0 := gr_rf S
  have f0 := fri_rf [(9, 9)] [] S
  refine u_X9_fits ?_
  refine u_X9_fits_0 ?_
  refine ⟨o_v0, ?_⟩
  obtain ⟨a1, ea1, o_a1, -⟩ := sh 1 rfl hI o_v0
  refine ⟨a1, ea1, ?_⟩
  refine ⟨o_a1, ?_⟩
  refine m_X8_hasSeen hI o_a1 (fun x2 S3 hI2 g4 b_x2 p_x2 => ?_)
  obtain ⟨z_S3, p_x2⟩ := p_x2
  subst z_S3
  intro _ _
  have bb_x2 : x2 = 0 ∨ x2 = 1 := b_x2
  refine ⟨fun c6 => ?_, fun c6 => ?_⟩
  · obtain ⟨a7, ea7, o_a7, -⟩ := sh 3 rfl hI o_v0
    refine ⟨a7, ea7, ?_⟩
    refine ⟨a1, ea1, ?_⟩
    refine ⟨o_a7, ?_⟩
    refine m_X1_countFits hI o_a7 o_a1 (fun x9 S10 hI g11 fc12 => ?_)
    have ea1 := (frr_at fc12 (by decide) (by decide) o_v0).trans ea1
    have ea7 := (frr_at fc12 (by decide) (by decide) o_v0).trans ea7
    have f0 := fri_tr (S := S) g0 f0 fc12 (by decide) (by decide)
    have o_a1 := gr_ob g11 o_a1
    have o_a7 := gr_ob g11 o_a7
    have o_v0 := gr_ob g11 o_v0
    have g0 := gr_tr (T := S) g0 g11
    intro _
    refine u_X9_grant ?_
    refine u_X9_grant_0 ?_
    refine ⟨o_v0, ?_⟩
    have hI := iv_sI (j := 9) (v := (0 : Int32)) hI o_v0 (by decide) (nu_free (by decide))
    have f0 : FRI _ _ _ (sI S10 v0 9 (0 : Int32)) := fri_sI (S := S10) g0 f0 o_v0 (by decide)
    obtain ⟨y13, hy13⟩ : ∃ z : Int32, z = (0 : Int32) := ⟨_, rfl⟩
    have d_y13 : y13 = fI (sI S10 v0 9 (0 : Int32)) v0 9 := hy13.trans (u2_self _ _ _ _).symm
    intro _
    exact hq _ _ hI g0 f0
  · refine u_X9_refuse ?_
    refine u_X9_refuse_0 ?_
    refine ⟨o_v0, ?_⟩
    have hI := iv_sI (j := 9) (v := (1 : Int32)) hI o_v0 (by decide) (nu_free (by decide))
    have f0 : FRI _ _ _ (sI S v0 9 (1 : Int32)) := fri_sI (S := S) g0 f0 o_v0 (by decide)
    obtain ⟨y14, hy14⟩ : ∃ z : Int32, z = (1 : Int32) := ⟨_, rfl⟩
    have d_y14 : y14 = fI (sI S v0 9 (1 : Int32)) v0 9 := hy14.trans (u2_self _ _ _ _).symm
    intro _
    exact hq _ _ hI g0 f0
set_option maxHeartbeats 4000000 in
set_option maxRecDepth 20000 in
theorem m_X9_go {v0 : Nat} {v1 : Int32} {v2 : Int32} {v3 : Int32} {Q : Int32 → HS → Prop} {S : HS} (hI : IV S) (o_v0 : ob S v0 9)     (hq : ∀ (r : Int32) (T : HS), IV T → Gr S T → FRI [(0, 2), (2, 0), (2, 1), (9, 9)] [] S T → Q r T) : P_X9_go v0 v1 v2 v3 Q S := by
  have g0 := gr_rf S
  have f0 := fri_rf [(0, 2), (2, 0), (2, 1), (9, 9)] [] S
  refine u_X9_go ?_
  refine u_X9_go_0 ?_
  refine ⟨o_v0, ?_⟩
  obtain ⟨a1, ea1, o_a1, -⟩ := sh 5 rfl hI o_v0
  refine ⟨a1, ea1, ?_⟩
  refine ⟨o_a1, ?_⟩
  refine m_X0_isOn hI o_a1 (fun x2 S3 hI2 g4 b_x2 p_x2 => ?_)
  subst p_x2
  intro _ _
  have bb_x2 : x2 = 0 ∨ x2 = 1 := b_x2
  refine ⟨fun c6 => ?_, fun c6 => ?_⟩
  · refine u_X9_go_45 ?_
    refine ⟨o_v0, ?_⟩
    refine u_X9_refuse ?_
    refine u_X9_refuse_0 ?_
    refine ⟨o_v0, ?_⟩
    have hI := iv_sI (j := 9) (v := (1 : Int32)) hI o_v0 (by decide) (nu_free (by decide))
    have f0 : FRI _ _ _ (sI S v0 9 (1 : Int32)) := fri_sI (S := S) g0 f0 o_v0 (by decide)
    obtain ⟨y7, hy7⟩ : ∃ z : Int32, z = (1 : Int32) := ⟨_, rfl⟩
    have d_y7 : y7 = fI (sI S v0 9 (1 : Int32)) v0 9 := hy7.trans (u2_self _ _ _ _).symm
    intro _
    exact hq _ _ hI g0 f0
  · obtain ⟨a8, ea8, o_a8, -⟩ := sh 1 rfl hI o_v0
    refine ⟨a8, ea8, ?_⟩
    refine ⟨a1, ea1, ?_⟩
    refine ⟨o_a1, ?_⟩
    intro x10 ex10
    have r_x10 : (-1 : Int32) ≤ x10 ∧ x10 ≤ (3 : Int32) := by rw [ex10]; exact nu 1 rfl hI o_a1
    have d_x10 := ex10
    refine ⟨o_a8, ?_⟩
    refine m_X8_hasWalker hI o_a8 (fun x11 S12 hI2 g13 b_x11 p_x11 => ?_)
    obtain ⟨z_S12, p_x11⟩ := p_x11
    subst z_S12
    intro _ _
    have bb_x11 : x11 = 0 ∨ x11 = 1 := b_x11
    refine ⟨fun c15 => ?_, fun c15 => ?_⟩
    · refine u_X9_go_45 ?_
      refine ⟨o_v0, ?_⟩
      refine u_X9_refuse ?_
      refine u_X9_refuse_0 ?_
      refine ⟨o_v0, ?_⟩
      have hI := iv_sI (j := 9) (v := (1 : Int32)) hI o_v0 (by decide) (nu_free (by decide))
      have f0 : FRI _ _ _ (sI S v0 9 (1 : Int32)) := fri_sI (S := S) g0 f0 o_v0 (by decide)
      have d_x10 : x10 = fI (sI S v0 9 (1 : Int32)) a1 0 := d_x10.trans (sI_ne (S := S) o_v0 o_a1 (by decide) 0).symm
      obtain ⟨y16, hy16⟩ : ∃ z : Int32, z = (1 : Int32) := ⟨_, rfl⟩
      have d_y16 : y16 = fI (sI S v0 9 (1 : Int32)) v0 9 := hy16.trans (u2_self _ _ _ _).symm
      intro _
      exact hq _ _ hI g0 f0
    · refine ⟨a8, ea8, ?_⟩
      refine ⟨o_a8, ?_⟩
      refine m_X8_hasRoad hI o_a8 (fun x18 S19 hI2 g20 b_x18 p_x18 => ?_)
      obtain ⟨z_S19, p_x18⟩ := p_x18
      subst z_S19
      intro _ _
      have bb_x18 : x18 = 0 ∨ x18 = 1 := b_x18
      refine ⟨fun c22 => ?_, fun c22 => ?_⟩
      · refine u_X9_go_45 ?_
        refine ⟨o_v0, ?_⟩
        refine u_X9_refuse ?_
        refine u_X9_refuse_0 ?_
        refine ⟨o_v0, ?_⟩
        have hI := iv_sI (j := 9) (v := (1 : Int32)) hI o_v0 (by decide) (nu_free (by decide))
        have f0 : FRI _ _ _ (sI S v0 9 (1 : Int32)) := fri_sI (S := S) g0 f0 o_v0 (by decide)
        have d_x10 : x10 = fI (sI S v0 9 (1 : Int32)) a1 0 := d_x10.trans (sI_ne (S := S) o_v0 o_a1 (by decide) 0).symm
        obtain ⟨y23, hy23⟩ : ∃ z : Int32, z = (1 : Int32) := ⟨_, rfl⟩
        have d_y23 : y23 = fI (sI S v0 9 (1 : Int32)) v0 9 := hy23.trans (u2_self _ _ _ _).symm
        intro _
        exact hq _ _ hI g0 f0
      · refine m_X9_isWay hI (fun x24 S25 hI2 g26 b_x24 p_x24 => ?_)
        obtain ⟨z_S25, p_x24⟩ := p_x24
        subst z_S25
        intro _ _
        have bb_x24 : x24 = 0 ∨ x24 = 1 := b_x24
        refine ⟨fun c28 => ?_, fun c28 => ?_⟩
        · refine ⟨a8, ea8, ?_⟩
          refine ⟨o_a8, ?_⟩
          obtain ⟨a30, ea30, o_a30, l_a30⟩ := shl 18 rfl hI o_a8
          refine ⟨a30, ea30, ?_⟩
          refine ⟨a1, ea1, ?_⟩
          refine ⟨o_a1, ?_⟩
          intro x32 ex32
          have r_x32 : (-1 : Int32) ≤ x32 ∧ x32 ≤ (3 : Int32) := by rw [ex32]; exact nu 1 rfl hI o_a1
          have q_x32 : x32 = x10 := ex32.trans d_x10.symm
          have d_x32 := ex32
          refine ⟨o_a30, ?_⟩
          have i34 : vp_in x32 (hN _ a30) := (vin l_a30 (m := 4) (by decide) (q726 bb_x2 c6 r_x10 p_x11 bb_x11 c15 p_x18 bb_x18 c22 p_x24 bb_x24 c28 r_x32 q_x32))
          obtain ⟨a33, ea33, o_a33⟩ := ae hI o_a30 (by decide) (by decide) i34
          replace o_a33 : ob _ a33 6 := o_a33
          refine ⟨i34, a33, ea33, ?_⟩
          refine ⟨a8, ea8, ?_⟩
          refine ⟨o_a8, ?_⟩
          obtain ⟨a36, ea36, o_a36, l_a36⟩ := shl 17 rfl hI o_a8
          refine ⟨a36, ea36, ?_⟩
          refine ⟨o_a36, ?_⟩
          have i38 : vp_in v1 (hN _ a36) := (vin l_a36 (m := 12) (by decide) (q727 bb_x2 c6 r_x10 p_x11 bb_x11 c15 p_x18 bb_x18 c22 p_x24 bb_x24 c28 r_x32 q_x32))
          obtain ⟨a37, ea37, o_a37⟩ := ae hI o_a36 (by decide) (by decide) i38
          replace o_a37 : ob _ a37 5 := o_a37
          refine ⟨i38, a37, ea37, ?_⟩
          refine ⟨o_a33, ?_⟩
          refine m_X6_canGo hI o_a33 (fun x39 S40 hI2 g41 b_x39 p_x39 => ?_)
          subst p_x39
          intro _ _
          have bb_x39 : x39 = 0 ∨ x39 = 1 := b_x39
          refine ⟨fun c43 => ?_, fun c43 => ?_⟩
          · refine ⟨o_a37, ?_⟩
            refine m_X5_startOf hI o_a37 (fun x44 S45 hI2 g46 p_x44 => ?_)
            subst p_x44
            intro _
            refine ⟨a1, ea1, ?_⟩
            refine ⟨o_a1, ?_⟩
            obtain ⟨a49, ea49, o_a49, -⟩ := sh 6 rfl hI o_a1
            refine ⟨a49, ea49, ?_⟩
            refine ⟨o_a49, ?_⟩
            intro x50 ex50
            have d_x50 := ex50
            refine ⟨fun c51 => ?_, fun c51 => ?_⟩
            · refine ⟨a1, ea1, ?_⟩
              refine ⟨o_a1, ?_⟩
              refine ⟨a49, ea49, ?_⟩
              refine ⟨o_a49, ?_⟩
              intro x54 ex54
              have d_x54 := ex54
              refine m_X5_minutesAt hI o_a37 (fun x55 S56 hI2 g57 p_x55 => ?_)
              subst p_x55
              intro _
              intro x59 ex59
              refine ⟨fun c60 => ?_, fun c60 => ?_⟩
              · refine ⟨a1, ea1, ?_⟩
                refine ⟨o_a1, ?_⟩
                refine m_X0_keepForUndo hI o_a1 (fun S63 hI g64 fc65 => ?_)
                have l_a30 := (gr_len g64 o_a30).trans l_a30
                have l_a36 := (gr_len g64 o_a36).trans l_a36
                have d_x32 := d_x32.trans (fri_at fc65 (by decide) (by decide) o_a1).symm
                have ea1 := (frr_at fc65 (by decide) (by decide) o_v0).trans ea1
                have ea8 := (frr_at fc65 (by decide) (by decide) o_v0).trans ea8
                have ea30 := (frr_at fc65 (by decide) (by decide) o_a8).trans ea30
                have ea36 := (frr_at fc65 (by decide) (by decide) o_a8).trans ea36
                have ea49 := (frr_at fc65 (by decide) (by decide) o_a1).trans ea49
                have f0 := fri_tr (S := S) g0 f0 fc65 (by decide) (by decide)
                have o_a1 := gr_ob g64 o_a1
                have o_a30 := gr_ob g64 o_a30
                have o_a33 := gr_ob g64 o_a33
                have o_a36 := gr_ob g64 o_a36
                have o_a37 := gr_ob g64 o_a37
                have o_a49 := gr_ob g64 o_a49
                have o_a8 := gr_ob g64 o_a8
                have o_v0 := gr_ob g64 o_v0
                have g0 := gr_tr (T := S) g0 g64
                intro _
                refine ⟨a8, ea8, ?_⟩
                refine ⟨a1, ea1, ?_⟩
                refine ⟨o_a1, ?_⟩
                refine ⟨a49, ea49, ?_⟩
                refine ⟨o_a49, ?_⟩
                intro x69 ex69
                have d_x69 := ex69
                refine ⟨o_a8, ?_⟩
                refine m_X8_hourOf hI o_a8 (fun x70 S71 hI2 g72 p_x70 => ?_)
                subst p_x70
                intro _
                refine ⟨a8, ea8, ?_⟩
                refine ⟨o_a8, ?_⟩
                refine m_X8_hasHour hI o_a8 (fun x75 S76 hI2 g77 b_x75 p_x75 => ?_)
                obtain ⟨z_S76, p_x75⟩ := p_x75
                subst z_S76
                intro _ _
                have bb_x75 : x75 = 0 ∨ x75 = 1 := b_x75
                refine ⟨fun c79 => ?_, fun c79 => ?_⟩
                · refine u_X9_go_243 ?_
                  refine ⟨o_v0, ?_⟩
                  refine ⟨a1, ea1, ?_⟩
                  refine ⟨o_a1, ?_⟩
                  refine ⟨a49, ea49, ?_⟩
                  refine ⟨o_a37, ?_⟩
                  refine m_X5_endOf hI o_a37 (fun x82 S83 hI2 g84 p_x82 => ?_)
                  subst p_x82
                  intro _
                  refine ⟨o_a49, ?_⟩
                  have hI := iv_sI (j := 0) (v := x82) hI o_a49 (by decide) (nu_free (by decide))
                  have f0 : FRI _ _ _ (sI S63 a49 0 x82) := fri_sI (S := S63) g0 f0 o_a49 (by decide)
                  have d_x32 : x32 = fI (sI S63 a49 0 x82) a1 0 := d_x32.trans (sI_ne (S := S63) o_a49 o_a1 (by decide) 0).symm
                  have d_x69 : x69 = fI (sI S63 a49 0 x82) a49 1 := d_x69.trans (rd_j (by decide)).symm
                  have d_x82 : x82 = fI (sI S63 a49 0 x82) a49 0 := (u2_self _ _ _ _).symm
                  refine ⟨a1, ea1, ?_⟩
                  refine ⟨o_a1, ?_⟩
                  refine ⟨a49, ea49, ?_⟩
                  refine ⟨o_a49, ?_⟩
                  have hI := iv_sI (j := 1) (v := x59) hI o_a49 (by decide) (nu_free (by decide))
                  have f0 : FRI _ _ _ (sI (sI S63 a49 0 x82) a49 1 x59) := fri_sI (S := sI S63 a49 0 x82) g0 f0 o_a49 (by decide)
                  have d_x32 : x32 = fI (sI (sI S63 a49 0 x82) a49 1 x59) a1 0 := d_x32.trans (sI_ne (S := sI S63 a49 0 x82) o_a49 o_a1 (by decide) 0).symm
                  have d_x82 : x82 = fI (sI (sI S63 a49 0 x82) a49 1 x59) a49 0 := d_x82.trans (rd_j (by decide)).symm
                  have d_x59 : x59 = fI (sI (sI S63 a49 0 x82) a49 1 x59) a49 1 := (u2_self _ _ _ _).symm
                  refine u_X9_grant ?_
                  refine u_X9_grant_0 ?_
                  refine ⟨o_v0, ?_⟩
                  have hI := iv_sI (j := 9) (v := (0 : Int32)) hI o_v0 (by decide) (nu_free (by decide))
                  have f0 : FRI _ _ _ (sI (sI (sI S63 a49 0 x82) a49 1 x59) v0 9 (0 : Int32)) := fri_sI (S := sI (sI S63 a49 0 x82) a49 1 x59) g0 f0 o_v0 (by decide)
                  have d_x32 : x32 = fI (sI (sI (sI S63 a49 0 x82) a49 1 x59) v0 9 (0 : Int32)) a1 0 := d_x32.trans (sI_ne (S := sI (sI S63 a49 0 x82) a49 1 x59) o_v0 o_a1 (by decide) 0).symm
                  have d_x82 : x82 = fI (sI (sI (sI S63 a49 0 x82) a49 1 x59) v0 9 (0 : Int32)) a49 0 := d_x82.trans (sI_ne (S := sI (sI S63 a49 0 x82) a49 1 x59) o_v0 o_a49 (by decide) 0).symm
                  have d_x59 : x59 = fI (sI (sI (sI S63 a49 0 x82) a49 1 x59) v0 9 (0 : Int32)) a49 1 := d_x59.trans (sI_ne (S := sI (sI S63 a49 0 x82) a49 1 x59) o_v0 o_a49 (by decide) 1).symm
                  obtain ⟨y88, hy88⟩ : ∃ z : Int32, z = (0 : Int32) := ⟨_, rfl⟩
                  have d_y88 : y88 = fI (sI (sI (sI S63 a49 0 x82) a49 1 x59) v0 9 (0 : Int32)) v0 9 := hy88.trans (u2_self _ _ _ _).symm
                  intro _
                  exact hq _ _ hI g0 f0
                · refine ⟨a1, ea1, ?_⟩
                  refine ⟨o_a1, ?_⟩
                  refine m_X0_rainsIn hI o_a1 (fun x90 S91 hI2 g92 b_x90 p_x90 => ?_)
                  subst p_x90
                  intro _ _
                  have bb_x90 : x90 = 0 ∨ x90 = 1 := b_x90
                  refine ⟨fun c94 => ?_, fun c94 => ?_⟩
                  · refine u_X9_go_243 ?_
                    refine ⟨o_v0, ?_⟩
                    refine ⟨a1, ea1, ?_⟩
                    refine ⟨o_a1, ?_⟩
                    refine ⟨a49, ea49, ?_⟩
                    refine ⟨o_a37, ?_⟩
                    refine m_X5_endOf hI o_a37 (fun x97 S98 hI2 g99 p_x97 => ?_)
                    subst p_x97
                    intro _
                    refine ⟨o_a49, ?_⟩
                    have hI := iv_sI (j := 0) (v := x97) hI o_a49 (by decide) (nu_free (by decide))
                    have f0 : FRI _ _ _ (sI S63 a49 0 x97) := fri_sI (S := S63) g0 f0 o_a49 (by decide)
                    have d_x32 : x32 = fI (sI S63 a49 0 x97) a1 0 := d_x32.trans (sI_ne (S := S63) o_a49 o_a1 (by decide) 0).symm
                    have d_x69 : x69 = fI (sI S63 a49 0 x97) a49 1 := d_x69.trans (rd_j (by decide)).symm
                    have d_x97 : x97 = fI (sI S63 a49 0 x97) a49 0 := (u2_self _ _ _ _).symm
                    refine ⟨a1, ea1, ?_⟩
                    refine ⟨o_a1, ?_⟩
                    refine ⟨a49, ea49, ?_⟩
                    refine ⟨o_a49, ?_⟩
                    have hI := iv_sI (j := 1) (v := x59) hI o_a49 (by decide) (nu_free (by decide))
                    have f0 : FRI _ _ _ (sI (sI S63 a49 0 x97) a49 1 x59) := fri_sI (S := sI S63 a49 0 x97) g0 f0 o_a49 (by decide)
                    have d_x32 : x32 = fI (sI (sI S63 a49 0 x97) a49 1 x59) a1 0 := d_x32.trans (sI_ne (S := sI S63 a49 0 x97) o_a49 o_a1 (by decide) 0).symm
                    have d_x97 : x97 = fI (sI (sI S63 a49 0 x97) a49 1 x59) a49 0 := d_x97.trans (rd_j (by decide)).symm
                    have d_x59 : x59 = fI (sI (sI S63 a49 0 x97) a49 1 x59) a49 1 := (u2_self _ _ _ _).symm
                    refine u_X9_grant ?_
                    refine u_X9_grant_0 ?_
                    refine ⟨o_v0, ?_⟩
                    have hI := iv_sI (j := 9) (v := (0 : Int32)) hI o_v0 (by decide) (nu_free (by decide))
                    have f0 : FRI _ _ _ (sI (sI (sI S63 a49 0 x97) a49 1 x59) v0 9 (0 : Int32)) := fri_sI (S := sI (sI S63 a49 0 x97) a49 1 x59) g0 f0 o_v0 (by decide)
                    have d_x32 : x32 = fI (sI (sI (sI S63 a49 0 x97) a49 1 x59) v0 9 (0 : Int32)) a1 0 := d_x32.trans (sI_ne (S := sI (sI S63 a49 0 x97) a49 1 x59) o_v0 o_a1 (by decide) 0).symm
                    have d_x97 : x97 = fI (sI (sI (sI S63 a49 0 x97) a49 1 x59) v0 9 (0 : Int32)) a49 0 := d_x97.trans (sI_ne (S := sI (sI S63 a49 0 x97) a49 1 x59) o_v0 o_a49 (by decide) 0).symm
                    have d_x59 : x59 = fI (sI (sI (sI S63 a49 0 x97) a49 1 x59) v0 9 (0 : Int32)) a49 1 := d_x59.trans (sI_ne (S := sI (sI S63 a49 0 x97) a49 1 x59) o_v0 o_a49 (by decide) 1).symm
                    obtain ⟨y103, hy103⟩ : ∃ z : Int32, z = (0 : Int32) := ⟨_, rfl⟩
                    have d_y103 : y103 = fI (sI (sI (sI S63 a49 0 x97) a49 1 x59) v0 9 (0 : Int32)) v0 9 := hy103.trans (u2_self _ _ _ _).symm
                    intro _
                    exact hq _ _ hI g0 f0
                  · obtain ⟨a104, ea104, o_a104, -⟩ := sh 3 rfl hI o_v0
                    refine ⟨a104, ea104, ?_⟩
                    refine ⟨a8, ea8, ?_⟩
                    refine ⟨o_a8, ?_⟩
                    obtain ⟨a106, ea106, o_a106, l_a106⟩ := shl 15 rfl hI o_a8
                    refine ⟨a106, ea106, ?_⟩
                    refine ⟨o_a106, ?_⟩
                    have i108 : vp_in x70 (hN _ a106) := (vin l_a106 (m := 6) (by decide) (q728 bb_x2 c6 r_x10 p_x11 bb_x11 c15 p_x18 bb_x18 c22 p_x24 bb_x24 c28 r_x32 q_x32 bb_x39 c43 c51 ex59 c60 p_x75 bb_x75 c79 bb_x90 c94))
                    obtain ⟨a107, ea107, o_a107⟩ := ae hI o_a106 (by decide) (by decide) i108
                    replace o_a107 : ob _ a107 3 := o_a107
                    refine ⟨i108, a107, ea107, ?_⟩
                    refine ⟨o_a104, ?_⟩
                    refine m_X1_wetOf hI o_a104 o_a33 o_a37 o_a107 (fun x109 S110 hI g111 fc112 => ?_)
                    have l_a106 := (gr_len g111 o_a106).trans l_a106
                    have l_a30 := (gr_len g111 o_a30).trans l_a30
                    have l_a36 := (gr_len g111 o_a36).trans l_a36
                    have d_x32 := d_x32.trans (fri_at fc112 (by decide) (by decide) o_a1).symm
                    have d_x69 := d_x69.trans (fri_at fc112 (by decide) (by decide) o_a49).symm
                    have ea1 := (frr_at fc112 (by decide) (by decide) o_v0).trans ea1
                    have ea8 := (frr_at fc112 (by decide) (by decide) o_v0).trans ea8
                    have ea30 := (frr_at fc112 (by decide) (by decide) o_a8).trans ea30
                    have ea36 := (frr_at fc112 (by decide) (by decide) o_a8).trans ea36
                    have ea49 := (frr_at fc112 (by decide) (by decide) o_a1).trans ea49
                    have ea104 := (frr_at fc112 (by decide) (by decide) o_v0).trans ea104
                    have ea106 := (frr_at fc112 (by decide) (by decide) o_a8).trans ea106
                    have f0 := fri_tr (S := S63) g0 f0 fc112 (by decide) (by decide)
                    have o_a1 := gr_ob g111 o_a1
                    have o_a104 := gr_ob g111 o_a104
                    have o_a106 := gr_ob g111 o_a106
                    have o_a107 := gr_ob g111 o_a107
                    have o_a30 := gr_ob g111 o_a30
                    have o_a33 := gr_ob g111 o_a33
                    have o_a36 := gr_ob g111 o_a36
                    have o_a37 := gr_ob g111 o_a37
                    have o_a49 := gr_ob g111 o_a49
                    have o_a8 := gr_ob g111 o_a8
                    have o_v0 := gr_ob g111 o_v0
                    have g0 := gr_tr (T := S63) g0 g111
                    intro _
                    refine ⟨a1, ea1, ?_⟩
                    refine ⟨o_a1, ?_⟩
                    refine ⟨a49, ea49, ?_⟩
                    refine ⟨a104, ea104, ?_⟩
                    refine ⟨o_a104, ?_⟩
                    obtain ⟨a116, ea116, o_a116, l_a116⟩ := shl 9 rfl hI o_a104
                    refine ⟨a116, ea116, ?_⟩
                    refine ⟨o_a49, ?_⟩
                    refine m_X2_addFaces hI o_a49 o_a116 l_a116 (fun S118 hI g119 fc120 => ?_)
                    have l_a106 := (gr_len g119 o_a106).trans l_a106
                    have l_a116 := (gr_len g119 o_a116).trans l_a116
                    have l_a30 := (gr_len g119 o_a30).trans l_a30
                    have l_a36 := (gr_len g119 o_a36).trans l_a36
                    have d_x32 := d_x32.trans (fri_at fc120 (by decide) (by decide) o_a1).symm
                    have d_x69 := d_x69.trans (fri_at fc120 (by decide) (by decide) o_a49).symm
                    have ea1 := (frr_at fc120 (by decide) (by decide) o_v0).trans ea1
                    have ea8 := (frr_at fc120 (by decide) (by decide) o_v0).trans ea8
                    have ea30 := (frr_at fc120 (by decide) (by decide) o_a8).trans ea30
                    have ea36 := (frr_at fc120 (by decide) (by decide) o_a8).trans ea36
                    have ea49 := (frr_at fc120 (by decide) (by decide) o_a1).trans ea49
                    have ea104 := (frr_at fc120 (by decide) (by decide) o_v0).trans ea104
                    have ea106 := (frr_at fc120 (by decide) (by decide) o_a8).trans ea106
                    have ea116 := (frr_at fc120 (by decide) (by decide) o_a104).trans ea116
                    have f0 := fri_tr (S := S110) g0 f0 fc120 (by decide) (by decide)
                    have o_a1 := gr_ob g119 o_a1
                    have o_a104 := gr_ob g119 o_a104
                    have o_a106 := gr_ob g119 o_a106
                    have o_a107 := gr_ob g119 o_a107
                    have o_a116 := gr_ob g119 o_a116
                    have o_a30 := gr_ob g119 o_a30
                    have o_a33 := gr_ob g119 o_a33
                    have o_a36 := gr_ob g119 o_a36
                    have o_a37 := gr_ob g119 o_a37
                    have o_a49 := gr_ob g119 o_a49
                    have o_a8 := gr_ob g119 o_a8
                    have o_v0 := gr_ob g119 o_v0
                    have g0 := gr_tr (T := S110) g0 g119
                    intro _
                    refine u_X9_go_243 ?_
                    refine ⟨o_v0, ?_⟩
                    refine ⟨a1, ea1, ?_⟩
                    refine ⟨o_a1, ?_⟩
                    refine ⟨a49, ea49, ?_⟩
                    refine ⟨o_a37, ?_⟩
                    refine m_X5_endOf hI o_a37 (fun x123 S124 hI2 g125 p_x123 => ?_)
                    subst p_x123
                    intro _
                    refine ⟨o_a49, ?_⟩
                    have hI := iv_sI (j := 0) (v := x123) hI o_a49 (by decide) (nu_free (by decide))
                    have f0 : FRI _ _ _ (sI S118 a49 0 x123) := fri_sI (S := S118) g0 f0 o_a49 (by decide)
                    have d_x32 : x32 = fI (sI S118 a49 0 x123) a1 0 := d_x32.trans (sI_ne (S := S118) o_a49 o_a1 (by decide) 0).symm
                    have d_x69 : x69 = fI (sI S118 a49 0 x123) a49 1 := d_x69.trans (rd_j (by decide)).symm
                    have d_x123 : x123 = fI (sI S118 a49 0 x123) a49 0 := (u2_self _ _ _ _).symm
                    refine ⟨a1, ea1, ?_⟩
                    refine ⟨o_a1, ?_⟩
                    refine ⟨a49, ea49, ?_⟩
                    refine ⟨o_a49, ?_⟩
                    have hI := iv_sI (j := 1) (v := x59) hI o_a49 (by decide) (nu_free (by decide))
                    have f0 : FRI _ _ _ (sI (sI S118 a49 0 x123) a49 1 x59) := fri_sI (S := sI S118 a49 0 x123) g0 f0 o_a49 (by decide)
                    have d_x32 : x32 = fI (sI (sI S118 a49 0 x123) a49 1 x59) a1 0 := d_x32.trans (sI_ne (S := sI S118 a49 0 x123) o_a49 o_a1 (by decide) 0).symm
                    have d_x123 : x123 = fI (sI (sI S118 a49 0 x123) a49 1 x59) a49 0 := d_x123.trans (rd_j (by decide)).symm
                    have d_x59 : x59 = fI (sI (sI S118 a49 0 x123) a49 1 x59) a49 1 := (u2_self _ _ _ _).symm
                    refine u_X9_grant ?_
                    refine u_X9_grant_0 ?_
                    refine ⟨o_v0, ?_⟩
                    have hI := iv_sI (j := 9) (v := (0 : Int32)) hI o_v0 (by decide) (nu_free (by decide))
                    have f0 : FRI _ _ _ (sI (sI (sI S118 a49 0 x123) a49 1 x59) v0 9 (0 : Int32)) := fri_sI (S := sI (sI S118 a49 0 x123) a49 1 x59) g0 f0 o_v0 (by decide)
                    have d_x32 : x32 = fI (sI (sI (sI S118 a49 0 x123) a49 1 x59) v0 9 (0 : Int32)) a1 0 := d_x32.trans (sI_ne (S := sI (sI S118 a49 0 x123) a49 1 x59) o_v0 o_a1 (by decide) 0).symm
                    have d_x123 : x123 = fI (sI (sI (sI S118 a49 0 x123) a49 1 x59) v0 9 (0 : Int32)) a49 0 := d_x123.trans (sI_ne (S := sI (sI S118 a49 0 x123) a49 1 x59) o_v0 o_a49 (by decide) 0).symm
                    have d_x59 : x59 = fI (sI (sI (sI S118 a49 0 x123) a49 1 x59) v0 9 (0 : Int32)) a49 1 := d_x59.trans (sI_ne (S := sI (sI S118 a49 0 x123) a49 1 x59) o_v0 o_a49 (by decide) 1).symm
                    obtain ⟨y129, hy129⟩ : ∃ z : Int32, z = (0 : Int32) := ⟨_, rfl⟩
                    have d_y129 : y129 = fI (sI (sI (sI S118 a49 0 x123) a49 1 x59) v0 9 (0 : Int32)) v0 9 := hy129.trans (u2_self _ _ _ _).symm
                    intro _
                    exact hq _ _ hI g0 f0
              · refine u_X9_refuse ?_
                refine u_X9_refuse_0 ?_
                refine ⟨o_v0, ?_⟩
                have hI := iv_sI (j := 9) (v := (3 : Int32)) hI o_v0 (by decide) (nu_free (by decide))
                have f0 : FRI _ _ _ (sI S v0 9 (3 : Int32)) := fri_sI (S := S) g0 f0 o_v0 (by decide)
                have d_x32 : x32 = fI (sI S v0 9 (3 : Int32)) a1 0 := d_x32.trans (sI_ne (S := S) o_v0 o_a1 (by decide) 0).symm
                have d_x50 : x50 = fI (sI S v0 9 (3 : Int32)) a49 0 := d_x50.trans (sI_ne (S := S) o_v0 o_a49 (by decide) 0).symm
                have d_x54 : x54 = fI (sI S v0 9 (3 : Int32)) a49 1 := d_x54.trans (sI_ne (S := S) o_v0 o_a49 (by decide) 1).symm
                obtain ⟨y130, hy130⟩ : ∃ z : Int32, z = (3 : Int32) := ⟨_, rfl⟩
                have d_y130 : y130 = fI (sI S v0 9 (3 : Int32)) v0 9 := hy130.trans (u2_self _ _ _ _).symm
                intro _
                exact hq _ _ hI g0 f0
            · refine u_X9_refuse ?_
              refine u_X9_refuse_0 ?_
              refine ⟨o_v0, ?_⟩
              have hI := iv_sI (j := 9) (v := (5 : Int32)) hI o_v0 (by decide) (nu_free (by decide))
              have f0 : FRI _ _ _ (sI S v0 9 (5 : Int32)) := fri_sI (S := S) g0 f0 o_v0 (by decide)
              have d_x32 : x32 = fI (sI S v0 9 (5 : Int32)) a1 0 := d_x32.trans (sI_ne (S := S) o_v0 o_a1 (by decide) 0).symm
              have d_x50 : x50 = fI (sI S v0 9 (5 : Int32)) a49 0 := d_x50.trans (sI_ne (S := S) o_v0 o_a49 (by decide) 0).symm
              obtain ⟨y131, hy131⟩ : ∃ z : Int32, z = (5 : Int32) := ⟨_, rfl⟩
              have d_y131 : y131 = fI (sI S v0 9 (5 : Int32)) v0 9 := hy131.trans (u2_self _ _ _ _).symm
              intro _
              exact hq _ _ hI g0 f0
          · refine u_X9_refuse ?_
            refine u_X9_refuse_0 ?_
            refine ⟨o_v0, ?_⟩
            have hI := iv_sI (j := 9) (v := (2 : Int32)) hI o_v0 (by decide) (nu_free (by decide))
            have f0 : FRI _ _ _ (sI S v0 9 (2 : Int32)) := fri_sI (S := S) g0 f0 o_v0 (by decide)
            have d_x32 : x32 = fI (sI S v0 9 (2 : Int32)) a1 0 := d_x32.trans (sI_ne (S := S) o_v0 o_a1 (by decide) 0).symm
            obtain ⟨y132, hy132⟩ : ∃ z : Int32, z = (2 : Int32) := ⟨_, rfl⟩
            have d_y132 : y132 = fI (sI S v0 9 (2 : Int32)) v0 9 := hy132.trans (u2_self _ _ _ _).symm
            intro _
            exact hq _ _ hI g0 f0
        · refine u_X9_go_45 ?_
          refine ⟨o_v0, ?_⟩
          refine u_X9_refuse ?_
          refine u_X9_refuse_0 ?_
          refine ⟨o_v0, ?_⟩
          have hI := iv_sI (j := 9) (v := (1 : Int32)) hI o_v0 (by decide) (nu_free (by decide))
          have f0 : FRI _ _ _ (sI S v0 9 (1 : Int32)) := fri_sI (S := S) g0 f0 o_v0 (by decide)
          have d_x10 : x10 = fI (sI S v0 9 (1 : Int32)) a1 0 := d_x10.trans (sI_ne (S := S) o_v0 o_a1 (by decide) 0).symm
          obtain ⟨y133, hy133⟩ : ∃ z : Int32, z = (1 : Int32) := ⟨_, rfl⟩
          have d_y133 : y133 = fI (sI S v0 9 (1 : Int32)) v0 9 := hy133.trans (u2_self _ _ _ _).symm
          intro _
          exact hq _ _ hI g0 f0
