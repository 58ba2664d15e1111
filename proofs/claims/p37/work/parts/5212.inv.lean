set_option maxHeartbeats 4000000 in
set_option maxRecDepth 20000 in
theorem m_X9_first {v0 : Nat} {v1 : Int32} {v2 : Int32} {v3 : Int32} {v4 : Int32} {v5 : Int32} {v6 : Int32} {Q : Int32 → HS → Prop} {S : HS} (hI : IV S) (o_v0 : ob S v0 9)     (hq : ∀ (r : Int32) (T : HS), IV T → Gr S T → FRI [(9, 9)] [] S T → Q r T) : P_X9_first v0 v1 v2 v3 v4 v5 v6 Q S := by
  have g0 := gr_rf S
  have f0 := fri_rf [(9, 9)] [] S
  refine u_X9_first ?_
  refine u_X9_first_0 ?_
  refine ⟨o_v0, ?_⟩
  refine m_X9_leeTrouble hI o_v0 (fun x1 S2 hI2 g3 p_x1 => ?_)
  obtain ⟨z_S2, p_x1⟩ := p_x1
  subst z_S2
  intro _
  refine u_X9_refusedBy ?_
  refine u_X9_refusedBy_0 ?_
  refine ⟨o_v0, ?_⟩
  intro S5 eS5
  have hI : IV S5 := by rw [eS5]; exact iv_sI hI o_v0 (by decide) (nu_free (by decide))
  have f0 := fr_I eS5 g0 f0 o_v0 (by decide)
  have d_x1 := rd_Is eS5 (rfl : x1 = x1)
  have g0 := gr_I eS5 g0
  have o_v0 := ob_I eS5 o_v0
  refine ⟨fun c6 => ?_, fun c6 => ?_⟩
  · intro _ _
    refine ⟨fun c8 => ?_, fun c8 => ?_⟩
    · obtain ⟨a9, ea9, o_a9, -⟩ := sh 3 rfl hI o_v0
      refine ⟨a9, ea9, ?_⟩
      obtain ⟨a10, ea10, o_a10, -⟩ := sh 1 rfl hI o_v0
      refine ⟨a10, ea10, ?_⟩
      refine ⟨o_a10, ?_⟩
      obtain ⟨a11, ea11, o_a11, l_a11⟩ := shl 17 rfl hI o_a10
      refine ⟨a11, ea11, ?_⟩
      refine ⟨o_a11, ?_⟩
      have i13 : vp_in v3 (hN _ a11) := (vin l_a11 (m := 12) (by decide) (q1352 p_x1 c6))
      obtain ⟨a12, ea12, o_a12⟩ := ae hI o_a11 (by decide) (by decide) i13
      replace o_a12 : ob _ a12 5 := o_a12
      refine ⟨i13, a12, ea12, ?_⟩
      refine ⟨a10, ea10, ?_⟩
      refine ⟨o_a10, ?_⟩
      obtain ⟨a15, ea15, o_a15, l_a15⟩ := shl 15 rfl hI o_a10
      refine ⟨a15, ea15, ?_⟩
      refine ⟨o_a15, ?_⟩
      have i17 : vp_in v5 (hN _ a15) := (vin l_a15 (m := 6) (by decide) (q1353 p_x1 c6))
      obtain ⟨a16, ea16, o_a16⟩ := ae hI o_a15 (by decide) (by decide) i17
      replace o_a16 : ob _ a16 3 := o_a16
      refine ⟨i17, a16, ea16, ?_⟩
      refine ⟨o_a9, ?_⟩
      refine m_X1_lay hI o_a9 o_a12 o_a16 (fun S19 hJ g20 fc21 => ?_)
      have hI := hJ
      have l_a11 := (gr_len g20 o_a11).trans l_a11
      have l_a15 := (gr_len g20 o_a15).trans l_a15
      have d_x1 := d_x1.trans (fri_at fc21 (by decide) (by decide) o_v0).symm
      have ea9 := (frr_at fc21 (by decide) (by decide) o_v0).trans ea9
      have ea10 := (frr_at fc21 (by decide) (by decide) o_v0).trans ea10
      have ea11 := (frr_at fc21 (by decide) (by decide) o_a10).trans ea11
      have ea15 := (frr_at fc21 (by decide) (by decide) o_a10).trans ea15
      have f0 := fri_tr (S := S5) g0 f0 fc21 (by decide) (by decide)
      have o_a10 := gr_ob g20 o_a10
      have o_a11 := gr_ob g20 o_a11
      have o_a12 := gr_ob g20 o_a12
      have o_a15 := gr_ob g20 o_a15
      have o_a16 := gr_ob g20 o_a16
      have o_a9 := gr_ob g20 o_a9
      have o_v0 := gr_ob g20 o_v0
      have g0 := gr_tr (T := S5) g0 g20
      intro _
      refine ⟨a9, ea9, ?_⟩
      refine ⟨a10, ea10, ?_⟩
      refine ⟨o_a10, ?_⟩
      obtain ⟨a24, ea24, o_a24, l_a24⟩ := shl 18 rfl hI o_a10
      refine ⟨a24, ea24, ?_⟩
      refine ⟨o_a24, ?_⟩
      have i26 : vp_in v1 (hN _ a24) := (vin l_a24 (m := 4) (by decide) (q1354 p_x1 c6))
      obtain ⟨a25, ea25, o_a25⟩ := ae hI o_a24 (by decide) (by decide) i26
      replace o_a25 : ob _ a25 6 := o_a25
      refine ⟨i26, a25, ea25, ?_⟩
      refine ⟨a10, ea10, ?_⟩
      refine ⟨o_a10, ?_⟩
      refine ⟨a24, ea24, ?_⟩
      refine ⟨o_a24, ?_⟩
      have i30 : vp_in v2 (hN _ a24) := (vin l_a24 (m := 4) (by decide) (q1355 p_x1 c6))
      obtain ⟨a29, ea29, o_a29⟩ := ae hI o_a24 (by decide) (by decide) i30
      replace o_a29 : ob _ a29 6 := o_a29
      refine ⟨i30, a29, ea29, ?_⟩
      refine ⟨o_a9, ?_⟩
      refine m_X1_wetInLee hI o_a9 o_a25 o_a29 (fun x31 S32 hJ g33 fc34 => ?_)
      have hI := hJ
      have l_a11 := (gr_len g33 o_a11).trans l_a11
      have l_a15 := (gr_len g33 o_a15).trans l_a15
      have l_a24 := (gr_len g33 o_a24).trans l_a24
      have d_x1 := d_x1.trans (fri_at fc34 (by decide) (by decide) o_v0).symm
      have ea9 := (frr_at fc34 (by decide) (by decide) o_v0).trans ea9
      have ea10 := (frr_at fc34 (by decide) (by decide) o_v0).trans ea10
      have ea11 := (frr_at fc34 (by decide) (by decide) o_a10).trans ea11
      have ea15 := (frr_at fc34 (by decide) (by decide) o_a10).trans ea15
      have ea24 := (frr_at fc34 (by decide) (by decide) o_a10).trans ea24
      have f0 := fri_tr (S := S19) g0 f0 fc34 (by decide) (by decide)
      have o_a10 := gr_ob g33 o_a10
      have o_a11 := gr_ob g33 o_a11
      have o_a12 := gr_ob g33 o_a12
      have o_a15 := gr_ob g33 o_a15
      have o_a16 := gr_ob g33 o_a16
      have o_a24 := gr_ob g33 o_a24
      have o_a25 := gr_ob g33 o_a25
      have o_a29 := gr_ob g33 o_a29
      have o_a9 := gr_ob g33 o_a9
      have o_v0 := gr_ob g33 o_v0
      have g0 := gr_tr (T := S19) g0 g33
      intro _
      refine ⟨a9, ea9, ?_⟩
      refine ⟨a10, ea10, ?_⟩
      refine ⟨o_a10, ?_⟩
      refine ⟨a24, ea24, ?_⟩
      refine ⟨o_a24, ?_⟩
      have i39 : vp_in v2 (hN _ a24) := (vin l_a24 (m := 4) (by decide) (q1355 p_x1 c6))
      obtain ⟨a38, ea38, o_a38⟩ := ae hI o_a24 (by decide) (by decide) i39
      replace o_a38 : ob _ a38 6 := o_a38
      refine ⟨i39, a38, ea38, ?_⟩
      refine ⟨a10, ea10, ?_⟩
      refine ⟨o_a10, ?_⟩
      refine ⟨a24, ea24, ?_⟩
      refine ⟨o_a24, ?_⟩
      have i43 : vp_in v1 (hN _ a24) := (vin l_a24 (m := 4) (by decide) (q1354 p_x1 c6))
      obtain ⟨a42, ea42, o_a42⟩ := ae hI o_a24 (by decide) (by decide) i43
      replace o_a42 : ob _ a42 6 := o_a42
      refine ⟨i43, a42, ea42, ?_⟩
      refine ⟨o_a9, ?_⟩
      refine m_X1_wetInLee hI o_a9 o_a38 o_a42 (fun x44 S45 hJ g46 fc47 => ?_)
      have hI := hJ
      have l_a11 := (gr_len g46 o_a11).trans l_a11
      have l_a15 := (gr_len g46 o_a15).trans l_a15
      have l_a24 := (gr_len g46 o_a24).trans l_a24
      have d_x1 := d_x1.trans (fri_at fc47 (by decide) (by decide) o_v0).symm
      have ea9 := (frr_at fc47 (by decide) (by decide) o_v0).trans ea9
      have ea10 := (frr_at fc47 (by decide) (by decide) o_v0).trans ea10
      have ea11 := (frr_at fc47 (by decide) (by decide) o_a10).trans ea11
      have ea15 := (frr_at fc47 (by decide) (by decide) o_a10).trans ea15
      have ea24 := (frr_at fc47 (by decide) (by decide) o_a10).trans ea24
      have f0 := fri_tr (S := S32) g0 f0 fc47 (by decide) (by decide)
      have o_a10 := gr_ob g46 o_a10
      have o_a11 := gr_ob g46 o_a11
      have o_a12 := gr_ob g46 o_a12
      have o_a15 := gr_ob g46 o_a15
      have o_a16 := gr_ob g46 o_a16
      have o_a24 := gr_ob g46 o_a24
      have o_a25 := gr_ob g46 o_a25
      have o_a29 := gr_ob g46 o_a29
      have o_a38 := gr_ob g46 o_a38
      have o_a42 := gr_ob g46 o_a42
      have o_a9 := gr_ob g46 o_a9
      have o_v0 := gr_ob g46 o_v0
      have g0 := gr_tr (T := S32) g0 g46
      intro _
      refine ⟨fun c48 => ?_, fun c48 => ?_⟩
      · refine ⟨fun c49 => ?_, fun c49 => ?_⟩
        · exact hq _ _ hI g0 f0
        · exact hq _ _ hI g0 f0
      · exact hq _ _ hI g0 f0
    · exact hq _ _ hI g0 f0
  · intro _ _
    refine ⟨fun c51 => ?_, fun c51 => ?_⟩
    · obtain ⟨a52, ea52, o_a52, -⟩ := sh 3 rfl hI o_v0
      refine ⟨a52, ea52, ?_⟩
      obtain ⟨a53, ea53, o_a53, -⟩ := sh 1 rfl hI o_v0
      refine ⟨a53, ea53, ?_⟩
      refine ⟨o_a53, ?_⟩
      obtain ⟨a54, ea54, o_a54, l_a54⟩ := shl 17 rfl hI o_a53
      refine ⟨a54, ea54, ?_⟩
      refine ⟨o_a54, ?_⟩
      have i56 : vp_in v3 (hN _ a54) := (vin l_a54 (m := 12) (by decide) (q1356 p_x1 c6 c51))
      obtain ⟨a55, ea55, o_a55⟩ := ae hI o_a54 (by decide) (by decide) i56
      replace o_a55 : ob _ a55 5 := o_a55
      refine ⟨i56, a55, ea55, ?_⟩
      refine ⟨a53, ea53, ?_⟩
      refine ⟨o_a53, ?_⟩
      obtain ⟨a58, ea58, o_a58, l_a58⟩ := shl 15 rfl hI o_a53
      refine ⟨a58, ea58, ?_⟩
      refine ⟨o_a58, ?_⟩
      have i60 : vp_in v5 (hN _ a58) := (vin l_a58 (m := 6) (by decide) (q1357 p_x1 c6 c51))
      obtain ⟨a59, ea59, o_a59⟩ := ae hI o_a58 (by decide) (by decide) i60
      replace o_a59 : ob _ a59 3 := o_a59
      refine ⟨i60, a59, ea59, ?_⟩
      refine ⟨o_a52, ?_⟩
      refine m_X1_lay hI o_a52 o_a55 o_a59 (fun S62 hJ g63 fc64 => ?_)
      have hI := hJ
      have l_a54 := (gr_len g63 o_a54).trans l_a54
      have l_a58 := (gr_len g63 o_a58).trans l_a58
      have d_x1 := d_x1.trans (fri_at fc64 (by decide) (by decide) o_v0).symm
      have ea52 := (frr_at fc64 (by decide) (by decide) o_v0).trans ea52
      have ea53 := (frr_at fc64 (by decide) (by decide) o_v0).trans ea53
      have ea54 := (frr_at fc64 (by decide) (by decide) o_a53).trans ea54
      have ea58 := (frr_at fc64 (by decide) (by decide) o_a53).trans ea58
      have f0 := fri_tr (S := S5) g0 f0 fc64 (by decide) (by decide)
      have o_a52 := gr_ob g63 o_a52
      have o_a53 := gr_ob g63 o_a53
      have o_a54 := gr_ob g63 o_a54
      have o_a55 := gr_ob g63 o_a55
      have o_a58 := gr_ob g63 o_a58
      have o_a59 := gr_ob g63 o_a59
      have o_v0 := gr_ob g63 o_v0
      have g0 := gr_tr (T := S5) g0 g63
      intro _
      refine ⟨a52, ea52, ?_⟩
      refine ⟨a53, ea53, ?_⟩
      refine ⟨o_a53, ?_⟩
      obtain ⟨a67, ea67, o_a67, l_a67⟩ := shl 18 rfl hI o_a53
      refine ⟨a67, ea67, ?_⟩
      refine ⟨o_a67, ?_⟩
      have i69 : vp_in v1 (hN _ a67) := (vin l_a67 (m := 4) (by decide) (q1358 p_x1 c6 c51))
      obtain ⟨a68, ea68, o_a68⟩ := ae hI o_a67 (by decide) (by decide) i69
      replace o_a68 : ob _ a68 6 := o_a68
      refine ⟨i69, a68, ea68, ?_⟩
      refine ⟨a53, ea53, ?_⟩
      refine ⟨o_a53, ?_⟩
      refine ⟨a67, ea67, ?_⟩
      refine ⟨o_a67, ?_⟩
      have i73 : vp_in v2 (hN _ a67) := (vin l_a67 (m := 4) (by decide) (q1359 p_x1 c6 c51))
      obtain ⟨a72, ea72, o_a72⟩ := ae hI o_a67 (by decide) (by decide) i73
      replace o_a72 : ob _ a72 6 := o_a72
      refine ⟨i73, a72, ea72, ?_⟩
      refine ⟨o_a52, ?_⟩
      refine m_X1_wetInLee hI o_a52 o_a68 o_a72 (fun x74 S75 hJ g76 fc77 => ?_)
      have hI := hJ
      have l_a54 := (gr_len g76 o_a54).trans l_a54
      have l_a58 := (gr_len g76 o_a58).trans l_a58
      have l_a67 := (gr_len g76 o_a67).trans l_a67
      have d_x1 := d_x1.trans (fri_at fc77 (by decide) (by decide) o_v0).symm
      have ea52 := (frr_at fc77 (by decide) (by decide) o_v0).trans ea52
      have ea53 := (frr_at fc77 (by decide) (by decide) o_v0).trans ea53
      have ea54 := (frr_at fc77 (by decide) (by decide) o_a53).trans ea54
      have ea58 := (frr_at fc77 (by decide) (by decide) o_a53).trans ea58
      have ea67 := (frr_at fc77 (by decide) (by decide) o_a53).trans ea67
      have f0 := fri_tr (S := S62) g0 f0 fc77 (by decide) (by decide)
      have o_a52 := gr_ob g76 o_a52
      have o_a53 := gr_ob g76 o_a53
      have o_a54 := gr_ob g76 o_a54
      have o_a55 := gr_ob g76 o_a55
      have o_a58 := gr_ob g76 o_a58
      have o_a59 := gr_ob g76 o_a59
      have o_a67 := gr_ob g76 o_a67
      have o_a68 := gr_ob g76 o_a68
      have o_a72 := gr_ob g76 o_a72
      have o_v0 := gr_ob g76 o_v0
      have g0 := gr_tr (T := S62) g0 g76
      intro _
      refine ⟨a52, ea52, ?_⟩
      refine ⟨a53, ea53, ?_⟩
      refine ⟨o_a53, ?_⟩
      refine ⟨a67, ea67, ?_⟩
      refine ⟨o_a67, ?_⟩
      have i82 : vp_in v2 (hN _ a67) := (vin l_a67 (m := 4) (by decide) (q1359 p_x1 c6 c51))
      obtain ⟨a81, ea81, o_a81⟩ := ae hI o_a67 (by decide) (by decide) i82
      replace o_a81 : ob _ a81 6 := o_a81
      refine ⟨i82, a81, ea81, ?_⟩
      refine ⟨a53, ea53, ?_⟩
      refine ⟨o_a53, ?_⟩
      refine ⟨a67, ea67, ?_⟩
      refine ⟨o_a67, ?_⟩
      have i86 : vp_in v1 (hN _ a67) := (vin l_a67 (m := 4) (by decide) (q1358 p_x1 c6 c51))
      obtain ⟨a85, ea85, o_a85⟩ := ae hI o_a67 (by decide) (by decide) i86
      replace o_a85 : ob _ a85 6 := o_a85
      refine ⟨i86, a85, ea85, ?_⟩
      refine ⟨o_a52, ?_⟩
      refine m_X1_wetInLee hI o_a52 o_a81 o_a85 (fun x87 S88 hJ g89 fc90 => ?_)
      have hI := hJ
      have l_a54 := (gr_len g89 o_a54).trans l_a54
      have l_a58 := (gr_len g89 o_a58).trans l_a58
      have l_a67 := (gr_len g89 o_a67).trans l_a67
      have d_x1 := d_x1.trans (fri_at fc90 (by decide) (by decide) o_v0).symm
      have ea52 := (frr_at fc90 (by decide) (by decide) o_v0).trans ea52
      have ea53 := (frr_at fc90 (by decide) (by decide) o_v0).trans ea53
      have ea54 := (frr_at fc90 (by decide) (by decide) o_a53).trans ea54
      have ea58 := (frr_at fc90 (by decide) (by decide) o_a53).trans ea58
      have ea67 := (frr_at fc90 (by decide) (by decide) o_a53).trans ea67
      have f0 := fri_tr (S := S75) g0 f0 fc90 (by decide) (by decide)
      have o_a52 := gr_ob g89 o_a52
      have o_a53 := gr_ob g89 o_a53
      have o_a54 := gr_ob g89 o_a54
      have o_a55 := gr_ob g89 o_a55
      have o_a58 := gr_ob g89 o_a58
      have o_a59 := gr_ob g89 o_a59
      have o_a67 := gr_ob g89 o_a67
      have o_a68 := gr_ob g89 o_a68
      have o_a72 := gr_ob g89 o_a72
      have o_a81 := gr_ob g89 o_a81
      have o_a85 := gr_ob g89 o_a85
      have o_v0 := gr_ob g89 o_v0
      have g0 := gr_tr (T := S75) g0 g89
      intro _
      refine ⟨fun c91 => ?_, fun c91 => ?_⟩
      · refine ⟨fun c92 => ?_, fun c92 => ?_⟩
        · exact hq _ _ hI g0 f0
        · exact hq _ _ hI g0 f0
      · exact hq _ _ hI g0 f0
    · exact hq _ _ hI g0 f0
set_option maxHeartbeats 4000000 in
set_option maxRecDepth 20000 in
theorem m_X9_fit {v0 : Nat} {v1 : Int32} {v2 : Int32} {Q : Int32 → HS → Prop} {S : HS} (hI : IV S) (o_v0 : ob S v0 9)     (hq : ∀ (r : Int32) (T : HS), IV T → Gr S T → FRI [(9, 9)] [] S T → Q r T) : P_X9_fit v0 v1 v2 Q S := by
  have g0 := gr_rf S
  have f0 := fri_rf [(9, 9)] [] S
  refine u_X9_fit ?_
  refine u_X9_fit_0 ?_
  refine ⟨o_v0, ?_⟩
  obtain ⟨a1, ea1, o_a1, -⟩ := sh 1 rfl hI o_v0
  refine ⟨a1, ea1, ?_⟩
  refine ⟨o_a1, ?_⟩
  refine m_X8_hasSeen hI o_a1 (fun x2 S3 hI2 g4 b_x2 p_x2 => ?_)
  obtain ⟨z_S3, p_x2⟩ := p_x2
  subst z_S3
  intro _ _
  have bb_x2 : x2 = 0 ∨ x2 = 1 := b_x2
  refine ⟨fun c6 => ?_, fun c6 => ?_⟩
  · refine u_X9_fit_15 ?_
    refine ⟨o_v0, ?_⟩
    refine u_X9_refuse ?_
    refine u_X9_refuse_0 ?_
    refine ⟨o_v0, ?_⟩
    intro S7 eS7
    have hI : IV S7 := by rw [eS7]; exact iv_sI hI o_v0 (by decide) (nu_free (by decide))
    have f0 := fr_I eS7 g0 f0 o_v0 (by decide)
    obtain ⟨y8, hy8⟩ : ∃ z : Int32, z = (1 : Int32) := ⟨_, rfl⟩
    have d_y8 := rd_Is eS7 hy8
    have ea1 := rf_I eS7 ea1
    have g0 := gr_I eS7 g0
    have o_a1 := ob_I eS7 o_a1
    have o_v0 := ob_I eS7 o_v0
    intro _
    exact hq _ _ hI g0 f0
  · refine ⟨fun c10 => ?_, fun c10 => ?_⟩
    · obtain ⟨a11, ea11, o_a11, -⟩ := sh 3 rfl hI o_v0
      refine ⟨a11, ea11, ?_⟩
      refine ⟨a1, ea1, ?_⟩
      refine ⟨o_a11, ?_⟩
      refine m_X1_findFit hI o_a11 o_a1 (fun x13 S14 hJ g15 fc16 => ?_)
      have hI := hJ
      have ea1 := (frr_at fc16 (by decide) (by decide) o_v0).trans ea1
      have ea11 := (frr_at fc16 (by decide) (by decide) o_v0).trans ea11
      have f0 := fri_tr (S := S) g0 f0 fc16 (by decide) (by decide)
      have o_a1 := gr_ob g15 o_a1
      have o_a11 := gr_ob g15 o_a11
      have o_v0 := gr_ob g15 o_v0
      have g0 := gr_tr (T := S) g0 g15
      intro _
      refine ⟨fun c17 => ?_, fun c17 => ?_⟩
      · refine u_X9_grant ?_
        refine u_X9_grant_0 ?_
        refine ⟨o_v0, ?_⟩
        intro S18 eS18
        have hI : IV S18 := by rw [eS18]; exact iv_sI hI o_v0 (by decide) (nu_free (by decide))
        have f0 := fr_I eS18 g0 f0 o_v0 (by decide)
        obtain ⟨y19, hy19⟩ : ∃ z : Int32, z = (0 : Int32) := ⟨_, rfl⟩
        have d_y19 := rd_Is eS18 hy19
        have ea1 := rf_I eS18 ea1
        have ea11 := rf_I eS18 ea11
        have g0 := gr_I eS18 g0
        have o_a1 := ob_I eS18 o_a1
        have o_a11 := ob_I eS18 o_a11
        have o_v0 := ob_I eS18 o_v0
        intro _
        exact hq _ _ hI g0 f0
      · refine u_X9_refuse ?_
        refine u_X9_refuse_0 ?_
        refine ⟨o_v0, ?_⟩
        intro S21 eS21
        have hI : IV S21 := by rw [eS21]; exact iv_sI hI o_v0 (by decide) (nu_free (by decide))
        have f0 := fr_I eS21 g0 f0 o_v0 (by decide)
        obtain ⟨y22, hy22⟩ : ∃ z : Int32, z = (1 : Int32) := ⟨_, rfl⟩
        have d_y22 := rd_Is eS21 hy22
        have ea1 := rf_I eS21 ea1
        have ea11 := rf_I eS21 ea11
        have g0 := gr_I eS21 g0
        have o_a1 := ob_I eS21 o_a1
        have o_a11 := ob_I eS21 o_a11
        have o_v0 := ob_I eS21 o_v0
        intro _
        exact hq _ _ hI g0 f0
    · refine u_X9_fit_15 ?_
      refine ⟨o_v0, ?_⟩
      refine u_X9_refuse ?_
      refine u_X9_refuse_0 ?_
      refine ⟨o_v0, ?_⟩
      intro S24 eS24
      have hI : IV S24 := by rw [eS24]; exact iv_sI hI o_v0 (by decide) (nu_free (by decide))
      have f0 := fr_I eS24 g0 f0 o_v0 (by decide)
      obtain ⟨y25, hy25⟩ : ∃ z : Int32, z = (1 : Int32) := ⟨_, rfl⟩
      have d_y25 := rd_Is eS24 hy25
      have ea1 := rf_I eS24 ea1
      have g0 := gr_I eS24 g0
      have o_a1 := ob_I eS24 o_a1
      have o_v0 := ob_I eS24 o_v0
      intro _
      exact hq _ _ hI g0 f0
set_option maxHeartbeats 4000000 in
set_option maxRecDepth 20000 in
theorem m_X9_fits {v0 : Nat} {v1 : Int32} {Q : Int32 → HS → Prop} {S : HS} (hI : IV S) (o_v0 : ob S v0 9)     (hq : ∀ (r : Int32) (T : HS), IV T → Gr S T → FRI [(9, 9)] [] S T → Q r T) : P_X9_fits v0 v1 Q S := by
  have g0 := gr_rf S
  have f0 := fri_rf [(9, 9)] [] S
  refine u_X9_fits ?_
  refine u_X9_fits_0 ?_
  refine ⟨o_v0, ?_⟩
  obtain ⟨a1, ea1, o_a1, -⟩ := sh 1 rfl hI o_v0
  refine ⟨a1, ea1, ?_⟩
  refine ⟨o_a1, ?_⟩
  refine m_X8_hasSeen hI o_a1 (fun x2 S3 hI2 g4 b_x2 p_x2 => ?_)
  obtain ⟨z_S3, p_x2⟩ := p_x2
  subst z_S3
  intro _ _
  have bb_x2 : x2 = 0 ∨ x2 = 1 := b_x2
  refine ⟨fun c6 => ?_, fun c6 => ?_⟩
  · obtain ⟨a7, ea7, o_a7, -⟩ := sh 3 rfl hI o_v0
    refine ⟨a7, ea7, ?_⟩
    refine ⟨a1, ea1, ?_⟩
    refine ⟨o_a7, ?_⟩
    refine m_X1_countFits hI o_a7 o_a1 (fun x9 S10 hJ g11 fc12 => ?_)
    have hI := hJ
    have ea1 := (frr_at fc12 (by decide) (by decide) o_v0).trans ea1
    have ea7 := (frr_at fc12 (by decide) (by decide) o_v0).trans ea7
    have f0 := fri_tr (S := S) g0 f0 fc12 (by decide) (by decide)
    have o_a1 := gr_ob g11 o_a1
    have o_a7 := gr_ob g11 o_a7
    have o_v0 := gr_ob g11 o_v0
    have g0 := gr_tr (T := S) g0 g11
    intro _
    refine u_X9_grant ?_
    refine u_X9_grant_0 ?_
    refine ⟨o_v0, ?_⟩
    intro S13 eS13
    have hI : IV S13 := by rw [eS13]; exact iv_sI hI o_v0 (by decide) (nu_free (by decide))
    have f0 := fr_I eS13 g0 f0 o_v0 (by decide)
    obtain ⟨y14, hy14⟩ : ∃ z : Int32, z = (0 : Int32) := ⟨_, rfl⟩
    have d_y14 := rd_Is eS13 hy14
    have ea1 := rf_I eS13 ea1
    have ea7 := rf_I eS13 ea7
    have g0 := gr_I eS13 g0
    have o_a1 := ob_I eS13 o_a1
    have o_a7 := ob_I eS13 o_a7
    have o_v0 := ob_I eS13 o_v0
    intro _
    exact hq _ _ hI g0 f0
  · refine u_X9_refuse ?_
    refine u_X9_refuse_0 ?_
    refine ⟨o_v0, ?_⟩
    intro S16 eS16
    have hI : IV S16 := by rw [eS16]; exact iv_sI hI o_v0 (by decide) (nu_free (by decide))
    have f0 := fr_I eS16 g0 f0 o_v0 (by decide)
    obtain ⟨y17, hy17⟩ : ∃ z : Int32, z = (1 : Int32) := ⟨_, rfl⟩
    have d_y17 := rd_Is eS16 hy17
    have ea1 := rf_I eS16 ea1
    have g0 := gr_I eS16 g0
    have o_a1 := ob_I eS16 o_a1
    have o_v0 := ob_I eS16 o_v0
    intro _
    exact hq _ _ hI g0 f0
set_option maxHeartbeats 4000000 in
set_option maxRecDepth 20000 in
theorem m_X9_go {v0 : Nat} {v1 : Int32} {v2 : Int32} {v3 : Int32} {Q : Int32 → HS → Prop} {S : HS} (hI : IV S) (o_v0 : ob S v0 9)     (hq : ∀ (r : Int32) (T : HS), IV T → Gr S T → FRI [(0, 2), (2, 0), (2, 1), (9, 9)] [] S T → Q r T) : P_X9_go v0 v1 v2 v3 Q S := by
  have g0 := gr_rf S
  have f0 := fri_rf [(0, 2), (2, 0), (2, 1), (9, 9)] [] S
  refine u_X9_go ?_
  refine u_X9_go_0 ?_
  refine ⟨o_v0, ?_⟩
  obtain ⟨a1, ea1, o_a1, -⟩ := sh 5 rfl hI o_v0
  refine ⟨a1, ea1, ?_⟩
  refine ⟨o_a1, ?_⟩
  refine m_X0_isOn hI o_a1 (fun x2 S3 hI2 g4 b_x2 p_x2 => ?_)
  subst p_x2
  intro _ _
  have bb_x2 : x2 = 0 ∨ x2 = 1 := b_x2
  refine ⟨fun c6 => ?_, fun c6 => ?_⟩
  · refine u_X9_go_45 ?_
    refine ⟨o_v0, ?_⟩
    refine u_X9_refuse ?_
    refine u_X9_refuse_0 ?_
    refine ⟨o_v0, ?_⟩
    intro S7 eS7
    have hI : IV S7 := by rw [eS7]; exact iv_sI hI o_v0 (by decide) (nu_free (by decide))
    have f0 := fr_I eS7 g0 f0 o_v0 (by decide)
    obtain ⟨y8, hy8⟩ : ∃ z : Int32, z = (1 : Int32) := ⟨_, rfl⟩
    have d_y8 := rd_Is eS7 hy8
    have ea1 := rf_I eS7 ea1
    have g0 := gr_I eS7 g0
    have o_a1 := ob_I eS7 o_a1
    have o_v0 := ob_I eS7 o_v0
    intro _
    exact hq _ _ hI g0 f0
  · obtain ⟨a10, ea10, o_a10, -⟩ := sh 1 rfl hI o_v0
    refine ⟨a10, ea10, ?_⟩
    refine ⟨a1, ea1, ?_⟩
    refine ⟨o_a1, ?_⟩
    intro x12 ex12
    have r_x12 : (-1 : Int32) ≤ x12 ∧ x12 ≤ (3 : Int32) := by rw [ex12]; exact nu 1 rfl hI o_a1
    have d_x12 := ex12
    refine ⟨o_a10, ?_⟩
    refine m_X8_hasWalker hI o_a10 (fun x13 S14 hI2 g15 b_x13 p_x13 => ?_)
    obtain ⟨z_S14, p_x13⟩ := p_x13
    subst z_S14
    intro _ _
    have bb_x13 : x13 = 0 ∨ x13 = 1 := b_x13
    refine ⟨fun c17 => ?_, fun c17 => ?_⟩
    · refine u_X9_go_45 ?_
      refine ⟨o_v0, ?_⟩
      refine u_X9_refuse ?_
      refine u_X9_refuse_0 ?_
      refine ⟨o_v0, ?_⟩
      intro S18 eS18
      have hI : IV S18 := by rw [eS18]; exact iv_sI hI o_v0 (by decide) (nu_free (by decide))
      have f0 := fr_I eS18 g0 f0 o_v0 (by decide)
      have d_x12 := rd_Ik eS18 o_v0 o_a1 (by decide) d_x12
      obtain ⟨y19, hy19⟩ : ∃ z : Int32, z = (1 : Int32) := ⟨_, rfl⟩
      have d_y19 := rd_Is eS18 hy19
      have ea1 := rf_I eS18 ea1
      have ea10 := rf_I eS18 ea10
      have g0 := gr_I eS18 g0
      have o_a1 := ob_I eS18 o_a1
      have o_a10 := ob_I eS18 o_a10
      have o_v0 := ob_I eS18 o_v0
      intro _
      exact hq _ _ hI g0 f0
    · refine ⟨a10, ea10, ?_⟩
      refine ⟨o_a10, ?_⟩
      refine m_X8_hasRoad hI o_a10 (fun x22 S23 hI2 g24 b_x22 p_x22 => ?_)
      obtain ⟨z_S23, p_x22⟩ := p_x22
      subst z_S23
      intro _ _
      have bb_x22 : x22 = 0 ∨ x22 = 1 := b_x22
      refine ⟨fun c26 => ?_, fun c26 => ?_⟩
      · refine u_X9_go_45 ?_
        refine ⟨o_v0, ?_⟩
        refine u_X9_refuse ?_
        refine u_X9_refuse_0 ?_
        refine ⟨o_v0, ?_⟩
        intro S27 eS27
        have hI : IV S27 := by rw [eS27]; exact iv_sI hI o_v0 (by decide) (nu_free (by decide))
        have f0 := fr_I eS27 g0 f0 o_v0 (by decide)
        have d_x12 := rd_Ik eS27 o_v0 o_a1 (by decide) d_x12
        obtain ⟨y28, hy28⟩ : ∃ z : Int32, z = (1 : Int32) := ⟨_, rfl⟩
        have d_y28 := rd_Is eS27 hy28
        have ea1 := rf_I eS27 ea1
        have ea10 := rf_I eS27 ea10
        have g0 := gr_I eS27 g0
        have o_a1 := ob_I eS27 o_a1
        have o_a10 := ob_I eS27 o_a10
        have o_v0 := ob_I eS27 o_v0
        intro _
        exact hq _ _ hI g0 f0
      · refine m_X9_isWay hI (fun x30 S31 hI2 g32 b_x30 p_x30 => ?_)
        obtain ⟨z_S31, p_x30⟩ := p_x30
        subst z_S31
        intro _ _
        have bb_x30 : x30 = 0 ∨ x30 = 1 := b_x30
        refine ⟨fun c34 => ?_, fun c34 => ?_⟩
        · refine ⟨a10, ea10, ?_⟩
          refine ⟨o_a10, ?_⟩
          obtain ⟨a36, ea36, o_a36, l_a36⟩ := shl 18 rfl hI o_a10
          refine ⟨a36, ea36, ?_⟩
          refine ⟨a1, ea1, ?_⟩
          refine ⟨o_a1, ?_⟩
          intro x38 ex38
          have r_x38 : (-1 : Int32) ≤ x38 ∧ x38 ≤ (3 : Int32) := by rw [ex38]; exact nu 1 rfl hI o_a1
          have q_x38 : x38 = x12 := ex38.trans d_x12.symm
          have d_x38 := ex38
          refine ⟨o_a36, ?_⟩
          have i40 : vp_in x38 (hN _ a36) := (vin l_a36 (m := 4) (by decide) (q1370 bb_x2 c6 r_x12 p_x13 bb_x13 c17 p_x22 bb_x22 c26 p_x30 bb_x30 c34 r_x38 q_x38))
          obtain ⟨a39, ea39, o_a39⟩ := ae hI o_a36 (by decide) (by decide) i40
          replace o_a39 : ob _ a39 6 := o_a39
          refine ⟨i40, a39, ea39, ?_⟩
          refine ⟨a10, ea10, ?_⟩
          refine ⟨o_a10, ?_⟩
          obtain ⟨a42, ea42, o_a42, l_a42⟩ := shl 17 rfl hI o_a10
          refine ⟨a42, ea42, ?_⟩
          refine ⟨o_a42, ?_⟩
          have i44 : vp_in v1 (hN _ a42) := (vin l_a42 (m := 12) (by decide) (q1371 bb_x2 c6 r_x12 p_x13 bb_x13 c17 p_x22 bb_x22 c26 p_x30 bb_x30 c34 r_x38 q_x38))
          obtain ⟨a43, ea43, o_a43⟩ := ae hI o_a42 (by decide) (by decide) i44
          replace o_a43 : ob _ a43 5 := o_a43
          refine ⟨i44, a43, ea43, ?_⟩
          refine ⟨o_a39, ?_⟩
          refine m_X6_canGo hI o_a39 (fun x45 S46 hI2 g47 b_x45 p_x45 => ?_)
          subst p_x45
          intro _ _
          have bb_x45 : x45 = 0 ∨ x45 = 1 := b_x45
          refine ⟨fun c49 => ?_, fun c49 => ?_⟩
          · refine ⟨o_a43, ?_⟩
            refine m_X5_startOf hI o_a43 (fun x50 S51 hI2 g52 p_x50 => ?_)
            subst p_x50
            intro _
            refine ⟨a1, ea1, ?_⟩
            refine ⟨o_a1, ?_⟩
            obtain ⟨a55, ea55, o_a55, -⟩ := sh 6 rfl hI o_a1
            refine ⟨a55, ea55, ?_⟩
            refine ⟨o_a55, ?_⟩
            intro x56 ex56
            have d_x56 := ex56
            refine ⟨fun c57 => ?_, fun c57 => ?_⟩
            · refine ⟨a1, ea1, ?_⟩
              refine ⟨o_a1, ?_⟩
              refine ⟨a55, ea55, ?_⟩
              refine ⟨o_a55, ?_⟩
              intro x60 ex60
              have d_x60 := ex60
              refine m_X5_minutesAt hI o_a43 (fun x61 S62 hI2 g63 p_x61 => ?_)
              subst p_x61
              intro _
              intro x65 ex65
              refine ⟨fun c66 => ?_, fun c66 => ?_⟩
              · refine ⟨a1, ea1, ?_⟩
                refine ⟨o_a1, ?_⟩
                refine m_X0_keepForUndo hI o_a1 (fun S69 hJ g70 fc71 => ?_)
                have hI := hJ
                have l_a36 := (gr_len g70 o_a36).trans l_a36
                have l_a42 := (gr_len g70 o_a42).trans l_a42
                have d_x38 := d_x38.trans (fri_at fc71 (by decide) (by decide) o_a1).symm
                have ea1 := (frr_at fc71 (by decide) (by decide) o_v0).trans ea1
                have ea10 := (frr_at fc71 (by decide) (by decide) o_v0).trans ea10
                have ea36 := (frr_at fc71 (by decide) (by decide) o_a10).trans ea36
                have ea42 := (frr_at fc71 (by decide) (by decide) o_a10).trans ea42
                have ea55 := (frr_at fc71 (by decide) (by decide) o_a1).trans ea55
                have f0 := fri_tr (S := S) g0 f0 fc71 (by decide) (by decide)
                have o_a1 := gr_ob g70 o_a1
                have o_a10 := gr_ob g70 o_a10
                have o_a36 := gr_ob g70 o_a36
                have o_a39 := gr_ob g70 o_a39
                have o_a42 := gr_ob g70 o_a42
                have o_a43 := gr_ob g70 o_a43
                have o_a55 := gr_ob g70 o_a55
                have o_v0 := gr_ob g70 o_v0
                have g0 := gr_tr (T := S) g0 g70
                intro _
                refine ⟨a10, ea10, ?_⟩
                refine ⟨a1, ea1, ?_⟩
                refine ⟨o_a1, ?_⟩
                refine ⟨a55, ea55, ?_⟩
                refine ⟨o_a55, ?_⟩
                intro x75 ex75
                have d_x75 := ex75
                refine ⟨o_a10, ?_⟩
                refine m_X8_hourOf hI o_a10 (fun x76 S77 hI2 g78 p_x76 => ?_)
                subst p_x76
                intro _
                refine ⟨a10, ea10, ?_⟩
                refine ⟨o_a10, ?_⟩
                refine m_X8_hasHour hI o_a10 (fun x81 S82 hI2 g83 b_x81 p_x81 => ?_)
                obtain ⟨z_S82, p_x81⟩ := p_x81
                subst z_S82
                intro _ _
                have bb_x81 : x81 = 0 ∨ x81 = 1 := b_x81
                refine ⟨fun c85 => ?_, fun c85 => ?_⟩
                · refine u_X9_go_243 ?_
                  refine ⟨o_v0, ?_⟩
                  refine ⟨a1, ea1, ?_⟩
                  refine ⟨o_a1, ?_⟩
                  refine ⟨a55, ea55, ?_⟩
                  refine ⟨o_a43, ?_⟩
                  refine m_X5_endOf hI o_a43 (fun x88 S89 hI2 g90 p_x88 => ?_)
                  subst p_x88
                  intro _
                  refine ⟨o_a55, ?_⟩
                  intro S92 eS92
                  have hI : IV S92 := by rw [eS92]; exact iv_sI hI o_a55 (by decide) (nu_free (by decide))
                  have f0 := fr_I eS92 g0 f0 o_a55 (by decide)
                  have d_x38 := rd_Ik eS92 o_a55 o_a1 (by decide) d_x38
                  have d_x75 := rd_Ij eS92 (by decide) d_x75
                  have d_x88 := rd_Is eS92 (rfl : x88 = x88)
                  have ea1 := rf_I eS92 ea1
                  have ea10 := rf_I eS92 ea10
                  have ea36 := rf_I eS92 ea36
                  have ea42 := rf_I eS92 ea42
                  have ea55 := rf_I eS92 ea55
                  have l_a36 := ln_I eS92 l_a36
                  have l_a42 := ln_I eS92 l_a42
                  have g0 := gr_I eS92 g0
                  have o_a1 := ob_I eS92 o_a1
                  have o_a10 := ob_I eS92 o_a10
                  have o_a36 := ob_I eS92 o_a36
                  have o_a39 := ob_I eS92 o_a39
                  have o_a42 := ob_I eS92 o_a42
                  have o_a43 := ob_I eS92 o_a43
                  have o_a55 := ob_I eS92 o_a55
                  have o_v0 := ob_I eS92 o_v0
                  refine ⟨a1, ea1, ?_⟩
                  refine ⟨o_a1, ?_⟩
                  refine ⟨a55, ea55, ?_⟩
                  refine ⟨o_a55, ?_⟩
                  intro S95 eS95
                  have hI : IV S95 := by rw [eS95]; exact iv_sI hI o_a55 (by decide) (nu_free (by decide))
                  have f0 := fr_I eS95 g0 f0 o_a55 (by decide)
                  have d_x38 := rd_Ik eS95 o_a55 o_a1 (by decide) d_x38
                  have d_x88 := rd_Ij eS95 (by decide) d_x88
                  have d_x65 := rd_Is eS95 (rfl : x65 = x65)
                  have ea1 := rf_I eS95 ea1
                  have ea10 := rf_I eS95 ea10
                  have ea36 := rf_I eS95 ea36
                  have ea42 := rf_I eS95 ea42
                  have ea55 := rf_I eS95 ea55
                  have l_a36 := ln_I eS95 l_a36
                  have l_a42 := ln_I eS95 l_a42
                  have g0 := gr_I eS95 g0
                  have o_a1 := ob_I eS95 o_a1
                  have o_a10 := ob_I eS95 o_a10
                  have o_a36 := ob_I eS95 o_a36
                  have o_a39 := ob_I eS95 o_a39
                  have o_a42 := ob_I eS95 o_a42
                  have o_a43 := ob_I eS95 o_a43
                  have o_a55 := ob_I eS95 o_a55
                  have o_v0 := ob_I eS95 o_v0
                  refine u_X9_grant ?_
                  refine u_X9_grant_0 ?_
                  refine ⟨o_v0, ?_⟩
                  intro S96 eS96
                  have hI : IV S96 := by rw [eS96]; exact iv_sI hI o_v0 (by decide) (nu_free (by decide))
                  have f0 := fr_I eS96 g0 f0 o_v0 (by decide)
                  have d_x38 := rd_Ik eS96 o_v0 o_a1 (by decide) d_x38
                  have d_x88 := rd_Ik eS96 o_v0 o_a55 (by decide) d_x88
                  have d_x65 := rd_Ik eS96 o_v0 o_a55 (by decide) d_x65
                  obtain ⟨y97, hy97⟩ : ∃ z : Int32, z = (0 : Int32) := ⟨_, rfl⟩
                  have d_y97 := rd_Is eS96 hy97
                  have ea1 := rf_I eS96 ea1
                  have ea10 := rf_I eS96 ea10
                  have ea36 := rf_I eS96 ea36
                  have ea42 := rf_I eS96 ea42
                  have ea55 := rf_I eS96 ea55
                  have l_a36 := ln_I eS96 l_a36
                  have l_a42 := ln_I eS96 l_a42
                  have g0 := gr_I eS96 g0
                  have o_a1 := ob_I eS96 o_a1
                  have o_a10 := ob_I eS96 o_a10
                  have o_a36 := ob_I eS96 o_a36
                  have o_a39 := ob_I eS96 o_a39
                  have o_a42 := ob_I eS96 o_a42
                  have o_a43 := ob_I eS96 o_a43
                  have o_a55 := ob_I eS96 o_a55
                  have o_v0 := ob_I eS96 o_v0
                  intro _
                  exact hq _ _ hI g0 f0
                · refine ⟨a1, ea1, ?_⟩
                  refine ⟨o_a1, ?_⟩
                  refine m_X0_rainsIn hI o_a1 (fun x100 S101 hI2 g102 b_x100 p_x100 => ?_)
                  subst p_x100
                  intro _ _
                  have bb_x100 : x100 = 0 ∨ x100 = 1 := b_x100
                  refine ⟨fun c104 => ?_, fun c104 => ?_⟩
                  · refine u_X9_go_243 ?_
                    refine ⟨o_v0, ?_⟩
                    refine ⟨a1, ea1, ?_⟩
                    refine ⟨o_a1, ?_⟩
                    refine ⟨a55, ea55, ?_⟩
                    refine ⟨o_a43, ?_⟩
                    refine m_X5_endOf hI o_a43 (fun x107 S108 hI2 g109 p_x107 => ?_)
                    subst p_x107
                    intro _
                    refine ⟨o_a55, ?_⟩
                    intro S111 eS111
                    have hI : IV S111 := by rw [eS111]; exact iv_sI hI o_a55 (by decide) (nu_free (by decide))
                    have f0 := fr_I eS111 g0 f0 o_a55 (by decide)
                    have d_x38 := rd_Ik eS111 o_a55 o_a1 (by decide) d_x38
                    have d_x75 := rd_Ij eS111 (by decide) d_x75
                    have d_x107 := rd_Is eS111 (rfl : x107 = x107)
                    have ea1 := rf_I eS111 ea1
                    have ea10 := rf_I eS111 ea10
                    have ea36 := rf_I eS111 ea36
                    have ea42 := rf_I eS111 ea42
                    have ea55 := rf_I eS111 ea55
                    have l_a36 := ln_I eS111 l_a36
                    have l_a42 := ln_I eS111 l_a42
                    have g0 := gr_I eS111 g0
                    have o_a1 := ob_I eS111 o_a1
                    have o_a10 := ob_I eS111 o_a10
                    have o_a36 := ob_I eS111 o_a36
                    have o_a39 := ob_I eS111 o_a39
                    have o_a42 := ob_I eS111 o_a42
                    have o_a43 := ob_I eS111 o_a43
                    have o_a55 := ob_I eS111 o_a55
                    have o_v0 := ob_I eS111 o_v0
                    refine ⟨a1, ea1, ?_⟩
                    refine ⟨o_a1, ?_⟩
                    refine ⟨a55, ea55, ?_⟩
                    refine ⟨o_a55, ?_⟩
                    intro S114 eS114
                    have hI : IV S114 := by rw [eS114]; exact iv_sI hI o_a55 (by decide) (nu_free (by decide))
                    have f0 := fr_I eS114 g0 f0 o_a55 (by decide)
                    have d_x38 := rd_Ik eS114 o_a55 o_a1 (by decide) d_x38
                    have d_x107 := rd_Ij eS114 (by decide) d_x107
                    have d_x65 := rd_Is eS114 (rfl : x65 = x65)
                    have ea1 := rf_I eS114 ea1
                    have ea10 := rf_I eS114 ea10
                    have ea36 := rf_I eS114 ea36
                    have ea42 := rf_I eS114 ea42
                    have ea55 := rf_I eS114 ea55
                    have l_a36 := ln_I eS114 l_a36
                    have l_a42 := ln_I eS114 l_a42
                    have g0 := gr_I eS114 g0
                    have o_a1 := ob_I eS114 o_a1
                    have o_a10 := ob_I eS114 o_a10
                    have o_a36 := ob_I eS114 o_a36
                    have o_a39 := ob_I eS114 o_a39
                    have o_a42 := ob_I eS114 o_a42
                    have o_a43 := ob_I eS114 o_a43
                    have o_a55 := ob_I eS114 o_a55
                    have o_v0 := ob_I eS114 o_v0
                    refine u_X9_grant ?_
                    refine u_X9_grant_0 ?_
                    refine ⟨o_v0, ?_⟩
                    intro S115 eS115
                    have hI : IV S115 := by rw [eS115]; exact iv_sI hI o_v0 (by decide) (nu_free (by decide))
                    have f0 := fr_I eS115 g0 f0 o_v0 (by decide)
                    have d_x38 := rd_Ik eS115 o_v0 o_a1 (by decide) d_x38
                    have d_x107 := rd_Ik eS115 o_v0 o_a55 (by decide) d_x107
                    have d_x65 := rd_Ik eS115 o_v0 o_a55 (by decide) d_x65
                    obtain ⟨y116, hy116⟩ : ∃ z : Int32, z = (0 : Int32) := ⟨_, rfl⟩
                    have d_y116 := rd_Is eS115 hy116
                    have ea1 := rf_I eS115 ea1
                    have ea10 := rf_I eS115 ea10
                    have ea36 := rf_I eS115 ea36
                    have ea42 := rf_I eS115 ea42
                    have ea55 := rf_I eS115 ea55
                    have l_a36 := ln_I eS115 l_a36
                    have l_a42 := ln_I eS115 l_a42
                    have g0 := gr_I eS115 g0
                    have o_a1 := ob_I eS115 o_a1
                    have o_a10 := ob_I eS115 o_a10
                    have o_a36 := ob_I eS115 o_a36
                    have o_a39 := ob_I eS115 o_a39
                    have o_a42 := ob_I eS115 o_a42
                    have o_a43 := ob_I eS115 o_a43
                    have o_a55 := ob_I eS115 o_a55
                    have o_v0 := ob_I eS115 o_v0
                    intro _
                    exact hq _ _ hI g0 f0
                  · obtain ⟨a118, ea118, o_a118, -⟩ := sh 3 rfl hI o_v0
                    refine ⟨a118, ea118, ?_⟩
                    refine ⟨a10, ea10, ?_⟩
                    refine ⟨o_a10, ?_⟩
                    obtain ⟨a120, ea120, o_a120, l_a120⟩ := shl 15 rfl hI o_a10
                    refine ⟨a120, ea120, ?_⟩
                    refine ⟨o_a120, ?_⟩
                    have i122 : vp_in x76 (hN _ a120) := (vin l_a120 (m := 6) (by decide) (q1372 bb_x2 c6 r_x12 p_x13 bb_x13 c17 p_x22 bb_x22 c26 p_x30 bb_x30 c34 r_x38 q_x38 bb_x45 c49 c57 ex65 c66 p_x81 bb_x81 c85 bb_x100 c104))
                    obtain ⟨a121, ea121, o_a121⟩ := ae hI o_a120 (by decide) (by decide) i122
                    replace o_a121 : ob _ a121 3 := o_a121
                    refine ⟨i122, a121, ea121, ?_⟩
                    refine ⟨o_a118, ?_⟩
                    refine m_X1_wetOf hI o_a118 o_a39 o_a43 o_a121 (fun x123 S124 hJ g125 fc126 => ?_)
                    have hI := hJ
                    have l_a120 := (gr_len g125 o_a120).trans l_a120
                    have l_a36 := (gr_len g125 o_a36).trans l_a36
                    have l_a42 := (gr_len g125 o_a42).trans l_a42
                    have d_x38 := d_x38.trans (fri_at fc126 (by decide) (by decide) o_a1).symm
                    have d_x75 := d_x75.trans (fri_at fc126 (by decide) (by decide) o_a55).symm
                    have ea1 := (frr_at fc126 (by decide) (by decide) o_v0).trans ea1
                    have ea10 := (frr_at fc126 (by decide) (by decide) o_v0).trans ea10
                    have ea36 := (frr_at fc126 (by decide) (by decide) o_a10).trans ea36
                    have ea42 := (frr_at fc126 (by decide) (by decide) o_a10).trans ea42
                    have ea55 := (frr_at fc126 (by decide) (by decide) o_a1).trans ea55
                    have ea118 := (frr_at fc126 (by decide) (by decide) o_v0).trans ea118
                    have ea120 := (frr_at fc126 (by decide) (by decide) o_a10).trans ea120
                    have f0 := fri_tr (S := S69) g0 f0 fc126 (by decide) (by decide)
                    have o_a1 := gr_ob g125 o_a1
                    have o_a10 := gr_ob g125 o_a10
                    have o_a118 := gr_ob g125 o_a118
                    have o_a120 := gr_ob g125 o_a120
                    have o_a121 := gr_ob g125 o_a121
                    have o_a36 := gr_ob g125 o_a36
                    have o_a39 := gr_ob g125 o_a39
                    have o_a42 := gr_ob g125 o_a42
                    have o_a43 := gr_ob g125 o_a43
                    have o_a55 := gr_ob g125 o_a55
                    have o_v0 := gr_ob g125 o_v0
                    have g0 := gr_tr (T := S69) g0 g125
                    intro _
                    refine ⟨a1, ea1, ?_⟩
                    refine ⟨o_a1, ?_⟩
                    refine ⟨a55, ea55, ?_⟩
                    refine ⟨a118, ea118, ?_⟩
                    refine ⟨o_a118, ?_⟩
                    obtain ⟨a130, ea130, o_a130, l_a130⟩ := shl 9 rfl hI o_a118
                    refine ⟨a130, ea130, ?_⟩
                    refine ⟨o_a55, ?_⟩
                    refine m_X2_addFaces hI o_a55 o_a130 l_a130 (fun S132 hJ g133 fc134 => ?_)
                    have hI := hJ
                    have l_a120 := (gr_len g133 o_a120).trans l_a120
                    have l_a130 := (gr_len g133 o_a130).trans l_a130
                    have l_a36 := (gr_len g133 o_a36).trans l_a36
                    have l_a42 := (gr_len g133 o_a42).trans l_a42
                    have d_x38 := d_x38.trans (fri_at fc134 (by decide) (by decide) o_a1).symm
                    have d_x75 := d_x75.trans (fri_at fc134 (by decide) (by decide) o_a55).symm
                    have ea1 := (frr_at fc134 (by decide) (by decide) o_v0).trans ea1
                    have ea10 := (frr_at fc134 (by decide) (by decide) o_v0).trans ea10
                    have ea36 := (frr_at fc134 (by decide) (by decide) o_a10).trans ea36
                    have ea42 := (frr_at fc134 (by decide) (by decide) o_a10).trans ea42
                    have ea55 := (frr_at fc134 (by decide) (by decide) o_a1).trans ea55
                    have ea118 := (frr_at fc134 (by decide) (by decide) o_v0).trans ea118
                    have ea120 := (frr_at fc134 (by decide) (by decide) o_a10).trans ea120
                    have ea130 := (frr_at fc134 (by decide) (by decide) o_a118).trans ea130
                    have f0 := fri_tr (S := S124) g0 f0 fc134 (by decide) (by decide)
                    have o_a1 := gr_ob g133 o_a1
                    have o_a10 := gr_ob g133 o_a10
                    have o_a118 := gr_ob g133 o_a118
                    have o_a120 := gr_ob g133 o_a120
                    have o_a121 := gr_ob g133 o_a121
                    have o_a130 := gr_ob g133 o_a130
                    have o_a36 := gr_ob g133 o_a36
                    have o_a39 := gr_ob g133 o_a39
                    have o_a42 := gr_ob g133 o_a42
                    have o_a43 := gr_ob g133 o_a43
                    have o_a55 := gr_ob g133 o_a55
                    have o_v0 := gr_ob g133 o_v0
                    have g0 := gr_tr (T := S124) g0 g133
                    intro _
                    refine u_X9_go_243 ?_
                    refine ⟨o_v0, ?_⟩
                    refine ⟨a1, ea1, ?_⟩
                    refine ⟨o_a1, ?_⟩
                    refine ⟨a55, ea55, ?_⟩
                    refine ⟨o_a43, ?_⟩
                    refine m_X5_endOf hI o_a43 (fun x137 S138 hI2 g139 p_x137 => ?_)
                    subst p_x137
                    intro _
                    refine ⟨o_a55, ?_⟩
                    intro S141 eS141
                    have hI : IV S141 := by rw [eS141]; exact iv_sI hI o_a55 (by decide) (nu_free (by decide))
                    have f0 := fr_I eS141 g0 f0 o_a55 (by decide)
                    have d_x38 := rd_Ik eS141 o_a55 o_a1 (by decide) d_x38
                    have d_x75 := rd_Ij eS141 (by decide) d_x75
                    have d_x137 := rd_Is eS141 (rfl : x137 = x137)
                    have ea1 := rf_I eS141 ea1
                    have ea10 := rf_I eS141 ea10
                    have ea36 := rf_I eS141 ea36
                    have ea42 := rf_I eS141 ea42
                    have ea55 := rf_I eS141 ea55
                    have ea118 := rf_I eS141 ea118
                    have ea120 := rf_I eS141 ea120
                    have ea130 := rf_I eS141 ea130
                    have l_a120 := ln_I eS141 l_a120
                    have l_a130 := ln_I eS141 l_a130
                    have l_a36 := ln_I eS141 l_a36
                    have l_a42 := ln_I eS141 l_a42
                    have g0 := gr_I eS141 g0
                    have o_a1 := ob_I eS141 o_a1
                    have o_a10 := ob_I eS141 o_a10
                    have o_a118 := ob_I eS141 o_a118
                    have o_a120 := ob_I eS141 o_a120
                    have o_a121 := ob_I eS141 o_a121
                    have o_a130 := ob_I eS141 o_a130
                    have o_a36 := ob_I eS141 o_a36
                    have o_a39 := ob_I eS141 o_a39
                    have o_a42 := ob_I eS141 o_a42
                    have o_a43 := ob_I eS141 o_a43
                    have o_a55 := ob_I eS141 o_a55
                    have o_v0 := ob_I eS141 o_v0
                    refine ⟨a1, ea1, ?_⟩
                    refine ⟨o_a1, ?_⟩
                    refine ⟨a55, ea55, ?_⟩
                    refine ⟨o_a55, ?_⟩
                    intro S144 eS144
                    have hI : IV S144 := by rw [eS144]; exact iv_sI hI o_a55 (by decide) (nu_free (by decide))
                    have f0 := fr_I eS144 g0 f0 o_a55 (by decide)
                    have d_x38 := rd_Ik eS144 o_a55 o_a1 (by decide) d_x38
                    have d_x137 := rd_Ij eS144 (by decide) d_x137
                    have d_x65 := rd_Is eS144 (rfl : x65 = x65)
                    have ea1 := rf_I eS144 ea1
                    have ea10 := rf_I eS144 ea10
                    have ea36 := rf_I eS144 ea36
                    have ea42 := rf_I eS144 ea42
                    have ea55 := rf_I eS144 ea55
                    have ea118 := rf_I eS144 ea118
                    have ea120 := rf_I eS144 ea120
                    have ea130 := rf_I eS144 ea130
                    have l_a120 := ln_I eS144 l_a120
                    have l_a130 := ln_I eS144 l_a130
                    have l_a36 := ln_I eS144 l_a36
                    have l_a42 := ln_I eS144 l_a42
                    have g0 := gr_I eS144 g0
                    have o_a1 := ob_I eS144 o_a1
                    have o_a10 := ob_I eS144 o_a10
                    have o_a118 := ob_I eS144 o_a118
                    have o_a120 := ob_I eS144 o_a120
                    have o_a121 := ob_I eS144 o_a121
                    have o_a130 := ob_I eS144 o_a130
                    have o_a36 := ob_I eS144 o_a36
                    have o_a39 := ob_I eS144 o_a39
                    have o_a42 := ob_I eS144 o_a42
                    have o_a43 := ob_I eS144 o_a43
                    have o_a55 := ob_I eS144 o_a55
                    have o_v0 := ob_I eS144 o_v0
                    refine u_X9_grant ?_
                    refine u_X9_grant_0 ?_
                    refine ⟨o_v0, ?_⟩
                    intro S145 eS145
                    have hI : IV S145 := by rw [eS145]; exact iv_sI hI o_v0 (by decide) (nu_free (by decide))
                    have f0 := fr_I eS145 g0 f0 o_v0 (by decide)
                    have d_x38 := rd_Ik eS145 o_v0 o_a1 (by decide) d_x38
                    have d_x137 := rd_Ik eS145 o_v0 o_a55 (by decide) d_x137
                    have d_x65 := rd_Ik eS145 o_v0 o_a55 (by decide) d_x65
                    obtain ⟨y146, hy146⟩ : ∃ z : Int32, z = (0 : Int32) := ⟨_, rfl⟩
                    have d_y146 := rd_Is eS145 hy146
                    have ea1 := rf_I eS145 ea1
                    have ea10 := rf_I eS145 ea10
                    have ea36 := rf_I eS145 ea36
                    have ea42 := rf_I eS145 ea42
                    have ea55 := rf_I eS145 ea55
                    have ea118 := rf_I eS145 ea118
                    have ea120 := rf_I eS145 ea120
                    have ea130 := rf_I eS145 ea130
                    have l_a120 := ln_I eS145 l_a120
                    have l_a130 := ln_I eS145 l_a130
                    have l_a36 := ln_I eS145 l_a36
                    have l_a42 := ln_I eS145 l_a42
                    have g0 := gr_I eS145 g0
                    have o_a1 := ob_I eS145 o_a1
                    have o_a10 := ob_I eS145 o_a10
                    have o_a118 := ob_I eS145 o_a118
                    have o_a120 := ob_I eS145 o_a120
                    have o_a121 := ob_I eS145 o_a121
                    have o_a130 := ob_I eS145 o_a130
                    have o_a36 := ob_I eS145 o_a36
                    have o_a39 := ob_I eS145 o_a39
                    have o_a42 := ob_I eS145 o_a42
                    have o_a43 := ob_I eS145 o_a43
                    have o_a55 := ob_I eS145 o_a55
                    have o_v0 := ob_I eS145 o_v0
                    intro _
                    exact hq _ _ hI g0 f0
              · refine u_X9_refuse ?_
                refine u_X9_refuse_0 ?_
                refine ⟨o_v0, ?_⟩
                intro S148 eS148
                have hI : IV S148 := by rw [eS148]; exact iv_sI hI o_v0 (by decide) (nu_free (by decide))
                have f0 := fr_I eS148 g0 f0 o_v0 (by decide)
                have d_x38 := rd_Ik eS148 o_v0 o_a1 (by decide) d_x38
                have d_x56 := rd_Ik eS148 o_v0 o_a55 (by decide) d_x56
                have d_x60 := rd_Ik eS148 o_v0 o_a55 (by decide) d_x60
                obtain ⟨y149, hy149⟩ : ∃ z : Int32, z = (3 : Int32) := ⟨_, rfl⟩
                have d_y149 := rd_Is eS148 hy149
                have ea1 := rf_I eS148 ea1
                have ea10 := rf_I eS148 ea10
                have ea36 := rf_I eS148 ea36
                have ea42 := rf_I eS148 ea42
                have ea55 := rf_I eS148 ea55
                have l_a36 := ln_I eS148 l_a36
                have l_a42 := ln_I eS148 l_a42
                have g0 := gr_I eS148 g0
                have o_a1 := ob_I eS148 o_a1
                have o_a10 := ob_I eS148 o_a10
                have o_a36 := ob_I eS148 o_a36
                have o_a39 := ob_I eS148 o_a39
                have o_a42 := ob_I eS148 o_a42
                have o_a43 := ob_I eS148 o_a43
                have o_a55 := ob_I eS148 o_a55
                have o_v0 := ob_I eS148 o_v0
                intro _
                exact hq _ _ hI g0 f0
            · refine u_X9_refuse ?_
              refine u_X9_refuse_0 ?_
              refine ⟨o_v0, ?_⟩
              intro S151 eS151
              have hI : IV S151 := by rw [eS151]; exact iv_sI hI o_v0 (by decide) (nu_free (by decide))
              have f0 := fr_I eS151 g0 f0 o_v0 (by decide)
              have d_x38 := rd_Ik eS151 o_v0 o_a1 (by decide) d_x38
              have d_x56 := rd_Ik eS151 o_v0 o_a55 (by decide) d_x56
              obtain ⟨y152, hy152⟩ : ∃ z : Int32, z = (5 : Int32) := ⟨_, rfl⟩
              have d_y152 := rd_Is eS151 hy152
              have ea1 := rf_I eS151 ea1
              have ea10 := rf_I eS151 ea10
              have ea36 := rf_I eS151 ea36
              have ea42 := rf_I eS151 ea42
              have ea55 := rf_I eS151 ea55
              have l_a36 := ln_I eS151 l_a36
              have l_a42 := ln_I eS151 l_a42
              have g0 := gr_I eS151 g0
              have o_a1 := ob_I eS151 o_a1
              have o_a10 := ob_I eS151 o_a10
              have o_a36 := ob_I eS151 o_a36
              have o_a39 := ob_I eS151 o_a39
              have o_a42 := ob_I eS151 o_a42
              have o_a43 := ob_I eS151 o_a43
              have o_a55 := ob_I eS151 o_a55
              have o_v0 := ob_I eS151 o_v0
              intro _
              exact hq _ _ hI g0 f0
          · refine u_X9_refuse ?_
            refine u_X9_refuse_0 ?_
            refine ⟨o_v0, ?_⟩
            intro S154 eS154
            have hI : IV S154 := by rw [eS154]; exact iv_sI hI o_v0 (by decide) (nu_free (by decide))
            have f0 := fr_I eS154 g0 f0 o_v0 (by decide)
            have d_x38 := rd_Ik eS154 o_v0 o_a1 (by decide) d_x38
            obtain ⟨y155, hy155⟩ : ∃ z : Int32, z = (2 : Int32) := ⟨_, rfl⟩
            have d_y155 := rd_Is eS154 hy155
            have ea1 := rf_I eS154 ea1
            have ea10 := rf_I eS154 ea10
            have ea36 := rf_I eS154 ea36
            have ea42 := rf_I eS154 ea42
            have l_a36 := ln_I eS154 l_a36
            have l_a42 := ln_I eS154 l_a42
            have g0 := gr_I eS154 g0
            have o_a1 := ob_I eS154 o_a1
            have o_a10 := ob_I eS154 o_a10
            have o_a36 := ob_I eS154 o_a36
            have o_a39 := ob_I eS154 o_a39
            have o_a42 := ob_I eS154 o_a42
            have o_a43 := ob_I eS154 o_a43
            have o_v0 := ob_I eS154 o_v0
            intro _
            exact hq _ _ hI g0 f0
        · refine u_X9_go_45 ?_
          refine ⟨o_v0, ?_⟩
          refine u_X9_refuse ?_
          refine u_X9_refuse_0 ?_
          refine ⟨o_v0, ?_⟩
          intro S157 eS157
          have hI : IV S157 := by rw [eS157]; exact iv_sI hI o_v0 (by decide) (nu_free (by decide))
          have f0 := fr_I eS157 g0 f0 o_v0 (by decide)
          have d_x12 := rd_Ik eS157 o_v0 o_a1 (by decide) d_x12
          obtain ⟨y158, hy158⟩ : ∃ z : Int32, z = (1 : Int32) := ⟨_, rfl⟩
          have d_y158 := rd_Is eS157 hy158
          have ea1 := rf_I eS157 ea1
          have ea10 := rf_I eS157 ea10
          have g0 := gr_I eS157 g0
          have o_a1 := ob_I eS157 o_a1
          have o_a10 := ob_I eS157 o_a10
          have o_v0 := ob_I eS157 o_v0
          intro _
          exact hq _ _ hI g0 f0
