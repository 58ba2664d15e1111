set_option maxHeartbeats 4000000 in
set_option maxRecDepth 20000 in
theorem m_X9_got {v0 : Nat} {v1 : Int32} {v2 : Int32} {Q : Int64 → HS → Prop} {S : HS} (hI : IV S) (o_v0 : ob S v0 9)     (hq : ∀ (r : Int64) (T : HS), IV T → Gr S T → FRI [(9, 9)] [] S T → Q r T) : P_X9_got v0 v1 v2 Q S := by
  have g0 := gr_rf S
  have f0 := fri_rf [(9, 9)] [] S
  refine u_X9_got ?_
  refine u_X9_got_0 ?_
  refine ⟨o_v0, ?_⟩
  obtain ⟨a1, ea1, o_a1, -⟩ := sh 5 rfl hI o_v0
  refine ⟨a1, ea1, ?_⟩
  refine ⟨o_a1, ?_⟩
  refine m_X0_isOn hI o_a1 (fun x2 S3 hI2 g4 b_x2 p_x2 => ?_)
  subst p_x2
  intro _ _
  have bb_x2 : x2 = 0 ∨ x2 = 1 := b_x2
  refine ⟨fun c6 => ?_, fun c6 => ?_⟩
  · refine u_X9_got_17 ?_
    refine ⟨o_v0, ?_⟩
    refine u_X9_refuse ?_
    refine u_X9_refuse_0 ?_
    refine ⟨o_v0, ?_⟩
    intro S7 eS7
    have hI : IV S7 := by rw [eS7]; exact iv_sI hI o_v0 (by decide) (nu_free (by decide))
    have f0 := fr_I eS7 g0 f0 o_v0 (by decide)
    obtain ⟨y8, hy8⟩ : ∃ z : Int32, z = (1 : Int32) := ⟨_, rfl⟩
    have d_y8 := rd_Is eS7 hy8
    have ea1 := rf_I eS7 ea1
    have g0 := gr_I eS7 g0
    have o_a1 := ob_I eS7 o_a1
    have o_v0 := ob_I eS7 o_v0
    intro _
    exact hq _ _ hI g0 f0
  · refine m_X9_isFace hI (fun x10 S11 hI2 g12 b_x10 p_x10 => ?_)
    obtain ⟨z_S11, p_x10⟩ := p_x10
    subst z_S11
    intro _ _
    have bb_x10 : x10 = 0 ∨ x10 = 1 := b_x10
    refine ⟨fun c14 => ?_, fun c14 => ?_⟩
    · intro S15 eS15
      have hI : IV S15 := by rw [eS15]; exact iv_sI hI o_v0 (by decide) (nu_free (by decide))
      have f0 := fr_I eS15 g0 f0 o_v0 (by decide)
      obtain ⟨y16, hy16⟩ : ∃ z : Int32, z = (0 : Int32) := ⟨_, rfl⟩
      have d_y16 := rd_Is eS15 hy16
      have ea1 := rf_I eS15 ea1
      have g0 := gr_I eS15 g0
      have o_a1 := ob_I eS15 o_a1
      have o_v0 := ob_I eS15 o_v0
      refine ⟨a1, ea1, ?_⟩
      refine ⟨o_a1, ?_⟩
      obtain ⟨a18, ea18, o_a18, -⟩ := sh 6 rfl hI o_a1
      refine ⟨a18, ea18, ?_⟩
      refine ⟨o_a18, ?_⟩
      obtain ⟨a19, ea19, o_a19, l_a19⟩ := shl 11 rfl hI o_a18
      refine ⟨a19, ea19, ?_⟩
      refine ⟨o_a19, ?_⟩
      refine ⟨(vin l_a19 (m := 5) (by decide) (q1369 bb_x2 c6 p_x10 bb_x10 c14)), ?_⟩
      intro x20 ex20
      refine m_X9_fraction hI (fun x21 S22 hI2 g23 p_x21 => ?_)
      subst p_x21
      intro _
      exact hq _ _ hI g0 f0
    · refine u_X9_got_17 ?_
      refine ⟨o_v0, ?_⟩
      refine u_X9_refuse ?_
      refine u_X9_refuse_0 ?_
      refine ⟨o_v0, ?_⟩
      intro S25 eS25
      have hI : IV S25 := by rw [eS25]; exact iv_sI hI o_v0 (by decide) (nu_free (by decide))
      have f0 := fr_I eS25 g0 f0 o_v0 (by decide)
      obtain ⟨y26, hy26⟩ : ∃ z : Int32, z = (1 : Int32) := ⟨_, rfl⟩
      have d_y26 := rd_Is eS25 hy26
      have ea1 := rf_I eS25 ea1
      have g0 := gr_I eS25 g0
      have o_a1 := ob_I eS25 o_a1
      have o_v0 := ob_I eS25 o_v0
      intro _
      exact hq _ _ hI g0 f0
set_option maxHeartbeats 4000000 in
set_option maxRecDepth 20000 in
theorem m_X9_held {v0 : Nat} {v1 : Int32} {v2 : Int32} {v3 : Int32} {v4 : Int32} {v5 : Int32} {Q : Int32 → HS → Prop} {S : HS} (hI : IV S) (o_v0 : ob S v0 9)     (hq : ∀ (r : Int32) (T : HS), IV T → Gr S T → FRI [(9, 9)] [] S T → Q r T) : P_X9_held v0 v1 v2 v3 v4 v5 Q S := by
  have g0 := gr_rf S
  have f0 := fri_rf [(9, 9)] [] S
  refine u_X9_held ?_
  refine u_X9_held_0 ?_
  refine ⟨o_v0, ?_⟩
  refine m_X9_legTrouble hI o_v0 (fun x1 S2 hI2 g3 p_x1 => ?_)
  obtain ⟨z_S2, p_x1⟩ := p_x1
  subst z_S2
  intro _
  refine u_X9_refusedBy ?_
  refine u_X9_refusedBy_0 ?_
  refine ⟨o_v0, ?_⟩
  intro S5 eS5
  have hI : IV S5 := by rw [eS5]; exact iv_sI hI o_v0 (by decide) (nu_free (by decide))
  have f0 := fr_I eS5 g0 f0 o_v0 (by decide)
  have d_x1 := rd_Is eS5 (rfl : x1 = x1)
  have g0 := gr_I eS5 g0
  have o_v0 := ob_I eS5 o_v0
  refine ⟨fun c6 => ?_, fun c6 => ?_⟩
  · intro _ _
    refine ⟨fun c8 => ?_, fun c8 => ?_⟩
    · obtain ⟨a9, ea9, o_a9, -⟩ := sh 1 rfl hI o_v0
      refine ⟨a9, ea9, ?_⟩
      refine ⟨o_a9, ?_⟩
      obtain ⟨a10, ea10, o_a10, l_a10⟩ := shl 18 rfl hI o_a9
      refine ⟨a10, ea10, ?_⟩
      refine ⟨o_a10, ?_⟩
      have i12 : vp_in v1 (hN _ a10) := (vin l_a10 (m := 4) (by decide) (q0 p_x1 c6))
      obtain ⟨a11, ea11, o_a11⟩ := ae hI o_a10 (by decide) (by decide) i12
      replace o_a11 : ob _ a11 6 := o_a11
      refine ⟨i12, a11, ea11, ?_⟩
      refine ⟨o_a11, ?_⟩
      intro x13 ex13
      have d_x13 := ex13
      refine ⟨fun c14 => ?_, fun c14 => ?_⟩
      · obtain ⟨a15, ea15, o_a15, -⟩ := sh 3 rfl hI o_v0
        refine ⟨a15, ea15, ?_⟩
        refine ⟨a9, ea9, ?_⟩
        refine ⟨o_a9, ?_⟩
        obtain ⟨a17, ea17, o_a17, l_a17⟩ := shl 17 rfl hI o_a9
        refine ⟨a17, ea17, ?_⟩
        refine ⟨o_a17, ?_⟩
        have i19 : vp_in v2 (hN _ a17) := (vin l_a17 (m := 12) (by decide) (q1363 p_x1 c6 c14))
        obtain ⟨a18, ea18, o_a18⟩ := ae hI o_a17 (by decide) (by decide) i19
        replace o_a18 : ob _ a18 5 := o_a18
        refine ⟨i19, a18, ea18, ?_⟩
        refine ⟨a9, ea9, ?_⟩
        refine ⟨o_a9, ?_⟩
        obtain ⟨a21, ea21, o_a21, l_a21⟩ := shl 15 rfl hI o_a9
        refine ⟨a21, ea21, ?_⟩
        refine ⟨o_a21, ?_⟩
        have i23 : vp_in v4 (hN _ a21) := (vin l_a21 (m := 6) (by decide) (q1364 p_x1 c6 c14))
        obtain ⟨a22, ea22, o_a22⟩ := ae hI o_a21 (by decide) (by decide) i23
        replace o_a22 : ob _ a22 3 := o_a22
        refine ⟨i23, a22, ea22, ?_⟩
        refine ⟨o_a15, ?_⟩
        refine m_X1_lay hI o_a15 o_a18 o_a22 (fun S25 hJ g26 fc27 => ?_)
        have hI := hJ
        have l_a10 := (gr_len g26 o_a10).trans l_a10
        have l_a17 := (gr_len g26 o_a17).trans l_a17
        have l_a21 := (gr_len g26 o_a21).trans l_a21
        have d_x1 := d_x1.trans (fri_at fc27 (by decide) (by decide) o_v0).symm
        have d_x13 := d_x13.trans (fri_at fc27 (by decide) (by decide) o_a11).symm
        have ea9 := (frr_at fc27 (by decide) (by decide) o_v0).trans ea9
        have ea10 := (frr_at fc27 (by decide) (by decide) o_a9).trans ea10
        have ea15 := (frr_at fc27 (by decide) (by decide) o_v0).trans ea15
        have ea17 := (frr_at fc27 (by decide) (by decide) o_a9).trans ea17
        have ea21 := (frr_at fc27 (by decide) (by decide) o_a9).trans ea21
        have f0 := fri_tr (S := S5) g0 f0 fc27 (by decide) (by decide)
        have o_a10 := gr_ob g26 o_a10
        have o_a11 := gr_ob g26 o_a11
        have o_a15 := gr_ob g26 o_a15
        have o_a17 := gr_ob g26 o_a17
        have o_a18 := gr_ob g26 o_a18
        have o_a21 := gr_ob g26 o_a21
        have o_a22 := gr_ob g26 o_a22
        have o_a9 := gr_ob g26 o_a9
        have o_v0 := gr_ob g26 o_v0
        have g0 := gr_tr (T := S5) g0 g26
        intro _
        refine ⟨a15, ea15, ?_⟩
        refine ⟨a9, ea9, ?_⟩
        refine ⟨o_a9, ?_⟩
        refine ⟨a10, ea10, ?_⟩
        refine ⟨o_a10, ?_⟩
        have i32 : vp_in v1 (hN _ a10) := (vin l_a10 (m := 4) (by decide) (q1365 p_x1 c6 c14))
        obtain ⟨a31, ea31, o_a31⟩ := ae hI o_a10 (by decide) (by decide) i32
        replace o_a31 : ob _ a31 6 := o_a31
        refine ⟨i32, a31, ea31, ?_⟩
        refine ⟨o_a15, ?_⟩
        refine m_X1_isForward hI o_a15 o_a31 (fun x33 S34 hI2 g35 b_x33 p_x33 => ?_)
        subst p_x33
        intro _ _
        have bb_x33 : x33 = 0 ∨ x33 = 1 := b_x33
        refine ⟨fun c37 => ?_, fun c37 => ?_⟩
        · exact hq _ _ hI g0 f0
        · exact hq _ _ hI g0 f0
      · exact hq _ _ hI g0 f0
    · exact hq _ _ hI g0 f0
  · intro _ _
    refine ⟨fun c39 => ?_, fun c39 => ?_⟩
    · obtain ⟨a40, ea40, o_a40, -⟩ := sh 1 rfl hI o_v0
      refine ⟨a40, ea40, ?_⟩
      refine ⟨o_a40, ?_⟩
      obtain ⟨a41, ea41, o_a41, l_a41⟩ := shl 18 rfl hI o_a40
      refine ⟨a41, ea41, ?_⟩
      refine ⟨o_a41, ?_⟩
      have i43 : vp_in v1 (hN _ a41) := (vin l_a41 (m := 4) (by decide) (q3 p_x1 c6 c39))
      obtain ⟨a42, ea42, o_a42⟩ := ae hI o_a41 (by decide) (by decide) i43
      replace o_a42 : ob _ a42 6 := o_a42
      refine ⟨i43, a42, ea42, ?_⟩
      refine ⟨o_a42, ?_⟩
      intro x44 ex44
      have d_x44 := ex44
      refine ⟨fun c45 => ?_, fun c45 => ?_⟩
      · obtain ⟨a46, ea46, o_a46, -⟩ := sh 3 rfl hI o_v0
        refine ⟨a46, ea46, ?_⟩
        refine ⟨a40, ea40, ?_⟩
        refine ⟨o_a40, ?_⟩
        obtain ⟨a48, ea48, o_a48, l_a48⟩ := shl 17 rfl hI o_a40
        refine ⟨a48, ea48, ?_⟩
        refine ⟨o_a48, ?_⟩
        have i50 : vp_in v2 (hN _ a48) := (vin l_a48 (m := 12) (by decide) (q1366 p_x1 c6 c39 c45))
        obtain ⟨a49, ea49, o_a49⟩ := ae hI o_a48 (by decide) (by decide) i50
        replace o_a49 : ob _ a49 5 := o_a49
        refine ⟨i50, a49, ea49, ?_⟩
        refine ⟨a40, ea40, ?_⟩
        refine ⟨o_a40, ?_⟩
        obtain ⟨a52, ea52, o_a52, l_a52⟩ := shl 15 rfl hI o_a40
        refine ⟨a52, ea52, ?_⟩
        refine ⟨o_a52, ?_⟩
        have i54 : vp_in v4 (hN _ a52) := (vin l_a52 (m := 6) (by decide) (q1367 p_x1 c6 c39 c45))
        obtain ⟨a53, ea53, o_a53⟩ := ae hI o_a52 (by decide) (by decide) i54
        replace o_a53 : ob _ a53 3 := o_a53
        refine ⟨i54, a53, ea53, ?_⟩
        refine ⟨o_a46, ?_⟩
        refine m_X1_lay hI o_a46 o_a49 o_a53 (fun S56 hJ g57 fc58 => ?_)
        have hI := hJ
        have l_a41 := (gr_len g57 o_a41).trans l_a41
        have l_a48 := (gr_len g57 o_a48).trans l_a48
        have l_a52 := (gr_len g57 o_a52).trans l_a52
        have d_x1 := d_x1.trans (fri_at fc58 (by decide) (by decide) o_v0).symm
        have d_x44 := d_x44.trans (fri_at fc58 (by decide) (by decide) o_a42).symm
        have ea40 := (frr_at fc58 (by decide) (by decide) o_v0).trans ea40
        have ea41 := (frr_at fc58 (by decide) (by decide) o_a40).trans ea41
        have ea46 := (frr_at fc58 (by decide) (by decide) o_v0).trans ea46
        have ea48 := (frr_at fc58 (by decide) (by decide) o_a40).trans ea48
        have ea52 := (frr_at fc58 (by decide) (by decide) o_a40).trans ea52
        have f0 := fri_tr (S := S5) g0 f0 fc58 (by decide) (by decide)
        have o_a40 := gr_ob g57 o_a40
        have o_a41 := gr_ob g57 o_a41
        have o_a42 := gr_ob g57 o_a42
        have o_a46 := gr_ob g57 o_a46
        have o_a48 := gr_ob g57 o_a48
        have o_a49 := gr_ob g57 o_a49
        have o_a52 := gr_ob g57 o_a52
        have o_a53 := gr_ob g57 o_a53
        have o_v0 := gr_ob g57 o_v0
        have g0 := gr_tr (T := S5) g0 g57
        intro _
        refine ⟨a46, ea46, ?_⟩
        refine ⟨a40, ea40, ?_⟩
        refine ⟨o_a40, ?_⟩
        refine ⟨a41, ea41, ?_⟩
        refine ⟨o_a41, ?_⟩
        have i63 : vp_in v1 (hN _ a41) := (vin l_a41 (m := 4) (by decide) (q1368 p_x1 c6 c39 c45))
        obtain ⟨a62, ea62, o_a62⟩ := ae hI o_a41 (by decide) (by decide) i63
        replace o_a62 : ob _ a62 6 := o_a62
        refine ⟨i63, a62, ea62, ?_⟩
        refine ⟨o_a46, ?_⟩
        refine m_X1_isForward hI o_a46 o_a62 (fun x64 S65 hI2 g66 b_x64 p_x64 => ?_)
        subst p_x64
        intro _ _
        have bb_x64 : x64 = 0 ∨ x64 = 1 := b_x64
        refine ⟨fun c68 => ?_, fun c68 => ?_⟩
        · exact hq _ _ hI g0 f0
        · exact hq _ _ hI g0 f0
      · exact hq _ _ hI g0 f0
    · exact hq _ _ hI g0 f0
set_option maxHeartbeats 4000000 in
set_option maxRecDepth 20000 in
theorem m_X9_isTill {v0 : Int32} {Q : Int32 → HS → Prop} {S : HS} (hI : IV S)      (hq : ∀ (r : Int32) (T : HS), IV T → Gr S T → bl r → (S = T) ∧ (r = 1 → 0 ≤ v0 ∧ v0 ≤ 400) → Q r T) : P_X9_isTill v0 Q S := by
  have g0 := gr_rf S
  refine u_X9_isTill ?_
  refine u_X9_isTill_0 ?_
  refine ⟨fun c1 => ?_, fun c1 => ?_⟩
  · exact hq _ _ hI g0 (Or.inl rfl) ⟨rfl, (q747 c1)⟩
  · refine ⟨fun c2 => ?_, fun c2 => ?_⟩
    · exact hq _ _ hI g0 (Or.inl rfl) ⟨rfl, (q748 c1 c2)⟩
    · exact hq _ _ hI g0 (Or.inr rfl) ⟨rfl, (q749 c1 c2)⟩
set_option maxHeartbeats 4000000 in
set_option maxRecDepth 20000 in
theorem m_X9_placesTrouble {v0 : Nat} {v1 : Int32} {v2 : Int32} {v3 : Int32} {Q : Int32 → HS → Prop} {S : HS} (hI : IV S) (o_v0 : ob S v0 9)     (hq : ∀ (r : Int32) (T : HS), IV T → Gr S T → (S = T) ∧ (r = 0 → 0 ≤ v1 ∧ v1 < 4 ∧ 0 ≤ v2 ∧ v2 < 8 ∧ 0 ≤ v3 ∧ v3 < 8) → Q r T) : P_X9_placesTrouble v0 v1 v2 v3 Q S := by
  have g0 := gr_rf S
  refine u_X9_placesTrouble ?_
  refine u_X9_placesTrouble_0 ?_
  refine ⟨o_v0, ?_⟩
  obtain ⟨a1, ea1, o_a1, -⟩ := sh 1 rfl hI o_v0
  refine ⟨a1, ea1, ?_⟩
  refine ⟨o_a1, ?_⟩
  refine m_X8_hasWalker hI o_a1 (fun x2 S3 hI2 g4 b_x2 p_x2 => ?_)
  obtain ⟨z_S3, p_x2⟩ := p_x2
  subst z_S3
  intro _ _
  have bb_x2 : x2 = 0 ∨ x2 = 1 := b_x2
  refine ⟨fun c6 => ?_, fun c6 => ?_⟩
  · refine u_X9_placesTrouble_37 ?_
    refine u_X9_placesTrouble_38 ?_
    refine ⟨fun c7 => ?_, fun c7 => ?_⟩
    · exact hq _ _ hI g0 ⟨rfl, (q739 p_x2 bb_x2 c6)⟩
    · exact hq _ _ hI g0 ⟨rfl, (q740 p_x2 bb_x2 c6 c7)⟩
  · refine ⟨a1, ea1, ?_⟩
    refine ⟨o_a1, ?_⟩
    refine m_X8_hasPlace hI o_a1 (fun x9 S10 hI2 g11 b_x9 p_x9 => ?_)
    obtain ⟨z_S10, p_x9⟩ := p_x9
    subst z_S10
    intro _ _
    have bb_x9 : x9 = 0 ∨ x9 = 1 := b_x9
    refine ⟨fun c13 => ?_, fun c13 => ?_⟩
    · refine u_X9_placesTrouble_37 ?_
      refine u_X9_placesTrouble_38 ?_
      refine ⟨fun c14 => ?_, fun c14 => ?_⟩
      · exact hq _ _ hI g0 ⟨rfl, (q741 p_x2 bb_x2 c6 p_x9 bb_x9 c13)⟩
      · exact hq _ _ hI g0 ⟨rfl, (q742 p_x2 bb_x2 c6 p_x9 bb_x9 c13 c14)⟩
    · refine ⟨a1, ea1, ?_⟩
      refine ⟨o_a1, ?_⟩
      refine m_X8_hasPlace hI o_a1 (fun x16 S17 hI2 g18 b_x16 p_x16 => ?_)
      obtain ⟨z_S17, p_x16⟩ := p_x16
      subst z_S17
      intro _ _
      have bb_x16 : x16 = 0 ∨ x16 = 1 := b_x16
      refine ⟨fun c20 => ?_, fun c20 => ?_⟩
      · refine u_X9_placesTrouble_37 ?_
        refine u_X9_placesTrouble_38 ?_
        refine ⟨fun c21 => ?_, fun c21 => ?_⟩
        · exact hq _ _ hI g0 ⟨rfl, (q743 p_x2 bb_x2 c6 p_x9 bb_x9 c13 p_x16 bb_x16 c20)⟩
        · exact hq _ _ hI g0 ⟨rfl, (q744 p_x2 bb_x2 c6 p_x9 bb_x9 c13 p_x16 bb_x16 c20 c21)⟩
      · refine u_X9_placesTrouble_38 ?_
        refine ⟨fun c22 => ?_, fun c22 => ?_⟩
        · exact hq _ _ hI g0 ⟨rfl, (q745 p_x2 bb_x2 c6 p_x9 bb_x9 c13 p_x16 bb_x16 c20 c22)⟩
        · exact hq _ _ hI g0 ⟨rfl, (q746 p_x2 bb_x2 c6 p_x9 bb_x9 c13 p_x16 bb_x16 c20)⟩
set_option maxHeartbeats 4000000 in
set_option maxRecDepth 20000 in
theorem m_X9_wayTrouble {v0 : Nat} {v1 : Int32} {v2 : Int32} {v3 : Int32} {v4 : Int32} {v5 : Int32} {Q : Int32 → HS → Prop} {S : HS} (hI : IV S) (o_v0 : ob S v0 9)     (hq : ∀ (r : Int32) (T : HS), IV T → Gr S T → FRI [(7, 3), (7, 9), (7, 10), (7, 11), (7, 12), (7, 13)] [(7, 0), (7, 1), (7, 2), (7, 4), (7, 5), (7, 6), (7, 7), (7, 8)] S T → Q r T) : P_X9_wayTrouble v0 v1 v2 v3 v4 v5 Q S := by
  have g0 := gr_rf S
  have f0 := fri_rf [(7, 3), (7, 9), (7, 10), (7, 11), (7, 12), (7, 13)] [(7, 0), (7, 1), (7, 2), (7, 4), (7, 5), (7, 6), (7, 7), (7, 8)] S
  refine u_X9_wayTrouble ?_
  refine u_X9_wayTrouble_0 ?_
  refine ⟨o_v0, ?_⟩
  refine m_X9_placesTrouble hI o_v0 (fun x1 S2 hI2 g3 p_x1 => ?_)
  obtain ⟨z_S2, p_x1⟩ := p_x1
  subst z_S2
  intro _
  refine ⟨fun c5 => ?_, fun c5 => ?_⟩
  · refine m_X9_isTill hI (fun x6 S7 hI2 g8 b_x6 p_x6 => ?_)
    obtain ⟨z_S7, p_x6⟩ := p_x6
    subst z_S7
    intro _ _
    have bb_x6 : x6 = 0 ∨ x6 = 1 := b_x6
    refine ⟨fun c10 => ?_, fun c10 => ?_⟩
    · exact hq _ _ hI g0 f0
    · refine ⟨fun c11 => ?_, fun c11 => ?_⟩
      · exact hq _ _ hI g0 f0
      · refine ⟨fun c12 => ?_, fun c12 => ?_⟩
        · obtain ⟨a13, ea13, o_a13, -⟩ := sh 4 rfl hI o_v0
          refine ⟨a13, ea13, ?_⟩
          obtain ⟨a14, ea14, o_a14, -⟩ := sh 1 rfl hI o_v0
          refine ⟨a14, ea14, ?_⟩
          obtain ⟨a15, ea15, o_a15, -⟩ := sh 3 rfl hI o_v0
          refine ⟨a15, ea15, ?_⟩
          refine ⟨o_a13, ?_⟩
          refine m_X7_reckon hI o_a13 o_a14 o_a15 (q738 p_x1 c5 p_x6 bb_x6 c10 c11 c12) (fun S17 hJ g18 fc19 => ?_)
          have hI := hJ
          have ea13 := (frr_at fc19 (by decide) (by decide) o_v0).trans ea13
          have ea14 := (frr_at fc19 (by decide) (by decide) o_v0).trans ea14
          have ea15 := (frr_at fc19 (by decide) (by decide) o_v0).trans ea15
          have f0 := fri_tr (S := S) g0 f0 fc19 (by decide) (by decide)
          have o_a13 := gr_ob g18 o_a13
          have o_a14 := gr_ob g18 o_a14
          have o_a15 := gr_ob g18 o_a15
          have o_v0 := gr_ob g18 o_v0
          have g0 := gr_tr (T := S) g0 g18
          intro _
          refine ⟨a13, ea13, ?_⟩
          refine ⟨o_a13, ?_⟩
          refine m_X7_isOpen hI o_a13 (fun x21 S22 hI2 g23 b_x21 p_x21 => ?_)
          subst p_x21
          intro _ _
          have bb_x21 : x21 = 0 ∨ x21 = 1 := b_x21
          refine ⟨fun c25 => ?_, fun c25 => ?_⟩
          · exact hq _ _ hI g0 f0
          · exact hq _ _ hI g0 f0
        · exact hq _ _ hI g0 f0
  · exact hq _ _ hI g0 f0
set_option maxHeartbeats 4000000 in
set_option maxRecDepth 20000 in
theorem m_X9_least {v0 : Nat} {v1 : Int32} {v2 : Int32} {v3 : Int32} {v4 : Int32} {v5 : Int32} {v6 : Int32} {Q : Int64 → HS → Prop} {S : HS} (hI : IV S) (o_v0 : ob S v0 9)     (hq : ∀ (r : Int64) (T : HS), IV T → Gr S T → FRI [(7, 3), (7, 9), (7, 10), (7, 11), (7, 12), (7, 13), (9, 9)] [(7, 0), (7, 1), (7, 2), (7, 4), (7, 5), (7, 6), (7, 7), (7, 8)] S T → Q r T) : P_X9_least v0 v1 v2 v3 v4 v5 v6 Q S := by
  have g0 := gr_rf S
  have f0 := fri_rf [(7, 3), (7, 9), (7, 10), (7, 11), (7, 12), (7, 13), (9, 9)] [(7, 0), (7, 1), (7, 2), (7, 4), (7, 5), (7, 6), (7, 7), (7, 8)] S
  refine u_X9_least ?_
  refine u_X9_least_0 ?_
  refine ⟨o_v0, ?_⟩
  refine m_X9_wayTrouble hI o_v0 (fun x1 S2 hJ g3 fc4 => ?_)
  have hI := hJ
  have f0 := fri_tr (S := S) g0 f0 fc4 (by decide) (by decide)
  have o_v0 := gr_ob g3 o_v0
  have g0 := gr_tr (T := S) g0 g3
  intro _
  refine u_X9_refusedBy ?_
  refine u_X9_refusedBy_0 ?_
  refine ⟨o_v0, ?_⟩
  intro S5 eS5
  have hI : IV S5 := by rw [eS5]; exact iv_sI hI o_v0 (by decide) (nu_free (by decide))
  have f0 := fr_I eS5 g0 f0 o_v0 (by decide)
  have d_x1 := rd_Is eS5 (rfl : x1 = x1)
  have g0 := gr_I eS5 g0
  have o_v0 := ob_I eS5 o_v0
  refine ⟨fun c6 => ?_, fun c6 => ?_⟩
  · intro _ _
    refine ⟨fun c8 => ?_, fun c8 => ?_⟩
    · obtain ⟨a9, ea9, o_a9, -⟩ := sh 4 rfl hI o_v0
      refine ⟨a9, ea9, ?_⟩
      refine ⟨o_a9, ?_⟩
      refine m_X7_meanFrom hI o_a9 (fun x10 S11 hI2 g12 p_x10 => ?_)
      subst p_x10
      intro _
      refine m_X9_fraction hI (fun x14 S15 hI2 g16 p_x14 => ?_)
      subst p_x14
      intro _
      exact hq _ _ hI g0 f0
    · exact hq _ _ hI g0 f0
  · intro _ _
    refine ⟨fun c19 => ?_, fun c19 => ?_⟩
    · obtain ⟨a20, ea20, o_a20, -⟩ := sh 4 rfl hI o_v0
      refine ⟨a20, ea20, ?_⟩
      refine ⟨o_a20, ?_⟩
      refine m_X7_meanFrom hI o_a20 (fun x21 S22 hI2 g23 p_x21 => ?_)
      subst p_x21
      intro _
      refine m_X9_fraction hI (fun x25 S26 hI2 g27 p_x25 => ?_)
      subst p_x25
      intro _
      exact hq _ _ hI g0 f0
    · exact hq _ _ hI g0 f0
set_option maxHeartbeats 4000000 in
set_option maxRecDepth 20000 in
theorem m_X9_lee {v0 : Nat} {v1 : Int32} {v2 : Int32} {v3 : Int32} {v4 : Int32} {v5 : Int32} {v6 : Int32} {v7 : Int32} {Q : Int64 → HS → Prop} {S : HS} (hI : IV S) (o_v0 : ob S v0 9)     (hq : ∀ (r : Int64) (T : HS), IV T → Gr S T → FRI [(9, 9)] [] S T → Q r T) : P_X9_lee v0 v1 v2 v3 v4 v5 v6 v7 Q S := by
  have g0 := gr_rf S
  have f0 := fri_rf [(9, 9)] [] S
  refine u_X9_lee ?_
  refine u_X9_lee_0 ?_
  refine ⟨o_v0, ?_⟩
  refine m_X9_leeTrouble hI o_v0 (fun x1 S2 hI2 g3 p_x1 => ?_)
  obtain ⟨z_S2, p_x1⟩ := p_x1
  subst z_S2
  intro _
  refine u_X9_refusedBy ?_
  refine u_X9_refusedBy_0 ?_
  refine ⟨o_v0, ?_⟩
  intro S5 eS5
  have hI : IV S5 := by rw [eS5]; exact iv_sI hI o_v0 (by decide) (nu_free (by decide))
  have f0 := fr_I eS5 g0 f0 o_v0 (by decide)
  have d_x1 := rd_Is eS5 (rfl : x1 = x1)
  have g0 := gr_I eS5 g0
  have o_v0 := ob_I eS5 o_v0
  refine ⟨fun c6 => ?_, fun c6 => ?_⟩
  · intro _ _
    refine ⟨fun c8 => ?_, fun c8 => ?_⟩
    · obtain ⟨a9, ea9, o_a9, -⟩ := sh 3 rfl hI o_v0
      refine ⟨a9, ea9, ?_⟩
      obtain ⟨a10, ea10, o_a10, -⟩ := sh 1 rfl hI o_v0
      refine ⟨a10, ea10, ?_⟩
      refine ⟨o_a10, ?_⟩
      obtain ⟨a11, ea11, o_a11, l_a11⟩ := shl 17 rfl hI o_a10
      refine ⟨a11, ea11, ?_⟩
      refine ⟨o_a11, ?_⟩
      have i13 : vp_in v3 (hN _ a11) := (vin l_a11 (m := 12) (by decide) (q1352 p_x1 c6))
      obtain ⟨a12, ea12, o_a12⟩ := ae hI o_a11 (by decide) (by decide) i13
      replace o_a12 : ob _ a12 5 := o_a12
      refine ⟨i13, a12, ea12, ?_⟩
      refine ⟨a10, ea10, ?_⟩
      refine ⟨o_a10, ?_⟩
      obtain ⟨a15, ea15, o_a15, l_a15⟩ := shl 15 rfl hI o_a10
      refine ⟨a15, ea15, ?_⟩
      refine ⟨o_a15, ?_⟩
      have i17 : vp_in v5 (hN _ a15) := (vin l_a15 (m := 6) (by decide) (q1353 p_x1 c6))
      obtain ⟨a16, ea16, o_a16⟩ := ae hI o_a15 (by decide) (by decide) i17
      replace o_a16 : ob _ a16 3 := o_a16
      refine ⟨i17, a16, ea16, ?_⟩
      refine ⟨o_a9, ?_⟩
      refine m_X1_lay hI o_a9 o_a12 o_a16 (fun S19 hJ g20 fc21 => ?_)
      have hI := hJ
      have l_a11 := (gr_len g20 o_a11).trans l_a11
      have l_a15 := (gr_len g20 o_a15).trans l_a15
      have d_x1 := d_x1.trans (fri_at fc21 (by decide) (by decide) o_v0).symm
      have ea9 := (frr_at fc21 (by decide) (by decide) o_v0).trans ea9
      have ea10 := (frr_at fc21 (by decide) (by decide) o_v0).trans ea10
      have ea11 := (frr_at fc21 (by decide) (by decide) o_a10).trans ea11
      have ea15 := (frr_at fc21 (by decide) (by decide) o_a10).trans ea15
      have f0 := fri_tr (S := S5) g0 f0 fc21 (by decide) (by decide)
      have o_a10 := gr_ob g20 o_a10
      have o_a11 := gr_ob g20 o_a11
      have o_a12 := gr_ob g20 o_a12
      have o_a15 := gr_ob g20 o_a15
      have o_a16 := gr_ob g20 o_a16
      have o_a9 := gr_ob g20 o_a9
      have o_v0 := gr_ob g20 o_v0
      have g0 := gr_tr (T := S5) g0 g20
      intro _
      refine ⟨a9, ea9, ?_⟩
      refine ⟨a10, ea10, ?_⟩
      refine ⟨o_a10, ?_⟩
      obtain ⟨a24, ea24, o_a24, l_a24⟩ := shl 18 rfl hI o_a10
      refine ⟨a24, ea24, ?_⟩
      refine ⟨o_a24, ?_⟩
      have i26 : vp_in v1 (hN _ a24) := (vin l_a24 (m := 4) (by decide) (q1354 p_x1 c6))
      obtain ⟨a25, ea25, o_a25⟩ := ae hI o_a24 (by decide) (by decide) i26
      replace o_a25 : ob _ a25 6 := o_a25
      refine ⟨i26, a25, ea25, ?_⟩
      refine ⟨a10, ea10, ?_⟩
      refine ⟨o_a10, ?_⟩
      refine ⟨a24, ea24, ?_⟩
      refine ⟨o_a24, ?_⟩
      have i30 : vp_in v2 (hN _ a24) := (vin l_a24 (m := 4) (by decide) (q1355 p_x1 c6))
      obtain ⟨a29, ea29, o_a29⟩ := ae hI o_a24 (by decide) (by decide) i30
      replace o_a29 : ob _ a29 6 := o_a29
      refine ⟨i30, a29, ea29, ?_⟩
      refine ⟨o_a9, ?_⟩
      refine m_X1_wetInLee hI o_a9 o_a25 o_a29 (fun x31 S32 hJ g33 fc34 => ?_)
      have hI := hJ
      have l_a11 := (gr_len g33 o_a11).trans l_a11
      have l_a15 := (gr_len g33 o_a15).trans l_a15
      have l_a24 := (gr_len g33 o_a24).trans l_a24
      have d_x1 := d_x1.trans (fri_at fc34 (by decide) (by decide) o_v0).symm
      have ea9 := (frr_at fc34 (by decide) (by decide) o_v0).trans ea9
      have ea10 := (frr_at fc34 (by decide) (by decide) o_v0).trans ea10
      have ea11 := (frr_at fc34 (by decide) (by decide) o_a10).trans ea11
      have ea15 := (frr_at fc34 (by decide) (by decide) o_a10).trans ea15
      have ea24 := (frr_at fc34 (by decide) (by decide) o_a10).trans ea24
      have f0 := fri_tr (S := S19) g0 f0 fc34 (by decide) (by decide)
      have o_a10 := gr_ob g33 o_a10
      have o_a11 := gr_ob g33 o_a11
      have o_a12 := gr_ob g33 o_a12
      have o_a15 := gr_ob g33 o_a15
      have o_a16 := gr_ob g33 o_a16
      have o_a24 := gr_ob g33 o_a24
      have o_a25 := gr_ob g33 o_a25
      have o_a29 := gr_ob g33 o_a29
      have o_a9 := gr_ob g33 o_a9
      have o_v0 := gr_ob g33 o_v0
      have g0 := gr_tr (T := S19) g0 g33
      intro _
      refine m_X9_fraction hI (fun x35 S36 hI2 g37 p_x35 => ?_)
      subst p_x35
      intro _
      exact hq _ _ hI g0 f0
    · exact hq _ _ hI g0 f0
  · intro _ _
    refine ⟨fun c40 => ?_, fun c40 => ?_⟩
    · obtain ⟨a41, ea41, o_a41, -⟩ := sh 3 rfl hI o_v0
      refine ⟨a41, ea41, ?_⟩
      obtain ⟨a42, ea42, o_a42, -⟩ := sh 1 rfl hI o_v0
      refine ⟨a42, ea42, ?_⟩
      refine ⟨o_a42, ?_⟩
      obtain ⟨a43, ea43, o_a43, l_a43⟩ := shl 17 rfl hI o_a42
      refine ⟨a43, ea43, ?_⟩
      refine ⟨o_a43, ?_⟩
      have i45 : vp_in v3 (hN _ a43) := (vin l_a43 (m := 12) (by decide) (q1356 p_x1 c6 c40))
      obtain ⟨a44, ea44, o_a44⟩ := ae hI o_a43 (by decide) (by decide) i45
      replace o_a44 : ob _ a44 5 := o_a44
      refine ⟨i45, a44, ea44, ?_⟩
      refine ⟨a42, ea42, ?_⟩
      refine ⟨o_a42, ?_⟩
      obtain ⟨a47, ea47, o_a47, l_a47⟩ := shl 15 rfl hI o_a42
      refine ⟨a47, ea47, ?_⟩
      refine ⟨o_a47, ?_⟩
      have i49 : vp_in v5 (hN _ a47) := (vin l_a47 (m := 6) (by decide) (q1357 p_x1 c6 c40))
      obtain ⟨a48, ea48, o_a48⟩ := ae hI o_a47 (by decide) (by decide) i49
      replace o_a48 : ob _ a48 3 := o_a48
      refine ⟨i49, a48, ea48, ?_⟩
      refine ⟨o_a41, ?_⟩
      refine m_X1_lay hI o_a41 o_a44 o_a48 (fun S51 hJ g52 fc53 => ?_)
      have hI := hJ
      have l_a43 := (gr_len g52 o_a43).trans l_a43
      have l_a47 := (gr_len g52 o_a47).trans l_a47
      have d_x1 := d_x1.trans (fri_at fc53 (by decide) (by decide) o_v0).symm
      have ea41 := (frr_at fc53 (by decide) (by decide) o_v0).trans ea41
      have ea42 := (frr_at fc53 (by decide) (by decide) o_v0).trans ea42
      have ea43 := (frr_at fc53 (by decide) (by decide) o_a42).trans ea43
      have ea47 := (frr_at fc53 (by decide) (by decide) o_a42).trans ea47
      have f0 := fri_tr (S := S5) g0 f0 fc53 (by decide) (by decide)
      have o_a41 := gr_ob g52 o_a41
      have o_a42 := gr_ob g52 o_a42
      have o_a43 := gr_ob g52 o_a43
      have o_a44 := gr_ob g52 o_a44
      have o_a47 := gr_ob g52 o_a47
      have o_a48 := gr_ob g52 o_a48
      have o_v0 := gr_ob g52 o_v0
      have g0 := gr_tr (T := S5) g0 g52
      intro _
      refine ⟨a41, ea41, ?_⟩
      refine ⟨a42, ea42, ?_⟩
      refine ⟨o_a42, ?_⟩
      obtain ⟨a56, ea56, o_a56, l_a56⟩ := shl 18 rfl hI o_a42
      refine ⟨a56, ea56, ?_⟩
      refine ⟨o_a56, ?_⟩
      have i58 : vp_in v1 (hN _ a56) := (vin l_a56 (m := 4) (by decide) (q1358 p_x1 c6 c40))
      obtain ⟨a57, ea57, o_a57⟩ := ae hI o_a56 (by decide) (by decide) i58
      replace o_a57 : ob _ a57 6 := o_a57
      refine ⟨i58, a57, ea57, ?_⟩
      refine ⟨a42, ea42, ?_⟩
      refine ⟨o_a42, ?_⟩
      refine ⟨a56, ea56, ?_⟩
      refine ⟨o_a56, ?_⟩
      have i62 : vp_in v2 (hN _ a56) := (vin l_a56 (m := 4) (by decide) (q1359 p_x1 c6 c40))
      obtain ⟨a61, ea61, o_a61⟩ := ae hI o_a56 (by decide) (by decide) i62
      replace o_a61 : ob _ a61 6 := o_a61
      refine ⟨i62, a61, ea61, ?_⟩
      refine ⟨o_a41, ?_⟩
      refine m_X1_wetInLee hI o_a41 o_a57 o_a61 (fun x63 S64 hJ g65 fc66 => ?_)
      have hI := hJ
      have l_a43 := (gr_len g65 o_a43).trans l_a43
      have l_a47 := (gr_len g65 o_a47).trans l_a47
      have l_a56 := (gr_len g65 o_a56).trans l_a56
      have d_x1 := d_x1.trans (fri_at fc66 (by decide) (by decide) o_v0).symm
      have ea41 := (frr_at fc66 (by decide) (by decide) o_v0).trans ea41
      have ea42 := (frr_at fc66 (by decide) (by decide) o_v0).trans ea42
      have ea43 := (frr_at fc66 (by decide) (by decide) o_a42).trans ea43
      have ea47 := (frr_at fc66 (by decide) (by decide) o_a42).trans ea47
      have ea56 := (frr_at fc66 (by decide) (by decide) o_a42).trans ea56
      have f0 := fri_tr (S := S51) g0 f0 fc66 (by decide) (by decide)
      have o_a41 := gr_ob g65 o_a41
      have o_a42 := gr_ob g65 o_a42
      have o_a43 := gr_ob g65 o_a43
      have o_a44 := gr_ob g65 o_a44
      have o_a47 := gr_ob g65 o_a47
      have o_a48 := gr_ob g65 o_a48
      have o_a56 := gr_ob g65 o_a56
      have o_a57 := gr_ob g65 o_a57
      have o_a61 := gr_ob g65 o_a61
      have o_v0 := gr_ob g65 o_v0
      have g0 := gr_tr (T := S51) g0 g65
      intro _
      refine m_X9_fraction hI (fun x67 S68 hI2 g69 p_x67 => ?_)
      subst p_x67
      intro _
      exact hq _ _ hI g0 f0
    · exact hq _ _ hI g0 f0
set_option maxHeartbeats 4000000 in
set_option maxRecDepth 20000 in
theorem m_X9_lies {v0 : Nat} {Q : Int32 → HS → Prop} {S : HS} (hI : IV S) (o_v0 : ob S v0 9)     (hq : ∀ (r : Int32) (T : HS), IV T → Gr S T → FRI [(9, 9)] [] S T → Q r T) : P_X9_lies v0 Q S := by
  have g0 := gr_rf S
  have f0 := fri_rf [(9, 9)] [] S
  refine u_X9_lies ?_
  refine u_X9_lies_0 ?_
  refine ⟨o_v0, ?_⟩
  obtain ⟨a1, ea1, o_a1, -⟩ := sh 1 rfl hI o_v0
  refine ⟨a1, ea1, ?_⟩
  refine ⟨o_a1, ?_⟩
  refine m_X8_isTold hI o_a1 (fun x2 S3 hI2 g4 b_x2 p_x2 => ?_)
  subst p_x2
  intro _ _
  have bb_x2 : x2 = 0 ∨ x2 = 1 := b_x2
  refine ⟨fun c6 => ?_, fun c6 => ?_⟩
  · refine i_X9_lies_20 (fun (y0 : Nat) (y1 : Int32) (y2 : Int32) (Z : HS) => ((2147483647 : Int32).toInt - y2.toInt).toNat) (fun (y0 : Nat) (y1 : Int32) (y2 : Int32) (Z : HS) => (IV Z) ∧ (Gr S Z) ∧ (FRI [] [] S Z) ∧ (v0 = y0) ∧ (0 ≤ y2)) ?_ _ _ _ _ ⟨hI, (gr_rf _), (fri_rf _ _ _), rfl, (q202 bb_x2 c6)⟩
    intro w11 w13 w14 S8 X15 ⟨hI, gL9, fL10, q12, i1u7⟩ ih16
    subst q12
    have ea1 := (frr_at fL10 (by decide) (by decide) o_v0).trans ea1
    have f0 := fri_tr (S := S) g0 f0 fL10 (by decide) (by decide)
    have o_a1 := gr_ob gL9 o_a1
    have o_v0 := gr_ob gL9 o_v0
    have g0 := gr_tr (T := S) g0 gL9
    refine u_X9_lies_20 ?_
    refine ⟨o_v0, ?_⟩
    refine ⟨a1, ea1, ?_⟩
    refine ⟨o_a1, ?_⟩
    intro x18 ex18
    have r_x18 : (0 : Int32) ≤ x18 ∧ x18 ≤ (4 : Int32) := by rw [ex18]; exact nu 15 rfl hI o_a1
    have d_x18 := ex18
    refine ⟨fun c19 => ?_, fun c19 => ?_⟩
    · refine u_X9_grant ?_
      refine u_X9_grant_0 ?_
      refine ⟨o_v0, ?_⟩
      intro S20 eS20
      have hI : IV S20 := by rw [eS20]; exact iv_sI hI o_v0 (by decide) (nu_free (by decide))
      have f0 := fr_I eS20 g0 f0 o_v0 (by decide)
      have d_x18 := rd_Ik eS20 o_v0 o_a1 (by decide) d_x18
      obtain ⟨y21, hy21⟩ : ∃ z : Int32, z = (0 : Int32) := ⟨_, rfl⟩
      have d_y21 := rd_Is eS20 hy21
      have ea1 := rf_I eS20 ea1
      have g0 := gr_I eS20 g0
      have o_a1 := ob_I eS20 o_a1
      have o_v0 := ob_I eS20 o_v0
      intro _
      exact hq _ _ hI g0 f0
    · obtain ⟨a23, ea23, o_a23, -⟩ := sh 3 rfl hI o_v0
      refine ⟨a23, ea23, ?_⟩
      refine ⟨a1, ea1, ?_⟩
      refine ⟨o_a23, ?_⟩
      refine m_X1_findFit hI o_a23 o_a1 (fun x25 S26 hJ g27 fc28 => ?_)
      have hI := hJ
      have d_x18 := d_x18.trans (fri_at fc28 (by decide) (by decide) o_a1).symm
      have ea1 := (frr_at fc28 (by decide) (by decide) o_v0).trans ea1
      have ea23 := (frr_at fc28 (by decide) (by decide) o_v0).trans ea23
      have f0 := fri_tr (S := S8) g0 f0 fc28 (by decide) (by decide)
      have fL10 := fri_tr (S := S8) gL9 fL10 fc28 (by decide) (by decide)
      have o_a1 := gr_ob g27 o_a1
      have o_a23 := gr_ob g27 o_a23
      have o_v0 := gr_ob g27 o_v0
      have g0 := gr_tr (T := S8) g0 g27
      have gL9 := gr_tr (T := S8) gL9 g27
      intro _
      refine ⟨fun c29 => ?_, fun c29 => ?_⟩
      · refine u_X9_lies_54 ?_
        intro x30 ex30
        exact ih16 _ _ _ _ ⟨hI, gL9, fL10, rfl, (q1311 bb_x2 c6 i1u7 r_x18 c19 c29 ex30)⟩ (mu_up (q1312 bb_x2 c6 i1u7 r_x18 c19 c29 ex30) (q1313 bb_x2 c6 i1u7 r_x18 c19 c29 ex30))
      · intro x31 ex31
        refine u_X9_lies_54 ?_
        intro x32 ex32
        exact ih16 _ _ _ _ ⟨hI, gL9, fL10, rfl, (q1314 bb_x2 c6 i1u7 r_x18 c19 c29 ex31 ex32)⟩ (mu_up (q1315 bb_x2 c6 i1u7 r_x18 c19 c29 ex31 ex32) (q1316 bb_x2 c6 i1u7 r_x18 c19 c29 ex31 ex32))
  · refine u_X9_refuse ?_
    refine u_X9_refuse_0 ?_
    refine ⟨o_v0, ?_⟩
    intro S33 eS33
    have hI : IV S33 := by rw [eS33]; exact iv_sI hI o_v0 (by decide) (nu_free (by decide))
    have f0 := fr_I eS33 g0 f0 o_v0 (by decide)
    obtain ⟨y34, hy34⟩ : ∃ z : Int32, z = (1 : Int32) := ⟨_, rfl⟩
    have d_y34 := rd_Is eS33 hy34
    have ea1 := rf_I eS33 ea1
    have g0 := gr_I eS33 g0
    have o_a1 := ob_I eS33 o_a1
    have o_v0 := ob_I eS33 o_v0
    intro _
    exact hq _ _ hI g0 f0
set_option maxHeartbeats 4000000 in
set_option maxRecDepth 20000 in
theorem m_X9_mark {v0 : Nat} {Q : Int32 → HS → Prop} {S : HS} (hI : IV S) (o_v0 : ob S v0 9)     (hq : ∀ (r : Int32) (T : HS), IV T → Gr S T → FRI [(0, 3), (2, 0), (2, 1), (9, 9)] [] S T → Q r T) : P_X9_mark v0 Q S := by
  have g0 := gr_rf S
  have f0 := fri_rf [(0, 3), (2, 0), (2, 1), (9, 9)] [] S
  refine u_X9_mark ?_
  refine u_X9_mark_0 ?_
  refine ⟨o_v0, ?_⟩
  obtain ⟨a1, ea1, o_a1, -⟩ := sh 5 rfl hI o_v0
  refine ⟨a1, ea1, ?_⟩
  refine ⟨o_a1, ?_⟩
  refine m_X0_isOn hI o_a1 (fun x2 S3 hI2 g4 b_x2 p_x2 => ?_)
  subst p_x2
  intro _ _
  have bb_x2 : x2 = 0 ∨ x2 = 1 := b_x2
  refine ⟨fun c6 => ?_, fun c6 => ?_⟩
  · refine ⟨a1, ea1, ?_⟩
    refine ⟨o_a1, ?_⟩
    refine m_X0_setMark hI o_a1 (fun x8 S9 hJ g10 fc11 => ?_)
    have hI := hJ
    have ea1 := (frr_at fc11 (by decide) (by decide) o_v0).trans ea1
    have f0 := fri_tr (S := S) g0 f0 fc11 (by decide) (by decide)
    have o_a1 := gr_ob g10 o_a1
    have o_v0 := gr_ob g10 o_v0
    have g0 := gr_tr (T := S) g0 g10
    intro _
    refine ⟨fun c12 => ?_, fun c12 => ?_⟩
    · refine u_X9_grant ?_
      refine u_X9_grant_0 ?_
      refine ⟨o_v0, ?_⟩
      intro S13 eS13
      have hI : IV S13 := by rw [eS13]; exact iv_sI hI o_v0 (by decide) (nu_free (by decide))
      have f0 := fr_I eS13 g0 f0 o_v0 (by decide)
      obtain ⟨y14, hy14⟩ : ∃ z : Int32, z = (0 : Int32) := ⟨_, rfl⟩
      have d_y14 := rd_Is eS13 hy14
      have ea1 := rf_I eS13 ea1
      have g0 := gr_I eS13 g0
      have o_a1 := ob_I eS13 o_a1
      have o_v0 := ob_I eS13 o_v0
      intro _
      exact hq _ _ hI g0 f0
    · refine u_X9_refuse ?_
      refine u_X9_refuse_0 ?_
      refine ⟨o_v0, ?_⟩
      intro S16 eS16
      have hI : IV S16 := by rw [eS16]; exact iv_sI hI o_v0 (by decide) (nu_free (by decide))
      have f0 := fr_I eS16 g0 f0 o_v0 (by decide)
      obtain ⟨y17, hy17⟩ : ∃ z : Int32, z = (3 : Int32) := ⟨_, rfl⟩
      have d_y17 := rd_Is eS16 hy17
      have ea1 := rf_I eS16 ea1
      have g0 := gr_I eS16 g0
      have o_a1 := ob_I eS16 o_a1
      have o_v0 := ob_I eS16 o_v0
      intro _
      exact hq _ _ hI g0 f0
  · refine u_X9_refuse ?_
    refine u_X9_refuse_0 ?_
    refine ⟨o_v0, ?_⟩
    intro S19 eS19
    have hI : IV S19 := by rw [eS19]; exact iv_sI hI o_v0 (by decide) (nu_free (by decide))
    have f0 := fr_I eS19 g0 f0 o_v0 (by decide)
    obtain ⟨y20, hy20⟩ : ∃ z : Int32, z = (1 : Int32) := ⟨_, rfl⟩
    have d_y20 := rd_Is eS19 hy20
    have ea1 := rf_I eS19 ea1
    have g0 := gr_I eS19 g0
    have o_a1 := ob_I eS19 o_a1
    have o_v0 := ob_I eS19 o_v0
    intro _
    exact hq _ _ hI g0 f0
set_option maxHeartbeats 4000000 in
set_option maxRecDepth 20000 in
theorem m_X9_mean {v0 : Nat} {v1 : Int32} {v2 : Int32} {v3 : Int32} {v4 : Int32} {v5 : Int32} {v6 : Int32} {Q : Int64 → HS → Prop} {S : HS} (hI : IV S) (o_v0 : ob S v0 9)     (hq : ∀ (r : Int64) (T : HS), IV T → Gr S T → FRI [(9, 9)] [] S T → Q r T) : P_X9_mean v0 v1 v2 v3 v4 v5 v6 Q S := by
  have g0 := gr_rf S
  have f0 := fri_rf [(9, 9)] [] S
  refine u_X9_mean ?_
  refine u_X9_mean_0 ?_
  refine ⟨o_v0, ?_⟩
  refine m_X9_legTrouble hI o_v0 (fun x1 S2 hI2 g3 p_x1 => ?_)
  obtain ⟨z_S2, p_x1⟩ := p_x1
  subst z_S2
  intro _
  refine u_X9_refusedBy ?_
  refine u_X9_refusedBy_0 ?_
  refine ⟨o_v0, ?_⟩
  intro S5 eS5
  have hI : IV S5 := by rw [eS5]; exact iv_sI hI o_v0 (by decide) (nu_free (by decide))
  have f0 := fr_I eS5 g0 f0 o_v0 (by decide)
  have d_x1 := rd_Is eS5 (rfl : x1 = x1)
  have g0 := gr_I eS5 g0
  have o_v0 := ob_I eS5 o_v0
  refine ⟨fun c6 => ?_, fun c6 => ?_⟩
  · intro _ _
    refine ⟨fun c8 => ?_, fun c8 => ?_⟩
    · obtain ⟨a9, ea9, o_a9, -⟩ := sh 3 rfl hI o_v0
      refine ⟨a9, ea9, ?_⟩
      obtain ⟨a10, ea10, o_a10, -⟩ := sh 1 rfl hI o_v0
      refine ⟨a10, ea10, ?_⟩
      refine ⟨o_a10, ?_⟩
      obtain ⟨a11, ea11, o_a11, l_a11⟩ := shl 18 rfl hI o_a10
      refine ⟨a11, ea11, ?_⟩
      refine ⟨o_a11, ?_⟩
      have i13 : vp_in v1 (hN _ a11) := (vin l_a11 (m := 4) (by decide) (q0 p_x1 c6))
      obtain ⟨a12, ea12, o_a12⟩ := ae hI o_a11 (by decide) (by decide) i13
      replace o_a12 : ob _ a12 6 := o_a12
      refine ⟨i13, a12, ea12, ?_⟩
      refine ⟨a10, ea10, ?_⟩
      refine ⟨o_a10, ?_⟩
      obtain ⟨a15, ea15, o_a15, l_a15⟩ := shl 17 rfl hI o_a10
      refine ⟨a15, ea15, ?_⟩
      refine ⟨o_a15, ?_⟩
      have i17 : vp_in v2 (hN _ a15) := (vin l_a15 (m := 12) (by decide) (q1 p_x1 c6))
      obtain ⟨a16, ea16, o_a16⟩ := ae hI o_a15 (by decide) (by decide) i17
      replace o_a16 : ob _ a16 5 := o_a16
      refine ⟨i17, a16, ea16, ?_⟩
      refine ⟨a10, ea10, ?_⟩
      refine ⟨o_a10, ?_⟩
      obtain ⟨a19, ea19, o_a19, l_a19⟩ := shl 15 rfl hI o_a10
      refine ⟨a19, ea19, ?_⟩
      refine ⟨o_a19, ?_⟩
      have i21 : vp_in v4 (hN _ a19) := (vin l_a19 (m := 6) (by decide) (q2 p_x1 c6))
      obtain ⟨a20, ea20, o_a20⟩ := ae hI o_a19 (by decide) (by decide) i21
      replace o_a20 : ob _ a20 3 := o_a20
      refine ⟨i21, a20, ea20, ?_⟩
      refine ⟨o_a9, ?_⟩
      refine m_X1_wetOf hI o_a9 o_a12 o_a16 o_a20 (fun x22 S23 hJ g24 fc25 => ?_)
      have hI := hJ
      have l_a11 := (gr_len g24 o_a11).trans l_a11
      have l_a15 := (gr_len g24 o_a15).trans l_a15
      have l_a19 := (gr_len g24 o_a19).trans l_a19
      have d_x1 := d_x1.trans (fri_at fc25 (by decide) (by decide) o_v0).symm
      have ea9 := (frr_at fc25 (by decide) (by decide) o_v0).trans ea9
      have ea10 := (frr_at fc25 (by decide) (by decide) o_v0).trans ea10
      have ea11 := (frr_at fc25 (by decide) (by decide) o_a10).trans ea11
      have ea15 := (frr_at fc25 (by decide) (by decide) o_a10).trans ea15
      have ea19 := (frr_at fc25 (by decide) (by decide) o_a10).trans ea19
      have f0 := fri_tr (S := S5) g0 f0 fc25 (by decide) (by decide)
      have o_a10 := gr_ob g24 o_a10
      have o_a11 := gr_ob g24 o_a11
      have o_a12 := gr_ob g24 o_a12
      have o_a15 := gr_ob g24 o_a15
      have o_a16 := gr_ob g24 o_a16
      have o_a19 := gr_ob g24 o_a19
      have o_a20 := gr_ob g24 o_a20
      have o_a9 := gr_ob g24 o_a9
      have o_v0 := gr_ob g24 o_v0
      have g0 := gr_tr (T := S5) g0 g24
      intro _
      refine ⟨a10, ea10, ?_⟩
      refine ⟨o_a10, ?_⟩
      refine ⟨a19, ea19, ?_⟩
      refine ⟨o_a19, ?_⟩
      have i29 : vp_in v4 (hN _ a19) := (vin l_a19 (m := 6) (by decide) (q2 p_x1 c6))
      obtain ⟨a28, ea28, o_a28⟩ := ae hI o_a19 (by decide) (by decide) i29
      replace o_a28 : ob _ a28 3 := o_a28
      refine ⟨i29, a28, ea28, ?_⟩
      refine ⟨o_a28, ?_⟩
      intro x30 ex30
      have d_x30 := ex30
      refine m_X9_fraction hI (fun x31 S32 hI2 g33 p_x31 => ?_)
      subst p_x31
      intro _
      exact hq _ _ hI g0 f0
    · exact hq _ _ hI g0 f0
  · intro _ _
    refine ⟨fun c36 => ?_, fun c36 => ?_⟩
    · obtain ⟨a37, ea37, o_a37, -⟩ := sh 3 rfl hI o_v0
      refine ⟨a37, ea37, ?_⟩
      obtain ⟨a38, ea38, o_a38, -⟩ := sh 1 rfl hI o_v0
      refine ⟨a38, ea38, ?_⟩
      refine ⟨o_a38, ?_⟩
      obtain ⟨a39, ea39, o_a39, l_a39⟩ := shl 18 rfl hI o_a38
      refine ⟨a39, ea39, ?_⟩
      refine ⟨o_a39, ?_⟩
      have i41 : vp_in v1 (hN _ a39) := (vin l_a39 (m := 4) (by decide) (q3 p_x1 c6 c36))
      obtain ⟨a40, ea40, o_a40⟩ := ae hI o_a39 (by decide) (by decide) i41
      replace o_a40 : ob _ a40 6 := o_a40
      refine ⟨i41, a40, ea40, ?_⟩
      refine ⟨a38, ea38, ?_⟩
      refine ⟨o_a38, ?_⟩
      obtain ⟨a43, ea43, o_a43, l_a43⟩ := shl 17 rfl hI o_a38
      refine ⟨a43, ea43, ?_⟩
      refine ⟨o_a43, ?_⟩
      have i45 : vp_in v2 (hN _ a43) := (vin l_a43 (m := 12) (by decide) (q4 p_x1 c6 c36))
      obtain ⟨a44, ea44, o_a44⟩ := ae hI o_a43 (by decide) (by decide) i45
      replace o_a44 : ob _ a44 5 := o_a44
      refine ⟨i45, a44, ea44, ?_⟩
      refine ⟨a38, ea38, ?_⟩
      refine ⟨o_a38, ?_⟩
      obtain ⟨a47, ea47, o_a47, l_a47⟩ := shl 15 rfl hI o_a38
      refine ⟨a47, ea47, ?_⟩
      refine ⟨o_a47, ?_⟩
      have i49 : vp_in v4 (hN _ a47) := (vin l_a47 (m := 6) (by decide) (q5 p_x1 c6 c36))
      obtain ⟨a48, ea48, o_a48⟩ := ae hI o_a47 (by decide) (by decide) i49
      replace o_a48 : ob _ a48 3 := o_a48
      refine ⟨i49, a48, ea48, ?_⟩
      refine ⟨o_a37, ?_⟩
      refine m_X1_wetOf hI o_a37 o_a40 o_a44 o_a48 (fun x50 S51 hJ g52 fc53 => ?_)
      have hI := hJ
      have l_a39 := (gr_len g52 o_a39).trans l_a39
      have l_a43 := (gr_len g52 o_a43).trans l_a43
      have l_a47 := (gr_len g52 o_a47).trans l_a47
      have d_x1 := d_x1.trans (fri_at fc53 (by decide) (by decide) o_v0).symm
      have ea37 := (frr_at fc53 (by decide) (by decide) o_v0).trans ea37
      have ea38 := (frr_at fc53 (by decide) (by decide) o_v0).trans ea38
      have ea39 := (frr_at fc53 (by decide) (by decide) o_a38).trans ea39
      have ea43 := (frr_at fc53 (by decide) (by decide) o_a38).trans ea43
      have ea47 := (frr_at fc53 (by decide) (by decide) o_a38).trans ea47
      have f0 := fri_tr (S := S5) g0 f0 fc53 (by decide) (by decide)
      have o_a37 := gr_ob g52 o_a37
      have o_a38 := gr_ob g52 o_a38
      have o_a39 := gr_ob g52 o_a39
      have o_a40 := gr_ob g52 o_a40
      have o_a43 := gr_ob g52 o_a43
      have o_a44 := gr_ob g52 o_a44
      have o_a47 := gr_ob g52 o_a47
      have o_a48 := gr_ob g52 o_a48
      have o_v0 := gr_ob g52 o_v0
      have g0 := gr_tr (T := S5) g0 g52
      intro _
      refine ⟨a38, ea38, ?_⟩
      refine ⟨o_a38, ?_⟩
      refine ⟨a47, ea47, ?_⟩
      refine ⟨o_a47, ?_⟩
      have i57 : vp_in v4 (hN _ a47) := (vin l_a47 (m := 6) (by decide) (q5 p_x1 c6 c36))
      obtain ⟨a56, ea56, o_a56⟩ := ae hI o_a47 (by decide) (by decide) i57
      replace o_a56 : ob _ a56 3 := o_a56
      refine ⟨i57, a56, ea56, ?_⟩
      refine ⟨o_a56, ?_⟩
      intro x58 ex58
      have d_x58 := ex58
      refine m_X9_fraction hI (fun x59 S60 hI2 g61 p_x59 => ?_)
      subst p_x59
      intro _
      exact hq _ _ hI g0 f0
    · exact hq _ _ hI g0 f0
