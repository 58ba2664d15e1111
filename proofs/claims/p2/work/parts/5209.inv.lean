set_option maxHeartbeats 4000000 in
set_option maxRecDepth 20000 in
theorem m_X9_got {v0 : Nat} {v1 : Int32} {v2 : Int32} {Q : Int64 → HS → Prop} {S : HS} (hI : IV S) (o_v0 : ob S v0 9)     (hq : ∀ (r : Int64) (T : HS), IV T → Gr S T → FRI [(9, 9)] [] S T → Q r T) : P_X9_got v0 v1 v2 Q S := by
  have g0 := gr_rf S
  have f0 := fri_rf [(9, 9)] [] S
  refine u_X9_got ?_
  refine u_X9_got_0 ?_
  refine ⟨o_v0, ?_⟩
  obtain ⟨a1, ea1, o_a1, -⟩ := sh 5 rfl hI o_v0
  refine ⟨a1, ea1, ?_⟩
  refine ⟨o_a1, ?_⟩
  refine m_X0_isOn hI o_a1 (fun x2 S3 hI2 g4 b_x2 p_x2 => ?_)
  subst p_x2
  intro _ _
  have bb_x2 : x2 = 0 ∨ x2 = 1 := b_x2
  refine ⟨fun c6 => ?_, fun c6 => ?_⟩
  · refine u_X9_got_17 ?_
    refine ⟨o_v0, ?_⟩
    refine u_X9_refuse ?_
    refine u_X9_refuse_0 ?_
    refine ⟨o_v0, ?_⟩
    have hI := iv_sI (j := 9) (v := (1 : Int32)) hI o_v0 (by decide) (nu_free (by decide))
    have f0 : FRI _ _ _ (sI S v0 9 (1 : Int32)) := fri_sI g0 f0 o_v0 (by decide)
    obtain ⟨y7, hy7⟩ : ∃ z : Int32, z = (1 : Int32) := ⟨_, rfl⟩
    have d_y7 : y7 = fI (sI S v0 9 (1 : Int32)) v0 9 := hy7.trans (u2_self _ _ _ _).symm
    intro _
    exact hq _ _ hI g0 f0
  · refine m_X9_isFace hI (fun x8 S9 hI2 g10 b_x8 p_x8 => ?_)
    obtain ⟨z_S9, p_x8⟩ := p_x8
    subst z_S9
    intro _ _
    have bb_x8 : x8 = 0 ∨ x8 = 1 := b_x8
    refine ⟨fun c12 => ?_, fun c12 => ?_⟩
    · have hI := iv_sI (j := 9) (v := (0 : Int32)) hI o_v0 (by decide) (nu_free (by decide))
      have f0 : FRI _ _ _ (sI S v0 9 (0 : Int32)) := fri_sI g0 f0 o_v0 (by decide)
      obtain ⟨y13, hy13⟩ : ∃ z : Int32, z = (0 : Int32) := ⟨_, rfl⟩
      have d_y13 : y13 = fI (sI S v0 9 (0 : Int32)) v0 9 := hy13.trans (u2_self _ _ _ _).symm
      refine ⟨a1, ea1, ?_⟩
      refine ⟨o_a1, ?_⟩
      obtain ⟨a15, ea15, o_a15, -⟩ := sh 6 rfl hI o_a1
      refine ⟨a15, ea15, ?_⟩
      refine ⟨o_a15, ?_⟩
      obtain ⟨a16, ea16, o_a16, l_a16⟩ := shl 11 rfl hI o_a15
      refine ⟨a16, ea16, ?_⟩
      refine ⟨o_a16, ?_⟩
      refine ⟨(vin l_a16 (m := 5) (by decide) (q1368 bb_x2 c6 p_x8 bb_x8 c12)), ?_⟩
      intro x17 ex17
      refine m_X9_fraction hI (fun x18 S19 hI2 g20 p_x18 => ?_)
      subst p_x18
      intro _
      exact hq _ _ hI g0 f0
    · refine u_X9_got_17 ?_
      refine ⟨o_v0, ?_⟩
      refine u_X9_refuse ?_
      refine u_X9_refuse_0 ?_
      refine ⟨o_v0, ?_⟩
      have hI := iv_sI (j := 9) (v := (1 : Int32)) hI o_v0 (by decide) (nu_free (by decide))
      have f0 : FRI _ _ _ (sI S v0 9 (1 : Int32)) := fri_sI g0 f0 o_v0 (by decide)
      obtain ⟨y22, hy22⟩ : ∃ z : Int32, z = (1 : Int32) := ⟨_, rfl⟩
      have d_y22 : y22 = fI (sI S v0 9 (1 : Int32)) v0 9 := hy22.trans (u2_self _ _ _ _).symm
      intro _
      exact hq _ _ hI g0 f0
set_option maxHeartbeats 4000000 in
set_option maxRecDepth 20000 in
theorem m_X9_held {v0 : Nat} {v1 : Int32} {v2 : Int32} {v3 : Int32} {v4 : Int32} {v5 : Int32} {Q : Int32 → HS → Prop} {S : HS} (hI : IV S) (o_v0 : ob S v0 9)     (hq : ∀ (r : Int32) (T : HS), IV T → Gr S T → FRI [(9, 9)] [] S T → Q r T) : P_X9_held v0 v1 v2 v3 v4 v5 Q S := by
  have g0 := gr_rf S
  have f0 := fri_rf [(9, 9)] [] S
  refine u_X9_held ?_
  refine u_X9_held_0 ?_
  refine ⟨o_v0, ?_⟩
  refine m_X9_legTrouble hI o_v0 (fun x1 S2 hI2 g3 p_x1 => ?_)
  obtain ⟨z_S2, p_x1⟩ := p_x1
  subst z_S2
  intro _
  refine u_X9_refusedBy ?_
  refine u_X9_refusedBy_0 ?_
  refine ⟨o_v0, ?_⟩
  have hI := iv_sI (j := 9) (v := x1) hI o_v0 (by decide) (nu_free (by decide))
  have f0 : FRI _ _ _ (sI S v0 9 x1) := fri_sI g0 f0 o_v0 (by decide)
  have d_x1 : x1 = fI (sI S v0 9 x1) v0 9 := (u2_self _ _ _ _).symm
  refine ⟨fun c5 => ?_, fun c5 => ?_⟩
  · intro _ _
    refine ⟨fun c6 => ?_, fun c6 => ?_⟩
    · obtain ⟨a7, ea7, o_a7, -⟩ := sh 1 rfl hI o_v0
      refine ⟨a7, ea7, ?_⟩
      refine ⟨o_a7, ?_⟩
      obtain ⟨a8, ea8, o_a8, l_a8⟩ := shl 18 rfl hI o_a7
      refine ⟨a8, ea8, ?_⟩
      refine ⟨o_a8, ?_⟩
      have i10 : vp_in v1 (hN _ a8) := (vin l_a8 (m := 4) (by decide) (q0 p_x1 c5))
      obtain ⟨a9, ea9, o_a9⟩ := ae hI o_a8 (by decide) (by decide) i10
      replace o_a9 : ob _ a9 6 := o_a9
      refine ⟨i10, a9, ea9, ?_⟩
      refine ⟨o_a9, ?_⟩
      intro x11 ex11
      have d_x11 := ex11
      refine ⟨fun c12 => ?_, fun c12 => ?_⟩
      · obtain ⟨a13, ea13, o_a13, -⟩ := sh 3 rfl hI o_v0
        refine ⟨a13, ea13, ?_⟩
        refine ⟨a7, ea7, ?_⟩
        refine ⟨o_a7, ?_⟩
        obtain ⟨a15, ea15, o_a15, l_a15⟩ := shl 17 rfl hI o_a7
        refine ⟨a15, ea15, ?_⟩
        refine ⟨o_a15, ?_⟩
        have i17 : vp_in v2 (hN _ a15) := (vin l_a15 (m := 12) (by decide) (q1362 p_x1 c5 c12))
        obtain ⟨a16, ea16, o_a16⟩ := ae hI o_a15 (by decide) (by decide) i17
        replace o_a16 : ob _ a16 5 := o_a16
        refine ⟨i17, a16, ea16, ?_⟩
        refine ⟨a7, ea7, ?_⟩
        refine ⟨o_a7, ?_⟩
        obtain ⟨a19, ea19, o_a19, l_a19⟩ := shl 15 rfl hI o_a7
        refine ⟨a19, ea19, ?_⟩
        refine ⟨o_a19, ?_⟩
        have i21 : vp_in v4 (hN _ a19) := (vin l_a19 (m := 6) (by decide) (q1363 p_x1 c5 c12))
        obtain ⟨a20, ea20, o_a20⟩ := ae hI o_a19 (by decide) (by decide) i21
        replace o_a20 : ob _ a20 3 := o_a20
        refine ⟨i21, a20, ea20, ?_⟩
        refine ⟨o_a13, ?_⟩
        refine m_X1_lay hI o_a13 o_a16 o_a20 (fun S23 hI g24 fc25 => ?_)
        have l_a15 := (gr_len g24 o_a15).trans l_a15
        have l_a19 := (gr_len g24 o_a19).trans l_a19
        have l_a8 := (gr_len g24 o_a8).trans l_a8
        have d_x1 := d_x1.trans (fri_at fc25 (by decide) (by decide) o_v0).symm
        have d_x11 := d_x11.trans (fri_at fc25 (by decide) (by decide) o_a9).symm
        have ea7 := (frr_at fc25 (by decide) (by decide) o_v0).trans ea7
        have ea8 := (frr_at fc25 (by decide) (by decide) o_a7).trans ea8
        have ea13 := (frr_at fc25 (by decide) (by decide) o_v0).trans ea13
        have ea15 := (frr_at fc25 (by decide) (by decide) o_a7).trans ea15
        have ea19 := (frr_at fc25 (by decide) (by decide) o_a7).trans ea19
        have f0 := fri_tr g0 f0 fc25 (by decide) (by decide)
        have o_a13 := gr_ob g24 o_a13
        have o_a15 := gr_ob g24 o_a15
        have o_a16 := gr_ob g24 o_a16
        have o_a19 := gr_ob g24 o_a19
        have o_a20 := gr_ob g24 o_a20
        have o_a7 := gr_ob g24 o_a7
        have o_a8 := gr_ob g24 o_a8
        have o_a9 := gr_ob g24 o_a9
        have o_v0 := gr_ob g24 o_v0
        have g0 := gr_tr g0 g24
        intro _
        refine ⟨a13, ea13, ?_⟩
        refine ⟨a7, ea7, ?_⟩
        refine ⟨o_a7, ?_⟩
        refine ⟨a8, ea8, ?_⟩
        refine ⟨o_a8, ?_⟩
        have i30 : vp_in v1 (hN _ a8) := (vin l_a8 (m := 4) (by decide) (q1364 p_x1 c5 c12))
        obtain ⟨a29, ea29, o_a29⟩ := ae hI o_a8 (by decide) (by decide) i30
        replace o_a29 : ob _ a29 6 := o_a29
        refine ⟨i30, a29, ea29, ?_⟩
        refine ⟨o_a13, ?_⟩
        refine m_X1_isForward hI o_a13 o_a29 (fun x31 S32 hI2 g33 b_x31 p_x31 => ?_)
        subst p_x31
        intro _ _
        have bb_x31 : x31 = 0 ∨ x31 = 1 := b_x31
        refine ⟨fun c35 => ?_, fun c35 => ?_⟩
        · exact hq _ _ hI g0 f0
        · exact hq _ _ hI g0 f0
      · exact hq _ _ hI g0 f0
    · exact hq _ _ hI g0 f0
  · intro _ _
    refine ⟨fun c36 => ?_, fun c36 => ?_⟩
    · obtain ⟨a37, ea37, o_a37, -⟩ := sh 1 rfl hI o_v0
      refine ⟨a37, ea37, ?_⟩
      refine ⟨o_a37, ?_⟩
      obtain ⟨a38, ea38, o_a38, l_a38⟩ := shl 18 rfl hI o_a37
      refine ⟨a38, ea38, ?_⟩
      refine ⟨o_a38, ?_⟩
      have i40 : vp_in v1 (hN _ a38) := (vin l_a38 (m := 4) (by decide) (q3 p_x1 c5 c36))
      obtain ⟨a39, ea39, o_a39⟩ := ae hI o_a38 (by decide) (by decide) i40
      replace o_a39 : ob _ a39 6 := o_a39
      refine ⟨i40, a39, ea39, ?_⟩
      refine ⟨o_a39, ?_⟩
      intro x41 ex41
      have d_x41 := ex41
      refine ⟨fun c42 => ?_, fun c42 => ?_⟩
      · obtain ⟨a43, ea43, o_a43, -⟩ := sh 3 rfl hI o_v0
        refine ⟨a43, ea43, ?_⟩
        refine ⟨a37, ea37, ?_⟩
        refine ⟨o_a37, ?_⟩
        obtain ⟨a45, ea45, o_a45, l_a45⟩ := shl 17 rfl hI o_a37
        refine ⟨a45, ea45, ?_⟩
        refine ⟨o_a45, ?_⟩
        have i47 : vp_in v2 (hN _ a45) := (vin l_a45 (m := 12) (by decide) (q1365 p_x1 c5 c36 c42))
        obtain ⟨a46, ea46, o_a46⟩ := ae hI o_a45 (by decide) (by decide) i47
        replace o_a46 : ob _ a46 5 := o_a46
        refine ⟨i47, a46, ea46, ?_⟩
        refine ⟨a37, ea37, ?_⟩
        refine ⟨o_a37, ?_⟩
        obtain ⟨a49, ea49, o_a49, l_a49⟩ := shl 15 rfl hI o_a37
        refine ⟨a49, ea49, ?_⟩
        refine ⟨o_a49, ?_⟩
        have i51 : vp_in v4 (hN _ a49) := (vin l_a49 (m := 6) (by decide) (q1366 p_x1 c5 c36 c42))
        obtain ⟨a50, ea50, o_a50⟩ := ae hI o_a49 (by decide) (by decide) i51
        replace o_a50 : ob _ a50 3 := o_a50
        refine ⟨i51, a50, ea50, ?_⟩
        refine ⟨o_a43, ?_⟩
        refine m_X1_lay hI o_a43 o_a46 o_a50 (fun S53 hI g54 fc55 => ?_)
        have l_a38 := (gr_len g54 o_a38).trans l_a38
        have l_a45 := (gr_len g54 o_a45).trans l_a45
        have l_a49 := (gr_len g54 o_a49).trans l_a49
        have d_x1 := d_x1.trans (fri_at fc55 (by decide) (by decide) o_v0).symm
        have d_x41 := d_x41.trans (fri_at fc55 (by decide) (by decide) o_a39).symm
        have ea37 := (frr_at fc55 (by decide) (by decide) o_v0).trans ea37
        have ea38 := (frr_at fc55 (by decide) (by decide) o_a37).trans ea38
        have ea43 := (frr_at fc55 (by decide) (by decide) o_v0).trans ea43
        have ea45 := (frr_at fc55 (by decide) (by decide) o_a37).trans ea45
        have ea49 := (frr_at fc55 (by decide) (by decide) o_a37).trans ea49
        have f0 := fri_tr g0 f0 fc55 (by decide) (by decide)
        have o_a37 := gr_ob g54 o_a37
        have o_a38 := gr_ob g54 o_a38
        have o_a39 := gr_ob g54 o_a39
        have o_a43 := gr_ob g54 o_a43
        have o_a45 := gr_ob g54 o_a45
        have o_a46 := gr_ob g54 o_a46
        have o_a49 := gr_ob g54 o_a49
        have o_a50 := gr_ob g54 o_a50
        have o_v0 := gr_ob g54 o_v0
        have g0 := gr_tr g0 g54
        intro _
        refine ⟨a43, ea43, ?_⟩
        refine ⟨a37, ea37, ?_⟩
        refine ⟨o_a37, ?_⟩
        refine ⟨a38, ea38, ?_⟩
        refine ⟨o_a38, ?_⟩
        have i60 : vp_in v1 (hN _ a38) := (vin l_a38 (m := 4) (by decide) (q1367 p_x1 c5 c36 c42))
        obtain ⟨a59, ea59, o_a59⟩ := ae hI o_a38 (by decide) (by decide) i60
        replace o_a59 : ob _ a59 6 := o_a59
        refine ⟨i60, a59, ea59, ?_⟩
        refine ⟨o_a43, ?_⟩
        refine m_X1_isForward hI o_a43 o_a59 (fun x61 S62 hI2 g63 b_x61 p_x61 => ?_)
        subst p_x61
        intro _ _
        have bb_x61 : x61 = 0 ∨ x61 = 1 := b_x61
        refine ⟨fun c65 => ?_, fun c65 => ?_⟩
        · exact hq _ _ hI g0 f0
        · exact hq _ _ hI g0 f0
      · exact hq _ _ hI g0 f0
    · exact hq _ _ hI g0 f0
set_option maxHeartbeats 4000000 in
set_option maxRecDepth 20000 in
theorem m_X9_isTill {v0 : Int32} {Q : Int32 → HS → Prop} {S : HS} (hI : IV S)      (hq : ∀ (r : Int32) (T : HS), IV T → Gr S T → bl r → (S = T) ∧ (r = 1 → 0 ≤ v0 ∧ v0 ≤ 400) → Q r T) : P_X9_isTill v0 Q S := by
  have g0 := gr_rf S
  refine u_X9_isTill ?_
  refine u_X9_isTill_0 ?_
  refine ⟨fun c1 => ?_, fun c1 => ?_⟩
  · exact hq _ _ hI g0 (Or.inl rfl) ⟨rfl, (q746 c1)⟩
  · refine ⟨fun c2 => ?_, fun c2 => ?_⟩
    · exact hq _ _ hI g0 (Or.inl rfl) ⟨rfl, (q747 c1 c2)⟩
    · exact hq _ _ hI g0 (Or.inr rfl) ⟨rfl, (q748 c1 c2)⟩
set_option maxHeartbeats 4000000 in
set_option maxRecDepth 20000 in
theorem m_X9_placesTrouble {v0 : Nat} {v1 : Int32} {v2 : Int32} {v3 : Int32} {Q : Int32 → HS → Prop} {S : HS} (hI : IV S) (o_v0 : ob S v0 9)     (hq : ∀ (r : Int32) (T : HS), IV T → Gr S T → (S = T) ∧ (r = 0 → 0 ≤ v1 ∧ v1 < 4 ∧ 0 ≤ v2 ∧ v2 < 8 ∧ 0 ≤ v3 ∧ v3 < 8) → Q r T) : P_X9_placesTrouble v0 v1 v2 v3 Q S := by
  have g0 := gr_rf S
  refine u_X9_placesTrouble ?_
  refine u_X9_placesTrouble_0 ?_
  refine ⟨o_v0, ?_⟩
  obtain ⟨a1, ea1, o_a1, -⟩ := sh 1 rfl hI o_v0
  refine ⟨a1, ea1, ?_⟩
  refine ⟨o_a1, ?_⟩
  refine m_X8_hasWalker hI o_a1 (fun x2 S3 hI2 g4 b_x2 p_x2 => ?_)
  obtain ⟨z_S3, p_x2⟩ := p_x2
  subst z_S3
  intro _ _
  have bb_x2 : x2 = 0 ∨ x2 = 1 := b_x2
  refine ⟨fun c6 => ?_, fun c6 => ?_⟩
  · refine u_X9_placesTrouble_37 ?_
    refine u_X9_placesTrouble_38 ?_
    refine ⟨fun c7 => ?_, fun c7 => ?_⟩
    · exact hq _ _ hI g0 ⟨rfl, (q738 p_x2 bb_x2 c6)⟩
    · exact hq _ _ hI g0 ⟨rfl, (q739 p_x2 bb_x2 c6 c7)⟩
  · refine ⟨a1, ea1, ?_⟩
    refine ⟨o_a1, ?_⟩
    refine m_X8_hasPlace hI o_a1 (fun x9 S10 hI2 g11 b_x9 p_x9 => ?_)
    obtain ⟨z_S10, p_x9⟩ := p_x9
    subst z_S10
    intro _ _
    have bb_x9 : x9 = 0 ∨ x9 = 1 := b_x9
    refine ⟨fun c13 => ?_, fun c13 => ?_⟩
    · refine u_X9_placesTrouble_37 ?_
      refine u_X9_placesTrouble_38 ?_
      refine ⟨fun c14 => ?_, fun c14 => ?_⟩
      · exact hq _ _ hI g0 ⟨rfl, (q740 p_x2 bb_x2 c6 p_x9 bb_x9 c13)⟩
      · exact hq _ _ hI g0 ⟨rfl, (q741 p_x2 bb_x2 c6 p_x9 bb_x9 c13 c14)⟩
    · refine ⟨a1, ea1, ?_⟩
      refine ⟨o_a1, ?_⟩
      refine m_X8_hasPlace hI o_a1 (fun x16 S17 hI2 g18 b_x16 p_x16 => ?_)
      obtain ⟨z_S17, p_x16⟩ := p_x16
      subst z_S17
      intro _ _
      have bb_x16 : x16 = 0 ∨ x16 = 1 := b_x16
      refine ⟨fun c20 => ?_, fun c20 => ?_⟩
      · refine u_X9_placesTrouble_37 ?_
        refine u_X9_placesTrouble_38 ?_
        refine ⟨fun c21 => ?_, fun c21 => ?_⟩
        · exact hq _ _ hI g0 ⟨rfl, (q742 p_x2 bb_x2 c6 p_x9 bb_x9 c13 p_x16 bb_x16 c20)⟩
        · exact hq _ _ hI g0 ⟨rfl, (q743 p_x2 bb_x2 c6 p_x9 bb_x9 c13 p_x16 bb_x16 c20 c21)⟩
      · refine u_X9_placesTrouble_38 ?_
        refine ⟨fun c22 => ?_, fun c22 => ?_⟩
        · exact hq _ _ hI g0 ⟨rfl, (q744 p_x2 bb_x2 c6 p_x9 bb_x9 c13 p_x16 bb_x16 c20 c22)⟩
        · exact hq _ _ hI g0 ⟨rfl, (q745 p_x2 bb_x2 c6 p_x9 bb_x9 c13 p_x16 bb_x16 c20)⟩
set_option maxHeartbeats 4000000 in
set_option maxRecDepth 20000 in
theorem m_X9_wayTrouble {v0 : Nat} {v1 : Int32} {v2 : Int32} {v3 : Int32} {v4 : Int32} {v5 : Int32} {Q : Int32 → HS → Prop} {S : HS} (hI : IV S) (o_v0 : ob S v0 9)     (hq : ∀ (r : Int32) (T : HS), IV T → Gr S T → FRI [(7, 3), (7, 9), (7, 10), (7, 11), (7, 12), (7, 13)] [(7, 0), (7, 1), (7, 2), (7, 4), (7, 5), (7, 6), (7, 7), (7, 8)] S T → Q r T) : P_X9_wayTrouble v0 v1 v2 v3 v4 v5 Q S := by
  have g0 := gr_rf S
  have f0 := fri_rf [(7, 3), (7, 9), (7, 10), (7, 11), (7, 12), (7, 13)] [(7, 0), (7, 1), (7, 2), (7, 4), (7, 5), (7, 6), (7, 7), (7, 8)] S
  refine u_X9_wayTrouble ?_
  refine u_X9_wayTrouble_0 ?_
  refine ⟨o_v0, ?_⟩
  refine m_X9_placesTrouble hI o_v0 (fun x1 S2 hI2 g3 p_x1 => ?_)
  obtain ⟨z_S2, p_x1⟩ := p_x1
  subst z_S2
  intro _
  refine ⟨fun c5 => ?_, fun c5 => ?_⟩
  · refine m_X9_isTill hI (fun x6 S7 hI2 g8 b_x6 p_x6 => ?_)
    obtain ⟨z_S7, p_x6⟩ := p_x6
    subst z_S7
    intro _ _
    have bb_x6 : x6 = 0 ∨ x6 = 1 := b_x6
    refine ⟨fun c10 => ?_, fun c10 => ?_⟩
    · exact hq _ _ hI g0 f0
    · refine ⟨fun c11 => ?_, fun c11 => ?_⟩
      · exact hq _ _ hI g0 f0
      · refine ⟨fun c12 => ?_, fun c12 => ?_⟩
        · obtain ⟨a13, ea13, o_a13, -⟩ := sh 4 rfl hI o_v0
          refine ⟨a13, ea13, ?_⟩
          obtain ⟨a14, ea14, o_a14, -⟩ := sh 1 rfl hI o_v0
          refine ⟨a14, ea14, ?_⟩
          obtain ⟨a15, ea15, o_a15, -⟩ := sh 3 rfl hI o_v0
          refine ⟨a15, ea15, ?_⟩
          refine ⟨o_a13, ?_⟩
          refine m_X7_reckon hI o_a13 o_a14 o_a15 (q737 p_x1 c5 p_x6 bb_x6 c10 c11 c12) (fun S17 hI g18 fc19 => ?_)
          have ea13 := (frr_at fc19 (by decide) (by decide) o_v0).trans ea13
          have ea14 := (frr_at fc19 (by decide) (by decide) o_v0).trans ea14
          have ea15 := (frr_at fc19 (by decide) (by decide) o_v0).trans ea15
          have f0 := fri_tr g0 f0 fc19 (by decide) (by decide)
          have o_a13 := gr_ob g18 o_a13
          have o_a14 := gr_ob g18 o_a14
          have o_a15 := gr_ob g18 o_a15
          have o_v0 := gr_ob g18 o_v0
          have g0 := gr_tr g0 g18
          intro _
          refine ⟨a13, ea13, ?_⟩
          refine ⟨o_a13, ?_⟩
          refine m_X7_isOpen hI o_a13 (fun x21 S22 hI2 g23 b_x21 p_x21 => ?_)
          subst p_x21
          intro _ _
          have bb_x21 : x21 = 0 ∨ x21 = 1 := b_x21
          refine ⟨fun c25 => ?_, fun c25 => ?_⟩
          · exact hq _ _ hI g0 f0
          · exact hq _ _ hI g0 f0
        · exact hq _ _ hI g0 f0
  · exact hq _ _ hI g0 f0
set_option maxHeartbeats 4000000 in
set_option maxRecDepth 20000 in
theorem m_X9_least {v0 : Nat} {v1 : Int32} {v2 : Int32} {v3 : Int32} {v4 : Int32} {v5 : Int32} {v6 : Int32} {Q : Int64 → HS → Prop} {S : HS} (hI : IV S) (o_v0 : ob S v0 9)     (hq : ∀ (r : Int64) (T : HS), IV T → Gr S T → FRI [(7, 3), (7, 9), (7, 10), (7, 11), (7, 12), (7, 13), (9, 9)] [(7, 0), (7, 1), (7, 2), (7, 4), (7, 5), (7, 6), (7, 7), (7, 8)] S T → Q r T) : P_X9_least v0 v1 v2 v3 v4 v5 v6 Q S := by
  have g0 := gr_rf S
  have f0 := fri_rf [(7, 3), (7, 9), (7, 10), (7, 11), (7, 12), (7, 13), (9, 9)] [(7, 0), (7, 1), (7, 2), (7, 4), (7, 5), (7, 6), (7, 7), (7, 8)] S
  refine u_X9_least ?_
  refine u_X9_least_0 ?_
  refine ⟨o_v0, ?_⟩
  refine m_X9_wayTrouble hI o_v0 (fun x1 S2 hI g3 fc4 => ?_)
  have f0 := fri_tr g0 f0 fc4 (by decide) (by decide)
  have o_v0 := gr_ob g3 o_v0
  have g0 := gr_tr g0 g3
  intro _
  refine u_X9_refusedBy ?_
  refine u_X9_refusedBy_0 ?_
  refine ⟨o_v0, ?_⟩
  have hI := iv_sI (j := 9) (v := x1) hI o_v0 (by decide) (nu_free (by decide))
  have f0 : FRI _ _ _ (sI S2 v0 9 x1) := fri_sI g0 f0 o_v0 (by decide)
  have d_x1 : x1 = fI (sI S2 v0 9 x1) v0 9 := (u2_self _ _ _ _).symm
  refine ⟨fun c5 => ?_, fun c5 => ?_⟩
  · intro _ _
    refine ⟨fun c6 => ?_, fun c6 => ?_⟩
    · obtain ⟨a7, ea7, o_a7, -⟩ := sh 4 rfl hI o_v0
      refine ⟨a7, ea7, ?_⟩
      refine ⟨o_a7, ?_⟩
      refine m_X7_meanFrom hI o_a7 (fun x8 S9 hI2 g10 p_x8 => ?_)
      subst p_x8
      intro _
      refine m_X9_fraction hI (fun x12 S13 hI2 g14 p_x12 => ?_)
      subst p_x12
      intro _
      exact hq _ _ hI g0 f0
    · exact hq _ _ hI g0 f0
  · intro _ _
    refine ⟨fun c16 => ?_, fun c16 => ?_⟩
    · obtain ⟨a17, ea17, o_a17, -⟩ := sh 4 rfl hI o_v0
      refine ⟨a17, ea17, ?_⟩
      refine ⟨o_a17, ?_⟩
      refine m_X7_meanFrom hI o_a17 (fun x18 S19 hI2 g20 p_x18 => ?_)
      subst p_x18
      intro _
      refine m_X9_fraction hI (fun x22 S23 hI2 g24 p_x22 => ?_)
      subst p_x22
      intro _
      exact hq _ _ hI g0 f0
    · exact hq _ _ hI g0 f0
set_option maxHeartbeats 4000000 in
set_option maxRecDepth 20000 in
theorem m_X9_lee {v0 : Nat} {v1 : Int32} {v2 : Int32} {v3 : Int32} {v4 : Int32} {v5 : Int32} {v6 : Int32} {v7 : Int32} {Q : Int64 → HS → Prop} {S : HS} (hI : IV S) (o_v0 : ob S v0 9)     (hq : ∀ (r : Int64) (T : HS), IV T → Gr S T → FRI [(9, 9)] [] S T → Q r T) : P_X9_lee v0 v1 v2 v3 v4 v5 v6 v7 Q S := by
  have g0 := gr_rf S
  have f0 := fri_rf [(9, 9)] [] S
  refine u_X9_lee ?_
  refine u_X9_lee_0 ?_
  refine ⟨o_v0, ?_⟩
  refine m_X9_leeTrouble hI o_v0 (fun x1 S2 hI2 g3 p_x1 => ?_)
  obtain ⟨z_S2, p_x1⟩ := p_x1
  subst z_S2
  intro _
  refine u_X9_refusedBy ?_
  refine u_X9_refusedBy_0 ?_
  refine ⟨o_v0, ?_⟩
  have hI := iv_sI (j := 9) (v := x1) hI o_v0 (by decide) (nu_free (by decide))
  have f0 : FRI _ _ _ (sI S v0 9 x1) := fri_sI g0 f0 o_v0 (by decide)
  have d_x1 : x1 = fI (sI S v0 9 x1) v0 9 := (u2_self _ _ _ _).symm
  refine ⟨fun c5 => ?_, fun c5 => ?_⟩
  · intro _ _
    refine ⟨fun c6 => ?_, fun c6 => ?_⟩
    · obtain ⟨a7, ea7, o_a7, -⟩ := sh 3 rfl hI o_v0
      refine ⟨a7, ea7, ?_⟩
      obtain ⟨a8, ea8, o_a8, -⟩ := sh 1 rfl hI o_v0
      refine ⟨a8, ea8, ?_⟩
      refine ⟨o_a8, ?_⟩
      obtain ⟨a9, ea9, o_a9, l_a9⟩ := shl 17 rfl hI o_a8
      refine ⟨a9, ea9, ?_⟩
      refine ⟨o_a9, ?_⟩
      have i11 : vp_in v3 (hN _ a9) := (vin l_a9 (m := 12) (by decide) (q1351 p_x1 c5))
      obtain ⟨a10, ea10, o_a10⟩ := ae hI o_a9 (by decide) (by decide) i11
      replace o_a10 : ob _ a10 5 := o_a10
      refine ⟨i11, a10, ea10, ?_⟩
      refine ⟨a8, ea8, ?_⟩
      refine ⟨o_a8, ?_⟩
      obtain ⟨a13, ea13, o_a13, l_a13⟩ := shl 15 rfl hI o_a8
      refine ⟨a13, ea13, ?_⟩
      refine ⟨o_a13, ?_⟩
      have i15 : vp_in v5 (hN _ a13) := (vin l_a13 (m := 6) (by decide) (q1352 p_x1 c5))
      obtain ⟨a14, ea14, o_a14⟩ := ae hI o_a13 (by decide) (by decide) i15
      replace o_a14 : ob _ a14 3 := o_a14
      refine ⟨i15, a14, ea14, ?_⟩
      refine ⟨o_a7, ?_⟩
      refine m_X1_lay hI o_a7 o_a10 o_a14 (fun S17 hI g18 fc19 => ?_)
      have l_a13 := (gr_len g18 o_a13).trans l_a13
      have l_a9 := (gr_len g18 o_a9).trans l_a9
      have d_x1 := d_x1.trans (fri_at fc19 (by decide) (by decide) o_v0).symm
      have ea7 := (frr_at fc19 (by decide) (by decide) o_v0).trans ea7
      have ea8 := (frr_at fc19 (by decide) (by decide) o_v0).trans ea8
      have ea9 := (frr_at fc19 (by decide) (by decide) o_a8).trans ea9
      have ea13 := (frr_at fc19 (by decide) (by decide) o_a8).trans ea13
      have f0 := fri_tr g0 f0 fc19 (by decide) (by decide)
      have o_a10 := gr_ob g18 o_a10
      have o_a13 := gr_ob g18 o_a13
      have o_a14 := gr_ob g18 o_a14
      have o_a7 := gr_ob g18 o_a7
      have o_a8 := gr_ob g18 o_a8
      have o_a9 := gr_ob g18 o_a9
      have o_v0 := gr_ob g18 o_v0
      have g0 := gr_tr g0 g18
      intro _
      refine ⟨a7, ea7, ?_⟩
      refine ⟨a8, ea8, ?_⟩
      refine ⟨o_a8, ?_⟩
      obtain ⟨a22, ea22, o_a22, l_a22⟩ := shl 18 rfl hI o_a8
      refine ⟨a22, ea22, ?_⟩
      refine ⟨o_a22, ?_⟩
      have i24 : vp_in v1 (hN _ a22) := (vin l_a22 (m := 4) (by decide) (q1353 p_x1 c5))
      obtain ⟨a23, ea23, o_a23⟩ := ae hI o_a22 (by decide) (by decide) i24
      replace o_a23 : ob _ a23 6 := o_a23
      refine ⟨i24, a23, ea23, ?_⟩
      refine ⟨a8, ea8, ?_⟩
      refine ⟨o_a8, ?_⟩
      refine ⟨a22, ea22, ?_⟩
      refine ⟨o_a22, ?_⟩
      have i28 : vp_in v2 (hN _ a22) := (vin l_a22 (m := 4) (by decide) (q1354 p_x1 c5))
      obtain ⟨a27, ea27, o_a27⟩ := ae hI o_a22 (by decide) (by decide) i28
      replace o_a27 : ob _ a27 6 := o_a27
      refine ⟨i28, a27, ea27, ?_⟩
      refine ⟨o_a7, ?_⟩
      refine m_X1_wetInLee hI o_a7 o_a23 o_a27 (fun x29 S30 hI g31 fc32 => ?_)
      have l_a13 := (gr_len g31 o_a13).trans l_a13
      have l_a22 := (gr_len g31 o_a22).trans l_a22
      have l_a9 := (gr_len g31 o_a9).trans l_a9
      have d_x1 := d_x1.trans (fri_at fc32 (by decide) (by decide) o_v0).symm
      have ea7 := (frr_at fc32 (by decide) (by decide) o_v0).trans ea7
      have ea8 := (frr_at fc32 (by decide) (by decide) o_v0).trans ea8
      have ea9 := (frr_at fc32 (by decide) (by decide) o_a8).trans ea9
      have ea13 := (frr_at fc32 (by decide) (by decide) o_a8).trans ea13
      have ea22 := (frr_at fc32 (by decide) (by decide) o_a8).trans ea22
      have f0 := fri_tr g0 f0 fc32 (by decide) (by decide)
      have o_a10 := gr_ob g31 o_a10
      have o_a13 := gr_ob g31 o_a13
      have o_a14 := gr_ob g31 o_a14
      have o_a22 := gr_ob g31 o_a22
      have o_a23 := gr_ob g31 o_a23
      have o_a27 := gr_ob g31 o_a27
      have o_a7 := gr_ob g31 o_a7
      have o_a8 := gr_ob g31 o_a8
      have o_a9 := gr_ob g31 o_a9
      have o_v0 := gr_ob g31 o_v0
      have g0 := gr_tr g0 g31
      intro _
      refine m_X9_fraction hI (fun x33 S34 hI2 g35 p_x33 => ?_)
      subst p_x33
      intro _
      exact hq _ _ hI g0 f0
    · exact hq _ _ hI g0 f0
  · intro _ _
    refine ⟨fun c37 => ?_, fun c37 => ?_⟩
    · obtain ⟨a38, ea38, o_a38, -⟩ := sh 3 rfl hI o_v0
      refine ⟨a38, ea38, ?_⟩
      obtain ⟨a39, ea39, o_a39, -⟩ := sh 1 rfl hI o_v0
      refine ⟨a39, ea39, ?_⟩
      refine ⟨o_a39, ?_⟩
      obtain ⟨a40, ea40, o_a40, l_a40⟩ := shl 17 rfl hI o_a39
      refine ⟨a40, ea40, ?_⟩
      refine ⟨o_a40, ?_⟩
      have i42 : vp_in v3 (hN _ a40) := (vin l_a40 (m := 12) (by decide) (q1355 p_x1 c5 c37))
      obtain ⟨a41, ea41, o_a41⟩ := ae hI o_a40 (by decide) (by decide) i42
      replace o_a41 : ob _ a41 5 := o_a41
      refine ⟨i42, a41, ea41, ?_⟩
      refine ⟨a39, ea39, ?_⟩
      refine ⟨o_a39, ?_⟩
      obtain ⟨a44, ea44, o_a44, l_a44⟩ := shl 15 rfl hI o_a39
      refine ⟨a44, ea44, ?_⟩
      refine ⟨o_a44, ?_⟩
      have i46 : vp_in v5 (hN _ a44) := (vin l_a44 (m := 6) (by decide) (q1356 p_x1 c5 c37))
      obtain ⟨a45, ea45, o_a45⟩ := ae hI o_a44 (by decide) (by decide) i46
      replace o_a45 : ob _ a45 3 := o_a45
      refine ⟨i46, a45, ea45, ?_⟩
      refine ⟨o_a38, ?_⟩
      refine m_X1_lay hI o_a38 o_a41 o_a45 (fun S48 hI g49 fc50 => ?_)
      have l_a40 := (gr_len g49 o_a40).trans l_a40
      have l_a44 := (gr_len g49 o_a44).trans l_a44
      have d_x1 := d_x1.trans (fri_at fc50 (by decide) (by decide) o_v0).symm
      have ea38 := (frr_at fc50 (by decide) (by decide) o_v0).trans ea38
      have ea39 := (frr_at fc50 (by decide) (by decide) o_v0).trans ea39
      have ea40 := (frr_at fc50 (by decide) (by decide) o_a39).trans ea40
      have ea44 := (frr_at fc50 (by decide) (by decide) o_a39).trans ea44
      have f0 := fri_tr g0 f0 fc50 (by decide) (by decide)
      have o_a38 := gr_ob g49 o_a38
      have o_a39 := gr_ob g49 o_a39
      have o_a40 := gr_ob g49 o_a40
      have o_a41 := gr_ob g49 o_a41
      have o_a44 := gr_ob g49 o_a44
      have o_a45 := gr_ob g49 o_a45
      have o_v0 := gr_ob g49 o_v0
      have g0 := gr_tr g0 g49
      intro _
      refine ⟨a38, ea38, ?_⟩
      refine ⟨a39, ea39, ?_⟩
      refine ⟨o_a39, ?_⟩
      obtain ⟨a53, ea53, o_a53, l_a53⟩ := shl 18 rfl hI o_a39
      refine ⟨a53, ea53, ?_⟩
      refine ⟨o_a53, ?_⟩
      have i55 : vp_in v1 (hN _ a53) := (vin l_a53 (m := 4) (by decide) (q1357 p_x1 c5 c37))
      obtain ⟨a54, ea54, o_a54⟩ := ae hI o_a53 (by decide) (by decide) i55
      replace o_a54 : ob _ a54 6 := o_a54
      refine ⟨i55, a54, ea54, ?_⟩
      refine ⟨a39, ea39, ?_⟩
      refine ⟨o_a39, ?_⟩
      refine ⟨a53, ea53, ?_⟩
      refine ⟨o_a53, ?_⟩
      have i59 : vp_in v2 (hN _ a53) := (vin l_a53 (m := 4) (by decide) (q1358 p_x1 c5 c37))
      obtain ⟨a58, ea58, o_a58⟩ := ae hI o_a53 (by decide) (by decide) i59
      replace o_a58 : ob _ a58 6 := o_a58
      refine ⟨i59, a58, ea58, ?_⟩
      refine ⟨o_a38, ?_⟩
      refine m_X1_wetInLee hI o_a38 o_a54 o_a58 (fun x60 S61 hI g62 fc63 => ?_)
      have l_a40 := (gr_len g62 o_a40).trans l_a40
      have l_a44 := (gr_len g62 o_a44).trans l_a44
      have l_a53 := (gr_len g62 o_a53).trans l_a53
      have d_x1 := d_x1.trans (fri_at fc63 (by decide) (by decide) o_v0).symm
      have ea38 := (frr_at fc63 (by decide) (by decide) o_v0).trans ea38
      have ea39 := (frr_at fc63 (by decide) (by decide) o_v0).trans ea39
      have ea40 := (frr_at fc63 (by decide) (by decide) o_a39).trans ea40
      have ea44 := (frr_at fc63 (by decide) (by decide) o_a39).trans ea44
      have ea53 := (frr_at fc63 (by decide) (by decide) o_a39).trans ea53
      have f0 := fri_tr g0 f0 fc63 (by decide) (by decide)
      have o_a38 := gr_ob g62 o_a38
      have o_a39 := gr_ob g62 o_a39
      have o_a40 := gr_ob g62 o_a40
      have o_a41 := gr_ob g62 o_a41
      have o_a44 := gr_ob g62 o_a44
      have o_a45 := gr_ob g62 o_a45
      have o_a53 := gr_ob g62 o_a53
      have o_a54 := gr_ob g62 o_a54
      have o_a58 := gr_ob g62 o_a58
      have o_v0 := gr_ob g62 o_v0
      have g0 := gr_tr g0 g62
      intro _
      refine m_X9_fraction hI (fun x64 S65 hI2 g66 p_x64 => ?_)
      subst p_x64
      intro _
      exact hq _ _ hI g0 f0
    · exact hq _ _ hI g0 f0
set_option maxHeartbeats 4000000 in
set_option maxRecDepth 20000 in
theorem m_X9_lies {v0 : Nat} {Q : Int32 → HS → Prop} {S : HS} (hI : IV S) (o_v0 : ob S v0 9)     (hq : ∀ (r : Int32) (T : HS), IV T → Gr S T → FRI [(9, 9)] [] S T → Q r T) : P_X9_lies v0 Q S := by
  have g0 := gr_rf S
  have f0 := fri_rf [(9, 9)] [] S
  refine u_X9_lies ?_
  refine u_X9_lies_0 ?_
  refine ⟨o_v0, ?_⟩
  obtain ⟨a1, ea1, o_a1, -⟩ := sh 1 rfl hI o_v0
  refine ⟨a1, ea1, ?_⟩
  refine ⟨o_a1, ?_⟩
  refine m_X8_isTold hI o_a1 (fun x2 S3 hI2 g4 b_x2 p_x2 => ?_)
  subst p_x2
  intro _ _
  have bb_x2 : x2 = 0 ∨ x2 = 1 := b_x2
  refine ⟨fun c6 => ?_, fun c6 => ?_⟩
  · refine i_X9_lies_20 (fun (y0 : Nat) (y1 : Int32) (y2 : Int32) (Z : HS) => ((2147483647 : Int32).toInt - y2.toInt).toNat) (fun (y0 : Nat) (y1 : Int32) (y2 : Int32) (Z : HS) => (IV Z) ∧ (Gr S Z) ∧ (FRI [] [] S Z) ∧ (v0 = y0) ∧ (0 ≤ y2)) ?_ _ _ _ _ ⟨hI, (gr_rf _), (fri_rf _ _ _), rfl, (q202 bb_x2 c6)⟩
    intro w10 w12 w13 S7 X14 ⟨hI, gL8, fL9, q11, i1⟩ ih15
    subst q11
    have ea1 := (frr_at fL9 (by decide) (by decide) o_v0).trans ea1
    have f0 := fri_tr g0 f0 fL9 (by decide) (by decide)
    have o_a1 := gr_ob gL8 o_a1
    have o_v0 := gr_ob gL8 o_v0
    have g0 := gr_tr g0 gL8
    refine u_X9_lies_20 ?_
    refine ⟨o_v0, ?_⟩
    refine ⟨a1, ea1, ?_⟩
    refine ⟨o_a1, ?_⟩
    intro x17 ex17
    have r_x17 : (0 : Int32) ≤ x17 ∧ x17 ≤ (4 : Int32) := by rw [ex17]; exact nu 15 rfl hI o_a1
    have d_x17 := ex17
    refine ⟨fun c18 => ?_, fun c18 => ?_⟩
    · refine u_X9_grant ?_
      refine u_X9_grant_0 ?_
      refine ⟨o_v0, ?_⟩
      have hI := iv_sI (j := 9) (v := (0 : Int32)) hI o_v0 (by decide) (nu_free (by decide))
      have f0 : FRI _ _ _ (sI S7 v0 9 (0 : Int32)) := fri_sI g0 f0 o_v0 (by decide)
      have fL9 : FRI _ _ _ (sI S7 v0 9 (0 : Int32)) := fri_sI gL8 fL9 o_v0 (by decide)
      have d_x17 : x17 = fI (sI S7 v0 9 (0 : Int32)) a1 5 := d_x17.trans (sI_ne o_v0 o_a1 (by decide) 5).symm
      obtain ⟨y19, hy19⟩ : ∃ z : Int32, z = (0 : Int32) := ⟨_, rfl⟩
      have d_y19 : y19 = fI (sI S7 v0 9 (0 : Int32)) v0 9 := hy19.trans (u2_self _ _ _ _).symm
      intro _
      exact hq _ _ hI g0 f0
    · obtain ⟨a20, ea20, o_a20, -⟩ := sh 3 rfl hI o_v0
      refine ⟨a20, ea20, ?_⟩
      refine ⟨a1, ea1, ?_⟩
      refine ⟨o_a20, ?_⟩
      refine m_X1_findFit hI o_a20 o_a1 (fun x22 S23 hI g24 fc25 => ?_)
      have d_x17 := d_x17.trans (fri_at fc25 (by decide) (by decide) o_a1).symm
      have ea1 := (frr_at fc25 (by decide) (by decide) o_v0).trans ea1
      have ea20 := (frr_at fc25 (by decide) (by decide) o_v0).trans ea20
      have f0 := fri_tr g0 f0 fc25 (by decide) (by decide)
      have fL9 := fri_tr gL8 fL9 fc25 (by decide) (by decide)
      have o_a1 := gr_ob g24 o_a1
      have o_a20 := gr_ob g24 o_a20
      have o_v0 := gr_ob g24 o_v0
      have g0 := gr_tr g0 g24
      have gL8 := gr_tr gL8 g24
      intro _
      refine ⟨fun c26 => ?_, fun c26 => ?_⟩
      · refine u_X9_lies_54 ?_
        intro x27 ex27
        exact ih15 _ _ _ _ ⟨hI, gL8, fL9, rfl, (q1310 bb_x2 c6 i1 r_x17 c18 c26 ex27)⟩ (mu_up (q1311 bb_x2 c6 i1 r_x17 c18 c26 ex27) (q1312 bb_x2 c6 i1 r_x17 c18 c26 ex27))
      · intro x28 ex28
        refine u_X9_lies_54 ?_
        intro x29 ex29
        exact ih15 _ _ _ _ ⟨hI, gL8, fL9, rfl, (q1313 bb_x2 c6 i1 r_x17 c18 c26 ex28 ex29)⟩ (mu_up (q1314 bb_x2 c6 i1 r_x17 c18 c26 ex28 ex29) (q1315 bb_x2 c6 i1 r_x17 c18 c26 ex28 ex29))
  · refine u_X9_refuse ?_
    refine u_X9_refuse_0 ?_
    refine ⟨o_v0, ?_⟩
    have hI := iv_sI (j := 9) (v := (1 : Int32)) hI o_v0 (by decide) (nu_free (by decide))
    have f0 : FRI _ _ _ (sI S v0 9 (1 : Int32)) := fri_sI g0 f0 o_v0 (by decide)
    obtain ⟨y30, hy30⟩ : ∃ z : Int32, z = (1 : Int32) := ⟨_, rfl⟩
    have d_y30 : y30 = fI (sI S v0 9 (1 : Int32)) v0 9 := hy30.trans (u2_self _ _ _ _).symm
    intro _
    exact hq _ _ hI g0 f0
set_option maxHeartbeats 4000000 in
set_option maxRecDepth 20000 in
theorem m_X9_mark {v0 : Nat} {Q : Int32 → HS → Prop} {S : HS} (hI : IV S) (o_v0 : ob S v0 9)     (hq : ∀ (r : Int32) (T : HS), IV T → Gr S T → FRI [(0, 3), (2, 0), (2, 1), (9, 9)] [] S T → Q r T) : P_X9_mark v0 Q S := by
  have g0 := gr_rf S
  have f0 := fri_rf [(0, 3), (2, 0), (2, 1), (9, 9)] [] S
  refine u_X9_mark ?_
  refine u_X9_mark_0 ?_
  refine ⟨o_v0, ?_⟩
  obtain ⟨a1, ea1, o_a1, -⟩ := sh 5 rfl hI o_v0
  refine ⟨a1, ea1, ?_⟩
  refine ⟨o_a1, ?_⟩
  refine m_X0_isOn hI o_a1 (fun x2 S3 hI2 g4 b_x2 p_x2 => ?_)
  subst p_x2
  intro _ _
  have bb_x2 : x2 = 0 ∨ x2 = 1 := b_x2
  refine ⟨fun c6 => ?_, fun c6 => ?_⟩
  · refine ⟨a1, ea1, ?_⟩
    refine ⟨o_a1, ?_⟩
    refine m_X0_setMark hI o_a1 (fun x8 S9 hI g10 fc11 => ?_)
    have ea1 := (frr_at fc11 (by decide) (by decide) o_v0).trans ea1
    have f0 := fri_tr g0 f0 fc11 (by decide) (by decide)
    have o_a1 := gr_ob g10 o_a1
    have o_v0 := gr_ob g10 o_v0
    have g0 := gr_tr g0 g10
    intro _
    refine ⟨fun c12 => ?_, fun c12 => ?_⟩
    · refine u_X9_grant ?_
      refine u_X9_grant_0 ?_
      refine ⟨o_v0, ?_⟩
      have hI := iv_sI (j := 9) (v := (0 : Int32)) hI o_v0 (by decide) (nu_free (by decide))
      have f0 : FRI _ _ _ (sI S9 v0 9 (0 : Int32)) := fri_sI g0 f0 o_v0 (by decide)
      obtain ⟨y13, hy13⟩ : ∃ z : Int32, z = (0 : Int32) := ⟨_, rfl⟩
      have d_y13 : y13 = fI (sI S9 v0 9 (0 : Int32)) v0 9 := hy13.trans (u2_self _ _ _ _).symm
      intro _
      exact hq _ _ hI g0 f0
    · refine u_X9_refuse ?_
      refine u_X9_refuse_0 ?_
      refine ⟨o_v0, ?_⟩
      have hI := iv_sI (j := 9) (v := (3 : Int32)) hI o_v0 (by decide) (nu_free (by decide))
      have f0 : FRI _ _ _ (sI S9 v0 9 (3 : Int32)) := fri_sI g0 f0 o_v0 (by decide)
      obtain ⟨y14, hy14⟩ : ∃ z : Int32, z = (3 : Int32) := ⟨_, rfl⟩
      have d_y14 : y14 = fI (sI S9 v0 9 (3 : Int32)) v0 9 := hy14.trans (u2_self _ _ _ _).symm
      intro _
      exact hq _ _ hI g0 f0
  · refine u_X9_refuse ?_
    refine u_X9_refuse_0 ?_
    refine ⟨o_v0, ?_⟩
    have hI := iv_sI (j := 9) (v := (1 : Int32)) hI o_v0 (by decide) (nu_free (by decide))
    have f0 : FRI _ _ _ (sI S v0 9 (1 : Int32)) := fri_sI g0 f0 o_v0 (by decide)
    obtain ⟨y15, hy15⟩ : ∃ z : Int32, z = (1 : Int32) := ⟨_, rfl⟩
    have d_y15 : y15 = fI (sI S v0 9 (1 : Int32)) v0 9 := hy15.trans (u2_self _ _ _ _).symm
    intro _
    exact hq _ _ hI g0 f0
set_option maxHeartbeats 4000000 in
set_option maxRecDepth 20000 in
theorem m_X9_mean {v0 : Nat} {v1 : Int32} {v2 : Int32} {v3 : Int32} {v4 : Int32} {v5 : Int32} {v6 : Int32} {Q : Int64 → HS → Prop} {S : HS} (hI : IV S) (o_v0 : ob S v0 9)     (hq : ∀ (r : Int64) (T : HS), IV T → Gr S T → FRI [(9, 9)] [] S T → Q r T) : P_X9_mean v0 v1 v2 v3 v4 v5 v6 Q S := by
  have g0 := gr_rf S
  have f0 := fri_rf [(9, 9)] [] S
  refine u_X9_mean ?_
  refine u_X9_mean_0 ?_
  refine ⟨o_v0, ?_⟩
  refine m_X9_legTrouble hI o_v0 (fun x1 S2 hI2 g3 p_x1 => ?_)
  obtain ⟨z_S2, p_x1⟩ := p_x1
  subst z_S2
  intro _
  refine u_X9_refusedBy ?_
  refine u_X9_refusedBy_0 ?_
  refine ⟨o_v0, ?_⟩
  have hI := iv_sI (j := 9) (v := x1) hI o_v0 (by decide) (nu_free (by decide))
  have f0 : FRI _ _ _ (sI S v0 9 x1) := fri_sI g0 f0 o_v0 (by decide)
  have d_x1 : x1 = fI (sI S v0 9 x1) v0 9 := (u2_self _ _ _ _).symm
  refine ⟨fun c5 => ?_, fun c5 => ?_⟩
  · intro _ _
    refine ⟨fun c6 => ?_, fun c6 => ?_⟩
    · obtain ⟨a7, ea7, o_a7, -⟩ := sh 3 rfl hI o_v0
      refine ⟨a7, ea7, ?_⟩
      obtain ⟨a8, ea8, o_a8, -⟩ := sh 1 rfl hI o_v0
      refine ⟨a8, ea8, ?_⟩
      refine ⟨o_a8, ?_⟩
      obtain ⟨a9, ea9, o_a9, l_a9⟩ := shl 18 rfl hI o_a8
      refine ⟨a9, ea9, ?_⟩
      refine ⟨o_a9, ?_⟩
      have i11 : vp_in v1 (hN _ a9) := (vin l_a9 (m := 4) (by decide) (q0 p_x1 c5))
      obtain ⟨a10, ea10, o_a10⟩ := ae hI o_a9 (by decide) (by decide) i11
      replace o_a10 : ob _ a10 6 := o_a10
      refine ⟨i11, a10, ea10, ?_⟩
      refine ⟨a8, ea8, ?_⟩
      refine ⟨o_a8, ?_⟩
      obtain ⟨a13, ea13, o_a13, l_a13⟩ := shl 17 rfl hI o_a8
      refine ⟨a13, ea13, ?_⟩
      refine ⟨o_a13, ?_⟩
      have i15 : vp_in v2 (hN _ a13) := (vin l_a13 (m := 12) (by decide) (q1 p_x1 c5))
      obtain ⟨a14, ea14, o_a14⟩ := ae hI o_a13 (by decide) (by decide) i15
      replace o_a14 : ob _ a14 5 := o_a14
      refine ⟨i15, a14, ea14, ?_⟩
      refine ⟨a8, ea8, ?_⟩
      refine ⟨o_a8, ?_⟩
      obtain ⟨a17, ea17, o_a17, l_a17⟩ := shl 15 rfl hI o_a8
      refine ⟨a17, ea17, ?_⟩
      refine ⟨o_a17, ?_⟩
      have i19 : vp_in v4 (hN _ a17) := (vin l_a17 (m := 6) (by decide) (q2 p_x1 c5))
      obtain ⟨a18, ea18, o_a18⟩ := ae hI o_a17 (by decide) (by decide) i19
      replace o_a18 : ob _ a18 3 := o_a18
      refine ⟨i19, a18, ea18, ?_⟩
      refine ⟨o_a7, ?_⟩
      refine m_X1_wetOf hI o_a7 o_a10 o_a14 o_a18 (fun x20 S21 hI g22 fc23 => ?_)
      have l_a13 := (gr_len g22 o_a13).trans l_a13
      have l_a17 := (gr_len g22 o_a17).trans l_a17
      have l_a9 := (gr_len g22 o_a9).trans l_a9
      have d_x1 := d_x1.trans (fri_at fc23 (by decide) (by decide) o_v0).symm
      have ea7 := (frr_at fc23 (by decide) (by decide) o_v0).trans ea7
      have ea8 := (frr_at fc23 (by decide) (by decide) o_v0).trans ea8
      have ea9 := (frr_at fc23 (by decide) (by decide) o_a8).trans ea9
      have ea13 := (frr_at fc23 (by decide) (by decide) o_a8).trans ea13
      have ea17 := (frr_at fc23 (by decide) (by decide) o_a8).trans ea17
      have f0 := fri_tr g0 f0 fc23 (by decide) (by decide)
      have o_a10 := gr_ob g22 o_a10
      have o_a13 := gr_ob g22 o_a13
      have o_a14 := gr_ob g22 o_a14
      have o_a17 := gr_ob g22 o_a17
      have o_a18 := gr_ob g22 o_a18
      have o_a7 := gr_ob g22 o_a7
      have o_a8 := gr_ob g22 o_a8
      have o_a9 := gr_ob g22 o_a9
      have o_v0 := gr_ob g22 o_v0
      have g0 := gr_tr g0 g22
      intro _
      refine ⟨a8, ea8, ?_⟩
      refine ⟨o_a8, ?_⟩
      refine ⟨a17, ea17, ?_⟩
      refine ⟨o_a17, ?_⟩
      have i27 : vp_in v4 (hN _ a17) := (vin l_a17 (m := 6) (by decide) (q2 p_x1 c5))
      obtain ⟨a26, ea26, o_a26⟩ := ae hI o_a17 (by decide) (by decide) i27
      replace o_a26 : ob _ a26 3 := o_a26
      refine ⟨i27, a26, ea26, ?_⟩
      refine ⟨o_a26, ?_⟩
      intro x28 ex28
      have d_x28 := ex28
      refine m_X9_fraction hI (fun x29 S30 hI2 g31 p_x29 => ?_)
      subst p_x29
      intro _
      exact hq _ _ hI g0 f0
    · exact hq _ _ hI g0 f0
  · intro _ _
    refine ⟨fun c33 => ?_, fun c33 => ?_⟩
    · obtain ⟨a34, ea34, o_a34, -⟩ := sh 3 rfl hI o_v0
      refine ⟨a34, ea34, ?_⟩
      obtain ⟨a35, ea35, o_a35, -⟩ := sh 1 rfl hI o_v0
      refine ⟨a35, ea35, ?_⟩
      refine ⟨o_a35, ?_⟩
      obtain ⟨a36, ea36, o_a36, l_a36⟩ := shl 18 rfl hI o_a35
      refine ⟨a36, ea36, ?_⟩
      refine ⟨o_a36, ?_⟩
      have i38 : vp_in v1 (hN _ a36) := (vin l_a36 (m := 4) (by decide) (q3 p_x1 c5 c33))
      obtain ⟨a37, ea37, o_a37⟩ := ae hI o_a36 (by decide) (by decide) i38
      replace o_a37 : ob _ a37 6 := o_a37
      refine ⟨i38, a37, ea37, ?_⟩
      refine ⟨a35, ea35, ?_⟩
      refine ⟨o_a35, ?_⟩
      obtain ⟨a40, ea40, o_a40, l_a40⟩ := shl 17 rfl hI o_a35
      refine ⟨a40, ea40, ?_⟩
      refine ⟨o_a40, ?_⟩
      have i42 : vp_in v2 (hN _ a40) := (vin l_a40 (m := 12) (by decide) (q4 p_x1 c5 c33))
      obtain ⟨a41, ea41, o_a41⟩ := ae hI o_a40 (by decide) (by decide) i42
      replace o_a41 : ob _ a41 5 := o_a41
      refine ⟨i42, a41, ea41, ?_⟩
      refine ⟨a35, ea35, ?_⟩
      refine ⟨o_a35, ?_⟩
      obtain ⟨a44, ea44, o_a44, l_a44⟩ := shl 15 rfl hI o_a35
      refine ⟨a44, ea44, ?_⟩
      refine ⟨o_a44, ?_⟩
      have i46 : vp_in v4 (hN _ a44) := (vin l_a44 (m := 6) (by decide) (q5 p_x1 c5 c33))
      obtain ⟨a45, ea45, o_a45⟩ := ae hI o_a44 (by decide) (by decide) i46
      replace o_a45 : ob _ a45 3 := o_a45
      refine ⟨i46, a45, ea45, ?_⟩
      refine ⟨o_a34, ?_⟩
      refine m_X1_wetOf hI o_a34 o_a37 o_a41 o_a45 (fun x47 S48 hI g49 fc50 => ?_)
      have l_a36 := (gr_len g49 o_a36).trans l_a36
      have l_a40 := (gr_len g49 o_a40).trans l_a40
      have l_a44 := (gr_len g49 o_a44).trans l_a44
      have d_x1 := d_x1.trans (fri_at fc50 (by decide) (by decide) o_v0).symm
      have ea34 := (frr_at fc50 (by decide) (by decide) o_v0).trans ea34
      have ea35 := (frr_at fc50 (by decide) (by decide) o_v0).trans ea35
      have ea36 := (frr_at fc50 (by decide) (by decide) o_a35).trans ea36
      have ea40 := (frr_at fc50 (by decide) (by decide) o_a35).trans ea40
      have ea44 := (frr_at fc50 (by decide) (by decide) o_a35).trans ea44
      have f0 := fri_tr g0 f0 fc50 (by decide) (by decide)
      have o_a34 := gr_ob g49 o_a34
      have o_a35 := gr_ob g49 o_a35
      have o_a36 := gr_ob g49 o_a36
      have o_a37 := gr_ob g49 o_a37
      have o_a40 := gr_ob g49 o_a40
      have o_a41 := gr_ob g49 o_a41
      have o_a44 := gr_ob g49 o_a44
      have o_a45 := gr_ob g49 o_a45
      have o_v0 := gr_ob g49 o_v0
      have g0 := gr_tr g0 g49
      intro _
      refine ⟨a35, ea35, ?_⟩
      refine ⟨o_a35, ?_⟩
      refine ⟨a44, ea44, ?_⟩
      refine ⟨o_a44, ?_⟩
      have i54 : vp_in v4 (hN _ a44) := (vin l_a44 (m := 6) (by decide) (q5 p_x1 c5 c33))
      obtain ⟨a53, ea53, o_a53⟩ := ae hI o_a44 (by decide) (by decide) i54
      replace o_a53 : ob _ a53 3 := o_a53
      refine ⟨i54, a53, ea53, ?_⟩
      refine ⟨o_a53, ?_⟩
      intro x55 ex55
      have d_x55 := ex55
      refine m_X9_fraction hI (fun x56 S57 hI2 g58 p_x56 => ?_)
      subst p_x56
      intro _
      exact hq _ _ hI g0 f0
    · exact hq _ _ hI g0 f0
set_option maxHeartbeats 4000000 in
set_option maxRecDepth 20000 in
theorem m_X9_minutes {v0 : Nat} {v1 : Int32} {v2 : Int32} {v3 : Int32} {Q : Int32 → HS → Prop} {S : HS} (hI : IV S) (o_v0 : ob S v0 9)     (hq : ∀ (r : Int32) (T : HS), IV T → Gr S T → FRI [(9, 9)] [] S T → Q r T) : P_X9_minutes v0 v1 v2 v3 Q S := by
  have g0 := gr_rf S
  have f0 := fri_rf [(9, 9)] [] S
  refine u_X9_minutes ?_
  refine u_X9_minutes_0 ?_
  refine ⟨o_v0, ?_⟩
  obtain ⟨a1, ea1, o_a1, -⟩ := sh 1 rfl hI o_v0
  refine ⟨a1, ea1, ?_⟩
  refine ⟨o_a1, ?_⟩
  refine m_X8_hasWalker hI o_a1 (fun x2 S3 hI2 g4 b_x2 p_x2 => ?_)
  obtain ⟨z_S3, p_x2⟩ := p_x2
  subst z_S3
  intro _ _
  have bb_x2 : x2 = 0 ∨ x2 = 1 := b_x2
  refine ⟨fun c6 => ?_, fun c6 => ?_⟩
  · refine u_X9_minutes_22 ?_
    refine ⟨o_v0, ?_⟩
    refine u_X9_refuse ?_
    refine u_X9_refuse_0 ?_
    refine ⟨o_v0, ?_⟩
    have hI := iv_sI (j := 9) (v := (1 : Int32)) hI o_v0 (by decide) (nu_free (by decide))
    have f0 : FRI _ _ _ (sI S v0 9 (1 : Int32)) := fri_sI g0 f0 o_v0 (by decide)
    obtain ⟨y7, hy7⟩ : ∃ z : Int32, z = (1 : Int32) := ⟨_, rfl⟩
    have d_y7 : y7 = fI (sI S v0 9 (1 : Int32)) v0 9 := hy7.trans (u2_self _ _ _ _).symm
    intro _
    exact hq _ _ hI g0 f0
  · refine ⟨a1, ea1, ?_⟩
    refine ⟨o_a1, ?_⟩
    refine m_X8_hasRoad hI o_a1 (fun x9 S10 hI2 g11 b_x9 p_x9 => ?_)
    obtain ⟨z_S10, p_x9⟩ := p_x9
    subst z_S10
    intro _ _
    have bb_x9 : x9 = 0 ∨ x9 = 1 := b_x9
    refine ⟨fun c13 => ?_, fun c13 => ?_⟩
    · refine ⟨a1, ea1, ?_⟩
      refine ⟨o_a1, ?_⟩
      obtain ⟨a15, ea15, o_a15, l_a15⟩ := shl 18 rfl hI o_a1
      refine ⟨a15, ea15, ?_⟩
      refine ⟨o_a15, ?_⟩
      have i17 : vp_in v1 (hN _ a15) := (vin l_a15 (m := 4) (by decide) (q1306 p_x2 bb_x2 c6 p_x9 bb_x9 c13))
      obtain ⟨a16, ea16, o_a16⟩ := ae hI o_a15 (by decide) (by decide) i17
      replace o_a16 : ob _ a16 6 := o_a16
      refine ⟨i17, a16, ea16, ?_⟩
      refine ⟨o_a16, ?_⟩
      refine m_X6_canGo hI o_a16 (fun x18 S19 hI2 g20 b_x18 p_x18 => ?_)
      subst p_x18
      intro _ _
      have bb_x18 : x18 = 0 ∨ x18 = 1 := b_x18
      refine ⟨fun c22 => ?_, fun c22 => ?_⟩
      · refine ⟨a1, ea1, ?_⟩
        refine ⟨o_a1, ?_⟩
        obtain ⟨a24, ea24, o_a24, l_a24⟩ := shl 17 rfl hI o_a1
        refine ⟨a24, ea24, ?_⟩
        refine ⟨o_a24, ?_⟩
        have i26 : vp_in v2 (hN _ a24) := (vin l_a24 (m := 12) (by decide) (q1307 p_x2 bb_x2 c6 p_x9 bb_x9 c13 bb_x18 c22))
        obtain ⟨a25, ea25, o_a25⟩ := ae hI o_a24 (by decide) (by decide) i26
        replace o_a25 : ob _ a25 5 := o_a25
        refine ⟨i26, a25, ea25, ?_⟩
        refine ⟨o_a25, ?_⟩
        refine m_X5_minutesAt hI o_a25 (fun x27 S28 hI2 g29 p_x27 => ?_)
        subst p_x27
        intro _
        refine u_X9_grant ?_
        refine u_X9_grant_0 ?_
        refine ⟨o_v0, ?_⟩
        have hI := iv_sI (j := 9) (v := (0 : Int32)) hI o_v0 (by decide) (nu_free (by decide))
        have f0 : FRI _ _ _ (sI S v0 9 (0 : Int32)) := fri_sI g0 f0 o_v0 (by decide)
        obtain ⟨y31, hy31⟩ : ∃ z : Int32, z = (0 : Int32) := ⟨_, rfl⟩
        have d_y31 : y31 = fI (sI S v0 9 (0 : Int32)) v0 9 := hy31.trans (u2_self _ _ _ _).symm
        intro _
        exact hq _ _ hI g0 f0
      · refine u_X9_refuse ?_
        refine u_X9_refuse_0 ?_
        refine ⟨o_v0, ?_⟩
        have hI := iv_sI (j := 9) (v := (2 : Int32)) hI o_v0 (by decide) (nu_free (by decide))
        have f0 : FRI _ _ _ (sI S v0 9 (2 : Int32)) := fri_sI g0 f0 o_v0 (by decide)
        obtain ⟨y32, hy32⟩ : ∃ z : Int32, z = (2 : Int32) := ⟨_, rfl⟩
        have d_y32 : y32 = fI (sI S v0 9 (2 : Int32)) v0 9 := hy32.trans (u2_self _ _ _ _).symm
        intro _
        exact hq _ _ hI g0 f0
    · refine u_X9_minutes_22 ?_
      refine ⟨o_v0, ?_⟩
      refine u_X9_refuse ?_
      refine u_X9_refuse_0 ?_
      refine ⟨o_v0, ?_⟩
      have hI := iv_sI (j := 9) (v := (1 : Int32)) hI o_v0 (by decide) (nu_free (by decide))
      have f0 : FRI _ _ _ (sI S v0 9 (1 : Int32)) := fri_sI g0 f0 o_v0 (by decide)
      obtain ⟨y33, hy33⟩ : ∃ z : Int32, z = (1 : Int32) := ⟨_, rfl⟩
      have d_y33 : y33 = fI (sI S v0 9 (1 : Int32)) v0 9 := hy33.trans (u2_self _ _ _ _).symm
      intro _
      exact hq _ _ hI g0 f0
set_option maxHeartbeats 4000000 in
set_option maxRecDepth 20000 in
theorem m_X9_off {v0 : Nat} {v1 : Int32} {v2 : Int32} {v3 : Int32} {v4 : Int32} {Q : Int32 → HS → Prop} {S : HS} (hI : IV S) (o_v0 : ob S v0 9)     (hq : ∀ (r : Int32) (T : HS), IV T → Gr S T → FRI [(7, 3), (7, 9), (7, 10), (7, 11), (7, 12), (7, 13), (9, 9)] [(7, 0), (7, 1), (7, 2), (7, 4), (7, 5), (7, 6), (7, 7), (7, 8)] S T → Q r T) : P_X9_off v0 v1 v2 v3 v4 Q S := by
  have g0 := gr_rf S
  have f0 := fri_rf [(7, 3), (7, 9), (7, 10), (7, 11), (7, 12), (7, 13), (9, 9)] [(7, 0), (7, 1), (7, 2), (7, 4), (7, 5), (7, 6), (7, 7), (7, 8)] S
  refine u_X9_off ?_
  refine u_X9_off_0 ?_
  refine ⟨o_v0, ?_⟩
  refine m_X9_placesTrouble hI o_v0 (fun x1 S2 hI2 g3 p_x1 => ?_)
  obtain ⟨z_S2, p_x1⟩ := p_x1
  subst z_S2
  intro _
  refine ⟨fun c5 => ?_, fun c5 => ?_⟩
  · refine u_X9_off_25 ?_
    refine ⟨o_v0, ?_⟩
    refine u_X9_refusedBy ?_
    refine u_X9_refusedBy_0 ?_
    refine ⟨o_v0, ?_⟩
    have hI := iv_sI (j := 9) (v := x1) hI o_v0 (by decide) (nu_free (by decide))
    have f0 : FRI _ _ _ (sI S v0 9 x1) := fri_sI g0 f0 o_v0 (by decide)
    have d_x1 : x1 = fI (sI S v0 9 x1) v0 9 := (u2_self _ _ _ _).symm
    refine ⟨fun c6 => ?_, fun c6 => ?_⟩
    · intro _ _
      refine ⟨fun c7 => ?_, fun c7 => ?_⟩
      · obtain ⟨a8, ea8, o_a8, -⟩ := sh 4 rfl hI o_v0
        refine ⟨a8, ea8, ?_⟩
        obtain ⟨a9, ea9, o_a9, -⟩ := sh 1 rfl hI o_v0
        refine ⟨a9, ea9, ?_⟩
        obtain ⟨a10, ea10, o_a10, -⟩ := sh 3 rfl hI o_v0
        refine ⟨a10, ea10, ?_⟩
        refine ⟨o_a8, ?_⟩
        refine m_X7_reckon hI o_a8 o_a9 o_a10 (q1132 p_x1 c5 c6) (fun S12 hI g13 fc14 => ?_)
        have d_x1 := d_x1.trans (fri_at fc14 (by decide) (by decide) o_v0).symm
        have ea8 := (frr_at fc14 (by decide) (by decide) o_v0).trans ea8
        have ea9 := (frr_at fc14 (by decide) (by decide) o_v0).trans ea9
        have ea10 := (frr_at fc14 (by decide) (by decide) o_v0).trans ea10
        have f0 := fri_tr g0 f0 fc14 (by decide) (by decide)
        have o_a10 := gr_ob g13 o_a10
        have o_a8 := gr_ob g13 o_a8
        have o_a9 := gr_ob g13 o_a9
        have o_v0 := gr_ob g13 o_v0
        have g0 := gr_tr g0 g13
        intro _
        refine i_X9_off_62 (fun (y0 : Nat) (y2 : Int32) (y4 : Int32) (y6 : Int32) (y7 : Int32) (Z : HS) => ((2147483647 : Int32).toInt - y7.toInt).toNat) (fun (y0 : Nat) (y2 : Int32) (y4 : Int32) (y6 : Int32) (y7 : Int32) (Z : HS) => (S12 = Z) ∧ (v0 = y0) ∧ (v2 = y2) ∧ (v4 = y4) ∧ (0 ≤ y7)) ?_ _ _ _ _ _ _ ⟨rfl, rfl, rfl, rfl, (q1133 p_x1 c5 c6)⟩
        intro w18 w20 w22 w24 w25 S15 X26 ⟨eS15, q19, q21, q23, i1⟩ ih27
        subst q19
        subst q21
        subst q23
        subst eS15
        refine u_X9_off_62 ?_
        refine ⟨fun c28 => ?_, fun c28 => ?_⟩
        · refine ⟨fun c29 => ?_, fun c29 => ?_⟩
          · exact hq _ _ hI g0 f0
          · refine ⟨o_v0, ?_⟩
            refine u_X9_refuse ?_
            refine u_X9_refuse_0 ?_
            refine ⟨o_v0, ?_⟩
            have hI := iv_sI (j := 9) (v := (6 : Int32)) hI o_v0 (by decide) (nu_free (by decide))
            have f0 : FRI _ _ _ (sI S12 v0 9 (6 : Int32)) := fri_sI g0 f0 o_v0 (by decide)
            obtain ⟨y30, hy30⟩ : ∃ z : Int32, z = (6 : Int32) := ⟨_, rfl⟩
            have d_y30 : y30 = fI (sI S12 v0 9 (6 : Int32)) v0 9 := hy30.trans (u2_self _ _ _ _).symm
            intro _
            exact hq _ _ hI g0 f0
        · refine ⟨fun c31 => ?_, fun c31 => ?_⟩
          · refine u_X9_off_99 ?_
            refine u_X9_off_104 ?_
            refine ⟨o_v0, ?_⟩
            refine ⟨a8, ea8, ?_⟩
            refine ⟨o_a8, ?_⟩
            refine m_X7_isOpen hI o_a8 (fun x33 S34 hI2 g35 b_x33 p_x33 => ?_)
            subst p_x33
            intro _ _
            have bb_x33 : x33 = 0 ∨ x33 = 1 := b_x33
            refine ⟨fun c37 => ?_, fun c37 => ?_⟩
            · refine u_X9_off_128 ?_
              intro x38 ex38
              exact ih27 _ _ _ _ _ _ ⟨rfl, rfl, rfl, rfl, (q1134 p_x1 c5 c6 i1 c28 c31 bb_x33 c37 ex38)⟩ (mu_up (q1135 p_x1 c5 c6 i1 c28 c31 bb_x33 c37 ex38) (q1136 p_x1 c5 c6 i1 c28 c31 bb_x33 c37 ex38))
            · refine ⟨fun c39 => ?_, fun c39 => ?_⟩
              · refine u_X9_off_128 ?_
                intro x40 ex40
                exact ih27 _ _ _ _ _ _ ⟨rfl, rfl, rfl, rfl, (q1137 p_x1 c5 c6 i1 c28 c31 bb_x33 c37 c39 ex40)⟩ (mu_up (q1138 p_x1 c5 c6 i1 c28 c31 bb_x33 c37 c39 ex40) (q1139 p_x1 c5 c6 i1 c28 c31 bb_x33 c37 c39 ex40))
              · refine u_X9_off_128 ?_
                intro x41 ex41
                exact ih27 _ _ _ _ _ _ ⟨rfl, rfl, rfl, rfl, (q1140 p_x1 c5 c6 i1 c28 c31 bb_x33 c37 ex41)⟩ (mu_up (q1141 p_x1 c5 c6 i1 c28 c31 bb_x33 c37 ex41) (q1142 p_x1 c5 c6 i1 c28 c31 bb_x33 c37 ex41))
          · refine ⟨o_v0, ?_⟩
            refine ⟨a8, ea8, ?_⟩
            refine ⟨o_a8, ?_⟩
            refine m_X7_meanFrom hI o_a8 (fun x43 S44 hI2 g45 p_x43 => ?_)
            subst p_x43
            intro _
            refine ⟨a8, ea8, ?_⟩
            refine ⟨o_a8, ?_⟩
            refine m_X7_meanFrom hI o_a8 (fun x48 S49 hI2 g50 p_x48 => ?_)
            subst p_x48
            intro _
            refine ⟨fun c52 => ?_, fun c52 => ?_⟩
            · refine u_X9_off_104 ?_
              refine ⟨o_v0, ?_⟩
              refine ⟨a8, ea8, ?_⟩
              refine ⟨o_a8, ?_⟩
              refine m_X7_isOpen hI o_a8 (fun x54 S55 hI2 g56 b_x54 p_x54 => ?_)
              subst p_x54
              intro _ _
              have bb_x54 : x54 = 0 ∨ x54 = 1 := b_x54
              refine ⟨fun c58 => ?_, fun c58 => ?_⟩
              · refine u_X9_off_128 ?_
                intro x59 ex59
                exact ih27 _ _ _ _ _ _ ⟨rfl, rfl, rfl, rfl, (q1143 p_x1 c5 c6 i1 c28 c31 c52 bb_x54 c58 ex59)⟩ (mu_up (q1144 p_x1 c5 c6 i1 c28 c31 c52 bb_x54 c58 ex59) (q1145 p_x1 c5 c6 i1 c28 c31 c52 bb_x54 c58 ex59))
              · refine ⟨fun c60 => ?_, fun c60 => ?_⟩
                · refine u_X9_off_128 ?_
                  intro x61 ex61
                  exact ih27 _ _ _ _ _ _ ⟨rfl, rfl, rfl, rfl, (q1146 p_x1 c5 c6 i1 c28 c31 c52 bb_x54 c58 ex61)⟩ (mu_up (q1147 p_x1 c5 c6 i1 c28 c31 c52 bb_x54 c58 ex61) (q1148 p_x1 c5 c6 i1 c28 c31 c52 bb_x54 c58 ex61))
                · refine u_X9_off_128 ?_
                  intro x62 ex62
                  exact ih27 _ _ _ _ _ _ ⟨rfl, rfl, rfl, rfl, (q1149 p_x1 c5 c6 i1 c28 c31 c52 bb_x54 c58 c60 ex62)⟩ (mu_up (q1150 p_x1 c5 c6 i1 c28 c31 c52 bb_x54 c58 c60 ex62) (q1151 p_x1 c5 c6 i1 c28 c31 c52 bb_x54 c58 c60 ex62))
            · refine u_X9_off_99 ?_
              refine u_X9_off_104 ?_
              refine ⟨o_v0, ?_⟩
              refine ⟨a8, ea8, ?_⟩
              refine ⟨o_a8, ?_⟩
              refine m_X7_isOpen hI o_a8 (fun x64 S65 hI2 g66 b_x64 p_x64 => ?_)
              subst p_x64
              intro _ _
              have bb_x64 : x64 = 0 ∨ x64 = 1 := b_x64
              refine ⟨fun c68 => ?_, fun c68 => ?_⟩
              · refine u_X9_off_128 ?_
                intro x69 ex69
                exact ih27 _ _ _ _ _ _ ⟨rfl, rfl, rfl, rfl, (q1152 p_x1 c5 c6 i1 c28 c31 c52 bb_x64 c68 ex69)⟩ (mu_up (q1153 p_x1 c5 c6 i1 c28 c31 c52 bb_x64 c68 ex69) (q1154 p_x1 c5 c6 i1 c28 c31 c52 bb_x64 c68 ex69))
              · refine ⟨fun c70 => ?_, fun c70 => ?_⟩
                · refine u_X9_off_128 ?_
                  intro x71 ex71
                  exact ih27 _ _ _ _ _ _ ⟨rfl, rfl, rfl, rfl, (q1155 p_x1 c5 c6 i1 c28 c31 c52 bb_x64 c68 c70 ex71)⟩ (mu_up (q1156 p_x1 c5 c6 i1 c28 c31 c52 bb_x64 c68 c70 ex71) (q1157 p_x1 c5 c6 i1 c28 c31 c52 bb_x64 c68 c70 ex71))
                · refine u_X9_off_128 ?_
                  intro x72 ex72
                  exact ih27 _ _ _ _ _ _ ⟨rfl, rfl, rfl, rfl, (q1158 p_x1 c5 c6 i1 c28 c31 c52 bb_x64 c68 ex72)⟩ (mu_up (q1159 p_x1 c5 c6 i1 c28 c31 c52 bb_x64 c68 ex72) (q1160 p_x1 c5 c6 i1 c28 c31 c52 bb_x64 c68 ex72))
      · exact hq _ _ hI g0 f0
    · intro _ _
      refine ⟨fun c73 => ?_, fun c73 => ?_⟩
      · obtain ⟨a74, ea74, o_a74, -⟩ := sh 4 rfl hI o_v0
        refine ⟨a74, ea74, ?_⟩
        obtain ⟨a75, ea75, o_a75, -⟩ := sh 1 rfl hI o_v0
        refine ⟨a75, ea75, ?_⟩
        obtain ⟨a76, ea76, o_a76, -⟩ := sh 3 rfl hI o_v0
        refine ⟨a76, ea76, ?_⟩
        refine ⟨o_a74, ?_⟩
        refine m_X7_reckon hI o_a74 o_a75 o_a76 (q1161 p_x1 c5 c6 c73) (fun S78 hI g79 fc80 => ?_)
        have d_x1 := d_x1.trans (fri_at fc80 (by decide) (by decide) o_v0).symm
        have ea74 := (frr_at fc80 (by decide) (by decide) o_v0).trans ea74
        have ea75 := (frr_at fc80 (by decide) (by decide) o_v0).trans ea75
        have ea76 := (frr_at fc80 (by decide) (by decide) o_v0).trans ea76
        have f0 := fri_tr g0 f0 fc80 (by decide) (by decide)
        have o_a74 := gr_ob g79 o_a74
        have o_a75 := gr_ob g79 o_a75
        have o_a76 := gr_ob g79 o_a76
        have o_v0 := gr_ob g79 o_v0
        have g0 := gr_tr g0 g79
        intro _
        refine i_X9_off_62 (fun (y0 : Nat) (y2 : Int32) (y4 : Int32) (y6 : Int32) (y7 : Int32) (Z : HS) => ((2147483647 : Int32).toInt - y7.toInt).toNat) (fun (y0 : Nat) (y2 : Int32) (y4 : Int32) (y6 : Int32) (y7 : Int32) (Z : HS) => (S78 = Z) ∧ (v0 = y0) ∧ (v2 = y2) ∧ (v4 = y4) ∧ (0 ≤ y7)) ?_ _ _ _ _ _ _ ⟨rfl, rfl, rfl, rfl, (q1162 p_x1 c5 c6 c73)⟩
        intro w84 w86 w88 w90 w91 S81 X92 ⟨eS81, q85, q87, q89, i1⟩ ih93
        subst q85
        subst q87
        subst q89
        subst eS81
        refine u_X9_off_62 ?_
        refine ⟨fun c94 => ?_, fun c94 => ?_⟩
        · refine ⟨fun c95 => ?_, fun c95 => ?_⟩
          · exact hq _ _ hI g0 f0
          · refine ⟨o_v0, ?_⟩
            refine u_X9_refuse ?_
            refine u_X9_refuse_0 ?_
            refine ⟨o_v0, ?_⟩
            have hI := iv_sI (j := 9) (v := (6 : Int32)) hI o_v0 (by decide) (nu_free (by decide))
            have f0 : FRI _ _ _ (sI S78 v0 9 (6 : Int32)) := fri_sI g0 f0 o_v0 (by decide)
            obtain ⟨y96, hy96⟩ : ∃ z : Int32, z = (6 : Int32) := ⟨_, rfl⟩
            have d_y96 : y96 = fI (sI S78 v0 9 (6 : Int32)) v0 9 := hy96.trans (u2_self _ _ _ _).symm
            intro _
            exact hq _ _ hI g0 f0
        · refine ⟨fun c97 => ?_, fun c97 => ?_⟩
          · refine u_X9_off_99 ?_
            refine u_X9_off_104 ?_
            refine ⟨o_v0, ?_⟩
            refine ⟨a74, ea74, ?_⟩
            refine ⟨o_a74, ?_⟩
            refine m_X7_isOpen hI o_a74 (fun x99 S100 hI2 g101 b_x99 p_x99 => ?_)
            subst p_x99
            intro _ _
            have bb_x99 : x99 = 0 ∨ x99 = 1 := b_x99
            refine ⟨fun c103 => ?_, fun c103 => ?_⟩
            · refine u_X9_off_128 ?_
              intro x104 ex104
              exact ih93 _ _ _ _ _ _ ⟨rfl, rfl, rfl, rfl, (q1163 p_x1 c5 c6 c73 i1 c94 c97 bb_x99 c103 ex104)⟩ (mu_up (q1164 p_x1 c5 c6 c73 i1 c94 c97 bb_x99 c103 ex104) (q1165 p_x1 c5 c6 c73 i1 c94 c97 bb_x99 c103 ex104))
            · refine ⟨fun c105 => ?_, fun c105 => ?_⟩
              · refine u_X9_off_128 ?_
                intro x106 ex106
                exact ih93 _ _ _ _ _ _ ⟨rfl, rfl, rfl, rfl, (q1166 p_x1 c5 c6 c73 i1 c94 c97 bb_x99 c103 c105 ex106)⟩ (mu_up (q1167 p_x1 c5 c6 c73 i1 c94 c97 bb_x99 c103 c105 ex106) (q1168 p_x1 c5 c6 c73 i1 c94 c97 bb_x99 c103 c105 ex106))
              · refine u_X9_off_128 ?_
                intro x107 ex107
                exact ih93 _ _ _ _ _ _ ⟨rfl, rfl, rfl, rfl, (q1169 p_x1 c5 c6 c73 i1 c94 c97 bb_x99 c103 ex107)⟩ (mu_up (q1170 p_x1 c5 c6 c73 i1 c94 c97 bb_x99 c103 ex107) (q1171 p_x1 c5 c6 c73 i1 c94 c97 bb_x99 c103 ex107))
          · refine ⟨o_v0, ?_⟩
            refine ⟨a74, ea74, ?_⟩
            refine ⟨o_a74, ?_⟩
            refine m_X7_meanFrom hI o_a74 (fun x109 S110 hI2 g111 p_x109 => ?_)
            subst p_x109
            intro _
            refine ⟨a74, ea74, ?_⟩
            refine ⟨o_a74, ?_⟩
            refine m_X7_meanFrom hI o_a74 (fun x114 S115 hI2 g116 p_x114 => ?_)
            subst p_x114
            intro _
            refine ⟨fun c118 => ?_, fun c118 => ?_⟩
            · refine u_X9_off_104 ?_
              refine ⟨o_v0, ?_⟩
              refine ⟨a74, ea74, ?_⟩
              refine ⟨o_a74, ?_⟩
              refine m_X7_isOpen hI o_a74 (fun x120 S121 hI2 g122 b_x120 p_x120 => ?_)
              subst p_x120
              intro _ _
              have bb_x120 : x120 = 0 ∨ x120 = 1 := b_x120
              refine ⟨fun c124 => ?_, fun c124 => ?_⟩
              · refine u_X9_off_128 ?_
                intro x125 ex125
                exact ih93 _ _ _ _ _ _ ⟨rfl, rfl, rfl, rfl, (q1172 p_x1 c5 c6 c73 i1 c94 c97 c118 bb_x120 c124 ex125)⟩ (mu_up (q1173 p_x1 c5 c6 c73 i1 c94 c97 c118 bb_x120 c124 ex125) (q1174 p_x1 c5 c6 c73 i1 c94 c97 c118 bb_x120 c124 ex125))
              · refine ⟨fun c126 => ?_, fun c126 => ?_⟩
                · refine u_X9_off_128 ?_
                  intro x127 ex127
                  exact ih93 _ _ _ _ _ _ ⟨rfl, rfl, rfl, rfl, (q1175 p_x1 c5 c6 c73 i1 c94 c97 c118 bb_x120 c124 ex127)⟩ (mu_up (q1176 p_x1 c5 c6 c73 i1 c94 c97 c118 bb_x120 c124 ex127) (q1177 p_x1 c5 c6 c73 i1 c94 c97 c118 bb_x120 c124 ex127))
                · refine u_X9_off_128 ?_
                  intro x128 ex128
                  exact ih93 _ _ _ _ _ _ ⟨rfl, rfl, rfl, rfl, (q1178 p_x1 c5 c6 c73 i1 c94 c97 c118 bb_x120 c124 c126 ex128)⟩ (mu_up (q1179 p_x1 c5 c6 c73 i1 c94 c97 c118 bb_x120 c124 c126 ex128) (q1180 p_x1 c5 c6 c73 i1 c94 c97 c118 bb_x120 c124 c126 ex128))
            · refine u_X9_off_99 ?_
              refine u_X9_off_104 ?_
              refine ⟨o_v0, ?_⟩
              refine ⟨a74, ea74, ?_⟩
              refine ⟨o_a74, ?_⟩
              refine m_X7_isOpen hI o_a74 (fun x130 S131 hI2 g132 b_x130 p_x130 => ?_)
              subst p_x130
              intro _ _
              have bb_x130 : x130 = 0 ∨ x130 = 1 := b_x130
              refine ⟨fun c134 => ?_, fun c134 => ?_⟩
              · refine u_X9_off_128 ?_
                intro x135 ex135
                exact ih93 _ _ _ _ _ _ ⟨rfl, rfl, rfl, rfl, (q1181 p_x1 c5 c6 c73 i1 c94 c97 c118 bb_x130 c134 ex135)⟩ (mu_up (q1182 p_x1 c5 c6 c73 i1 c94 c97 c118 bb_x130 c134 ex135) (q1183 p_x1 c5 c6 c73 i1 c94 c97 c118 bb_x130 c134 ex135))
              · refine ⟨fun c136 => ?_, fun c136 => ?_⟩
                · refine u_X9_off_128 ?_
                  intro x137 ex137
                  exact ih93 _ _ _ _ _ _ ⟨rfl, rfl, rfl, rfl, (q1184 p_x1 c5 c6 c73 i1 c94 c97 c118 bb_x130 c134 c136 ex137)⟩ (mu_up (q1185 p_x1 c5 c6 c73 i1 c94 c97 c118 bb_x130 c134 c136 ex137) (q1186 p_x1 c5 c6 c73 i1 c94 c97 c118 bb_x130 c134 c136 ex137))
                · refine u_X9_off_128 ?_
                  intro x138 ex138
                  exact ih93 _ _ _ _ _ _ ⟨rfl, rfl, rfl, rfl, (q1187 p_x1 c5 c6 c73 i1 c94 c97 c118 bb_x130 c134 ex138)⟩ (mu_up (q1188 p_x1 c5 c6 c73 i1 c94 c97 c118 bb_x130 c134 ex138) (q1189 p_x1 c5 c6 c73 i1 c94 c97 c118 bb_x130 c134 ex138))
      · exact hq _ _ hI g0 f0
  · refine m_X9_isTill hI (fun x139 S140 hI2 g141 b_x139 p_x139 => ?_)
    obtain ⟨z_S140, p_x139⟩ := p_x139
    subst z_S140
    intro _ _
    have bb_x139 : x139 = 0 ∨ x139 = 1 := b_x139
    refine ⟨fun c143 => ?_, fun c143 => ?_⟩
    · refine u_X9_off_25 ?_
      refine ⟨o_v0, ?_⟩
      refine u_X9_refusedBy ?_
      refine u_X9_refusedBy_0 ?_
      refine ⟨o_v0, ?_⟩
      have hI := iv_sI (j := 9) (v := x1) hI o_v0 (by decide) (nu_free (by decide))
      have f0 : FRI _ _ _ (sI S v0 9 x1) := fri_sI g0 f0 o_v0 (by decide)
      have d_x1 : x1 = fI (sI S v0 9 x1) v0 9 := (u2_self _ _ _ _).symm
      refine ⟨fun c144 => ?_, fun c144 => ?_⟩
      · intro _ _
        refine ⟨fun c145 => ?_, fun c145 => ?_⟩
        · obtain ⟨a146, ea146, o_a146, -⟩ := sh 4 rfl hI o_v0
          refine ⟨a146, ea146, ?_⟩
          obtain ⟨a147, ea147, o_a147, -⟩ := sh 1 rfl hI o_v0
          refine ⟨a147, ea147, ?_⟩
          obtain ⟨a148, ea148, o_a148, -⟩ := sh 3 rfl hI o_v0
          refine ⟨a148, ea148, ?_⟩
          refine ⟨o_a146, ?_⟩
          refine m_X7_reckon hI o_a146 o_a147 o_a148 (q1190 p_x1 c5 p_x139 bb_x139 c143 c144) (fun S150 hI g151 fc152 => ?_)
          have d_x1 := d_x1.trans (fri_at fc152 (by decide) (by decide) o_v0).symm
          have ea146 := (frr_at fc152 (by decide) (by decide) o_v0).trans ea146
          have ea147 := (frr_at fc152 (by decide) (by decide) o_v0).trans ea147
          have ea148 := (frr_at fc152 (by decide) (by decide) o_v0).trans ea148
          have f0 := fri_tr g0 f0 fc152 (by decide) (by decide)
          have o_a146 := gr_ob g151 o_a146
          have o_a147 := gr_ob g151 o_a147
          have o_a148 := gr_ob g151 o_a148
          have o_v0 := gr_ob g151 o_v0
          have g0 := gr_tr g0 g151
          intro _
          refine i_X9_off_62 (fun (y0 : Nat) (y2 : Int32) (y4 : Int32) (y6 : Int32) (y7 : Int32) (Z : HS) => ((2147483647 : Int32).toInt - y7.toInt).toNat) (fun (y0 : Nat) (y2 : Int32) (y4 : Int32) (y6 : Int32) (y7 : Int32) (Z : HS) => (S150 = Z) ∧ (v0 = y0) ∧ (v2 = y2) ∧ (v4 = y4) ∧ (0 ≤ y7)) ?_ _ _ _ _ _ _ ⟨rfl, rfl, rfl, rfl, (q1191 p_x1 c5 p_x139 bb_x139 c143 c144)⟩
          intro w156 w158 w160 w162 w163 S153 X164 ⟨eS153, q157, q159, q161, i1⟩ ih165
          subst q157
          subst q159
          subst q161
          subst eS153
          refine u_X9_off_62 ?_
          refine ⟨fun c166 => ?_, fun c166 => ?_⟩
          · refine ⟨fun c167 => ?_, fun c167 => ?_⟩
            · exact hq _ _ hI g0 f0
            · refine ⟨o_v0, ?_⟩
              refine u_X9_refuse ?_
              refine u_X9_refuse_0 ?_
              refine ⟨o_v0, ?_⟩
              have hI := iv_sI (j := 9) (v := (6 : Int32)) hI o_v0 (by decide) (nu_free (by decide))
              have f0 : FRI _ _ _ (sI S150 v0 9 (6 : Int32)) := fri_sI g0 f0 o_v0 (by decide)
              obtain ⟨y168, hy168⟩ : ∃ z : Int32, z = (6 : Int32) := ⟨_, rfl⟩
              have d_y168 : y168 = fI (sI S150 v0 9 (6 : Int32)) v0 9 := hy168.trans (u2_self _ _ _ _).symm
              intro _
              exact hq _ _ hI g0 f0
          · refine ⟨fun c169 => ?_, fun c169 => ?_⟩
            · refine u_X9_off_99 ?_
              refine u_X9_off_104 ?_
              refine ⟨o_v0, ?_⟩
              refine ⟨a146, ea146, ?_⟩
              refine ⟨o_a146, ?_⟩
              refine m_X7_isOpen hI o_a146 (fun x171 S172 hI2 g173 b_x171 p_x171 => ?_)
              subst p_x171
              intro _ _
              have bb_x171 : x171 = 0 ∨ x171 = 1 := b_x171
              refine ⟨fun c175 => ?_, fun c175 => ?_⟩
              · refine u_X9_off_128 ?_
                intro x176 ex176
                exact ih165 _ _ _ _ _ _ ⟨rfl, rfl, rfl, rfl, (q1192 p_x1 c5 p_x139 bb_x139 c143 c144 i1 c166 c169 bb_x171 c175 ex176)⟩ (mu_up (q1193 p_x1 c5 p_x139 bb_x139 c143 c144 i1 c166 c169 bb_x171 c175 ex176) (q1194 p_x1 c5 p_x139 bb_x139 c143 c144 i1 c166 c169 bb_x171 c175 ex176))
              · refine ⟨fun c177 => ?_, fun c177 => ?_⟩
                · refine u_X9_off_128 ?_
                  intro x178 ex178
                  exact ih165 _ _ _ _ _ _ ⟨rfl, rfl, rfl, rfl, (q1195 p_x1 c5 p_x139 bb_x139 c143 c144 i1 c166 c169 bb_x171 c175 c177 ex178)⟩ (mu_up (q1196 p_x1 c5 p_x139 bb_x139 c143 c144 i1 c166 c169 bb_x171 c175 c177 ex178) (q1197 p_x1 c5 p_x139 bb_x139 c143 c144 i1 c166 c169 bb_x171 c175 c177 ex178))
                · refine u_X9_off_128 ?_
                  intro x179 ex179
                  exact ih165 _ _ _ _ _ _ ⟨rfl, rfl, rfl, rfl, (q1198 p_x1 c5 p_x139 bb_x139 c143 c144 i1 c166 c169 bb_x171 c175 ex179)⟩ (mu_up (q1199 p_x1 c5 p_x139 bb_x139 c143 c144 i1 c166 c169 bb_x171 c175 ex179) (q1200 p_x1 c5 p_x139 bb_x139 c143 c144 i1 c166 c169 bb_x171 c175 ex179))
            · refine ⟨o_v0, ?_⟩
              refine ⟨a146, ea146, ?_⟩
              refine ⟨o_a146, ?_⟩
              refine m_X7_meanFrom hI o_a146 (fun x181 S182 hI2 g183 p_x181 => ?_)
              subst p_x181
              intro _
              refine ⟨a146, ea146, ?_⟩
              refine ⟨o_a146, ?_⟩
              refine m_X7_meanFrom hI o_a146 (fun x186 S187 hI2 g188 p_x186 => ?_)
              subst p_x186
              intro _
              refine ⟨fun c190 => ?_, fun c190 => ?_⟩
              · refine u_X9_off_104 ?_
                refine ⟨o_v0, ?_⟩
                refine ⟨a146, ea146, ?_⟩
                refine ⟨o_a146, ?_⟩
                refine m_X7_isOpen hI o_a146 (fun x192 S193 hI2 g194 b_x192 p_x192 => ?_)
                subst p_x192
                intro _ _
                have bb_x192 : x192 = 0 ∨ x192 = 1 := b_x192
                refine ⟨fun c196 => ?_, fun c196 => ?_⟩
                · refine u_X9_off_128 ?_
                  intro x197 ex197
                  exact ih165 _ _ _ _ _ _ ⟨rfl, rfl, rfl, rfl, (q1201 p_x1 c5 p_x139 bb_x139 c143 c144 i1 c166 c169 c190 bb_x192 c196 ex197)⟩ (mu_up (q1202 p_x1 c5 p_x139 bb_x139 c143 c144 i1 c166 c169 c190 bb_x192 c196 ex197) (q1203 p_x1 c5 p_x139 bb_x139 c143 c144 i1 c166 c169 c190 bb_x192 c196 ex197))
                · refine ⟨fun c198 => ?_, fun c198 => ?_⟩
                  · refine u_X9_off_128 ?_
                    intro x199 ex199
                    exact ih165 _ _ _ _ _ _ ⟨rfl, rfl, rfl, rfl, (q1204 p_x1 c5 p_x139 bb_x139 c143 c144 i1 c166 c169 c190 bb_x192 c196 ex199)⟩ (mu_up (q1205 p_x1 c5 p_x139 bb_x139 c143 c144 i1 c166 c169 c190 bb_x192 c196 ex199) (q1206 p_x1 c5 p_x139 bb_x139 c143 c144 i1 c166 c169 c190 bb_x192 c196 ex199))
                  · refine u_X9_off_128 ?_
                    intro x200 ex200
                    exact ih165 _ _ _ _ _ _ ⟨rfl, rfl, rfl, rfl, (q1207 p_x1 c5 p_x139 bb_x139 c143 c144 i1 c166 c169 c190 bb_x192 c196 c198 ex200)⟩ (mu_up (q1208 p_x1 c5 p_x139 bb_x139 c143 c144 i1 c166 c169 c190 bb_x192 c196 c198 ex200) (q1209 p_x1 c5 p_x139 bb_x139 c143 c144 i1 c166 c169 c190 bb_x192 c196 c198 ex200))
              · refine u_X9_off_99 ?_
                refine u_X9_off_104 ?_
                refine ⟨o_v0, ?_⟩
                refine ⟨a146, ea146, ?_⟩
                refine ⟨o_a146, ?_⟩
                refine m_X7_isOpen hI o_a146 (fun x202 S203 hI2 g204 b_x202 p_x202 => ?_)
                subst p_x202
                intro _ _
                have bb_x202 : x202 = 0 ∨ x202 = 1 := b_x202
                refine ⟨fun c206 => ?_, fun c206 => ?_⟩
                · refine u_X9_off_128 ?_
                  intro x207 ex207
                  exact ih165 _ _ _ _ _ _ ⟨rfl, rfl, rfl, rfl, (q1210 p_x1 c5 p_x139 bb_x139 c143 c144 i1 c166 c169 c190 bb_x202 c206 ex207)⟩ (mu_up (q1211 p_x1 c5 p_x139 bb_x139 c143 c144 i1 c166 c169 c190 bb_x202 c206 ex207) (q1212 p_x1 c5 p_x139 bb_x139 c143 c144 i1 c166 c169 c190 bb_x202 c206 ex207))
                · refine ⟨fun c208 => ?_, fun c208 => ?_⟩
                  · refine u_X9_off_128 ?_
                    intro x209 ex209
                    exact ih165 _ _ _ _ _ _ ⟨rfl, rfl, rfl, rfl, (q1213 p_x1 c5 p_x139 bb_x139 c143 c144 i1 c166 c169 c190 bb_x202 c206 c208 ex209)⟩ (mu_up (q1214 p_x1 c5 p_x139 bb_x139 c143 c144 i1 c166 c169 c190 bb_x202 c206 c208 ex209) (q1215 p_x1 c5 p_x139 bb_x139 c143 c144 i1 c166 c169 c190 bb_x202 c206 c208 ex209))
                  · refine u_X9_off_128 ?_
                    intro x210 ex210
                    exact ih165 _ _ _ _ _ _ ⟨rfl, rfl, rfl, rfl, (q1216 p_x1 c5 p_x139 bb_x139 c143 c144 i1 c166 c169 c190 bb_x202 c206 ex210)⟩ (mu_up (q1217 p_x1 c5 p_x139 bb_x139 c143 c144 i1 c166 c169 c190 bb_x202 c206 ex210) (q1218 p_x1 c5 p_x139 bb_x139 c143 c144 i1 c166 c169 c190 bb_x202 c206 ex210))
        · exact hq _ _ hI g0 f0
      · intro _ _
        refine ⟨fun c211 => ?_, fun c211 => ?_⟩
        · obtain ⟨a212, ea212, o_a212, -⟩ := sh 4 rfl hI o_v0
          refine ⟨a212, ea212, ?_⟩
          obtain ⟨a213, ea213, o_a213, -⟩ := sh 1 rfl hI o_v0
          refine ⟨a213, ea213, ?_⟩
          obtain ⟨a214, ea214, o_a214, -⟩ := sh 3 rfl hI o_v0
          refine ⟨a214, ea214, ?_⟩
          refine ⟨o_a212, ?_⟩
          refine m_X7_reckon hI o_a212 o_a213 o_a214 (q1219 p_x1 c5 p_x139 bb_x139 c143 c144 c211) (fun S216 hI g217 fc218 => ?_)
          have d_x1 := d_x1.trans (fri_at fc218 (by decide) (by decide) o_v0).symm
          have ea212 := (frr_at fc218 (by decide) (by decide) o_v0).trans ea212
          have ea213 := (frr_at fc218 (by decide) (by decide) o_v0).trans ea213
          have ea214 := (frr_at fc218 (by decide) (by decide) o_v0).trans ea214
          have f0 := fri_tr g0 f0 fc218 (by decide) (by decide)
          have o_a212 := gr_ob g217 o_a212
          have o_a213 := gr_ob g217 o_a213
          have o_a214 := gr_ob g217 o_a214
          have o_v0 := gr_ob g217 o_v0
          have g0 := gr_tr g0 g217
          intro _
          refine i_X9_off_62 (fun (y0 : Nat) (y2 : Int32) (y4 : Int32) (y6 : Int32) (y7 : Int32) (Z : HS) => ((2147483647 : Int32).toInt - y7.toInt).toNat) (fun (y0 : Nat) (y2 : Int32) (y4 : Int32) (y6 : Int32) (y7 : Int32) (Z : HS) => (S216 = Z) ∧ (v0 = y0) ∧ (v2 = y2) ∧ (v4 = y4) ∧ (0 ≤ y7)) ?_ _ _ _ _ _ _ ⟨rfl, rfl, rfl, rfl, (q1220 p_x1 c5 p_x139 bb_x139 c143 c144 c211)⟩
          intro w222 w224 w226 w228 w229 S219 X230 ⟨eS219, q223, q225, q227, i1⟩ ih231
          subst q223
          subst q225
          subst q227
          subst eS219
          refine u_X9_off_62 ?_
          refine ⟨fun c232 => ?_, fun c232 => ?_⟩
          · refine ⟨fun c233 => ?_, fun c233 => ?_⟩
            · exact hq _ _ hI g0 f0
            · refine ⟨o_v0, ?_⟩
              refine u_X9_refuse ?_
              refine u_X9_refuse_0 ?_
              refine ⟨o_v0, ?_⟩
              have hI := iv_sI (j := 9) (v := (6 : Int32)) hI o_v0 (by decide) (nu_free (by decide))
              have f0 : FRI _ _ _ (sI S216 v0 9 (6 : Int32)) := fri_sI g0 f0 o_v0 (by decide)
              obtain ⟨y234, hy234⟩ : ∃ z : Int32, z = (6 : Int32) := ⟨_, rfl⟩
              have d_y234 : y234 = fI (sI S216 v0 9 (6 : Int32)) v0 9 := hy234.trans (u2_self _ _ _ _).symm
              intro _
              exact hq _ _ hI g0 f0
          · refine ⟨fun c235 => ?_, fun c235 => ?_⟩
            · refine u_X9_off_99 ?_
              refine u_X9_off_104 ?_
              refine ⟨o_v0, ?_⟩
              refine ⟨a212, ea212, ?_⟩
              refine ⟨o_a212, ?_⟩
              refine m_X7_isOpen hI o_a212 (fun x237 S238 hI2 g239 b_x237 p_x237 => ?_)
              subst p_x237
              intro _ _
              have bb_x237 : x237 = 0 ∨ x237 = 1 := b_x237
              refine ⟨fun c241 => ?_, fun c241 => ?_⟩
              · refine u_X9_off_128 ?_
                intro x242 ex242
                exact ih231 _ _ _ _ _ _ ⟨rfl, rfl, rfl, rfl, (q1221 p_x1 c5 p_x139 bb_x139 c143 c144 c211 i1 c232 c235 bb_x237 c241 ex242)⟩ (mu_up (q1222 p_x1 c5 p_x139 bb_x139 c143 c144 c211 i1 c232 c235 bb_x237 c241 ex242) (q1223 p_x1 c5 p_x139 bb_x139 c143 c144 c211 i1 c232 c235 bb_x237 c241 ex242))
              · refine ⟨fun c243 => ?_, fun c243 => ?_⟩
                · refine u_X9_off_128 ?_
                  intro x244 ex244
                  exact ih231 _ _ _ _ _ _ ⟨rfl, rfl, rfl, rfl, (q1224 p_x1 c5 p_x139 bb_x139 c143 c144 c211 i1 c232 c235 bb_x237 c241 c243 ex244)⟩ (mu_up (q1225 p_x1 c5 p_x139 bb_x139 c143 c144 c211 i1 c232 c235 bb_x237 c241 c243 ex244) (q1226 p_x1 c5 p_x139 bb_x139 c143 c144 c211 i1 c232 c235 bb_x237 c241 c243 ex244))
                · refine u_X9_off_128 ?_
                  intro x245 ex245
                  exact ih231 _ _ _ _ _ _ ⟨rfl, rfl, rfl, rfl, (q1227 p_x1 c5 p_x139 bb_x139 c143 c144 c211 i1 c232 c235 bb_x237 c241 ex245)⟩ (mu_up (q1228 p_x1 c5 p_x139 bb_x139 c143 c144 c211 i1 c232 c235 bb_x237 c241 ex245) (q1229 p_x1 c5 p_x139 bb_x139 c143 c144 c211 i1 c232 c235 bb_x237 c241 ex245))
            · refine ⟨o_v0, ?_⟩
              refine ⟨a212, ea212, ?_⟩
              refine ⟨o_a212, ?_⟩
              refine m_X7_meanFrom hI o_a212 (fun x247 S248 hI2 g249 p_x247 => ?_)
              subst p_x247
              intro _
              refine ⟨a212, ea212, ?_⟩
              refine ⟨o_a212, ?_⟩
              refine m_X7_meanFrom hI o_a212 (fun x252 S253 hI2 g254 p_x252 => ?_)
              subst p_x252
              intro _
              refine ⟨fun c256 => ?_, fun c256 => ?_⟩
              · refine u_X9_off_104 ?_
                refine ⟨o_v0, ?_⟩
                refine ⟨a212, ea212, ?_⟩
                refine ⟨o_a212, ?_⟩
                refine m_X7_isOpen hI o_a212 (fun x258 S259 hI2 g260 b_x258 p_x258 => ?_)
                subst p_x258
                intro _ _
                have bb_x258 : x258 = 0 ∨ x258 = 1 := b_x258
                refine ⟨fun c262 => ?_, fun c262 => ?_⟩
                · refine u_X9_off_128 ?_
                  intro x263 ex263
                  exact ih231 _ _ _ _ _ _ ⟨rfl, rfl, rfl, rfl, (q1230 p_x1 c5 p_x139 bb_x139 c143 c144 c211 i1 c232 c235 c256 bb_x258 c262 ex263)⟩ (mu_up (q1231 p_x1 c5 p_x139 bb_x139 c143 c144 c211 i1 c232 c235 c256 bb_x258 c262 ex263) (q1232 p_x1 c5 p_x139 bb_x139 c143 c144 c211 i1 c232 c235 c256 bb_x258 c262 ex263))
                · refine ⟨fun c264 => ?_, fun c264 => ?_⟩
                  · refine u_X9_off_128 ?_
                    intro x265 ex265
                    exact ih231 _ _ _ _ _ _ ⟨rfl, rfl, rfl, rfl, (q1233 p_x1 c5 p_x139 bb_x139 c143 c144 c211 i1 c232 c235 c256 bb_x258 c262 ex265)⟩ (mu_up (q1234 p_x1 c5 p_x139 bb_x139 c143 c144 c211 i1 c232 c235 c256 bb_x258 c262 ex265) (q1235 p_x1 c5 p_x139 bb_x139 c143 c144 c211 i1 c232 c235 c256 bb_x258 c262 ex265))
                  · refine u_X9_off_128 ?_
                    intro x266 ex266
                    exact ih231 _ _ _ _ _ _ ⟨rfl, rfl, rfl, rfl, (q1236 p_x1 c5 p_x139 bb_x139 c143 c144 c211 i1 c232 c235 c256 bb_x258 c262 c264 ex266)⟩ (mu_up (q1237 p_x1 c5 p_x139 bb_x139 c143 c144 c211 i1 c232 c235 c256 bb_x258 c262 c264 ex266) (q1238 p_x1 c5 p_x139 bb_x139 c143 c144 c211 i1 c232 c235 c256 bb_x258 c262 c264 ex266))
              · refine u_X9_off_99 ?_
                refine u_X9_off_104 ?_
                refine ⟨o_v0, ?_⟩
                refine ⟨a212, ea212, ?_⟩
                refine ⟨o_a212, ?_⟩
                refine m_X7_isOpen hI o_a212 (fun x268 S269 hI2 g270 b_x268 p_x268 => ?_)
                subst p_x268
                intro _ _
                have bb_x268 : x268 = 0 ∨ x268 = 1 := b_x268
                refine ⟨fun c272 => ?_, fun c272 => ?_⟩
                · refine u_X9_off_128 ?_
                  intro x273 ex273
                  exact ih231 _ _ _ _ _ _ ⟨rfl, rfl, rfl, rfl, (q1239 p_x1 c5 p_x139 bb_x139 c143 c144 c211 i1 c232 c235 c256 bb_x268 c272 ex273)⟩ (mu_up (q1240 p_x1 c5 p_x139 bb_x139 c143 c144 c211 i1 c232 c235 c256 bb_x268 c272 ex273) (q1241 p_x1 c5 p_x139 bb_x139 c143 c144 c211 i1 c232 c235 c256 bb_x268 c272 ex273))
                · refine ⟨fun c274 => ?_, fun c274 => ?_⟩
                  · refine u_X9_off_128 ?_
                    intro x275 ex275
                    exact ih231 _ _ _ _ _ _ ⟨rfl, rfl, rfl, rfl, (q1242 p_x1 c5 p_x139 bb_x139 c143 c144 c211 i1 c232 c235 c256 bb_x268 c272 c274 ex275)⟩ (mu_up (q1243 p_x1 c5 p_x139 bb_x139 c143 c144 c211 i1 c232 c235 c256 bb_x268 c272 c274 ex275) (q1244 p_x1 c5 p_x139 bb_x139 c143 c144 c211 i1 c232 c235 c256 bb_x268 c272 c274 ex275))
                  · refine u_X9_off_128 ?_
                    intro x276 ex276
                    exact ih231 _ _ _ _ _ _ ⟨rfl, rfl, rfl, rfl, (q1245 p_x1 c5 p_x139 bb_x139 c143 c144 c211 i1 c232 c235 c256 bb_x268 c272 ex276)⟩ (mu_up (q1246 p_x1 c5 p_x139 bb_x139 c143 c144 c211 i1 c232 c235 c256 bb_x268 c272 ex276) (q1247 p_x1 c5 p_x139 bb_x139 c143 c144 c211 i1 c232 c235 c256 bb_x268 c272 ex276))
        · exact hq _ _ hI g0 f0
    · refine u_X9_off_25 ?_
      refine ⟨o_v0, ?_⟩
      refine u_X9_refusedBy ?_
      refine u_X9_refusedBy_0 ?_
      refine ⟨o_v0, ?_⟩
      have hI := iv_sI (j := 9) (v := (2 : Int32)) hI o_v0 (by decide) (nu_free (by decide))
      have f0 : FRI _ _ _ (sI S v0 9 (2 : Int32)) := fri_sI g0 f0 o_v0 (by decide)
      obtain ⟨y277, hy277⟩ : ∃ z : Int32, z = (2 : Int32) := ⟨_, rfl⟩
      have d_y277 : y277 = fI (sI S v0 9 (2 : Int32)) v0 9 := hy277.trans (u2_self _ _ _ _).symm
      refine ⟨fun c278 => ?_, fun c278 => ?_⟩
      · intro _ _
        refine ⟨fun c279 => ?_, fun c279 => ?_⟩
        · obtain ⟨a280, ea280, o_a280, -⟩ := sh 4 rfl hI o_v0
          refine ⟨a280, ea280, ?_⟩
          obtain ⟨a281, ea281, o_a281, -⟩ := sh 1 rfl hI o_v0
          refine ⟨a281, ea281, ?_⟩
          obtain ⟨a282, ea282, o_a282, -⟩ := sh 3 rfl hI o_v0
          refine ⟨a282, ea282, ?_⟩
          refine ⟨o_a280, ?_⟩
          refine m_X7_reckon hI o_a280 o_a281 o_a282 (q1248 p_x1 c5 p_x139 bb_x139 c143 c278) (fun S284 hI g285 fc286 => ?_)
          have d_y277 := d_y277.trans (fri_at fc286 (by decide) (by decide) o_v0).symm
          have ea280 := (frr_at fc286 (by decide) (by decide) o_v0).trans ea280
          have ea281 := (frr_at fc286 (by decide) (by decide) o_v0).trans ea281
          have ea282 := (frr_at fc286 (by decide) (by decide) o_v0).trans ea282
          have f0 := fri_tr g0 f0 fc286 (by decide) (by decide)
          have o_a280 := gr_ob g285 o_a280
          have o_a281 := gr_ob g285 o_a281
          have o_a282 := gr_ob g285 o_a282
          have o_v0 := gr_ob g285 o_v0
          have g0 := gr_tr g0 g285
          intro _
          refine i_X9_off_62 (fun (y0 : Nat) (y2 : Int32) (y4 : Int32) (y6 : Int32) (y7 : Int32) (Z : HS) => ((2147483647 : Int32).toInt - y7.toInt).toNat) (fun (y0 : Nat) (y2 : Int32) (y4 : Int32) (y6 : Int32) (y7 : Int32) (Z : HS) => (S284 = Z) ∧ (v0 = y0) ∧ (v2 = y2) ∧ (v4 = y4) ∧ (0 ≤ y7)) ?_ _ _ _ _ _ _ ⟨rfl, rfl, rfl, rfl, (q1249 p_x1 c5 p_x139 bb_x139 c143 c278)⟩
          intro w290 w292 w294 w296 w297 S287 X298 ⟨eS287, q291, q293, q295, i1⟩ ih299
          subst q291
          subst q293
          subst q295
          subst eS287
          refine u_X9_off_62 ?_
          refine ⟨fun c300 => ?_, fun c300 => ?_⟩
          · refine ⟨fun c301 => ?_, fun c301 => ?_⟩
            · exact hq _ _ hI g0 f0
            · refine ⟨o_v0, ?_⟩
              refine u_X9_refuse ?_
              refine u_X9_refuse_0 ?_
              refine ⟨o_v0, ?_⟩
              have hI := iv_sI (j := 9) (v := (6 : Int32)) hI o_v0 (by decide) (nu_free (by decide))
              have f0 : FRI _ _ _ (sI S284 v0 9 (6 : Int32)) := fri_sI g0 f0 o_v0 (by decide)
              obtain ⟨y302, hy302⟩ : ∃ z : Int32, z = (6 : Int32) := ⟨_, rfl⟩
              have d_y302 : y302 = fI (sI S284 v0 9 (6 : Int32)) v0 9 := hy302.trans (u2_self _ _ _ _).symm
              intro _
              exact hq _ _ hI g0 f0
          · refine ⟨fun c303 => ?_, fun c303 => ?_⟩
            · refine u_X9_off_99 ?_
              refine u_X9_off_104 ?_
              refine ⟨o_v0, ?_⟩
              refine ⟨a280, ea280, ?_⟩
              refine ⟨o_a280, ?_⟩
              refine m_X7_isOpen hI o_a280 (fun x305 S306 hI2 g307 b_x305 p_x305 => ?_)
              subst p_x305
              intro _ _
              have bb_x305 : x305 = 0 ∨ x305 = 1 := b_x305
              refine ⟨fun c309 => ?_, fun c309 => ?_⟩
              · refine u_X9_off_128 ?_
                intro x310 ex310
                exact ih299 _ _ _ _ _ _ ⟨rfl, rfl, rfl, rfl, (q1250 p_x1 c5 p_x139 bb_x139 c143 c278 i1 c300 c303 bb_x305 c309 ex310)⟩ (mu_up (q1251 p_x1 c5 p_x139 bb_x139 c143 c278 i1 c300 c303 bb_x305 c309 ex310) (q1252 p_x1 c5 p_x139 bb_x139 c143 c278 i1 c300 c303 bb_x305 c309 ex310))
              · refine ⟨fun c311 => ?_, fun c311 => ?_⟩
                · refine u_X9_off_128 ?_
                  intro x312 ex312
                  exact ih299 _ _ _ _ _ _ ⟨rfl, rfl, rfl, rfl, (q1253 p_x1 c5 p_x139 bb_x139 c143 c278 i1 c300 c303 bb_x305 c309 c311 ex312)⟩ (mu_up (q1254 p_x1 c5 p_x139 bb_x139 c143 c278 i1 c300 c303 bb_x305 c309 c311 ex312) (q1255 p_x1 c5 p_x139 bb_x139 c143 c278 i1 c300 c303 bb_x305 c309 c311 ex312))
                · refine u_X9_off_128 ?_
                  intro x313 ex313
                  exact ih299 _ _ _ _ _ _ ⟨rfl, rfl, rfl, rfl, (q1256 p_x1 c5 p_x139 bb_x139 c143 c278 i1 c300 c303 bb_x305 c309 ex313)⟩ (mu_up (q1257 p_x1 c5 p_x139 bb_x139 c143 c278 i1 c300 c303 bb_x305 c309 ex313) (q1258 p_x1 c5 p_x139 bb_x139 c143 c278 i1 c300 c303 bb_x305 c309 ex313))
            · refine ⟨o_v0, ?_⟩
              refine ⟨a280, ea280, ?_⟩
              refine ⟨o_a280, ?_⟩
              refine m_X7_meanFrom hI o_a280 (fun x315 S316 hI2 g317 p_x315 => ?_)
              subst p_x315
              intro _
              refine ⟨a280, ea280, ?_⟩
              refine ⟨o_a280, ?_⟩
              refine m_X7_meanFrom hI o_a280 (fun x320 S321 hI2 g322 p_x320 => ?_)
              subst p_x320
              intro _
              refine ⟨fun c324 => ?_, fun c324 => ?_⟩
              · refine u_X9_off_104 ?_
                refine ⟨o_v0, ?_⟩
                refine ⟨a280, ea280, ?_⟩
                refine ⟨o_a280, ?_⟩
                refine m_X7_isOpen hI o_a280 (fun x326 S327 hI2 g328 b_x326 p_x326 => ?_)
                subst p_x326
                intro _ _
                have bb_x326 : x326 = 0 ∨ x326 = 1 := b_x326
                refine ⟨fun c330 => ?_, fun c330 => ?_⟩
                · refine u_X9_off_128 ?_
                  intro x331 ex331
                  exact ih299 _ _ _ _ _ _ ⟨rfl, rfl, rfl, rfl, (q1259 p_x1 c5 p_x139 bb_x139 c143 c278 i1 c300 c303 c324 bb_x326 c330 ex331)⟩ (mu_up (q1260 p_x1 c5 p_x139 bb_x139 c143 c278 i1 c300 c303 c324 bb_x326 c330 ex331) (q1261 p_x1 c5 p_x139 bb_x139 c143 c278 i1 c300 c303 c324 bb_x326 c330 ex331))
                · refine ⟨fun c332 => ?_, fun c332 => ?_⟩
                  · refine u_X9_off_128 ?_
                    intro x333 ex333
                    exact ih299 _ _ _ _ _ _ ⟨rfl, rfl, rfl, rfl, (q1262 p_x1 c5 p_x139 bb_x139 c143 c278 i1 c300 c303 c324 bb_x326 c330 ex333)⟩ (mu_up (q1263 p_x1 c5 p_x139 bb_x139 c143 c278 i1 c300 c303 c324 bb_x326 c330 ex333) (q1264 p_x1 c5 p_x139 bb_x139 c143 c278 i1 c300 c303 c324 bb_x326 c330 ex333))
                  · refine u_X9_off_128 ?_
                    intro x334 ex334
                    exact ih299 _ _ _ _ _ _ ⟨rfl, rfl, rfl, rfl, (q1265 p_x1 c5 p_x139 bb_x139 c143 c278 i1 c300 c303 c324 bb_x326 c330 c332 ex334)⟩ (mu_up (q1266 p_x1 c5 p_x139 bb_x139 c143 c278 i1 c300 c303 c324 bb_x326 c330 c332 ex334) (q1267 p_x1 c5 p_x139 bb_x139 c143 c278 i1 c300 c303 c324 bb_x326 c330 c332 ex334))
              · refine u_X9_off_99 ?_
                refine u_X9_off_104 ?_
                refine ⟨o_v0, ?_⟩
                refine ⟨a280, ea280, ?_⟩
                refine ⟨o_a280, ?_⟩
                refine m_X7_isOpen hI o_a280 (fun x336 S337 hI2 g338 b_x336 p_x336 => ?_)
                subst p_x336
                intro _ _
                have bb_x336 : x336 = 0 ∨ x336 = 1 := b_x336
                refine ⟨fun c340 => ?_, fun c340 => ?_⟩
                · refine u_X9_off_128 ?_
                  intro x341 ex341
                  exact ih299 _ _ _ _ _ _ ⟨rfl, rfl, rfl, rfl, (q1268 p_x1 c5 p_x139 bb_x139 c143 c278 i1 c300 c303 c324 bb_x336 c340 ex341)⟩ (mu_up (q1269 p_x1 c5 p_x139 bb_x139 c143 c278 i1 c300 c303 c324 bb_x336 c340 ex341) (q1270 p_x1 c5 p_x139 bb_x139 c143 c278 i1 c300 c303 c324 bb_x336 c340 ex341))
                · refine ⟨fun c342 => ?_, fun c342 => ?_⟩
                  · refine u_X9_off_128 ?_
                    intro x343 ex343
                    exact ih299 _ _ _ _ _ _ ⟨rfl, rfl, rfl, rfl, (q1271 p_x1 c5 p_x139 bb_x139 c143 c278 i1 c300 c303 c324 bb_x336 c340 c342 ex343)⟩ (mu_up (q1272 p_x1 c5 p_x139 bb_x139 c143 c278 i1 c300 c303 c324 bb_x336 c340 c342 ex343) (q1273 p_x1 c5 p_x139 bb_x139 c143 c278 i1 c300 c303 c324 bb_x336 c340 c342 ex343))
                  · refine u_X9_off_128 ?_
                    intro x344 ex344
                    exact ih299 _ _ _ _ _ _ ⟨rfl, rfl, rfl, rfl, (q1274 p_x1 c5 p_x139 bb_x139 c143 c278 i1 c300 c303 c324 bb_x336 c340 ex344)⟩ (mu_up (q1275 p_x1 c5 p_x139 bb_x139 c143 c278 i1 c300 c303 c324 bb_x336 c340 ex344) (q1276 p_x1 c5 p_x139 bb_x139 c143 c278 i1 c300 c303 c324 bb_x336 c340 ex344))
        · exact hq _ _ hI g0 f0
      · intro _ _
        refine ⟨fun c345 => ?_, fun c345 => ?_⟩
        · obtain ⟨a346, ea346, o_a346, -⟩ := sh 4 rfl hI o_v0
          refine ⟨a346, ea346, ?_⟩
          obtain ⟨a347, ea347, o_a347, -⟩ := sh 1 rfl hI o_v0
          refine ⟨a347, ea347, ?_⟩
          obtain ⟨a348, ea348, o_a348, -⟩ := sh 3 rfl hI o_v0
          refine ⟨a348, ea348, ?_⟩
          refine ⟨o_a346, ?_⟩
          refine m_X7_reckon hI o_a346 o_a347 o_a348 (q1277 p_x1 c5 p_x139 bb_x139 c143 c278 c345) (fun S350 hI g351 fc352 => ?_)
          have d_y277 := d_y277.trans (fri_at fc352 (by decide) (by decide) o_v0).symm
          have ea346 := (frr_at fc352 (by decide) (by decide) o_v0).trans ea346
          have ea347 := (frr_at fc352 (by decide) (by decide) o_v0).trans ea347
          have ea348 := (frr_at fc352 (by decide) (by decide) o_v0).trans ea348
          have f0 := fri_tr g0 f0 fc352 (by decide) (by decide)
          have o_a346 := gr_ob g351 o_a346
          have o_a347 := gr_ob g351 o_a347
          have o_a348 := gr_ob g351 o_a348
          have o_v0 := gr_ob g351 o_v0
          have g0 := gr_tr g0 g351
          intro _
          refine i_X9_off_62 (fun (y0 : Nat) (y2 : Int32) (y4 : Int32) (y6 : Int32) (y7 : Int32) (Z : HS) => ((2147483647 : Int32).toInt - y7.toInt).toNat) (fun (y0 : Nat) (y2 : Int32) (y4 : Int32) (y6 : Int32) (y7 : Int32) (Z : HS) => (S350 = Z) ∧ (v0 = y0) ∧ (v2 = y2) ∧ (v4 = y4) ∧ (0 ≤ y7)) ?_ _ _ _ _ _ _ ⟨rfl, rfl, rfl, rfl, (q1278 p_x1 c5 p_x139 bb_x139 c143 c278 c345)⟩
          intro w356 w358 w360 w362 w363 S353 X364 ⟨eS353, q357, q359, q361, i1⟩ ih365
          subst q357
          subst q359
          subst q361
          subst eS353
          refine u_X9_off_62 ?_
          refine ⟨fun c366 => ?_, fun c366 => ?_⟩
          · refine ⟨fun c367 => ?_, fun c367 => ?_⟩
            · exact hq _ _ hI g0 f0
            · refine ⟨o_v0, ?_⟩
              refine u_X9_refuse ?_
              refine u_X9_refuse_0 ?_
              refine ⟨o_v0, ?_⟩
              have hI := iv_sI (j := 9) (v := (6 : Int32)) hI o_v0 (by decide) (nu_free (by decide))
              have f0 : FRI _ _ _ (sI S350 v0 9 (6 : Int32)) := fri_sI g0 f0 o_v0 (by decide)
              obtain ⟨y368, hy368⟩ : ∃ z : Int32, z = (6 : Int32) := ⟨_, rfl⟩
              have d_y368 : y368 = fI (sI S350 v0 9 (6 : Int32)) v0 9 := hy368.trans (u2_self _ _ _ _).symm
              intro _
              exact hq _ _ hI g0 f0
          · refine ⟨fun c369 => ?_, fun c369 => ?_⟩
            · refine u_X9_off_99 ?_
              refine u_X9_off_104 ?_
              refine ⟨o_v0, ?_⟩
              refine ⟨a346, ea346, ?_⟩
              refine ⟨o_a346, ?_⟩
              refine m_X7_isOpen hI o_a346 (fun x371 S372 hI2 g373 b_x371 p_x371 => ?_)
              subst p_x371
              intro _ _
              have bb_x371 : x371 = 0 ∨ x371 = 1 := b_x371
              refine ⟨fun c375 => ?_, fun c375 => ?_⟩
              · refine u_X9_off_128 ?_
                intro x376 ex376
                exact ih365 _ _ _ _ _ _ ⟨rfl, rfl, rfl, rfl, (q1279 p_x1 c5 p_x139 bb_x139 c143 c278 c345 i1 c366 c369 bb_x371 c375 ex376)⟩ (mu_up (q1280 p_x1 c5 p_x139 bb_x139 c143 c278 c345 i1 c366 c369 bb_x371 c375 ex376) (q1281 p_x1 c5 p_x139 bb_x139 c143 c278 c345 i1 c366 c369 bb_x371 c375 ex376))
              · refine ⟨fun c377 => ?_, fun c377 => ?_⟩
                · refine u_X9_off_128 ?_
                  intro x378 ex378
                  exact ih365 _ _ _ _ _ _ ⟨rfl, rfl, rfl, rfl, (q1282 p_x1 c5 p_x139 bb_x139 c143 c278 c345 i1 c366 c369 bb_x371 c375 c377 ex378)⟩ (mu_up (q1283 p_x1 c5 p_x139 bb_x139 c143 c278 c345 i1 c366 c369 bb_x371 c375 c377 ex378) (q1284 p_x1 c5 p_x139 bb_x139 c143 c278 c345 i1 c366 c369 bb_x371 c375 c377 ex378))
                · refine u_X9_off_128 ?_
                  intro x379 ex379
                  exact ih365 _ _ _ _ _ _ ⟨rfl, rfl, rfl, rfl, (q1285 p_x1 c5 p_x139 bb_x139 c143 c278 c345 i1 c366 c369 bb_x371 c375 ex379)⟩ (mu_up (q1286 p_x1 c5 p_x139 bb_x139 c143 c278 c345 i1 c366 c369 bb_x371 c375 ex379) (q1287 p_x1 c5 p_x139 bb_x139 c143 c278 c345 i1 c366 c369 bb_x371 c375 ex379))
            · refine ⟨o_v0, ?_⟩
              refine ⟨a346, ea346, ?_⟩
              refine ⟨o_a346, ?_⟩
              refine m_X7_meanFrom hI o_a346 (fun x381 S382 hI2 g383 p_x381 => ?_)
              subst p_x381
              intro _
              refine ⟨a346, ea346, ?_⟩
              refine ⟨o_a346, ?_⟩
              refine m_X7_meanFrom hI o_a346 (fun x386 S387 hI2 g388 p_x386 => ?_)
              subst p_x386
              intro _
              refine ⟨fun c390 => ?_, fun c390 => ?_⟩
              · refine u_X9_off_104 ?_
                refine ⟨o_v0, ?_⟩
                refine ⟨a346, ea346, ?_⟩
                refine ⟨o_a346, ?_⟩
                refine m_X7_isOpen hI o_a346 (fun x392 S393 hI2 g394 b_x392 p_x392 => ?_)
                subst p_x392
                intro _ _
                have bb_x392 : x392 = 0 ∨ x392 = 1 := b_x392
                refine ⟨fun c396 => ?_, fun c396 => ?_⟩
                · refine u_X9_off_128 ?_
                  intro x397 ex397
                  exact ih365 _ _ _ _ _ _ ⟨rfl, rfl, rfl, rfl, (q1288 p_x1 c5 p_x139 bb_x139 c143 c278 c345 i1 c366 c369 c390 bb_x392 c396 ex397)⟩ (mu_up (q1289 p_x1 c5 p_x139 bb_x139 c143 c278 c345 i1 c366 c369 c390 bb_x392 c396 ex397) (q1290 p_x1 c5 p_x139 bb_x139 c143 c278 c345 i1 c366 c369 c390 bb_x392 c396 ex397))
                · refine ⟨fun c398 => ?_, fun c398 => ?_⟩
                  · refine u_X9_off_128 ?_
                    intro x399 ex399
                    exact ih365 _ _ _ _ _ _ ⟨rfl, rfl, rfl, rfl, (q1291 p_x1 c5 p_x139 bb_x139 c143 c278 c345 i1 c366 c369 c390 bb_x392 c396 ex399)⟩ (mu_up (q1292 p_x1 c5 p_x139 bb_x139 c143 c278 c345 i1 c366 c369 c390 bb_x392 c396 ex399) (q1293 p_x1 c5 p_x139 bb_x139 c143 c278 c345 i1 c366 c369 c390 bb_x392 c396 ex399))
                  · refine u_X9_off_128 ?_
                    intro x400 ex400
                    exact ih365 _ _ _ _ _ _ ⟨rfl, rfl, rfl, rfl, (q1294 p_x1 c5 p_x139 bb_x139 c143 c278 c345 i1 c366 c369 c390 bb_x392 c396 c398 ex400)⟩ (mu_up (q1295 p_x1 c5 p_x139 bb_x139 c143 c278 c345 i1 c366 c369 c390 bb_x392 c396 c398 ex400) (q1296 p_x1 c5 p_x139 bb_x139 c143 c278 c345 i1 c366 c369 c390 bb_x392 c396 c398 ex400))
              · refine u_X9_off_99 ?_
                refine u_X9_off_104 ?_
                refine ⟨o_v0, ?_⟩
                refine ⟨a346, ea346, ?_⟩
                refine ⟨o_a346, ?_⟩
                refine m_X7_isOpen hI o_a346 (fun x402 S403 hI2 g404 b_x402 p_x402 => ?_)
                subst p_x402
                intro _ _
                have bb_x402 : x402 = 0 ∨ x402 = 1 := b_x402
                refine ⟨fun c406 => ?_, fun c406 => ?_⟩
                · refine u_X9_off_128 ?_
                  intro x407 ex407
                  exact ih365 _ _ _ _ _ _ ⟨rfl, rfl, rfl, rfl, (q1297 p_x1 c5 p_x139 bb_x139 c143 c278 c345 i1 c366 c369 c390 bb_x402 c406 ex407)⟩ (mu_up (q1298 p_x1 c5 p_x139 bb_x139 c143 c278 c345 i1 c366 c369 c390 bb_x402 c406 ex407) (q1299 p_x1 c5 p_x139 bb_x139 c143 c278 c345 i1 c366 c369 c390 bb_x402 c406 ex407))
                · refine ⟨fun c408 => ?_, fun c408 => ?_⟩
                  · refine u_X9_off_128 ?_
                    intro x409 ex409
                    exact ih365 _ _ _ _ _ _ ⟨rfl, rfl, rfl, rfl, (q1300 p_x1 c5 p_x139 bb_x139 c143 c278 c345 i1 c366 c369 c390 bb_x402 c406 c408 ex409)⟩ (mu_up (q1301 p_x1 c5 p_x139 bb_x139 c143 c278 c345 i1 c366 c369 c390 bb_x402 c406 c408 ex409) (q1302 p_x1 c5 p_x139 bb_x139 c143 c278 c345 i1 c366 c369 c390 bb_x402 c406 c408 ex409))
                  · refine u_X9_off_128 ?_
                    intro x410 ex410
                    exact ih365 _ _ _ _ _ _ ⟨rfl, rfl, rfl, rfl, (q1303 p_x1 c5 p_x139 bb_x139 c143 c278 c345 i1 c366 c369 c390 bb_x402 c406 ex410)⟩ (mu_up (q1304 p_x1 c5 p_x139 bb_x139 c143 c278 c345 i1 c366 c369 c390 bb_x402 c406 ex410) (q1305 p_x1 c5 p_x139 bb_x139 c143 c278 c345 i1 c366 c369 c390 bb_x402 c406 ex410))
        · exact hq _ _ hI g0 f0
