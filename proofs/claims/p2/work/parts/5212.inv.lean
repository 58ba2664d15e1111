set_option maxHeartbeats 4000000 in
set_option maxRecDepth 20000 in
theorem m_X9_got {v0 : Nat} {v1 : Int32} {v2 : Int32} {Q : Int64 → HS → Prop} {S : HS} (hI : IV S) (o_v0 : ob S v0 9)     (hq : ∀ (r : Int64) (T : HS), IV T → Gr S T → FRI [(9, 9)] [] S T → Q r T) : P_X9_got v0 v1 v2 Q S := by
  have g0 := gr_rf S
  have f0 := fri_rf [(9, 9)] [] S
  refine u_X9_got ?_
  refine u_X9_got_0 ?_
  refine ⟨o_v0, ?_⟩
  obtain ⟨a1, ea1, o_a1, -⟩ := sh 5 rfl hI o_v0
  refine ⟨a1, ea1, ?_⟩
  refine ⟨o_a1, ?_⟩
  refine m_X0_isOn hI o_a1 (fun x2 S3 hI2 g4 b_x2 p_x2 => ?_)
  subst p_x2
  intro _ _
  have bb_x2 : x2 = 0 ∨ x2 = 1 := b_x2
  refine ⟨fun c6 => ?_, fun c6 => ?_⟩
  · refine u_X9_got_17 ?_
    refine ⟨o_v0, ?_⟩
    refine u_X9_refuse ?_
    refine u_X9_refuse_0 ?_
    refine ⟨o_v0, ?_⟩
    have hI := iv_sI (j := 9) (v := (1 : Int32)) hI o_v0 (by decide) (nu_free (by decide))
    have f0 : FRI _ _ _ (sI S v0 9 (1 : Int32)) := fri_sI (S := S) g0 f0 o_v0 (by decide)
    obtain ⟨y7, hy7⟩ : ∃ z : Int32, z = (1 : Int32) := ⟨_, rfl⟩
    have d_y7 : y7 = fI (sI S v0 9 (1 : Int32)) v0 9 := hy7.trans (u2_self _ _ _ _).symm
    intro _
    exact hq _ _ hI g0 f0
  · refine m_X9_isFace hI (fun x8 S9 hI2 g10 b_x8 p_x8 => ?_)
    obtain ⟨z_S9, p_x8⟩ := p_x8
    subst z_S9
    intro _ _
    have bb_x8 : x8 = 0 ∨ x8 = 1 := b_x8
    refine ⟨fun c12 => ?_, fun c12 => ?_⟩
    · have hI := iv_sI (j := 9) (v := (0 : Int32)) hI o_v0 (by decide) (nu_free (by decide))
      have f0 : FRI _ _ _ (sI S v0 9 (0 : Int32)) := fri_sI (S := S) g0 f0 o_v0 (by decide)
      obtain ⟨y13, hy13⟩ : ∃ z : Int32, z = (0 : Int32) := ⟨_, rfl⟩
      have d_y13 : y13 = fI (sI S v0 9 (0 : Int32)) v0 9 := hy13.trans (u2_self _ _ _ _).symm
      refine ⟨a1, ea1, ?_⟩
      refine ⟨o_a1, ?_⟩
      obtain ⟨a15, ea15, o_a15, -⟩ := sh 6 rfl hI o_a1
      refine ⟨a15, ea15, ?_⟩
      refine ⟨o_a15, ?_⟩
      obtain ⟨a16, ea16, o_a16, l_a16⟩ := shl 11 rfl hI o_a15
      refine ⟨a16, ea16, ?_⟩
      refine ⟨o_a16, ?_⟩
      refine ⟨(vin l_a16 (m := 5) (by decide) (q725 bb_x2 c6 p_x8 bb_x8 c12)), ?_⟩
      intro x17 ex17
      refine m_X9_fraction hI (fun x18 S19 hI2 g20 p_x18 => ?_)
      subst p_x18
      intro _
      exact hq _ _ hI g0 f0
    · refine u_X9_got_17 ?_
      refine ⟨o_v0, ?_⟩
      refine u_X9_refuse ?_
      refine u_X9_refuse_0 ?_
      refine ⟨o_v0, ?_⟩
      have hI := iv_sI (j := 9) (v := (1 : Int32)) hI o_v0 (by decide) (nu_free (by decide))
      have f0 : FRI _ _ _ (sI S v0 9 (1 : Int32)) := fri_sI (S := S) g0 f0 o_v0 (by decide)
      obtain ⟨y22, hy22⟩ : ∃ z : Int32, z = (1 : Int32) := ⟨_, rfl⟩
      have d_y22 : y22 = fI (sI S v0 9 (1 : Int32)) v0 9 := hy22.trans (u2_self _ _ _ _).symm
      intro _
      exact hq _ _ hI g0 f0
set_option maxHeartbeats 4000000 in
set_option maxRecDepth 20000 in
theorem m_X9_held {v0 : Nat} {v1 : Int32} {v2 : Int32} {v3 : Int32} {v4 : Int32} {v5 : Int32} {Q : Int32 → HS → Prop} {S : HS} (hI : IV S) (o_v0 : ob S v0 9)     (hq : ∀ (r : Int32) (T : HS), IV T → Gr S T → FRI [(9, 9)] [] S T → Q r T) : P_X9_held v0 v1 v2 v3 v4 v5 Q S := by
  have g0 := gr_rf S
  have f0 := fri_rf [(9, 9)] [] S
  refine u_X9_held ?_
  refine u_X9_held_0 ?_
  refine ⟨o_v0, ?_⟩
  refine m_X9_legTrouble hI o_v0 (fun x1 S2 hI2 g3 p_x1 => ?_)
  obtain ⟨z_S2, p_x1⟩ := p_x1
  subst z_S2
  intro _
  refine u_X9_refusedBy ?_
  refine u_X9_refusedBy_0 ?_
  refine ⟨o_v0, ?_⟩
  have hI := iv_sI (j := 9) (v := x1) hI o_v0 (by decide) (nu_free (by decide))
  have f0 : FRI _ _ _ (sI S v0 9 x1) := fri_sI (S := S) g0 f0 o_v0 (by decide)
  have d_x1 : x1 = fI (sI S v0 9 x1) v0 9 := (u2_self _ _ _ _).symm
  refine ⟨fun c5 => ?_, fun c5 => ?_⟩
  · intro _ _
    refine ⟨fun c6 => ?_, fun c6 => ?_⟩
    · obtain ⟨a7, ea7, o_a7, -⟩ := sh 1 rfl hI o_v0
      refine ⟨a7, ea7, ?_⟩
      refine ⟨o_a7, ?_⟩
      obtain ⟨a8, ea8, o_a8, l_a8⟩ := shl 18 rfl hI o_a7
      refine ⟨a8, ea8, ?_⟩
      refine ⟨o_a8, ?_⟩
      have i10 : vp_in v1 (hN _ a8) := (vin l_a8 (m := 4) (by decide) (q0 p_x1 c5))
      obtain ⟨a9, ea9, o_a9⟩ := ae hI o_a8 (by decide) (by decide) i10
      replace o_a9 : ob _ a9 6 := o_a9
      refine ⟨i10, a9, ea9, ?_⟩
      refine ⟨o_a9, ?_⟩
      intro x11 ex11
      have d_x11 := ex11
      refine ⟨fun c12 => ?_, fun c12 => ?_⟩
      · obtain ⟨a13, ea13, o_a13, -⟩ := sh 3 rfl hI o_v0
        refine ⟨a13, ea13, ?_⟩
        refine ⟨a7, ea7, ?_⟩
        refine ⟨o_a7, ?_⟩
        obtain ⟨a15, ea15, o_a15, l_a15⟩ := shl 17 rfl hI o_a7
        refine ⟨a15, ea15, ?_⟩
        refine ⟨o_a15, ?_⟩
        have i17 : vp_in v2 (hN _ a15) := (vin l_a15 (m := 12) (by decide) (q719 p_x1 c5 c12))
        obtain ⟨a16, ea16, o_a16⟩ := ae hI o_a15 (by decide) (by decide) i17
        replace o_a16 : ob _ a16 5 := o_a16
        refine ⟨i17, a16, ea16, ?_⟩
        refine ⟨a7, ea7, ?_⟩
        refine ⟨o_a7, ?_⟩
        obtain ⟨a19, ea19, o_a19, l_a19⟩ := shl 15 rfl hI o_a7
        refine ⟨a19, ea19, ?_⟩
        refine ⟨o_a19, ?_⟩
        have i21 : vp_in v4 (hN _ a19) := (vin l_a19 (m := 6) (by decide) (q720 p_x1 c5 c12))
        obtain ⟨a20, ea20, o_a20⟩ := ae hI o_a19 (by decide) (by decide) i21
        replace o_a20 : ob _ a20 3 := o_a20
        refine ⟨i21, a20, ea20, ?_⟩
        refine ⟨o_a13, ?_⟩
        refine m_X1_lay hI o_a13 o_a16 o_a20 (fun S23 hI g24 fc25 => ?_)
        have l_a15 := (gr_len g24 o_a15).trans l_a15
        have l_a19 := (gr_len g24 o_a19).trans l_a19
        have l_a8 := (gr_len g24 o_a8).trans l_a8
        have d_x1 := d_x1.trans (fri_at fc25 (by decide) (by decide) o_v0).symm
        have d_x11 := d_x11.trans (fri_at fc25 (by decide) (by decide) o_a9).symm
        have ea7 := (frr_at fc25 (by decide) (by decide) o_v0).trans ea7
        have ea8 := (frr_at fc25 (by decide) (by decide) o_a7).trans ea8
        have ea13 := (frr_at fc25 (by decide) (by decide) o_v0).trans ea13
        have ea15 := (frr_at fc25 (by decide) (by decide) o_a7).trans ea15
        have ea19 := (frr_at fc25 (by decide) (by decide) o_a7).trans ea19
        have f0 := fri_tr (S := sI S v0 9 x1) g0 f0 fc25 (by decide) (by decide)
        have o_a13 := gr_ob g24 o_a13
        have o_a15 := gr_ob g24 o_a15
        have o_a16 := gr_ob g24 o_a16
        have o_a19 := gr_ob g24 o_a19
        have o_a20 := gr_ob g24 o_a20
        have o_a7 := gr_ob g24 o_a7
        have o_a8 := gr_ob g24 o_a8
        have o_a9 := gr_ob g24 o_a9
        have o_v0 := gr_ob g24 o_v0
        have g0 := gr_tr (T := sI S v0 9 x1) g0 g24
        intro _
        refine ⟨a13, ea13, ?_⟩
        refine ⟨a7, ea7, ?_⟩
        refine ⟨o_a7, ?_⟩
        refine ⟨a8, ea8, ?_⟩
        refine ⟨o_a8, ?_⟩
        have i30 : vp_in v1 (hN _ a8) := (vin l_a8 (m := 4) (by decide) (q721 p_x1 c5 c12))
        obtain ⟨a29, ea29, o_a29⟩ := ae hI o_a8 (by decide) (by decide) i30
        replace o_a29 : ob _ a29 6 := o_a29
        refine ⟨i30, a29, ea29, ?_⟩
        refine ⟨o_a13, ?_⟩
        refine m_X1_isForward hI o_a13 o_a29 (fun x31 S32 hI2 g33 b_x31 p_x31 => ?_)
        subst p_x31
        intro _ _
        have bb_x31 : x31 = 0 ∨ x31 = 1 := b_x31
        refine ⟨fun c35 => ?_, fun c35 => ?_⟩
        · exact hq _ _ hI g0 f0
        · exact hq _ _ hI g0 f0
      · exact hq _ _ hI g0 f0
    · exact hq _ _ hI g0 f0
  · intro _ _
    refine ⟨fun c36 => ?_, fun c36 => ?_⟩
    · obtain ⟨a37, ea37, o_a37, -⟩ := sh 1 rfl hI o_v0
      refine ⟨a37, ea37, ?_⟩
      refine ⟨o_a37, ?_⟩
      obtain ⟨a38, ea38, o_a38, l_a38⟩ := shl 18 rfl hI o_a37
      refine ⟨a38, ea38, ?_⟩
      refine ⟨o_a38, ?_⟩
      have i40 : vp_in v1 (hN _ a38) := (vin l_a38 (m := 4) (by decide) (q3 p_x1 c5 c36))
      obtain ⟨a39, ea39, o_a39⟩ := ae hI o_a38 (by decide) (by decide) i40
      replace o_a39 : ob _ a39 6 := o_a39
      refine ⟨i40, a39, ea39, ?_⟩
      refine ⟨o_a39, ?_⟩
      intro x41 ex41
      have d_x41 := ex41
      refine ⟨fun c42 => ?_, fun c42 => ?_⟩
      · obtain ⟨a43, ea43, o_a43, -⟩ := sh 3 rfl hI o_v0
        refine ⟨a43, ea43, ?_⟩
        refine ⟨a37, ea37, ?_⟩
        refine ⟨o_a37, ?_⟩
        obtain ⟨a45, ea45, o_a45, l_a45⟩ := shl 17 rfl hI o_a37
        refine ⟨a45, ea45, ?_⟩
        refine ⟨o_a45, ?_⟩
        have i47 : vp_in v2 (hN _ a45) := (vin l_a45 (m := 12) (by decide) (q722 p_x1 c5 c36 c42))
        obtain ⟨a46, ea46, o_a46⟩ := ae hI o_a45 (by decide) (by decide) i47
        replace o_a46 : ob _ a46 5 := o_a46
        refine ⟨i47, a46, ea46, ?_⟩
        refine ⟨a37, ea37, ?_⟩
        refine ⟨o_a37, ?_⟩
        obtain ⟨a49, ea49, o_a49, l_a49⟩ := shl 15 rfl hI o_a37
        refine ⟨a49, ea49, ?_⟩
        refine ⟨o_a49, ?_⟩
        have i51 : vp_in v4 (hN _ a49) := (vin l_a49 (m := 6) (by decide) (q723 p_x1 c5 c36 c42))
        obtain ⟨a50, ea50, o_a50⟩ := ae hI o_a49 (by decide) (by decide) i51
        replace o_a50 : ob _ a50 3 := o_a50
        refine ⟨i51, a50, ea50, ?_⟩
        refine ⟨o_a43, ?_⟩
        refine m_X1_lay hI o_a43 o_a46 o_a50 (fun S53 hI g54 fc55 => ?_)
        have l_a38 := (gr_len g54 o_a38).trans l_a38
        have l_a45 := (gr_len g54 o_a45).trans l_a45
        have l_a49 := (gr_len g54 o_a49).trans l_a49
        have d_x1 := d_x1.trans (fri_at fc55 (by decide) (by decide) o_v0).symm
        have d_x41 := d_x41.trans (fri_at fc55 (by decide) (by decide) o_a39).symm
        have ea37 := (frr_at fc55 (by decide) (by decide) o_v0).trans ea37
        have ea38 := (frr_at fc55 (by decide) (by decide) o_a37).trans ea38
        have ea43 := (frr_at fc55 (by decide) (by decide) o_v0).trans ea43
        have ea45 := (frr_at fc55 (by decide) (by decide) o_a37).trans ea45
        have ea49 := (frr_at fc55 (by decide) (by decide) o_a37).trans ea49
        have f0 := fri_tr (S := sI S v0 9 x1) g0 f0 fc55 (by decide) (by decide)
        have o_a37 := gr_ob g54 o_a37
        have o_a38 := gr_ob g54 o_a38
        have o_a39 := gr_ob g54 o_a39
        have o_a43 := gr_ob g54 o_a43
        have o_a45 := gr_ob g54 o_a45
        have o_a46 := gr_ob g54 o_a46
        have o_a49 := gr_ob g54 o_a49
        have o_a50 := gr_ob g54 o_a50
        have o_v0 := gr_ob g54 o_v0
        have g0 := gr_tr (T := sI S v0 9 x1) g0 g54
        intro _
        refine ⟨a43, ea43, ?_⟩
        refine ⟨a37, ea37, ?_⟩
        refine ⟨o_a37, ?_⟩
        refine ⟨a38, ea38, ?_⟩
        refine ⟨o_a38, ?_⟩
        have i60 : vp_in v1 (hN _ a38) := (vin l_a38 (m := 4) (by decide) (q724 p_x1 c5 c36 c42))
        obtain ⟨a59, ea59, o_a59⟩ := ae hI o_a38 (by decide) (by decide) i60
        replace o_a59 : ob _ a59 6 := o_a59
        refine ⟨i60, a59, ea59, ?_⟩
        refine ⟨o_a43, ?_⟩
        refine m_X1_isForward hI o_a43 o_a59 (fun x61 S62 hI2 g63 b_x61 p_x61 => ?_)
        subst p_x61
        intro _ _
        have bb_x61 : x61 = 0 ∨ x61 = 1 := b_x61
        refine ⟨fun c65 => ?_, fun c65 => ?_⟩
        · exact hq _ _ hI g0 f0
        · exact hq _ _ hI g0 f0
      · exact hq _ _ hI g0 f0
    · exact hq _ _ hI g0 f0
set_option maxHeartbeats 4000000 in
set_option maxRecDepth 20000 in
theorem m_X9_isTill {v0 : Int32} {Q : Int32 → HS → Prop} {S : HS} (hI : IV S)      (hq : ∀ (r : Int32) (T : HS), IV T → Gr S T → bl r → (S = T) ∧ (r = 1 → 0 ≤ v0 ∧ v0 ≤ 400) → Q r T) : P_X9_isTill v0 Q S := by
  have g0 := gr_rf S
  refine u_X9_isTill ?_
  refine u_X9_isTill_0 ?_
  refine ⟨fun c1 => ?_, fun c1 => ?_⟩
  · exact hq _ _ hI g0 (Or.inl rfl) ⟨rfl, (q102 c1)⟩
  · refine ⟨fun c2 => ?_, fun c2 => ?_⟩
    · exact hq _ _ hI g0 (Or.inl rfl) ⟨rfl, (q103 c1 c2)⟩
    · exact hq _ _ hI g0 (Or.inr rfl) ⟨rfl, (q104 c1 c2)⟩
set_option maxHeartbeats 4000000 in
set_option maxRecDepth 20000 in
theorem m_X9_placesTrouble {v0 : Nat} {v1 : Int32} {v2 : Int32} {v3 : Int32} {Q : Int32 → HS → Prop} {S : HS} (hI : IV S) (o_v0 : ob S v0 9)     (hq : ∀ (r : Int32) (T : HS), IV T → Gr S T → (S = T) ∧ (r = 0 → 0 ≤ v1 ∧ v1 < 4 ∧ 0 ≤ v2 ∧ v2 < 8 ∧ 0 ≤ v3 ∧ v3 < 8) → Q r T) : P_X9_placesTrouble v0 v1 v2 v3 Q S := by
  have g0 := gr_rf S
  refine u_X9_placesTrouble ?_
  refine u_X9_placesTrouble_0 ?_
  refine ⟨o_v0, ?_⟩
  obtain ⟨a1, ea1, o_a1, -⟩ := sh 1 rfl hI o_v0
  refine ⟨a1, ea1, ?_⟩
  refine ⟨o_a1, ?_⟩
  refine m_X8_hasWalker hI o_a1 (fun x2 S3 hI2 g4 b_x2 p_x2 => ?_)
  obtain ⟨z_S3, p_x2⟩ := p_x2
  subst z_S3
  intro _ _
  have bb_x2 : x2 = 0 ∨ x2 = 1 := b_x2
  refine ⟨fun c6 => ?_, fun c6 => ?_⟩
  · refine u_X9_placesTrouble_37 ?_
    refine u_X9_placesTrouble_38 ?_
    refine ⟨fun c7 => ?_, fun c7 => ?_⟩
    · exact hq _ _ hI g0 ⟨rfl, (q94 p_x2 bb_x2 c6)⟩
    · exact hq _ _ hI g0 ⟨rfl, (q95 p_x2 bb_x2 c6 c7)⟩
  · refine ⟨a1, ea1, ?_⟩
    refine ⟨o_a1, ?_⟩
    refine m_X8_hasPlace hI o_a1 (fun x9 S10 hI2 g11 b_x9 p_x9 => ?_)
    obtain ⟨z_S10, p_x9⟩ := p_x9
    subst z_S10
    intro _ _
    have bb_x9 : x9 = 0 ∨ x9 = 1 := b_x9
    refine ⟨fun c13 => ?_, fun c13 => ?_⟩
    · refine u_X9_placesTrouble_37 ?_
      refine u_X9_placesTrouble_38 ?_
      refine ⟨fun c14 => ?_, fun c14 => ?_⟩
      · exact hq _ _ hI g0 ⟨rfl, (q96 p_x2 bb_x2 c6 p_x9 bb_x9 c13)⟩
      · exact hq _ _ hI g0 ⟨rfl, (q97 p_x2 bb_x2 c6 p_x9 bb_x9 c13 c14)⟩
    · refine ⟨a1, ea1, ?_⟩
      refine ⟨o_a1, ?_⟩
      refine m_X8_hasPlace hI o_a1 (fun x16 S17 hI2 g18 b_x16 p_x16 => ?_)
      obtain ⟨z_S17, p_x16⟩ := p_x16
      subst z_S17
      intro _ _
      have bb_x16 : x16 = 0 ∨ x16 = 1 := b_x16
      refine ⟨fun c20 => ?_, fun c20 => ?_⟩
      · refine u_X9_placesTrouble_37 ?_
        refine u_X9_placesTrouble_38 ?_
        refine ⟨fun c21 => ?_, fun c21 => ?_⟩
        · exact hq _ _ hI g0 ⟨rfl, (q98 p_x2 bb_x2 c6 p_x9 bb_x9 c13 p_x16 bb_x16 c20)⟩
        · exact hq _ _ hI g0 ⟨rfl, (q99 p_x2 bb_x2 c6 p_x9 bb_x9 c13 p_x16 bb_x16 c20 c21)⟩
      · refine u_X9_placesTrouble_38 ?_
        refine ⟨fun c22 => ?_, fun c22 => ?_⟩
        · exact hq _ _ hI g0 ⟨rfl, (q100 p_x2 bb_x2 c6 p_x9 bb_x9 c13 p_x16 bb_x16 c20 c22)⟩
        · exact hq _ _ hI g0 ⟨rfl, (q101 p_x2 bb_x2 c6 p_x9 bb_x9 c13 p_x16 bb_x16 c20)⟩
set_option maxHeartbeats 4000000 in
set_option maxRecDepth 20000 in
theorem m_X9_wayTrouble {v0 : Nat} {v1 : Int32} {v2 : Int32} {v3 : Int32} {v4 : Int32} {v5 : Int32} {Q : Int32 → HS → Prop} {S : HS} (hI : IV S) (o_v0 : ob S v0 9)     (hq : ∀ (r : Int32) (T : HS), IV T → Gr S T → FRI [(7, 3), (7, 9), (7, 10), (7, 11), (7, 12), (7, 13)] [(7, 0), (7, 1), (7, 2), (7, 4), (7, 5), (7, 6), (7, 7), (7, 8)] S T → Q r T) : P_X9_wayTrouble v0 v1 v2 v3 v4 v5 Q S := by
  have g0 := gr_rf S
  have f0 := fri_rf [(7, 3), (7, 9), (7, 10), (7, 11), (7, 12), (7, 13)] [(7, 0), (7, 1), (7, 2), (7, 4), (7, 5), (7, 6), (7, 7), (7, 8)] S
  refine u_X9_wayTrouble ?_
  refine u_X9_wayTrouble_0 ?_
  refine ⟨o_v0, ?_⟩
  refine m_X9_placesTrouble hI o_v0 (fun x1 S2 hI2 g3 p_x1 => ?_)
  obtain ⟨z_S2, p_x1⟩ := p_x1
  subst z_S2
  intro _
  refine ⟨fun c5 => ?_, fun c5 => ?_⟩
  · refine m_X9_isTill hI (fun x6 S7 hI2 g8 b_x6 p_x6 => ?_)
    obtain ⟨z_S7, p_x6⟩ := p_x6
    subst z_S7
    intro _ _
    have bb_x6 : x6 = 0 ∨ x6 = 1 := b_x6
    refine ⟨fun c10 => ?_, fun c10 => ?_⟩
    · exact hq _ _ hI g0 f0
    · refine ⟨fun c11 => ?_, fun c11 => ?_⟩
      · exact hq _ _ hI g0 f0
      · refine ⟨fun c12 => ?_, fun c12 => ?_⟩
        · obtain ⟨a13, ea13, o_a13, -⟩ := sh 4 rfl hI o_v0
          refine ⟨a13, ea13, ?_⟩
          obtain ⟨a14, ea14, o_a14, -⟩ := sh 1 rfl hI o_v0
          refine ⟨a14, ea14, ?_⟩
          obtain ⟨a15, ea15, o_a15, -⟩ := sh 3 rfl hI o_v0
          refine ⟨a15, ea15, ?_⟩
          refine ⟨o_a13, ?_⟩
          refine m_X7_reckon hI o_a13 o_a14 o_a15 (q93 p_x1 c5 p_x6 bb_x6 c10 c11 c12) (fun S17 hI g18 fc19 => ?_)
          have ea13 := (frr_at fc19 (by decide) (by decide) o_v0).trans ea13
          have ea14 := (frr_at fc19 (by decide) (by decide) o_v0).trans ea14
          have ea15 := (frr_at fc19 (by decide) (by decide) o_v0).trans ea15
          have f0 := fri_tr (S := S) g0 f0 fc19 (by decide) (by decide)
          have o_a13 := gr_ob g18 o_a13
          have o_a14 := gr_ob g18 o_a14
          have o_a15 := gr_ob g18 o_a15
          have o_v0 := gr_ob g18 o_v0
          have g0 := gr_tr (T := S) g0 g18
          intro _
          refine ⟨a13, ea13, ?_⟩
          refine ⟨o_a13, ?_⟩
          refine m_X7_isOpen hI o_a13 (fun x21 S22 hI2 g23 b_x21 p_x21 => ?_)
          subst p_x21
          intro _ _
          have bb_x21 : x21 = 0 ∨ x21 = 1 := b_x21
          refine ⟨fun c25 => ?_, fun c25 => ?_⟩
          · exact hq _ _ hI g0 f0
          · exact hq _ _ hI g0 f0
        · exact hq _ _ hI g0 f0
  · exact hq _ _ hI g0 f0
set_option maxHeartbeats 4000000 in
set_option maxRecDepth 20000 in
theorem m_X9_least {v0 : Nat} {v1 : Int32} {v2 : Int32} {v3 : Int32} {v4 : Int32} {v5 : Int32} {v6 : Int32} {Q : Int64 → HS → Prop} {S : HS} (hI : IV S) (o_v0 : ob S v0 9)     (hq : ∀ (r : Int64) (T : HS), IV T → Gr S T → FRI [(7, 3), (7, 9), (7, 10), (7, 11), (7, 12), (7, 13), (9, 9)] [(7, 0), (7, 1), (7, 2), (7, 4), (7, 5), (7, 6), (7, 7), (7, 8)] S T → Q r T) : P_X9_least v0 v1 v2 v3 v4 v5 v6 Q S := by
  have g0 := gr_rf S
  have f0 := fri_rf [(7, 3), (7, 9), (7, 10), (7, 11), (7, 12), (7, 13), (9, 9)] [(7, 0), (7, 1), (7, 2), (7, 4), (7, 5), (7, 6), (7, 7), (7, 8)] S
  refine u_X9_least ?_
  refine u_X9_least_0 ?_
  refine ⟨o_v0, ?_⟩
  refine m_X9_wayTrouble hI o_v0 (fun x1 S2 hI g3 fc4 => ?_)
  have f0 := fri_tr (S := S) g0 f0 fc4 (by decide) (by decide)
  have o_v0 := gr_ob g3 o_v0
  have g0 := gr_tr (T := S) g0 g3
  intro _
  refine u_X9_refusedBy ?_
  refine u_X9_refusedBy_0 ?_
  refine ⟨o_v0, ?_⟩
  have hI := iv_sI (j := 9) (v := x1) hI o_v0 (by decide) (nu_free (by decide))
  have f0 : FRI _ _ _ (sI S2 v0 9 x1) := fri_sI (S := S2) g0 f0 o_v0 (by decide)
  have d_x1 : x1 = fI (sI S2 v0 9 x1) v0 9 := (u2_self _ _ _ _).symm
  refine ⟨fun c5 => ?_, fun c5 => ?_⟩
  · intro _ _
    refine ⟨fun c6 => ?_, fun c6 => ?_⟩
    · obtain ⟨a7, ea7, o_a7, -⟩ := sh 4 rfl hI o_v0
      refine ⟨a7, ea7, ?_⟩
      refine ⟨o_a7, ?_⟩
      refine m_X7_meanFrom hI o_a7 (fun x8 S9 hI2 g10 p_x8 => ?_)
      subst p_x8
      intro _
      refine m_X9_fraction hI (fun x12 S13 hI2 g14 p_x12 => ?_)
      subst p_x12
      intro _
      exact hq _ _ hI g0 f0
    · exact hq _ _ hI g0 f0
  · intro _ _
    refine ⟨fun c16 => ?_, fun c16 => ?_⟩
    · obtain ⟨a17, ea17, o_a17, -⟩ := sh 4 rfl hI o_v0
      refine ⟨a17, ea17, ?_⟩
      refine ⟨o_a17, ?_⟩
      refine m_X7_meanFrom hI o_a17 (fun x18 S19 hI2 g20 p_x18 => ?_)
      subst p_x18
      intro _
      refine m_X9_fraction hI (fun x22 S23 hI2 g24 p_x22 => ?_)
      subst p_x22
      intro _
      exact hq _ _ hI g0 f0
    · exact hq _ _ hI g0 f0
set_option maxHeartbeats 4000000 in
set_option maxRecDepth 20000 in
theorem m_X9_lee {v0 : Nat} {v1 : Int32} {v2 : Int32} {v3 : Int32} {v4 : Int32} {v5 : Int32} {v6 : Int32} {v7 : Int32} {Q : Int64 → HS → Prop} {S : HS} (hI : IV S) (o_v0 : ob S v0 9)     (hq : ∀ (r : Int64) (T : HS), IV T → Gr S T → FRI [(9, 9)] [] S T → Q r T) : P_X9_lee v0 v1 v2 v3 v4 v5 v6 v7 Q S := by
  have g0 := gr_rf S
  have f0 := fri_rf [(9, 9)] [] S
  refine u_X9_lee ?_
  refine u_X9_lee_0 ?_
  refine ⟨o_v0, ?_⟩
  refine m_X9_leeTrouble hI o_v0 (fun x1 S2 hI2 g3 p_x1 => ?_)
  obtain ⟨z_S2, p_x1⟩ := p_x1
  subst z_S2
  intro _
  refine u_X9_refusedBy ?_
  refine u_X9_refusedBy_0 ?_
  refine ⟨o_v0, ?_⟩
  have hI := iv_sI (j := 9) (v := x1) hI o_v0 (by decide) (nu_free (by decide))
  have f0 : FRI _ _ _ (sI S v0 9 x1) := fri_sI (S := S) g0 f0 o_v0 (by decide)
  have d_x1 : x1 = fI (sI S v0 9 x1) v0 9 := (u2_self _ _ _ _).symm
  refine ⟨fun c5 => ?_, fun c5 => ?_⟩
  · intro _ _
    refine ⟨fun c6 => ?_, fun c6 => ?_⟩
    · obtain ⟨a7, ea7, o_a7, -⟩ := sh 3 rfl hI o_v0
      refine ⟨a7, ea7, ?_⟩
      obtain ⟨a8, ea8, o_a8, -⟩ := sh 1 rfl hI o_v0
      refine ⟨a8, ea8, ?_⟩
      refine ⟨o_a8, ?_⟩
      obtain ⟨a9, ea9, o_a9, l_a9⟩ := shl 17 rfl hI o_a8
      refine ⟨a9, ea9, ?_⟩
      refine ⟨o_a9, ?_⟩
      have i11 : vp_in v3 (hN _ a9) := (vin l_a9 (m := 12) (by decide) (q708 p_x1 c5))
      obtain ⟨a10, ea10, o_a10⟩ := ae hI o_a9 (by decide) (by decide) i11
      replace o_a10 : ob _ a10 5 := o_a10
      refine ⟨i11, a10, ea10, ?_⟩
      refine ⟨a8, ea8, ?_⟩
      refine ⟨o_a8, ?_⟩
      obtain ⟨a13, ea13, o_a13, l_a13⟩ := shl 15 rfl hI o_a8
      refine ⟨a13, ea13, ?_⟩
      refine ⟨o_a13, ?_⟩
      have i15 : vp_in v5 (hN _ a13) := (vin l_a13 (m := 6) (by decide) (q709 p_x1 c5))
      obtain ⟨a14, ea14, o_a14⟩ := ae hI o_a13 (by decide) (by decide) i15
      replace o_a14 : ob _ a14 3 := o_a14
      refine ⟨i15, a14, ea14, ?_⟩
      refine ⟨o_a7, ?_⟩
      refine m_X1_lay hI o_a7 o_a10 o_a14 (fun S17 hI g18 fc19 => ?_)
      have l_a13 := (gr_len g18 o_a13).trans l_a13
      have l_a9 := (gr_len g18 o_a9).trans l_a9
      have d_x1 := d_x1.trans (fri_at fc19 (by decide) (by decide) o_v0).symm
      have ea7 := (frr_at fc19 (by decide) (by decide) o_v0).trans ea7
      have ea8 := (frr_at fc19 (by decide) (by decide) o_v0).trans ea8
      have ea9 := (frr_at fc19 (by decide) (by decide) o_a8).trans ea9
      have ea13 := (frr_at fc19 (by decide) (by decide) o_a8).trans ea13
      have f0 := fri_tr (S := sI S v0 9 x1) g0 f0 fc19 (by decide) (by decide)
      have o_a10 := gr_ob g18 o_a10
      have o_a13 := gr_ob g18 o_a13
      have o_a14 := gr_ob g18 o_a14
      have o_a7 := gr_ob g18 o_a7
      have o_a8 := gr_ob g18 o_a8
      have o_a9 := gr_ob g18 o_a9
      have o_v0 := gr_ob g18 o_v0
      have g0 := gr_tr (T := sI S v0 9 x1) g0 g18
      intro _
      refine ⟨a7, ea7, ?_⟩
      refine ⟨a8, ea8, ?_⟩
      refine ⟨o_a8, ?_⟩
      obtain ⟨a22, ea22, o_a22, l_a22⟩ := shl 18 rfl hI o_a8
      refine ⟨a22, ea22, ?_⟩
      refine ⟨o_a22, ?_⟩
      have i24 : vp_in v1 (hN _ a22) := (vin l_a22 (m := 4) (by decide) (q710 p_x1 c5))
      obtain ⟨a23, ea23, o_a23⟩ := ae hI o_a22 (by decide) (by decide) i24
      replace o_a23 : ob _ a23 6 := o_a23
      refine ⟨i24, a23, ea23, ?_⟩
      refine ⟨a8, ea8, ?_⟩
      refine ⟨o_a8, ?_⟩
      refine ⟨a22, ea22, ?_⟩
      refine ⟨o_a22, ?_⟩
      have i28 : vp_in v2 (hN _ a22) := (vin l_a22 (m := 4) (by decide) (q711 p_x1 c5))
      obtain ⟨a27, ea27, o_a27⟩ := ae hI o_a22 (by decide) (by decide) i28
      replace o_a27 : ob _ a27 6 := o_a27
      refine ⟨i28, a27, ea27, ?_⟩
      refine ⟨o_a7, ?_⟩
      refine m_X1_wetInLee hI o_a7 o_a23 o_a27 (fun x29 S30 hI g31 fc32 => ?_)
      have l_a13 := (gr_len g31 o_a13).trans l_a13
      have l_a22 := (gr_len g31 o_a22).trans l_a22
      have l_a9 := (gr_len g31 o_a9).trans l_a9
      have d_x1 := d_x1.trans (fri_at fc32 (by decide) (by decide) o_v0).symm
      have ea7 := (frr_at fc32 (by decide) (by decide) o_v0).trans ea7
      have ea8 := (frr_at fc32 (by decide) (by decide) o_v0).trans ea8
      have ea9 := (frr_at fc32 (by decide) (by decide) o_a8).trans ea9
      have ea13 := (frr_at fc32 (by decide) (by decide) o_a8).trans ea13
      have ea22 := (frr_at fc32 (by decide) (by decide) o_a8).trans ea22
      have f0 := fri_tr (S := S17) g0 f0 fc32 (by decide) (by decide)
      have o_a10 := gr_ob g31 o_a10
      have o_a13 := gr_ob g31 o_a13
      have o_a14 := gr_ob g31 o_a14
      have o_a22 := gr_ob g31 o_a22
      have o_a23 := gr_ob g31 o_a23
      have o_a27 := gr_ob g31 o_a27
      have o_a7 := gr_ob g31 o_a7
      have o_a8 := gr_ob g31 o_a8
      have o_a9 := gr_ob g31 o_a9
      have o_v0 := gr_ob g31 o_v0
      have g0 := gr_tr (T := S17) g0 g31
      intro _
      refine m_X9_fraction hI (fun x33 S34 hI2 g35 p_x33 => ?_)
      subst p_x33
      intro _
      exact hq _ _ hI g0 f0
    · exact hq _ _ hI g0 f0
  · intro _ _
    refine ⟨fun c37 => ?_, fun c37 => ?_⟩
    · obtain ⟨a38, ea38, o_a38, -⟩ := sh 3 rfl hI o_v0
      refine ⟨a38, ea38, ?_⟩
      obtain ⟨a39, ea39, o_a39, -⟩ := sh 1 rfl hI o_v0
      refine ⟨a39, ea39, ?_⟩
      refine ⟨o_a39, ?_⟩
      obtain ⟨a40, ea40, o_a40, l_a40⟩ := shl 17 rfl hI o_a39
      refine ⟨a40, ea40, ?_⟩
      refine ⟨o_a40, ?_⟩
      have i42 : vp_in v3 (hN _ a40) := (vin l_a40 (m := 12) (by decide) (q712 p_x1 c5 c37))
      obtain ⟨a41, ea41, o_a41⟩ := ae hI o_a40 (by decide) (by decide) i42
      replace o_a41 : ob _ a41 5 := o_a41
      refine ⟨i42, a41, ea41, ?_⟩
      refine ⟨a39, ea39, ?_⟩
      refine ⟨o_a39, ?_⟩
      obtain ⟨a44, ea44, o_a44, l_a44⟩ := shl 15 rfl hI o_a39
      refine ⟨a44, ea44, ?_⟩
      refine ⟨o_a44, ?_⟩
      have i46 : vp_in v5 (hN _ a44) := (vin l_a44 (m := 6) (by decide) (q713 p_x1 c5 c37))
      obtain ⟨a45, ea45, o_a45⟩ := ae hI o_a44 (by decide) (by decide) i46
      replace o_a45 : ob _ a45 3 := o_a45
      refine ⟨i46, a45, ea45, ?_⟩
      refine ⟨o_a38, ?_⟩
      refine m_X1_lay hI o_a38 o_a41 o_a45 (fun S48 hI g49 fc50 => ?_)
      have l_a40 := (gr_len g49 o_a40).trans l_a40
      have l_a44 := (gr_len g49 o_a44).trans l_a44
      have d_x1 := d_x1.trans (fri_at fc50 (by decide) (by decide) o_v0).symm
      have ea38 := (frr_at fc50 (by decide) (by decide) o_v0).trans ea38
      have ea39 := (frr_at fc50 (by decide) (by decide) o_v0).trans ea39
      have ea40 := (frr_at fc50 (by decide) (by decide) o_a39).trans ea40
      have ea44 := (frr_at fc50 (by decide) (by decide) o_a39).trans ea44
      have f0 := fri_tr (S := sI S v0 9 x1) g0 f0 fc50 (by decide) (by decide)
      have o_a38 := gr_ob g49 o_a38
      have o_a39 := gr_ob g49 o_a39
      have o_a40 := gr_ob g49 o_a40
      have o_a41 := gr_ob g49 o_a41
      have o_a44 := gr_ob g49 o_a44
      have o_a45 := gr_ob g49 o_a45
      have o_v0 := gr_ob g49 o_v0
      have g0 := gr_tr (T := sI S v0 9 x1) g0 g49
      intro _
      refine ⟨a38, ea38, ?_⟩
      refine ⟨a39, ea39, ?_⟩
      refine ⟨o_a39, ?_⟩
      obtain ⟨a53, ea53, o_a53, l_a53⟩ := shl 18 rfl hI o_a39
      refine ⟨a53, ea53, ?_⟩
      refine ⟨o_a53, ?_⟩
      have i55 : vp_in v1 (hN _ a53) := (vin l_a53 (m := 4) (by decide) (q714 p_x1 c5 c37))
      obtain ⟨a54, ea54, o_a54⟩ := ae hI o_a53 (by decide) (by decide) i55
      replace o_a54 : ob _ a54 6 := o_a54
      refine ⟨i55, a54, ea54, ?_⟩
      refine ⟨a39, ea39, ?_⟩
      refine ⟨o_a39, ?_⟩
      refine ⟨a53, ea53, ?_⟩
      refine ⟨o_a53, ?_⟩
      have i59 : vp_in v2 (hN _ a53) := (vin l_a53 (m := 4) (by decide) (q715 p_x1 c5 c37))
      obtain ⟨a58, ea58, o_a58⟩ := ae hI o_a53 (by decide) (by decide) i59
      replace o_a58 : ob _ a58 6 := o_a58
      refine ⟨i59, a58, ea58, ?_⟩
      refine ⟨o_a38, ?_⟩
      refine m_X1_wetInLee hI o_a38 o_a54 o_a58 (fun x60 S61 hI g62 fc63 => ?_)
      have l_a40 := (gr_len g62 o_a40).trans l_a40
      have l_a44 := (gr_len g62 o_a44).trans l_a44
      have l_a53 := (gr_len g62 o_a53).trans l_a53
      have d_x1 := d_x1.trans (fri_at fc63 (by decide) (by decide) o_v0).symm
      have ea38 := (frr_at fc63 (by decide) (by decide) o_v0).trans ea38
      have ea39 := (frr_at fc63 (by decide) (by decide) o_v0).trans ea39
      have ea40 := (frr_at fc63 (by decide) (by decide) o_a39).trans ea40
      have ea44 := (frr_at fc63 (by decide) (by decide) o_a39).trans ea44
      have ea53 := (frr_at fc63 (by decide) (by decide) o_a39).trans ea53
      have f0 := fri_tr (S := S48) g0 f0 fc63 (by decide) (by decide)
      have o_a38 := gr_ob g62 o_a38
      have o_a39 := gr_ob g62 o_a39
      have o_a40 := gr_ob g62 o_a40
      have o_a41 := gr_ob g62 o_a41
      have o_a44 := gr_ob g62 o_a44
      have o_a45 := gr_ob g62 o_a45
      have o_a53 := gr_ob g62 o_a53
      have o_a54 := gr_ob g62 o_a54
      have o_a58 := gr_ob g62 o_a58
      have o_v0 := gr_ob g62 o_v0
      have g0 := gr_tr (T := S48) g0 g62
      intro _
      refine m_X9_fraction hI (fun x64 S65 hI2 g66 p_x64 => ?_)
      subst p_x64
      intro _
      exact hq _ _ hI g0 f0
    · exact hq _ _ hI g0 f0
set_option maxHeartbeats 4000000 in
set_option maxRecDepth 20000 in
theorem m_X9_lies {v0 : Nat} {Q : Int32 → HS → Prop} {S : HS} (hI : IV S) (o_v0 : ob S v0 9)     (hq : ∀ (r : Int32) (T : HS), IV T → Gr S T → FRI [(9, 9)] [] S T → Q r T) : P_X9_lies v0 Q S := by
  have g0 := gr_rf S
  have f0 := fri_rf [(9, 9)] [] S
  refine u_X9_lies ?_
  refine u_X9_lies_0 ?_
  refine ⟨o_v0, ?_⟩
  obtain ⟨a1, ea1, o_a1, -⟩ := sh 1 rfl hI o_v0
  refine ⟨a1, ea1, ?_⟩
  refine ⟨o_a1, ?_⟩
  refine m_X8_isTold hI o_a1 (fun x2 S3 hI2 g4 b_x2 p_x2 => ?_)
  subst p_x2
  intro _ _
  have bb_x2 : x2 = 0 ∨ x2 = 1 := b_x2
  refine ⟨fun c6 => ?_, fun c6 => ?_⟩
  · refine i_X9_lies_20 (fun (y0 : Nat) (y1 : Int32) (y2 : Int32) (Z : HS) => ((2147483647 : Int32).toInt - y2.toInt).toNat) (fun (y0 : Nat) (y1 : Int32) (y2 : Int32) (Z : HS) => (IV Z) ∧ (Gr S Z) ∧ (FRI [] [] S Z) ∧ (v0 = y0) ∧ (0 ≤ y2)) ?_ _ _ _ _ ⟨hI, (gr_rf _), (fri_rf _ _ _), rfl, (q666 bb_x2 c6)⟩
    intro w10 w12 w13 S7 X14 ⟨hI, gL8, fL9, q11, i1⟩ ih15
    subst q11
    have ea1 := (frr_at fL9 (by decide) (by decide) o_v0).trans ea1
    have f0 := fri_tr (S := S) g0 f0 fL9 (by decide) (by decide)
    have o_a1 := gr_ob gL8 o_a1
    have o_v0 := gr_ob gL8 o_v0
    have g0 := gr_tr (T := S) g0 gL8
    refine u_X9_lies_20 ?_
    refine ⟨o_v0, ?_⟩
    refine ⟨a1, ea1, ?_⟩
    refine ⟨o_a1, ?_⟩
    intro x17 ex17
    have r_x17 : (0 : Int32) ≤ x17 ∧ x17 ≤ (4 : Int32) := by rw [ex17]; exact nu 15 rfl hI o_a1
    have d_x17 := ex17
    refine ⟨fun c18 => ?_, fun c18 => ?_⟩
    · refine u_X9_grant ?_
      refine u_X9_grant_0 ?_
      refine ⟨o_v0, ?_⟩
      have hI := iv_sI (j := 9) (v := (0 : Int32)) hI o_v0 (by decide) (nu_free (by decide))
      have f0 : FRI _ _ _ (sI S7 v0 9 (0 : Int32)) := fri_sI (S := S7) g0 f0 o_v0 (by decide)
      have fL9 : FRI _ _ _ (sI S7 v0 9 (0 : Int32)) := fri_sI (S := S7) gL8 fL9 o_v0 (by decide)
      have d_x17 : x17 = fI (sI S7 v0 9 (0 : Int32)) a1 5 := d_x17.trans (sI_ne (S := S7) o_v0 o_a1 (by decide) 5).symm
      obtain ⟨y19, hy19⟩ : ∃ z : Int32, z = (0 : Int32) := ⟨_, rfl⟩
      have d_y19 : y19 = fI (sI S7 v0 9 (0 : Int32)) v0 9 := hy19.trans (u2_self _ _ _ _).symm
      intro _
      exact hq _ _ hI g0 f0
    · obtain ⟨a20, ea20, o_a20, -⟩ := sh 3 rfl hI o_v0
      refine ⟨a20, ea20, ?_⟩
      refine ⟨a1, ea1, ?_⟩
      refine ⟨o_a20, ?_⟩
      refine m_X1_findFit hI o_a20 o_a1 (fun x22 S23 hI g24 fc25 => ?_)
      have d_x17 := d_x17.trans (fri_at fc25 (by decide) (by decide) o_a1).symm
      have ea1 := (frr_at fc25 (by decide) (by decide) o_v0).trans ea1
      have ea20 := (frr_at fc25 (by decide) (by decide) o_v0).trans ea20
      have f0 := fri_tr (S := S7) g0 f0 fc25 (by decide) (by decide)
      have fL9 := fri_tr (S := S7) gL8 fL9 fc25 (by decide) (by decide)
      have o_a1 := gr_ob g24 o_a1
      have o_a20 := gr_ob g24 o_a20
      have o_v0 := gr_ob g24 o_v0
      have g0 := gr_tr (T := S7) g0 g24
      have gL8 := gr_tr (T := S7) gL8 g24
      intro _
      refine ⟨fun c26 => ?_, fun c26 => ?_⟩
      · refine u_X9_lies_54 ?_
        intro x27 ex27
        exact ih15 _ _ _ _ ⟨hI, gL8, fL9, rfl, (q667 bb_x2 c6 i1 r_x17 c18 c26 ex27)⟩ (mu_up (q668 bb_x2 c6 i1 r_x17 c18 c26 ex27) (q669 bb_x2 c6 i1 r_x17 c18 c26 ex27))
      · intro x28 ex28
        refine u_X9_lies_54 ?_
        intro x29 ex29
        exact ih15 _ _ _ _ ⟨hI, gL8, fL9, rfl, (q670 bb_x2 c6 i1 r_x17 c18 c26 ex28 ex29)⟩ (mu_up (q671 bb_x2 c6 i1 r_x17 c18 c26 ex28 ex29) (q672 bb_x2 c6 i1 r_x17 c18 c26 ex28 ex29))
  · refine u_X9_refuse ?_
    refine u_X9_refuse_0 ?_
    refine ⟨o_v0, ?_⟩
    have hI := iv_sI (j := 9) (v := (1 : Int32)) hI o_v0 (by decide) (nu_free (by decide))
    have f0 : FRI _ _ _ (sI S v0 9 (1 : Int32)) := fri_sI (S := S) g0 f0 o_v0 (by decide)
    obtain ⟨y30, hy30⟩ : ∃ z : Int32, z = (1 : Int32) := ⟨_, rfl⟩
    have d_y30 : y30 = fI (sI S v0 9 (1 : Int32)) v0 9 := hy30.trans (u2_self _ _ _ _).symm
    intro _
    exact hq _ _ hI g0 f0
set_option maxHeartbeats 4000000 in
set_option maxRecDepth 20000 in
theorem m_X9_mark {v0 : Nat} {Q : Int32 → HS → Prop} {S : HS} (hI : IV S) (o_v0 : ob S v0 9)     (hq : ∀ (r : Int32) (T : HS), IV T → Gr S T → FRI [(0, 3), (2, 0), (2, 1), (9, 9)] [] S T → Q r T) : P_X9_mark v0 Q S := by
  have g0 := gr_rf S
  have f0 := fri_rf [(0, 3), (2, 0), (2, 1), (9, 9)] [] S
  refine u_X9_mark ?_
  refine u_X9_mark_0 ?_
  refine ⟨o_v0, ?_⟩
  obtain ⟨a1, ea1, o_a1, -⟩ := sh 5 rfl hI o_v0
  refine ⟨a1, ea1, ?_⟩
  refine ⟨o_a1, ?_⟩
  refine m_X0_isOn hI o_a1 (fun x2 S3 hI2 g4 b_x2 p_x2 => ?_)
  subst p_x2
  intro _ _
  have bb_x2 : x2 = 0 ∨ x2 = 1 := b_x2
  refine ⟨fun c6 => ?_, fun c6 => ?_⟩
  · refine ⟨a1, ea1, ?_⟩
    refine ⟨o_a1, ?_⟩
    refine m_X0_setMark hI o_a1 (fun x8 S9 hI g10 fc11 => ?_)
    have ea1 := (frr_at fc11 (by decide) (by decide) o_v0).trans ea1
    have f0 := fri_tr (S := S) g0 f0 fc11 (by decide) (by decide)
    have o_a1 := gr_ob g10 o_a1
    have o_v0 := gr_ob g10 o_v0
    have g0 := gr_tr (T := S) g0 g10
    intro _
    refine ⟨fun c12 => ?_, fun c12 => ?_⟩
    · refine u_X9_grant ?_
      refine u_X9_grant_0 ?_
      refine ⟨o_v0, ?_⟩
      have hI := iv_sI (j := 9) (v := (0 : Int32)) hI o_v0 (by decide) (nu_free (by decide))
      have f0 : FRI _ _ _ (sI S9 v0 9 (0 : Int32)) := fri_sI (S := S9) g0 f0 o_v0 (by decide)
      obtain ⟨y13, hy13⟩ : ∃ z : Int32, z = (0 : Int32) := ⟨_, rfl⟩
      have d_y13 : y13 = fI (sI S9 v0 9 (0 : Int32)) v0 9 := hy13.trans (u2_self _ _ _ _).symm
      intro _
      exact hq _ _ hI g0 f0
    · refine u_X9_refuse ?_
      refine u_X9_refuse_0 ?_
      refine ⟨o_v0, ?_⟩
      have hI := iv_sI (j := 9) (v := (3 : Int32)) hI o_v0 (by decide) (nu_free (by decide))
      have f0 : FRI _ _ _ (sI S9 v0 9 (3 : Int32)) := fri_sI (S := S9) g0 f0 o_v0 (by decide)
      obtain ⟨y14, hy14⟩ : ∃ z : Int32, z = (3 : Int32) := ⟨_, rfl⟩
      have d_y14 : y14 = fI (sI S9 v0 9 (3 : Int32)) v0 9 := hy14.trans (u2_self _ _ _ _).symm
      intro _
      exact hq _ _ hI g0 f0
  · refine u_X9_refuse ?_
    refine u_X9_refuse_0 ?_
    refine ⟨o_v0, ?_⟩
    have hI := iv_sI (j := 9) (v := (1 : Int32)) hI o_v0 (by decide) (nu_free (by decide))
    have f0 : FRI _ _ _ (sI S v0 9 (1 : Int32)) := fri_sI (S := S) g0 f0 o_v0 (by decide)
    obtain ⟨y15, hy15⟩ : ∃ z : Int32, z = (1 : Int32) := ⟨_, rfl⟩
    have d_y15 : y15 = fI (sI S v0 9 (1 : Int32)) v0 9 := hy15.trans (u2_self _ _ _ _).symm
    intro _
    exact hq _ _ hI g0 f0
set_option maxHeartbeats 4000000 in
set_option maxRecDepth 20000 in
theorem m_X9_mean {v0 : Nat} {v1 : Int32} {v2 : Int32} {v3 : Int32} {v4 : Int32} {v5 : Int32} {v6 : Int32} {Q : Int64 → HS → Prop} {S : HS} (hI : IV S) (o_v0 : ob S v0 9)     (hq : ∀ (r : Int64) (T : HS), IV T → Gr S T → FRI [(9, 9)] [] S T → Q r T) : P_X9_mean v0 v1 v2 v3 v4 v5 v6 Q S := by
  have g0 := gr_rf S
  have f0 := fri_rf [(9, 9)] [] S
  refine u_X9_mean ?_
  refine u_X9_mean_0 ?_
  refine ⟨o_v0, ?_⟩
  refine m_X9_legTrouble hI o_v0 (fun x1 S2 hI2 g3 p_x1 => ?_)
  obtain ⟨z_S2, p_x1⟩ := p_x1
  subst z_S2
  intro _
  refine u_X9_refusedBy ?_
  refine u_X9_refusedBy_0 ?_
  refine ⟨o_v0, ?_⟩
  have hI := iv_sI (j := 9) (v := x1) hI o_v0 (by decide) (nu_free (by decide))
  have f0 : FRI _ _ _ (sI S v0 9 x1) := fri_sI (S := S) g0 f0 o_v0 (by decide)
  have d_x1 : x1 = fI (sI S v0 9 x1) v0 9 := (u2_self _ _ _ _).symm
  refine ⟨fun c5 => ?_, fun c5 => ?_⟩
  · intro _ _
    refine ⟨fun c6 => ?_, fun c6 => ?_⟩
    · obtain ⟨a7, ea7, o_a7, -⟩ := sh 3 rfl hI o_v0
      refine ⟨a7, ea7, ?_⟩
      obtain ⟨a8, ea8, o_a8, -⟩ := sh 1 rfl hI o_v0
      refine ⟨a8, ea8, ?_⟩
      refine ⟨o_a8, ?_⟩
      obtain ⟨a9, ea9, o_a9, l_a9⟩ := shl 18 rfl hI o_a8
      refine ⟨a9, ea9, ?_⟩
      refine ⟨o_a9, ?_⟩
      have i11 : vp_in v1 (hN _ a9) := (vin l_a9 (m := 4) (by decide) (q0 p_x1 c5))
      obtain ⟨a10, ea10, o_a10⟩ := ae hI o_a9 (by decide) (by decide) i11
      replace o_a10 : ob _ a10 6 := o_a10
      refine ⟨i11, a10, ea10, ?_⟩
      refine ⟨a8, ea8, ?_⟩
      refine ⟨o_a8, ?_⟩
      obtain ⟨a13, ea13, o_a13, l_a13⟩ := shl 17 rfl hI o_a8
      refine ⟨a13, ea13, ?_⟩
      refine ⟨o_a13, ?_⟩
      have i15 : vp_in v2 (hN _ a13) := (vin l_a13 (m := 12) (by decide) (q1 p_x1 c5))
      obtain ⟨a14, ea14, o_a14⟩ := ae hI o_a13 (by decide) (by decide) i15
      replace o_a14 : ob _ a14 5 := o_a14
      refine ⟨i15, a14, ea14, ?_⟩
      refine ⟨a8, ea8, ?_⟩
      refine ⟨o_a8, ?_⟩
      obtain ⟨a17, ea17, o_a17, l_a17⟩ := shl 15 rfl hI o_a8
      refine ⟨a17, ea17, ?_⟩
      refine ⟨o_a17, ?_⟩
      have i19 : vp_in v4 (hN _ a17) := (vin l_a17 (m := 6) (by decide) (q2 p_x1 c5))
      obtain ⟨a18, ea18, o_a18⟩ := ae hI o_a17 (by decide) (by decide) i19
      replace o_a18 : ob _ a18 3 := o_a18
      refine ⟨i19, a18, ea18, ?_⟩
      refine ⟨o_a7, ?_⟩
      refine m_X1_wetOf hI o_a7 o_a10 o_a14 o_a18 (fun x20 S21 hI g22 fc23 => ?_)
      have l_a13 := (gr_len g22 o_a13).trans l_a13
      have l_a17 := (gr_len g22 o_a17).trans l_a17
      have l_a9 := (gr_len g22 o_a9).trans l_a9
      have d_x1 := d_x1.trans (fri_at fc23 (by decide) (by decide) o_v0).symm
      have ea7 := (frr_at fc23 (by decide) (by decide) o_v0).trans ea7
      have ea8 := (frr_at fc23 (by decide) (by decide) o_v0).trans ea8
      have ea9 := (frr_at fc23 (by decide) (by decide) o_a8).trans ea9
      have ea13 := (frr_at fc23 (by decide) (by decide) o_a8).trans ea13
      have ea17 := (frr_at fc23 (by decide) (by decide) o_a8).trans ea17
      have f0 := fri_tr (S := sI S v0 9 x1) g0 f0 fc23 (by decide) (by decide)
      have o_a10 := gr_ob g22 o_a10
      have o_a13 := gr_ob g22 o_a13
      have o_a14 := gr_ob g22 o_a14
      have o_a17 := gr_ob g22 o_a17
      have o_a18 := gr_ob g22 o_a18
      have o_a7 := gr_ob g22 o_a7
      have o_a8 := gr_ob g22 o_a8
      have o_a9 := gr_ob g22 o_a9
      have o_v0 := gr_ob g22 o_v0
      have g0 := gr_tr (T := sI S v0 9 x1) g0 g22
      intro _
      refine ⟨a8, ea8, ?_⟩
      refine ⟨o_a8, ?_⟩
      refine ⟨a17, ea17, ?_⟩
      refine ⟨o_a17, ?_⟩
      have i27 : vp_in v4 (hN _ a17) := (vin l_a17 (m := 6) (by decide) (q2 p_x1 c5))
      obtain ⟨a26, ea26, o_a26⟩ := ae hI o_a17 (by decide) (by decide) i27
      replace o_a26 : ob _ a26 3 := o_a26
      refine ⟨i27, a26, ea26, ?_⟩
      refine ⟨o_a26, ?_⟩
      intro x28 ex28
      have d_x28 := ex28
      refine m_X9_fraction hI (fun x29 S30 hI2 g31 p_x29 => ?_)
      subst p_x29
      intro _
      exact hq _ _ hI g0 f0
    · exact hq _ _ hI g0 f0
  · intro _ _
    refine ⟨fun c33 => ?_, fun c33 => ?_⟩
    · obtain ⟨a34, ea34, o_a34, -⟩ := sh 3 rfl hI o_v0
      refine ⟨a34, ea34, ?_⟩
      obtain ⟨a35, ea35, o_a35, -⟩ := sh 1 rfl hI o_v0
      refine ⟨a35, ea35, ?_⟩
      refine ⟨o_a35, ?_⟩
      obtain ⟨a36, ea36, o_a36, l_a36⟩ := shl 18 rfl hI o_a35
      refine ⟨a36, ea36, ?_⟩
      refine ⟨o_a36, ?_⟩
      have i38 : vp_in v1 (hN _ a36) := (vin l_a36 (m := 4) (by decide) (q3 p_x1 c5 c33))
      obtain ⟨a37, ea37, o_a37⟩ := ae hI o_a36 (by decide) (by decide) i38
      replace o_a37 : ob _ a37 6 := o_a37
      refine ⟨i38, a37, ea37, ?_⟩
      refine ⟨a35, ea35, ?_⟩
      refine ⟨o_a35, ?_⟩
      obtain ⟨a40, ea40, o_a40, l_a40⟩ := shl 17 rfl hI o_a35
      refine ⟨a40, ea40, ?_⟩
      refine ⟨o_a40, ?_⟩
      have i42 : vp_in v2 (hN _ a40) := (vin l_a40 (m := 12) (by decide) (q4 p_x1 c5 c33))
      obtain ⟨a41, ea41, o_a41⟩ := ae hI o_a40 (by decide) (by decide) i42
      replace o_a41 : ob _ a41 5 := o_a41
      refine ⟨i42, a41, ea41, ?_⟩
      refine ⟨a35, ea35, ?_⟩
      refine ⟨o_a35, ?_⟩
      obtain ⟨a44, ea44, o_a44, l_a44⟩ := shl 15 rfl hI o_a35
      refine ⟨a44, ea44, ?_⟩
      refine ⟨o_a44, ?_⟩
      have i46 : vp_in v4 (hN _ a44) := (vin l_a44 (m := 6) (by decide) (q5 p_x1 c5 c33))
      obtain ⟨a45, ea45, o_a45⟩ := ae hI o_a44 (by decide) (by decide) i46
      replace o_a45 : ob _ a45 3 := o_a45
      refine ⟨i46, a45, ea45, ?_⟩
      refine ⟨o_a34, ?_⟩
      refine m_X1_wetOf hI o_a34 o_a37 o_a41 o_a45 (fun x47 S48 hI g49 fc50 => ?_)
      have l_a36 := (gr_len g49 o_a36).trans l_a36
      have l_a40 := (gr_len g49 o_a40).trans l_a40
      have l_a44 := (gr_len g49 o_a44).trans l_a44
      have d_x1 := d_x1.trans (fri_at fc50 (by decide) (by decide) o_v0).symm
      have ea34 := (frr_at fc50 (by decide) (by decide) o_v0).trans ea34
      have ea35 := (frr_at fc50 (by decide) (by decide) o_v0).trans ea35
      have ea36 := (frr_at fc50 (by decide) (by decide) o_a35).trans ea36
      have ea40 := (frr_at fc50 (by decide) (by decide) o_a35).trans ea40
      have ea44 := (frr_at fc50 (by decide) (by decide) o_a35).trans ea44
      have f0 := fri_tr (S := sI S v0 9 x1) g0 f0 fc50 (by decide) (by decide)
      have o_a34 := gr_ob g49 o_a34
      have o_a35 := gr_ob g49 o_a35
      have o_a36 := gr_ob g49 o_a36
      have o_a37 := gr_ob g49 o_a37
      have o_a40 := gr_ob g49 o_a40
      have o_a41 := gr_ob g49 o_a41
      have o_a44 := gr_ob g49 o_a44
      have o_a45 := gr_ob g49 o_a45
      have o_v0 := gr_ob g49 o_v0
      have g0 := gr_tr (T := sI S v0 9 x1) g0 g49
      intro _
      refine ⟨a35, ea35, ?_⟩
      refine ⟨o_a35, ?_⟩
      refine ⟨a44, ea44, ?_⟩
      refine ⟨o_a44, ?_⟩
      have i54 : vp_in v4 (hN _ a44) := (vin l_a44 (m := 6) (by decide) (q5 p_x1 c5 c33))
      obtain ⟨a53, ea53, o_a53⟩ := ae hI o_a44 (by decide) (by decide) i54
      replace o_a53 : ob _ a53 3 := o_a53
      refine ⟨i54, a53, ea53, ?_⟩
      refine ⟨o_a53, ?_⟩
      intro x55 ex55
      have d_x55 := ex55
      refine m_X9_fraction hI (fun x56 S57 hI2 g58 p_x56 => ?_)
      subst p_x56
      intro _
      exact hq _ _ hI g0 f0
    · exact hq _ _ hI g0 f0
