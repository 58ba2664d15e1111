set_option maxHeartbeats 4000000 in
set_option maxRecDepth 20000 in
theorem m_X0_end {v0 : Nat} {Q : HS → Prop} {S : HS} (hI : IV S) (o_v0 : ob S v0 0)     (hq : ∀ (T : HS), IV T → Gr S T → FRI [(0, 0), (0, 2), (0, 3)] [] S T → Q T) : P_X0_end v0 Q S := by
  have g0 := gr_rf S
  have f0 := fri_rf [(0, 0), (0, 2), (0, 3)] [] S
  refine u_X0_end ?_
  refine u_X0_end_0 ?_
  refine ⟨o_v0, ?_⟩
  intro S1 eS1
  have hI : IV S1 := by rw [eS1]; exact iv_sI hI o_v0 (by decide) (nu_one (lo := (-1 : Int32)) (hi := (3 : Int32)) (by decide) (q1413))
  have f0 := fr_I eS1 g0 f0 o_v0 (by decide)
  obtain ⟨y2, hy2⟩ : ∃ z : Int32, z = (-1 : Int32) := ⟨_, rfl⟩
  have d_y2 := rd_Is eS1 hy2
  have g0 := gr_I eS1 g0
  have o_v0 := ob_I eS1 o_v0
  intro S3 eS3
  have hI : IV S3 := by rw [eS3]; exact iv_sI hI o_v0 (by decide) (nu_one (lo := (0 : Int32)) (hi := (16 : Int32)) (by decide) (q1414))
  have f0 := fr_I eS3 g0 f0 o_v0 (by decide)
  have d_y2 := rd_Ij eS3 (by decide) d_y2
  obtain ⟨y4, hy4⟩ : ∃ z : Int32, z = (0 : Int32) := ⟨_, rfl⟩
  have d_y4 := rd_Is eS3 hy4
  have g0 := gr_I eS3 g0
  have o_v0 := ob_I eS3 o_v0
  intro S5 eS5
  have hI : IV S5 := by rw [eS5]; exact iv_sI hI o_v0 (by decide) (nu_one (lo := (0 : Int32)) (hi := (3 : Int32)) (by decide) (q1415))
  have f0 := fr_I eS5 g0 f0 o_v0 (by decide)
  have d_y2 := rd_Ij eS5 (by decide) d_y2
  have d_y4 := rd_Ij eS5 (by decide) d_y4
  obtain ⟨y6, hy6⟩ : ∃ z : Int32, z = (0 : Int32) := ⟨_, rfl⟩
  have d_y6 := rd_Is eS5 hy6
  have g0 := gr_I eS5 g0
  have o_v0 := ob_I eS5 o_v0
  exact hq _ hI g0 f0
set_option maxHeartbeats 4000000 in
set_option maxRecDepth 20000 in
theorem m_X0_begin {v0 : Nat} {v1 : Int32} {v2 : Int32} {v3 : Int32} {Q : HS → Prop} {S : HS} (hI : IV S) (o_v0 : ob S v0 0)   (h1 : -1 ≤ v1 ∧ v1 ≤ 3)  (hq : ∀ (T : HS), IV T → Gr S T → FRI [(0, 0), (0, 2), (0, 3), (2, 0), (2, 1)] [] S T → Q T) : P_X0_begin v0 v1 v2 v3 Q S := by
  have g0 := gr_rf S
  have f0 := fri_rf [(0, 0), (0, 2), (0, 3), (2, 0), (2, 1)] [] S
  refine u_X0_begin ?_
  refine u_X0_begin_0 ?_
  refine ⟨o_v0, ?_⟩
  refine u_X0_end ?_
  refine u_X0_end_0 ?_
  refine ⟨o_v0, ?_⟩
  intro S1 eS1
  have hI : IV S1 := by rw [eS1]; exact iv_sI hI o_v0 (by decide) (nu_one (lo := (-1 : Int32)) (hi := (3 : Int32)) (by decide) (q1413))
  have f0 := fr_I eS1 g0 f0 o_v0 (by decide)
  obtain ⟨y2, hy2⟩ : ∃ z : Int32, z = (-1 : Int32) := ⟨_, rfl⟩
  have d_y2 := rd_Is eS1 hy2
  have g0 := gr_I eS1 g0
  have o_v0 := ob_I eS1 o_v0
  intro S3 eS3
  have hI : IV S3 := by rw [eS3]; exact iv_sI hI o_v0 (by decide) (nu_one (lo := (0 : Int32)) (hi := (16 : Int32)) (by decide) (q1414))
  have f0 := fr_I eS3 g0 f0 o_v0 (by decide)
  have d_y2 := rd_Ij eS3 (by decide) d_y2
  obtain ⟨y4, hy4⟩ : ∃ z : Int32, z = (0 : Int32) := ⟨_, rfl⟩
  have d_y4 := rd_Is eS3 hy4
  have g0 := gr_I eS3 g0
  have o_v0 := ob_I eS3 o_v0
  intro S5 eS5
  have hI : IV S5 := by rw [eS5]; exact iv_sI hI o_v0 (by decide) (nu_one (lo := (0 : Int32)) (hi := (3 : Int32)) (by decide) (q1415))
  have f0 := fr_I eS5 g0 f0 o_v0 (by decide)
  have d_y2 := rd_Ij eS5 (by decide) d_y2
  have d_y4 := rd_Ij eS5 (by decide) d_y4
  obtain ⟨y6, hy6⟩ : ∃ z : Int32, z = (0 : Int32) := ⟨_, rfl⟩
  have d_y6 := rd_Is eS5 hy6
  have g0 := gr_I eS5 g0
  have o_v0 := ob_I eS5 o_v0
  intro _
  intro S7 eS7
  have hI : IV S7 := by rw [eS7]; exact iv_sI hI o_v0 (by decide) (nu_one (lo := (-1 : Int32)) (hi := (3 : Int32)) (by decide) (q1416 h1))
  have f0 := fr_I eS7 g0 f0 o_v0 (by decide)
  have d_y4 := rd_Ij eS7 (by decide) d_y4
  have d_y6 := rd_Ij eS7 (by decide) d_y6
  have d_v1 := rd_Is eS7 (rfl : v1 = v1)
  have g0 := gr_I eS7 g0
  have o_v0 := ob_I eS7 o_v0
  obtain ⟨a8, ea8, o_a8, -⟩ := sh 6 rfl hI o_v0
  refine ⟨a8, ea8, ?_⟩
  refine ⟨o_a8, ?_⟩
  intro S9 eS9
  have hI : IV S9 := by rw [eS9]; exact iv_sI hI o_a8 (by decide) (nu_free (by decide))
  have f0 := fr_I eS9 g0 f0 o_a8 (by decide)
  have d_y4 := rd_Ik eS9 o_a8 o_v0 (by decide) d_y4
  have d_y6 := rd_Ik eS9 o_a8 o_v0 (by decide) d_y6
  have d_v1 := rd_Ik eS9 o_a8 o_v0 (by decide) d_v1
  have d_v2 := rd_Is eS9 (rfl : v2 = v2)
  have ea8 := rf_I eS9 ea8
  have g0 := gr_I eS9 g0
  have o_a8 := ob_I eS9 o_a8
  have o_v0 := ob_I eS9 o_v0
  refine ⟨a8, ea8, ?_⟩
  refine ⟨o_a8, ?_⟩
  intro S11 eS11
  have hI : IV S11 := by rw [eS11]; exact iv_sI hI o_a8 (by decide) (nu_free (by decide))
  have f0 := fr_I eS11 g0 f0 o_a8 (by decide)
  have d_y4 := rd_Ik eS11 o_a8 o_v0 (by decide) d_y4
  have d_y6 := rd_Ik eS11 o_a8 o_v0 (by decide) d_y6
  have d_v1 := rd_Ik eS11 o_a8 o_v0 (by decide) d_v1
  have d_v2 := rd_Ij eS11 (by decide) d_v2
  have d_v3 := rd_Is eS11 (rfl : v3 = v3)
  have ea8 := rf_I eS11 ea8
  have g0 := gr_I eS11 g0
  have o_a8 := ob_I eS11 o_a8
  have o_v0 := ob_I eS11 o_v0
  refine i_X0_begin_28 (fun (y0 : Nat) (y4 : Int32) (Z : HS) => ((2147483647 : Int32).toInt - y4.toInt).toNat) (fun (y0 : Nat) (y4 : Int32) (Z : HS) => (IV Z) ∧ (Gr S11 Z) ∧ (FRI [] [] S11 Z) ∧ (v0 = y0) ∧ (0 ≤ y4)) ?_ _ _ _ ⟨hI, (gr_rf _), (fri_rf _ _ _), rfl, (q82)⟩
  intro w16 w18 S13 X19 ⟨hI, gL14, fL15, q17, i1u12⟩ ih20
  subst q17
  have d_y4 := d_y4.trans (fri_at fL15 (by decide) (by decide) o_v0).symm
  have d_y6 := d_y6.trans (fri_at fL15 (by decide) (by decide) o_v0).symm
  have d_v1 := d_v1.trans (fri_at fL15 (by decide) (by decide) o_v0).symm
  have d_v2 := d_v2.trans (fri_at fL15 (by decide) (by decide) o_a8).symm
  have d_v3 := d_v3.trans (fri_at fL15 (by decide) (by decide) o_a8).symm
  have ea8 := (frr_at fL15 (by decide) (by decide) o_v0).trans ea8
  have f0 := fri_tr (S := S11) g0 f0 fL15 (by decide) (by decide)
  have o_a8 := gr_ob gL14 o_a8
  have o_v0 := gr_ob gL14 o_v0
  have g0 := gr_tr (T := S11) g0 gL14
  refine u_X0_begin_28 ?_
  refine ⟨fun c21 => ?_, fun c21 => ?_⟩
  · exact hq _ hI g0 f0
  · refine ⟨o_v0, ?_⟩
    refine ⟨a8, ea8, ?_⟩
    refine ⟨o_a8, ?_⟩
    obtain ⟨a23, ea23, o_a23, l_a23⟩ := shl 11 rfl hI o_a8
    refine ⟨a23, ea23, ?_⟩
    refine ⟨o_a23, ?_⟩
    have i24 : vp_in w18 (hN _ a23) := (vin l_a23 (m := 5) (by decide) (q731 i1u12 c21))
    refine ⟨i24, ?_⟩
    intro S25 eS25
    have hI : IV S25 := by rw [eS25]; exact iv_aJ hI o_a8 (by decide) ea23 o_a23 (by decide)
    have f0 := fr_J eS25 f0
    have fL15 := fr_J eS25 fL15
    have d_y4 := rd_J eS25 d_y4
    have d_y6 := rd_J eS25 d_y6
    have d_v1 := rd_J eS25 d_v1
    have d_v2 := rd_J eS25 d_v2
    have d_v3 := rd_J eS25 d_v3
    have ea8 := rf_J eS25 ea8
    have ea23 := rf_J eS25 ea23
    have l_a23 := ln_J eS25 l_a23
    have g0 := gr_J eS25 g0
    have gL14 := gr_J eS25 gL14
    have o_a23 := ob_J eS25 o_a23
    have o_a8 := ob_J eS25 o_a8
    have o_v0 := ob_J eS25 o_v0
    intro x26 ex26
    exact ih20 _ _ _ ⟨hI, gL14, fL15, rfl, (q732 i1u12 c21 ex26)⟩ (mu_up (q733 i1u12 c21 ex26) (q734 i1u12 c21 ex26))
set_option maxHeartbeats 4000000 in
set_option maxRecDepth 20000 in
theorem m_X0_draw {v0 : Nat} {v1 : Nat} {v2 : Int32} {Q : HS → Prop} {S : HS} (hI : IV S) (o_v0 : ob S v0 0) (o_v1 : ob S v1 8)     (hq : ∀ (T : HS), IV T → Gr S T → FRI [(0, 1)] [] S T → Q T) : P_X0_draw v0 v1 v2 Q S := by
  have g0 := gr_rf S
  have f0 := fri_rf [(0, 1)] [] S
  refine u_X0_draw ?_
  refine u_X0_draw_0 ?_
  refine ⟨o_v0, ?_⟩
  intro S1 eS1
  have hI : IV S1 := by rw [eS1]; exact iv_sI hI o_v0 (by decide) (nu_free (by decide))
  have f0 := fr_I eS1 g0 f0 o_v0 (by decide)
  obtain ⟨y2, hy2⟩ : ∃ z : Int32, z = (0 : Int32) := ⟨_, rfl⟩
  have d_y2 := rd_Is eS1 hy2
  have g0 := gr_I eS1 g0
  have o_v0 := ob_I eS1 o_v0
  have o_v1 := ob_I eS1 o_v1
  refine i_X0_draw_10 (fun (y0 : Nat) (y1 : Nat) (y3 : Int32) (y4 : Int32) (Z : HS) => ((2147483647 : Int32).toInt - y4.toInt).toNat) (fun (y0 : Nat) (y1 : Nat) (y3 : Int32) (y4 : Int32) (Z : HS) => (IV Z) ∧ (Gr S1 Z) ∧ (FRI [(0, 1)] [] S1 Z) ∧ (v0 = y0) ∧ (v1 = y1) ∧ (0 ≤ y4)) ?_ _ _ _ _ _ ⟨hI, (gr_rf _), (fri_rf _ _ _), rfl, rfl, (q82)⟩
  intro w7 w9 w11 w12 S4 X13 ⟨hI, gL5, fL6, q8, q10, i1u3⟩ ih14
  subst q8
  subst q10
  have f0 := fri_tr (S := S1) g0 f0 fL6 (by decide) (by decide)
  have o_v0 := gr_ob gL5 o_v0
  have o_v1 := gr_ob gL5 o_v1
  have g0 := gr_tr (T := S1) g0 gL5
  refine u_X0_draw_10 ?_
  refine ⟨o_v1, ?_⟩
  intro x15 ex15
  have r_x15 : (0 : Int32) ≤ x15 ∧ x15 ≤ (6 : Int32) := by rw [ex15]; exact nu 11 rfl hI o_v1
  have d_x15 := ex15
  refine ⟨fun c16 => ?_, fun c16 => ?_⟩
  · exact hq _ hI g0 f0
  · intro x17 ex17
    intro x18 ex18
    obtain ⟨a19, ea19, o_a19, l_a19⟩ := shl 15 rfl hI o_v1
    refine ⟨a19, ea19, ?_⟩
    refine ⟨o_a19, ?_⟩
    have i21 : vp_in w12 (hN _ a19) := (vin l_a19 (m := 6) (by decide) (q1406 i1u3 r_x15 c16))
    obtain ⟨a20, ea20, o_a20⟩ := ae hI o_a19 (by decide) (by decide) i21
    replace o_a20 : ob _ a20 3 := o_a20
    refine ⟨i21, a20, ea20, ?_⟩
    refine ⟨o_a20, ?_⟩
    intro x22 ex22
    have d_x22 := ex22
    refine ⟨fun c23 => ?_, fun c23 => ?_⟩
    · refine u_X0_draw_60 ?_
      intro x24 ex24
      exact ih14 _ _ _ _ _ ⟨hI, gL5, fL6, rfl, rfl, (q1407 i1u3 r_x15 c16 ex17 ex18 c23 ex24)⟩ (mu_up (q1408 i1u3 r_x15 c16 ex17 ex18 c23 ex24) (q1409 i1u3 r_x15 c16 ex17 ex18 c23 ex24))
    · refine ⟨o_v0, ?_⟩
      intro x25 ex25
      have d_x25 := ex25
      intro x26 ex26
      intro S27 eS27
      have hI : IV S27 := by rw [eS27]; exact iv_sI hI o_v0 (by decide) (nu_free (by decide))
      have f0 := fr_I eS27 g0 f0 o_v0 (by decide)
      have fL6 := fr_I eS27 gL5 fL6 o_v0 (by decide)
      have d_x15 := rd_Ik eS27 o_v0 o_v1 (by decide) d_x15
      have d_x22 := rd_Ik eS27 o_v0 o_a20 (by decide) d_x22
      have d_x26 := rd_Is eS27 (rfl : x26 = x26)
      have ea19 := rf_I eS27 ea19
      have l_a19 := ln_I eS27 l_a19
      have g0 := gr_I eS27 g0
      have gL5 := gr_I eS27 gL5
      have o_a19 := ob_I eS27 o_a19
      have o_a20 := ob_I eS27 o_a20
      have o_v0 := ob_I eS27 o_v0
      have o_v1 := ob_I eS27 o_v1
      refine u_X0_draw_60 ?_
      intro x28 ex28
      exact ih14 _ _ _ _ _ ⟨hI, gL5, fL6, rfl, rfl, (q1410 i1u3 r_x15 c16 ex17 ex18 c23 ex26 ex28)⟩ (mu_up (q1411 i1u3 r_x15 c16 ex17 ex18 c23 ex26 ex28) (q1412 i1u3 r_x15 c16 ex17 ex18 c23 ex26 ex28))
set_option maxHeartbeats 4000000 in
set_option maxRecDepth 20000 in
theorem m_X0_isOn {v0 : Nat} {Q : Int32 → HS → Prop} {S : HS} (hI : IV S) (o_v0 : ob S v0 0)     (hq : ∀ (r : Int32) (T : HS), IV T → Gr S T → bl r → (S = T) → Q r T) : P_X0_isOn v0 Q S := by
  have g0 := gr_rf S
  refine u_X0_isOn ?_
  refine u_X0_isOn_0 ?_
  refine ⟨o_v0, ?_⟩
  intro x1 ex1
  have r_x1 : (-1 : Int32) ≤ x1 ∧ x1 ≤ (3 : Int32) := by rw [ex1]; exact nu 1 rfl hI o_v0
  have d_x1 := ex1
  refine ⟨fun c2 => ?_, fun c2 => ?_⟩
  · exact hq _ _ hI g0 (Or.inl rfl) rfl
  · exact hq _ _ hI g0 (Or.inr rfl) rfl
set_option maxHeartbeats 4000000 in
set_option maxRecDepth 20000 in
theorem m_X2_copy {v0 : Nat} {v1 : Nat} {Q : HS → Prop} {S : HS} (hI : IV S) (o_v0 : ob S v0 2) (o_v1 : ob S v1 2)     (hq : ∀ (T : HS), IV T → Gr S T → FRI [(2, 0), (2, 1)] [] S T → Q T) : P_X2_copy v0 v1 Q S := by
  have g0 := gr_rf S
  have f0 := fri_rf [(2, 0), (2, 1)] [] S
  refine u_X2_copy ?_
  refine u_X2_copy_0 ?_
  refine ⟨o_v1, ?_⟩
  intro x1 ex1
  have d_x1 := ex1
  refine ⟨o_v0, ?_⟩
  intro S2 eS2
  have hI : IV S2 := by rw [eS2]; exact iv_sI hI o_v0 (by decide) (nu_free (by decide))
  have f0 := fr_I eS2 g0 f0 o_v0 (by decide)
  obtain ⟨y3, hy3⟩ : ∃ z : Int32, z = x1 := ⟨_, rfl⟩
  have d_y3 := rd_Is eS2 hy3
  have g0 := gr_I eS2 g0
  have o_v0 := ob_I eS2 o_v0
  have o_v1 := ob_I eS2 o_v1
  intro x4 ex4
  have d_x4 := ex4
  intro S5 eS5
  have hI : IV S5 := by rw [eS5]; exact iv_sI hI o_v0 (by decide) (nu_free (by decide))
  have f0 := fr_I eS5 g0 f0 o_v0 (by decide)
  have d_y3 := rd_Ij eS5 (by decide) d_y3
  obtain ⟨y6, hy6⟩ : ∃ z : Int32, z = x4 := ⟨_, rfl⟩
  have d_y6 := rd_Is eS5 hy6
  have g0 := gr_I eS5 g0
  have o_v0 := ob_I eS5 o_v0
  have o_v1 := ob_I eS5 o_v1
  refine i_X2_copy_18 (fun (y0 : Nat) (y1 : Nat) (y2 : Int32) (Z : HS) => ((5 : Int32).toInt - y2.toInt).toNat) (fun (y0 : Nat) (y1 : Nat) (y2 : Int32) (Z : HS) => (IV Z) ∧ (Gr S5 Z) ∧ (FRI [] [] S5 Z) ∧ (v0 = y0) ∧ (v1 = y1) ∧ (0 ≤ y2 ∧ y2 ≤ 5)) ?_ _ _ _ _ ⟨hI, (gr_rf _), (fri_rf _ _ _), rfl, rfl, (q1047)⟩
  intro w11 w13 w15 S8 X16 ⟨hI, gL9, fL10, q12, q14, i1u7⟩ ih17
  subst q12
  subst q14
  have d_y3 := d_y3.trans (fri_at fL10 (by decide) (by decide) o_v0).symm
  have d_y6 := d_y6.trans (fri_at fL10 (by decide) (by decide) o_v0).symm
  have f0 := fri_tr (S := S5) g0 f0 fL10 (by decide) (by decide)
  have o_v0 := gr_ob gL9 o_v0
  have o_v1 := gr_ob gL9 o_v1
  have g0 := gr_tr (T := S5) g0 gL9
  refine u_X2_copy_18 ?_
  refine ⟨fun c18 => ?_, fun c18 => ?_⟩
  · exact hq _ hI g0 f0
  · refine ⟨o_v0, ?_⟩
    obtain ⟨a19, ea19, o_a19, l_a19⟩ := shl 11 rfl hI o_v0
    refine ⟨a19, ea19, ?_⟩
    refine ⟨o_v1, ?_⟩
    obtain ⟨a20, ea20, o_a20, l_a20⟩ := shl 11 rfl hI o_v1
    refine ⟨a20, ea20, ?_⟩
    refine ⟨o_a20, ?_⟩
    refine ⟨(vin l_a20 (m := 5) (by decide) (q1048 i1u7 c18)), ?_⟩
    intro x21 ex21
    refine ⟨o_a19, ?_⟩
    have i22 : vp_in w15 (hN _ a19) := (vin l_a19 (m := 5) (by decide) (q1048 i1u7 c18))
    refine ⟨i22, ?_⟩
    intro S23 eS23
    have hI : IV S23 := by rw [eS23]; exact iv_aJ hI o_v0 (by decide) ea19 o_a19 (by decide)
    have f0 := fr_J eS23 f0
    have fL10 := fr_J eS23 fL10
    have d_y3 := rd_J eS23 d_y3
    have d_y6 := rd_J eS23 d_y6
    have ea19 := rf_J eS23 ea19
    have ea20 := rf_J eS23 ea20
    have l_a19 := ln_J eS23 l_a19
    have l_a20 := ln_J eS23 l_a20
    have g0 := gr_J eS23 g0
    have gL9 := gr_J eS23 gL9
    have o_a19 := ob_J eS23 o_a19
    have o_a20 := ob_J eS23 o_a20
    have o_v0 := ob_J eS23 o_v0
    have o_v1 := ob_J eS23 o_v1
    intro x24 ex24
    exact ih17 _ _ _ _ ⟨hI, gL9, fL10, rfl, rfl, (q1049 i1u7 c18 ex24)⟩ (mu_up (q1050 i1u7 c18 ex24) (q1051 i1u7 c18 ex24))
set_option maxHeartbeats 4000000 in
set_option maxRecDepth 20000 in
theorem m_X0_keepForUndo {v0 : Nat} {Q : HS → Prop} {S : HS} (hI : IV S) (o_v0 : ob S v0 0)     (hq : ∀ (T : HS), IV T → Gr S T → FRI [(0, 2), (2, 0), (2, 1)] [] S T → Q T) : P_X0_keepForUndo v0 Q S := by
  have g0 := gr_rf S
  have f0 := fri_rf [(0, 2), (2, 0), (2, 1)] [] S
  refine u_X0_keepForUndo ?_
  refine u_X0_keepForUndo_0 ?_
  refine ⟨o_v0, ?_⟩
  intro x1 ex1
  have r_x1 : (0 : Int32) ≤ x1 ∧ x1 ≤ (16 : Int32) := by rw [ex1]; exact nu 2 rfl hI o_v0
  have d_x1 := ex1
  refine ⟨fun c2 => ?_, fun c2 => ?_⟩
  · refine u_X0_keepForUndo_58 ?_
    refine ⟨o_v0, ?_⟩
    obtain ⟨a3, ea3, o_a3, l_a3⟩ := shl 7 rfl hI o_v0
    refine ⟨a3, ea3, ?_⟩
    intro x4 ex4
    have r_x4 : (0 : Int32) ≤ x4 ∧ x4 ≤ (16 : Int32) := by rw [ex4]; exact nu 2 rfl hI o_v0
    have q_x4 : x4 = x1 := ex4.trans d_x1.symm
    have d_x4 := ex4
    refine ⟨o_a3, ?_⟩
    have i6 : vp_in x4 (hN _ a3) := (vin l_a3 (m := 16) (by decide) (q1107 r_x1 c2 r_x4 q_x4))
    obtain ⟨a5, ea5, o_a5⟩ := ae hI o_a3 (by decide) (by decide) i6
    replace o_a5 : ob _ a5 2 := o_a5
    refine ⟨i6, a5, ea5, ?_⟩
    obtain ⟨a7, ea7, o_a7, -⟩ := sh 6 rfl hI o_v0
    refine ⟨a7, ea7, ?_⟩
    refine ⟨o_a5, ?_⟩
    refine m_X2_copy hI o_a5 o_a7 (fun S9 hJ g10 fc11 => ?_)
    have hI := hJ
    have l_a3 := (gr_len g10 o_a3).trans l_a3
    have d_x4 := d_x4.trans (fri_at fc11 (by decide) (by decide) o_v0).symm
    have ea3 := (frr_at fc11 (by decide) (by decide) o_v0).trans ea3
    have ea7 := (frr_at fc11 (by decide) (by decide) o_v0).trans ea7
    have f0 := fri_tr (S := S) g0 f0 fc11 (by decide) (by decide)
    have o_a3 := gr_ob g10 o_a3
    have o_a5 := gr_ob g10 o_a5
    have o_a7 := gr_ob g10 o_a7
    have o_v0 := gr_ob g10 o_v0
    have g0 := gr_tr (T := S) g0 g10
    intro _
    intro x12 ex12
    have r_x12 : (0 : Int32) ≤ x12 ∧ x12 ≤ (16 : Int32) := by rw [ex12]; exact nu 2 rfl hI o_v0
    have q_x12 : x12 = x4 := ex12.trans d_x4.symm
    have d_x12 := ex12
    intro x13 ex13
    intro S14 eS14
    have hI : IV S14 := by rw [eS14]; exact iv_sI hI o_v0 (by decide) (nu_one (lo := (0 : Int32)) (hi := (16 : Int32)) (by decide) (q1108 r_x1 c2 r_x4 q_x4 r_x12 q_x12 ex13))
    have f0 := fr_I eS14 g0 f0 o_v0 (by decide)
    have d_x13 := rd_Is eS14 (rfl : x13 = x13)
    have ea3 := rf_I eS14 ea3
    have ea7 := rf_I eS14 ea7
    have l_a3 := ln_I eS14 l_a3
    have g0 := gr_I eS14 g0
    have o_a3 := ob_I eS14 o_a3
    have o_a5 := ob_I eS14 o_a5
    have o_a7 := ob_I eS14 o_a7
    have o_v0 := ob_I eS14 o_v0
    exact hq _ hI g0 f0
  · obtain ⟨a15, ea15, o_a15, l_a15⟩ := shl 7 rfl hI o_v0
    refine ⟨a15, ea15, ?_⟩
    refine ⟨o_a15, ?_⟩
    have i17 : vp_in (0 : Int32) (hN _ a15) := (vin l_a15 (m := 16) (by decide) (q1109 r_x1 c2))
    obtain ⟨a16, ea16, o_a16⟩ := ae hI o_a15 (by decide) (by decide) i17
    replace o_a16 : ob _ a16 2 := o_a16
    refine ⟨i17, a16, ea16, ?_⟩
    refine i_X0_keepForUndo_18 (fun (y0 : Nat) (y1 : Nat) (y2 : Int32) (Z : HS) => ((16 : Int32).toInt - y2.toInt).toNat) (fun (y0 : Nat) (y1 : Nat) (y2 : Int32) (Z : HS) => (IV Z) ∧ (Gr S Z) ∧ (FRI [] [] S Z) ∧ (v0 = y0) ∧ (a16 = y1) ∧ (1 ≤ y2 ∧ y2 ≤ 16)) ?_ _ _ _ _ ⟨hI, (gr_rf _), (fri_rf _ _ _), rfl, rfl, (q1110 r_x1 c2)⟩
    intro w22 w24 w26 S19 X27 ⟨hI, gL20, fL21, q23, q25, i1u18⟩ ih28
    subst q23
    subst q25
    have l_a15 := (gr_len gL20 o_a15).trans l_a15
    have d_x1 := d_x1.trans (fri_at fL21 (by decide) (by decide) o_v0).symm
    have ea15 := (frr_at fL21 (by decide) (by decide) o_v0).trans ea15
    have f0 := fri_tr (S := S) g0 f0 fL21 (by decide) (by decide)
    have o_a15 := gr_ob gL20 o_a15
    have o_a16 := gr_ob gL20 o_a16
    have o_v0 := gr_ob gL20 o_v0
    have g0 := gr_tr (T := S) g0 gL20
    refine u_X0_keepForUndo_18 ?_
    refine ⟨fun c29 => ?_, fun c29 => ?_⟩
    · refine ⟨o_v0, ?_⟩
      refine ⟨a15, ea15, ?_⟩
      refine ⟨o_a15, ?_⟩
      refine ⟨o_a16, ?_⟩
      have i31 : vp_in (15 : Int32) (hN _ a15) := (vin l_a15 (m := 16) (by decide) (q1111 r_x1 c2 i1u18 c29))
      refine ⟨i31, ?_⟩
      intro S32 eS32
      have hI : IV S32 := by rw [eS32]; exact iv_aR hI o_a15 (by decide) (by decide) o_a16
      have f0 := fr_AR eS32 g0 f0 o_a15 (by decide)
      have d_x1 := rd_R eS32 d_x1
      have ea15 := rf_Rk eS32 o_a15 o_v0 (by decide) ea15
      have l_a15 := ln_R eS32 l_a15
      have g0 := gr_R eS32 g0
      have o_a15 := ob_R eS32 o_a15
      have o_a16 := ob_R eS32 o_a16
      have o_v0 := ob_R eS32 o_v0
      intro S33 eS33
      have hI : IV S33 := by rw [eS33]; exact iv_sI hI o_v0 (by decide) (nu_one (lo := (0 : Int32)) (hi := (16 : Int32)) (by decide) (q1112 r_x1 c2 i1u18 c29))
      have f0 := fr_I eS33 g0 f0 o_v0 (by decide)
      obtain ⟨y34, hy34⟩ : ∃ z : Int32, z = (15 : Int32) := ⟨_, rfl⟩
      have d_y34 := rd_Is eS33 hy34
      have ea15 := rf_I eS33 ea15
      have l_a15 := ln_I eS33 l_a15
      have g0 := gr_I eS33 g0
      have o_a15 := ob_I eS33 o_a15
      have o_a16 := ob_I eS33 o_a16
      have o_v0 := ob_I eS33 o_v0
      refine u_X0_keepForUndo_58 ?_
      refine ⟨o_v0, ?_⟩
      refine ⟨a15, ea15, ?_⟩
      intro x36 ex36
      have r_x36 : (0 : Int32) ≤ x36 ∧ x36 ≤ (16 : Int32) := by rw [ex36]; exact nu 2 rfl hI o_v0
      have q_x36 : x36 = y34 := ex36.trans d_y34.symm
      have d_x36 := ex36
      refine ⟨o_a15, ?_⟩
      have i38 : vp_in x36 (hN _ a15) := (vin l_a15 (m := 16) (by decide) (q1113 r_x1 c2 i1u18 c29 hy34 r_x36 q_x36))
      obtain ⟨a37, ea37, o_a37⟩ := ae hI o_a15 (by decide) (by decide) i38
      replace o_a37 : ob _ a37 2 := o_a37
      refine ⟨i38, a37, ea37, ?_⟩
      obtain ⟨a39, ea39, o_a39, -⟩ := sh 6 rfl hI o_v0
      refine ⟨a39, ea39, ?_⟩
      refine ⟨o_a37, ?_⟩
      refine m_X2_copy hI o_a37 o_a39 (fun S41 hJ g42 fc43 => ?_)
      have hI := hJ
      have l_a15 := (gr_len g42 o_a15).trans l_a15
      have d_x36 := d_x36.trans (fri_at fc43 (by decide) (by decide) o_v0).symm
      have ea15 := (frr_at fc43 (by decide) (by decide) o_v0).trans ea15
      have ea39 := (frr_at fc43 (by decide) (by decide) o_v0).trans ea39
      have f0 := fri_tr (S := S33) g0 f0 fc43 (by decide) (by decide)
      have o_a15 := gr_ob g42 o_a15
      have o_a16 := gr_ob g42 o_a16
      have o_a37 := gr_ob g42 o_a37
      have o_a39 := gr_ob g42 o_a39
      have o_v0 := gr_ob g42 o_v0
      have g0 := gr_tr (T := S33) g0 g42
      intro _
      intro x44 ex44
      have r_x44 : (0 : Int32) ≤ x44 ∧ x44 ≤ (16 : Int32) := by rw [ex44]; exact nu 2 rfl hI o_v0
      have q_x44 : x44 = x36 := ex44.trans d_x36.symm
      have d_x44 := ex44
      intro x45 ex45
      intro S46 eS46
      have hI : IV S46 := by rw [eS46]; exact iv_sI hI o_v0 (by decide) (nu_one (lo := (0 : Int32)) (hi := (16 : Int32)) (by decide) (q1114 r_x1 c2 i1u18 c29 hy34 r_x36 q_x36 r_x44 q_x44 ex45))
      have f0 := fr_I eS46 g0 f0 o_v0 (by decide)
      have d_x45 := rd_Is eS46 (rfl : x45 = x45)
      have ea15 := rf_I eS46 ea15
      have ea39 := rf_I eS46 ea39
      have l_a15 := ln_I eS46 l_a15
      have g0 := gr_I eS46 g0
      have o_a15 := ob_I eS46 o_a15
      have o_a16 := ob_I eS46 o_a16
      have o_a37 := ob_I eS46 o_a37
      have o_a39 := ob_I eS46 o_a39
      have o_v0 := ob_I eS46 o_v0
      exact hq _ hI g0 f0
    · refine ⟨o_v0, ?_⟩
      refine ⟨a15, ea15, ?_⟩
      refine ⟨a15, ea15, ?_⟩
      refine ⟨o_a15, ?_⟩
      have i50 : vp_in w26 (hN _ a15) := (vin l_a15 (m := 16) (by decide) (q1115 r_x1 c2 i1u18 c29))
      obtain ⟨a49, ea49, o_a49⟩ := ae hI o_a15 (by decide) (by decide) i50
      replace o_a49 : ob _ a49 2 := o_a49
      refine ⟨i50, a49, ea49, ?_⟩
      refine ⟨o_a15, ?_⟩
      refine ⟨o_a49, ?_⟩
      have i51 : vp_in (w26 - (1 : Int32)) (hN _ a15) := (vin l_a15 (m := 16) (by decide) (q1116 r_x1 c2 i1u18 c29))
      refine ⟨i51, ?_⟩
      intro S52 eS52
      have hI : IV S52 := by rw [eS52]; exact iv_aR hI o_a15 (by decide) (by decide) o_a49
      have f0 := fr_AR eS52 g0 f0 o_a15 (by decide)
      have fL21 := fr_AR eS52 gL20 fL21 o_a15 (by decide)
      have d_x1 := rd_R eS52 d_x1
      have ea15 := rf_Rk eS52 o_a15 o_v0 (by decide) ea15
      have l_a15 := ln_R eS52 l_a15
      have g0 := gr_R eS52 g0
      have gL20 := gr_R eS52 gL20
      have o_a15 := ob_R eS52 o_a15
      have o_a16 := ob_R eS52 o_a16
      have o_a49 := ob_R eS52 o_a49
      have o_v0 := ob_R eS52 o_v0
      intro x53 ex53
      exact ih28 _ _ _ _ ⟨hI, gL20, fL21, rfl, rfl, (q1117 r_x1 c2 i1u18 c29 ex53)⟩ (mu_up (q1118 r_x1 c2 i1u18 c29 ex53) (q1119 r_x1 c2 i1u18 c29 ex53))
set_option maxHeartbeats 4000000 in
set_option maxRecDepth 20000 in
theorem m_X0_rainsIn {v0 : Nat} {v1 : Int32} {Q : Int32 → HS → Prop} {S : HS} (hI : IV S) (o_v0 : ob S v0 0)     (hq : ∀ (r : Int32) (T : HS), IV T → Gr S T → bl r → (S = T) → Q r T) : P_X0_rainsIn v0 v1 Q S := by
  have g0 := gr_rf S
  refine u_X0_rainsIn ?_
  refine u_X0_rainsIn_0 ?_
  refine ⟨fun c1 => ?_, fun c1 => ?_⟩
  · exact hq _ _ hI g0 (Or.inl rfl) rfl
  · refine ⟨fun c2 => ?_, fun c2 => ?_⟩
    · exact hq _ _ hI g0 (Or.inl rfl) rfl
    · refine ⟨o_v0, ?_⟩
      intro x3 ex3
      have d_x3 := ex3
      refine ⟨fun c4 => ?_, fun c4 => ?_⟩
      · exact hq _ _ hI g0 (Or.inl rfl) rfl
      · exact hq _ _ hI g0 (Or.inr rfl) rfl
set_option maxHeartbeats 4000000 in
set_option maxRecDepth 20000 in
theorem m_X0_returnTo {v0 : Nat} {v1 : Int32} {Q : Int32 → HS → Prop} {S : HS} (hI : IV S) (o_v0 : ob S v0 0)     (hq : ∀ (r : Int32) (T : HS), IV T → Gr S T → FRI [(0, 2), (2, 0), (2, 1)] [] S T → bl r → Q r T) : P_X0_returnTo v0 v1 Q S := by
  have g0 := gr_rf S
  have f0 := fri_rf [(0, 2), (2, 0), (2, 1)] [] S
  refine u_X0_returnTo ?_
  refine u_X0_returnTo_0 ?_
  refine ⟨fun c1 => ?_, fun c1 => ?_⟩
  · exact hq _ _ hI g0 f0 (Or.inl rfl)
  · refine ⟨o_v0, ?_⟩
    intro x2 ex2
    have r_x2 : (0 : Int32) ≤ x2 ∧ x2 ≤ (3 : Int32) := by rw [ex2]; exact nu 3 rfl hI o_v0
    have d_x2 := ex2
    refine ⟨fun c3 => ?_, fun c3 => ?_⟩
    · obtain ⟨a4, ea4, o_a4, -⟩ := sh 6 rfl hI o_v0
      refine ⟨a4, ea4, ?_⟩
      obtain ⟨a5, ea5, o_a5, l_a5⟩ := shl 8 rfl hI o_v0
      refine ⟨a5, ea5, ?_⟩
      refine ⟨o_a5, ?_⟩
      have i7 : vp_in v1 (hN _ a5) := (vin l_a5 (m := 3) (by decide) (q1417 c1 r_x2 c3))
      obtain ⟨a6, ea6, o_a6⟩ := ae hI o_a5 (by decide) (by decide) i7
      replace o_a6 : ob _ a6 2 := o_a6
      refine ⟨i7, a6, ea6, ?_⟩
      refine ⟨o_a4, ?_⟩
      refine m_X2_copy hI o_a4 o_a6 (fun S9 hJ g10 fc11 => ?_)
      have hI := hJ
      have l_a5 := (gr_len g10 o_a5).trans l_a5
      have d_x2 := d_x2.trans (fri_at fc11 (by decide) (by decide) o_v0).symm
      have ea4 := (frr_at fc11 (by decide) (by decide) o_v0).trans ea4
      have ea5 := (frr_at fc11 (by decide) (by decide) o_v0).trans ea5
      have f0 := fri_tr (S := S) g0 f0 fc11 (by decide) (by decide)
      have o_a4 := gr_ob g10 o_a4
      have o_a5 := gr_ob g10 o_a5
      have o_a6 := gr_ob g10 o_a6
      have o_v0 := gr_ob g10 o_v0
      have g0 := gr_tr (T := S) g0 g10
      intro _
      intro S12 eS12
      have hI : IV S12 := by rw [eS12]; exact iv_sI hI o_v0 (by decide) (nu_one (lo := (0 : Int32)) (hi := (16 : Int32)) (by decide) (q1418 c1 r_x2 c3))
      have f0 := fr_I eS12 g0 f0 o_v0 (by decide)
      have d_x2 := rd_Ij eS12 (by decide) d_x2
      obtain ⟨y13, hy13⟩ : ∃ z : Int32, z = (0 : Int32) := ⟨_, rfl⟩
      have d_y13 := rd_Is eS12 hy13
      have ea4 := rf_I eS12 ea4
      have ea5 := rf_I eS12 ea5
      have l_a5 := ln_I eS12 l_a5
      have g0 := gr_I eS12 g0
      have o_a4 := ob_I eS12 o_a4
      have o_a5 := ob_I eS12 o_a5
      have o_a6 := ob_I eS12 o_a6
      have o_v0 := ob_I eS12 o_v0
      exact hq _ _ hI g0 f0 (Or.inr rfl)
    · exact hq _ _ hI g0 f0 (Or.inl rfl)
set_option maxHeartbeats 4000000 in
set_option maxRecDepth 20000 in
theorem m_X0_setMark {v0 : Nat} {Q : Int32 → HS → Prop} {S : HS} (hI : IV S) (o_v0 : ob S v0 0)     (hq : ∀ (r : Int32) (T : HS), IV T → Gr S T → FRI [(0, 3), (2, 0), (2, 1)] [] S T → Q r T) : P_X0_setMark v0 Q S := by
  have g0 := gr_rf S
  have f0 := fri_rf [(0, 3), (2, 0), (2, 1)] [] S
  refine u_X0_setMark ?_
  refine u_X0_setMark_0 ?_
  refine ⟨o_v0, ?_⟩
  intro x1 ex1
  have r_x1 : (0 : Int32) ≤ x1 ∧ x1 ≤ (3 : Int32) := by rw [ex1]; exact nu 3 rfl hI o_v0
  have d_x1 := ex1
  refine ⟨fun c2 => ?_, fun c2 => ?_⟩
  · obtain ⟨a3, ea3, o_a3, l_a3⟩ := shl 8 rfl hI o_v0
    refine ⟨a3, ea3, ?_⟩
    intro x4 ex4
    have r_x4 : (0 : Int32) ≤ x4 ∧ x4 ≤ (3 : Int32) := by rw [ex4]; exact nu 3 rfl hI o_v0
    have q_x4 : x4 = x1 := ex4.trans d_x1.symm
    have d_x4 := ex4
    refine ⟨o_a3, ?_⟩
    have i6 : vp_in x4 (hN _ a3) := (vin l_a3 (m := 3) (by decide) (q1309 r_x1 c2 r_x4 q_x4))
    obtain ⟨a5, ea5, o_a5⟩ := ae hI o_a3 (by decide) (by decide) i6
    replace o_a5 : ob _ a5 2 := o_a5
    refine ⟨i6, a5, ea5, ?_⟩
    obtain ⟨a7, ea7, o_a7, -⟩ := sh 6 rfl hI o_v0
    refine ⟨a7, ea7, ?_⟩
    refine ⟨o_a5, ?_⟩
    refine m_X2_copy hI o_a5 o_a7 (fun S9 hJ g10 fc11 => ?_)
    have hI := hJ
    have l_a3 := (gr_len g10 o_a3).trans l_a3
    have d_x4 := d_x4.trans (fri_at fc11 (by decide) (by decide) o_v0).symm
    have ea3 := (frr_at fc11 (by decide) (by decide) o_v0).trans ea3
    have ea7 := (frr_at fc11 (by decide) (by decide) o_v0).trans ea7
    have f0 := fri_tr (S := S) g0 f0 fc11 (by decide) (by decide)
    have o_a3 := gr_ob g10 o_a3
    have o_a5 := gr_ob g10 o_a5
    have o_a7 := gr_ob g10 o_a7
    have o_v0 := gr_ob g10 o_v0
    have g0 := gr_tr (T := S) g0 g10
    intro _
    intro x12 ex12
    have r_x12 : (0 : Int32) ≤ x12 ∧ x12 ≤ (3 : Int32) := by rw [ex12]; exact nu 3 rfl hI o_v0
    have q_x12 : x12 = x4 := ex12.trans d_x4.symm
    have d_x12 := ex12
    intro x13 ex13
    intro S14 eS14
    have hI : IV S14 := by rw [eS14]; exact iv_sI hI o_v0 (by decide) (nu_one (lo := (0 : Int32)) (hi := (3 : Int32)) (by decide) (q1310 r_x1 c2 r_x4 q_x4 r_x12 q_x12 ex13))
    have f0 := fr_I eS14 g0 f0 o_v0 (by decide)
    have d_x13 := rd_Is eS14 (rfl : x13 = x13)
    have ea3 := rf_I eS14 ea3
    have ea7 := rf_I eS14 ea7
    have l_a3 := ln_I eS14 l_a3
    have g0 := gr_I eS14 g0
    have o_a3 := ob_I eS14 o_a3
    have o_a5 := ob_I eS14 o_a5
    have o_a7 := ob_I eS14 o_a7
    have o_v0 := ob_I eS14 o_v0
    intro x15 ex15
    have r_x15 : (0 : Int32) ≤ x15 ∧ x15 ≤ (3 : Int32) := by rw [ex15]; exact nu 3 rfl hI o_v0
    have q_x15 : x15 = x13 := ex15.trans d_x13.symm
    have d_x15 := ex15
    exact hq _ _ hI g0 f0
  · exact hq _ _ hI g0 f0
set_option maxHeartbeats 4000000 in
set_option maxRecDepth 20000 in
theorem m_X0_takeBack {v0 : Nat} {Q : Int32 → HS → Prop} {S : HS} (hI : IV S) (o_v0 : ob S v0 0)     (hq : ∀ (r : Int32) (T : HS), IV T → Gr S T → FRI [(0, 2), (2, 0), (2, 1)] [] S T → bl r → Q r T) : P_X0_takeBack v0 Q S := by
  have g0 := gr_rf S
  have f0 := fri_rf [(0, 2), (2, 0), (2, 1)] [] S
  refine u_X0_takeBack ?_
  refine u_X0_takeBack_0 ?_
  refine ⟨o_v0, ?_⟩
  intro x1 ex1
  have r_x1 : (0 : Int32) ≤ x1 ∧ x1 ≤ (16 : Int32) := by rw [ex1]; exact nu 2 rfl hI o_v0
  have d_x1 := ex1
  refine ⟨fun c2 => ?_, fun c2 => ?_⟩
  · intro x3 ex3
    have r_x3 : (0 : Int32) ≤ x3 ∧ x3 ≤ (16 : Int32) := by rw [ex3]; exact nu 2 rfl hI o_v0
    have q_x3 : x3 = x1 := ex3.trans d_x1.symm
    have d_x3 := ex3
    intro x4 ex4
    intro S5 eS5
    have hI : IV S5 := by rw [eS5]; exact iv_sI hI o_v0 (by decide) (nu_one (lo := (0 : Int32)) (hi := (16 : Int32)) (by decide) (q1045 r_x1 c2 r_x3 q_x3 ex4))
    have f0 := fr_I eS5 g0 f0 o_v0 (by decide)
    have d_x4 := rd_Is eS5 (rfl : x4 = x4)
    have g0 := gr_I eS5 g0
    have o_v0 := ob_I eS5 o_v0
    obtain ⟨a6, ea6, o_a6, -⟩ := sh 6 rfl hI o_v0
    refine ⟨a6, ea6, ?_⟩
    obtain ⟨a7, ea7, o_a7, l_a7⟩ := shl 7 rfl hI o_v0
    refine ⟨a7, ea7, ?_⟩
    intro x8 ex8
    have r_x8 : (0 : Int32) ≤ x8 ∧ x8 ≤ (16 : Int32) := by rw [ex8]; exact nu 2 rfl hI o_v0
    have q_x8 : x8 = x4 := ex8.trans d_x4.symm
    have d_x8 := ex8
    refine ⟨o_a7, ?_⟩
    have i10 : vp_in x8 (hN _ a7) := (vin l_a7 (m := 16) (by decide) (q1046 r_x1 c2 r_x3 q_x3 ex4 r_x8 q_x8))
    obtain ⟨a9, ea9, o_a9⟩ := ae hI o_a7 (by decide) (by decide) i10
    replace o_a9 : ob _ a9 2 := o_a9
    refine ⟨i10, a9, ea9, ?_⟩
    refine ⟨o_a6, ?_⟩
    refine m_X2_copy hI o_a6 o_a9 (fun S12 hJ g13 fc14 => ?_)
    have hI := hJ
    have l_a7 := (gr_len g13 o_a7).trans l_a7
    have d_x8 := d_x8.trans (fri_at fc14 (by decide) (by decide) o_v0).symm
    have ea6 := (frr_at fc14 (by decide) (by decide) o_v0).trans ea6
    have ea7 := (frr_at fc14 (by decide) (by decide) o_v0).trans ea7
    have f0 := fri_tr (S := S5) g0 f0 fc14 (by decide) (by decide)
    have o_a6 := gr_ob g13 o_a6
    have o_a7 := gr_ob g13 o_a7
    have o_a9 := gr_ob g13 o_a9
    have o_v0 := gr_ob g13 o_v0
    have g0 := gr_tr (T := S5) g0 g13
    intro _
    exact hq _ _ hI g0 f0 (Or.inr rfl)
  · exact hq _ _ hI g0 f0 (Or.inl rfl)
set_option maxHeartbeats 4000000 in
set_option maxRecDepth 20000 in
theorem m_X5_turnOf {v0 : Nat} {v1 : Int32} {v2 : Nat} {Q : Int32 → HS → Prop} {S : HS} (hI : IV S) (o_v0 : ob S v0 5) (o_v2 : ob S v2 3)     (hq : ∀ (r : Int32) (T : HS), IV T → Gr S T → (S = T) → Q r T) : P_X5_turnOf v0 v1 v2 Q S := by
  have g0 := gr_rf S
  refine u_X5_turnOf ?_
  refine u_X5_turnOf_0 ?_
  refine ⟨fun c1 => ?_, fun c1 => ?_⟩
  · refine ⟨o_v0, ?_⟩
    intro x2 ex2
    have d_x2 := ex2
    refine u_X5_turnOf_17 ?_
    refine ⟨o_v2, ?_⟩
    intro x3 ex3
    have d_x3 := ex3
    exact hq _ _ hI g0 rfl
  · refine ⟨o_v0, ?_⟩
    intro x4 ex4
    have d_x4 := ex4
    refine u_X5_turnOf_17 ?_
    refine ⟨o_v2, ?_⟩
    intro x5 ex5
    have d_x5 := ex5
    exact hq _ _ hI g0 rfl
set_option maxHeartbeats 4000000 in
set_option maxRecDepth 20000 in
theorem m_X5_airAlong {v0 : Nat} {v1 : Int32} {v2 : Nat} {Q : Int32 → HS → Prop} {S : HS} (hI : IV S) (o_v0 : ob S v0 5) (o_v2 : ob S v2 3)     (hq : ∀ (r : Int32) (T : HS), IV T → Gr S T → (S = T) → Q r T) : P_X5_airAlong v0 v1 v2 Q S := by
  have g0 := gr_rf S
  refine u_X5_airAlong ?_
  refine u_X5_airAlong_0 ?_
  refine ⟨o_v0, ?_⟩
  refine m_X5_turnOf hI o_v0 o_v2 (fun x1 S2 hI2 g3 p_x1 => ?_)
  subst p_x1
  intro _
  refine ⟨fun c5 => ?_, fun c5 => ?_⟩
  · refine ⟨fun c6 => ?_, fun c6 => ?_⟩
    · exact hq _ _ hI g0 rfl
    · refine ⟨o_v2, ?_⟩
      intro x7 ex7
      have d_x7 := ex7
      exact hq _ _ hI g0 rfl
  · refine ⟨o_v2, ?_⟩
    intro x8 ex8
    have d_x8 := ex8
    exact hq _ _ hI g0 rfl
set_option maxHeartbeats 4000000 in
set_option maxRecDepth 20000 in
theorem m_X1_lay {v0 : Nat} {v1 : Nat} {v2 : Int32} {v3 : Nat} {v4 : Int32} {Q : HS → Prop} {S : HS} (hI : IV S) (o_v0 : ob S v0 1) (o_v1 : ob S v1 5) (o_v3 : ob S v3 3)     (hq : ∀ (T : HS), IV T → Gr S T → FRI [] [] S T → Q T) : P_X1_lay v0 v1 v2 v3 v4 Q S := by
  have g0 := gr_rf S
  have f0 := fri_rf [] [] S
  refine u_X1_lay ?_
  refine u_X1_lay_0 ?_
  refine ⟨fun c1 => ?_, fun c1 => ?_⟩
  · refine u_X1_lay_27 ?_
    refine ⟨o_v3, ?_⟩
    intro x2 ex2
    have d_x2 := ex2
    intro x3 ex3
    refine ⟨o_v1, ?_⟩
    refine m_X5_turnOf hI o_v1 o_v3 (fun x4 S5 hI2 g6 p_x4 => ?_)
    subst p_x4
    intro _
    refine m_X5_airAlong hI o_v1 o_v3 (fun x8 S9 hI2 g10 p_x8 => ?_)
    subst p_x8
    intro _
    refine ⟨o_v0, ?_⟩
    obtain ⟨a12, ea12, o_a12, l_a12⟩ := shl 10 rfl hI o_v0
    refine ⟨a12, ea12, ?_⟩
    intro x13 ex13
    have d_x13 := ex13
    refine ⟨o_a12, ?_⟩
    intro x14 ex14
    have i15 : vp_in (0 : Int32) (hN _ a12) := (vin l_a12 (m := 5) (by decide) (q55 c1))
    refine ⟨i15, ?_⟩
    intro S16 eS16
    have hI : IV S16 := by rw [eS16]; exact iv_aJ hI o_v0 (by decide) ea12 o_a12 (by decide)
    have f0 := fr_J eS16 f0
    have d_x2 := rd_J eS16 d_x2
    have d_x13 := rd_J eS16 d_x13
    have ea12 := rf_J eS16 ea12
    have l_a12 := ln_J eS16 l_a12
    have g0 := gr_J eS16 g0
    have o_a12 := ob_J eS16 o_a12
    have o_v0 := ob_J eS16 o_v0
    have o_v1 := ob_J eS16 o_v1
    have o_v3 := ob_J eS16 o_v3
    refine ⟨a12, ea12, ?_⟩
    intro x18 ex18
    refine ⟨o_a12, ?_⟩
    intro x19 ex19
    have i20 : vp_in (1 : Int32) (hN _ a12) := (vin l_a12 (m := 5) (by decide) (q56 c1 ex18))
    refine ⟨i20, ?_⟩
    intro S21 eS21
    have hI : IV S21 := by rw [eS21]; exact iv_aJ hI o_v0 (by decide) ea12 o_a12 (by decide)
    have f0 := fr_J eS21 f0
    have d_x2 := rd_J eS21 d_x2
    have d_x13 := rd_J eS21 d_x13
    have ea12 := rf_J eS21 ea12
    have l_a12 := ln_J eS21 l_a12
    have g0 := gr_J eS21 g0
    have o_a12 := ob_J eS21 o_a12
    have o_v0 := ob_J eS21 o_v0
    have o_v1 := ob_J eS21 o_v1
    have o_v3 := ob_J eS21 o_v3
    refine ⟨a12, ea12, ?_⟩
    intro x23 ex23
    refine ⟨o_a12, ?_⟩
    intro x24 ex24
    have i25 : vp_in (2 : Int32) (hN _ a12) := (vin l_a12 (m := 5) (by decide) (q57 c1 ex18 ex23))
    refine ⟨i25, ?_⟩
    intro S26 eS26
    have hI : IV S26 := by rw [eS26]; exact iv_aJ hI o_v0 (by decide) ea12 o_a12 (by decide)
    have f0 := fr_J eS26 f0
    have d_x2 := rd_J eS26 d_x2
    have d_x13 := rd_J eS26 d_x13
    have ea12 := rf_J eS26 ea12
    have l_a12 := ln_J eS26 l_a12
    have g0 := gr_J eS26 g0
    have o_a12 := ob_J eS26 o_a12
    have o_v0 := ob_J eS26 o_v0
    have o_v1 := ob_J eS26 o_v1
    have o_v3 := ob_J eS26 o_v3
    refine ⟨a12, ea12, ?_⟩
    refine ⟨fun c28 => ?_, fun c28 => ?_⟩
    · refine u_X1_lay_130 ?_
      refine ⟨o_a12, ?_⟩
      have i29 : vp_in (3 : Int32) (hN _ a12) := (vin l_a12 (m := 5) (by decide) (q58 c1 ex18 ex23 c28))
      refine ⟨i29, ?_⟩
      intro S30 eS30
      have hI : IV S30 := by rw [eS30]; exact iv_aJ hI o_v0 (by decide) ea12 o_a12 (by decide)
      have f0 := fr_J eS30 f0
      have d_x2 := rd_J eS30 d_x2
      have d_x13 := rd_J eS30 d_x13
      have ea12 := rf_J eS30 ea12
      have l_a12 := ln_J eS30 l_a12
      have g0 := gr_J eS30 g0
      have o_a12 := ob_J eS30 o_a12
      have o_v0 := ob_J eS30 o_v0
      have o_v1 := ob_J eS30 o_v1
      have o_v3 := ob_J eS30 o_v3
      refine ⟨o_v0, ?_⟩
      refine ⟨a12, ea12, ?_⟩
      refine ⟨fun c32 => ?_, fun c32 => ?_⟩
      · refine ⟨o_a12, ?_⟩
        have i33 : vp_in (4 : Int32) (hN _ a12) := (vin l_a12 (m := 5) (by decide) (q59 c1 ex18 ex23 c28 c32))
        refine ⟨i33, ?_⟩
        intro S34 eS34
        have hI : IV S34 := by rw [eS34]; exact iv_aJ hI o_v0 (by decide) ea12 o_a12 (by decide)
        have f0 := fr_J eS34 f0
        have d_x2 := rd_J eS34 d_x2
        have d_x13 := rd_J eS34 d_x13
        have ea12 := rf_J eS34 ea12
        have l_a12 := ln_J eS34 l_a12
        have g0 := gr_J eS34 g0
        have o_a12 := ob_J eS34 o_a12
        have o_v0 := ob_J eS34 o_v0
        have o_v1 := ob_J eS34 o_v1
        have o_v3 := ob_J eS34 o_v3
        exact hq _ hI g0 f0
      · refine ⟨o_v3, ?_⟩
        intro x35 ex35
        have d_x35 := ex35
        refine ⟨o_a12, ?_⟩
        intro x36 ex36
        have i37 : vp_in (4 : Int32) (hN _ a12) := (vin l_a12 (m := 5) (by decide) (q60 c1 ex18 ex23 c28 c32))
        refine ⟨i37, ?_⟩
        intro S38 eS38
        have hI : IV S38 := by rw [eS38]; exact iv_aJ hI o_v0 (by decide) ea12 o_a12 (by decide)
        have f0 := fr_J eS38 f0
        have d_x2 := rd_J eS38 d_x2
        have d_x13 := rd_J eS38 d_x13
        have d_x35 := rd_J eS38 d_x35
        have ea12 := rf_J eS38 ea12
        have l_a12 := ln_J eS38 l_a12
        have g0 := gr_J eS38 g0
        have o_a12 := ob_J eS38 o_a12
        have o_v0 := ob_J eS38 o_v0
        have o_v1 := ob_J eS38 o_v1
        have o_v3 := ob_J eS38 o_v3
        exact hq _ hI g0 f0
    · intro x39 ex39
      have d_x39 := ex39
      refine u_X1_lay_130 ?_
      refine ⟨o_a12, ?_⟩
      have i40 : vp_in (3 : Int32) (hN _ a12) := (vin l_a12 (m := 5) (by decide) (q61 c1 ex18 ex23 c28))
      refine ⟨i40, ?_⟩
      intro S41 eS41
      have hI : IV S41 := by rw [eS41]; exact iv_aJ hI o_v0 (by decide) ea12 o_a12 (by decide)
      have f0 := fr_J eS41 f0
      have d_x2 := rd_J eS41 d_x2
      have d_x13 := rd_J eS41 d_x13
      have d_x39 := rd_J eS41 d_x39
      have ea12 := rf_J eS41 ea12
      have l_a12 := ln_J eS41 l_a12
      have g0 := gr_J eS41 g0
      have o_a12 := ob_J eS41 o_a12
      have o_v0 := ob_J eS41 o_v0
      have o_v1 := ob_J eS41 o_v1
      have o_v3 := ob_J eS41 o_v3
      refine ⟨o_v0, ?_⟩
      refine ⟨a12, ea12, ?_⟩
      refine ⟨fun c43 => ?_, fun c43 => ?_⟩
      · refine ⟨o_a12, ?_⟩
        have i44 : vp_in (4 : Int32) (hN _ a12) := (vin l_a12 (m := 5) (by decide) (q62 c1 ex18 ex23 c28 c43))
        refine ⟨i44, ?_⟩
        intro S45 eS45
        have hI : IV S45 := by rw [eS45]; exact iv_aJ hI o_v0 (by decide) ea12 o_a12 (by decide)
        have f0 := fr_J eS45 f0
        have d_x2 := rd_J eS45 d_x2
        have d_x13 := rd_J eS45 d_x13
        have d_x39 := rd_J eS45 d_x39
        have ea12 := rf_J eS45 ea12
        have l_a12 := ln_J eS45 l_a12
        have g0 := gr_J eS45 g0
        have o_a12 := ob_J eS45 o_a12
        have o_v0 := ob_J eS45 o_v0
        have o_v1 := ob_J eS45 o_v1
        have o_v3 := ob_J eS45 o_v3
        exact hq _ hI g0 f0
      · refine ⟨o_v3, ?_⟩
        intro x46 ex46
        have q_x46 : x46 = x39 := ex46.trans d_x39.symm
        have d_x46 := ex46
        refine ⟨o_a12, ?_⟩
        intro x47 ex47
        have i48 : vp_in (4 : Int32) (hN _ a12) := (vin l_a12 (m := 5) (by decide) (q63 c1 ex18 ex23 c28 c43))
        refine ⟨i48, ?_⟩
        intro S49 eS49
        have hI : IV S49 := by rw [eS49]; exact iv_aJ hI o_v0 (by decide) ea12 o_a12 (by decide)
        have f0 := fr_J eS49 f0
        have d_x2 := rd_J eS49 d_x2
        have d_x13 := rd_J eS49 d_x13
        have d_x46 := rd_J eS49 d_x46
        have ea12 := rf_J eS49 ea12
        have l_a12 := ln_J eS49 l_a12
        have g0 := gr_J eS49 g0
        have o_a12 := ob_J eS49 o_a12
        have o_v0 := ob_J eS49 o_v0
        have o_v1 := ob_J eS49 o_v1
        have o_v3 := ob_J eS49 o_v3
        exact hq _ hI g0 f0
  · refine ⟨o_v1, ?_⟩
    intro x50 ex50
    have d_x50 := ex50
    intro x51 ex51
    have d_x51 := ex51
    refine ⟨(q64 c1), ?_⟩
    intro x52 ex52
    refine u_X1_lay_27 ?_
    refine ⟨o_v3, ?_⟩
    intro x53 ex53
    have d_x53 := ex53
    intro x54 ex54
    refine ⟨o_v1, ?_⟩
    refine m_X5_turnOf hI o_v1 o_v3 (fun x55 S56 hI2 g57 p_x55 => ?_)
    subst p_x55
    intro _
    refine m_X5_airAlong hI o_v1 o_v3 (fun x59 S60 hI2 g61 p_x59 => ?_)
    subst p_x59
    intro _
    refine ⟨o_v0, ?_⟩
    obtain ⟨a63, ea63, o_a63, l_a63⟩ := shl 10 rfl hI o_v0
    refine ⟨a63, ea63, ?_⟩
    intro x64 ex64
    have d_x64 := ex64
    refine ⟨o_a63, ?_⟩
    intro x65 ex65
    have i66 : vp_in (0 : Int32) (hN _ a63) := (vin l_a63 (m := 5) (by decide) (q65 c1 ex52))
    refine ⟨i66, ?_⟩
    intro S67 eS67
    have hI : IV S67 := by rw [eS67]; exact iv_aJ hI o_v0 (by decide) ea63 o_a63 (by decide)
    have f0 := fr_J eS67 f0
    have d_x50 := rd_J eS67 d_x50
    have d_x51 := rd_J eS67 d_x51
    have d_x53 := rd_J eS67 d_x53
    have d_x64 := rd_J eS67 d_x64
    have ea63 := rf_J eS67 ea63
    have l_a63 := ln_J eS67 l_a63
    have g0 := gr_J eS67 g0
    have o_a63 := ob_J eS67 o_a63
    have o_v0 := ob_J eS67 o_v0
    have o_v1 := ob_J eS67 o_v1
    have o_v3 := ob_J eS67 o_v3
    refine ⟨a63, ea63, ?_⟩
    intro x69 ex69
    refine ⟨o_a63, ?_⟩
    intro x70 ex70
    have i71 : vp_in (1 : Int32) (hN _ a63) := (vin l_a63 (m := 5) (by decide) (q66 c1 ex52 ex69))
    refine ⟨i71, ?_⟩
    intro S72 eS72
    have hI : IV S72 := by rw [eS72]; exact iv_aJ hI o_v0 (by decide) ea63 o_a63 (by decide)
    have f0 := fr_J eS72 f0
    have d_x50 := rd_J eS72 d_x50
    have d_x51 := rd_J eS72 d_x51
    have d_x53 := rd_J eS72 d_x53
    have d_x64 := rd_J eS72 d_x64
    have ea63 := rf_J eS72 ea63
    have l_a63 := ln_J eS72 l_a63
    have g0 := gr_J eS72 g0
    have o_a63 := ob_J eS72 o_a63
    have o_v0 := ob_J eS72 o_v0
    have o_v1 := ob_J eS72 o_v1
    have o_v3 := ob_J eS72 o_v3
    refine ⟨a63, ea63, ?_⟩
    intro x74 ex74
    refine ⟨o_a63, ?_⟩
    intro x75 ex75
    have i76 : vp_in (2 : Int32) (hN _ a63) := (vin l_a63 (m := 5) (by decide) (q67 c1 ex52 ex69 ex74))
    refine ⟨i76, ?_⟩
    intro S77 eS77
    have hI : IV S77 := by rw [eS77]; exact iv_aJ hI o_v0 (by decide) ea63 o_a63 (by decide)
    have f0 := fr_J eS77 f0
    have d_x50 := rd_J eS77 d_x50
    have d_x51 := rd_J eS77 d_x51
    have d_x53 := rd_J eS77 d_x53
    have d_x64 := rd_J eS77 d_x64
    have ea63 := rf_J eS77 ea63
    have l_a63 := ln_J eS77 l_a63
    have g0 := gr_J eS77 g0
    have o_a63 := ob_J eS77 o_a63
    have o_v0 := ob_J eS77 o_v0
    have o_v1 := ob_J eS77 o_v1
    have o_v3 := ob_J eS77 o_v3
    refine ⟨a63, ea63, ?_⟩
    refine ⟨fun c79 => ?_, fun c79 => ?_⟩
    · refine u_X1_lay_130 ?_
      refine ⟨o_a63, ?_⟩
      have i80 : vp_in (3 : Int32) (hN _ a63) := (vin l_a63 (m := 5) (by decide) (q68 c1 ex52 ex69 ex74 c79))
      refine ⟨i80, ?_⟩
      intro S81 eS81
      have hI : IV S81 := by rw [eS81]; exact iv_aJ hI o_v0 (by decide) ea63 o_a63 (by decide)
      have f0 := fr_J eS81 f0
      have d_x50 := rd_J eS81 d_x50
      have d_x51 := rd_J eS81 d_x51
      have d_x53 := rd_J eS81 d_x53
      have d_x64 := rd_J eS81 d_x64
      have ea63 := rf_J eS81 ea63
      have l_a63 := ln_J eS81 l_a63
      have g0 := gr_J eS81 g0
      have o_a63 := ob_J eS81 o_a63
      have o_v0 := ob_J eS81 o_v0
      have o_v1 := ob_J eS81 o_v1
      have o_v3 := ob_J eS81 o_v3
      refine ⟨o_v0, ?_⟩
      refine ⟨a63, ea63, ?_⟩
      refine ⟨fun c83 => ?_, fun c83 => ?_⟩
      · refine ⟨o_a63, ?_⟩
        have i84 : vp_in (4 : Int32) (hN _ a63) := (vin l_a63 (m := 5) (by decide) (q69 c1 ex52 ex69 ex74 c79 c83))
        refine ⟨i84, ?_⟩
        intro S85 eS85
        have hI : IV S85 := by rw [eS85]; exact iv_aJ hI o_v0 (by decide) ea63 o_a63 (by decide)
        have f0 := fr_J eS85 f0
        have d_x50 := rd_J eS85 d_x50
        have d_x51 := rd_J eS85 d_x51
        have d_x53 := rd_J eS85 d_x53
        have d_x64 := rd_J eS85 d_x64
        have ea63 := rf_J eS85 ea63
        have l_a63 := ln_J eS85 l_a63
        have g0 := gr_J eS85 g0
        have o_a63 := ob_J eS85 o_a63
        have o_v0 := ob_J eS85 o_v0
        have o_v1 := ob_J eS85 o_v1
        have o_v3 := ob_J eS85 o_v3
        exact hq _ hI g0 f0
      · refine ⟨o_v3, ?_⟩
        intro x86 ex86
        have d_x86 := ex86
        refine ⟨o_a63, ?_⟩
        intro x87 ex87
        have i88 : vp_in (4 : Int32) (hN _ a63) := (vin l_a63 (m := 5) (by decide) (q70 c1 ex52 ex69 ex74 c79 c83))
        refine ⟨i88, ?_⟩
        intro S89 eS89
        have hI : IV S89 := by rw [eS89]; exact iv_aJ hI o_v0 (by decide) ea63 o_a63 (by decide)
        have f0 := fr_J eS89 f0
        have d_x50 := rd_J eS89 d_x50
        have d_x51 := rd_J eS89 d_x51
        have d_x53 := rd_J eS89 d_x53
        have d_x64 := rd_J eS89 d_x64
        have d_x86 := rd_J eS89 d_x86
        have ea63 := rf_J eS89 ea63
        have l_a63 := ln_J eS89 l_a63
        have g0 := gr_J eS89 g0
        have o_a63 := ob_J eS89 o_a63
        have o_v0 := ob_J eS89 o_v0
        have o_v1 := ob_J eS89 o_v1
        have o_v3 := ob_J eS89 o_v3
        exact hq _ hI g0 f0
    · intro x90 ex90
      have d_x90 := ex90
      refine u_X1_lay_130 ?_
      refine ⟨o_a63, ?_⟩
      have i91 : vp_in (3 : Int32) (hN _ a63) := (vin l_a63 (m := 5) (by decide) (q71 c1 ex52 ex69 ex74 c79))
      refine ⟨i91, ?_⟩
      intro S92 eS92
      have hI : IV S92 := by rw [eS92]; exact iv_aJ hI o_v0 (by decide) ea63 o_a63 (by decide)
      have f0 := fr_J eS92 f0
      have d_x50 := rd_J eS92 d_x50
      have d_x51 := rd_J eS92 d_x51
      have d_x53 := rd_J eS92 d_x53
      have d_x64 := rd_J eS92 d_x64
      have d_x90 := rd_J eS92 d_x90
      have ea63 := rf_J eS92 ea63
      have l_a63 := ln_J eS92 l_a63
      have g0 := gr_J eS92 g0
      have o_a63 := ob_J eS92 o_a63
      have o_v0 := ob_J eS92 o_v0
      have o_v1 := ob_J eS92 o_v1
      have o_v3 := ob_J eS92 o_v3
      refine ⟨o_v0, ?_⟩
      refine ⟨a63, ea63, ?_⟩
      refine ⟨fun c94 => ?_, fun c94 => ?_⟩
      · refine ⟨o_a63, ?_⟩
        have i95 : vp_in (4 : Int32) (hN _ a63) := (vin l_a63 (m := 5) (by decide) (q72 c1 ex52 ex69 ex74 c79 c94))
        refine ⟨i95, ?_⟩
        intro S96 eS96
        have hI : IV S96 := by rw [eS96]; exact iv_aJ hI o_v0 (by decide) ea63 o_a63 (by decide)
        have f0 := fr_J eS96 f0
        have d_x50 := rd_J eS96 d_x50
        have d_x51 := rd_J eS96 d_x51
        have d_x53 := rd_J eS96 d_x53
        have d_x64 := rd_J eS96 d_x64
        have d_x90 := rd_J eS96 d_x90
        have ea63 := rf_J eS96 ea63
        have l_a63 := ln_J eS96 l_a63
        have g0 := gr_J eS96 g0
        have o_a63 := ob_J eS96 o_a63
        have o_v0 := ob_J eS96 o_v0
        have o_v1 := ob_J eS96 o_v1
        have o_v3 := ob_J eS96 o_v3
        exact hq _ hI g0 f0
      · refine ⟨o_v3, ?_⟩
        intro x97 ex97
        have q_x97 : x97 = x90 := ex97.trans d_x90.symm
        have d_x97 := ex97
        refine ⟨o_a63, ?_⟩
        intro x98 ex98
        have i99 : vp_in (4 : Int32) (hN _ a63) := (vin l_a63 (m := 5) (by decide) (q73 c1 ex52 ex69 ex74 c79 c94))
        refine ⟨i99, ?_⟩
        intro S100 eS100
        have hI : IV S100 := by rw [eS100]; exact iv_aJ hI o_v0 (by decide) ea63 o_a63 (by decide)
        have f0 := fr_J eS100 f0
        have d_x50 := rd_J eS100 d_x50
        have d_x51 := rd_J eS100 d_x51
        have d_x53 := rd_J eS100 d_x53
        have d_x64 := rd_J eS100 d_x64
        have d_x97 := rd_J eS100 d_x97
        have ea63 := rf_J eS100 ea63
        have l_a63 := ln_J eS100 l_a63
        have g0 := gr_J eS100 g0
        have o_a63 := ob_J eS100 o_a63
        have o_v0 := ob_J eS100 o_v0
        have o_v1 := ob_J eS100 o_v1
        have o_v3 := ob_J eS100 o_v3
        exact hq _ hI g0 f0
