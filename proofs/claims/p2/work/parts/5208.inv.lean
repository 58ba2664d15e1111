set_option maxHeartbeats 4000000 in
set_option maxRecDepth 20000 in
theorem m_X8_hourOf {v0 : Nat} {v1 : Int32} {Q : Int32 → HS → Prop} {S : HS} (hI : IV S) (o_v0 : ob S v0 8)     (hq : ∀ (r : Int32) (T : HS), IV T → Gr S T → (S = T) → Q r T) : P_X8_hourOf v0 v1 Q S := by
  have g0 := gr_rf S
  refine u_X8_hourOf ?_
  refine u_X8_hourOf_0 ?_
  refine ⟨o_v0, ?_⟩
  intro x1 ex1
  have r_x1 : (0 : Int32) ≤ x1 ∧ x1 ≤ (60 : Int32) := by rw [ex1]; exact nu 10 rfl hI o_v0
  have d_x1 := ex1
  refine ⟨fun c2 => ?_, fun c2 => ?_⟩
  · exact hq _ _ hI g0 rfl
  · intro x3 ex3
    have r_x3 : (0 : Int32) ≤ x3 ∧ x3 ≤ (60 : Int32) := by rw [ex3]; exact nu 10 rfl hI o_v0
    have q_x3 : x3 = x1 := ex3.trans d_x1.symm
    have d_x3 := ex3
    refine ⟨(q203 r_x1 c2 r_x3 q_x3), ?_⟩
    intro x4 ex4
    exact hq _ _ hI g0 rfl
set_option maxHeartbeats 4000000 in
set_option maxRecDepth 20000 in
theorem m_X7_reckon {v0 : Nat} {v1 : Nat} {v2 : Nat} {v3 : Int32} {v4 : Int32} {v5 : Int32} {v6 : Int32} {Q : HS → Prop} {S : HS} (hI : IV S) (o_v0 : ob S v0 7) (o_v1 : ob S v1 8) (o_v2 : ob S v2 1)   (h5 : 0 ≤ v5 ∧ v5 ≤ 400)  (hq : ∀ (T : HS), IV T → Gr S T → FRI [(7, 3), (7, 9), (7, 10), (7, 11), (7, 12), (7, 13)] [(7, 0), (7, 1), (7, 2), (7, 4), (7, 5), (7, 6), (7, 7), (7, 8)] S T → Q T) : P_X7_reckon v0 v1 v2 v3 v4 v5 v6 Q S := by
  have g0 := gr_rf S
  have f0 := fri_rf [(7, 3), (7, 9), (7, 10), (7, 11), (7, 12), (7, 13)] [(7, 0), (7, 1), (7, 2), (7, 4), (7, 5), (7, 6), (7, 7), (7, 8)] S
  refine u_X7_reckon ?_
  refine u_X7_reckon_0 ?_
  refine ⟨o_v0, ?_⟩
  obtain ⟨a1, ea1, o_a1, -⟩ := sh 22 rfl hI o_v0
  have l_a1 := wm hM 1 rfl ea1
  refine ⟨a1, ea1, ?_⟩
  refine ⟨o_a1, ?_⟩
  have n_a1 : nI (hN S a1) = 3208 := by rw [show hN S a1 = 3208 from l_a1]; decide
  refine ⟨fun c2 => ?_, fun c2 => ?_⟩
  · rw [n_a1] at c2
    have hM := wm_of hI o_v0 ea1 c2
    refine u_X7_reckon_12 ?_
    refine ⟨o_v0, ?_⟩
    intro x3 ex3
    have d_x3 := ex3
    refine ⟨fun c4 => ?_, fun c4 => ?_⟩
    · refine u_X7_reckon_38 ?_
      refine ⟨o_v0, ?_⟩
      have hI := iv_sI (j := 10) (v := v3) hI o_v0 (by decide) (nu_free (by decide))
      have f0 : FRI _ _ _ (sI S v0 10 v3) := fri_sI (S := S) g0 f0 o_v0 (by decide)
      have d_v3 : v3 = fI (sI S v0 10 v3) v0 10 := (u2_self _ _ _ _).symm
      have hI := iv_sI (j := 11) (v := v4) hI o_v0 (by decide) (nu_free (by decide))
      have f0 : FRI _ _ _ (sI (sI S v0 10 v3) v0 11 v4) := fri_sI (S := sI S v0 10 v3) g0 f0 o_v0 (by decide)
      have d_v3 : v3 = fI (sI (sI S v0 10 v3) v0 11 v4) v0 10 := d_v3.trans (rd_j (by decide)).symm
      have d_v4 : v4 = fI (sI (sI S v0 10 v3) v0 11 v4) v0 11 := (u2_self _ _ _ _).symm
      have hI := iv_sI (j := 12) (v := v5) hI o_v0 (by decide) (nu_free (by decide))
      have f0 : FRI _ _ _ (sI (sI (sI S v0 10 v3) v0 11 v4) v0 12 v5) := fri_sI (S := sI (sI S v0 10 v3) v0 11 v4) g0 f0 o_v0 (by decide)
      have d_v3 : v3 = fI (sI (sI (sI S v0 10 v3) v0 11 v4) v0 12 v5) v0 10 := d_v3.trans (rd_j (by decide)).symm
      have d_v4 : v4 = fI (sI (sI (sI S v0 10 v3) v0 11 v4) v0 12 v5) v0 11 := d_v4.trans (rd_j (by decide)).symm
      have d_v5 : v5 = fI (sI (sI (sI S v0 10 v3) v0 11 v4) v0 12 v5) v0 12 := (u2_self _ _ _ _).symm
      intro x5 ex5
      have hI := iv_sI (j := 13) (v := x5) hI o_v0 (by decide) (nu_one (lo := (0 : Int32)) (hi := (401 : Int32)) (by decide) (q109 h5 c2 c4 ex5))
      have f0 : FRI _ _ _ (sI (sI (sI (sI S v0 10 v3) v0 11 v4) v0 12 v5) v0 13 x5) := fri_sI (S := sI (sI (sI S v0 10 v3) v0 11 v4) v0 12 v5) g0 f0 o_v0 (by decide)
      have d_v3 : v3 = fI (sI (sI (sI (sI S v0 10 v3) v0 11 v4) v0 12 v5) v0 13 x5) v0 10 := d_v3.trans (rd_j (by decide)).symm
      have d_v4 : v4 = fI (sI (sI (sI (sI S v0 10 v3) v0 11 v4) v0 12 v5) v0 13 x5) v0 11 := d_v4.trans (rd_j (by decide)).symm
      have d_v5 : v5 = fI (sI (sI (sI (sI S v0 10 v3) v0 11 v4) v0 12 v5) v0 13 x5) v0 12 := d_v5.trans (rd_j (by decide)).symm
      have d_x5 : x5 = fI (sI (sI (sI (sI S v0 10 v3) v0 11 v4) v0 12 v5) v0 13 x5) v0 13 := (u2_self _ _ _ _).symm
      have hI := iv_sI (j := 9) (v := (-1 : Int32)) hI o_v0 (by decide) (nu_free (by decide))
      have f0 : FRI _ _ _ (sI (sI (sI (sI (sI S v0 10 v3) v0 11 v4) v0 12 v5) v0 13 x5) v0 9 (-1 : Int32)) := fri_sI (S := sI (sI (sI (sI S v0 10 v3) v0 11 v4) v0 12 v5) v0 13 x5) g0 f0 o_v0 (by decide)
      have d_v3 : v3 = fI (sI (sI (sI (sI (sI S v0 10 v3) v0 11 v4) v0 12 v5) v0 13 x5) v0 9 (-1 : Int32)) v0 10 := d_v3.trans (rd_j (by decide)).symm
      have d_v4 : v4 = fI (sI (sI (sI (sI (sI S v0 10 v3) v0 11 v4) v0 12 v5) v0 13 x5) v0 9 (-1 : Int32)) v0 11 := d_v4.trans (rd_j (by decide)).symm
      have d_v5 : v5 = fI (sI (sI (sI (sI (sI S v0 10 v3) v0 11 v4) v0 12 v5) v0 13 x5) v0 9 (-1 : Int32)) v0 12 := d_v5.trans (rd_j (by decide)).symm
      have d_x5 : x5 = fI (sI (sI (sI (sI (sI S v0 10 v3) v0 11 v4) v0 12 v5) v0 13 x5) v0 9 (-1 : Int32)) v0 13 := d_x5.trans (rd_j (by decide)).symm
      obtain ⟨y6, hy6⟩ : ∃ z : Int32, z = (-1 : Int32) := ⟨_, rfl⟩
      have d_y6 : y6 = fI (sI (sI (sI (sI (sI S v0 10 v3) v0 11 v4) v0 12 v5) v0 13 x5) v0 9 (-1 : Int32)) v0 9 := hy6.trans (u2_self _ _ _ _).symm
      refine u_X7_reckon_68 ?_
      refine ⟨o_v0, ?_⟩
      intro x7 ex7
      have r_x7 : (0 : Int32) ≤ x7 ∧ x7 ≤ (401 : Int32) := by rw [ex7]; exact nu 9 rfl hI o_v0
      have q_x7 : x7 = x5 := ex7.trans d_x5.symm
      have d_x7 := ex7
      intro x8 ex8
      refine i_X7_reckon_76 (fun (y0 : Nat) (y1 : Nat) (y2 : Nat) (y6 : Int32) (y7 : Int32) (Z : HS) => (y7.toInt - (-1 : Int32).toInt).toNat) (fun (y0 : Nat) (y1 : Nat) (y2 : Nat) (y6 : Int32) (y7 : Int32) (Z : HS) => (IV Z) ∧ (Gr (sI (sI (sI (sI (sI S v0 10 v3) v0 11 v4) v0 12 v5) v0 13 x5) v0 9 (-1 : Int32)) Z) ∧ (FRI [(7, 3), (7, 9), (7, 13)] [] (sI (sI (sI (sI (sI S v0 10 v3) v0 11 v4) v0 12 v5) v0 13 x5) v0 9 (-1 : Int32)) Z) ∧ (v0 = y0) ∧ (v1 = y1) ∧ (v2 = y2) ∧ (v6 = y6) ∧ (WM Z v0) ∧ (y7 ≤ 400)) ?_ _ _ _ _ _ _ ⟨hI, (gr_rf _), (fri_rf _ _ _), rfl, rfl, rfl, rfl, hM, (q110 h5 c2 c4 ex5 r_x7 q_x7 ex8)⟩
      intro w12 w14 w16 w18 w20 S9 X21 ⟨hI, gL10, fL11, q13, q15, q17, q19, hM, i1⟩ ih22
      subst q13
      subst q15
      subst q17
      subst q19
      have l_a1 := (gr_len gL10 o_a1).trans l_a1
      have d_v3 := d_v3.trans (fri_at fL11 (by decide) (by decide) o_v0).symm
      have d_v4 := d_v4.trans (fri_at fL11 (by decide) (by decide) o_v0).symm
      have d_v5 := d_v5.trans (fri_at fL11 (by decide) (by decide) o_v0).symm
      have ea1 := (frr_at fL11 (by decide) (by decide) o_v0).trans ea1
      have f0 := fri_tr (S := sI (sI (sI (sI (sI S v0 10 v3) v0 11 v4) v0 12 v5) v0 13 x5) v0 9 (-1 : Int32)) g0 f0 fL11 (by decide) (by decide)
      have o_a1 := gr_ob gL10 o_a1
      have o_v0 := gr_ob gL10 o_v0
      have o_v1 := gr_ob gL10 o_v1
      have o_v2 := gr_ob gL10 o_v2
      have g0 := gr_tr (T := sI (sI (sI (sI (sI S v0 10 v3) v0 11 v4) v0 12 v5) v0 13 x5) v0 9 (-1 : Int32)) g0 gL10
      refine u_X7_reckon_76 ?_
      refine ⟨fun c23 => ?_, fun c23 => ?_⟩
      · exact hq _ hI g0 f0
      · refine ⟨fun c24 => ?_, fun c24 => ?_⟩
        · exact hq _ hI g0 f0
        · refine ⟨o_v1, ?_⟩
          refine m_X8_hourOf hI o_v1 (fun x25 S26 hI2 g27 p_x25 => ?_)
          subst p_x25
          intro _
          intro x29 ex29
          have r_x29 : (0 : Int32) ≤ x29 ∧ x29 ≤ (6 : Int32) := by rw [ex29]; exact nu 11 rfl hI o_v1
          have d_x29 := ex29
          intro x30 ex30
          refine ⟨o_v0, ?_⟩
          intro x31 ex31
          have d_x31 := ex31
          refine ⟨fun c32 => ?_, fun c32 => ?_⟩
          · refine u_X7_reckon_120 ?_
            refine ⟨o_v1, ?_⟩
            intro x33 ex33
            have r_x33 : (0 : Int32) ≤ x33 ∧ x33 ≤ (8 : Int32) := by rw [ex33]; exact nu 12 rfl hI o_v1
            have d_x33 := ex33
            refine ⟨o_v0, ?_⟩
            refine m_X7_reckonMinute hI o_v0 (q111 c2 c4 i1 c23 c24 r_x29 ex30 c32) hM (fun S35 hI g36 fc37 p_S35 => ?_)
            obtain hM := p_S35
            have l_a1 := (gr_len g36 o_a1).trans l_a1
            have d_v3 := d_v3.trans (fri_at fc37 (by decide) (by decide) o_v0).symm
            have d_v4 := d_v4.trans (fri_at fc37 (by decide) (by decide) o_v0).symm
            have d_v5 := d_v5.trans (fri_at fc37 (by decide) (by decide) o_v0).symm
            have d_x29 := d_x29.trans (fri_at fc37 (by decide) (by decide) o_v1).symm
            have d_x31 := d_x31.trans (fri_at fc37 (by decide) (by decide) o_v0).symm
            have d_x33 := d_x33.trans (fri_at fc37 (by decide) (by decide) o_v1).symm
            have ea1 := (frr_at fc37 (by decide) (by decide) o_v0).trans ea1
            have f0 := fri_tr (S := S9) g0 f0 fc37 (by decide) (by decide)
            have fL11 := fri_tr (S := S9) gL10 fL11 fc37 (by decide) (by decide)
            have o_a1 := gr_ob g36 o_a1
            have o_v0 := gr_ob g36 o_v0
            have o_v1 := gr_ob g36 o_v1
            have o_v2 := gr_ob g36 o_v2
            have g0 := gr_tr (T := S9) g0 g36
            have gL10 := gr_tr (T := S9) gL10 g36
            intro _
            have hI := iv_sI (j := 13) (v := w20) hI o_v0 (by decide) (nu_one (lo := (0 : Int32)) (hi := (401 : Int32)) (by decide) (q112 c2 c4 i1 c23 c24 r_x29 ex30 c32))
            have f0 : FRI _ _ _ (sI S35 v0 13 w20) := fri_sI (S := S35) g0 f0 o_v0 (by decide)
            have fL11 : FRI _ _ _ (sI S35 v0 13 w20) := fri_sI (S := S35) gL10 fL11 o_v0 (by decide)
            have d_v3 : v3 = fI (sI S35 v0 13 w20) v0 10 := d_v3.trans (rd_j (by decide)).symm
            have d_v4 : v4 = fI (sI S35 v0 13 w20) v0 11 := d_v4.trans (rd_j (by decide)).symm
            have d_v5 : v5 = fI (sI S35 v0 13 w20) v0 12 := d_v5.trans (rd_j (by decide)).symm
            have d_x29 : x29 = fI (sI S35 v0 13 w20) v1 1 := d_x29.trans (sI_ne (S := S35) o_v0 o_v1 (by decide) 1).symm
            have d_x31 : x31 = fI (sI S35 v0 13 w20) v0 9 := d_x31.trans (rd_j (by decide)).symm
            have d_x33 : x33 = fI (sI S35 v0 13 w20) v1 2 := d_x33.trans (sI_ne (S := S35) o_v0 o_v1 (by decide) 2).symm
            have d_w20 : w20 = fI (sI S35 v0 13 w20) v0 13 := (u2_self _ _ _ _).symm
            intro x38 ex38
            exact ih22 _ _ _ _ _ _ ⟨hI, gL10, fL11, rfl, rfl, rfl, rfl, hM, (q113 c2 c4 i1 c23 c24 r_x29 ex30 c32 ex38)⟩ (mu_down (q114 c2 c4 i1 c23 c24 r_x29 ex30 c32 ex38) (q115 c2 c4 i1 c23 c24 r_x29 ex30 c32 ex38))
          · refine m_X7_price hI o_v0 o_v1 o_v2 hM (fun S40 hI g41 fc42 p_S40 => ?_)
            obtain hM := p_S40
            have l_a1 := (gr_len g41 o_a1).trans l_a1
            have d_v3 := d_v3.trans (fri_at fc42 (by decide) (by decide) o_v0).symm
            have d_v4 := d_v4.trans (fri_at fc42 (by decide) (by decide) o_v0).symm
            have d_v5 := d_v5.trans (fri_at fc42 (by decide) (by decide) o_v0).symm
            have d_x29 := d_x29.trans (fri_at fc42 (by decide) (by decide) o_v1).symm
            have ea1 := (frr_at fc42 (by decide) (by decide) o_v0).trans ea1
            have f0 := fri_tr (S := S9) g0 f0 fc42 (by decide) (by decide)
            have fL11 := fri_tr (S := S9) gL10 fL11 fc42 (by decide) (by decide)
            have o_a1 := gr_ob g41 o_a1
            have o_v0 := gr_ob g41 o_v0
            have o_v1 := gr_ob g41 o_v1
            have o_v2 := gr_ob g41 o_v2
            have g0 := gr_tr (T := S9) g0 g41
            have gL10 := gr_tr (T := S9) gL10 g41
            intro _
            refine u_X7_reckon_120 ?_
            refine ⟨o_v1, ?_⟩
            intro x43 ex43
            have r_x43 : (0 : Int32) ≤ x43 ∧ x43 ≤ (8 : Int32) := by rw [ex43]; exact nu 12 rfl hI o_v1
            have d_x43 := ex43
            refine ⟨o_v0, ?_⟩
            refine m_X7_reckonMinute hI o_v0 (q116 c2 c4 i1 c23 c24 r_x29 ex30 c32) hM (fun S45 hI g46 fc47 p_S45 => ?_)
            obtain hM := p_S45
            have l_a1 := (gr_len g46 o_a1).trans l_a1
            have d_v3 := d_v3.trans (fri_at fc47 (by decide) (by decide) o_v0).symm
            have d_v4 := d_v4.trans (fri_at fc47 (by decide) (by decide) o_v0).symm
            have d_v5 := d_v5.trans (fri_at fc47 (by decide) (by decide) o_v0).symm
            have d_x29 := d_x29.trans (fri_at fc47 (by decide) (by decide) o_v1).symm
            have d_x43 := d_x43.trans (fri_at fc47 (by decide) (by decide) o_v1).symm
            have ea1 := (frr_at fc47 (by decide) (by decide) o_v0).trans ea1
            have f0 := fri_tr (S := S40) g0 f0 fc47 (by decide) (by decide)
            have fL11 := fri_tr (S := S40) gL10 fL11 fc47 (by decide) (by decide)
            have o_a1 := gr_ob g46 o_a1
            have o_v0 := gr_ob g46 o_v0
            have o_v1 := gr_ob g46 o_v1
            have o_v2 := gr_ob g46 o_v2
            have g0 := gr_tr (T := S40) g0 g46
            have gL10 := gr_tr (T := S40) gL10 g46
            intro _
            have hI := iv_sI (j := 13) (v := w20) hI o_v0 (by decide) (nu_one (lo := (0 : Int32)) (hi := (401 : Int32)) (by decide) (q117 c2 c4 i1 c23 c24 r_x29 ex30 c32))
            have f0 : FRI _ _ _ (sI S45 v0 13 w20) := fri_sI (S := S45) g0 f0 o_v0 (by decide)
            have fL11 : FRI _ _ _ (sI S45 v0 13 w20) := fri_sI (S := S45) gL10 fL11 o_v0 (by decide)
            have d_v3 : v3 = fI (sI S45 v0 13 w20) v0 10 := d_v3.trans (rd_j (by decide)).symm
            have d_v4 : v4 = fI (sI S45 v0 13 w20) v0 11 := d_v4.trans (rd_j (by decide)).symm
            have d_v5 : v5 = fI (sI S45 v0 13 w20) v0 12 := d_v5.trans (rd_j (by decide)).symm
            have d_x29 : x29 = fI (sI S45 v0 13 w20) v1 1 := d_x29.trans (sI_ne (S := S45) o_v0 o_v1 (by decide) 1).symm
            have d_x43 : x43 = fI (sI S45 v0 13 w20) v1 2 := d_x43.trans (sI_ne (S := S45) o_v0 o_v1 (by decide) 2).symm
            have d_w20 : w20 = fI (sI S45 v0 13 w20) v0 13 := (u2_self _ _ _ _).symm
            intro x48 ex48
            exact ih22 _ _ _ _ _ _ ⟨hI, gL10, fL11, rfl, rfl, rfl, rfl, hM, (q118 c2 c4 i1 c23 c24 r_x29 ex30 c32 ex48)⟩ (mu_down (q119 c2 c4 i1 c23 c24 r_x29 ex30 c32 ex48) (q120 c2 c4 i1 c23 c24 r_x29 ex30 c32 ex48))
    · intro x49 ex49
      have d_x49 := ex49
      refine ⟨fun c50 => ?_, fun c50 => ?_⟩
      · refine u_X7_reckon_38 ?_
        refine ⟨o_v0, ?_⟩
        have hI := iv_sI (j := 10) (v := v3) hI o_v0 (by decide) (nu_free (by decide))
        have f0 : FRI _ _ _ (sI S v0 10 v3) := fri_sI (S := S) g0 f0 o_v0 (by decide)
        have d_x49 : x49 = fI (sI S v0 10 v3) v0 11 := d_x49.trans (rd_j (by decide)).symm
        have d_v3 : v3 = fI (sI S v0 10 v3) v0 10 := (u2_self _ _ _ _).symm
        have hI := iv_sI (j := 11) (v := v4) hI o_v0 (by decide) (nu_free (by decide))
        have f0 : FRI _ _ _ (sI (sI S v0 10 v3) v0 11 v4) := fri_sI (S := sI S v0 10 v3) g0 f0 o_v0 (by decide)
        have d_v3 : v3 = fI (sI (sI S v0 10 v3) v0 11 v4) v0 10 := d_v3.trans (rd_j (by decide)).symm
        have d_v4 : v4 = fI (sI (sI S v0 10 v3) v0 11 v4) v0 11 := (u2_self _ _ _ _).symm
        have hI := iv_sI (j := 12) (v := v5) hI o_v0 (by decide) (nu_free (by decide))
        have f0 : FRI _ _ _ (sI (sI (sI S v0 10 v3) v0 11 v4) v0 12 v5) := fri_sI (S := sI (sI S v0 10 v3) v0 11 v4) g0 f0 o_v0 (by decide)
        have d_v3 : v3 = fI (sI (sI (sI S v0 10 v3) v0 11 v4) v0 12 v5) v0 10 := d_v3.trans (rd_j (by decide)).symm
        have d_v4 : v4 = fI (sI (sI (sI S v0 10 v3) v0 11 v4) v0 12 v5) v0 11 := d_v4.trans (rd_j (by decide)).symm
        have d_v5 : v5 = fI (sI (sI (sI S v0 10 v3) v0 11 v4) v0 12 v5) v0 12 := (u2_self _ _ _ _).symm
        intro x51 ex51
        have hI := iv_sI (j := 13) (v := x51) hI o_v0 (by decide) (nu_one (lo := (0 : Int32)) (hi := (401 : Int32)) (by decide) (q121 h5 c2 c4 c50 ex51))
        have f0 : FRI _ _ _ (sI (sI (sI (sI S v0 10 v3) v0 11 v4) v0 12 v5) v0 13 x51) := fri_sI (S := sI (sI (sI S v0 10 v3) v0 11 v4) v0 12 v5) g0 f0 o_v0 (by decide)
        have d_v3 : v3 = fI (sI (sI (sI (sI S v0 10 v3) v0 11 v4) v0 12 v5) v0 13 x51) v0 10 := d_v3.trans (rd_j (by decide)).symm
        have d_v4 : v4 = fI (sI (sI (sI (sI S v0 10 v3) v0 11 v4) v0 12 v5) v0 13 x51) v0 11 := d_v4.trans (rd_j (by decide)).symm
        have d_v5 : v5 = fI (sI (sI (sI (sI S v0 10 v3) v0 11 v4) v0 12 v5) v0 13 x51) v0 12 := d_v5.trans (rd_j (by decide)).symm
        have d_x51 : x51 = fI (sI (sI (sI (sI S v0 10 v3) v0 11 v4) v0 12 v5) v0 13 x51) v0 13 := (u2_self _ _ _ _).symm
        have hI := iv_sI (j := 9) (v := (-1 : Int32)) hI o_v0 (by decide) (nu_free (by decide))
        have f0 : FRI _ _ _ (sI (sI (sI (sI (sI S v0 10 v3) v0 11 v4) v0 12 v5) v0 13 x51) v0 9 (-1 : Int32)) := fri_sI (S := sI (sI (sI (sI S v0 10 v3) v0 11 v4) v0 12 v5) v0 13 x51) g0 f0 o_v0 (by decide)
        have d_v3 : v3 = fI (sI (sI (sI (sI (sI S v0 10 v3) v0 11 v4) v0 12 v5) v0 13 x51) v0 9 (-1 : Int32)) v0 10 := d_v3.trans (rd_j (by decide)).symm
        have d_v4 : v4 = fI (sI (sI (sI (sI (sI S v0 10 v3) v0 11 v4) v0 12 v5) v0 13 x51) v0 9 (-1 : Int32)) v0 11 := d_v4.trans (rd_j (by decide)).symm
        have d_v5 : v5 = fI (sI (sI (sI (sI (sI S v0 10 v3) v0 11 v4) v0 12 v5) v0 13 x51) v0 9 (-1 : Int32)) v0 12 := d_v5.trans (rd_j (by decide)).symm
        have d_x51 : x51 = fI (sI (sI (sI (sI (sI S v0 10 v3) v0 11 v4) v0 12 v5) v0 13 x51) v0 9 (-1 : Int32)) v0 13 := d_x51.trans (rd_j (by decide)).symm
        obtain ⟨y52, hy52⟩ : ∃ z : Int32, z = (-1 : Int32) := ⟨_, rfl⟩
        have d_y52 : y52 = fI (sI (sI (sI (sI (sI S v0 10 v3) v0 11 v4) v0 12 v5) v0 13 x51) v0 9 (-1 : Int32)) v0 9 := hy52.trans (u2_self _ _ _ _).symm
        refine u_X7_reckon_68 ?_
        refine ⟨o_v0, ?_⟩
        intro x53 ex53
        have r_x53 : (0 : Int32) ≤ x53 ∧ x53 ≤ (401 : Int32) := by rw [ex53]; exact nu 9 rfl hI o_v0
        have q_x53 : x53 = x51 := ex53.trans d_x51.symm
        have d_x53 := ex53
        intro x54 ex54
        refine i_X7_reckon_76 (fun (y0 : Nat) (y1 : Nat) (y2 : Nat) (y6 : Int32) (y7 : Int32) (Z : HS) => (y7.toInt - (-1 : Int32).toInt).toNat) (fun (y0 : Nat) (y1 : Nat) (y2 : Nat) (y6 : Int32) (y7 : Int32) (Z : HS) => (IV Z) ∧ (Gr (sI (sI (sI (sI (sI S v0 10 v3) v0 11 v4) v0 12 v5) v0 13 x51) v0 9 (-1 : Int32)) Z) ∧ (FRI [(7, 3), (7, 9), (7, 13)] [] (sI (sI (sI (sI (sI S v0 10 v3) v0 11 v4) v0 12 v5) v0 13 x51) v0 9 (-1 : Int32)) Z) ∧ (v0 = y0) ∧ (v1 = y1) ∧ (v2 = y2) ∧ (v6 = y6) ∧ (WM Z v0) ∧ (y7 ≤ 400)) ?_ _ _ _ _ _ _ ⟨hI, (gr_rf _), (fri_rf _ _ _), rfl, rfl, rfl, rfl, hM, (q122 h5 c2 c4 c50 ex51 r_x53 q_x53 ex54)⟩
        intro w58 w60 w62 w64 w66 S55 X67 ⟨hI, gL56, fL57, q59, q61, q63, q65, hM, i1⟩ ih68
        subst q59
        subst q61
        subst q63
        subst q65
        have l_a1 := (gr_len gL56 o_a1).trans l_a1
        have d_v3 := d_v3.trans (fri_at fL57 (by decide) (by decide) o_v0).symm
        have d_v4 := d_v4.trans (fri_at fL57 (by decide) (by decide) o_v0).symm
        have d_v5 := d_v5.trans (fri_at fL57 (by decide) (by decide) o_v0).symm
        have ea1 := (frr_at fL57 (by decide) (by decide) o_v0).trans ea1
        have f0 := fri_tr (S := sI (sI (sI (sI (sI S v0 10 v3) v0 11 v4) v0 12 v5) v0 13 x51) v0 9 (-1 : Int32)) g0 f0 fL57 (by decide) (by decide)
        have o_a1 := gr_ob gL56 o_a1
        have o_v0 := gr_ob gL56 o_v0
        have o_v1 := gr_ob gL56 o_v1
        have o_v2 := gr_ob gL56 o_v2
        have g0 := gr_tr (T := sI (sI (sI (sI (sI S v0 10 v3) v0 11 v4) v0 12 v5) v0 13 x51) v0 9 (-1 : Int32)) g0 gL56
        refine u_X7_reckon_76 ?_
        refine ⟨fun c69 => ?_, fun c69 => ?_⟩
        · exact hq _ hI g0 f0
        · refine ⟨fun c70 => ?_, fun c70 => ?_⟩
          · exact hq _ hI g0 f0
          · refine ⟨o_v1, ?_⟩
            refine m_X8_hourOf hI o_v1 (fun x71 S72 hI2 g73 p_x71 => ?_)
            subst p_x71
            intro _
            intro x75 ex75
            have r_x75 : (0 : Int32) ≤ x75 ∧ x75 ≤ (6 : Int32) := by rw [ex75]; exact nu 11 rfl hI o_v1
            have d_x75 := ex75
            intro x76 ex76
            refine ⟨o_v0, ?_⟩
            intro x77 ex77
            have d_x77 := ex77
            refine ⟨fun c78 => ?_, fun c78 => ?_⟩
            · refine u_X7_reckon_120 ?_
              refine ⟨o_v1, ?_⟩
              intro x79 ex79
              have r_x79 : (0 : Int32) ≤ x79 ∧ x79 ≤ (8 : Int32) := by rw [ex79]; exact nu 12 rfl hI o_v1
              have d_x79 := ex79
              refine ⟨o_v0, ?_⟩
              refine m_X7_reckonMinute hI o_v0 (q123 c2 c4 c50 i1 c69 c70 r_x75 ex76 c78) hM (fun S81 hI g82 fc83 p_S81 => ?_)
              obtain hM := p_S81
              have l_a1 := (gr_len g82 o_a1).trans l_a1
              have d_v3 := d_v3.trans (fri_at fc83 (by decide) (by decide) o_v0).symm
              have d_v4 := d_v4.trans (fri_at fc83 (by decide) (by decide) o_v0).symm
              have d_v5 := d_v5.trans (fri_at fc83 (by decide) (by decide) o_v0).symm
              have d_x75 := d_x75.trans (fri_at fc83 (by decide) (by decide) o_v1).symm
              have d_x77 := d_x77.trans (fri_at fc83 (by decide) (by decide) o_v0).symm
              have d_x79 := d_x79.trans (fri_at fc83 (by decide) (by decide) o_v1).symm
              have ea1 := (frr_at fc83 (by decide) (by decide) o_v0).trans ea1
              have f0 := fri_tr (S := S55) g0 f0 fc83 (by decide) (by decide)
              have fL57 := fri_tr (S := S55) gL56 fL57 fc83 (by decide) (by decide)
              have o_a1 := gr_ob g82 o_a1
              have o_v0 := gr_ob g82 o_v0
              have o_v1 := gr_ob g82 o_v1
              have o_v2 := gr_ob g82 o_v2
              have g0 := gr_tr (T := S55) g0 g82
              have gL56 := gr_tr (T := S55) gL56 g82
              intro _
              have hI := iv_sI (j := 13) (v := w66) hI o_v0 (by decide) (nu_one (lo := (0 : Int32)) (hi := (401 : Int32)) (by decide) (q124 c2 c4 c50 i1 c69 c70 r_x75 ex76 c78))
              have f0 : FRI _ _ _ (sI S81 v0 13 w66) := fri_sI (S := S81) g0 f0 o_v0 (by decide)
              have fL57 : FRI _ _ _ (sI S81 v0 13 w66) := fri_sI (S := S81) gL56 fL57 o_v0 (by decide)
              have d_v3 : v3 = fI (sI S81 v0 13 w66) v0 10 := d_v3.trans (rd_j (by decide)).symm
              have d_v4 : v4 = fI (sI S81 v0 13 w66) v0 11 := d_v4.trans (rd_j (by decide)).symm
              have d_v5 : v5 = fI (sI S81 v0 13 w66) v0 12 := d_v5.trans (rd_j (by decide)).symm
              have d_x75 : x75 = fI (sI S81 v0 13 w66) v1 1 := d_x75.trans (sI_ne (S := S81) o_v0 o_v1 (by decide) 1).symm
              have d_x77 : x77 = fI (sI S81 v0 13 w66) v0 9 := d_x77.trans (rd_j (by decide)).symm
              have d_x79 : x79 = fI (sI S81 v0 13 w66) v1 2 := d_x79.trans (sI_ne (S := S81) o_v0 o_v1 (by decide) 2).symm
              have d_w66 : w66 = fI (sI S81 v0 13 w66) v0 13 := (u2_self _ _ _ _).symm
              intro x84 ex84
              exact ih68 _ _ _ _ _ _ ⟨hI, gL56, fL57, rfl, rfl, rfl, rfl, hM, (q125 c2 c4 c50 i1 c69 c70 r_x75 ex76 c78 ex84)⟩ (mu_down (q126 c2 c4 c50 i1 c69 c70 r_x75 ex76 c78 ex84) (q127 c2 c4 c50 i1 c69 c70 r_x75 ex76 c78 ex84))
            · refine m_X7_price hI o_v0 o_v1 o_v2 hM (fun S86 hI g87 fc88 p_S86 => ?_)
              obtain hM := p_S86
              have l_a1 := (gr_len g87 o_a1).trans l_a1
              have d_v3 := d_v3.trans (fri_at fc88 (by decide) (by decide) o_v0).symm
              have d_v4 := d_v4.trans (fri_at fc88 (by decide) (by decide) o_v0).symm
              have d_v5 := d_v5.trans (fri_at fc88 (by decide) (by decide) o_v0).symm
              have d_x75 := d_x75.trans (fri_at fc88 (by decide) (by decide) o_v1).symm
              have ea1 := (frr_at fc88 (by decide) (by decide) o_v0).trans ea1
              have f0 := fri_tr (S := S55) g0 f0 fc88 (by decide) (by decide)
              have fL57 := fri_tr (S := S55) gL56 fL57 fc88 (by decide) (by decide)
              have o_a1 := gr_ob g87 o_a1
              have o_v0 := gr_ob g87 o_v0
              have o_v1 := gr_ob g87 o_v1
              have o_v2 := gr_ob g87 o_v2
              have g0 := gr_tr (T := S55) g0 g87
              have gL56 := gr_tr (T := S55) gL56 g87
              intro _
              refine u_X7_reckon_120 ?_
              refine ⟨o_v1, ?_⟩
              intro x89 ex89
              have r_x89 : (0 : Int32) ≤ x89 ∧ x89 ≤ (8 : Int32) := by rw [ex89]; exact nu 12 rfl hI o_v1
              have d_x89 := ex89
              refine ⟨o_v0, ?_⟩
              refine m_X7_reckonMinute hI o_v0 (q128 c2 c4 c50 i1 c69 c70 r_x75 ex76 c78) hM (fun S91 hI g92 fc93 p_S91 => ?_)
              obtain hM := p_S91
              have l_a1 := (gr_len g92 o_a1).trans l_a1
              have d_v3 := d_v3.trans (fri_at fc93 (by decide) (by decide) o_v0).symm
              have d_v4 := d_v4.trans (fri_at fc93 (by decide) (by decide) o_v0).symm
              have d_v5 := d_v5.trans (fri_at fc93 (by decide) (by decide) o_v0).symm
              have d_x75 := d_x75.trans (fri_at fc93 (by decide) (by decide) o_v1).symm
              have d_x89 := d_x89.trans (fri_at fc93 (by decide) (by decide) o_v1).symm
              have ea1 := (frr_at fc93 (by decide) (by decide) o_v0).trans ea1
              have f0 := fri_tr (S := S86) g0 f0 fc93 (by decide) (by decide)
              have fL57 := fri_tr (S := S86) gL56 fL57 fc93 (by decide) (by decide)
              have o_a1 := gr_ob g92 o_a1
              have o_v0 := gr_ob g92 o_v0
              have o_v1 := gr_ob g92 o_v1
              have o_v2 := gr_ob g92 o_v2
              have g0 := gr_tr (T := S86) g0 g92
              have gL56 := gr_tr (T := S86) gL56 g92
              intro _
              have hI := iv_sI (j := 13) (v := w66) hI o_v0 (by decide) (nu_one (lo := (0 : Int32)) (hi := (401 : Int32)) (by decide) (q129 c2 c4 c50 i1 c69 c70 r_x75 ex76 c78))
              have f0 : FRI _ _ _ (sI S91 v0 13 w66) := fri_sI (S := S91) g0 f0 o_v0 (by decide)
              have fL57 : FRI _ _ _ (sI S91 v0 13 w66) := fri_sI (S := S91) gL56 fL57 o_v0 (by decide)
              have d_v3 : v3 = fI (sI S91 v0 13 w66) v0 10 := d_v3.trans (rd_j (by decide)).symm
              have d_v4 : v4 = fI (sI S91 v0 13 w66) v0 11 := d_v4.trans (rd_j (by decide)).symm
              have d_v5 : v5 = fI (sI S91 v0 13 w66) v0 12 := d_v5.trans (rd_j (by decide)).symm
              have d_x75 : x75 = fI (sI S91 v0 13 w66) v1 1 := d_x75.trans (sI_ne (S := S91) o_v0 o_v1 (by decide) 1).symm
              have d_x89 : x89 = fI (sI S91 v0 13 w66) v1 2 := d_x89.trans (sI_ne (S := S91) o_v0 o_v1 (by decide) 2).symm
              have d_w66 : w66 = fI (sI S91 v0 13 w66) v0 13 := (u2_self _ _ _ _).symm
              intro x94 ex94
              exact ih68 _ _ _ _ _ _ ⟨hI, gL56, fL57, rfl, rfl, rfl, rfl, hM, (q130 c2 c4 c50 i1 c69 c70 r_x75 ex76 c78 ex94)⟩ (mu_down (q131 c2 c4 c50 i1 c69 c70 r_x75 ex76 c78 ex94) (q132 c2 c4 c50 i1 c69 c70 r_x75 ex76 c78 ex94))
      · intro x95 ex95
        have d_x95 := ex95
        refine ⟨fun c96 => ?_, fun c96 => ?_⟩
        · refine u_X7_reckon_68 ?_
          refine ⟨o_v0, ?_⟩
          intro x97 ex97
          have r_x97 : (0 : Int32) ≤ x97 ∧ x97 ≤ (401 : Int32) := by rw [ex97]; exact nu 9 rfl hI o_v0
          have d_x97 := ex97
          intro x98 ex98
          refine i_X7_reckon_76 (fun (y0 : Nat) (y1 : Nat) (y2 : Nat) (y6 : Int32) (y7 : Int32) (Z : HS) => (y7.toInt - (-1 : Int32).toInt).toNat) (fun (y0 : Nat) (y1 : Nat) (y2 : Nat) (y6 : Int32) (y7 : Int32) (Z : HS) => (IV Z) ∧ (Gr S Z) ∧ (FRI [(7, 3), (7, 9), (7, 13)] [] S Z) ∧ (v0 = y0) ∧ (v1 = y1) ∧ (v2 = y2) ∧ (v6 = y6) ∧ (WM Z v0) ∧ (y7 ≤ 400)) ?_ _ _ _ _ _ _ ⟨hI, (gr_rf _), (fri_rf _ _ _), rfl, rfl, rfl, rfl, hM, (q133 h5 c2 c4 c50 c96 r_x97 ex98)⟩
          intro w102 w104 w106 w108 w110 S99 X111 ⟨hI, gL100, fL101, q103, q105, q107, q109, hM, i1⟩ ih112
          subst q103
          subst q105
          subst q107
          subst q109
          have l_a1 := (gr_len gL100 o_a1).trans l_a1
          have d_x3 := d_x3.trans (fri_at fL101 (by decide) (by decide) o_v0).symm
          have d_x49 := d_x49.trans (fri_at fL101 (by decide) (by decide) o_v0).symm
          have d_x95 := d_x95.trans (fri_at fL101 (by decide) (by decide) o_v0).symm
          have ea1 := (frr_at fL101 (by decide) (by decide) o_v0).trans ea1
          have f0 := fri_tr (S := S) g0 f0 fL101 (by decide) (by decide)
          have o_a1 := gr_ob gL100 o_a1
          have o_v0 := gr_ob gL100 o_v0
          have o_v1 := gr_ob gL100 o_v1
          have o_v2 := gr_ob gL100 o_v2
          have g0 := gr_tr (T := S) g0 gL100
          refine u_X7_reckon_76 ?_
          refine ⟨fun c113 => ?_, fun c113 => ?_⟩
          · exact hq _ hI g0 f0
          · refine ⟨fun c114 => ?_, fun c114 => ?_⟩
            · exact hq _ hI g0 f0
            · refine ⟨o_v1, ?_⟩
              refine m_X8_hourOf hI o_v1 (fun x115 S116 hI2 g117 p_x115 => ?_)
              subst p_x115
              intro _
              intro x119 ex119
              have r_x119 : (0 : Int32) ≤ x119 ∧ x119 ≤ (6 : Int32) := by rw [ex119]; exact nu 11 rfl hI o_v1
              have d_x119 := ex119
              intro x120 ex120
              refine ⟨o_v0, ?_⟩
              intro x121 ex121
              have d_x121 := ex121
              refine ⟨fun c122 => ?_, fun c122 => ?_⟩
              · refine u_X7_reckon_120 ?_
                refine ⟨o_v1, ?_⟩
                intro x123 ex123
                have r_x123 : (0 : Int32) ≤ x123 ∧ x123 ≤ (8 : Int32) := by rw [ex123]; exact nu 12 rfl hI o_v1
                have d_x123 := ex123
                refine ⟨o_v0, ?_⟩
                refine m_X7_reckonMinute hI o_v0 (q134 h5 c2 c4 c50 c96 i1 c113 c114 r_x119 ex120 c122) hM (fun S125 hI g126 fc127 p_S125 => ?_)
                obtain hM := p_S125
                have l_a1 := (gr_len g126 o_a1).trans l_a1
                have d_x3 := d_x3.trans (fri_at fc127 (by decide) (by decide) o_v0).symm
                have d_x49 := d_x49.trans (fri_at fc127 (by decide) (by decide) o_v0).symm
                have d_x95 := d_x95.trans (fri_at fc127 (by decide) (by decide) o_v0).symm
                have d_x119 := d_x119.trans (fri_at fc127 (by decide) (by decide) o_v1).symm
                have d_x121 := d_x121.trans (fri_at fc127 (by decide) (by decide) o_v0).symm
                have d_x123 := d_x123.trans (fri_at fc127 (by decide) (by decide) o_v1).symm
                have ea1 := (frr_at fc127 (by decide) (by decide) o_v0).trans ea1
                have f0 := fri_tr (S := S99) g0 f0 fc127 (by decide) (by decide)
                have fL101 := fri_tr (S := S99) gL100 fL101 fc127 (by decide) (by decide)
                have o_a1 := gr_ob g126 o_a1
                have o_v0 := gr_ob g126 o_v0
                have o_v1 := gr_ob g126 o_v1
                have o_v2 := gr_ob g126 o_v2
                have g0 := gr_tr (T := S99) g0 g126
                have gL100 := gr_tr (T := S99) gL100 g126
                intro _
                have hI := iv_sI (j := 13) (v := w110) hI o_v0 (by decide) (nu_one (lo := (0 : Int32)) (hi := (401 : Int32)) (by decide) (q135 h5 c2 c4 c50 c96 i1 c113 c114 r_x119 ex120 c122))
                have f0 : FRI _ _ _ (sI S125 v0 13 w110) := fri_sI (S := S125) g0 f0 o_v0 (by decide)
                have fL101 : FRI _ _ _ (sI S125 v0 13 w110) := fri_sI (S := S125) gL100 fL101 o_v0 (by decide)
                have d_x3 : x3 = fI (sI S125 v0 13 w110) v0 10 := d_x3.trans (rd_j (by decide)).symm
                have d_x49 : x49 = fI (sI S125 v0 13 w110) v0 11 := d_x49.trans (rd_j (by decide)).symm
                have d_x95 : x95 = fI (sI S125 v0 13 w110) v0 12 := d_x95.trans (rd_j (by decide)).symm
                have d_x119 : x119 = fI (sI S125 v0 13 w110) v1 1 := d_x119.trans (sI_ne (S := S125) o_v0 o_v1 (by decide) 1).symm
                have d_x121 : x121 = fI (sI S125 v0 13 w110) v0 9 := d_x121.trans (rd_j (by decide)).symm
                have d_x123 : x123 = fI (sI S125 v0 13 w110) v1 2 := d_x123.trans (sI_ne (S := S125) o_v0 o_v1 (by decide) 2).symm
                have d_w110 : w110 = fI (sI S125 v0 13 w110) v0 13 := (u2_self _ _ _ _).symm
                intro x128 ex128
                exact ih112 _ _ _ _ _ _ ⟨hI, gL100, fL101, rfl, rfl, rfl, rfl, hM, (q136 h5 c2 c4 c50 c96 i1 c113 c114 r_x119 ex120 c122 ex128)⟩ (mu_down (q137 h5 c2 c4 c50 c96 i1 c113 c114 r_x119 ex120 c122 ex128) (q138 h5 c2 c4 c50 c96 i1 c113 c114 r_x119 ex120 c122 ex128))
              · refine m_X7_price hI o_v0 o_v1 o_v2 hM (fun S130 hI g131 fc132 p_S130 => ?_)
                obtain hM := p_S130
                have l_a1 := (gr_len g131 o_a1).trans l_a1
                have d_x3 := d_x3.trans (fri_at fc132 (by decide) (by decide) o_v0).symm
                have d_x49 := d_x49.trans (fri_at fc132 (by decide) (by decide) o_v0).symm
                have d_x95 := d_x95.trans (fri_at fc132 (by decide) (by decide) o_v0).symm
                have d_x119 := d_x119.trans (fri_at fc132 (by decide) (by decide) o_v1).symm
                have ea1 := (frr_at fc132 (by decide) (by decide) o_v0).trans ea1
                have f0 := fri_tr (S := S99) g0 f0 fc132 (by decide) (by decide)
                have fL101 := fri_tr (S := S99) gL100 fL101 fc132 (by decide) (by decide)
                have o_a1 := gr_ob g131 o_a1
                have o_v0 := gr_ob g131 o_v0
                have o_v1 := gr_ob g131 o_v1
                have o_v2 := gr_ob g131 o_v2
                have g0 := gr_tr (T := S99) g0 g131
                have gL100 := gr_tr (T := S99) gL100 g131
                intro _
                refine u_X7_reckon_120 ?_
                refine ⟨o_v1, ?_⟩
                intro x133 ex133
                have r_x133 : (0 : Int32) ≤ x133 ∧ x133 ≤ (8 : Int32) := by rw [ex133]; exact nu 12 rfl hI o_v1
                have d_x133 := ex133
                refine ⟨o_v0, ?_⟩
                refine m_X7_reckonMinute hI o_v0 (q139 h5 c2 c4 c50 c96 i1 c113 c114 r_x119 ex120 c122) hM (fun S135 hI g136 fc137 p_S135 => ?_)
                obtain hM := p_S135
                have l_a1 := (gr_len g136 o_a1).trans l_a1
                have d_x3 := d_x3.trans (fri_at fc137 (by decide) (by decide) o_v0).symm
                have d_x49 := d_x49.trans (fri_at fc137 (by decide) (by decide) o_v0).symm
                have d_x95 := d_x95.trans (fri_at fc137 (by decide) (by decide) o_v0).symm
                have d_x119 := d_x119.trans (fri_at fc137 (by decide) (by decide) o_v1).symm
                have d_x133 := d_x133.trans (fri_at fc137 (by decide) (by decide) o_v1).symm
                have ea1 := (frr_at fc137 (by decide) (by decide) o_v0).trans ea1
                have f0 := fri_tr (S := S130) g0 f0 fc137 (by decide) (by decide)
                have fL101 := fri_tr (S := S130) gL100 fL101 fc137 (by decide) (by decide)
                have o_a1 := gr_ob g136 o_a1
                have o_v0 := gr_ob g136 o_v0
                have o_v1 := gr_ob g136 o_v1
                have o_v2 := gr_ob g136 o_v2
                have g0 := gr_tr (T := S130) g0 g136
                have gL100 := gr_tr (T := S130) gL100 g136
                intro _
                have hI := iv_sI (j := 13) (v := w110) hI o_v0 (by decide) (nu_one (lo := (0 : Int32)) (hi := (401 : Int32)) (by decide) (q140 h5 c2 c4 c50 c96 i1 c113 c114 r_x119 ex120 c122))
                have f0 : FRI _ _ _ (sI S135 v0 13 w110) := fri_sI (S := S135) g0 f0 o_v0 (by decide)
                have fL101 : FRI _ _ _ (sI S135 v0 13 w110) := fri_sI (S := S135) gL100 fL101 o_v0 (by decide)
                have d_x3 : x3 = fI (sI S135 v0 13 w110) v0 10 := d_x3.trans (rd_j (by decide)).symm
                have d_x49 : x49 = fI (sI S135 v0 13 w110) v0 11 := d_x49.trans (rd_j (by decide)).symm
                have d_x95 : x95 = fI (sI S135 v0 13 w110) v0 12 := d_x95.trans (rd_j (by decide)).symm
                have d_x119 : x119 = fI (sI S135 v0 13 w110) v1 1 := d_x119.trans (sI_ne (S := S135) o_v0 o_v1 (by decide) 1).symm
                have d_x133 : x133 = fI (sI S135 v0 13 w110) v1 2 := d_x133.trans (sI_ne (S := S135) o_v0 o_v1 (by decide) 2).symm
                have d_w110 : w110 = fI (sI S135 v0 13 w110) v0 13 := (u2_self _ _ _ _).symm
                intro x138 ex138
                exact ih112 _ _ _ _ _ _ ⟨hI, gL100, fL101, rfl, rfl, rfl, rfl, hM, (q141 h5 c2 c4 c50 c96 i1 c113 c114 r_x119 ex120 c122 ex138)⟩ (mu_down (q142 h5 c2 c4 c50 c96 i1 c113 c114 r_x119 ex120 c122 ex138) (q143 h5 c2 c4 c50 c96 i1 c113 c114 r_x119 ex120 c122 ex138))
        · refine u_X7_reckon_38 ?_
          refine ⟨o_v0, ?_⟩
          have hI := iv_sI (j := 10) (v := v3) hI o_v0 (by decide) (nu_free (by decide))
          have f0 : FRI _ _ _ (sI S v0 10 v3) := fri_sI (S := S) g0 f0 o_v0 (by decide)
          have d_x49 : x49 = fI (sI S v0 10 v3) v0 11 := d_x49.trans (rd_j (by decide)).symm
          have d_x95 : x95 = fI (sI S v0 10 v3) v0 12 := d_x95.trans (rd_j (by decide)).symm
          have d_v3 : v3 = fI (sI S v0 10 v3) v0 10 := (u2_self _ _ _ _).symm
          have hI := iv_sI (j := 11) (v := v4) hI o_v0 (by decide) (nu_free (by decide))
          have f0 : FRI _ _ _ (sI (sI S v0 10 v3) v0 11 v4) := fri_sI (S := sI S v0 10 v3) g0 f0 o_v0 (by decide)
          have d_x95 : x95 = fI (sI (sI S v0 10 v3) v0 11 v4) v0 12 := d_x95.trans (rd_j (by decide)).symm
          have d_v3 : v3 = fI (sI (sI S v0 10 v3) v0 11 v4) v0 10 := d_v3.trans (rd_j (by decide)).symm
          have d_v4 : v4 = fI (sI (sI S v0 10 v3) v0 11 v4) v0 11 := (u2_self _ _ _ _).symm
          have hI := iv_sI (j := 12) (v := v5) hI o_v0 (by decide) (nu_free (by decide))
          have f0 : FRI _ _ _ (sI (sI (sI S v0 10 v3) v0 11 v4) v0 12 v5) := fri_sI (S := sI (sI S v0 10 v3) v0 11 v4) g0 f0 o_v0 (by decide)
          have d_v3 : v3 = fI (sI (sI (sI S v0 10 v3) v0 11 v4) v0 12 v5) v0 10 := d_v3.trans (rd_j (by decide)).symm
          have d_v4 : v4 = fI (sI (sI (sI S v0 10 v3) v0 11 v4) v0 12 v5) v0 11 := d_v4.trans (rd_j (by decide)).symm
          have d_v5 : v5 = fI (sI (sI (sI S v0 10 v3) v0 11 v4) v0 12 v5) v0 12 := (u2_self _ _ _ _).symm
          intro x139 ex139
          have hI := iv_sI (j := 13) (v := x139) hI o_v0 (by decide) (nu_one (lo := (0 : Int32)) (hi := (401 : Int32)) (by decide) (q144 h5 c2 c4 c50 c96 ex139))
          have f0 : FRI _ _ _ (sI (sI (sI (sI S v0 10 v3) v0 11 v4) v0 12 v5) v0 13 x139) := fri_sI (S := sI (sI (sI S v0 10 v3) v0 11 v4) v0 12 v5) g0 f0 o_v0 (by decide)
          have d_v3 : v3 = fI (sI (sI (sI (sI S v0 10 v3) v0 11 v4) v0 12 v5) v0 13 x139) v0 10 := d_v3.trans (rd_j (by decide)).symm
          have d_v4 : v4 = fI (sI (sI (sI (sI S v0 10 v3) v0 11 v4) v0 12 v5) v0 13 x139) v0 11 := d_v4.trans (rd_j (by decide)).symm
          have d_v5 : v5 = fI (sI (sI (sI (sI S v0 10 v3) v0 11 v4) v0 12 v5) v0 13 x139) v0 12 := d_v5.trans (rd_j (by decide)).symm
          have d_x139 : x139 = fI (sI (sI (sI (sI S v0 10 v3) v0 11 v4) v0 12 v5) v0 13 x139) v0 13 := (u2_self _ _ _ _).symm
          have hI := iv_sI (j := 9) (v := (-1 : Int32)) hI o_v0 (by decide) (nu_free (by decide))
          have f0 : FRI _ _ _ (sI (sI (sI (sI (sI S v0 10 v3) v0 11 v4) v0 12 v5) v0 13 x139) v0 9 (-1 : Int32)) := fri_sI (S := sI (sI (sI (sI S v0 10 v3) v0 11 v4) v0 12 v5) v0 13 x139) g0 f0 o_v0 (by decide)
          have d_v3 : v3 = fI (sI (sI (sI (sI (sI S v0 10 v3) v0 11 v4) v0 12 v5) v0 13 x139) v0 9 (-1 : Int32)) v0 10 := d_v3.trans (rd_j (by decide)).symm
          have d_v4 : v4 = fI (sI (sI (sI (sI (sI S v0 10 v3) v0 11 v4) v0 12 v5) v0 13 x139) v0 9 (-1 : Int32)) v0 11 := d_v4.trans (rd_j (by decide)).symm
          have d_v5 : v5 = fI (sI (sI (sI (sI (sI S v0 10 v3) v0 11 v4) v0 12 v5) v0 13 x139) v0 9 (-1 : Int32)) v0 12 := d_v5.trans (rd_j (by decide)).symm
          have d_x139 : x139 = fI (sI (sI (sI (sI (sI S v0 10 v3) v0 11 v4) v0 12 v5) v0 13 x139) v0 9 (-1 : Int32)) v0 13 := d_x139.trans (rd_j (by decide)).symm
          obtain ⟨y140, hy140⟩ : ∃ z : Int32, z = (-1 : Int32) := ⟨_, rfl⟩
          have d_y140 : y140 = fI (sI (sI (sI (sI (sI S v0 10 v3) v0 11 v4) v0 12 v5) v0 13 x139) v0 9 (-1 : Int32)) v0 9 := hy140.trans (u2_self _ _ _ _).symm
          refine u_X7_reckon_68 ?_
          refine ⟨o_v0, ?_⟩
          intro x141 ex141
          have r_x141 : (0 : Int32) ≤ x141 ∧ x141 ≤ (401 : Int32) := by rw [ex141]; exact nu 9 rfl hI o_v0
          have q_x141 : x141 = x139 := ex141.trans d_x139.symm
          have d_x141 := ex141
          intro x142 ex142
          refine i_X7_reckon_76 (fun (y0 : Nat) (y1 : Nat) (y2 : Nat) (y6 : Int32) (y7 : Int32) (Z : HS) => (y7.toInt - (-1 : Int32).toInt).toNat) (fun (y0 : Nat) (y1 : Nat) (y2 : Nat) (y6 : Int32) (y7 : Int32) (Z : HS) => (IV Z) ∧ (Gr (sI (sI (sI (sI (sI S v0 10 v3) v0 11 v4) v0 12 v5) v0 13 x139) v0 9 (-1 : Int32)) Z) ∧ (FRI [(7, 3), (7, 9), (7, 13)] [] (sI (sI (sI (sI (sI S v0 10 v3) v0 11 v4) v0 12 v5) v0 13 x139) v0 9 (-1 : Int32)) Z) ∧ (v0 = y0) ∧ (v1 = y1) ∧ (v2 = y2) ∧ (v6 = y6) ∧ (WM Z v0) ∧ (y7 ≤ 400)) ?_ _ _ _ _ _ _ ⟨hI, (gr_rf _), (fri_rf _ _ _), rfl, rfl, rfl, rfl, hM, (q145 h5 c2 c4 c50 c96 ex139 r_x141 q_x141 ex142)⟩
          intro w146 w148 w150 w152 w154 S143 X155 ⟨hI, gL144, fL145, q147, q149, q151, q153, hM, i1⟩ ih156
          subst q147
          subst q149
          subst q151
          subst q153
          have l_a1 := (gr_len gL144 o_a1).trans l_a1
          have d_v3 := d_v3.trans (fri_at fL145 (by decide) (by decide) o_v0).symm
          have d_v4 := d_v4.trans (fri_at fL145 (by decide) (by decide) o_v0).symm
          have d_v5 := d_v5.trans (fri_at fL145 (by decide) (by decide) o_v0).symm
          have ea1 := (frr_at fL145 (by decide) (by decide) o_v0).trans ea1
          have f0 := fri_tr (S := sI (sI (sI (sI (sI S v0 10 v3) v0 11 v4) v0 12 v5) v0 13 x139) v0 9 (-1 : Int32)) g0 f0 fL145 (by decide) (by decide)
          have o_a1 := gr_ob gL144 o_a1
          have o_v0 := gr_ob gL144 o_v0
          have o_v1 := gr_ob gL144 o_v1
          have o_v2 := gr_ob gL144 o_v2
          have g0 := gr_tr (T := sI (sI (sI (sI (sI S v0 10 v3) v0 11 v4) v0 12 v5) v0 13 x139) v0 9 (-1 : Int32)) g0 gL144
          refine u_X7_reckon_76 ?_
          refine ⟨fun c157 => ?_, fun c157 => ?_⟩
          · exact hq _ hI g0 f0
          · refine ⟨fun c158 => ?_, fun c158 => ?_⟩
            · exact hq _ hI g0 f0
            · refine ⟨o_v1, ?_⟩
              refine m_X8_hourOf hI o_v1 (fun x159 S160 hI2 g161 p_x159 => ?_)
              subst p_x159
              intro _
              intro x163 ex163
              have r_x163 : (0 : Int32) ≤ x163 ∧ x163 ≤ (6 : Int32) := by rw [ex163]; exact nu 11 rfl hI o_v1
              have d_x163 := ex163
              intro x164 ex164
              refine ⟨o_v0, ?_⟩
              intro x165 ex165
              have d_x165 := ex165
              refine ⟨fun c166 => ?_, fun c166 => ?_⟩
              · refine u_X7_reckon_120 ?_
                refine ⟨o_v1, ?_⟩
                intro x167 ex167
                have r_x167 : (0 : Int32) ≤ x167 ∧ x167 ≤ (8 : Int32) := by rw [ex167]; exact nu 12 rfl hI o_v1
                have d_x167 := ex167
                refine ⟨o_v0, ?_⟩
                refine m_X7_reckonMinute hI o_v0 (q146 h5 c2 c4 c50 c96 ex139 r_x141 q_x141 ex142 i1 c157 c158 r_x163 ex164 c166) hM (fun S169 hI g170 fc171 p_S169 => ?_)
                obtain hM := p_S169
                have l_a1 := (gr_len g170 o_a1).trans l_a1
                have d_v3 := d_v3.trans (fri_at fc171 (by decide) (by decide) o_v0).symm
                have d_v4 := d_v4.trans (fri_at fc171 (by decide) (by decide) o_v0).symm
                have d_v5 := d_v5.trans (fri_at fc171 (by decide) (by decide) o_v0).symm
                have d_x163 := d_x163.trans (fri_at fc171 (by decide) (by decide) o_v1).symm
                have d_x165 := d_x165.trans (fri_at fc171 (by decide) (by decide) o_v0).symm
                have d_x167 := d_x167.trans (fri_at fc171 (by decide) (by decide) o_v1).symm
                have ea1 := (frr_at fc171 (by decide) (by decide) o_v0).trans ea1
                have f0 := fri_tr (S := S143) g0 f0 fc171 (by decide) (by decide)
                have fL145 := fri_tr (S := S143) gL144 fL145 fc171 (by decide) (by decide)
                have o_a1 := gr_ob g170 o_a1
                have o_v0 := gr_ob g170 o_v0
                have o_v1 := gr_ob g170 o_v1
                have o_v2 := gr_ob g170 o_v2
                have g0 := gr_tr (T := S143) g0 g170
                have gL144 := gr_tr (T := S143) gL144 g170
                intro _
                have hI := iv_sI (j := 13) (v := w154) hI o_v0 (by decide) (nu_one (lo := (0 : Int32)) (hi := (401 : Int32)) (by decide) (q147 h5 c2 c4 c50 c96 ex139 r_x141 q_x141 ex142 i1 c157 c158 r_x163 ex164 c166))
                have f0 : FRI _ _ _ (sI S169 v0 13 w154) := fri_sI (S := S169) g0 f0 o_v0 (by decide)
                have fL145 : FRI _ _ _ (sI S169 v0 13 w154) := fri_sI (S := S169) gL144 fL145 o_v0 (by decide)
                have d_v3 : v3 = fI (sI S169 v0 13 w154) v0 10 := d_v3.trans (rd_j (by decide)).symm
                have d_v4 : v4 = fI (sI S169 v0 13 w154) v0 11 := d_v4.trans (rd_j (by decide)).symm
                have d_v5 : v5 = fI (sI S169 v0 13 w154) v0 12 := d_v5.trans (rd_j (by decide)).symm
                have d_x163 : x163 = fI (sI S169 v0 13 w154) v1 1 := d_x163.trans (sI_ne (S := S169) o_v0 o_v1 (by decide) 1).symm
                have d_x165 : x165 = fI (sI S169 v0 13 w154) v0 9 := d_x165.trans (rd_j (by decide)).symm
                have d_x167 : x167 = fI (sI S169 v0 13 w154) v1 2 := d_x167.trans (sI_ne (S := S169) o_v0 o_v1 (by decide) 2).symm
                have d_w154 : w154 = fI (sI S169 v0 13 w154) v0 13 := (u2_self _ _ _ _).symm
                intro x172 ex172
                exact ih156 _ _ _ _ _ _ ⟨hI, gL144, fL145, rfl, rfl, rfl, rfl, hM, (q148 h5 c2 c4 c50 c96 ex139 r_x141 q_x141 ex142 i1 c157 c158 r_x163 ex164 c166 ex172)⟩ (mu_down (q149 h5 c2 c4 c50 c96 ex139 r_x141 q_x141 ex142 i1 c157 c158 r_x163 ex164 c166 ex172) (q150 h5 c2 c4 c50 c96 ex139 r_x141 q_x141 ex142 i1 c157 c158 r_x163 ex164 c166 ex172))
              · refine m_X7_price hI o_v0 o_v1 o_v2 hM (fun S174 hI g175 fc176 p_S174 => ?_)
                obtain hM := p_S174
                have l_a1 := (gr_len g175 o_a1).trans l_a1
                have d_v3 := d_v3.trans (fri_at fc176 (by decide) (by decide) o_v0).symm
                have d_v4 := d_v4.trans (fri_at fc176 (by decide) (by decide) o_v0).symm
                have d_v5 := d_v5.trans (fri_at fc176 (by decide) (by decide) o_v0).symm
                have d_x163 := d_x163.trans (fri_at fc176 (by decide) (by decide) o_v1).symm
                have ea1 := (frr_at fc176 (by decide) (by decide) o_v0).trans ea1
                have f0 := fri_tr (S := S143) g0 f0 fc176 (by decide) (by decide)
                have fL145 := fri_tr (S := S143) gL144 fL145 fc176 (by decide) (by decide)
                have o_a1 := gr_ob g175 o_a1
                have o_v0 := gr_ob g175 o_v0
                have o_v1 := gr_ob g175 o_v1
                have o_v2 := gr_ob g175 o_v2
                have g0 := gr_tr (T := S143) g0 g175
                have gL144 := gr_tr (T := S143) gL144 g175
                intro _
                refine u_X7_reckon_120 ?_
                refine ⟨o_v1, ?_⟩
                intro x177 ex177
                have r_x177 : (0 : Int32) ≤ x177 ∧ x177 ≤ (8 : Int32) := by rw [ex177]; exact nu 12 rfl hI o_v1
                have d_x177 := ex177
                refine ⟨o_v0, ?_⟩
                refine m_X7_reckonMinute hI o_v0 (q151 h5 c2 c4 c50 c96 ex139 r_x141 q_x141 ex142 i1 c157 c158 r_x163 ex164 c166) hM (fun S179 hI g180 fc181 p_S179 => ?_)
                obtain hM := p_S179
                have l_a1 := (gr_len g180 o_a1).trans l_a1
                have d_v3 := d_v3.trans (fri_at fc181 (by decide) (by decide) o_v0).symm
                have d_v4 := d_v4.trans (fri_at fc181 (by decide) (by decide) o_v0).symm
                have d_v5 := d_v5.trans (fri_at fc181 (by decide) (by decide) o_v0).symm
                have d_x163 := d_x163.trans (fri_at fc181 (by decide) (by decide) o_v1).symm
                have d_x177 := d_x177.trans (fri_at fc181 (by decide) (by decide) o_v1).symm
                have ea1 := (frr_at fc181 (by decide) (by decide) o_v0).trans ea1
                have f0 := fri_tr (S := S174) g0 f0 fc181 (by decide) (by decide)
                have fL145 := fri_tr (S := S174) gL144 fL145 fc181 (by decide) (by decide)
                have o_a1 := gr_ob g180 o_a1
                have o_v0 := gr_ob g180 o_v0
                have o_v1 := gr_ob g180 o_v1
                have o_v2 := gr_ob g180 o_v2
                have g0 := gr_tr (T := S174) g0 g180
                have gL144 := gr_tr (T := S174) gL144 g180
                intro _
                have hI := iv_sI (j := 13) (v := w154) hI o_v0 (by decide) (nu_one (lo := (0 : Int32)) (hi := (401 : Int32)) (by decide) (q152 h5 c2 c4 c50 c96 ex139 r_x141 q_x141 ex142 i1 c157 c158 r_x163 ex164 c166))
                have f0 : FRI _ _ _ (sI S179 v0 13 w154) := fri_sI (S := S179) g0 f0 o_v0 (by decide)
                have fL145 : FRI _ _ _ (sI S179 v0 13 w154) := fri_sI (S := S179) gL144 fL145 o_v0 (by decide)
                have d_v3 : v3 = fI (sI S179 v0 13 w154) v0 10 := d_v3.trans (rd_j (by decide)).symm
                have d_v4 : v4 = fI (sI S179 v0 13 w154) v0 11 := d_v4.trans (rd_j (by decide)).symm
                have d_v5 : v5 = fI (sI S179 v0 13 w154) v0 12 := d_v5.trans (rd_j (by decide)).symm
                have d_x163 : x163 = fI (sI S179 v0 13 w154) v1 1 := d_x163.trans (sI_ne (S := S179) o_v0 o_v1 (by decide) 1).symm
                have d_x177 : x177 = fI (sI S179 v0 13 w154) v1 2 := d_x177.trans (sI_ne (S := S179) o_v0 o_v1 (by decide) 2).symm
                have d_w154 : w154 = fI (sI S179 v0 13 w154) v0 13 := (u2_self _ _ _ _).symm
                intro x182 ex182
                exact ih156 _ _ _ _ _ _ ⟨hI, gL144, fL145, rfl, rfl, rfl, rfl, hM, (q153 h5 c2 c4 c50 c96 ex139 r_x141 q_x141 ex142 i1 c157 c158 r_x163 ex164 c166 ex182)⟩ (mu_down (q154 h5 c2 c4 c50 c96 ex139 r_x141 q_x141 ex142 i1 c157 c158 r_x163 ex164 c166 ex182) (q155 h5 c2 c4 c50 c96 ex139 r_x141 q_x141 ex142 i1 c157 c158 r_x163 ex164 c166 ex182))
  · rw [n_a1] at c2
    refine m_X7_makeRows hI o_v0 (fun S184 hI g185 fc186 p_S184 => ?_)
    have l_a1 := (gr_len g185 o_a1).trans l_a1
    have f0 := fri_tr (S := S) g0 f0 fc186 (by decide) (by decide)
    have o_a1 := gr_ob g185 o_a1
    have o_v0 := gr_ob g185 o_v0
    have o_v1 := gr_ob g185 o_v1
    have o_v2 := gr_ob g185 o_v2
    have g0 := gr_tr (T := S) g0 g185
    intro _
    have hM := p_S184
    refine u_X7_reckon_12 ?_
    refine ⟨o_v0, ?_⟩
    intro x187 ex187
    have d_x187 := ex187
    refine ⟨fun c188 => ?_, fun c188 => ?_⟩
    · refine u_X7_reckon_38 ?_
      refine ⟨o_v0, ?_⟩
      have hI := iv_sI (j := 10) (v := v3) hI o_v0 (by decide) (nu_free (by decide))
      have f0 : FRI _ _ _ (sI S184 v0 10 v3) := fri_sI (S := S184) g0 f0 o_v0 (by decide)
      have d_v3 : v3 = fI (sI S184 v0 10 v3) v0 10 := (u2_self _ _ _ _).symm
      have hI := iv_sI (j := 11) (v := v4) hI o_v0 (by decide) (nu_free (by decide))
      have f0 : FRI _ _ _ (sI (sI S184 v0 10 v3) v0 11 v4) := fri_sI (S := sI S184 v0 10 v3) g0 f0 o_v0 (by decide)
      have d_v3 : v3 = fI (sI (sI S184 v0 10 v3) v0 11 v4) v0 10 := d_v3.trans (rd_j (by decide)).symm
      have d_v4 : v4 = fI (sI (sI S184 v0 10 v3) v0 11 v4) v0 11 := (u2_self _ _ _ _).symm
      have hI := iv_sI (j := 12) (v := v5) hI o_v0 (by decide) (nu_free (by decide))
      have f0 : FRI _ _ _ (sI (sI (sI S184 v0 10 v3) v0 11 v4) v0 12 v5) := fri_sI (S := sI (sI S184 v0 10 v3) v0 11 v4) g0 f0 o_v0 (by decide)
      have d_v3 : v3 = fI (sI (sI (sI S184 v0 10 v3) v0 11 v4) v0 12 v5) v0 10 := d_v3.trans (rd_j (by decide)).symm
      have d_v4 : v4 = fI (sI (sI (sI S184 v0 10 v3) v0 11 v4) v0 12 v5) v0 11 := d_v4.trans (rd_j (by decide)).symm
      have d_v5 : v5 = fI (sI (sI (sI S184 v0 10 v3) v0 11 v4) v0 12 v5) v0 12 := (u2_self _ _ _ _).symm
      intro x189 ex189
      have hI := iv_sI (j := 13) (v := x189) hI o_v0 (by decide) (nu_one (lo := (0 : Int32)) (hi := (401 : Int32)) (by decide) (q156 h5 c2 c188 ex189))
      have f0 : FRI _ _ _ (sI (sI (sI (sI S184 v0 10 v3) v0 11 v4) v0 12 v5) v0 13 x189) := fri_sI (S := sI (sI (sI S184 v0 10 v3) v0 11 v4) v0 12 v5) g0 f0 o_v0 (by decide)
      have d_v3 : v3 = fI (sI (sI (sI (sI S184 v0 10 v3) v0 11 v4) v0 12 v5) v0 13 x189) v0 10 := d_v3.trans (rd_j (by decide)).symm
      have d_v4 : v4 = fI (sI (sI (sI (sI S184 v0 10 v3) v0 11 v4) v0 12 v5) v0 13 x189) v0 11 := d_v4.trans (rd_j (by decide)).symm
      have d_v5 : v5 = fI (sI (sI (sI (sI S184 v0 10 v3) v0 11 v4) v0 12 v5) v0 13 x189) v0 12 := d_v5.trans (rd_j (by decide)).symm
      have d_x189 : x189 = fI (sI (sI (sI (sI S184 v0 10 v3) v0 11 v4) v0 12 v5) v0 13 x189) v0 13 := (u2_self _ _ _ _).symm
      have hI := iv_sI (j := 9) (v := (-1 : Int32)) hI o_v0 (by decide) (nu_free (by decide))
      have f0 : FRI _ _ _ (sI (sI (sI (sI (sI S184 v0 10 v3) v0 11 v4) v0 12 v5) v0 13 x189) v0 9 (-1 : Int32)) := fri_sI (S := sI (sI (sI (sI S184 v0 10 v3) v0 11 v4) v0 12 v5) v0 13 x189) g0 f0 o_v0 (by decide)
      have d_v3 : v3 = fI (sI (sI (sI (sI (sI S184 v0 10 v3) v0 11 v4) v0 12 v5) v0 13 x189) v0 9 (-1 : Int32)) v0 10 := d_v3.trans (rd_j (by decide)).symm
      have d_v4 : v4 = fI (sI (sI (sI (sI (sI S184 v0 10 v3) v0 11 v4) v0 12 v5) v0 13 x189) v0 9 (-1 : Int32)) v0 11 := d_v4.trans (rd_j (by decide)).symm
      have d_v5 : v5 = fI (sI (sI (sI (sI (sI S184 v0 10 v3) v0 11 v4) v0 12 v5) v0 13 x189) v0 9 (-1 : Int32)) v0 12 := d_v5.trans (rd_j (by decide)).symm
      have d_x189 : x189 = fI (sI (sI (sI (sI (sI S184 v0 10 v3) v0 11 v4) v0 12 v5) v0 13 x189) v0 9 (-1 : Int32)) v0 13 := d_x189.trans (rd_j (by decide)).symm
      obtain ⟨y190, hy190⟩ : ∃ z : Int32, z = (-1 : Int32) := ⟨_, rfl⟩
      have d_y190 : y190 = fI (sI (sI (sI (sI (sI S184 v0 10 v3) v0 11 v4) v0 12 v5) v0 13 x189) v0 9 (-1 : Int32)) v0 9 := hy190.trans (u2_self _ _ _ _).symm
      refine u_X7_reckon_68 ?_
      refine ⟨o_v0, ?_⟩
      intro x191 ex191
      have r_x191 : (0 : Int32) ≤ x191 ∧ x191 ≤ (401 : Int32) := by rw [ex191]; exact nu 9 rfl hI o_v0
      have q_x191 : x191 = x189 := ex191.trans d_x189.symm
      have d_x191 := ex191
      intro x192 ex192
      refine i_X7_reckon_76 (fun (y0 : Nat) (y1 : Nat) (y2 : Nat) (y6 : Int32) (y7 : Int32) (Z : HS) => (y7.toInt - (-1 : Int32).toInt).toNat) (fun (y0 : Nat) (y1 : Nat) (y2 : Nat) (y6 : Int32) (y7 : Int32) (Z : HS) => (IV Z) ∧ (Gr (sI (sI (sI (sI (sI S184 v0 10 v3) v0 11 v4) v0 12 v5) v0 13 x189) v0 9 (-1 : Int32)) Z) ∧ (FRI [(7, 3), (7, 9), (7, 13)] [] (sI (sI (sI (sI (sI S184 v0 10 v3) v0 11 v4) v0 12 v5) v0 13 x189) v0 9 (-1 : Int32)) Z) ∧ (v0 = y0) ∧ (v1 = y1) ∧ (v2 = y2) ∧ (v6 = y6) ∧ (WM Z v0) ∧ (y7 ≤ 400)) ?_ _ _ _ _ _ _ ⟨hI, (gr_rf _), (fri_rf _ _ _), rfl, rfl, rfl, rfl, hM, (q157 h5 c2 c188 ex189 r_x191 q_x191 ex192)⟩
      intro w196 w198 w200 w202 w204 S193 X205 ⟨hI, gL194, fL195, q197, q199, q201, q203, hM, i1⟩ ih206
      subst q197
      subst q199
      subst q201
      subst q203
      have l_a1 := (gr_len gL194 o_a1).trans l_a1
      have d_v3 := d_v3.trans (fri_at fL195 (by decide) (by decide) o_v0).symm
      have d_v4 := d_v4.trans (fri_at fL195 (by decide) (by decide) o_v0).symm
      have d_v5 := d_v5.trans (fri_at fL195 (by decide) (by decide) o_v0).symm
      have f0 := fri_tr (S := sI (sI (sI (sI (sI S184 v0 10 v3) v0 11 v4) v0 12 v5) v0 13 x189) v0 9 (-1 : Int32)) g0 f0 fL195 (by decide) (by decide)
      have o_a1 := gr_ob gL194 o_a1
      have o_v0 := gr_ob gL194 o_v0
      have o_v1 := gr_ob gL194 o_v1
      have o_v2 := gr_ob gL194 o_v2
      have g0 := gr_tr (T := sI (sI (sI (sI (sI S184 v0 10 v3) v0 11 v4) v0 12 v5) v0 13 x189) v0 9 (-1 : Int32)) g0 gL194
      refine u_X7_reckon_76 ?_
      refine ⟨fun c207 => ?_, fun c207 => ?_⟩
      · exact hq _ hI g0 f0
      · refine ⟨fun c208 => ?_, fun c208 => ?_⟩
        · exact hq _ hI g0 f0
        · refine ⟨o_v1, ?_⟩
          refine m_X8_hourOf hI o_v1 (fun x209 S210 hI2 g211 p_x209 => ?_)
          subst p_x209
          intro _
          intro x213 ex213
          have r_x213 : (0 : Int32) ≤ x213 ∧ x213 ≤ (6 : Int32) := by rw [ex213]; exact nu 11 rfl hI o_v1
          have d_x213 := ex213
          intro x214 ex214
          refine ⟨o_v0, ?_⟩
          intro x215 ex215
          have d_x215 := ex215
          refine ⟨fun c216 => ?_, fun c216 => ?_⟩
          · refine u_X7_reckon_120 ?_
            refine ⟨o_v1, ?_⟩
            intro x217 ex217
            have r_x217 : (0 : Int32) ≤ x217 ∧ x217 ≤ (8 : Int32) := by rw [ex217]; exact nu 12 rfl hI o_v1
            have d_x217 := ex217
            refine ⟨o_v0, ?_⟩
            refine m_X7_reckonMinute hI o_v0 (q158 c2 c188 i1 c207 c208 r_x213 ex214 c216) hM (fun S219 hI g220 fc221 p_S219 => ?_)
            obtain hM := p_S219
            have l_a1 := (gr_len g220 o_a1).trans l_a1
            have d_v3 := d_v3.trans (fri_at fc221 (by decide) (by decide) o_v0).symm
            have d_v4 := d_v4.trans (fri_at fc221 (by decide) (by decide) o_v0).symm
            have d_v5 := d_v5.trans (fri_at fc221 (by decide) (by decide) o_v0).symm
            have d_x213 := d_x213.trans (fri_at fc221 (by decide) (by decide) o_v1).symm
            have d_x215 := d_x215.trans (fri_at fc221 (by decide) (by decide) o_v0).symm
            have d_x217 := d_x217.trans (fri_at fc221 (by decide) (by decide) o_v1).symm
            have f0 := fri_tr (S := S193) g0 f0 fc221 (by decide) (by decide)
            have fL195 := fri_tr (S := S193) gL194 fL195 fc221 (by decide) (by decide)
            have o_a1 := gr_ob g220 o_a1
            have o_v0 := gr_ob g220 o_v0
            have o_v1 := gr_ob g220 o_v1
            have o_v2 := gr_ob g220 o_v2
            have g0 := gr_tr (T := S193) g0 g220
            have gL194 := gr_tr (T := S193) gL194 g220
            intro _
            have hI := iv_sI (j := 13) (v := w204) hI o_v0 (by decide) (nu_one (lo := (0 : Int32)) (hi := (401 : Int32)) (by decide) (q159 c2 c188 i1 c207 c208 r_x213 ex214 c216))
            have f0 : FRI _ _ _ (sI S219 v0 13 w204) := fri_sI (S := S219) g0 f0 o_v0 (by decide)
            have fL195 : FRI _ _ _ (sI S219 v0 13 w204) := fri_sI (S := S219) gL194 fL195 o_v0 (by decide)
            have d_v3 : v3 = fI (sI S219 v0 13 w204) v0 10 := d_v3.trans (rd_j (by decide)).symm
            have d_v4 : v4 = fI (sI S219 v0 13 w204) v0 11 := d_v4.trans (rd_j (by decide)).symm
            have d_v5 : v5 = fI (sI S219 v0 13 w204) v0 12 := d_v5.trans (rd_j (by decide)).symm
            have d_x213 : x213 = fI (sI S219 v0 13 w204) v1 1 := d_x213.trans (sI_ne (S := S219) o_v0 o_v1 (by decide) 1).symm
            have d_x215 : x215 = fI (sI S219 v0 13 w204) v0 9 := d_x215.trans (rd_j (by decide)).symm
            have d_x217 : x217 = fI (sI S219 v0 13 w204) v1 2 := d_x217.trans (sI_ne (S := S219) o_v0 o_v1 (by decide) 2).symm
            have d_w204 : w204 = fI (sI S219 v0 13 w204) v0 13 := (u2_self _ _ _ _).symm
            intro x222 ex222
            exact ih206 _ _ _ _ _ _ ⟨hI, gL194, fL195, rfl, rfl, rfl, rfl, hM, (q160 c2 c188 i1 c207 c208 r_x213 ex214 c216 ex222)⟩ (mu_down (q161 c2 c188 i1 c207 c208 r_x213 ex214 c216 ex222) (q162 c2 c188 i1 c207 c208 r_x213 ex214 c216 ex222))
          · refine m_X7_price hI o_v0 o_v1 o_v2 hM (fun S224 hI g225 fc226 p_S224 => ?_)
            obtain hM := p_S224
            have l_a1 := (gr_len g225 o_a1).trans l_a1
            have d_v3 := d_v3.trans (fri_at fc226 (by decide) (by decide) o_v0).symm
            have d_v4 := d_v4.trans (fri_at fc226 (by decide) (by decide) o_v0).symm
            have d_v5 := d_v5.trans (fri_at fc226 (by decide) (by decide) o_v0).symm
            have d_x213 := d_x213.trans (fri_at fc226 (by decide) (by decide) o_v1).symm
            have f0 := fri_tr (S := S193) g0 f0 fc226 (by decide) (by decide)
            have fL195 := fri_tr (S := S193) gL194 fL195 fc226 (by decide) (by decide)
            have o_a1 := gr_ob g225 o_a1
            have o_v0 := gr_ob g225 o_v0
            have o_v1 := gr_ob g225 o_v1
            have o_v2 := gr_ob g225 o_v2
            have g0 := gr_tr (T := S193) g0 g225
            have gL194 := gr_tr (T := S193) gL194 g225
            intro _
            refine u_X7_reckon_120 ?_
            refine ⟨o_v1, ?_⟩
            intro x227 ex227
            have r_x227 : (0 : Int32) ≤ x227 ∧ x227 ≤ (8 : Int32) := by rw [ex227]; exact nu 12 rfl hI o_v1
            have d_x227 := ex227
            refine ⟨o_v0, ?_⟩
            refine m_X7_reckonMinute hI o_v0 (q163 c2 c188 i1 c207 c208 r_x213 ex214 c216) hM (fun S229 hI g230 fc231 p_S229 => ?_)
            obtain hM := p_S229
            have l_a1 := (gr_len g230 o_a1).trans l_a1
            have d_v3 := d_v3.trans (fri_at fc231 (by decide) (by decide) o_v0).symm
            have d_v4 := d_v4.trans (fri_at fc231 (by decide) (by decide) o_v0).symm
            have d_v5 := d_v5.trans (fri_at fc231 (by decide) (by decide) o_v0).symm
            have d_x213 := d_x213.trans (fri_at fc231 (by decide) (by decide) o_v1).symm
            have d_x227 := d_x227.trans (fri_at fc231 (by decide) (by decide) o_v1).symm
            have f0 := fri_tr (S := S224) g0 f0 fc231 (by decide) (by decide)
            have fL195 := fri_tr (S := S224) gL194 fL195 fc231 (by decide) (by decide)
            have o_a1 := gr_ob g230 o_a1
            have o_v0 := gr_ob g230 o_v0
            have o_v1 := gr_ob g230 o_v1
            have o_v2 := gr_ob g230 o_v2
            have g0 := gr_tr (T := S224) g0 g230
            have gL194 := gr_tr (T := S224) gL194 g230
            intro _
            have hI := iv_sI (j := 13) (v := w204) hI o_v0 (by decide) (nu_one (lo := (0 : Int32)) (hi := (401 : Int32)) (by decide) (q164 c2 c188 i1 c207 c208 r_x213 ex214 c216))
            have f0 : FRI _ _ _ (sI S229 v0 13 w204) := fri_sI (S := S229) g0 f0 o_v0 (by decide)
            have fL195 : FRI _ _ _ (sI S229 v0 13 w204) := fri_sI (S := S229) gL194 fL195 o_v0 (by decide)
            have d_v3 : v3 = fI (sI S229 v0 13 w204) v0 10 := d_v3.trans (rd_j (by decide)).symm
            have d_v4 : v4 = fI (sI S229 v0 13 w204) v0 11 := d_v4.trans (rd_j (by decide)).symm
            have d_v5 : v5 = fI (sI S229 v0 13 w204) v0 12 := d_v5.trans (rd_j (by decide)).symm
            have d_x213 : x213 = fI (sI S229 v0 13 w204) v1 1 := d_x213.trans (sI_ne (S := S229) o_v0 o_v1 (by decide) 1).symm
            have d_x227 : x227 = fI (sI S229 v0 13 w204) v1 2 := d_x227.trans (sI_ne (S := S229) o_v0 o_v1 (by decide) 2).symm
            have d_w204 : w204 = fI (sI S229 v0 13 w204) v0 13 := (u2_self _ _ _ _).symm
            intro x232 ex232
            exact ih206 _ _ _ _ _ _ ⟨hI, gL194, fL195, rfl, rfl, rfl, rfl, hM, (q165 c2 c188 i1 c207 c208 r_x213 ex214 c216 ex232)⟩ (mu_down (q166 c2 c188 i1 c207 c208 r_x213 ex214 c216 ex232) (q167 c2 c188 i1 c207 c208 r_x213 ex214 c216 ex232))
    · intro x233 ex233
      have d_x233 := ex233
      refine ⟨fun c234 => ?_, fun c234 => ?_⟩
      · refine u_X7_reckon_38 ?_
        refine ⟨o_v0, ?_⟩
        have hI := iv_sI (j := 10) (v := v3) hI o_v0 (by decide) (nu_free (by decide))
        have f0 : FRI _ _ _ (sI S184 v0 10 v3) := fri_sI (S := S184) g0 f0 o_v0 (by decide)
        have d_x233 : x233 = fI (sI S184 v0 10 v3) v0 11 := d_x233.trans (rd_j (by decide)).symm
        have d_v3 : v3 = fI (sI S184 v0 10 v3) v0 10 := (u2_self _ _ _ _).symm
        have hI := iv_sI (j := 11) (v := v4) hI o_v0 (by decide) (nu_free (by decide))
        have f0 : FRI _ _ _ (sI (sI S184 v0 10 v3) v0 11 v4) := fri_sI (S := sI S184 v0 10 v3) g0 f0 o_v0 (by decide)
        have d_v3 : v3 = fI (sI (sI S184 v0 10 v3) v0 11 v4) v0 10 := d_v3.trans (rd_j (by decide)).symm
        have d_v4 : v4 = fI (sI (sI S184 v0 10 v3) v0 11 v4) v0 11 := (u2_self _ _ _ _).symm
        have hI := iv_sI (j := 12) (v := v5) hI o_v0 (by decide) (nu_free (by decide))
        have f0 : FRI _ _ _ (sI (sI (sI S184 v0 10 v3) v0 11 v4) v0 12 v5) := fri_sI (S := sI (sI S184 v0 10 v3) v0 11 v4) g0 f0 o_v0 (by decide)
        have d_v3 : v3 = fI (sI (sI (sI S184 v0 10 v3) v0 11 v4) v0 12 v5) v0 10 := d_v3.trans (rd_j (by decide)).symm
        have d_v4 : v4 = fI (sI (sI (sI S184 v0 10 v3) v0 11 v4) v0 12 v5) v0 11 := d_v4.trans (rd_j (by decide)).symm
        have d_v5 : v5 = fI (sI (sI (sI S184 v0 10 v3) v0 11 v4) v0 12 v5) v0 12 := (u2_self _ _ _ _).symm
        intro x235 ex235
        have hI := iv_sI (j := 13) (v := x235) hI o_v0 (by decide) (nu_one (lo := (0 : Int32)) (hi := (401 : Int32)) (by decide) (q168 h5 c2 c188 c234 ex235))
        have f0 : FRI _ _ _ (sI (sI (sI (sI S184 v0 10 v3) v0 11 v4) v0 12 v5) v0 13 x235) := fri_sI (S := sI (sI (sI S184 v0 10 v3) v0 11 v4) v0 12 v5) g0 f0 o_v0 (by decide)
        have d_v3 : v3 = fI (sI (sI (sI (sI S184 v0 10 v3) v0 11 v4) v0 12 v5) v0 13 x235) v0 10 := d_v3.trans (rd_j (by decide)).symm
        have d_v4 : v4 = fI (sI (sI (sI (sI S184 v0 10 v3) v0 11 v4) v0 12 v5) v0 13 x235) v0 11 := d_v4.trans (rd_j (by decide)).symm
        have d_v5 : v5 = fI (sI (sI (sI (sI S184 v0 10 v3) v0 11 v4) v0 12 v5) v0 13 x235) v0 12 := d_v5.trans (rd_j (by decide)).symm
        have d_x235 : x235 = fI (sI (sI (sI (sI S184 v0 10 v3) v0 11 v4) v0 12 v5) v0 13 x235) v0 13 := (u2_self _ _ _ _).symm
        have hI := iv_sI (j := 9) (v := (-1 : Int32)) hI o_v0 (by decide) (nu_free (by decide))
        have f0 : FRI _ _ _ (sI (sI (sI (sI (sI S184 v0 10 v3) v0 11 v4) v0 12 v5) v0 13 x235) v0 9 (-1 : Int32)) := fri_sI (S := sI (sI (sI (sI S184 v0 10 v3) v0 11 v4) v0 12 v5) v0 13 x235) g0 f0 o_v0 (by decide)
        have d_v3 : v3 = fI (sI (sI (sI (sI (sI S184 v0 10 v3) v0 11 v4) v0 12 v5) v0 13 x235) v0 9 (-1 : Int32)) v0 10 := d_v3.trans (rd_j (by decide)).symm
        have d_v4 : v4 = fI (sI (sI (sI (sI (sI S184 v0 10 v3) v0 11 v4) v0 12 v5) v0 13 x235) v0 9 (-1 : Int32)) v0 11 := d_v4.trans (rd_j (by decide)).symm
        have d_v5 : v5 = fI (sI (sI (sI (sI (sI S184 v0 10 v3) v0 11 v4) v0 12 v5) v0 13 x235) v0 9 (-1 : Int32)) v0 12 := d_v5.trans (rd_j (by decide)).symm
        have d_x235 : x235 = fI (sI (sI (sI (sI (sI S184 v0 10 v3) v0 11 v4) v0 12 v5) v0 13 x235) v0 9 (-1 : Int32)) v0 13 := d_x235.trans (rd_j (by decide)).symm
        obtain ⟨y236, hy236⟩ : ∃ z : Int32, z = (-1 : Int32) := ⟨_, rfl⟩
        have d_y236 : y236 = fI (sI (sI (sI (sI (sI S184 v0 10 v3) v0 11 v4) v0 12 v5) v0 13 x235) v0 9 (-1 : Int32)) v0 9 := hy236.trans (u2_self _ _ _ _).symm
        refine u_X7_reckon_68 ?_
        refine ⟨o_v0, ?_⟩
        intro x237 ex237
        have r_x237 : (0 : Int32) ≤ x237 ∧ x237 ≤ (401 : Int32) := by rw [ex237]; exact nu 9 rfl hI o_v0
        have q_x237 : x237 = x235 := ex237.trans d_x235.symm
        have d_x237 := ex237
        intro x238 ex238
        refine i_X7_reckon_76 (fun (y0 : Nat) (y1 : Nat) (y2 : Nat) (y6 : Int32) (y7 : Int32) (Z : HS) => (y7.toInt - (-1 : Int32).toInt).toNat) (fun (y0 : Nat) (y1 : Nat) (y2 : Nat) (y6 : Int32) (y7 : Int32) (Z : HS) => (IV Z) ∧ (Gr (sI (sI (sI (sI (sI S184 v0 10 v3) v0 11 v4) v0 12 v5) v0 13 x235) v0 9 (-1 : Int32)) Z) ∧ (FRI [(7, 3), (7, 9), (7, 13)] [] (sI (sI (sI (sI (sI S184 v0 10 v3) v0 11 v4) v0 12 v5) v0 13 x235) v0 9 (-1 : Int32)) Z) ∧ (v0 = y0) ∧ (v1 = y1) ∧ (v2 = y2) ∧ (v6 = y6) ∧ (WM Z v0) ∧ (y7 ≤ 400)) ?_ _ _ _ _ _ _ ⟨hI, (gr_rf _), (fri_rf _ _ _), rfl, rfl, rfl, rfl, hM, (q169 h5 c2 c188 c234 ex235 r_x237 q_x237 ex238)⟩
        intro w242 w244 w246 w248 w250 S239 X251 ⟨hI, gL240, fL241, q243, q245, q247, q249, hM, i1⟩ ih252
        subst q243
        subst q245
        subst q247
        subst q249
        have l_a1 := (gr_len gL240 o_a1).trans l_a1
        have d_v3 := d_v3.trans (fri_at fL241 (by decide) (by decide) o_v0).symm
        have d_v4 := d_v4.trans (fri_at fL241 (by decide) (by decide) o_v0).symm
        have d_v5 := d_v5.trans (fri_at fL241 (by decide) (by decide) o_v0).symm
        have f0 := fri_tr (S := sI (sI (sI (sI (sI S184 v0 10 v3) v0 11 v4) v0 12 v5) v0 13 x235) v0 9 (-1 : Int32)) g0 f0 fL241 (by decide) (by decide)
        have o_a1 := gr_ob gL240 o_a1
        have o_v0 := gr_ob gL240 o_v0
        have o_v1 := gr_ob gL240 o_v1
        have o_v2 := gr_ob gL240 o_v2
        have g0 := gr_tr (T := sI (sI (sI (sI (sI S184 v0 10 v3) v0 11 v4) v0 12 v5) v0 13 x235) v0 9 (-1 : Int32)) g0 gL240
        refine u_X7_reckon_76 ?_
        refine ⟨fun c253 => ?_, fun c253 => ?_⟩
        · exact hq _ hI g0 f0
        · refine ⟨fun c254 => ?_, fun c254 => ?_⟩
          · exact hq _ hI g0 f0
          · refine ⟨o_v1, ?_⟩
            refine m_X8_hourOf hI o_v1 (fun x255 S256 hI2 g257 p_x255 => ?_)
            subst p_x255
            intro _
            intro x259 ex259
            have r_x259 : (0 : Int32) ≤ x259 ∧ x259 ≤ (6 : Int32) := by rw [ex259]; exact nu 11 rfl hI o_v1
            have d_x259 := ex259
            intro x260 ex260
            refine ⟨o_v0, ?_⟩
            intro x261 ex261
            have d_x261 := ex261
            refine ⟨fun c262 => ?_, fun c262 => ?_⟩
            · refine u_X7_reckon_120 ?_
              refine ⟨o_v1, ?_⟩
              intro x263 ex263
              have r_x263 : (0 : Int32) ≤ x263 ∧ x263 ≤ (8 : Int32) := by rw [ex263]; exact nu 12 rfl hI o_v1
              have d_x263 := ex263
              refine ⟨o_v0, ?_⟩
              refine m_X7_reckonMinute hI o_v0 (q170 c2 c188 c234 i1 c253 c254 r_x259 ex260 c262) hM (fun S265 hI g266 fc267 p_S265 => ?_)
              obtain hM := p_S265
              have l_a1 := (gr_len g266 o_a1).trans l_a1
              have d_v3 := d_v3.trans (fri_at fc267 (by decide) (by decide) o_v0).symm
              have d_v4 := d_v4.trans (fri_at fc267 (by decide) (by decide) o_v0).symm
              have d_v5 := d_v5.trans (fri_at fc267 (by decide) (by decide) o_v0).symm
              have d_x259 := d_x259.trans (fri_at fc267 (by decide) (by decide) o_v1).symm
              have d_x261 := d_x261.trans (fri_at fc267 (by decide) (by decide) o_v0).symm
              have d_x263 := d_x263.trans (fri_at fc267 (by decide) (by decide) o_v1).symm
              have f0 := fri_tr (S := S239) g0 f0 fc267 (by decide) (by decide)
              have fL241 := fri_tr (S := S239) gL240 fL241 fc267 (by decide) (by decide)
              have o_a1 := gr_ob g266 o_a1
              have o_v0 := gr_ob g266 o_v0
              have o_v1 := gr_ob g266 o_v1
              have o_v2 := gr_ob g266 o_v2
              have g0 := gr_tr (T := S239) g0 g266
              have gL240 := gr_tr (T := S239) gL240 g266
              intro _
              have hI := iv_sI (j := 13) (v := w250) hI o_v0 (by decide) (nu_one (lo := (0 : Int32)) (hi := (401 : Int32)) (by decide) (q171 c2 c188 c234 i1 c253 c254 r_x259 ex260 c262))
              have f0 : FRI _ _ _ (sI S265 v0 13 w250) := fri_sI (S := S265) g0 f0 o_v0 (by decide)
              have fL241 : FRI _ _ _ (sI S265 v0 13 w250) := fri_sI (S := S265) gL240 fL241 o_v0 (by decide)
              have d_v3 : v3 = fI (sI S265 v0 13 w250) v0 10 := d_v3.trans (rd_j (by decide)).symm
              have d_v4 : v4 = fI (sI S265 v0 13 w250) v0 11 := d_v4.trans (rd_j (by decide)).symm
              have d_v5 : v5 = fI (sI S265 v0 13 w250) v0 12 := d_v5.trans (rd_j (by decide)).symm
              have d_x259 : x259 = fI (sI S265 v0 13 w250) v1 1 := d_x259.trans (sI_ne (S := S265) o_v0 o_v1 (by decide) 1).symm
              have d_x261 : x261 = fI (sI S265 v0 13 w250) v0 9 := d_x261.trans (rd_j (by decide)).symm
              have d_x263 : x263 = fI (sI S265 v0 13 w250) v1 2 := d_x263.trans (sI_ne (S := S265) o_v0 o_v1 (by decide) 2).symm
              have d_w250 : w250 = fI (sI S265 v0 13 w250) v0 13 := (u2_self _ _ _ _).symm
              intro x268 ex268
              exact ih252 _ _ _ _ _ _ ⟨hI, gL240, fL241, rfl, rfl, rfl, rfl, hM, (q172 c2 c188 c234 i1 c253 c254 r_x259 ex260 c262 ex268)⟩ (mu_down (q173 c2 c188 c234 i1 c253 c254 r_x259 ex260 c262 ex268) (q174 c2 c188 c234 i1 c253 c254 r_x259 ex260 c262 ex268))
            · refine m_X7_price hI o_v0 o_v1 o_v2 hM (fun S270 hI g271 fc272 p_S270 => ?_)
              obtain hM := p_S270
              have l_a1 := (gr_len g271 o_a1).trans l_a1
              have d_v3 := d_v3.trans (fri_at fc272 (by decide) (by decide) o_v0).symm
              have d_v4 := d_v4.trans (fri_at fc272 (by decide) (by decide) o_v0).symm
              have d_v5 := d_v5.trans (fri_at fc272 (by decide) (by decide) o_v0).symm
              have d_x259 := d_x259.trans (fri_at fc272 (by decide) (by decide) o_v1).symm
              have f0 := fri_tr (S := S239) g0 f0 fc272 (by decide) (by decide)
              have fL241 := fri_tr (S := S239) gL240 fL241 fc272 (by decide) (by decide)
              have o_a1 := gr_ob g271 o_a1
              have o_v0 := gr_ob g271 o_v0
              have o_v1 := gr_ob g271 o_v1
              have o_v2 := gr_ob g271 o_v2
              have g0 := gr_tr (T := S239) g0 g271
              have gL240 := gr_tr (T := S239) gL240 g271
              intro _
              refine u_X7_reckon_120 ?_
              refine ⟨o_v1, ?_⟩
              intro x273 ex273
              have r_x273 : (0 : Int32) ≤ x273 ∧ x273 ≤ (8 : Int32) := by rw [ex273]; exact nu 12 rfl hI o_v1
              have d_x273 := ex273
              refine ⟨o_v0, ?_⟩
              refine m_X7_reckonMinute hI o_v0 (q175 c2 c188 c234 i1 c253 c254 r_x259 ex260 c262) hM (fun S275 hI g276 fc277 p_S275 => ?_)
              obtain hM := p_S275
              have l_a1 := (gr_len g276 o_a1).trans l_a1
              have d_v3 := d_v3.trans (fri_at fc277 (by decide) (by decide) o_v0).symm
              have d_v4 := d_v4.trans (fri_at fc277 (by decide) (by decide) o_v0).symm
              have d_v5 := d_v5.trans (fri_at fc277 (by decide) (by decide) o_v0).symm
              have d_x259 := d_x259.trans (fri_at fc277 (by decide) (by decide) o_v1).symm
              have d_x273 := d_x273.trans (fri_at fc277 (by decide) (by decide) o_v1).symm
              have f0 := fri_tr (S := S270) g0 f0 fc277 (by decide) (by decide)
              have fL241 := fri_tr (S := S270) gL240 fL241 fc277 (by decide) (by decide)
              have o_a1 := gr_ob g276 o_a1
              have o_v0 := gr_ob g276 o_v0
              have o_v1 := gr_ob g276 o_v1
              have o_v2 := gr_ob g276 o_v2
              have g0 := gr_tr (T := S270) g0 g276
              have gL240 := gr_tr (T := S270) gL240 g276
              intro _
              have hI := iv_sI (j := 13) (v := w250) hI o_v0 (by decide) (nu_one (lo := (0 : Int32)) (hi := (401 : Int32)) (by decide) (q176 c2 c188 c234 i1 c253 c254 r_x259 ex260 c262))
              have f0 : FRI _ _ _ (sI S275 v0 13 w250) := fri_sI (S := S275) g0 f0 o_v0 (by decide)
              have fL241 : FRI _ _ _ (sI S275 v0 13 w250) := fri_sI (S := S275) gL240 fL241 o_v0 (by decide)
              have d_v3 : v3 = fI (sI S275 v0 13 w250) v0 10 := d_v3.trans (rd_j (by decide)).symm
              have d_v4 : v4 = fI (sI S275 v0 13 w250) v0 11 := d_v4.trans (rd_j (by decide)).symm
              have d_v5 : v5 = fI (sI S275 v0 13 w250) v0 12 := d_v5.trans (rd_j (by decide)).symm
              have d_x259 : x259 = fI (sI S275 v0 13 w250) v1 1 := d_x259.trans (sI_ne (S := S275) o_v0 o_v1 (by decide) 1).symm
              have d_x273 : x273 = fI (sI S275 v0 13 w250) v1 2 := d_x273.trans (sI_ne (S := S275) o_v0 o_v1 (by decide) 2).symm
              have d_w250 : w250 = fI (sI S275 v0 13 w250) v0 13 := (u2_self _ _ _ _).symm
              intro x278 ex278
              exact ih252 _ _ _ _ _ _ ⟨hI, gL240, fL241, rfl, rfl, rfl, rfl, hM, (q177 c2 c188 c234 i1 c253 c254 r_x259 ex260 c262 ex278)⟩ (mu_down (q178 c2 c188 c234 i1 c253 c254 r_x259 ex260 c262 ex278) (q179 c2 c188 c234 i1 c253 c254 r_x259 ex260 c262 ex278))
      · intro x279 ex279
        have d_x279 := ex279
        refine ⟨fun c280 => ?_, fun c280 => ?_⟩
        · refine u_X7_reckon_68 ?_
          refine ⟨o_v0, ?_⟩
          intro x281 ex281
          have r_x281 : (0 : Int32) ≤ x281 ∧ x281 ≤ (401 : Int32) := by rw [ex281]; exact nu 9 rfl hI o_v0
          have d_x281 := ex281
          intro x282 ex282
          refine i_X7_reckon_76 (fun (y0 : Nat) (y1 : Nat) (y2 : Nat) (y6 : Int32) (y7 : Int32) (Z : HS) => (y7.toInt - (-1 : Int32).toInt).toNat) (fun (y0 : Nat) (y1 : Nat) (y2 : Nat) (y6 : Int32) (y7 : Int32) (Z : HS) => (IV Z) ∧ (Gr S184 Z) ∧ (FRI [(7, 3), (7, 9), (7, 13)] [] S184 Z) ∧ (v0 = y0) ∧ (v1 = y1) ∧ (v2 = y2) ∧ (v6 = y6) ∧ (WM Z v0) ∧ (y7 ≤ 400)) ?_ _ _ _ _ _ _ ⟨hI, (gr_rf _), (fri_rf _ _ _), rfl, rfl, rfl, rfl, hM, (q180 h5 c2 c188 c234 c280 r_x281 ex282)⟩
          intro w286 w288 w290 w292 w294 S283 X295 ⟨hI, gL284, fL285, q287, q289, q291, q293, hM, i1⟩ ih296
          subst q287
          subst q289
          subst q291
          subst q293
          have l_a1 := (gr_len gL284 o_a1).trans l_a1
          have d_x187 := d_x187.trans (fri_at fL285 (by decide) (by decide) o_v0).symm
          have d_x233 := d_x233.trans (fri_at fL285 (by decide) (by decide) o_v0).symm
          have d_x279 := d_x279.trans (fri_at fL285 (by decide) (by decide) o_v0).symm
          have f0 := fri_tr (S := S184) g0 f0 fL285 (by decide) (by decide)
          have o_a1 := gr_ob gL284 o_a1
          have o_v0 := gr_ob gL284 o_v0
          have o_v1 := gr_ob gL284 o_v1
          have o_v2 := gr_ob gL284 o_v2
          have g0 := gr_tr (T := S184) g0 gL284
          refine u_X7_reckon_76 ?_
          refine ⟨fun c297 => ?_, fun c297 => ?_⟩
          · exact hq _ hI g0 f0
          · refine ⟨fun c298 => ?_, fun c298 => ?_⟩
            · exact hq _ hI g0 f0
            · refine ⟨o_v1, ?_⟩
              refine m_X8_hourOf hI o_v1 (fun x299 S300 hI2 g301 p_x299 => ?_)
              subst p_x299
              intro _
              intro x303 ex303
              have r_x303 : (0 : Int32) ≤ x303 ∧ x303 ≤ (6 : Int32) := by rw [ex303]; exact nu 11 rfl hI o_v1
              have d_x303 := ex303
              intro x304 ex304
              refine ⟨o_v0, ?_⟩
              intro x305 ex305
              have d_x305 := ex305
              refine ⟨fun c306 => ?_, fun c306 => ?_⟩
              · refine u_X7_reckon_120 ?_
                refine ⟨o_v1, ?_⟩
                intro x307 ex307
                have r_x307 : (0 : Int32) ≤ x307 ∧ x307 ≤ (8 : Int32) := by rw [ex307]; exact nu 12 rfl hI o_v1
                have d_x307 := ex307
                refine ⟨o_v0, ?_⟩
                refine m_X7_reckonMinute hI o_v0 (q181 h5 c2 c188 c234 c280 i1 c297 c298 r_x303 ex304 c306) hM (fun S309 hI g310 fc311 p_S309 => ?_)
                obtain hM := p_S309
                have l_a1 := (gr_len g310 o_a1).trans l_a1
                have d_x187 := d_x187.trans (fri_at fc311 (by decide) (by decide) o_v0).symm
                have d_x233 := d_x233.trans (fri_at fc311 (by decide) (by decide) o_v0).symm
                have d_x279 := d_x279.trans (fri_at fc311 (by decide) (by decide) o_v0).symm
                have d_x303 := d_x303.trans (fri_at fc311 (by decide) (by decide) o_v1).symm
                have d_x305 := d_x305.trans (fri_at fc311 (by decide) (by decide) o_v0).symm
                have d_x307 := d_x307.trans (fri_at fc311 (by decide) (by decide) o_v1).symm
                have f0 := fri_tr (S := S283) g0 f0 fc311 (by decide) (by decide)
                have fL285 := fri_tr (S := S283) gL284 fL285 fc311 (by decide) (by decide)
                have o_a1 := gr_ob g310 o_a1
                have o_v0 := gr_ob g310 o_v0
                have o_v1 := gr_ob g310 o_v1
                have o_v2 := gr_ob g310 o_v2
                have g0 := gr_tr (T := S283) g0 g310
                have gL284 := gr_tr (T := S283) gL284 g310
                intro _
                have hI := iv_sI (j := 13) (v := w294) hI o_v0 (by decide) (nu_one (lo := (0 : Int32)) (hi := (401 : Int32)) (by decide) (q182 h5 c2 c188 c234 c280 i1 c297 c298 r_x303 ex304 c306))
                have f0 : FRI _ _ _ (sI S309 v0 13 w294) := fri_sI (S := S309) g0 f0 o_v0 (by decide)
                have fL285 : FRI _ _ _ (sI S309 v0 13 w294) := fri_sI (S := S309) gL284 fL285 o_v0 (by decide)
                have d_x187 : x187 = fI (sI S309 v0 13 w294) v0 10 := d_x187.trans (rd_j (by decide)).symm
                have d_x233 : x233 = fI (sI S309 v0 13 w294) v0 11 := d_x233.trans (rd_j (by decide)).symm
                have d_x279 : x279 = fI (sI S309 v0 13 w294) v0 12 := d_x279.trans (rd_j (by decide)).symm
                have d_x303 : x303 = fI (sI S309 v0 13 w294) v1 1 := d_x303.trans (sI_ne (S := S309) o_v0 o_v1 (by decide) 1).symm
                have d_x305 : x305 = fI (sI S309 v0 13 w294) v0 9 := d_x305.trans (rd_j (by decide)).symm
                have d_x307 : x307 = fI (sI S309 v0 13 w294) v1 2 := d_x307.trans (sI_ne (S := S309) o_v0 o_v1 (by decide) 2).symm
                have d_w294 : w294 = fI (sI S309 v0 13 w294) v0 13 := (u2_self _ _ _ _).symm
                intro x312 ex312
                exact ih296 _ _ _ _ _ _ ⟨hI, gL284, fL285, rfl, rfl, rfl, rfl, hM, (q183 h5 c2 c188 c234 c280 i1 c297 c298 r_x303 ex304 c306 ex312)⟩ (mu_down (q184 h5 c2 c188 c234 c280 i1 c297 c298 r_x303 ex304 c306 ex312) (q185 h5 c2 c188 c234 c280 i1 c297 c298 r_x303 ex304 c306 ex312))
              · refine m_X7_price hI o_v0 o_v1 o_v2 hM (fun S314 hI g315 fc316 p_S314 => ?_)
                obtain hM := p_S314
                have l_a1 := (gr_len g315 o_a1).trans l_a1
                have d_x187 := d_x187.trans (fri_at fc316 (by decide) (by decide) o_v0).symm
                have d_x233 := d_x233.trans (fri_at fc316 (by decide) (by decide) o_v0).symm
                have d_x279 := d_x279.trans (fri_at fc316 (by decide) (by decide) o_v0).symm
                have d_x303 := d_x303.trans (fri_at fc316 (by decide) (by decide) o_v1).symm
                have f0 := fri_tr (S := S283) g0 f0 fc316 (by decide) (by decide)
                have fL285 := fri_tr (S := S283) gL284 fL285 fc316 (by decide) (by decide)
                have o_a1 := gr_ob g315 o_a1
                have o_v0 := gr_ob g315 o_v0
                have o_v1 := gr_ob g315 o_v1
                have o_v2 := gr_ob g315 o_v2
                have g0 := gr_tr (T := S283) g0 g315
                have gL284 := gr_tr (T := S283) gL284 g315
                intro _
                refine u_X7_reckon_120 ?_
                refine ⟨o_v1, ?_⟩
                intro x317 ex317
                have r_x317 : (0 : Int32) ≤ x317 ∧ x317 ≤ (8 : Int32) := by rw [ex317]; exact nu 12 rfl hI o_v1
                have d_x317 := ex317
                refine ⟨o_v0, ?_⟩
                refine m_X7_reckonMinute hI o_v0 (q186 h5 c2 c188 c234 c280 i1 c297 c298 r_x303 ex304 c306) hM (fun S319 hI g320 fc321 p_S319 => ?_)
                obtain hM := p_S319
                have l_a1 := (gr_len g320 o_a1).trans l_a1
                have d_x187 := d_x187.trans (fri_at fc321 (by decide) (by decide) o_v0).symm
                have d_x233 := d_x233.trans (fri_at fc321 (by decide) (by decide) o_v0).symm
                have d_x279 := d_x279.trans (fri_at fc321 (by decide) (by decide) o_v0).symm
                have d_x303 := d_x303.trans (fri_at fc321 (by decide) (by decide) o_v1).symm
                have d_x317 := d_x317.trans (fri_at fc321 (by decide) (by decide) o_v1).symm
                have f0 := fri_tr (S := S314) g0 f0 fc321 (by decide) (by decide)
                have fL285 := fri_tr (S := S314) gL284 fL285 fc321 (by decide) (by decide)
                have o_a1 := gr_ob g320 o_a1
                have o_v0 := gr_ob g320 o_v0
                have o_v1 := gr_ob g320 o_v1
                have o_v2 := gr_ob g320 o_v2
                have g0 := gr_tr (T := S314) g0 g320
                have gL284 := gr_tr (T := S314) gL284 g320
                intro _
                have hI := iv_sI (j := 13) (v := w294) hI o_v0 (by decide) (nu_one (lo := (0 : Int32)) (hi := (401 : Int32)) (by decide) (q187 h5 c2 c188 c234 c280 i1 c297 c298 r_x303 ex304 c306))
                have f0 : FRI _ _ _ (sI S319 v0 13 w294) := fri_sI (S := S319) g0 f0 o_v0 (by decide)
                have fL285 : FRI _ _ _ (sI S319 v0 13 w294) := fri_sI (S := S319) gL284 fL285 o_v0 (by decide)
                have d_x187 : x187 = fI (sI S319 v0 13 w294) v0 10 := d_x187.trans (rd_j (by decide)).symm
                have d_x233 : x233 = fI (sI S319 v0 13 w294) v0 11 := d_x233.trans (rd_j (by decide)).symm
                have d_x279 : x279 = fI (sI S319 v0 13 w294) v0 12 := d_x279.trans (rd_j (by decide)).symm
                have d_x303 : x303 = fI (sI S319 v0 13 w294) v1 1 := d_x303.trans (sI_ne (S := S319) o_v0 o_v1 (by decide) 1).symm
                have d_x317 : x317 = fI (sI S319 v0 13 w294) v1 2 := d_x317.trans (sI_ne (S := S319) o_v0 o_v1 (by decide) 2).symm
                have d_w294 : w294 = fI (sI S319 v0 13 w294) v0 13 := (u2_self _ _ _ _).symm
                intro x322 ex322
                exact ih296 _ _ _ _ _ _ ⟨hI, gL284, fL285, rfl, rfl, rfl, rfl, hM, (q188 h5 c2 c188 c234 c280 i1 c297 c298 r_x303 ex304 c306 ex322)⟩ (mu_down (q189 h5 c2 c188 c234 c280 i1 c297 c298 r_x303 ex304 c306 ex322) (q190 h5 c2 c188 c234 c280 i1 c297 c298 r_x303 ex304 c306 ex322))
        · refine u_X7_reckon_38 ?_
          refine ⟨o_v0, ?_⟩
          have hI := iv_sI (j := 10) (v := v3) hI o_v0 (by decide) (nu_free (by decide))
          have f0 : FRI _ _ _ (sI S184 v0 10 v3) := fri_sI (S := S184) g0 f0 o_v0 (by decide)
          have d_x233 : x233 = fI (sI S184 v0 10 v3) v0 11 := d_x233.trans (rd_j (by decide)).symm
          have d_x279 : x279 = fI (sI S184 v0 10 v3) v0 12 := d_x279.trans (rd_j (by decide)).symm
          have d_v3 : v3 = fI (sI S184 v0 10 v3) v0 10 := (u2_self _ _ _ _).symm
          have hI := iv_sI (j := 11) (v := v4) hI o_v0 (by decide) (nu_free (by decide))
          have f0 : FRI _ _ _ (sI (sI S184 v0 10 v3) v0 11 v4) := fri_sI (S := sI S184 v0 10 v3) g0 f0 o_v0 (by decide)
          have d_x279 : x279 = fI (sI (sI S184 v0 10 v3) v0 11 v4) v0 12 := d_x279.trans (rd_j (by decide)).symm
          have d_v3 : v3 = fI (sI (sI S184 v0 10 v3) v0 11 v4) v0 10 := d_v3.trans (rd_j (by decide)).symm
          have d_v4 : v4 = fI (sI (sI S184 v0 10 v3) v0 11 v4) v0 11 := (u2_self _ _ _ _).symm
          have hI := iv_sI (j := 12) (v := v5) hI o_v0 (by decide) (nu_free (by decide))
          have f0 : FRI _ _ _ (sI (sI (sI S184 v0 10 v3) v0 11 v4) v0 12 v5) := fri_sI (S := sI (sI S184 v0 10 v3) v0 11 v4) g0 f0 o_v0 (by decide)
          have d_v3 : v3 = fI (sI (sI (sI S184 v0 10 v3) v0 11 v4) v0 12 v5) v0 10 := d_v3.trans (rd_j (by decide)).symm
          have d_v4 : v4 = fI (sI (sI (sI S184 v0 10 v3) v0 11 v4) v0 12 v5) v0 11 := d_v4.trans (rd_j (by decide)).symm
          have d_v5 : v5 = fI (sI (sI (sI S184 v0 10 v3) v0 11 v4) v0 12 v5) v0 12 := (u2_self _ _ _ _).symm
          intro x323 ex323
          have hI := iv_sI (j := 13) (v := x323) hI o_v0 (by decide) (nu_one (lo := (0 : Int32)) (hi := (401 : Int32)) (by decide) (q191 h5 c2 c188 c234 c280 ex323))
          have f0 : FRI _ _ _ (sI (sI (sI (sI S184 v0 10 v3) v0 11 v4) v0 12 v5) v0 13 x323) := fri_sI (S := sI (sI (sI S184 v0 10 v3) v0 11 v4) v0 12 v5) g0 f0 o_v0 (by decide)
          have d_v3 : v3 = fI (sI (sI (sI (sI S184 v0 10 v3) v0 11 v4) v0 12 v5) v0 13 x323) v0 10 := d_v3.trans (rd_j (by decide)).symm
          have d_v4 : v4 = fI (sI (sI (sI (sI S184 v0 10 v3) v0 11 v4) v0 12 v5) v0 13 x323) v0 11 := d_v4.trans (rd_j (by decide)).symm
          have d_v5 : v5 = fI (sI (sI (sI (sI S184 v0 10 v3) v0 11 v4) v0 12 v5) v0 13 x323) v0 12 := d_v5.trans (rd_j (by decide)).symm
          have d_x323 : x323 = fI (sI (sI (sI (sI S184 v0 10 v3) v0 11 v4) v0 12 v5) v0 13 x323) v0 13 := (u2_self _ _ _ _).symm
          have hI := iv_sI (j := 9) (v := (-1 : Int32)) hI o_v0 (by decide) (nu_free (by decide))
          have f0 : FRI _ _ _ (sI (sI (sI (sI (sI S184 v0 10 v3) v0 11 v4) v0 12 v5) v0 13 x323) v0 9 (-1 : Int32)) := fri_sI (S := sI (sI (sI (sI S184 v0 10 v3) v0 11 v4) v0 12 v5) v0 13 x323) g0 f0 o_v0 (by decide)
          have d_v3 : v3 = fI (sI (sI (sI (sI (sI S184 v0 10 v3) v0 11 v4) v0 12 v5) v0 13 x323) v0 9 (-1 : Int32)) v0 10 := d_v3.trans (rd_j (by decide)).symm
          have d_v4 : v4 = fI (sI (sI (sI (sI (sI S184 v0 10 v3) v0 11 v4) v0 12 v5) v0 13 x323) v0 9 (-1 : Int32)) v0 11 := d_v4.trans (rd_j (by decide)).symm
          have d_v5 : v5 = fI (sI (sI (sI (sI (sI S184 v0 10 v3) v0 11 v4) v0 12 v5) v0 13 x323) v0 9 (-1 : Int32)) v0 12 := d_v5.trans (rd_j (by decide)).symm
          have d_x323 : x323 = fI (sI (sI (sI (sI (sI S184 v0 10 v3) v0 11 v4) v0 12 v5) v0 13 x323) v0 9 (-1 : Int32)) v0 13 := d_x323.trans (rd_j (by decide)).symm
          obtain ⟨y324, hy324⟩ : ∃ z : Int32, z = (-1 : Int32) := ⟨_, rfl⟩
          have d_y324 : y324 = fI (sI (sI (sI (sI (sI S184 v0 10 v3) v0 11 v4) v0 12 v5) v0 13 x323) v0 9 (-1 : Int32)) v0 9 := hy324.trans (u2_self _ _ _ _).symm
          refine u_X7_reckon_68 ?_
          refine ⟨o_v0, ?_⟩
          intro x325 ex325
          have r_x325 : (0 : Int32) ≤ x325 ∧ x325 ≤ (401 : Int32) := by rw [ex325]; exact nu 9 rfl hI o_v0
          have q_x325 : x325 = x323 := ex325.trans d_x323.symm
          have d_x325 := ex325
          intro x326 ex326
          refine i_X7_reckon_76 (fun (y0 : Nat) (y1 : Nat) (y2 : Nat) (y6 : Int32) (y7 : Int32) (Z : HS) => (y7.toInt - (-1 : Int32).toInt).toNat) (fun (y0 : Nat) (y1 : Nat) (y2 : Nat) (y6 : Int32) (y7 : Int32) (Z : HS) => (IV Z) ∧ (Gr (sI (sI (sI (sI (sI S184 v0 10 v3) v0 11 v4) v0 12 v5) v0 13 x323) v0 9 (-1 : Int32)) Z) ∧ (FRI [(7, 3), (7, 9), (7, 13)] [] (sI (sI (sI (sI (sI S184 v0 10 v3) v0 11 v4) v0 12 v5) v0 13 x323) v0 9 (-1 : Int32)) Z) ∧ (v0 = y0) ∧ (v1 = y1) ∧ (v2 = y2) ∧ (v6 = y6) ∧ (WM Z v0) ∧ (y7 ≤ 400)) ?_ _ _ _ _ _ _ ⟨hI, (gr_rf _), (fri_rf _ _ _), rfl, rfl, rfl, rfl, hM, (q192 h5 c2 c188 c234 c280 ex323 r_x325 q_x325 ex326)⟩
          intro w330 w332 w334 w336 w338 S327 X339 ⟨hI, gL328, fL329, q331, q333, q335, q337, hM, i1⟩ ih340
          subst q331
          subst q333
          subst q335
          subst q337
          have l_a1 := (gr_len gL328 o_a1).trans l_a1
          have d_v3 := d_v3.trans (fri_at fL329 (by decide) (by decide) o_v0).symm
          have d_v4 := d_v4.trans (fri_at fL329 (by decide) (by decide) o_v0).symm
          have d_v5 := d_v5.trans (fri_at fL329 (by decide) (by decide) o_v0).symm
          have f0 := fri_tr (S := sI (sI (sI (sI (sI S184 v0 10 v3) v0 11 v4) v0 12 v5) v0 13 x323) v0 9 (-1 : Int32)) g0 f0 fL329 (by decide) (by decide)
          have o_a1 := gr_ob gL328 o_a1
          have o_v0 := gr_ob gL328 o_v0
          have o_v1 := gr_ob gL328 o_v1
          have o_v2 := gr_ob gL328 o_v2
          have g0 := gr_tr (T := sI (sI (sI (sI (sI S184 v0 10 v3) v0 11 v4) v0 12 v5) v0 13 x323) v0 9 (-1 : Int32)) g0 gL328
          refine u_X7_reckon_76 ?_
          refine ⟨fun c341 => ?_, fun c341 => ?_⟩
          · exact hq _ hI g0 f0
          · refine ⟨fun c342 => ?_, fun c342 => ?_⟩
            · exact hq _ hI g0 f0
            · refine ⟨o_v1, ?_⟩
              refine m_X8_hourOf hI o_v1 (fun x343 S344 hI2 g345 p_x343 => ?_)
              subst p_x343
              intro _
              intro x347 ex347
              have r_x347 : (0 : Int32) ≤ x347 ∧ x347 ≤ (6 : Int32) := by rw [ex347]; exact nu 11 rfl hI o_v1
              have d_x347 := ex347
              intro x348 ex348
              refine ⟨o_v0, ?_⟩
              intro x349 ex349
              have d_x349 := ex349
              refine ⟨fun c350 => ?_, fun c350 => ?_⟩
              · refine u_X7_reckon_120 ?_
                refine ⟨o_v1, ?_⟩
                intro x351 ex351
                have r_x351 : (0 : Int32) ≤ x351 ∧ x351 ≤ (8 : Int32) := by rw [ex351]; exact nu 12 rfl hI o_v1
                have d_x351 := ex351
                refine ⟨o_v0, ?_⟩
                refine m_X7_reckonMinute hI o_v0 (q193 h5 c2 c188 c234 c280 ex323 r_x325 q_x325 ex326 i1 c341 c342 r_x347 ex348 c350) hM (fun S353 hI g354 fc355 p_S353 => ?_)
                obtain hM := p_S353
                have l_a1 := (gr_len g354 o_a1).trans l_a1
                have d_v3 := d_v3.trans (fri_at fc355 (by decide) (by decide) o_v0).symm
                have d_v4 := d_v4.trans (fri_at fc355 (by decide) (by decide) o_v0).symm
                have d_v5 := d_v5.trans (fri_at fc355 (by decide) (by decide) o_v0).symm
                have d_x347 := d_x347.trans (fri_at fc355 (by decide) (by decide) o_v1).symm
                have d_x349 := d_x349.trans (fri_at fc355 (by decide) (by decide) o_v0).symm
                have d_x351 := d_x351.trans (fri_at fc355 (by decide) (by decide) o_v1).symm
                have f0 := fri_tr (S := S327) g0 f0 fc355 (by decide) (by decide)
                have fL329 := fri_tr (S := S327) gL328 fL329 fc355 (by decide) (by decide)
                have o_a1 := gr_ob g354 o_a1
                have o_v0 := gr_ob g354 o_v0
                have o_v1 := gr_ob g354 o_v1
                have o_v2 := gr_ob g354 o_v2
                have g0 := gr_tr (T := S327) g0 g354
                have gL328 := gr_tr (T := S327) gL328 g354
                intro _
                have hI := iv_sI (j := 13) (v := w338) hI o_v0 (by decide) (nu_one (lo := (0 : Int32)) (hi := (401 : Int32)) (by decide) (q194 h5 c2 c188 c234 c280 ex323 r_x325 q_x325 ex326 i1 c341 c342 r_x347 ex348 c350))
                have f0 : FRI _ _ _ (sI S353 v0 13 w338) := fri_sI (S := S353) g0 f0 o_v0 (by decide)
                have fL329 : FRI _ _ _ (sI S353 v0 13 w338) := fri_sI (S := S353) gL328 fL329 o_v0 (by decide)
                have d_v3 : v3 = fI (sI S353 v0 13 w338) v0 10 := d_v3.trans (rd_j (by decide)).symm
                have d_v4 : v4 = fI (sI S353 v0 13 w338) v0 11 := d_v4.trans (rd_j (by decide)).symm
                have d_v5 : v5 = fI (sI S353 v0 13 w338) v0 12 := d_v5.trans (rd_j (by decide)).symm
                have d_x347 : x347 = fI (sI S353 v0 13 w338) v1 1 := d_x347.trans (sI_ne (S := S353) o_v0 o_v1 (by decide) 1).symm
                have d_x349 : x349 = fI (sI S353 v0 13 w338) v0 9 := d_x349.trans (rd_j (by decide)).symm
                have d_x351 : x351 = fI (sI S353 v0 13 w338) v1 2 := d_x351.trans (sI_ne (S := S353) o_v0 o_v1 (by decide) 2).symm
                have d_w338 : w338 = fI (sI S353 v0 13 w338) v0 13 := (u2_self _ _ _ _).symm
                intro x356 ex356
                exact ih340 _ _ _ _ _ _ ⟨hI, gL328, fL329, rfl, rfl, rfl, rfl, hM, (q195 h5 c2 c188 c234 c280 ex323 r_x325 q_x325 ex326 i1 c341 c342 r_x347 ex348 c350 ex356)⟩ (mu_down (q196 h5 c2 c188 c234 c280 ex323 r_x325 q_x325 ex326 i1 c341 c342 r_x347 ex348 c350 ex356) (q197 h5 c2 c188 c234 c280 ex323 r_x325 q_x325 ex326 i1 c341 c342 r_x347 ex348 c350 ex356))
              · refine m_X7_price hI o_v0 o_v1 o_v2 hM (fun S358 hI g359 fc360 p_S358 => ?_)
                obtain hM := p_S358
                have l_a1 := (gr_len g359 o_a1).trans l_a1
                have d_v3 := d_v3.trans (fri_at fc360 (by decide) (by decide) o_v0).symm
                have d_v4 := d_v4.trans (fri_at fc360 (by decide) (by decide) o_v0).symm
                have d_v5 := d_v5.trans (fri_at fc360 (by decide) (by decide) o_v0).symm
                have d_x347 := d_x347.trans (fri_at fc360 (by decide) (by decide) o_v1).symm
                have f0 := fri_tr (S := S327) g0 f0 fc360 (by decide) (by decide)
                have fL329 := fri_tr (S := S327) gL328 fL329 fc360 (by decide) (by decide)
                have o_a1 := gr_ob g359 o_a1
                have o_v0 := gr_ob g359 o_v0
                have o_v1 := gr_ob g359 o_v1
                have o_v2 := gr_ob g359 o_v2
                have g0 := gr_tr (T := S327) g0 g359
                have gL328 := gr_tr (T := S327) gL328 g359
                intro _
                refine u_X7_reckon_120 ?_
                refine ⟨o_v1, ?_⟩
                intro x361 ex361
                have r_x361 : (0 : Int32) ≤ x361 ∧ x361 ≤ (8 : Int32) := by rw [ex361]; exact nu 12 rfl hI o_v1
                have d_x361 := ex361
                refine ⟨o_v0, ?_⟩
                refine m_X7_reckonMinute hI o_v0 (q198 h5 c2 c188 c234 c280 ex323 r_x325 q_x325 ex326 i1 c341 c342 r_x347 ex348 c350) hM (fun S363 hI g364 fc365 p_S363 => ?_)
                obtain hM := p_S363
                have l_a1 := (gr_len g364 o_a1).trans l_a1
                have d_v3 := d_v3.trans (fri_at fc365 (by decide) (by decide) o_v0).symm
                have d_v4 := d_v4.trans (fri_at fc365 (by decide) (by decide) o_v0).symm
                have d_v5 := d_v5.trans (fri_at fc365 (by decide) (by decide) o_v0).symm
                have d_x347 := d_x347.trans (fri_at fc365 (by decide) (by decide) o_v1).symm
                have d_x361 := d_x361.trans (fri_at fc365 (by decide) (by decide) o_v1).symm
                have f0 := fri_tr (S := S358) g0 f0 fc365 (by decide) (by decide)
                have fL329 := fri_tr (S := S358) gL328 fL329 fc365 (by decide) (by decide)
                have o_a1 := gr_ob g364 o_a1
                have o_v0 := gr_ob g364 o_v0
                have o_v1 := gr_ob g364 o_v1
                have o_v2 := gr_ob g364 o_v2
                have g0 := gr_tr (T := S358) g0 g364
                have gL328 := gr_tr (T := S358) gL328 g364
                intro _
                have hI := iv_sI (j := 13) (v := w338) hI o_v0 (by decide) (nu_one (lo := (0 : Int32)) (hi := (401 : Int32)) (by decide) (q199 h5 c2 c188 c234 c280 ex323 r_x325 q_x325 ex326 i1 c341 c342 r_x347 ex348 c350))
                have f0 : FRI _ _ _ (sI S363 v0 13 w338) := fri_sI (S := S363) g0 f0 o_v0 (by decide)
                have fL329 : FRI _ _ _ (sI S363 v0 13 w338) := fri_sI (S := S363) gL328 fL329 o_v0 (by decide)
                have d_v3 : v3 = fI (sI S363 v0 13 w338) v0 10 := d_v3.trans (rd_j (by decide)).symm
                have d_v4 : v4 = fI (sI S363 v0 13 w338) v0 11 := d_v4.trans (rd_j (by decide)).symm
                have d_v5 : v5 = fI (sI S363 v0 13 w338) v0 12 := d_v5.trans (rd_j (by decide)).symm
                have d_x347 : x347 = fI (sI S363 v0 13 w338) v1 1 := d_x347.trans (sI_ne (S := S363) o_v0 o_v1 (by decide) 1).symm
                have d_x361 : x361 = fI (sI S363 v0 13 w338) v1 2 := d_x361.trans (sI_ne (S := S363) o_v0 o_v1 (by decide) 2).symm
                have d_w338 : w338 = fI (sI S363 v0 13 w338) v0 13 := (u2_self _ _ _ _).symm
                intro x366 ex366
                exact ih340 _ _ _ _ _ _ ⟨hI, gL328, fL329, rfl, rfl, rfl, rfl, hM, (q200 h5 c2 c188 c234 c280 ex323 r_x325 q_x325 ex326 i1 c341 c342 r_x347 ex348 c350 ex366)⟩ (mu_down (q201 h5 c2 c188 c234 c280 ex323 r_x325 q_x325 ex326 i1 c341 c342 r_x347 ex348 c350 ex366) (q202 h5 c2 c188 c234 c280 ex323 r_x325 q_x325 ex326 i1 c341 c342 r_x347 ex348 c350 ex366))
