set_option maxHeartbeats 4000000 in
set_option maxRecDepth 20000 in
theorem m_X1_countFits {v0 : Nat} {v1 : Nat} {v2 : Int32} {Q : Int32 → HS → Prop} {S : HS} (hI : IV S) (o_v0 : ob S v0 1) (o_v1 : ob S v1 8)     (hq : ∀ (r : Int32) (T : HS), IV T → Gr S T → FRI [] [] S T → Q r T) : P_X1_countFits v0 v1 v2 Q S := by
  have g0 := gr_rf S
  have f0 := fri_rf [] [] S
  refine u_X1_countFits ?_
  refine u_X1_countFits_0 ?_
  refine i_X1_countFits_5 (fun (y0 : Nat) (y1 : Nat) (y2 : Int32) (y3 : Int32) (y4 : Int32) (Z : HS) => ((2147483647 : Int32).toInt - y4.toInt).toNat) (fun (y0 : Nat) (y1 : Nat) (y2 : Int32) (y3 : Int32) (y4 : Int32) (Z : HS) => (IV Z) ∧ (Gr S Z) ∧ (FRI [] [] S Z) ∧ (v0 = y0) ∧ (v1 = y1) ∧ (v2 = y2) ∧ (0 ≤ y4)) ?_ _ _ _ _ _ _ ⟨hI, (gr_rf _), (fri_rf _ _ _), rfl, rfl, rfl, (q82)⟩
  intro w5 w7 w9 w11 w12 S2 X13 ⟨hI, gL3, fL4, q6, q8, q10, i1u1⟩ ih14
  subst q6
  subst q8
  subst q10
  have f0 := fri_tr (S := S) g0 f0 fL4 (by decide) (by decide)
  have o_v0 := gr_ob gL3 o_v0
  have o_v1 := gr_ob gL3 o_v1
  have g0 := gr_tr (T := S) g0 gL3
  refine u_X1_countFits_5 ?_
  refine u_X1_legsOf ?_
  refine u_X1_legsOf_0 ?_
  refine ⟨o_v1, ?_⟩
  intro x15 ex15
  have r_x15 : (0 : Int32) ≤ x15 ∧ x15 ≤ (12 : Int32) := by rw [ex15]; exact nu 13 rfl hI o_v1
  have d_x15 := ex15
  intro x16 ex16
  have r_x16 : (0 : Int32) ≤ x16 ∧ x16 ≤ (6 : Int32) := by rw [ex16]; exact nu 11 rfl hI o_v1
  have d_x16 := ex16
  intro _
  refine ⟨fun c18 => ?_, fun c18 => ?_⟩
  · exact hq _ _ hI g0 f0
  · refine ⟨o_v0, ?_⟩
    refine m_X1_fitCode hI o_v0 o_v1 (fun x19 S20 hJ g21 fc22 => ?_)
    have hI := hJ
    have d_x15 := d_x15.trans (fri_at fc22 (by decide) (by decide) o_v1).symm
    have d_x16 := d_x16.trans (fri_at fc22 (by decide) (by decide) o_v1).symm
    have f0 := fri_tr (S := S2) g0 f0 fc22 (by decide) (by decide)
    have fL4 := fri_tr (S := S2) gL3 fL4 fc22 (by decide) (by decide)
    have o_v0 := gr_ob g21 o_v0
    have o_v1 := gr_ob g21 o_v1
    have g0 := gr_tr (T := S2) g0 g21
    have gL3 := gr_tr (T := S2) gL3 g21
    intro _
    refine ⟨fun c23 => ?_, fun c23 => ?_⟩
    · refine u_X1_countFits_29 ?_
      intro x24 ex24
      exact ih14 _ _ _ _ _ _ ⟨hI, gL3, fL4, rfl, rfl, rfl, (q1377 i1u1 c18 c23 ex24)⟩ (mu_up (q1378 i1u1 c18 c23 ex24) (q1379 i1u1 c18 c23 ex24))
    · intro x25 ex25
      refine u_X1_countFits_29 ?_
      intro x26 ex26
      exact ih14 _ _ _ _ _ _ ⟨hI, gL3, fL4, rfl, rfl, rfl, (q1380 i1u1 c18 c23 ex26)⟩ (mu_up (q1381 i1u1 c18 c23 ex26) (q1382 i1u1 c18 c23 ex26))
set_option maxHeartbeats 4000000 in
set_option maxRecDepth 20000 in
theorem m_X1_findFit {v0 : Nat} {v1 : Nat} {v2 : Int32} {v3 : Int32} {Q : Int32 → HS → Prop} {S : HS} (hI : IV S) (o_v0 : ob S v0 1) (o_v1 : ob S v1 8)     (hq : ∀ (r : Int32) (T : HS), IV T → Gr S T → FRI [] [] S T → Q r T) : P_X1_findFit v0 v1 v2 v3 Q S := by
  have g0 := gr_rf S
  have f0 := fri_rf [] [] S
  refine u_X1_findFit ?_
  refine u_X1_findFit_0 ?_
  refine i_X1_findFit_6 (fun (y0 : Nat) (y1 : Nat) (y2 : Int32) (y4 : Int32) (y5 : Int32) (Z : HS) => ((2147483647 : Int32).toInt - y5.toInt).toNat) (fun (y0 : Nat) (y1 : Nat) (y2 : Int32) (y4 : Int32) (y5 : Int32) (Z : HS) => (IV Z) ∧ (Gr S Z) ∧ (FRI [] [] S Z) ∧ (v0 = y0) ∧ (v1 = y1) ∧ (v2 = y2) ∧ (0 ≤ y5)) ?_ _ _ _ _ _ _ ⟨hI, (gr_rf _), (fri_rf _ _ _), rfl, rfl, rfl, (q82)⟩
  intro w5 w7 w9 w11 w12 S2 X13 ⟨hI, gL3, fL4, q6, q8, q10, i1u1⟩ ih14
  subst q6
  subst q8
  subst q10
  have f0 := fri_tr (S := S) g0 f0 fL4 (by decide) (by decide)
  have o_v0 := gr_ob gL3 o_v0
  have o_v1 := gr_ob gL3 o_v1
  have g0 := gr_tr (T := S) g0 gL3
  refine u_X1_findFit_6 ?_
  refine u_X1_legsOf ?_
  refine u_X1_legsOf_0 ?_
  refine ⟨o_v1, ?_⟩
  intro x15 ex15
  have r_x15 : (0 : Int32) ≤ x15 ∧ x15 ≤ (12 : Int32) := by rw [ex15]; exact nu 13 rfl hI o_v1
  have d_x15 := ex15
  intro x16 ex16
  have r_x16 : (0 : Int32) ≤ x16 ∧ x16 ≤ (6 : Int32) := by rw [ex16]; exact nu 11 rfl hI o_v1
  have d_x16 := ex16
  intro _
  refine ⟨fun c18 => ?_, fun c18 => ?_⟩
  · exact hq _ _ hI g0 f0
  · refine ⟨o_v0, ?_⟩
    refine m_X1_fitCode hI o_v0 o_v1 (fun x19 S20 hJ g21 fc22 => ?_)
    have hI := hJ
    have d_x15 := d_x15.trans (fri_at fc22 (by decide) (by decide) o_v1).symm
    have d_x16 := d_x16.trans (fri_at fc22 (by decide) (by decide) o_v1).symm
    have f0 := fri_tr (S := S2) g0 f0 fc22 (by decide) (by decide)
    have fL4 := fri_tr (S := S2) gL3 fL4 fc22 (by decide) (by decide)
    have o_v0 := gr_ob g21 o_v0
    have o_v1 := gr_ob g21 o_v1
    have g0 := gr_tr (T := S2) g0 g21
    have gL3 := gr_tr (T := S2) gL3 g21
    intro _
    refine ⟨fun c23 => ?_, fun c23 => ?_⟩
    · refine u_X1_findFit_39 ?_
      refine ⟨fun c24 => ?_, fun c24 => ?_⟩
      · refine u_X1_findFit_48 ?_
        intro x25 ex25
        exact ih14 _ _ _ _ _ _ ⟨hI, gL3, fL4, rfl, rfl, rfl, (q1317 i1u1 c18 c23 c24 ex25)⟩ (mu_up (q1318 i1u1 c18 c23 c24 ex25) (q1319 i1u1 c18 c23 c24 ex25))
      · intro x26 ex26
        refine u_X1_findFit_48 ?_
        intro x27 ex27
        exact ih14 _ _ _ _ _ _ ⟨hI, gL3, fL4, rfl, rfl, rfl, (q1320 i1u1 c18 c23 c24 ex27)⟩ (mu_up (q1321 i1u1 c18 c23 c24 ex27) (q1322 i1u1 c18 c23 c24 ex27))
    · refine ⟨fun c28 => ?_, fun c28 => ?_⟩
      · refine u_X1_findFit_39 ?_
        refine ⟨fun c29 => ?_, fun c29 => ?_⟩
        · refine u_X1_findFit_48 ?_
          intro x30 ex30
          exact ih14 _ _ _ _ _ _ ⟨hI, gL3, fL4, rfl, rfl, rfl, (q1323 i1u1 c18 c23 c28 c29 ex30)⟩ (mu_up (q1324 i1u1 c18 c23 c28 c29 ex30) (q1325 i1u1 c18 c23 c28 c29 ex30))
        · intro x31 ex31
          refine u_X1_findFit_48 ?_
          intro x32 ex32
          exact ih14 _ _ _ _ _ _ ⟨hI, gL3, fL4, rfl, rfl, rfl, (q1326 i1u1 c18 c23 c28 c29 ex31 ex32)⟩ (mu_up (q1327 i1u1 c18 c23 c28 c29 ex31 ex32) (q1328 i1u1 c18 c23 c28 c29 ex31 ex32))
      · exact hq _ _ hI g0 f0
set_option maxHeartbeats 4000000 in
set_option maxRecDepth 20000 in
theorem m_X1_leastWet {v0 : Nat} {v1 : Nat} {v2 : Nat} {v3 : Int32} {v4 : Nat} {Q : Int64 → HS → Prop} {S : HS} (hI : IV S) (o_v0 : ob S v0 1) (o_v1 : ob S v1 6) (o_v2 : ob S v2 5) (o_v4 : ob S v4 3)     (hq : ∀ (r : Int64) (T : HS), IV T → Gr S T → FRI [] [] S T → Q r T) : P_X1_leastWet v0 v1 v2 v3 v4 Q S := by
  have g0 := gr_rf S
  have f0 := fri_rf [] [] S
  refine u_X1_leastWet ?_
  refine u_X1_leastWet_0 ?_
  refine ⟨o_v0, ?_⟩
  refine m_X1_bestSpeed hI o_v0 o_v1 o_v2 o_v4 (fun x1 S2 hJ g3 fc4 => ?_)
  have hI := hJ
  have f0 := fri_tr (S := S) g0 f0 fc4 (by decide) (by decide)
  have o_v0 := gr_ob g3 o_v0
  have o_v1 := gr_ob g3 o_v1
  have o_v2 := gr_ob g3 o_v2
  have o_v4 := gr_ob g3 o_v4
  have g0 := gr_tr (T := S) g0 g3
  intro _
  refine m_X1_wetOf hI o_v0 o_v1 o_v2 o_v4 (fun x5 S6 hJ g7 fc8 => ?_)
  have hI := hJ
  have f0 := fri_tr (S := S2) g0 f0 fc8 (by decide) (by decide)
  have o_v0 := gr_ob g7 o_v0
  have o_v1 := gr_ob g7 o_v1
  have o_v2 := gr_ob g7 o_v2
  have o_v4 := gr_ob g7 o_v4
  have g0 := gr_tr (T := S2) g0 g7
  intro _
  exact hq _ _ hI g0 f0
set_option maxHeartbeats 4000000 in
set_option maxRecDepth 20000 in
theorem m_X1_wetInLee {v0 : Nat} {v1 : Nat} {v2 : Nat} {Q : Int64 → HS → Prop} {S : HS} (hI : IV S) (o_v0 : ob S v0 1) (o_v1 : ob S v1 6) (o_v2 : ob S v2 6)     (hq : ∀ (r : Int64) (T : HS), IV T → Gr S T → FRI [] [] S T → Q r T) : P_X1_wetInLee v0 v1 v2 Q S := by
  have g0 := gr_rf S
  have f0 := fri_rf [] [] S
  refine u_X1_wetInLee ?_
  refine u_X1_wetInLee_0 ?_
  refine ⟨o_v2, ?_⟩
  intro x1 ex1
  have d_x1 := ex1
  refine ⟨o_v0, ?_⟩
  refine m_X1_soak hI o_v0 o_v1 (fun x2 S3 hJ g4 fc5 => ?_)
  have hI := hJ
  have d_x1 := d_x1.trans (fri_at fc5 (by decide) (by decide) o_v2).symm
  have f0 := fri_tr (S := S) g0 f0 fc5 (by decide) (by decide)
  have o_v0 := gr_ob g4 o_v0
  have o_v1 := gr_ob g4 o_v1
  have o_v2 := gr_ob g4 o_v2
  have g0 := gr_tr (T := S) g0 g4
  intro _
  refine ⟨o_v1, ?_⟩
  intro x6 ex6
  have d_x6 := ex6
  refine m_X1_soak hI o_v0 o_v2 (fun x7 S8 hJ g9 fc10 => ?_)
  have hI := hJ
  have d_x1 := d_x1.trans (fri_at fc10 (by decide) (by decide) o_v2).symm
  have d_x6 := d_x6.trans (fri_at fc10 (by decide) (by decide) o_v1).symm
  have f0 := fri_tr (S := S3) g0 f0 fc10 (by decide) (by decide)
  have o_v0 := gr_ob g9 o_v0
  have o_v1 := gr_ob g9 o_v1
  have o_v2 := gr_ob g9 o_v2
  have g0 := gr_tr (T := S3) g0 g9
  intro _
  exact hq _ _ hI g0 f0
set_option maxHeartbeats 4000000 in
set_option maxRecDepth 20000 in
theorem m_X1_worstSpeed {v0 : Nat} {v1 : Nat} {v2 : Nat} {v3 : Int32} {v4 : Nat} {Q : Int32 → HS → Prop} {S : HS} (hI : IV S) (o_v0 : ob S v0 1) (o_v1 : ob S v1 6) (o_v2 : ob S v2 5) (o_v4 : ob S v4 3)     (hq : ∀ (r : Int32) (T : HS), IV T → Gr S T → FRI [] [] S T → Q r T) : P_X1_worstSpeed v0 v1 v2 v3 v4 Q S := by
  have g0 := gr_rf S
  have f0 := fri_rf [] [] S
  refine u_X1_worstSpeed ?_
  refine u_X1_worstSpeed_0 ?_
  refine ⟨o_v1, ?_⟩
  intro x1 ex1
  have r_x1 : (0 : Int32) ≤ x1 ∧ x1 ≤ (9 : Int32) := by rw [ex1]; exact nu 4 rfl hI o_v1
  have d_x1 := ex1
  intro x2 ex2
  have r_x2 : (0 : Int32) ≤ x2 ∧ x2 ≤ (9 : Int32) := by rw [ex2]; exact nu 4 rfl hI o_v1
  have q_x2 : x2 = x1 := ex2.trans d_x1.symm
  have d_x2 := ex2
  refine i_X1_worstSpeed_17 (fun (y0 : Nat) (y1 : Nat) (y2 : Nat) (y3 : Int32) (y4 : Nat) (y5 : Int32) (y6 : Int64) (y8 : Int32) (Z : HS) => ((2147483647 : Int32).toInt - y8.toInt).toNat) (fun (y0 : Nat) (y1 : Nat) (y2 : Nat) (y3 : Int32) (y4 : Nat) (y5 : Int32) (y6 : Int64) (y8 : Int32) (Z : HS) => (IV Z) ∧ (Gr S Z) ∧ (FRI [] [] S Z) ∧ (v0 = y0) ∧ (v1 = y1) ∧ (v2 = y2) ∧ (v3 = y3) ∧ (v4 = y4)) ?_ _ _ _ _ _ _ _ _ _ ⟨hI, (gr_rf _), (fri_rf _ _ _), rfl, rfl, rfl, rfl, rfl⟩
  intro w7 w9 w11 w13 w15 w17 w18 w19 S4 X20 ⟨hI, gL5, fL6, q8, q10, q12, q14, q16⟩ ih21
  subst q8
  subst q10
  subst q12
  subst q14
  subst q16
  have d_x2 := d_x2.trans (fri_at fL6 (by decide) (by decide) o_v1).symm
  have f0 := fri_tr (S := S) g0 f0 fL6 (by decide) (by decide)
  have o_v0 := gr_ob gL5 o_v0
  have o_v1 := gr_ob gL5 o_v1
  have o_v2 := gr_ob gL5 o_v2
  have o_v4 := gr_ob gL5 o_v4
  have g0 := gr_tr (T := S) g0 gL5
  refine u_X1_worstSpeed_17 ?_
  refine ⟨o_v1, ?_⟩
  intro x22 ex22
  have r_x22 : (0 : Int32) ≤ x22 ∧ x22 ≤ (9 : Int32) := by rw [ex22]; exact nu 5 rfl hI o_v1
  have d_x22 := ex22
  refine ⟨fun c23 => ?_, fun c23 => ?_⟩
  · exact hq _ _ hI g0 f0
  · refine ⟨o_v0, ?_⟩
    refine m_X1_wetOf hI o_v0 o_v1 o_v2 o_v4 (fun x24 S25 hJ g26 fc27 => ?_)
    have hI := hJ
    have d_x2 := d_x2.trans (fri_at fc27 (by decide) (by decide) o_v1).symm
    have d_x22 := d_x22.trans (fri_at fc27 (by decide) (by decide) o_v1).symm
    have f0 := fri_tr (S := S4) g0 f0 fc27 (by decide) (by decide)
    have fL6 := fri_tr (S := S4) gL5 fL6 fc27 (by decide) (by decide)
    have o_v0 := gr_ob g26 o_v0
    have o_v1 := gr_ob g26 o_v1
    have o_v2 := gr_ob g26 o_v2
    have o_v4 := gr_ob g26 o_v4
    have g0 := gr_tr (T := S4) g0 g26
    have gL5 := gr_tr (T := S4) gL5 g26
    intro _
    refine ⟨fun c28 => ?_, fun c28 => ?_⟩
    · refine u_X1_worstSpeed_55 ?_
      intro x29 ex29
      exact ih21 _ _ _ _ _ _ _ _ _ ⟨hI, gL5, fL6, rfl, rfl, rfl, rfl, rfl⟩ (mu_up (q31 r_x22 c23 c28 ex29) (q32 r_x22 c23 c28 ex29))
    · refine u_X1_worstSpeed_55 ?_
      intro x30 ex30
      exact ih21 _ _ _ _ _ _ _ _ _ ⟨hI, gL5, fL6, rfl, rfl, rfl, rfl, rfl⟩ (mu_up (q33 r_x22 c23 c28 ex30) (q34 r_x22 c23 c28 ex30))
set_option maxHeartbeats 4000000 in
set_option maxRecDepth 20000 in
theorem m_X2_addFaces {v0 : Nat} {v1 : Nat} {Q : HS → Prop} {S : HS} (hI : IV S) (o_v0 : ob S v0 2) (o_v1 : ob S v1 14) (l_v1 : hN S v1 = 5)    (hq : ∀ (T : HS), IV T → Gr S T → FRI [] [] S T → Q T) : P_X2_addFaces v0 v1 Q S := by
  have g0 := gr_rf S
  have f0 := fri_rf [] [] S
  refine u_X2_addFaces ?_
  refine u_X2_addFaces_0 ?_
  refine i_X2_addFaces_2 (fun (y0 : Nat) (y1 : Nat) (y2 : Int32) (Z : HS) => ((2147483647 : Int32).toInt - y2.toInt).toNat) (fun (y0 : Nat) (y1 : Nat) (y2 : Int32) (Z : HS) => (IV Z) ∧ (Gr S Z) ∧ (FRI [] [] S Z) ∧ (v0 = y0) ∧ (v1 = y1) ∧ (0 ≤ y2)) ?_ _ _ _ _ ⟨hI, (gr_rf _), (fri_rf _ _ _), rfl, rfl, (q82)⟩
  intro w5 w7 w9 S2 X10 ⟨hI, gL3, fL4, q6, q8, i1u1⟩ ih11
  subst q6
  subst q8
  have l_v1 := (gr_len gL3 o_v1).trans l_v1
  have f0 := fri_tr (S := S) g0 f0 fL4 (by decide) (by decide)
  have o_v0 := gr_ob gL3 o_v0
  have o_v1 := gr_ob gL3 o_v1
  have g0 := gr_tr (T := S) g0 gL3
  refine u_X2_addFaces_2 ?_
  refine ⟨fun c12 => ?_, fun c12 => ?_⟩
  · exact hq _ hI g0 f0
  · refine ⟨o_v1, ?_⟩
    have n_v1 : nI (hN S2 v1) = 5 := by rw [show hN S2 v1 = 5 from l_v1]; decide
    refine ⟨fun c13 => ?_, fun c13 => ?_⟩
    · rw [n_v1] at c13
      exact hq _ hI g0 f0
    · rw [n_v1] at c13
      refine ⟨o_v0, ?_⟩
      obtain ⟨a14, ea14, o_a14, l_a14⟩ := shl 11 rfl hI o_v0
      refine ⟨a14, ea14, ?_⟩
      refine ⟨o_a14, ?_⟩
      refine ⟨(vin l_a14 (m := 5) (by decide) (q1373 i1u1 c12 c13)), ?_⟩
      intro x15 ex15
      refine ⟨(vin l_v1 (m := 5) (by decide) (q1373 i1u1 c12 c13)), ?_⟩
      intro x16 ex16
      intro x17 ex17
      have i18 : vp_in w9 (hN _ a14) := (vin l_a14 (m := 5) (by decide) (q1373 i1u1 c12 c13))
      refine ⟨i18, ?_⟩
      intro S19 eS19
      have hI : IV S19 := by rw [eS19]; exact iv_aJ hI o_v0 (by decide) ea14 o_a14 (by decide)
      have f0 := fr_J eS19 f0
      have fL4 := fr_J eS19 fL4
      have ea14 := rf_J eS19 ea14
      have l_a14 := ln_J eS19 l_a14
      have l_v1 := ln_J eS19 l_v1
      have g0 := gr_J eS19 g0
      have gL3 := gr_J eS19 gL3
      have o_a14 := ob_J eS19 o_a14
      have o_v0 := ob_J eS19 o_v0
      have o_v1 := ob_J eS19 o_v1
      intro x20 ex20
      exact ih11 _ _ _ _ ⟨hI, gL3, fL4, rfl, rfl, (q1374 i1u1 c12 c13 ex20)⟩ (mu_up (q1375 i1u1 c12 c13 ex20) (q1376 i1u1 c12 c13 ex20))
set_option maxHeartbeats 4000000 in
set_option maxRecDepth 20000 in
theorem m_X2_allGot {v0 : Nat} {Q : Int64 → HS → Prop} {S : HS} (hI : IV S) (o_v0 : ob S v0 2)     (hq : ∀ (r : Int64) (T : HS), IV T → Gr S T → (S = T) → Q r T) : P_X2_allGot v0 Q S := by
  have g0 := gr_rf S
  refine u_X2_allGot ?_
  refine u_X2_allGot_0 ?_
  refine i_X2_allGot_4 (fun (y0 : Nat) (y1 : Int64) (y3 : Int32) (Z : HS) => ((2147483647 : Int32).toInt - y3.toInt).toNat) (fun (y0 : Nat) (y1 : Int64) (y3 : Int32) (Z : HS) => (S = Z) ∧ (v0 = y0) ∧ (0 ≤ y3)) ?_ _ _ _ _ ⟨rfl, rfl, (q82)⟩
  intro w5 w7 w8 S2 X9 ⟨eS2, q6, i1u1⟩ ih10
  subst q6
  subst eS2
  refine u_X2_allGot_4 ?_
  refine ⟨fun c11 => ?_, fun c11 => ?_⟩
  · exact hq _ _ hI g0 rfl
  · refine ⟨o_v0, ?_⟩
    obtain ⟨a12, ea12, o_a12, l_a12⟩ := shl 11 rfl hI o_v0
    refine ⟨a12, ea12, ?_⟩
    refine ⟨o_a12, ?_⟩
    refine ⟨(vin l_a12 (m := 5) (by decide) (q731 i1u1 c11)), ?_⟩
    intro x13 ex13
    intro x14 ex14
    intro x15 ex15
    exact ih10 _ _ _ _ ⟨rfl, rfl, (q732 i1u1 c11 ex15)⟩ (mu_up (q733 i1u1 c11 ex15) (q734 i1u1 c11 ex15))
set_option maxHeartbeats 4000000 in
set_option maxRecDepth 20000 in
theorem m_X4_sortAt {v0 : Nat} {v1 : Int32} {Q : Int32 → HS → Prop} {S : HS} (hI : IV S) (o_v0 : ob S v0 4)    (hT : TX S v0) (hq : ∀ (r : Int32) (T : HS), IV T → Gr S T → (S = T) ∧ (r = 0 ∨ (0 ≤ v1 ∧ v1 < 900)) → Q r T) : P_X4_sortAt v0 v1 Q S := by
  have g0 := gr_rf S
  refine u_X4_sortAt ?_
  refine u_X4_sortAt_0 ?_
  refine ⟨fun c1 => ?_, fun c1 => ?_⟩
  · exact hq _ _ hI g0 ⟨rfl, (q688 c1)⟩
  · refine ⟨o_v0, ?_⟩
    intro x2 ex2
    have r_x2 : (0 : Int32) ≤ x2 ∧ x2 ≤ (900 : Int32) := by rw [ex2]; exact nu 6 rfl hI o_v0
    have d_x2 := ex2
    refine ⟨fun c3 => ?_, fun c3 => ?_⟩
    · exact hq _ _ hI g0 ⟨rfl, (q689 c1 r_x2 c3)⟩
    · obtain ⟨a4, ea4, o_a4, l_a4⟩ := id hT
      refine ⟨a4, ea4, ?_⟩
      refine ⟨o_a4, ?_⟩
      have n_a4 : nI (hN S a4) = 900 := by rw [show hN S a4 = 900 from l_a4]; decide
      refine ⟨fun c5 => ?_, fun c5 => ?_⟩
      · rw [n_a4] at c5
        refine ⟨a4, ea4, ?_⟩
        refine ⟨o_a4, ?_⟩
        refine ⟨(vin l_a4 (m := 900) (by decide) (q690 c1 r_x2 c3 c5)), ?_⟩
        intro x7 ex7
        refine ⟨fun c8 => ?_, fun c8 => ?_⟩
        · refine u_X4_sortAt_44 ?_
          refine ⟨fun c9 => ?_, fun c9 => ?_⟩
          · refine u_X4_sortAt_58 ?_
            refine ⟨fun c10 => ?_, fun c10 => ?_, fun c10 => ?_, fun c10 => ?_⟩
            · exact hq _ _ hI g0 ⟨rfl, (q691 c1 r_x2 c3 c5 c8 c9)⟩
            · exact hq _ _ hI g0 ⟨rfl, (q692 c1 r_x2 c3 c5 c8 c9)⟩
            · exact hq _ _ hI g0 ⟨rfl, (q693 c1 r_x2 c3 c5 c8 c9)⟩
            · exact hq _ _ hI g0 ⟨rfl, (q694 c1 r_x2 c3 c5 c8 c9)⟩
          · refine ⟨fun c11 => ?_, fun c11 => ?_⟩
            · refine u_X4_sortAt_58 ?_
              refine ⟨fun c12 => ?_, fun c12 => ?_, fun c12 => ?_, fun c12 => ?_⟩
              · exact hq _ _ hI g0 ⟨rfl, (q695 c1 r_x2 c3 c5 c8 c9 c11)⟩
              · exact hq _ _ hI g0 ⟨rfl, (q696 c1 r_x2 c3 c5 c8 c9 c11)⟩
              · exact hq _ _ hI g0 ⟨rfl, (q697 c1 r_x2 c3 c5 c8 c9 c11)⟩
              · exact hq _ _ hI g0 ⟨rfl, (q698 c1 r_x2 c3 c5 c8 c9 c11)⟩
            · exact hq _ _ hI g0 ⟨rfl, (q699 c1 r_x2 c3 c5 c8 c9 c11)⟩
        · refine ⟨fun c13 => ?_, fun c13 => ?_⟩
          · refine u_X4_sortAt_44 ?_
            refine ⟨fun c14 => ?_, fun c14 => ?_⟩
            · refine u_X4_sortAt_58 ?_
              refine ⟨fun c15 => ?_, fun c15 => ?_, fun c15 => ?_, fun c15 => ?_⟩
              · exact hq _ _ hI g0 ⟨rfl, (q700 c1 r_x2 c3 c5 c8 c13 c14)⟩
              · exact hq _ _ hI g0 ⟨rfl, (q701 c1 r_x2 c3 c5 c8 c13 c14)⟩
              · exact hq _ _ hI g0 ⟨rfl, (q702 c1 r_x2 c3 c5 c8 c13 c14)⟩
              · exact hq _ _ hI g0 ⟨rfl, (q703 c1 r_x2 c3 c5 c8 c13 c14)⟩
            · refine ⟨fun c16 => ?_, fun c16 => ?_⟩
              · refine u_X4_sortAt_58 ?_
                refine ⟨fun c17 => ?_, fun c17 => ?_, fun c17 => ?_, fun c17 => ?_⟩
                · exact hq _ _ hI g0 ⟨rfl, (q704 c1 r_x2 c3 c5 c8 c13 c14 c16)⟩
                · exact hq _ _ hI g0 ⟨rfl, (q705 c1 r_x2 c3 c5 c8 c13 c14 c16)⟩
                · exact hq _ _ hI g0 ⟨rfl, (q706 c1 r_x2 c3 c5 c8 c13 c14 c16)⟩
                · exact hq _ _ hI g0 ⟨rfl, (q707 c1 r_x2 c3 c5 c8 c13 c14 c16)⟩
              · exact hq _ _ hI g0 ⟨rfl, (q708 c1 r_x2 c3 c5 c8 c13 c14 c16)⟩
          · exact hq _ _ hI g0 ⟨rfl, (q709 c1 r_x2 c3 c5 c8 c13)⟩
      · rw [n_a4] at c5
        exact hq _ _ hI g0 ⟨rfl, (q710 c1 r_x2 c3 c5)⟩
set_option maxHeartbeats 4000000 in
set_option maxRecDepth 20000 in
theorem m_X4_next {v0 : Nat} {Q : HS → Prop} {S : HS} (hI : IV S) (o_v0 : ob S v0 4)    (hT : TX S v0) (hq : ∀ (T : HS), IV T → Gr S T → FRI [(4, 4), (4, 6), (4, 7)] [] S T → (TX T v0) → Q T) : P_X4_next v0 Q S := by
  have g0 := gr_rf S
  have f0 := fri_rf [(4, 4), (4, 6), (4, 7)] [] S
  refine u_X4_next ?_
  refine u_X4_next_0 ?_
  refine i_X4_next_2 (fun (y0 : Nat) (y1 : Int32) (Z : HS) => ((2147483647 : Int32).toInt - y1.toInt).toNat) (fun (y0 : Nat) (y1 : Int32) (Z : HS) => (IV Z) ∧ (Gr S Z) ∧ (FRI [(4, 4)] [] S Z) ∧ (v0 = y0) ∧ (TX Z v0) ∧ (0 ≤ y1)) ?_ _ _ _ ⟨hI, (gr_rf _), (fri_rf _ _ _), rfl, hT, (q82)⟩
  intro w5 w7 S2 X8 ⟨hI, gL3, fL4, q6, hT, i1u1⟩ ih9
  subst q6
  have f0 := fri_tr (S := S) g0 f0 fL4 (by decide) (by decide)
  have o_v0 := gr_ob gL3 o_v0
  have g0 := gr_tr (T := S) g0 gL3
  refine u_X4_next_2 ?_
  refine ⟨fun c10 => ?_, fun c10 => ?_⟩
  · refine u_X4_next_37 ?_
    refine ⟨o_v0, ?_⟩
    intro x11 ex11
    have d_x11 := ex11
    intro S12 eS12
    have hI : IV S12 := by rw [eS12]; exact iv_sI hI o_v0 (by decide) (nu_free (by decide))
    have f0 := fr_I eS12 g0 f0 o_v0 (by decide)
    have d_x11 := rd_Ij eS12 (by decide) d_x11
    obtain ⟨y13, hy13⟩ : ∃ z : Int32, z = x11 := ⟨_, rfl⟩
    have d_y13 := rd_Is eS12 hy13
    have hT := tx_I eS12 hT
    have g0 := gr_I eS12 g0
    have o_v0 := ob_I eS12 o_v0
    intro x14 ex14
    have q_x14 : x14 = x11 := ex14.trans d_x11.symm
    have d_x14 := ex14
    refine m_X4_sortAt hI o_v0 hT (fun x15 S16 hI2 g17 p_x15 => ?_)
    obtain ⟨z_S16, p_x15⟩ := p_x15
    subst z_S16
    intro _
    intro S19 eS19
    have hI : IV S19 := by rw [eS19]; exact iv_sI hI o_v0 (by decide) (nu_free (by decide))
    have f0 := fr_I eS19 g0 f0 o_v0 (by decide)
    have d_x14 := rd_Ij eS19 (by decide) d_x14
    have d_y13 := rd_Ij eS19 (by decide) d_y13
    have d_x15 := rd_Is eS19 (rfl : x15 = x15)
    have hT := tx_I eS19 hT
    have g0 := gr_I eS19 g0
    have o_v0 := ob_I eS19 o_v0
    intro S20 eS20
    have hI : IV S20 := by rw [eS20]; exact iv_sJ hI o_v0 (by decide)
    have f0 := fr_J eS20 f0
    have d_x14 := rd_J eS20 d_x14
    have d_y13 := rd_J eS20 d_y13
    have d_x15 := rd_J eS20 d_x15
    have hT := tx_J eS20 hT
    have g0 := gr_J eS20 g0
    have o_v0 := ob_J eS20 o_v0
    intro x21 ex21
    have q_x21 : x21 = x15 := ex21.trans d_x15.symm
    have d_x21 := ex21
    refine ⟨fun c22 => ?_, fun c22 => ?_⟩
    · refine u_X4_next_78 ?_
      refine u_X4_next_83 ?_
      refine ⟨o_v0, ?_⟩
      intro x23 ex23
      have q_x23 : x23 = x21 := ex23.trans d_x21.symm
      have d_x23 := ex23
      refine ⟨fun c24 => ?_, fun c24 => ?_⟩
      · refine u_X4_next_98 ?_
        refine ⟨o_v0, ?_⟩
        intro x25 ex25
        have q_x25 : x25 = x23 := ex25.trans d_x23.symm
        have d_x25 := ex25
        refine ⟨fun c26 => ?_, fun c26 => ?_⟩
        · refine u_X4_next_114 ?_
          refine i_X4_next_118 (fun (y0 : Nat) (y1 : Int32) (y2 : Int32) (y3 : Int32) (y4 : Int32) (Z : HS) => ((2147483647 : Int32).toInt - y4.toInt).toNat) (fun (y0 : Nat) (y1 : Int32) (y2 : Int32) (y3 : Int32) (y4 : Int32) (Z : HS) => (IV Z) ∧ (Gr S20 Z) ∧ (FRI [(4, 4)] [] S20 Z) ∧ (v0 = y0) ∧ ((1 : Int32) = y1) ∧ ((3 : Int32) = y2) ∧ ((10 : Int32) = y3) ∧ (TX Z v0) ∧ (0 ≤ y4) ∧ ((y1 = 0 ∨ fI Z v0 6 = 1 ∨ fI Z v0 6 = 2) ∧ (y1 = 0 → fI Z v0 6 = 0 ∨ (0 ≤ fI Z v0 4 ∧ fI Z v0 4 < 900)))) ?_ _ _ _ _ _ _ ⟨hI, (gr_rf _), (fri_rf _ _ _), rfl, rfl, rfl, rfl, hT, (q229 i1u1 c10 hy13 q_x14 p_x15 q_x21 c22 q_x23 c24 q_x25 c26), (by rw [← d_x25, ← d_x14]; exact (q230 i1u1 c10 hy13 q_x14 p_x15 q_x21 c22 q_x23 c24 q_x25 c26))⟩
          intro w31 w33 w35 w37 w39 S28 X40 ⟨hI, gL29, fL30, q32, q34, q36, q38, hT, i1u27, k1u27⟩ ih41
          subst q32
          subst q34
          subst q36
          subst q38
          have d_y13 := d_y13.trans (fri_at fL30 (by decide) (by decide) o_v0).symm
          have d_x25 := d_x25.trans (fri_at fL30 (by decide) (by decide) o_v0).symm
          have f0 := fri_tr (S := S20) g0 f0 fL30 (by decide) (by decide)
          have o_v0 := gr_ob gL29 o_v0
          have g0 := gr_tr (T := S20) g0 gL29
          obtain ⟨y42, d_y42⟩ : ∃ z : Int32, z = fI S28 v0 4 := ⟨_, rfl⟩
          have p_k1u27 : ((1 : Int32) = 0 ∨ x25 = 1 ∨ x25 = 2) ∧ ((1 : Int32) = 0 → x25 = 0 ∨ (0 ≤ y42 ∧ y42 < 900)) := by rw [d_x25, d_y42]; exact k1u27
          refine u_X4_next_118 ?_
          refine ⟨fun c43 => ?_, fun c43 => ?_⟩
          · refine u_X4_next_217 ?_
            refine ⟨fun c44 => ?_, fun c44 => ?_⟩
            · refine u_X4_next_240 ?_
              refine ⟨fun c45 => ?_, fun c45 => ?_⟩
              · exact hq _ hI g0 f0 hT
              · refine ⟨o_v0, ?_⟩
                intro x46 ex46
                have q_x46 : x46 = x25 := ex46.trans d_x25.symm
                have d_x46 := ex46
                refine ⟨fun c47 => ?_, fun c47 => ?_⟩
                · exact hq _ hI g0 f0 hT
                · intro x48 ex48
                  have q_x48 : x48 = y42 := ex48.trans d_y42.symm
                  have d_x48 := ex48
                  intro x49 ex49
                  intro S50 eS50
                  have hI : IV S50 := by rw [eS50]; exact iv_sI hI o_v0 (by decide) (nu_free (by decide))
                  have f0 := fr_I eS50 g0 f0 o_v0 (by decide)
                  have d_y13 := rd_Ij eS50 (by decide) d_y13
                  have d_x46 := rd_Ij eS50 (by decide) d_x46
                  have d_x49 := rd_Is eS50 (rfl : x49 = x49)
                  have hT := tx_I eS50 hT
                  have g0 := gr_I eS50 g0
                  have o_v0 := ob_I eS50 o_v0
                  exact hq _ hI g0 f0 hT
            · refine ⟨o_v0, ?_⟩
              intro x51 ex51
              have q_x51 : x51 = y42 := ex51.trans d_y42.symm
              have d_x51 := ex51
              intro x52 ex52
              have q_x52 : x52 = y13 := ex52.trans d_y13.symm
              have d_x52 := ex52
              refine ⟨fun c53 => ?_, fun c53 => ?_⟩
              · refine u_X4_next_240 ?_
                refine ⟨fun c54 => ?_, fun c54 => ?_⟩
                · exact hq _ hI g0 f0 hT
                · refine ⟨o_v0, ?_⟩
                  intro x55 ex55
                  have q_x55 : x55 = x25 := ex55.trans d_x25.symm
                  have d_x55 := ex55
                  refine ⟨fun c56 => ?_, fun c56 => ?_⟩
                  · exact hq _ hI g0 f0 hT
                  · intro x57 ex57
                    have q_x57 : x57 = x51 := ex57.trans d_x51.symm
                    have d_x57 := ex57
                    intro x58 ex58
                    intro S59 eS59
                    have hI : IV S59 := by rw [eS59]; exact iv_sI hI o_v0 (by decide) (nu_free (by decide))
                    have f0 := fr_I eS59 g0 f0 o_v0 (by decide)
                    have d_x52 := rd_Ij eS59 (by decide) d_x52
                    have d_x55 := rd_Ij eS59 (by decide) d_x55
                    have d_x58 := rd_Is eS59 (rfl : x58 = x58)
                    have hT := tx_I eS59 hT
                    have g0 := gr_I eS59 g0
                    have o_v0 := ob_I eS59 o_v0
                    exact hq _ hI g0 f0 hT
              · intro S60 eS60
                have hI : IV S60 := by rw [eS60]; exact iv_sI hI o_v0 (by decide) (nu_free (by decide))
                have f0 := fr_I eS60 g0 f0 o_v0 (by decide)
                have d_x52 := rd_Ij eS60 (by decide) d_x52
                have d_x51 := rd_Ij eS60 (by decide) d_x51
                obtain ⟨y61, hy61⟩ : ∃ z : Int32, z = (6 : Int32) := ⟨_, rfl⟩
                have d_y61 := rd_Is eS60 hy61
                have hT := tx_I eS60 hT
                have g0 := gr_I eS60 g0
                have o_v0 := ob_I eS60 o_v0
                refine u_X4_next_240 ?_
                refine ⟨fun c62 => ?_, fun c62 => ?_⟩
                · exact hq _ hI g0 f0 hT
                · refine ⟨o_v0, ?_⟩
                  intro x63 ex63
                  have q_x63 : x63 = y61 := ex63.trans d_y61.symm
                  have d_x63 := ex63
                  refine ⟨fun c64 => ?_, fun c64 => ?_⟩
                  · exact hq _ hI g0 f0 hT
                  · intro x65 ex65
                    have q_x65 : x65 = x51 := ex65.trans d_x51.symm
                    have d_x65 := ex65
                    intro x66 ex66
                    intro S67 eS67
                    have hI : IV S67 := by rw [eS67]; exact iv_sI hI o_v0 (by decide) (nu_free (by decide))
                    have f0 := fr_I eS67 g0 f0 o_v0 (by decide)
                    have d_x52 := rd_Ij eS67 (by decide) d_x52
                    have d_x63 := rd_Ij eS67 (by decide) d_x63
                    have d_x66 := rd_Is eS67 (rfl : x66 = x66)
                    have hT := tx_I eS67 hT
                    have g0 := gr_I eS67 g0
                    have o_v0 := ob_I eS67 o_v0
                    exact hq _ hI g0 f0 hT
          · refine ⟨fun c68 => ?_, fun c68 => ?_⟩
            · refine u_X4_next_217 ?_
              refine ⟨fun c69 => ?_, fun c69 => ?_⟩
              · refine u_X4_next_240 ?_
                refine ⟨fun c70 => ?_, fun c70 => ?_⟩
                · exact hq _ hI g0 f0 hT
                · refine ⟨o_v0, ?_⟩
                  intro x71 ex71
                  have q_x71 : x71 = x25 := ex71.trans d_x25.symm
                  have d_x71 := ex71
                  refine ⟨fun c72 => ?_, fun c72 => ?_⟩
                  · exact hq _ hI g0 f0 hT
                  · intro x73 ex73
                    have q_x73 : x73 = y42 := ex73.trans d_y42.symm
                    have d_x73 := ex73
                    intro x74 ex74
                    intro S75 eS75
                    have hI : IV S75 := by rw [eS75]; exact iv_sI hI o_v0 (by decide) (nu_free (by decide))
                    have f0 := fr_I eS75 g0 f0 o_v0 (by decide)
                    have d_y13 := rd_Ij eS75 (by decide) d_y13
                    have d_x71 := rd_Ij eS75 (by decide) d_x71
                    have d_x74 := rd_Is eS75 (rfl : x74 = x74)
                    have hT := tx_I eS75 hT
                    have g0 := gr_I eS75 g0
                    have o_v0 := ob_I eS75 o_v0
                    exact hq _ hI g0 f0 hT
              · refine ⟨o_v0, ?_⟩
                intro x76 ex76
                have q_x76 : x76 = y42 := ex76.trans d_y42.symm
                have d_x76 := ex76
                intro x77 ex77
                have q_x77 : x77 = y13 := ex77.trans d_y13.symm
                have d_x77 := ex77
                refine ⟨fun c78 => ?_, fun c78 => ?_⟩
                · refine u_X4_next_240 ?_
                  refine ⟨fun c79 => ?_, fun c79 => ?_⟩
                  · exact hq _ hI g0 f0 hT
                  · refine ⟨o_v0, ?_⟩
                    intro x80 ex80
                    have q_x80 : x80 = x25 := ex80.trans d_x25.symm
                    have d_x80 := ex80
                    refine ⟨fun c81 => ?_, fun c81 => ?_⟩
                    · exact hq _ hI g0 f0 hT
                    · intro x82 ex82
                      have q_x82 : x82 = x76 := ex82.trans d_x76.symm
                      have d_x82 := ex82
                      intro x83 ex83
                      intro S84 eS84
                      have hI : IV S84 := by rw [eS84]; exact iv_sI hI o_v0 (by decide) (nu_free (by decide))
                      have f0 := fr_I eS84 g0 f0 o_v0 (by decide)
                      have d_x77 := rd_Ij eS84 (by decide) d_x77
                      have d_x80 := rd_Ij eS84 (by decide) d_x80
                      have d_x83 := rd_Is eS84 (rfl : x83 = x83)
                      have hT := tx_I eS84 hT
                      have g0 := gr_I eS84 g0
                      have o_v0 := ob_I eS84 o_v0
                      exact hq _ hI g0 f0 hT
                · intro S85 eS85
                  have hI : IV S85 := by rw [eS85]; exact iv_sI hI o_v0 (by decide) (nu_free (by decide))
                  have f0 := fr_I eS85 g0 f0 o_v0 (by decide)
                  have d_x77 := rd_Ij eS85 (by decide) d_x77
                  have d_x76 := rd_Ij eS85 (by decide) d_x76
                  obtain ⟨y86, hy86⟩ : ∃ z : Int32, z = (6 : Int32) := ⟨_, rfl⟩
                  have d_y86 := rd_Is eS85 hy86
                  have hT := tx_I eS85 hT
                  have g0 := gr_I eS85 g0
                  have o_v0 := ob_I eS85 o_v0
                  refine u_X4_next_240 ?_
                  refine ⟨fun c87 => ?_, fun c87 => ?_⟩
                  · exact hq _ hI g0 f0 hT
                  · refine ⟨o_v0, ?_⟩
                    intro x88 ex88
                    have q_x88 : x88 = y86 := ex88.trans d_y86.symm
                    have d_x88 := ex88
                    refine ⟨fun c89 => ?_, fun c89 => ?_⟩
                    · exact hq _ hI g0 f0 hT
                    · intro x90 ex90
                      have q_x90 : x90 = x76 := ex90.trans d_x76.symm
                      have d_x90 := ex90
                      intro x91 ex91
                      intro S92 eS92
                      have hI : IV S92 := by rw [eS92]; exact iv_sI hI o_v0 (by decide) (nu_free (by decide))
                      have f0 := fr_I eS92 g0 f0 o_v0 (by decide)
                      have d_x77 := rd_Ij eS92 (by decide) d_x77
                      have d_x88 := rd_Ij eS92 (by decide) d_x88
                      have d_x91 := rd_Is eS92 (rfl : x91 = x91)
                      have hT := tx_I eS92 hT
                      have g0 := gr_I eS92 g0
                      have o_v0 := ob_I eS92 o_v0
                      exact hq _ hI g0 f0 hT
            · refine ⟨o_v0, ?_⟩
              intro x93 ex93
              have q_x93 : x93 = y42 := ex93.trans d_y42.symm
              have d_x93 := ex93
              refine m_X4_sortAt hI o_v0 hT (fun x94 S95 hI2 g96 p_x94 => ?_)
              obtain ⟨z_S95, p_x94⟩ := p_x94
              subst z_S95
              intro _
              intro x98 ex98
              have q_x98 : x98 = x25 := ex98.trans d_x25.symm
              have d_x98 := ex98
              refine ⟨fun c99 => ?_, fun c99 => ?_⟩
              · refine u_X4_next_217 ?_
                refine ⟨fun c100 => ?_, fun c100 => ?_⟩
                · refine u_X4_next_240 ?_
                  refine ⟨fun c101 => ?_, fun c101 => ?_⟩
                  · exact hq _ hI g0 f0 hT
                  · refine ⟨o_v0, ?_⟩
                    intro x102 ex102
                    have q_x102 : x102 = x98 := ex102.trans d_x98.symm
                    have d_x102 := ex102
                    refine ⟨fun c103 => ?_, fun c103 => ?_⟩
                    · exact hq _ hI g0 f0 hT
                    · intro x104 ex104
                      have q_x104 : x104 = x93 := ex104.trans d_x93.symm
                      have d_x104 := ex104
                      intro x105 ex105
                      intro S106 eS106
                      have hI : IV S106 := by rw [eS106]; exact iv_sI hI o_v0 (by decide) (nu_free (by decide))
                      have f0 := fr_I eS106 g0 f0 o_v0 (by decide)
                      have d_y13 := rd_Ij eS106 (by decide) d_y13
                      have d_x102 := rd_Ij eS106 (by decide) d_x102
                      have d_x105 := rd_Is eS106 (rfl : x105 = x105)
                      have hT := tx_I eS106 hT
                      have g0 := gr_I eS106 g0
                      have o_v0 := ob_I eS106 o_v0
                      exact hq _ hI g0 f0 hT
                · refine ⟨o_v0, ?_⟩
                  intro x107 ex107
                  have q_x107 : x107 = x93 := ex107.trans d_x93.symm
                  have d_x107 := ex107
                  intro x108 ex108
                  have q_x108 : x108 = y13 := ex108.trans d_y13.symm
                  have d_x108 := ex108
                  refine ⟨fun c109 => ?_, fun c109 => ?_⟩
                  · refine u_X4_next_240 ?_
                    refine ⟨fun c110 => ?_, fun c110 => ?_⟩
                    · exact hq _ hI g0 f0 hT
                    · refine ⟨o_v0, ?_⟩
                      intro x111 ex111
                      have q_x111 : x111 = x98 := ex111.trans d_x98.symm
                      have d_x111 := ex111
                      refine ⟨fun c112 => ?_, fun c112 => ?_⟩
                      · exact hq _ hI g0 f0 hT
                      · intro x113 ex113
                        have q_x113 : x113 = x107 := ex113.trans d_x107.symm
                        have d_x113 := ex113
                        intro x114 ex114
                        intro S115 eS115
                        have hI : IV S115 := by rw [eS115]; exact iv_sI hI o_v0 (by decide) (nu_free (by decide))
                        have f0 := fr_I eS115 g0 f0 o_v0 (by decide)
                        have d_x108 := rd_Ij eS115 (by decide) d_x108
                        have d_x111 := rd_Ij eS115 (by decide) d_x111
                        have d_x114 := rd_Is eS115 (rfl : x114 = x114)
                        have hT := tx_I eS115 hT
                        have g0 := gr_I eS115 g0
                        have o_v0 := ob_I eS115 o_v0
                        exact hq _ hI g0 f0 hT
                  · intro S116 eS116
                    have hI : IV S116 := by rw [eS116]; exact iv_sI hI o_v0 (by decide) (nu_free (by decide))
                    have f0 := fr_I eS116 g0 f0 o_v0 (by decide)
                    have d_x108 := rd_Ij eS116 (by decide) d_x108
                    have d_x107 := rd_Ij eS116 (by decide) d_x107
                    obtain ⟨y117, hy117⟩ : ∃ z : Int32, z = (6 : Int32) := ⟨_, rfl⟩
                    have d_y117 := rd_Is eS116 hy117
                    have hT := tx_I eS116 hT
                    have g0 := gr_I eS116 g0
                    have o_v0 := ob_I eS116 o_v0
                    refine u_X4_next_240 ?_
                    refine ⟨fun c118 => ?_, fun c118 => ?_⟩
                    · exact hq _ hI g0 f0 hT
                    · refine ⟨o_v0, ?_⟩
                      intro x119 ex119
                      have q_x119 : x119 = y117 := ex119.trans d_y117.symm
                      have d_x119 := ex119
                      refine ⟨fun c120 => ?_, fun c120 => ?_⟩
                      · exact hq _ hI g0 f0 hT
                      · intro x121 ex121
                        have q_x121 : x121 = x107 := ex121.trans d_x107.symm
                        have d_x121 := ex121
                        intro x122 ex122
                        intro S123 eS123
                        have hI : IV S123 := by rw [eS123]; exact iv_sI hI o_v0 (by decide) (nu_free (by decide))
                        have f0 := fr_I eS123 g0 f0 o_v0 (by decide)
                        have d_x108 := rd_Ij eS123 (by decide) d_x108
                        have d_x119 := rd_Ij eS123 (by decide) d_x119
                        have d_x122 := rd_Is eS123 (rfl : x122 = x122)
                        have hT := tx_I eS123 hT
                        have g0 := gr_I eS123 g0
                        have o_v0 := ob_I eS123 o_v0
                        exact hq _ hI g0 f0 hT
              · refine ⟨fun c124 => ?_, fun c124 => ?_⟩
                · refine u_X4_next_201 ?_
                  refine ⟨o_v0, ?_⟩
                  intro x125 ex125
                  have q_x125 : x125 = x93 := ex125.trans d_x93.symm
                  have d_x125 := ex125
                  intro x126 ex126
                  intro S127 eS127
                  have hI : IV S127 := by rw [eS127]; exact iv_sI hI o_v0 (by decide) (nu_free (by decide))
                  have f0 := fr_I eS127 g0 f0 o_v0 (by decide)
                  have fL30 := fr_I eS127 gL29 fL30 o_v0 (by decide)
                  have d_y13 := rd_Ij eS127 (by decide) d_y13
                  have d_x98 := rd_Ij eS127 (by decide) d_x98
                  have d_x126 := rd_Is eS127 (rfl : x126 = x126)
                  have hT := tx_I eS127 hT
                  have g0 := gr_I eS127 g0
                  have gL29 := gr_I eS127 gL29
                  have o_v0 := ob_I eS127 o_v0
                  intro x128 ex128
                  exact ih41 _ _ _ _ _ _ ⟨hI, gL29, fL30, rfl, rfl, rfl, rfl, hT, (q231 i1u1 c10 hy13 q_x14 p_x15 q_x21 c22 q_x23 c24 q_x25 c26 i1u27 p_k1u27 c68 q_x93 p_x94 q_x98 c99 c124 q_x125 ex126 ex128), (by rw [← d_x98, ← d_x126]; exact (q232 i1u1 c10 hy13 q_x14 p_x15 q_x21 c22 q_x23 c24 q_x25 c26 i1u27 p_k1u27 c68 q_x93 p_x94 q_x98 c99 c124 q_x125 ex126 ex128))⟩ (mu_up (q233 i1u1 c10 hy13 q_x14 p_x15 q_x21 c22 q_x23 c24 q_x25 c26 i1u27 p_k1u27 c68 q_x93 p_x94 q_x98 c99 c124 q_x125 ex126 ex128) (q234 i1u1 c10 hy13 q_x14 p_x15 q_x21 c22 q_x23 c24 q_x25 c26 i1u27 p_k1u27 c68 q_x93 p_x94 q_x98 c99 c124 q_x125 ex126 ex128))
                · intro x129 ex129
                  have q_x129 : x129 = x93 := ex129.trans d_x93.symm
                  have d_x129 := ex129
                  obtain ⟨a130, ea130, o_a130, l_a130⟩ := id hT
                  refine ⟨a130, ea130, ?_⟩
                  refine ⟨o_a130, ?_⟩
                  have n_a130 : nI (hN S28 a130) = 900 := by rw [show hN S28 a130 = 900 from l_a130]; decide
                  refine ⟨fun c131 => ?_, fun c131 => ?_⟩
                  · rw [n_a130] at c131
                    refine u_X4_next_201 ?_
                    refine ⟨o_v0, ?_⟩
                    intro x132 ex132
                    have q_x132 : x132 = x129 := ex132.trans d_x129.symm
                    have d_x132 := ex132
                    intro x133 ex133
                    intro S134 eS134
                    have hI : IV S134 := by rw [eS134]; exact iv_sI hI o_v0 (by decide) (nu_free (by decide))
                    have f0 := fr_I eS134 g0 f0 o_v0 (by decide)
                    have fL30 := fr_I eS134 gL29 fL30 o_v0 (by decide)
                    have d_y13 := rd_Ij eS134 (by decide) d_y13
                    have d_x98 := rd_Ij eS134 (by decide) d_x98
                    have d_x133 := rd_Is eS134 (rfl : x133 = x133)
                    have ea130 := rf_I eS134 ea130
                    have hT := tx_I eS134 hT
                    have l_a130 := ln_I eS134 l_a130
                    have g0 := gr_I eS134 g0
                    have gL29 := gr_I eS134 gL29
                    have o_a130 := ob_I eS134 o_a130
                    have o_v0 := ob_I eS134 o_v0
                    intro x135 ex135
                    exact ih41 _ _ _ _ _ _ ⟨hI, gL29, fL30, rfl, rfl, rfl, rfl, hT, (q235 i1u1 c10 hy13 q_x14 p_x15 q_x21 c22 q_x23 c24 q_x25 c26 i1u27 p_k1u27 c68 q_x93 p_x94 q_x98 c99 c124 q_x129 c131 q_x132 ex133 ex135), (by rw [← d_x98, ← d_x133]; exact (q236 i1u1 c10 hy13 q_x14 p_x15 q_x21 c22 q_x23 c24 q_x25 c26 i1u27 p_k1u27 c68 q_x93 p_x94 q_x98 c99 c124 q_x129 c131 q_x132 ex133 ex135))⟩ (mu_up (q237 i1u1 c10 hy13 q_x14 p_x15 q_x21 c22 q_x23 c24 q_x25 c26 i1u27 p_k1u27 c68 q_x93 p_x94 q_x98 c99 c124 q_x129 c131 q_x132 ex133 ex135) (q238 i1u1 c10 hy13 q_x14 p_x15 q_x21 c22 q_x23 c24 q_x25 c26 i1u27 p_k1u27 c68 q_x93 p_x94 q_x98 c99 c124 q_x129 c131 q_x132 ex133 ex135))
                  · rw [n_a130] at c131
                    intro x136 ex136
                    have dj_x136 := ex136
                    refine ⟨a130, ea130, ?_⟩
                    intro x138 ex138
                    have q_x138 : x138 = x129 := ex138.trans d_x129.symm
                    have d_x138 := ex138
                    refine ⟨o_a130, ?_⟩
                    refine ⟨(vin l_a130 (m := 900) (by decide) (q239 i1u1 c10 hy13 q_x14 p_x15 q_x21 c22 q_x23 c24 q_x25 c26 i1u27 p_k1u27 c68 q_x93 p_x94 q_x98 c99 c124 q_x129 c131 q_x138)), ?_⟩
                    intro x139 ex139
                    intro x140 ex140
                    have q_x140 : x140 = x98 := ex140.trans d_x98.symm
                    have d_x140 := ex140
                    refine ⟨fun c141 => ?_, fun c141 => ?_⟩
                    · refine u_X4_next_195 ?_
                      refine ⟨o_v0, ?_⟩
                      intro x142 ex142
                      intro S143 eS143
                      have hI : IV S143 := by rw [eS143]; exact iv_sJ hI o_v0 (by decide)
                      have f0 := fr_J eS143 f0
                      have fL30 := fr_J eS143 fL30
                      have d_y13 := rd_J eS143 d_y13
                      have d_x140 := rd_J eS143 d_x140
                      have d_x138 := rd_J eS143 d_x138
                      have ea130 := rf_J eS143 ea130
                      have hT := tx_J eS143 hT
                      have l_a130 := ln_J eS143 l_a130
                      have g0 := gr_J eS143 g0
                      have gL29 := gr_J eS143 gL29
                      have o_a130 := ob_J eS143 o_a130
                      have o_v0 := ob_J eS143 o_v0
                      refine u_X4_next_201 ?_
                      refine ⟨o_v0, ?_⟩
                      intro x144 ex144
                      have q_x144 : x144 = x138 := ex144.trans d_x138.symm
                      have d_x144 := ex144
                      intro x145 ex145
                      intro S146 eS146
                      have hI : IV S146 := by rw [eS146]; exact iv_sI hI o_v0 (by decide) (nu_free (by decide))
                      have f0 := fr_I eS146 g0 f0 o_v0 (by decide)
                      have fL30 := fr_I eS146 gL29 fL30 o_v0 (by decide)
                      have d_y13 := rd_Ij eS146 (by decide) d_y13
                      have d_x140 := rd_Ij eS146 (by decide) d_x140
                      have d_x145 := rd_Is eS146 (rfl : x145 = x145)
                      have ea130 := rf_I eS146 ea130
                      have hT := tx_I eS146 hT
                      have l_a130 := ln_I eS146 l_a130
                      have g0 := gr_I eS146 g0
                      have gL29 := gr_I eS146 gL29
                      have o_a130 := ob_I eS146 o_a130
                      have o_v0 := ob_I eS146 o_v0
                      intro x147 ex147
                      exact ih41 _ _ _ _ _ _ ⟨hI, gL29, fL30, rfl, rfl, rfl, rfl, hT, (q240 i1u1 c10 hy13 q_x14 p_x15 q_x21 c22 q_x23 c24 q_x25 c26 i1u27 p_k1u27 c68 q_x93 p_x94 q_x98 c99 c124 q_x129 c131 q_x138 q_x140 c141 q_x144 ex145 ex147), (by rw [← d_x140, ← d_x145]; exact (q241 i1u1 c10 hy13 q_x14 p_x15 q_x21 c22 q_x23 c24 q_x25 c26 i1u27 p_k1u27 c68 q_x93 p_x94 q_x98 c99 c124 q_x129 c131 q_x138 q_x140 c141 q_x144 ex145 ex147))⟩ (mu_up (q242 i1u1 c10 hy13 q_x14 p_x15 q_x21 c22 q_x23 c24 q_x25 c26 i1u27 p_k1u27 c68 q_x93 p_x94 q_x98 c99 c124 q_x129 c131 q_x138 q_x140 c141 q_x144 ex145 ex147) (q243 i1u1 c10 hy13 q_x14 p_x15 q_x21 c22 q_x23 c24 q_x25 c26 i1u27 p_k1u27 c68 q_x93 p_x94 q_x98 c99 c124 q_x129 c131 q_x138 q_x140 c141 q_x144 ex145 ex147))
                    · refine u_X4_next_195 ?_
                      refine ⟨o_v0, ?_⟩
                      intro x148 ex148
                      intro S149 eS149
                      have hI : IV S149 := by rw [eS149]; exact iv_sJ hI o_v0 (by decide)
                      have f0 := fr_J eS149 f0
                      have fL30 := fr_J eS149 fL30
                      have d_y13 := rd_J eS149 d_y13
                      have d_x140 := rd_J eS149 d_x140
                      have d_x138 := rd_J eS149 d_x138
                      have ea130 := rf_J eS149 ea130
                      have hT := tx_J eS149 hT
                      have l_a130 := ln_J eS149 l_a130
                      have g0 := gr_J eS149 g0
                      have gL29 := gr_J eS149 gL29
                      have o_a130 := ob_J eS149 o_a130
                      have o_v0 := ob_J eS149 o_v0
                      refine u_X4_next_201 ?_
                      refine ⟨o_v0, ?_⟩
                      intro x150 ex150
                      have q_x150 : x150 = x138 := ex150.trans d_x138.symm
                      have d_x150 := ex150
                      intro x151 ex151
                      intro S152 eS152
                      have hI : IV S152 := by rw [eS152]; exact iv_sI hI o_v0 (by decide) (nu_free (by decide))
                      have f0 := fr_I eS152 g0 f0 o_v0 (by decide)
                      have fL30 := fr_I eS152 gL29 fL30 o_v0 (by decide)
                      have d_y13 := rd_Ij eS152 (by decide) d_y13
                      have d_x140 := rd_Ij eS152 (by decide) d_x140
                      have d_x151 := rd_Is eS152 (rfl : x151 = x151)
                      have ea130 := rf_I eS152 ea130
                      have hT := tx_I eS152 hT
                      have l_a130 := ln_I eS152 l_a130
                      have g0 := gr_I eS152 g0
                      have gL29 := gr_I eS152 gL29
                      have o_a130 := ob_I eS152 o_a130
                      have o_v0 := ob_I eS152 o_v0
                      intro x153 ex153
                      exact ih41 _ _ _ _ _ _ ⟨hI, gL29, fL30, rfl, rfl, rfl, rfl, hT, (q244 i1u1 c10 hy13 q_x14 p_x15 q_x21 c22 q_x23 c24 q_x25 c26 i1u27 p_k1u27 c68 q_x93 p_x94 q_x98 c99 c124 q_x129 c131 q_x138 q_x140 c141 q_x150 ex151 ex153), (by rw [← d_x140, ← d_x151]; exact (q245 i1u1 c10 hy13 q_x14 p_x15 q_x21 c22 q_x23 c24 q_x25 c26 i1u27 p_k1u27 c68 q_x93 p_x94 q_x98 c99 c124 q_x129 c131 q_x138 q_x140 c141 q_x150 ex151 ex153))⟩ (mu_up (q246 i1u1 c10 hy13 q_x14 p_x15 q_x21 c22 q_x23 c24 q_x25 c26 i1u27 p_k1u27 c68 q_x93 p_x94 q_x98 c99 c124 q_x129 c131 q_x138 q_x140 c141 q_x150 ex151 ex153) (q247 i1u1 c10 hy13 q_x14 p_x15 q_x21 c22 q_x23 c24 q_x25 c26 i1u27 p_k1u27 c68 q_x93 p_x94 q_x98 c99 c124 q_x129 c131 q_x138 q_x140 c141 q_x150 ex151 ex153))
        · refine u_X4_next_114 ?_
          refine i_X4_next_118 (fun (y0 : Nat) (y1 : Int32) (y2 : Int32) (y3 : Int32) (y4 : Int32) (Z : HS) => ((2147483647 : Int32).toInt - y4.toInt).toNat) (fun (y0 : Nat) (y1 : Int32) (y2 : Int32) (y3 : Int32) (y4 : Int32) (Z : HS) => (IV Z) ∧ (Gr S20 Z) ∧ (FRI [(4, 4)] [] S20 Z) ∧ (v0 = y0) ∧ ((1 : Int32) = y1) ∧ ((3 : Int32) = y2) ∧ ((32 : Int32) = y3) ∧ (TX Z v0) ∧ (0 ≤ y4) ∧ ((y1 = 0 ∨ fI Z v0 6 = 1 ∨ fI Z v0 6 = 2) ∧ (y1 = 0 → fI Z v0 6 = 0 ∨ (0 ≤ fI Z v0 4 ∧ fI Z v0 4 < 900)))) ?_ _ _ _ _ _ _ ⟨hI, (gr_rf _), (fri_rf _ _ _), rfl, rfl, rfl, rfl, hT, (q248 i1u1 c10 hy13 q_x14 p_x15 q_x21 c22 q_x23 c24 q_x25 c26), (by rw [← d_x25, ← d_x14]; exact (q249 i1u1 c10 hy13 q_x14 p_x15 q_x21 c22 q_x23 c24 q_x25 c26))⟩
          intro w158 w160 w162 w164 w166 S155 X167 ⟨hI, gL156, fL157, q159, q161, q163, q165, hT, i1u154, k1u154⟩ ih168
          subst q159
          subst q161
          subst q163
          subst q165
          have d_y13 := d_y13.trans (fri_at fL157 (by decide) (by decide) o_v0).symm
          have d_x25 := d_x25.trans (fri_at fL157 (by decide) (by decide) o_v0).symm
          have f0 := fri_tr (S := S20) g0 f0 fL157 (by decide) (by decide)
          have o_v0 := gr_ob gL156 o_v0
          have g0 := gr_tr (T := S20) g0 gL156
          obtain ⟨y169, d_y169⟩ : ∃ z : Int32, z = fI S155 v0 4 := ⟨_, rfl⟩
          have p_k1u154 : ((1 : Int32) = 0 ∨ x25 = 1 ∨ x25 = 2) ∧ ((1 : Int32) = 0 → x25 = 0 ∨ (0 ≤ y169 ∧ y169 < 900)) := by rw [d_x25, d_y169]; exact k1u154
          refine u_X4_next_118 ?_
          refine ⟨fun c170 => ?_, fun c170 => ?_⟩
          · refine u_X4_next_217 ?_
            refine ⟨fun c171 => ?_, fun c171 => ?_⟩
            · refine u_X4_next_240 ?_
              refine ⟨fun c172 => ?_, fun c172 => ?_⟩
              · exact hq _ hI g0 f0 hT
              · refine ⟨o_v0, ?_⟩
                intro x173 ex173
                have q_x173 : x173 = x25 := ex173.trans d_x25.symm
                have d_x173 := ex173
                refine ⟨fun c174 => ?_, fun c174 => ?_⟩
                · exact hq _ hI g0 f0 hT
                · intro x175 ex175
                  have q_x175 : x175 = y169 := ex175.trans d_y169.symm
                  have d_x175 := ex175
                  intro x176 ex176
                  intro S177 eS177
                  have hI : IV S177 := by rw [eS177]; exact iv_sI hI o_v0 (by decide) (nu_free (by decide))
                  have f0 := fr_I eS177 g0 f0 o_v0 (by decide)
                  have d_y13 := rd_Ij eS177 (by decide) d_y13
                  have d_x173 := rd_Ij eS177 (by decide) d_x173
                  have d_x176 := rd_Is eS177 (rfl : x176 = x176)
                  have hT := tx_I eS177 hT
                  have g0 := gr_I eS177 g0
                  have o_v0 := ob_I eS177 o_v0
                  exact hq _ hI g0 f0 hT
            · refine ⟨o_v0, ?_⟩
              intro x178 ex178
              have q_x178 : x178 = y169 := ex178.trans d_y169.symm
              have d_x178 := ex178
              intro x179 ex179
              have q_x179 : x179 = y13 := ex179.trans d_y13.symm
              have d_x179 := ex179
              refine ⟨fun c180 => ?_, fun c180 => ?_⟩
              · refine u_X4_next_240 ?_
                refine ⟨fun c181 => ?_, fun c181 => ?_⟩
                · exact hq _ hI g0 f0 hT
                · refine ⟨o_v0, ?_⟩
                  intro x182 ex182
                  have q_x182 : x182 = x25 := ex182.trans d_x25.symm
                  have d_x182 := ex182
                  refine ⟨fun c183 => ?_, fun c183 => ?_⟩
                  · exact hq _ hI g0 f0 hT
                  · intro x184 ex184
                    have q_x184 : x184 = x178 := ex184.trans d_x178.symm
                    have d_x184 := ex184
                    intro x185 ex185
                    intro S186 eS186
                    have hI : IV S186 := by rw [eS186]; exact iv_sI hI o_v0 (by decide) (nu_free (by decide))
                    have f0 := fr_I eS186 g0 f0 o_v0 (by decide)
                    have d_x179 := rd_Ij eS186 (by decide) d_x179
                    have d_x182 := rd_Ij eS186 (by decide) d_x182
                    have d_x185 := rd_Is eS186 (rfl : x185 = x185)
                    have hT := tx_I eS186 hT
                    have g0 := gr_I eS186 g0
                    have o_v0 := ob_I eS186 o_v0
                    exact hq _ hI g0 f0 hT
              · intro S187 eS187
                have hI : IV S187 := by rw [eS187]; exact iv_sI hI o_v0 (by decide) (nu_free (by decide))
                have f0 := fr_I eS187 g0 f0 o_v0 (by decide)
                have d_x179 := rd_Ij eS187 (by decide) d_x179
                have d_x178 := rd_Ij eS187 (by decide) d_x178
                obtain ⟨y188, hy188⟩ : ∃ z : Int32, z = (6 : Int32) := ⟨_, rfl⟩
                have d_y188 := rd_Is eS187 hy188
                have hT := tx_I eS187 hT
                have g0 := gr_I eS187 g0
                have o_v0 := ob_I eS187 o_v0
                refine u_X4_next_240 ?_
                refine ⟨fun c189 => ?_, fun c189 => ?_⟩
                · exact hq _ hI g0 f0 hT
                · refine ⟨o_v0, ?_⟩
                  intro x190 ex190
                  have q_x190 : x190 = y188 := ex190.trans d_y188.symm
                  have d_x190 := ex190
                  refine ⟨fun c191 => ?_, fun c191 => ?_⟩
                  · exact hq _ hI g0 f0 hT
                  · intro x192 ex192
                    have q_x192 : x192 = x178 := ex192.trans d_x178.symm
                    have d_x192 := ex192
                    intro x193 ex193
                    intro S194 eS194
                    have hI : IV S194 := by rw [eS194]; exact iv_sI hI o_v0 (by decide) (nu_free (by decide))
                    have f0 := fr_I eS194 g0 f0 o_v0 (by decide)
                    have d_x179 := rd_Ij eS194 (by decide) d_x179
                    have d_x190 := rd_Ij eS194 (by decide) d_x190
                    have d_x193 := rd_Is eS194 (rfl : x193 = x193)
                    have hT := tx_I eS194 hT
                    have g0 := gr_I eS194 g0
                    have o_v0 := ob_I eS194 o_v0
                    exact hq _ hI g0 f0 hT
          · refine ⟨fun c195 => ?_, fun c195 => ?_⟩
            · refine u_X4_next_217 ?_
              refine ⟨fun c196 => ?_, fun c196 => ?_⟩
              · refine u_X4_next_240 ?_
                refine ⟨fun c197 => ?_, fun c197 => ?_⟩
                · exact hq _ hI g0 f0 hT
                · refine ⟨o_v0, ?_⟩
                  intro x198 ex198
                  have q_x198 : x198 = x25 := ex198.trans d_x25.symm
                  have d_x198 := ex198
                  refine ⟨fun c199 => ?_, fun c199 => ?_⟩
                  · exact hq _ hI g0 f0 hT
                  · intro x200 ex200
                    have q_x200 : x200 = y169 := ex200.trans d_y169.symm
                    have d_x200 := ex200
                    intro x201 ex201
                    intro S202 eS202
                    have hI : IV S202 := by rw [eS202]; exact iv_sI hI o_v0 (by decide) (nu_free (by decide))
                    have f0 := fr_I eS202 g0 f0 o_v0 (by decide)
                    have d_y13 := rd_Ij eS202 (by decide) d_y13
                    have d_x198 := rd_Ij eS202 (by decide) d_x198
                    have d_x201 := rd_Is eS202 (rfl : x201 = x201)
                    have hT := tx_I eS202 hT
                    have g0 := gr_I eS202 g0
                    have o_v0 := ob_I eS202 o_v0
                    exact hq _ hI g0 f0 hT
              · refine ⟨o_v0, ?_⟩
                intro x203 ex203
                have q_x203 : x203 = y169 := ex203.trans d_y169.symm
                have d_x203 := ex203
                intro x204 ex204
                have q_x204 : x204 = y13 := ex204.trans d_y13.symm
                have d_x204 := ex204
                refine ⟨fun c205 => ?_, fun c205 => ?_⟩
                · refine u_X4_next_240 ?_
                  refine ⟨fun c206 => ?_, fun c206 => ?_⟩
                  · exact hq _ hI g0 f0 hT
                  · refine ⟨o_v0, ?_⟩
                    intro x207 ex207
                    have q_x207 : x207 = x25 := ex207.trans d_x25.symm
                    have d_x207 := ex207
                    refine ⟨fun c208 => ?_, fun c208 => ?_⟩
                    · exact hq _ hI g0 f0 hT
                    · intro x209 ex209
                      have q_x209 : x209 = x203 := ex209.trans d_x203.symm
                      have d_x209 := ex209
                      intro x210 ex210
                      intro S211 eS211
                      have hI : IV S211 := by rw [eS211]; exact iv_sI hI o_v0 (by decide) (nu_free (by decide))
                      have f0 := fr_I eS211 g0 f0 o_v0 (by decide)
                      have d_x204 := rd_Ij eS211 (by decide) d_x204
                      have d_x207 := rd_Ij eS211 (by decide) d_x207
                      have d_x210 := rd_Is eS211 (rfl : x210 = x210)
                      have hT := tx_I eS211 hT
                      have g0 := gr_I eS211 g0
                      have o_v0 := ob_I eS211 o_v0
                      exact hq _ hI g0 f0 hT
                · intro S212 eS212
                  have hI : IV S212 := by rw [eS212]; exact iv_sI hI o_v0 (by decide) (nu_free (by decide))
                  have f0 := fr_I eS212 g0 f0 o_v0 (by decide)
                  have d_x204 := rd_Ij eS212 (by decide) d_x204
                  have d_x203 := rd_Ij eS212 (by decide) d_x203
                  obtain ⟨y213, hy213⟩ : ∃ z : Int32, z = (6 : Int32) := ⟨_, rfl⟩
                  have d_y213 := rd_Is eS212 hy213
                  have hT := tx_I eS212 hT
                  have g0 := gr_I eS212 g0
                  have o_v0 := ob_I eS212 o_v0
                  refine u_X4_next_240 ?_
                  refine ⟨fun c214 => ?_, fun c214 => ?_⟩
                  · exact hq _ hI g0 f0 hT
                  · refine ⟨o_v0, ?_⟩
                    intro x215 ex215
                    have q_x215 : x215 = y213 := ex215.trans d_y213.symm
                    have d_x215 := ex215
                    refine ⟨fun c216 => ?_, fun c216 => ?_⟩
                    · exact hq _ hI g0 f0 hT
                    · intro x217 ex217
                      have q_x217 : x217 = x203 := ex217.trans d_x203.symm
                      have d_x217 := ex217
                      intro x218 ex218
                      intro S219 eS219
                      have hI : IV S219 := by rw [eS219]; exact iv_sI hI o_v0 (by decide) (nu_free (by decide))
                      have f0 := fr_I eS219 g0 f0 o_v0 (by decide)
                      have d_x204 := rd_Ij eS219 (by decide) d_x204
                      have d_x215 := rd_Ij eS219 (by decide) d_x215
                      have d_x218 := rd_Is eS219 (rfl : x218 = x218)
                      have hT := tx_I eS219 hT
                      have g0 := gr_I eS219 g0
                      have o_v0 := ob_I eS219 o_v0
                      exact hq _ hI g0 f0 hT
            · refine ⟨o_v0, ?_⟩
              intro x220 ex220
              have q_x220 : x220 = y169 := ex220.trans d_y169.symm
              have d_x220 := ex220
              refine m_X4_sortAt hI o_v0 hT (fun x221 S222 hI2 g223 p_x221 => ?_)
              obtain ⟨z_S222, p_x221⟩ := p_x221
              subst z_S222
              intro _
              intro x225 ex225
              have q_x225 : x225 = x25 := ex225.trans d_x25.symm
              have d_x225 := ex225
              refine ⟨fun c226 => ?_, fun c226 => ?_⟩
              · refine u_X4_next_217 ?_
                refine ⟨fun c227 => ?_, fun c227 => ?_⟩
                · refine u_X4_next_240 ?_
                  refine ⟨fun c228 => ?_, fun c228 => ?_⟩
                  · exact hq _ hI g0 f0 hT
                  · refine ⟨o_v0, ?_⟩
                    intro x229 ex229
                    have q_x229 : x229 = x225 := ex229.trans d_x225.symm
                    have d_x229 := ex229
                    refine ⟨fun c230 => ?_, fun c230 => ?_⟩
                    · exact hq _ hI g0 f0 hT
                    · intro x231 ex231
                      have q_x231 : x231 = x220 := ex231.trans d_x220.symm
                      have d_x231 := ex231
                      intro x232 ex232
                      intro S233 eS233
                      have hI : IV S233 := by rw [eS233]; exact iv_sI hI o_v0 (by decide) (nu_free (by decide))
                      have f0 := fr_I eS233 g0 f0 o_v0 (by decide)
                      have d_y13 := rd_Ij eS233 (by decide) d_y13
                      have d_x229 := rd_Ij eS233 (by decide) d_x229
                      have d_x232 := rd_Is eS233 (rfl : x232 = x232)
                      have hT := tx_I eS233 hT
                      have g0 := gr_I eS233 g0
                      have o_v0 := ob_I eS233 o_v0
                      exact hq _ hI g0 f0 hT
                · refine ⟨o_v0, ?_⟩
                  intro x234 ex234
                  have q_x234 : x234 = x220 := ex234.trans d_x220.symm
                  have d_x234 := ex234
                  intro x235 ex235
                  have q_x235 : x235 = y13 := ex235.trans d_y13.symm
                  have d_x235 := ex235
                  refine ⟨fun c236 => ?_, fun c236 => ?_⟩
                  · refine u_X4_next_240 ?_
                    refine ⟨fun c237 => ?_, fun c237 => ?_⟩
                    · exact hq _ hI g0 f0 hT
                    · refine ⟨o_v0, ?_⟩
                      intro x238 ex238
                      have q_x238 : x238 = x225 := ex238.trans d_x225.symm
                      have d_x238 := ex238
                      refine ⟨fun c239 => ?_, fun c239 => ?_⟩
                      · exact hq _ hI g0 f0 hT
                      · intro x240 ex240
                        have q_x240 : x240 = x234 := ex240.trans d_x234.symm
                        have d_x240 := ex240
                        intro x241 ex241
                        intro S242 eS242
                        have hI : IV S242 := by rw [eS242]; exact iv_sI hI o_v0 (by decide) (nu_free (by decide))
                        have f0 := fr_I eS242 g0 f0 o_v0 (by decide)
                        have d_x235 := rd_Ij eS242 (by decide) d_x235
                        have d_x238 := rd_Ij eS242 (by decide) d_x238
                        have d_x241 := rd_Is eS242 (rfl : x241 = x241)
                        have hT := tx_I eS242 hT
                        have g0 := gr_I eS242 g0
                        have o_v0 := ob_I eS242 o_v0
                        exact hq _ hI g0 f0 hT
                  · intro S243 eS243
                    have hI : IV S243 := by rw [eS243]; exact iv_sI hI o_v0 (by decide) (nu_free (by decide))
                    have f0 := fr_I eS243 g0 f0 o_v0 (by decide)
                    have d_x235 := rd_Ij eS243 (by decide) d_x235
                    have d_x234 := rd_Ij eS243 (by decide) d_x234
                    obtain ⟨y244, hy244⟩ : ∃ z : Int32, z = (6 : Int32) := ⟨_, rfl⟩
                    have d_y244 := rd_Is eS243 hy244
                    have hT := tx_I eS243 hT
                    have g0 := gr_I eS243 g0
                    have o_v0 := ob_I eS243 o_v0
                    refine u_X4_next_240 ?_
                    refine ⟨fun c245 => ?_, fun c245 => ?_⟩
                    · exact hq _ hI g0 f0 hT
                    · refine ⟨o_v0, ?_⟩
                      intro x246 ex246
                      have q_x246 : x246 = y244 := ex246.trans d_y244.symm
                      have d_x246 := ex246
                      refine ⟨fun c247 => ?_, fun c247 => ?_⟩
                      · exact hq _ hI g0 f0 hT
                      · intro x248 ex248
                        have q_x248 : x248 = x234 := ex248.trans d_x234.symm
                        have d_x248 := ex248
                        intro x249 ex249
                        intro S250 eS250
                        have hI : IV S250 := by rw [eS250]; exact iv_sI hI o_v0 (by decide) (nu_free (by decide))
                        have f0 := fr_I eS250 g0 f0 o_v0 (by decide)
                        have d_x235 := rd_Ij eS250 (by decide) d_x235
                        have d_x246 := rd_Ij eS250 (by decide) d_x246
                        have d_x249 := rd_Is eS250 (rfl : x249 = x249)
                        have hT := tx_I eS250 hT
                        have g0 := gr_I eS250 g0
                        have o_v0 := ob_I eS250 o_v0
                        exact hq _ hI g0 f0 hT
              · refine ⟨fun c251 => ?_, fun c251 => ?_⟩
                · refine u_X4_next_201 ?_
                  refine ⟨o_v0, ?_⟩
                  intro x252 ex252
                  have q_x252 : x252 = x220 := ex252.trans d_x220.symm
                  have d_x252 := ex252
                  intro x253 ex253
                  intro S254 eS254
                  have hI : IV S254 := by rw [eS254]; exact iv_sI hI o_v0 (by decide) (nu_free (by decide))
                  have f0 := fr_I eS254 g0 f0 o_v0 (by decide)
                  have fL157 := fr_I eS254 gL156 fL157 o_v0 (by decide)
                  have d_y13 := rd_Ij eS254 (by decide) d_y13
                  have d_x225 := rd_Ij eS254 (by decide) d_x225
                  have d_x253 := rd_Is eS254 (rfl : x253 = x253)
                  have hT := tx_I eS254 hT
                  have g0 := gr_I eS254 g0
                  have gL156 := gr_I eS254 gL156
                  have o_v0 := ob_I eS254 o_v0
                  intro x255 ex255
                  exact ih168 _ _ _ _ _ _ ⟨hI, gL156, fL157, rfl, rfl, rfl, rfl, hT, (q250 i1u1 c10 hy13 q_x14 p_x15 q_x21 c22 q_x23 c24 q_x25 c26 i1u154 p_k1u154 c195 q_x220 p_x221 q_x225 c226 c251 q_x252 ex253 ex255), (by rw [← d_x225, ← d_x253]; exact (q251 i1u1 c10 hy13 q_x14 p_x15 q_x21 c22 q_x23 c24 q_x25 c26 i1u154 p_k1u154 c195 q_x220 p_x221 q_x225 c226 c251 q_x252 ex253 ex255))⟩ (mu_up (q252 i1u1 c10 hy13 q_x14 p_x15 q_x21 c22 q_x23 c24 q_x25 c26 i1u154 p_k1u154 c195 q_x220 p_x221 q_x225 c226 c251 q_x252 ex253 ex255) (q253 i1u1 c10 hy13 q_x14 p_x15 q_x21 c22 q_x23 c24 q_x25 c26 i1u154 p_k1u154 c195 q_x220 p_x221 q_x225 c226 c251 q_x252 ex253 ex255))
                · intro x256 ex256
                  have q_x256 : x256 = x220 := ex256.trans d_x220.symm
                  have d_x256 := ex256
                  obtain ⟨a257, ea257, o_a257, l_a257⟩ := id hT
                  refine ⟨a257, ea257, ?_⟩
                  refine ⟨o_a257, ?_⟩
                  have n_a257 : nI (hN S155 a257) = 900 := by rw [show hN S155 a257 = 900 from l_a257]; decide
                  refine ⟨fun c258 => ?_, fun c258 => ?_⟩
                  · rw [n_a257] at c258
                    refine u_X4_next_201 ?_
                    refine ⟨o_v0, ?_⟩
                    intro x259 ex259
                    have q_x259 : x259 = x256 := ex259.trans d_x256.symm
                    have d_x259 := ex259
                    intro x260 ex260
                    intro S261 eS261
                    have hI : IV S261 := by rw [eS261]; exact iv_sI hI o_v0 (by decide) (nu_free (by decide))
                    have f0 := fr_I eS261 g0 f0 o_v0 (by decide)
                    have fL157 := fr_I eS261 gL156 fL157 o_v0 (by decide)
                    have d_y13 := rd_Ij eS261 (by decide) d_y13
                    have d_x225 := rd_Ij eS261 (by decide) d_x225
                    have d_x260 := rd_Is eS261 (rfl : x260 = x260)
                    have ea257 := rf_I eS261 ea257
                    have hT := tx_I eS261 hT
                    have l_a257 := ln_I eS261 l_a257
                    have g0 := gr_I eS261 g0
                    have gL156 := gr_I eS261 gL156
                    have o_a257 := ob_I eS261 o_a257
                    have o_v0 := ob_I eS261 o_v0
                    intro x262 ex262
                    exact ih168 _ _ _ _ _ _ ⟨hI, gL156, fL157, rfl, rfl, rfl, rfl, hT, (q254 i1u1 c10 hy13 q_x14 p_x15 q_x21 c22 q_x23 c24 q_x25 c26 i1u154 p_k1u154 c195 q_x220 p_x221 q_x225 c226 c251 q_x256 c258 q_x259 ex260 ex262), (by rw [← d_x225, ← d_x260]; exact (q255 i1u1 c10 hy13 q_x14 p_x15 q_x21 c22 q_x23 c24 q_x25 c26 i1u154 p_k1u154 c195 q_x220 p_x221 q_x225 c226 c251 q_x256 c258 q_x259 ex260 ex262))⟩ (mu_up (q256 i1u1 c10 hy13 q_x14 p_x15 q_x21 c22 q_x23 c24 q_x25 c26 i1u154 p_k1u154 c195 q_x220 p_x221 q_x225 c226 c251 q_x256 c258 q_x259 ex260 ex262) (q257 i1u1 c10 hy13 q_x14 p_x15 q_x21 c22 q_x23 c24 q_x25 c26 i1u154 p_k1u154 c195 q_x220 p_x221 q_x225 c226 c251 q_x256 c258 q_x259 ex260 ex262))
                  · rw [n_a257] at c258
                    intro x263 ex263
                    have dj_x263 := ex263
                    refine ⟨a257, ea257, ?_⟩
                    intro x265 ex265
                    have q_x265 : x265 = x256 := ex265.trans d_x256.symm
                    have d_x265 := ex265
                    refine ⟨o_a257, ?_⟩
                    refine ⟨(vin l_a257 (m := 900) (by decide) (q258 i1u1 c10 hy13 q_x14 p_x15 q_x21 c22 q_x23 c24 q_x25 c26 i1u154 p_k1u154 c195 q_x220 p_x221 q_x225 c226 c251 q_x256 c258 q_x265)), ?_⟩
                    intro x266 ex266
                    intro x267 ex267
                    have q_x267 : x267 = x225 := ex267.trans d_x225.symm
                    have d_x267 := ex267
                    refine ⟨fun c268 => ?_, fun c268 => ?_⟩
                    · refine u_X4_next_195 ?_
                      refine ⟨o_v0, ?_⟩
                      intro x269 ex269
                      intro S270 eS270
                      have hI : IV S270 := by rw [eS270]; exact iv_sJ hI o_v0 (by decide)
                      have f0 := fr_J eS270 f0
                      have fL157 := fr_J eS270 fL157
                      have d_y13 := rd_J eS270 d_y13
                      have d_x267 := rd_J eS270 d_x267
                      have d_x265 := rd_J eS270 d_x265
                      have ea257 := rf_J eS270 ea257
                      have hT := tx_J eS270 hT
                      have l_a257 := ln_J eS270 l_a257
                      have g0 := gr_J eS270 g0
                      have gL156 := gr_J eS270 gL156
                      have o_a257 := ob_J eS270 o_a257
                      have o_v0 := ob_J eS270 o_v0
                      refine u_X4_next_201 ?_
                      refine ⟨o_v0, ?_⟩
                      intro x271 ex271
                      have q_x271 : x271 = x265 := ex271.trans d_x265.symm
                      have d_x271 := ex271
                      intro x272 ex272
                      intro S273 eS273
                      have hI : IV S273 := by rw [eS273]; exact iv_sI hI o_v0 (by decide) (nu_free (by decide))
                      have f0 := fr_I eS273 g0 f0 o_v0 (by decide)
                      have fL157 := fr_I eS273 gL156 fL157 o_v0 (by decide)
                      have d_y13 := rd_Ij eS273 (by decide) d_y13
                      have d_x267 := rd_Ij eS273 (by decide) d_x267
                      have d_x272 := rd_Is eS273 (rfl : x272 = x272)
                      have ea257 := rf_I eS273 ea257
                      have hT := tx_I eS273 hT
                      have l_a257 := ln_I eS273 l_a257
                      have g0 := gr_I eS273 g0
                      have gL156 := gr_I eS273 gL156
                      have o_a257 := ob_I eS273 o_a257
                      have o_v0 := ob_I eS273 o_v0
                      intro x274 ex274
                      exact ih168 _ _ _ _ _ _ ⟨hI, gL156, fL157, rfl, rfl, rfl, rfl, hT, (q259 i1u1 c10 hy13 q_x14 p_x15 q_x21 c22 q_x23 c24 q_x25 c26 i1u154 p_k1u154 c195 q_x220 p_x221 q_x225 c226 c251 q_x256 c258 q_x265 q_x267 c268 q_x271 ex272 ex274), (by rw [← d_x267, ← d_x272]; exact (q260 i1u1 c10 hy13 q_x14 p_x15 q_x21 c22 q_x23 c24 q_x25 c26 i1u154 p_k1u154 c195 q_x220 p_x221 q_x225 c226 c251 q_x256 c258 q_x265 q_x267 c268 q_x271 ex272 ex274))⟩ (mu_up (q261 i1u1 c10 hy13 q_x14 p_x15 q_x21 c22 q_x23 c24 q_x25 c26 i1u154 p_k1u154 c195 q_x220 p_x221 q_x225 c226 c251 q_x256 c258 q_x265 q_x267 c268 q_x271 ex272 ex274) (q262 i1u1 c10 hy13 q_x14 p_x15 q_x21 c22 q_x23 c24 q_x25 c26 i1u154 p_k1u154 c195 q_x220 p_x221 q_x225 c226 c251 q_x256 c258 q_x265 q_x267 c268 q_x271 ex272 ex274))
                    · refine u_X4_next_195 ?_
                      refine ⟨o_v0, ?_⟩
                      intro x275 ex275
                      intro S276 eS276
                      have hI : IV S276 := by rw [eS276]; exact iv_sJ hI o_v0 (by decide)
                      have f0 := fr_J eS276 f0
                      have fL157 := fr_J eS276 fL157
                      have d_y13 := rd_J eS276 d_y13
                      have d_x267 := rd_J eS276 d_x267
                      have d_x265 := rd_J eS276 d_x265
                      have ea257 := rf_J eS276 ea257
                      have hT := tx_J eS276 hT
                      have l_a257 := ln_J eS276 l_a257
                      have g0 := gr_J eS276 g0
                      have gL156 := gr_J eS276 gL156
                      have o_a257 := ob_J eS276 o_a257
                      have o_v0 := ob_J eS276 o_v0
                      refine u_X4_next_201 ?_
                      refine ⟨o_v0, ?_⟩
                      intro x277 ex277
                      have q_x277 : x277 = x265 := ex277.trans d_x265.symm
                      have d_x277 := ex277
                      intro x278 ex278
                      intro S279 eS279
                      have hI : IV S279 := by rw [eS279]; exact iv_sI hI o_v0 (by decide) (nu_free (by decide))
                      have f0 := fr_I eS279 g0 f0 o_v0 (by decide)
                      have fL157 := fr_I eS279 gL156 fL157 o_v0 (by decide)
                      have d_y13 := rd_Ij eS279 (by decide) d_y13
                      have d_x267 := rd_Ij eS279 (by decide) d_x267
                      have d_x278 := rd_Is eS279 (rfl : x278 = x278)
                      have ea257 := rf_I eS279 ea257
                      have hT := tx_I eS279 hT
                      have l_a257 := ln_I eS279 l_a257
                      have g0 := gr_I eS279 g0
                      have gL156 := gr_I eS279 gL156
                      have o_a257 := ob_I eS279 o_a257
                      have o_v0 := ob_I eS279 o_v0
                      intro x280 ex280
                      exact ih168 _ _ _ _ _ _ ⟨hI, gL156, fL157, rfl, rfl, rfl, rfl, hT, (q263 i1u1 c10 hy13 q_x14 p_x15 q_x21 c22 q_x23 c24 q_x25 c26 i1u154 p_k1u154 c195 q_x220 p_x221 q_x225 c226 c251 q_x256 c258 q_x265 q_x267 c268 q_x277 ex278 ex280), (by rw [← d_x267, ← d_x278]; exact (q264 i1u1 c10 hy13 q_x14 p_x15 q_x21 c22 q_x23 c24 q_x25 c26 i1u154 p_k1u154 c195 q_x220 p_x221 q_x225 c226 c251 q_x256 c258 q_x265 q_x267 c268 q_x277 ex278 ex280))⟩ (mu_up (q265 i1u1 c10 hy13 q_x14 p_x15 q_x21 c22 q_x23 c24 q_x25 c26 i1u154 p_k1u154 c195 q_x220 p_x221 q_x225 c226 c251 q_x256 c258 q_x265 q_x267 c268 q_x277 ex278 ex280) (q266 i1u1 c10 hy13 q_x14 p_x15 q_x21 c22 q_x23 c24 q_x25 c26 i1u154 p_k1u154 c195 q_x220 p_x221 q_x225 c226 c251 q_x256 c258 q_x265 q_x267 c268 q_x277 ex278 ex280))
      · refine u_X4_next_98 ?_
        refine ⟨o_v0, ?_⟩
        intro x281 ex281
        have q_x281 : x281 = x23 := ex281.trans d_x23.symm
        have d_x281 := ex281
        refine ⟨fun c282 => ?_, fun c282 => ?_⟩
        · refine u_X4_next_114 ?_
          refine i_X4_next_118 (fun (y0 : Nat) (y1 : Int32) (y2 : Int32) (y3 : Int32) (y4 : Int32) (Z : HS) => ((2147483647 : Int32).toInt - y4.toInt).toNat) (fun (y0 : Nat) (y1 : Int32) (y2 : Int32) (y3 : Int32) (y4 : Int32) (Z : HS) => (IV Z) ∧ (Gr S20 Z) ∧ (FRI [(4, 4)] [] S20 Z) ∧ (v0 = y0) ∧ ((1 : Int32) = y1) ∧ ((8 : Int32) = y2) ∧ ((10 : Int32) = y3) ∧ (TX Z v0) ∧ (0 ≤ y4) ∧ ((y1 = 0 ∨ fI Z v0 6 = 1 ∨ fI Z v0 6 = 2) ∧ (y1 = 0 → fI Z v0 6 = 0 ∨ (0 ≤ fI Z v0 4 ∧ fI Z v0 4 < 900)))) ?_ _ _ _ _ _ _ ⟨hI, (gr_rf _), (fri_rf _ _ _), rfl, rfl, rfl, rfl, hT, (q267 i1u1 c10 hy13 q_x14 p_x15 q_x21 c22 q_x23 c24 q_x281 c282), (by rw [← d_x281, ← d_x14]; exact (q268 i1u1 c10 hy13 q_x14 p_x15 q_x21 c22 q_x23 c24 q_x281 c282))⟩
          intro w287 w289 w291 w293 w295 S284 X296 ⟨hI, gL285, fL286, q288, q290, q292, q294, hT, i1u283, k1u283⟩ ih297
          subst q288
          subst q290
          subst q292
          subst q294
          have d_y13 := d_y13.trans (fri_at fL286 (by decide) (by decide) o_v0).symm
          have d_x281 := d_x281.trans (fri_at fL286 (by decide) (by decide) o_v0).symm
          have f0 := fri_tr (S := S20) g0 f0 fL286 (by decide) (by decide)
          have o_v0 := gr_ob gL285 o_v0
          have g0 := gr_tr (T := S20) g0 gL285
          obtain ⟨y298, d_y298⟩ : ∃ z : Int32, z = fI S284 v0 4 := ⟨_, rfl⟩
          have p_k1u283 : ((1 : Int32) = 0 ∨ x281 = 1 ∨ x281 = 2) ∧ ((1 : Int32) = 0 → x281 = 0 ∨ (0 ≤ y298 ∧ y298 < 900)) := by rw [d_x281, d_y298]; exact k1u283
          refine u_X4_next_118 ?_
          refine ⟨fun c299 => ?_, fun c299 => ?_⟩
          · refine u_X4_next_217 ?_
            refine ⟨fun c300 => ?_, fun c300 => ?_⟩
            · refine u_X4_next_240 ?_
              refine ⟨fun c301 => ?_, fun c301 => ?_⟩
              · exact hq _ hI g0 f0 hT
              · refine ⟨o_v0, ?_⟩
                intro x302 ex302
                have q_x302 : x302 = x281 := ex302.trans d_x281.symm
                have d_x302 := ex302
                refine ⟨fun c303 => ?_, fun c303 => ?_⟩
                · exact hq _ hI g0 f0 hT
                · intro x304 ex304
                  have q_x304 : x304 = y298 := ex304.trans d_y298.symm
                  have d_x304 := ex304
                  intro x305 ex305
                  intro S306 eS306
                  have hI : IV S306 := by rw [eS306]; exact iv_sI hI o_v0 (by decide) (nu_free (by decide))
                  have f0 := fr_I eS306 g0 f0 o_v0 (by decide)
                  have d_y13 := rd_Ij eS306 (by decide) d_y13
                  have d_x302 := rd_Ij eS306 (by decide) d_x302
                  have d_x305 := rd_Is eS306 (rfl : x305 = x305)
                  have hT := tx_I eS306 hT
                  have g0 := gr_I eS306 g0
                  have o_v0 := ob_I eS306 o_v0
                  exact hq _ hI g0 f0 hT
            · refine ⟨o_v0, ?_⟩
              intro x307 ex307
              have q_x307 : x307 = y298 := ex307.trans d_y298.symm
              have d_x307 := ex307
              intro x308 ex308
              have q_x308 : x308 = y13 := ex308.trans d_y13.symm
              have d_x308 := ex308
              refine ⟨fun c309 => ?_, fun c309 => ?_⟩
              · refine u_X4_next_240 ?_
                refine ⟨fun c310 => ?_, fun c310 => ?_⟩
                · exact hq _ hI g0 f0 hT
                · refine ⟨o_v0, ?_⟩
                  intro x311 ex311
                  have q_x311 : x311 = x281 := ex311.trans d_x281.symm
                  have d_x311 := ex311
                  refine ⟨fun c312 => ?_, fun c312 => ?_⟩
                  · exact hq _ hI g0 f0 hT
                  · intro x313 ex313
                    have q_x313 : x313 = x307 := ex313.trans d_x307.symm
                    have d_x313 := ex313
                    intro x314 ex314
                    intro S315 eS315
                    have hI : IV S315 := by rw [eS315]; exact iv_sI hI o_v0 (by decide) (nu_free (by decide))
                    have f0 := fr_I eS315 g0 f0 o_v0 (by decide)
                    have d_x308 := rd_Ij eS315 (by decide) d_x308
                    have d_x311 := rd_Ij eS315 (by decide) d_x311
                    have d_x314 := rd_Is eS315 (rfl : x314 = x314)
                    have hT := tx_I eS315 hT
                    have g0 := gr_I eS315 g0
                    have o_v0 := ob_I eS315 o_v0
                    exact hq _ hI g0 f0 hT
              · intro S316 eS316
                have hI : IV S316 := by rw [eS316]; exact iv_sI hI o_v0 (by decide) (nu_free (by decide))
                have f0 := fr_I eS316 g0 f0 o_v0 (by decide)
                have d_x308 := rd_Ij eS316 (by decide) d_x308
                have d_x307 := rd_Ij eS316 (by decide) d_x307
                obtain ⟨y317, hy317⟩ : ∃ z : Int32, z = (6 : Int32) := ⟨_, rfl⟩
                have d_y317 := rd_Is eS316 hy317
                have hT := tx_I eS316 hT
                have g0 := gr_I eS316 g0
                have o_v0 := ob_I eS316 o_v0
                refine u_X4_next_240 ?_
                refine ⟨fun c318 => ?_, fun c318 => ?_⟩
                · exact hq _ hI g0 f0 hT
                · refine ⟨o_v0, ?_⟩
                  intro x319 ex319
                  have q_x319 : x319 = y317 := ex319.trans d_y317.symm
                  have d_x319 := ex319
                  refine ⟨fun c320 => ?_, fun c320 => ?_⟩
                  · exact hq _ hI g0 f0 hT
                  · intro x321 ex321
                    have q_x321 : x321 = x307 := ex321.trans d_x307.symm
                    have d_x321 := ex321
                    intro x322 ex322
                    intro S323 eS323
                    have hI : IV S323 := by rw [eS323]; exact iv_sI hI o_v0 (by decide) (nu_free (by decide))
                    have f0 := fr_I eS323 g0 f0 o_v0 (by decide)
                    have d_x308 := rd_Ij eS323 (by decide) d_x308
                    have d_x319 := rd_Ij eS323 (by decide) d_x319
                    have d_x322 := rd_Is eS323 (rfl : x322 = x322)
                    have hT := tx_I eS323 hT
                    have g0 := gr_I eS323 g0
                    have o_v0 := ob_I eS323 o_v0
                    exact hq _ hI g0 f0 hT
          · refine ⟨fun c324 => ?_, fun c324 => ?_⟩
            · refine u_X4_next_217 ?_
              refine ⟨fun c325 => ?_, fun c325 => ?_⟩
              · refine u_X4_next_240 ?_
                refine ⟨fun c326 => ?_, fun c326 => ?_⟩
                · exact hq _ hI g0 f0 hT
                · refine ⟨o_v0, ?_⟩
                  intro x327 ex327
                  have q_x327 : x327 = x281 := ex327.trans d_x281.symm
                  have d_x327 := ex327
                  refine ⟨fun c328 => ?_, fun c328 => ?_⟩
                  · exact hq _ hI g0 f0 hT
                  · intro x329 ex329
                    have q_x329 : x329 = y298 := ex329.trans d_y298.symm
                    have d_x329 := ex329
                    intro x330 ex330
                    intro S331 eS331
                    have hI : IV S331 := by rw [eS331]; exact iv_sI hI o_v0 (by decide) (nu_free (by decide))
                    have f0 := fr_I eS331 g0 f0 o_v0 (by decide)
                    have d_y13 := rd_Ij eS331 (by decide) d_y13
                    have d_x327 := rd_Ij eS331 (by decide) d_x327
                    have d_x330 := rd_Is eS331 (rfl : x330 = x330)
                    have hT := tx_I eS331 hT
                    have g0 := gr_I eS331 g0
                    have o_v0 := ob_I eS331 o_v0
                    exact hq _ hI g0 f0 hT
              · refine ⟨o_v0, ?_⟩
                intro x332 ex332
                have q_x332 : x332 = y298 := ex332.trans d_y298.symm
                have d_x332 := ex332
                intro x333 ex333
                have q_x333 : x333 = y13 := ex333.trans d_y13.symm
                have d_x333 := ex333
                refine ⟨fun c334 => ?_, fun c334 => ?_⟩
                · refine u_X4_next_240 ?_
                  refine ⟨fun c335 => ?_, fun c335 => ?_⟩
                  · exact hq _ hI g0 f0 hT
                  · refine ⟨o_v0, ?_⟩
                    intro x336 ex336
                    have q_x336 : x336 = x281 := ex336.trans d_x281.symm
                    have d_x336 := ex336
                    refine ⟨fun c337 => ?_, fun c337 => ?_⟩
                    · exact hq _ hI g0 f0 hT
                    · intro x338 ex338
                      have q_x338 : x338 = x332 := ex338.trans d_x332.symm
                      have d_x338 := ex338
                      intro x339 ex339
                      intro S340 eS340
                      have hI : IV S340 := by rw [eS340]; exact iv_sI hI o_v0 (by decide) (nu_free (by decide))
                      have f0 := fr_I eS340 g0 f0 o_v0 (by decide)
                      have d_x333 := rd_Ij eS340 (by decide) d_x333
                      have d_x336 := rd_Ij eS340 (by decide) d_x336
                      have d_x339 := rd_Is eS340 (rfl : x339 = x339)
                      have hT := tx_I eS340 hT
                      have g0 := gr_I eS340 g0
                      have o_v0 := ob_I eS340 o_v0
                      exact hq _ hI g0 f0 hT
                · intro S341 eS341
                  have hI : IV S341 := by rw [eS341]; exact iv_sI hI o_v0 (by decide) (nu_free (by decide))
                  have f0 := fr_I eS341 g0 f0 o_v0 (by decide)
                  have d_x333 := rd_Ij eS341 (by decide) d_x333
                  have d_x332 := rd_Ij eS341 (by decide) d_x332
                  obtain ⟨y342, hy342⟩ : ∃ z : Int32, z = (6 : Int32) := ⟨_, rfl⟩
                  have d_y342 := rd_Is eS341 hy342
                  have hT := tx_I eS341 hT
                  have g0 := gr_I eS341 g0
                  have o_v0 := ob_I eS341 o_v0
                  refine u_X4_next_240 ?_
                  refine ⟨fun c343 => ?_, fun c343 => ?_⟩
                  · exact hq _ hI g0 f0 hT
                  · refine ⟨o_v0, ?_⟩
                    intro x344 ex344
                    have q_x344 : x344 = y342 := ex344.trans d_y342.symm
                    have d_x344 := ex344
                    refine ⟨fun c345 => ?_, fun c345 => ?_⟩
                    · exact hq _ hI g0 f0 hT
                    · intro x346 ex346
                      have q_x346 : x346 = x332 := ex346.trans d_x332.symm
                      have d_x346 := ex346
                      intro x347 ex347
                      intro S348 eS348
                      have hI : IV S348 := by rw [eS348]; exact iv_sI hI o_v0 (by decide) (nu_free (by decide))
                      have f0 := fr_I eS348 g0 f0 o_v0 (by decide)
                      have d_x333 := rd_Ij eS348 (by decide) d_x333
                      have d_x344 := rd_Ij eS348 (by decide) d_x344
                      have d_x347 := rd_Is eS348 (rfl : x347 = x347)
                      have hT := tx_I eS348 hT
                      have g0 := gr_I eS348 g0
                      have o_v0 := ob_I eS348 o_v0
                      exact hq _ hI g0 f0 hT
            · refine ⟨o_v0, ?_⟩
              intro x349 ex349
              have q_x349 : x349 = y298 := ex349.trans d_y298.symm
              have d_x349 := ex349
              refine m_X4_sortAt hI o_v0 hT (fun x350 S351 hI2 g352 p_x350 => ?_)
              obtain ⟨z_S351, p_x350⟩ := p_x350
              subst z_S351
              intro _
              intro x354 ex354
              have q_x354 : x354 = x281 := ex354.trans d_x281.symm
              have d_x354 := ex354
              refine ⟨fun c355 => ?_, fun c355 => ?_⟩
              · refine u_X4_next_217 ?_
                refine ⟨fun c356 => ?_, fun c356 => ?_⟩
                · refine u_X4_next_240 ?_
                  refine ⟨fun c357 => ?_, fun c357 => ?_⟩
                  · exact hq _ hI g0 f0 hT
                  · refine ⟨o_v0, ?_⟩
                    intro x358 ex358
                    have q_x358 : x358 = x354 := ex358.trans d_x354.symm
                    have d_x358 := ex358
                    refine ⟨fun c359 => ?_, fun c359 => ?_⟩
                    · exact hq _ hI g0 f0 hT
                    · intro x360 ex360
                      have q_x360 : x360 = x349 := ex360.trans d_x349.symm
                      have d_x360 := ex360
                      intro x361 ex361
                      intro S362 eS362
                      have hI : IV S362 := by rw [eS362]; exact iv_sI hI o_v0 (by decide) (nu_free (by decide))
                      have f0 := fr_I eS362 g0 f0 o_v0 (by decide)
                      have d_y13 := rd_Ij eS362 (by decide) d_y13
                      have d_x358 := rd_Ij eS362 (by decide) d_x358
                      have d_x361 := rd_Is eS362 (rfl : x361 = x361)
                      have hT := tx_I eS362 hT
                      have g0 := gr_I eS362 g0
                      have o_v0 := ob_I eS362 o_v0
                      exact hq _ hI g0 f0 hT
                · refine ⟨o_v0, ?_⟩
                  intro x363 ex363
                  have q_x363 : x363 = x349 := ex363.trans d_x349.symm
                  have d_x363 := ex363
                  intro x364 ex364
                  have q_x364 : x364 = y13 := ex364.trans d_y13.symm
                  have d_x364 := ex364
                  refine ⟨fun c365 => ?_, fun c365 => ?_⟩
                  · refine u_X4_next_240 ?_
                    refine ⟨fun c366 => ?_, fun c366 => ?_⟩
                    · exact hq _ hI g0 f0 hT
                    · refine ⟨o_v0, ?_⟩
                      intro x367 ex367
                      have q_x367 : x367 = x354 := ex367.trans d_x354.symm
                      have d_x367 := ex367
                      refine ⟨fun c368 => ?_, fun c368 => ?_⟩
                      · exact hq _ hI g0 f0 hT
                      · intro x369 ex369
                        have q_x369 : x369 = x363 := ex369.trans d_x363.symm
                        have d_x369 := ex369
                        intro x370 ex370
                        intro S371 eS371
                        have hI : IV S371 := by rw [eS371]; exact iv_sI hI o_v0 (by decide) (nu_free (by decide))
                        have f0 := fr_I eS371 g0 f0 o_v0 (by decide)
                        have d_x364 := rd_Ij eS371 (by decide) d_x364
                        have d_x367 := rd_Ij eS371 (by decide) d_x367
                        have d_x370 := rd_Is eS371 (rfl : x370 = x370)
                        have hT := tx_I eS371 hT
                        have g0 := gr_I eS371 g0
                        have o_v0 := ob_I eS371 o_v0
                        exact hq _ hI g0 f0 hT
                  · intro S372 eS372
                    have hI : IV S372 := by rw [eS372]; exact iv_sI hI o_v0 (by decide) (nu_free (by decide))
                    have f0 := fr_I eS372 g0 f0 o_v0 (by decide)
                    have d_x364 := rd_Ij eS372 (by decide) d_x364
                    have d_x363 := rd_Ij eS372 (by decide) d_x363
                    obtain ⟨y373, hy373⟩ : ∃ z : Int32, z = (6 : Int32) := ⟨_, rfl⟩
                    have d_y373 := rd_Is eS372 hy373
                    have hT := tx_I eS372 hT
                    have g0 := gr_I eS372 g0
                    have o_v0 := ob_I eS372 o_v0
                    refine u_X4_next_240 ?_
                    refine ⟨fun c374 => ?_, fun c374 => ?_⟩
                    · exact hq _ hI g0 f0 hT
                    · refine ⟨o_v0, ?_⟩
                      intro x375 ex375
                      have q_x375 : x375 = y373 := ex375.trans d_y373.symm
                      have d_x375 := ex375
                      refine ⟨fun c376 => ?_, fun c376 => ?_⟩
                      · exact hq _ hI g0 f0 hT
                      · intro x377 ex377
                        have q_x377 : x377 = x363 := ex377.trans d_x363.symm
                        have d_x377 := ex377
                        intro x378 ex378
                        intro S379 eS379
                        have hI : IV S379 := by rw [eS379]; exact iv_sI hI o_v0 (by decide) (nu_free (by decide))
                        have f0 := fr_I eS379 g0 f0 o_v0 (by decide)
                        have d_x364 := rd_Ij eS379 (by decide) d_x364
                        have d_x375 := rd_Ij eS379 (by decide) d_x375
                        have d_x378 := rd_Is eS379 (rfl : x378 = x378)
                        have hT := tx_I eS379 hT
                        have g0 := gr_I eS379 g0
                        have o_v0 := ob_I eS379 o_v0
                        exact hq _ hI g0 f0 hT
              · refine ⟨fun c380 => ?_, fun c380 => ?_⟩
                · refine u_X4_next_201 ?_
                  refine ⟨o_v0, ?_⟩
                  intro x381 ex381
                  have q_x381 : x381 = x349 := ex381.trans d_x349.symm
                  have d_x381 := ex381
                  intro x382 ex382
                  intro S383 eS383
                  have hI : IV S383 := by rw [eS383]; exact iv_sI hI o_v0 (by decide) (nu_free (by decide))
                  have f0 := fr_I eS383 g0 f0 o_v0 (by decide)
                  have fL286 := fr_I eS383 gL285 fL286 o_v0 (by decide)
                  have d_y13 := rd_Ij eS383 (by decide) d_y13
                  have d_x354 := rd_Ij eS383 (by decide) d_x354
                  have d_x382 := rd_Is eS383 (rfl : x382 = x382)
                  have hT := tx_I eS383 hT
                  have g0 := gr_I eS383 g0
                  have gL285 := gr_I eS383 gL285
                  have o_v0 := ob_I eS383 o_v0
                  intro x384 ex384
                  exact ih297 _ _ _ _ _ _ ⟨hI, gL285, fL286, rfl, rfl, rfl, rfl, hT, (q269 i1u1 c10 hy13 q_x14 p_x15 q_x21 c22 q_x23 c24 q_x281 c282 i1u283 p_k1u283 c324 q_x349 p_x350 q_x354 c355 c380 q_x381 ex382 ex384), (by rw [← d_x354, ← d_x382]; exact (q270 i1u1 c10 hy13 q_x14 p_x15 q_x21 c22 q_x23 c24 q_x281 c282 i1u283 p_k1u283 c324 q_x349 p_x350 q_x354 c355 c380 q_x381 ex382 ex384))⟩ (mu_up (q271 i1u1 c10 hy13 q_x14 p_x15 q_x21 c22 q_x23 c24 q_x281 c282 i1u283 p_k1u283 c324 q_x349 p_x350 q_x354 c355 c380 q_x381 ex382 ex384) (q272 i1u1 c10 hy13 q_x14 p_x15 q_x21 c22 q_x23 c24 q_x281 c282 i1u283 p_k1u283 c324 q_x349 p_x350 q_x354 c355 c380 q_x381 ex382 ex384))
                · intro x385 ex385
                  have q_x385 : x385 = x349 := ex385.trans d_x349.symm
                  have d_x385 := ex385
                  obtain ⟨a386, ea386, o_a386, l_a386⟩ := id hT
                  refine ⟨a386, ea386, ?_⟩
                  refine ⟨o_a386, ?_⟩
                  have n_a386 : nI (hN S284 a386) = 900 := by rw [show hN S284 a386 = 900 from l_a386]; decide
                  refine ⟨fun c387 => ?_, fun c387 => ?_⟩
                  · rw [n_a386] at c387
                    refine u_X4_next_201 ?_
                    refine ⟨o_v0, ?_⟩
                    intro x388 ex388
                    have q_x388 : x388 = x385 := ex388.trans d_x385.symm
                    have d_x388 := ex388
                    intro x389 ex389
                    intro S390 eS390
                    have hI : IV S390 := by rw [eS390]; exact iv_sI hI o_v0 (by decide) (nu_free (by decide))
                    have f0 := fr_I eS390 g0 f0 o_v0 (by decide)
                    have fL286 := fr_I eS390 gL285 fL286 o_v0 (by decide)
                    have d_y13 := rd_Ij eS390 (by decide) d_y13
                    have d_x354 := rd_Ij eS390 (by decide) d_x354
                    have d_x389 := rd_Is eS390 (rfl : x389 = x389)
                    have ea386 := rf_I eS390 ea386
                    have hT := tx_I eS390 hT
                    have l_a386 := ln_I eS390 l_a386
                    have g0 := gr_I eS390 g0
                    have gL285 := gr_I eS390 gL285
                    have o_a386 := ob_I eS390 o_a386
                    have o_v0 := ob_I eS390 o_v0
                    intro x391 ex391
                    exact ih297 _ _ _ _ _ _ ⟨hI, gL285, fL286, rfl, rfl, rfl, rfl, hT, (q273 i1u1 c10 hy13 q_x14 p_x15 q_x21 c22 q_x23 c24 q_x281 c282 i1u283 p_k1u283 c324 q_x349 p_x350 q_x354 c355 c380 q_x385 c387 q_x388 ex389 ex391), (by rw [← d_x354, ← d_x389]; exact (q274 i1u1 c10 hy13 q_x14 p_x15 q_x21 c22 q_x23 c24 q_x281 c282 i1u283 p_k1u283 c324 q_x349 p_x350 q_x354 c355 c380 q_x385 c387 q_x388 ex389 ex391))⟩ (mu_up (q275 i1u1 c10 hy13 q_x14 p_x15 q_x21 c22 q_x23 c24 q_x281 c282 i1u283 p_k1u283 c324 q_x349 p_x350 q_x354 c355 c380 q_x385 c387 q_x388 ex389 ex391) (q276 i1u1 c10 hy13 q_x14 p_x15 q_x21 c22 q_x23 c24 q_x281 c282 i1u283 p_k1u283 c324 q_x349 p_x350 q_x354 c355 c380 q_x385 c387 q_x388 ex389 ex391))
                  · rw [n_a386] at c387
                    intro x392 ex392
                    have dj_x392 := ex392
                    refine ⟨a386, ea386, ?_⟩
                    intro x394 ex394
                    have q_x394 : x394 = x385 := ex394.trans d_x385.symm
                    have d_x394 := ex394
                    refine ⟨o_a386, ?_⟩
                    refine ⟨(vin l_a386 (m := 900) (by decide) (q277 i1u1 c10 hy13 q_x14 p_x15 q_x21 c22 q_x23 c24 q_x281 c282 i1u283 p_k1u283 c324 q_x349 p_x350 q_x354 c355 c380 q_x385 c387 q_x394)), ?_⟩
                    intro x395 ex395
                    intro x396 ex396
                    have q_x396 : x396 = x354 := ex396.trans d_x354.symm
                    have d_x396 := ex396
                    refine ⟨fun c397 => ?_, fun c397 => ?_⟩
                    · refine u_X4_next_195 ?_
                      refine ⟨o_v0, ?_⟩
                      intro x398 ex398
                      intro S399 eS399
                      have hI : IV S399 := by rw [eS399]; exact iv_sJ hI o_v0 (by decide)
                      have f0 := fr_J eS399 f0
                      have fL286 := fr_J eS399 fL286
                      have d_y13 := rd_J eS399 d_y13
                      have d_x396 := rd_J eS399 d_x396
                      have d_x394 := rd_J eS399 d_x394
                      have ea386 := rf_J eS399 ea386
                      have hT := tx_J eS399 hT
                      have l_a386 := ln_J eS399 l_a386
                      have g0 := gr_J eS399 g0
                      have gL285 := gr_J eS399 gL285
                      have o_a386 := ob_J eS399 o_a386
                      have o_v0 := ob_J eS399 o_v0
                      refine u_X4_next_201 ?_
                      refine ⟨o_v0, ?_⟩
                      intro x400 ex400
                      have q_x400 : x400 = x394 := ex400.trans d_x394.symm
                      have d_x400 := ex400
                      intro x401 ex401
                      intro S402 eS402
                      have hI : IV S402 := by rw [eS402]; exact iv_sI hI o_v0 (by decide) (nu_free (by decide))
                      have f0 := fr_I eS402 g0 f0 o_v0 (by decide)
                      have fL286 := fr_I eS402 gL285 fL286 o_v0 (by decide)
                      have d_y13 := rd_Ij eS402 (by decide) d_y13
                      have d_x396 := rd_Ij eS402 (by decide) d_x396
                      have d_x401 := rd_Is eS402 (rfl : x401 = x401)
                      have ea386 := rf_I eS402 ea386
                      have hT := tx_I eS402 hT
                      have l_a386 := ln_I eS402 l_a386
                      have g0 := gr_I eS402 g0
                      have gL285 := gr_I eS402 gL285
                      have o_a386 := ob_I eS402 o_a386
                      have o_v0 := ob_I eS402 o_v0
                      intro x403 ex403
                      exact ih297 _ _ _ _ _ _ ⟨hI, gL285, fL286, rfl, rfl, rfl, rfl, hT, (q278 i1u1 c10 hy13 q_x14 p_x15 q_x21 c22 q_x23 c24 q_x281 c282 i1u283 p_k1u283 c324 q_x349 p_x350 q_x354 c355 c380 q_x385 c387 q_x394 q_x396 c397 q_x400 ex401 ex403), (by rw [← d_x396, ← d_x401]; exact (q279 i1u1 c10 hy13 q_x14 p_x15 q_x21 c22 q_x23 c24 q_x281 c282 i1u283 p_k1u283 c324 q_x349 p_x350 q_x354 c355 c380 q_x385 c387 q_x394 q_x396 c397 q_x400 ex401 ex403))⟩ (mu_up (q280 i1u1 c10 hy13 q_x14 p_x15 q_x21 c22 q_x23 c24 q_x281 c282 i1u283 p_k1u283 c324 q_x349 p_x350 q_x354 c355 c380 q_x385 c387 q_x394 q_x396 c397 q_x400 ex401 ex403) (q281 i1u1 c10 hy13 q_x14 p_x15 q_x21 c22 q_x23 c24 q_x281 c282 i1u283 p_k1u283 c324 q_x349 p_x350 q_x354 c355 c380 q_x385 c387 q_x394 q_x396 c397 q_x400 ex401 ex403))
                    · refine u_X4_next_195 ?_
                      refine ⟨o_v0, ?_⟩
                      intro x404 ex404
                      intro S405 eS405
                      have hI : IV S405 := by rw [eS405]; exact iv_sJ hI o_v0 (by decide)
                      have f0 := fr_J eS405 f0
                      have fL286 := fr_J eS405 fL286
                      have d_y13 := rd_J eS405 d_y13
                      have d_x396 := rd_J eS405 d_x396
                      have d_x394 := rd_J eS405 d_x394
                      have ea386 := rf_J eS405 ea386
                      have hT := tx_J eS405 hT
                      have l_a386 := ln_J eS405 l_a386
                      have g0 := gr_J eS405 g0
                      have gL285 := gr_J eS405 gL285
                      have o_a386 := ob_J eS405 o_a386
                      have o_v0 := ob_J eS405 o_v0
                      refine u_X4_next_201 ?_
                      refine ⟨o_v0, ?_⟩
                      intro x406 ex406
                      have q_x406 : x406 = x394 := ex406.trans d_x394.symm
                      have d_x406 := ex406
                      intro x407 ex407
                      intro S408 eS408
                      have hI : IV S408 := by rw [eS408]; exact iv_sI hI o_v0 (by decide) (nu_free (by decide))
                      have f0 := fr_I eS408 g0 f0 o_v0 (by decide)
                      have fL286 := fr_I eS408 gL285 fL286 o_v0 (by decide)
                      have d_y13 := rd_Ij eS408 (by decide) d_y13
                      have d_x396 := rd_Ij eS408 (by decide) d_x396
                      have d_x407 := rd_Is eS408 (rfl : x407 = x407)
                      have ea386 := rf_I eS408 ea386
                      have hT := tx_I eS408 hT
                      have l_a386 := ln_I eS408 l_a386
                      have g0 := gr_I eS408 g0
                      have gL285 := gr_I eS408 gL285
                      have o_a386 := ob_I eS408 o_a386
                      have o_v0 := ob_I eS408 o_v0
                      intro x409 ex409
                      exact ih297 _ _ _ _ _ _ ⟨hI, gL285, fL286, rfl, rfl, rfl, rfl, hT, (q282 i1u1 c10 hy13 q_x14 p_x15 q_x21 c22 q_x23 c24 q_x281 c282 i1u283 p_k1u283 c324 q_x349 p_x350 q_x354 c355 c380 q_x385 c387 q_x394 q_x396 c397 q_x406 ex407 ex409), (by rw [← d_x396, ← d_x407]; exact (q283 i1u1 c10 hy13 q_x14 p_x15 q_x21 c22 q_x23 c24 q_x281 c282 i1u283 p_k1u283 c324 q_x349 p_x350 q_x354 c355 c380 q_x385 c387 q_x394 q_x396 c397 q_x406 ex407 ex409))⟩ (mu_up (q284 i1u1 c10 hy13 q_x14 p_x15 q_x21 c22 q_x23 c24 q_x281 c282 i1u283 p_k1u283 c324 q_x349 p_x350 q_x354 c355 c380 q_x385 c387 q_x394 q_x396 c397 q_x406 ex407 ex409) (q285 i1u1 c10 hy13 q_x14 p_x15 q_x21 c22 q_x23 c24 q_x281 c282 i1u283 p_k1u283 c324 q_x349 p_x350 q_x354 c355 c380 q_x385 c387 q_x394 q_x396 c397 q_x406 ex407 ex409))
        · refine u_X4_next_114 ?_
          refine i_X4_next_118 (fun (y0 : Nat) (y1 : Int32) (y2 : Int32) (y3 : Int32) (y4 : Int32) (Z : HS) => ((2147483647 : Int32).toInt - y4.toInt).toNat) (fun (y0 : Nat) (y1 : Int32) (y2 : Int32) (y3 : Int32) (y4 : Int32) (Z : HS) => (IV Z) ∧ (Gr S20 Z) ∧ (FRI [(4, 4)] [] S20 Z) ∧ (v0 = y0) ∧ ((1 : Int32) = y1) ∧ ((8 : Int32) = y2) ∧ ((32 : Int32) = y3) ∧ (TX Z v0) ∧ (0 ≤ y4) ∧ ((y1 = 0 ∨ fI Z v0 6 = 1 ∨ fI Z v0 6 = 2) ∧ (y1 = 0 → fI Z v0 6 = 0 ∨ (0 ≤ fI Z v0 4 ∧ fI Z v0 4 < 900)))) ?_ _ _ _ _ _ _ ⟨hI, (gr_rf _), (fri_rf _ _ _), rfl, rfl, rfl, rfl, hT, (q286 i1u1 c10 hy13 q_x14 p_x15 q_x21 c22 q_x23 c24 q_x281 c282), (by rw [← d_x281, ← d_x14]; exact (q287 i1u1 c10 hy13 q_x14 p_x15 q_x21 c22 q_x23 c24 q_x281 c282))⟩
          intro w414 w416 w418 w420 w422 S411 X423 ⟨hI, gL412, fL413, q415, q417, q419, q421, hT, i1u410, k1u410⟩ ih424
          subst q415
          subst q417
          subst q419
          subst q421
          have d_y13 := d_y13.trans (fri_at fL413 (by decide) (by decide) o_v0).symm
          have d_x281 := d_x281.trans (fri_at fL413 (by decide) (by decide) o_v0).symm
          have f0 := fri_tr (S := S20) g0 f0 fL413 (by decide) (by decide)
          have o_v0 := gr_ob gL412 o_v0
          have g0 := gr_tr (T := S20) g0 gL412
          obtain ⟨y425, d_y425⟩ : ∃ z : Int32, z = fI S411 v0 4 := ⟨_, rfl⟩
          have p_k1u410 : ((1 : Int32) = 0 ∨ x281 = 1 ∨ x281 = 2) ∧ ((1 : Int32) = 0 → x281 = 0 ∨ (0 ≤ y425 ∧ y425 < 900)) := by rw [d_x281, d_y425]; exact k1u410
          refine u_X4_next_118 ?_
          refine ⟨fun c426 => ?_, fun c426 => ?_⟩
          · refine u_X4_next_217 ?_
            refine ⟨fun c427 => ?_, fun c427 => ?_⟩
            · refine u_X4_next_240 ?_
              refine ⟨fun c428 => ?_, fun c428 => ?_⟩
              · exact hq _ hI g0 f0 hT
              · refine ⟨o_v0, ?_⟩
                intro x429 ex429
                have q_x429 : x429 = x281 := ex429.trans d_x281.symm
                have d_x429 := ex429
                refine ⟨fun c430 => ?_, fun c430 => ?_⟩
                · exact hq _ hI g0 f0 hT
                · intro x431 ex431
                  have q_x431 : x431 = y425 := ex431.trans d_y425.symm
                  have d_x431 := ex431
                  intro x432 ex432
                  intro S433 eS433
                  have hI : IV S433 := by rw [eS433]; exact iv_sI hI o_v0 (by decide) (nu_free (by decide))
                  have f0 := fr_I eS433 g0 f0 o_v0 (by decide)
                  have d_y13 := rd_Ij eS433 (by decide) d_y13
                  have d_x429 := rd_Ij eS433 (by decide) d_x429
                  have d_x432 := rd_Is eS433 (rfl : x432 = x432)
                  have hT := tx_I eS433 hT
                  have g0 := gr_I eS433 g0
                  have o_v0 := ob_I eS433 o_v0
                  exact hq _ hI g0 f0 hT
            · refine ⟨o_v0, ?_⟩
              intro x434 ex434
              have q_x434 : x434 = y425 := ex434.trans d_y425.symm
              have d_x434 := ex434
              intro x435 ex435
              have q_x435 : x435 = y13 := ex435.trans d_y13.symm
              have d_x435 := ex435
              refine ⟨fun c436 => ?_, fun c436 => ?_⟩
              · refine u_X4_next_240 ?_
                refine ⟨fun c437 => ?_, fun c437 => ?_⟩
                · exact hq _ hI g0 f0 hT
                · refine ⟨o_v0, ?_⟩
                  intro x438 ex438
                  have q_x438 : x438 = x281 := ex438.trans d_x281.symm
                  have d_x438 := ex438
                  refine ⟨fun c439 => ?_, fun c439 => ?_⟩
                  · exact hq _ hI g0 f0 hT
                  · intro x440 ex440
                    have q_x440 : x440 = x434 := ex440.trans d_x434.symm
                    have d_x440 := ex440
                    intro x441 ex441
                    intro S442 eS442
                    have hI : IV S442 := by rw [eS442]; exact iv_sI hI o_v0 (by decide) (nu_free (by decide))
                    have f0 := fr_I eS442 g0 f0 o_v0 (by decide)
                    have d_x435 := rd_Ij eS442 (by decide) d_x435
                    have d_x438 := rd_Ij eS442 (by decide) d_x438
                    have d_x441 := rd_Is eS442 (rfl : x441 = x441)
                    have hT := tx_I eS442 hT
                    have g0 := gr_I eS442 g0
                    have o_v0 := ob_I eS442 o_v0
                    exact hq _ hI g0 f0 hT
              · intro S443 eS443
                have hI : IV S443 := by rw [eS443]; exact iv_sI hI o_v0 (by decide) (nu_free (by decide))
                have f0 := fr_I eS443 g0 f0 o_v0 (by decide)
                have d_x435 := rd_Ij eS443 (by decide) d_x435
                have d_x434 := rd_Ij eS443 (by decide) d_x434
                obtain ⟨y444, hy444⟩ : ∃ z : Int32, z = (6 : Int32) := ⟨_, rfl⟩
                have d_y444 := rd_Is eS443 hy444
                have hT := tx_I eS443 hT
                have g0 := gr_I eS443 g0
                have o_v0 := ob_I eS443 o_v0
                refine u_X4_next_240 ?_
                refine ⟨fun c445 => ?_, fun c445 => ?_⟩
                · exact hq _ hI g0 f0 hT
                · refine ⟨o_v0, ?_⟩
                  intro x446 ex446
                  have q_x446 : x446 = y444 := ex446.trans d_y444.symm
                  have d_x446 := ex446
                  refine ⟨fun c447 => ?_, fun c447 => ?_⟩
                  · exact hq _ hI g0 f0 hT
                  · intro x448 ex448
                    have q_x448 : x448 = x434 := ex448.trans d_x434.symm
                    have d_x448 := ex448
                    intro x449 ex449
                    intro S450 eS450
                    have hI : IV S450 := by rw [eS450]; exact iv_sI hI o_v0 (by decide) (nu_free (by decide))
                    have f0 := fr_I eS450 g0 f0 o_v0 (by decide)
                    have d_x435 := rd_Ij eS450 (by decide) d_x435
                    have d_x446 := rd_Ij eS450 (by decide) d_x446
                    have d_x449 := rd_Is eS450 (rfl : x449 = x449)
                    have hT := tx_I eS450 hT
                    have g0 := gr_I eS450 g0
                    have o_v0 := ob_I eS450 o_v0
                    exact hq _ hI g0 f0 hT
          · refine ⟨fun c451 => ?_, fun c451 => ?_⟩
            · refine u_X4_next_217 ?_
              refine ⟨fun c452 => ?_, fun c452 => ?_⟩
              · refine u_X4_next_240 ?_
                refine ⟨fun c453 => ?_, fun c453 => ?_⟩
                · exact hq _ hI g0 f0 hT
                · refine ⟨o_v0, ?_⟩
                  intro x454 ex454
                  have q_x454 : x454 = x281 := ex454.trans d_x281.symm
                  have d_x454 := ex454
                  refine ⟨fun c455 => ?_, fun c455 => ?_⟩
                  · exact hq _ hI g0 f0 hT
                  · intro x456 ex456
                    have q_x456 : x456 = y425 := ex456.trans d_y425.symm
                    have d_x456 := ex456
                    intro x457 ex457
                    intro S458 eS458
                    have hI : IV S458 := by rw [eS458]; exact iv_sI hI o_v0 (by decide) (nu_free (by decide))
                    have f0 := fr_I eS458 g0 f0 o_v0 (by decide)
                    have d_y13 := rd_Ij eS458 (by decide) d_y13
                    have d_x454 := rd_Ij eS458 (by decide) d_x454
                    have d_x457 := rd_Is eS458 (rfl : x457 = x457)
                    have hT := tx_I eS458 hT
                    have g0 := gr_I eS458 g0
                    have o_v0 := ob_I eS458 o_v0
                    exact hq _ hI g0 f0 hT
              · refine ⟨o_v0, ?_⟩
                intro x459 ex459
                have q_x459 : x459 = y425 := ex459.trans d_y425.symm
                have d_x459 := ex459
                intro x460 ex460
                have q_x460 : x460 = y13 := ex460.trans d_y13.symm
                have d_x460 := ex460
                refine ⟨fun c461 => ?_, fun c461 => ?_⟩
                · refine u_X4_next_240 ?_
                  refine ⟨fun c462 => ?_, fun c462 => ?_⟩
                  · exact hq _ hI g0 f0 hT
                  · refine ⟨o_v0, ?_⟩
                    intro x463 ex463
                    have q_x463 : x463 = x281 := ex463.trans d_x281.symm
                    have d_x463 := ex463
                    refine ⟨fun c464 => ?_, fun c464 => ?_⟩
                    · exact hq _ hI g0 f0 hT
                    · intro x465 ex465
                      have q_x465 : x465 = x459 := ex465.trans d_x459.symm
                      have d_x465 := ex465
                      intro x466 ex466
                      intro S467 eS467
                      have hI : IV S467 := by rw [eS467]; exact iv_sI hI o_v0 (by decide) (nu_free (by decide))
                      have f0 := fr_I eS467 g0 f0 o_v0 (by decide)
                      have d_x460 := rd_Ij eS467 (by decide) d_x460
                      have d_x463 := rd_Ij eS467 (by decide) d_x463
                      have d_x466 := rd_Is eS467 (rfl : x466 = x466)
                      have hT := tx_I eS467 hT
                      have g0 := gr_I eS467 g0
                      have o_v0 := ob_I eS467 o_v0
                      exact hq _ hI g0 f0 hT
                · intro S468 eS468
                  have hI : IV S468 := by rw [eS468]; exact iv_sI hI o_v0 (by decide) (nu_free (by decide))
                  have f0 := fr_I eS468 g0 f0 o_v0 (by decide)
                  have d_x460 := rd_Ij eS468 (by decide) d_x460
                  have d_x459 := rd_Ij eS468 (by decide) d_x459
                  obtain ⟨y469, hy469⟩ : ∃ z : Int32, z = (6 : Int32) := ⟨_, rfl⟩
                  have d_y469 := rd_Is eS468 hy469
                  have hT := tx_I eS468 hT
                  have g0 := gr_I eS468 g0
                  have o_v0 := ob_I eS468 o_v0
                  refine u_X4_next_240 ?_
                  refine ⟨fun c470 => ?_, fun c470 => ?_⟩
                  · exact hq _ hI g0 f0 hT
                  · refine ⟨o_v0, ?_⟩
                    intro x471 ex471
                    have q_x471 : x471 = y469 := ex471.trans d_y469.symm
                    have d_x471 := ex471
                    refine ⟨fun c472 => ?_, fun c472 => ?_⟩
                    · exact hq _ hI g0 f0 hT
                    · intro x473 ex473
                      have q_x473 : x473 = x459 := ex473.trans d_x459.symm
                      have d_x473 := ex473
                      intro x474 ex474
                      intro S475 eS475
                      have hI : IV S475 := by rw [eS475]; exact iv_sI hI o_v0 (by decide) (nu_free (by decide))
                      have f0 := fr_I eS475 g0 f0 o_v0 (by decide)
                      have d_x460 := rd_Ij eS475 (by decide) d_x460
                      have d_x471 := rd_Ij eS475 (by decide) d_x471
                      have d_x474 := rd_Is eS475 (rfl : x474 = x474)
                      have hT := tx_I eS475 hT
                      have g0 := gr_I eS475 g0
                      have o_v0 := ob_I eS475 o_v0
                      exact hq _ hI g0 f0 hT
            · refine ⟨o_v0, ?_⟩
              intro x476 ex476
              have q_x476 : x476 = y425 := ex476.trans d_y425.symm
              have d_x476 := ex476
              refine m_X4_sortAt hI o_v0 hT (fun x477 S478 hI2 g479 p_x477 => ?_)
              obtain ⟨z_S478, p_x477⟩ := p_x477
              subst z_S478
              intro _
              intro x481 ex481
              have q_x481 : x481 = x281 := ex481.trans d_x281.symm
              have d_x481 := ex481
              refine ⟨fun c482 => ?_, fun c482 => ?_⟩
              · refine u_X4_next_217 ?_
                refine ⟨fun c483 => ?_, fun c483 => ?_⟩
                · refine u_X4_next_240 ?_
                  refine ⟨fun c484 => ?_, fun c484 => ?_⟩
                  · exact hq _ hI g0 f0 hT
                  · refine ⟨o_v0, ?_⟩
                    intro x485 ex485
                    have q_x485 : x485 = x481 := ex485.trans d_x481.symm
                    have d_x485 := ex485
                    refine ⟨fun c486 => ?_, fun c486 => ?_⟩
                    · exact hq _ hI g0 f0 hT
                    · intro x487 ex487
                      have q_x487 : x487 = x476 := ex487.trans d_x476.symm
                      have d_x487 := ex487
                      intro x488 ex488
                      intro S489 eS489
                      have hI : IV S489 := by rw [eS489]; exact iv_sI hI o_v0 (by decide) (nu_free (by decide))
                      have f0 := fr_I eS489 g0 f0 o_v0 (by decide)
                      have d_y13 := rd_Ij eS489 (by decide) d_y13
                      have d_x485 := rd_Ij eS489 (by decide) d_x485
                      have d_x488 := rd_Is eS489 (rfl : x488 = x488)
                      have hT := tx_I eS489 hT
                      have g0 := gr_I eS489 g0
                      have o_v0 := ob_I eS489 o_v0
                      exact hq _ hI g0 f0 hT
                · refine ⟨o_v0, ?_⟩
                  intro x490 ex490
                  have q_x490 : x490 = x476 := ex490.trans d_x476.symm
                  have d_x490 := ex490
                  intro x491 ex491
                  have q_x491 : x491 = y13 := ex491.trans d_y13.symm
                  have d_x491 := ex491
                  refine ⟨fun c492 => ?_, fun c492 => ?_⟩
                  · refine u_X4_next_240 ?_
                    refine ⟨fun c493 => ?_, fun c493 => ?_⟩
                    · exact hq _ hI g0 f0 hT
                    · refine ⟨o_v0, ?_⟩
                      intro x494 ex494
                      have q_x494 : x494 = x481 := ex494.trans d_x481.symm
                      have d_x494 := ex494
                      refine ⟨fun c495 => ?_, fun c495 => ?_⟩
                      · exact hq _ hI g0 f0 hT
                      · intro x496 ex496
                        have q_x496 : x496 = x490 := ex496.trans d_x490.symm
                        have d_x496 := ex496
                        intro x497 ex497
                        intro S498 eS498
                        have hI : IV S498 := by rw [eS498]; exact iv_sI hI o_v0 (by decide) (nu_free (by decide))
                        have f0 := fr_I eS498 g0 f0 o_v0 (by decide)
                        have d_x491 := rd_Ij eS498 (by decide) d_x491
                        have d_x494 := rd_Ij eS498 (by decide) d_x494
                        have d_x497 := rd_Is eS498 (rfl : x497 = x497)
                        have hT := tx_I eS498 hT
                        have g0 := gr_I eS498 g0
                        have o_v0 := ob_I eS498 o_v0
                        exact hq _ hI g0 f0 hT
                  · intro S499 eS499
                    have hI : IV S499 := by rw [eS499]; exact iv_sI hI o_v0 (by decide) (nu_free (by decide))
                    have f0 := fr_I eS499 g0 f0 o_v0 (by decide)
                    have d_x491 := rd_Ij eS499 (by decide) d_x491
                    have d_x490 := rd_Ij eS499 (by decide) d_x490
                    obtain ⟨y500, hy500⟩ : ∃ z : Int32, z = (6 : Int32) := ⟨_, rfl⟩
                    have d_y500 := rd_Is eS499 hy500
                    have hT := tx_I eS499 hT
                    have g0 := gr_I eS499 g0
                    have o_v0 := ob_I eS499 o_v0
                    refine u_X4_next_240 ?_
                    refine ⟨fun c501 => ?_, fun c501 => ?_⟩
                    · exact hq _ hI g0 f0 hT
                    · refine ⟨o_v0, ?_⟩
                      intro x502 ex502
                      have q_x502 : x502 = y500 := ex502.trans d_y500.symm
                      have d_x502 := ex502
                      refine ⟨fun c503 => ?_, fun c503 => ?_⟩
                      · exact hq _ hI g0 f0 hT
                      · intro x504 ex504
                        have q_x504 : x504 = x490 := ex504.trans d_x490.symm
                        have d_x504 := ex504
                        intro x505 ex505
                        intro S506 eS506
                        have hI : IV S506 := by rw [eS506]; exact iv_sI hI o_v0 (by decide) (nu_free (by decide))
                        have f0 := fr_I eS506 g0 f0 o_v0 (by decide)
                        have d_x491 := rd_Ij eS506 (by decide) d_x491
                        have d_x502 := rd_Ij eS506 (by decide) d_x502
                        have d_x505 := rd_Is eS506 (rfl : x505 = x505)
                        have hT := tx_I eS506 hT
                        have g0 := gr_I eS506 g0
                        have o_v0 := ob_I eS506 o_v0
                        exact hq _ hI g0 f0 hT
              · refine ⟨fun c507 => ?_, fun c507 => ?_⟩
                · refine u_X4_next_201 ?_
                  refine ⟨o_v0, ?_⟩
                  intro x508 ex508
                  have q_x508 : x508 = x476 := ex508.trans d_x476.symm
                  have d_x508 := ex508
                  intro x509 ex509
                  intro S510 eS510
                  have hI : IV S510 := by rw [eS510]; exact iv_sI hI o_v0 (by decide) (nu_free (by decide))
                  have f0 := fr_I eS510 g0 f0 o_v0 (by decide)
                  have fL413 := fr_I eS510 gL412 fL413 o_v0 (by decide)
                  have d_y13 := rd_Ij eS510 (by decide) d_y13
                  have d_x481 := rd_Ij eS510 (by decide) d_x481
                  have d_x509 := rd_Is eS510 (rfl : x509 = x509)
                  have hT := tx_I eS510 hT
                  have g0 := gr_I eS510 g0
                  have gL412 := gr_I eS510 gL412
                  have o_v0 := ob_I eS510 o_v0
                  intro x511 ex511
                  exact ih424 _ _ _ _ _ _ ⟨hI, gL412, fL413, rfl, rfl, rfl, rfl, hT, (q288 i1u1 c10 hy13 q_x14 p_x15 q_x21 c22 q_x23 c24 q_x281 c282 i1u410 p_k1u410 c451 q_x476 p_x477 q_x481 c482 c507 q_x508 ex509 ex511), (by rw [← d_x481, ← d_x509]; exact (q289 i1u1 c10 hy13 q_x14 p_x15 q_x21 c22 q_x23 c24 q_x281 c282 i1u410 p_k1u410 c451 q_x476 p_x477 q_x481 c482 c507 q_x508 ex509 ex511))⟩ (mu_up (q290 i1u1 c10 hy13 q_x14 p_x15 q_x21 c22 q_x23 c24 q_x281 c282 i1u410 p_k1u410 c451 q_x476 p_x477 q_x481 c482 c507 q_x508 ex509 ex511) (q291 i1u1 c10 hy13 q_x14 p_x15 q_x21 c22 q_x23 c24 q_x281 c282 i1u410 p_k1u410 c451 q_x476 p_x477 q_x481 c482 c507 q_x508 ex509 ex511))
                · intro x512 ex512
                  have q_x512 : x512 = x476 := ex512.trans d_x476.symm
                  have d_x512 := ex512
                  obtain ⟨a513, ea513, o_a513, l_a513⟩ := id hT
                  refine ⟨a513, ea513, ?_⟩
                  refine ⟨o_a513, ?_⟩
                  have n_a513 : nI (hN S411 a513) = 900 := by rw [show hN S411 a513 = 900 from l_a513]; decide
                  refine ⟨fun c514 => ?_, fun c514 => ?_⟩
                  · rw [n_a513] at c514
                    refine u_X4_next_201 ?_
                    refine ⟨o_v0, ?_⟩
                    intro x515 ex515
                    have q_x515 : x515 = x512 := ex515.trans d_x512.symm
                    have d_x515 := ex515
                    intro x516 ex516
                    intro S517 eS517
                    have hI : IV S517 := by rw [eS517]; exact iv_sI hI o_v0 (by decide) (nu_free (by decide))
                    have f0 := fr_I eS517 g0 f0 o_v0 (by decide)
                    have fL413 := fr_I eS517 gL412 fL413 o_v0 (by decide)
                    have d_y13 := rd_Ij eS517 (by decide) d_y13
                    have d_x481 := rd_Ij eS517 (by decide) d_x481
                    have d_x516 := rd_Is eS517 (rfl : x516 = x516)
                    have ea513 := rf_I eS517 ea513
                    have hT := tx_I eS517 hT
                    have l_a513 := ln_I eS517 l_a513
                    have g0 := gr_I eS517 g0
                    have gL412 := gr_I eS517 gL412
                    have o_a513 := ob_I eS517 o_a513
                    have o_v0 := ob_I eS517 o_v0
                    intro x518 ex518
                    exact ih424 _ _ _ _ _ _ ⟨hI, gL412, fL413, rfl, rfl, rfl, rfl, hT, (q292 i1u1 c10 hy13 q_x14 p_x15 q_x21 c22 q_x23 c24 q_x281 c282 i1u410 p_k1u410 c451 q_x476 p_x477 q_x481 c482 c507 q_x512 c514 q_x515 ex516 ex518), (by rw [← d_x481, ← d_x516]; exact (q293 i1u1 c10 hy13 q_x14 p_x15 q_x21 c22 q_x23 c24 q_x281 c282 i1u410 p_k1u410 c451 q_x476 p_x477 q_x481 c482 c507 q_x512 c514 q_x515 ex516 ex518))⟩ (mu_up (q294 i1u1 c10 hy13 q_x14 p_x15 q_x21 c22 q_x23 c24 q_x281 c282 i1u410 p_k1u410 c451 q_x476 p_x477 q_x481 c482 c507 q_x512 c514 q_x515 ex516 ex518) (q295 i1u1 c10 hy13 q_x14 p_x15 q_x21 c22 q_x23 c24 q_x281 c282 i1u410 p_k1u410 c451 q_x476 p_x477 q_x481 c482 c507 q_x512 c514 q_x515 ex516 ex518))
                  · rw [n_a513] at c514
                    intro x519 ex519
                    have dj_x519 := ex519
                    refine ⟨a513, ea513, ?_⟩
                    intro x521 ex521
                    have q_x521 : x521 = x512 := ex521.trans d_x512.symm
                    have d_x521 := ex521
                    refine ⟨o_a513, ?_⟩
                    refine ⟨(vin l_a513 (m := 900) (by decide) (q296 i1u1 c10 hy13 q_x14 p_x15 q_x21 c22 q_x23 c24 q_x281 c282 i1u410 p_k1u410 c451 q_x476 p_x477 q_x481 c482 c507 q_x512 c514 q_x521)), ?_⟩
                    intro x522 ex522
                    intro x523 ex523
                    have q_x523 : x523 = x481 := ex523.trans d_x481.symm
                    have d_x523 := ex523
                    refine ⟨fun c524 => ?_, fun c524 => ?_⟩
                    · refine u_X4_next_195 ?_
                      refine ⟨o_v0, ?_⟩
                      intro x525 ex525
                      intro S526 eS526
                      have hI : IV S526 := by rw [eS526]; exact iv_sJ hI o_v0 (by decide)
                      have f0 := fr_J eS526 f0
                      have fL413 := fr_J eS526 fL413
                      have d_y13 := rd_J eS526 d_y13
                      have d_x523 := rd_J eS526 d_x523
                      have d_x521 := rd_J eS526 d_x521
                      have ea513 := rf_J eS526 ea513
                      have hT := tx_J eS526 hT
                      have l_a513 := ln_J eS526 l_a513
                      have g0 := gr_J eS526 g0
                      have gL412 := gr_J eS526 gL412
                      have o_a513 := ob_J eS526 o_a513
                      have o_v0 := ob_J eS526 o_v0
                      refine u_X4_next_201 ?_
                      refine ⟨o_v0, ?_⟩
                      intro x527 ex527
                      have q_x527 : x527 = x521 := ex527.trans d_x521.symm
                      have d_x527 := ex527
                      intro x528 ex528
                      intro S529 eS529
                      have hI : IV S529 := by rw [eS529]; exact iv_sI hI o_v0 (by decide) (nu_free (by decide))
                      have f0 := fr_I eS529 g0 f0 o_v0 (by decide)
                      have fL413 := fr_I eS529 gL412 fL413 o_v0 (by decide)
                      have d_y13 := rd_Ij eS529 (by decide) d_y13
                      have d_x523 := rd_Ij eS529 (by decide) d_x523
                      have d_x528 := rd_Is eS529 (rfl : x528 = x528)
                      have ea513 := rf_I eS529 ea513
                      have hT := tx_I eS529 hT
                      have l_a513 := ln_I eS529 l_a513
                      have g0 := gr_I eS529 g0
                      have gL412 := gr_I eS529 gL412
                      have o_a513 := ob_I eS529 o_a513
                      have o_v0 := ob_I eS529 o_v0
                      intro x530 ex530
                      exact ih424 _ _ _ _ _ _ ⟨hI, gL412, fL413, rfl, rfl, rfl, rfl, hT, (q297 i1u1 c10 hy13 q_x14 p_x15 q_x21 c22 q_x23 c24 q_x281 c282 i1u410 p_k1u410 c451 q_x476 p_x477 q_x481 c482 c507 q_x512 c514 q_x521 q_x523 c524 q_x527 ex528 ex530), (by rw [← d_x523, ← d_x528]; exact (q298 i1u1 c10 hy13 q_x14 p_x15 q_x21 c22 q_x23 c24 q_x281 c282 i1u410 p_k1u410 c451 q_x476 p_x477 q_x481 c482 c507 q_x512 c514 q_x521 q_x523 c524 q_x527 ex528 ex530))⟩ (mu_up (q299 i1u1 c10 hy13 q_x14 p_x15 q_x21 c22 q_x23 c24 q_x281 c282 i1u410 p_k1u410 c451 q_x476 p_x477 q_x481 c482 c507 q_x512 c514 q_x521 q_x523 c524 q_x527 ex528 ex530) (q300 i1u1 c10 hy13 q_x14 p_x15 q_x21 c22 q_x23 c24 q_x281 c282 i1u410 p_k1u410 c451 q_x476 p_x477 q_x481 c482 c507 q_x512 c514 q_x521 q_x523 c524 q_x527 ex528 ex530))
                    · refine u_X4_next_195 ?_
                      refine ⟨o_v0, ?_⟩
                      intro x531 ex531
                      intro S532 eS532
                      have hI : IV S532 := by rw [eS532]; exact iv_sJ hI o_v0 (by decide)
                      have f0 := fr_J eS532 f0
                      have fL413 := fr_J eS532 fL413
                      have d_y13 := rd_J eS532 d_y13
                      have d_x523 := rd_J eS532 d_x523
                      have d_x521 := rd_J eS532 d_x521
                      have ea513 := rf_J eS532 ea513
                      have hT := tx_J eS532 hT
                      have l_a513 := ln_J eS532 l_a513
                      have g0 := gr_J eS532 g0
                      have gL412 := gr_J eS532 gL412
                      have o_a513 := ob_J eS532 o_a513
                      have o_v0 := ob_J eS532 o_v0
                      refine u_X4_next_201 ?_
                      refine ⟨o_v0, ?_⟩
                      intro x533 ex533
                      have q_x533 : x533 = x521 := ex533.trans d_x521.symm
                      have d_x533 := ex533
                      intro x534 ex534
                      intro S535 eS535
                      have hI : IV S535 := by rw [eS535]; exact iv_sI hI o_v0 (by decide) (nu_free (by decide))
                      have f0 := fr_I eS535 g0 f0 o_v0 (by decide)
                      have fL413 := fr_I eS535 gL412 fL413 o_v0 (by decide)
                      have d_y13 := rd_Ij eS535 (by decide) d_y13
                      have d_x523 := rd_Ij eS535 (by decide) d_x523
                      have d_x534 := rd_Is eS535 (rfl : x534 = x534)
                      have ea513 := rf_I eS535 ea513
                      have hT := tx_I eS535 hT
                      have l_a513 := ln_I eS535 l_a513
                      have g0 := gr_I eS535 g0
                      have gL412 := gr_I eS535 gL412
                      have o_a513 := ob_I eS535 o_a513
                      have o_v0 := ob_I eS535 o_v0
                      intro x536 ex536
                      exact ih424 _ _ _ _ _ _ ⟨hI, gL412, fL413, rfl, rfl, rfl, rfl, hT, (q301 i1u1 c10 hy13 q_x14 p_x15 q_x21 c22 q_x23 c24 q_x281 c282 i1u410 p_k1u410 c451 q_x476 p_x477 q_x481 c482 c507 q_x512 c514 q_x521 q_x523 c524 q_x533 ex534 ex536), (by rw [← d_x523, ← d_x534]; exact (q302 i1u1 c10 hy13 q_x14 p_x15 q_x21 c22 q_x23 c24 q_x281 c282 i1u410 p_k1u410 c451 q_x476 p_x477 q_x481 c482 c507 q_x512 c514 q_x521 q_x523 c524 q_x533 ex534 ex536))⟩ (mu_up (q303 i1u1 c10 hy13 q_x14 p_x15 q_x21 c22 q_x23 c24 q_x281 c282 i1u410 p_k1u410 c451 q_x476 p_x477 q_x481 c482 c507 q_x512 c514 q_x521 q_x523 c524 q_x533 ex534 ex536) (q304 i1u1 c10 hy13 q_x14 p_x15 q_x21 c22 q_x23 c24 q_x281 c282 i1u410 p_k1u410 c451 q_x476 p_x477 q_x481 c482 c507 q_x512 c514 q_x521 q_x523 c524 q_x533 ex534 ex536))
    · intro x537 ex537
      have q_x537 : x537 = x21 := ex537.trans d_x21.symm
      have d_x537 := ex537
      refine ⟨fun c538 => ?_, fun c538 => ?_⟩
      · refine u_X4_next_83 ?_
        refine ⟨o_v0, ?_⟩
        intro x539 ex539
        have q_x539 : x539 = x537 := ex539.trans d_x537.symm
        have d_x539 := ex539
        refine ⟨fun c540 => ?_, fun c540 => ?_⟩
        · refine u_X4_next_98 ?_
          refine ⟨o_v0, ?_⟩
          intro x541 ex541
          have q_x541 : x541 = x539 := ex541.trans d_x539.symm
          have d_x541 := ex541
          refine ⟨fun c542 => ?_, fun c542 => ?_⟩
          · refine u_X4_next_114 ?_
            refine i_X4_next_118 (fun (y0 : Nat) (y1 : Int32) (y2 : Int32) (y3 : Int32) (y4 : Int32) (Z : HS) => ((2147483647 : Int32).toInt - y4.toInt).toNat) (fun (y0 : Nat) (y1 : Int32) (y2 : Int32) (y3 : Int32) (y4 : Int32) (Z : HS) => (IV Z) ∧ (Gr S20 Z) ∧ (FRI [(4, 4)] [] S20 Z) ∧ (v0 = y0) ∧ ((0 : Int32) = y1) ∧ ((3 : Int32) = y2) ∧ ((10 : Int32) = y3) ∧ (TX Z v0) ∧ (0 ≤ y4) ∧ ((y1 = 0 ∨ fI Z v0 6 = 1 ∨ fI Z v0 6 = 2) ∧ (y1 = 0 → fI Z v0 6 = 0 ∨ (0 ≤ fI Z v0 4 ∧ fI Z v0 4 < 900)))) ?_ _ _ _ _ _ _ ⟨hI, (gr_rf _), (fri_rf _ _ _), rfl, rfl, rfl, rfl, hT, (q305 i1u1 c10 hy13 q_x14 p_x15 q_x21 c22 q_x537 c538 q_x539 c540 q_x541 c542), (by rw [← d_x541, ← d_x14]; exact (q306 i1u1 c10 hy13 q_x14 p_x15 q_x21 c22 q_x537 c538 q_x539 c540 q_x541 c542))⟩
            intro w547 w549 w551 w553 w555 S544 X556 ⟨hI, gL545, fL546, q548, q550, q552, q554, hT, i1u543, k1u543⟩ ih557
            subst q548
            subst q550
            subst q552
            subst q554
            have d_y13 := d_y13.trans (fri_at fL546 (by decide) (by decide) o_v0).symm
            have d_x541 := d_x541.trans (fri_at fL546 (by decide) (by decide) o_v0).symm
            have f0 := fri_tr (S := S20) g0 f0 fL546 (by decide) (by decide)
            have o_v0 := gr_ob gL545 o_v0
            have g0 := gr_tr (T := S20) g0 gL545
            obtain ⟨y558, d_y558⟩ : ∃ z : Int32, z = fI S544 v0 4 := ⟨_, rfl⟩
            have p_k1u543 : ((0 : Int32) = 0 ∨ x541 = 1 ∨ x541 = 2) ∧ ((0 : Int32) = 0 → x541 = 0 ∨ (0 ≤ y558 ∧ y558 < 900)) := by rw [d_x541, d_y558]; exact k1u543
            refine u_X4_next_118 ?_
            refine ⟨fun c559 => ?_, fun c559 => ?_⟩
            · refine u_X4_next_217 ?_
              refine ⟨fun c560 => ?_, fun c560 => ?_⟩
              · refine u_X4_next_240 ?_
                refine ⟨fun c561 => ?_, fun c561 => ?_⟩
                · exact hq _ hI g0 f0 hT
                · refine ⟨o_v0, ?_⟩
                  intro x562 ex562
                  have q_x562 : x562 = x541 := ex562.trans d_x541.symm
                  have d_x562 := ex562
                  refine ⟨fun c563 => ?_, fun c563 => ?_⟩
                  · exact hq _ hI g0 f0 hT
                  · intro x564 ex564
                    have q_x564 : x564 = y558 := ex564.trans d_y558.symm
                    have d_x564 := ex564
                    intro x565 ex565
                    intro S566 eS566
                    have hI : IV S566 := by rw [eS566]; exact iv_sI hI o_v0 (by decide) (nu_free (by decide))
                    have f0 := fr_I eS566 g0 f0 o_v0 (by decide)
                    have d_y13 := rd_Ij eS566 (by decide) d_y13
                    have d_x562 := rd_Ij eS566 (by decide) d_x562
                    have d_x565 := rd_Is eS566 (rfl : x565 = x565)
                    have hT := tx_I eS566 hT
                    have g0 := gr_I eS566 g0
                    have o_v0 := ob_I eS566 o_v0
                    exact hq _ hI g0 f0 hT
              · refine ⟨o_v0, ?_⟩
                intro x567 ex567
                have q_x567 : x567 = y558 := ex567.trans d_y558.symm
                have d_x567 := ex567
                intro x568 ex568
                have q_x568 : x568 = y13 := ex568.trans d_y13.symm
                have d_x568 := ex568
                refine ⟨fun c569 => ?_, fun c569 => ?_⟩
                · refine u_X4_next_240 ?_
                  refine ⟨fun c570 => ?_, fun c570 => ?_⟩
                  · exact hq _ hI g0 f0 hT
                  · refine ⟨o_v0, ?_⟩
                    intro x571 ex571
                    have q_x571 : x571 = x541 := ex571.trans d_x541.symm
                    have d_x571 := ex571
                    refine ⟨fun c572 => ?_, fun c572 => ?_⟩
                    · exact hq _ hI g0 f0 hT
                    · intro x573 ex573
                      have q_x573 : x573 = x567 := ex573.trans d_x567.symm
                      have d_x573 := ex573
                      intro x574 ex574
                      intro S575 eS575
                      have hI : IV S575 := by rw [eS575]; exact iv_sI hI o_v0 (by decide) (nu_free (by decide))
                      have f0 := fr_I eS575 g0 f0 o_v0 (by decide)
                      have d_x568 := rd_Ij eS575 (by decide) d_x568
                      have d_x571 := rd_Ij eS575 (by decide) d_x571
                      have d_x574 := rd_Is eS575 (rfl : x574 = x574)
                      have hT := tx_I eS575 hT
                      have g0 := gr_I eS575 g0
                      have o_v0 := ob_I eS575 o_v0
                      exact hq _ hI g0 f0 hT
                · intro S576 eS576
                  have hI : IV S576 := by rw [eS576]; exact iv_sI hI o_v0 (by decide) (nu_free (by decide))
                  have f0 := fr_I eS576 g0 f0 o_v0 (by decide)
                  have d_x568 := rd_Ij eS576 (by decide) d_x568
                  have d_x567 := rd_Ij eS576 (by decide) d_x567
                  obtain ⟨y577, hy577⟩ : ∃ z : Int32, z = (6 : Int32) := ⟨_, rfl⟩
                  have d_y577 := rd_Is eS576 hy577
                  have hT := tx_I eS576 hT
                  have g0 := gr_I eS576 g0
                  have o_v0 := ob_I eS576 o_v0
                  refine u_X4_next_240 ?_
                  refine ⟨fun c578 => ?_, fun c578 => ?_⟩
                  · exact hq _ hI g0 f0 hT
                  · refine ⟨o_v0, ?_⟩
                    intro x579 ex579
                    have q_x579 : x579 = y577 := ex579.trans d_y577.symm
                    have d_x579 := ex579
                    refine ⟨fun c580 => ?_, fun c580 => ?_⟩
                    · exact hq _ hI g0 f0 hT
                    · intro x581 ex581
                      have q_x581 : x581 = x567 := ex581.trans d_x567.symm
                      have d_x581 := ex581
                      intro x582 ex582
                      intro S583 eS583
                      have hI : IV S583 := by rw [eS583]; exact iv_sI hI o_v0 (by decide) (nu_free (by decide))
                      have f0 := fr_I eS583 g0 f0 o_v0 (by decide)
                      have d_x568 := rd_Ij eS583 (by decide) d_x568
                      have d_x579 := rd_Ij eS583 (by decide) d_x579
                      have d_x582 := rd_Is eS583 (rfl : x582 = x582)
                      have hT := tx_I eS583 hT
                      have g0 := gr_I eS583 g0
                      have o_v0 := ob_I eS583 o_v0
                      exact hq _ hI g0 f0 hT
            · refine ⟨fun c584 => ?_, fun c584 => ?_⟩
              · refine u_X4_next_217 ?_
                refine ⟨fun c585 => ?_, fun c585 => ?_⟩
                · refine u_X4_next_240 ?_
                  refine ⟨fun c586 => ?_, fun c586 => ?_⟩
                  · exact hq _ hI g0 f0 hT
                  · refine ⟨o_v0, ?_⟩
                    intro x587 ex587
                    have q_x587 : x587 = x541 := ex587.trans d_x541.symm
                    have d_x587 := ex587
                    refine ⟨fun c588 => ?_, fun c588 => ?_⟩
                    · exact hq _ hI g0 f0 hT
                    · intro x589 ex589
                      have q_x589 : x589 = y558 := ex589.trans d_y558.symm
                      have d_x589 := ex589
                      intro x590 ex590
                      intro S591 eS591
                      have hI : IV S591 := by rw [eS591]; exact iv_sI hI o_v0 (by decide) (nu_free (by decide))
                      have f0 := fr_I eS591 g0 f0 o_v0 (by decide)
                      have d_y13 := rd_Ij eS591 (by decide) d_y13
                      have d_x587 := rd_Ij eS591 (by decide) d_x587
                      have d_x590 := rd_Is eS591 (rfl : x590 = x590)
                      have hT := tx_I eS591 hT
                      have g0 := gr_I eS591 g0
                      have o_v0 := ob_I eS591 o_v0
                      exact hq _ hI g0 f0 hT
                · refine ⟨o_v0, ?_⟩
                  intro x592 ex592
                  have q_x592 : x592 = y558 := ex592.trans d_y558.symm
                  have d_x592 := ex592
                  intro x593 ex593
                  have q_x593 : x593 = y13 := ex593.trans d_y13.symm
                  have d_x593 := ex593
                  refine ⟨fun c594 => ?_, fun c594 => ?_⟩
                  · refine u_X4_next_240 ?_
                    refine ⟨fun c595 => ?_, fun c595 => ?_⟩
                    · exact hq _ hI g0 f0 hT
                    · refine ⟨o_v0, ?_⟩
                      intro x596 ex596
                      have q_x596 : x596 = x541 := ex596.trans d_x541.symm
                      have d_x596 := ex596
                      refine ⟨fun c597 => ?_, fun c597 => ?_⟩
                      · exact hq _ hI g0 f0 hT
                      · intro x598 ex598
                        have q_x598 : x598 = x592 := ex598.trans d_x592.symm
                        have d_x598 := ex598
                        intro x599 ex599
                        intro S600 eS600
                        have hI : IV S600 := by rw [eS600]; exact iv_sI hI o_v0 (by decide) (nu_free (by decide))
                        have f0 := fr_I eS600 g0 f0 o_v0 (by decide)
                        have d_x593 := rd_Ij eS600 (by decide) d_x593
                        have d_x596 := rd_Ij eS600 (by decide) d_x596
                        have d_x599 := rd_Is eS600 (rfl : x599 = x599)
                        have hT := tx_I eS600 hT
                        have g0 := gr_I eS600 g0
                        have o_v0 := ob_I eS600 o_v0
                        exact hq _ hI g0 f0 hT
                  · intro S601 eS601
                    have hI : IV S601 := by rw [eS601]; exact iv_sI hI o_v0 (by decide) (nu_free (by decide))
                    have f0 := fr_I eS601 g0 f0 o_v0 (by decide)
                    have d_x593 := rd_Ij eS601 (by decide) d_x593
                    have d_x592 := rd_Ij eS601 (by decide) d_x592
                    obtain ⟨y602, hy602⟩ : ∃ z : Int32, z = (6 : Int32) := ⟨_, rfl⟩
                    have d_y602 := rd_Is eS601 hy602
                    have hT := tx_I eS601 hT
                    have g0 := gr_I eS601 g0
                    have o_v0 := ob_I eS601 o_v0
                    refine u_X4_next_240 ?_
                    refine ⟨fun c603 => ?_, fun c603 => ?_⟩
                    · exact hq _ hI g0 f0 hT
                    · refine ⟨o_v0, ?_⟩
                      intro x604 ex604
                      have q_x604 : x604 = y602 := ex604.trans d_y602.symm
                      have d_x604 := ex604
                      refine ⟨fun c605 => ?_, fun c605 => ?_⟩
                      · exact hq _ hI g0 f0 hT
                      · intro x606 ex606
                        have q_x606 : x606 = x592 := ex606.trans d_x592.symm
                        have d_x606 := ex606
                        intro x607 ex607
                        intro S608 eS608
                        have hI : IV S608 := by rw [eS608]; exact iv_sI hI o_v0 (by decide) (nu_free (by decide))
                        have f0 := fr_I eS608 g0 f0 o_v0 (by decide)
                        have d_x593 := rd_Ij eS608 (by decide) d_x593
                        have d_x604 := rd_Ij eS608 (by decide) d_x604
                        have d_x607 := rd_Is eS608 (rfl : x607 = x607)
                        have hT := tx_I eS608 hT
                        have g0 := gr_I eS608 g0
                        have o_v0 := ob_I eS608 o_v0
                        exact hq _ hI g0 f0 hT
              · refine ⟨o_v0, ?_⟩
                intro x609 ex609
                have q_x609 : x609 = y558 := ex609.trans d_y558.symm
                have d_x609 := ex609
                refine m_X4_sortAt hI o_v0 hT (fun x610 S611 hI2 g612 p_x610 => ?_)
                obtain ⟨z_S611, p_x610⟩ := p_x610
                subst z_S611
                intro _
                intro x614 ex614
                have q_x614 : x614 = x541 := ex614.trans d_x541.symm
                have d_x614 := ex614
                refine ⟨fun c615 => ?_, fun c615 => ?_⟩
                · refine u_X4_next_217 ?_
                  refine ⟨fun c616 => ?_, fun c616 => ?_⟩
                  · refine u_X4_next_240 ?_
                    refine ⟨fun c617 => ?_, fun c617 => ?_⟩
                    · exact hq _ hI g0 f0 hT
                    · refine ⟨o_v0, ?_⟩
                      intro x618 ex618
                      have q_x618 : x618 = x614 := ex618.trans d_x614.symm
                      have d_x618 := ex618
                      refine ⟨fun c619 => ?_, fun c619 => ?_⟩
                      · exact hq _ hI g0 f0 hT
                      · intro x620 ex620
                        have q_x620 : x620 = x609 := ex620.trans d_x609.symm
                        have d_x620 := ex620
                        intro x621 ex621
                        intro S622 eS622
                        have hI : IV S622 := by rw [eS622]; exact iv_sI hI o_v0 (by decide) (nu_free (by decide))
                        have f0 := fr_I eS622 g0 f0 o_v0 (by decide)
                        have d_y13 := rd_Ij eS622 (by decide) d_y13
                        have d_x618 := rd_Ij eS622 (by decide) d_x618
                        have d_x621 := rd_Is eS622 (rfl : x621 = x621)
                        have hT := tx_I eS622 hT
                        have g0 := gr_I eS622 g0
                        have o_v0 := ob_I eS622 o_v0
                        exact hq _ hI g0 f0 hT
                  · refine ⟨o_v0, ?_⟩
                    intro x623 ex623
                    have q_x623 : x623 = x609 := ex623.trans d_x609.symm
                    have d_x623 := ex623
                    intro x624 ex624
                    have q_x624 : x624 = y13 := ex624.trans d_y13.symm
                    have d_x624 := ex624
                    refine ⟨fun c625 => ?_, fun c625 => ?_⟩
                    · refine u_X4_next_240 ?_
                      refine ⟨fun c626 => ?_, fun c626 => ?_⟩
                      · exact hq _ hI g0 f0 hT
                      · refine ⟨o_v0, ?_⟩
                        intro x627 ex627
                        have q_x627 : x627 = x614 := ex627.trans d_x614.symm
                        have d_x627 := ex627
                        refine ⟨fun c628 => ?_, fun c628 => ?_⟩
                        · exact hq _ hI g0 f0 hT
                        · intro x629 ex629
                          have q_x629 : x629 = x623 := ex629.trans d_x623.symm
                          have d_x629 := ex629
                          intro x630 ex630
                          intro S631 eS631
                          have hI : IV S631 := by rw [eS631]; exact iv_sI hI o_v0 (by decide) (nu_free (by decide))
                          have f0 := fr_I eS631 g0 f0 o_v0 (by decide)
                          have d_x624 := rd_Ij eS631 (by decide) d_x624
                          have d_x627 := rd_Ij eS631 (by decide) d_x627
                          have d_x630 := rd_Is eS631 (rfl : x630 = x630)
                          have hT := tx_I eS631 hT
                          have g0 := gr_I eS631 g0
                          have o_v0 := ob_I eS631 o_v0
                          exact hq _ hI g0 f0 hT
                    · intro S632 eS632
                      have hI : IV S632 := by rw [eS632]; exact iv_sI hI o_v0 (by decide) (nu_free (by decide))
                      have f0 := fr_I eS632 g0 f0 o_v0 (by decide)
                      have d_x624 := rd_Ij eS632 (by decide) d_x624
                      have d_x623 := rd_Ij eS632 (by decide) d_x623
                      obtain ⟨y633, hy633⟩ : ∃ z : Int32, z = (6 : Int32) := ⟨_, rfl⟩
                      have d_y633 := rd_Is eS632 hy633
                      have hT := tx_I eS632 hT
                      have g0 := gr_I eS632 g0
                      have o_v0 := ob_I eS632 o_v0
                      refine u_X4_next_240 ?_
                      refine ⟨fun c634 => ?_, fun c634 => ?_⟩
                      · exact hq _ hI g0 f0 hT
                      · refine ⟨o_v0, ?_⟩
                        intro x635 ex635
                        have q_x635 : x635 = y633 := ex635.trans d_y633.symm
                        have d_x635 := ex635
                        refine ⟨fun c636 => ?_, fun c636 => ?_⟩
                        · exact hq _ hI g0 f0 hT
                        · intro x637 ex637
                          have q_x637 : x637 = x623 := ex637.trans d_x623.symm
                          have d_x637 := ex637
                          intro x638 ex638
                          intro S639 eS639
                          have hI : IV S639 := by rw [eS639]; exact iv_sI hI o_v0 (by decide) (nu_free (by decide))
                          have f0 := fr_I eS639 g0 f0 o_v0 (by decide)
                          have d_x624 := rd_Ij eS639 (by decide) d_x624
                          have d_x635 := rd_Ij eS639 (by decide) d_x635
                          have d_x638 := rd_Is eS639 (rfl : x638 = x638)
                          have hT := tx_I eS639 hT
                          have g0 := gr_I eS639 g0
                          have o_v0 := ob_I eS639 o_v0
                          exact hq _ hI g0 f0 hT
                · refine ⟨fun c640 => ?_, fun c640 => ?_⟩
                  · refine u_X4_next_201 ?_
                    refine ⟨o_v0, ?_⟩
                    intro x641 ex641
                    have q_x641 : x641 = x609 := ex641.trans d_x609.symm
                    have d_x641 := ex641
                    intro x642 ex642
                    intro S643 eS643
                    have hI : IV S643 := by rw [eS643]; exact iv_sI hI o_v0 (by decide) (nu_free (by decide))
                    have f0 := fr_I eS643 g0 f0 o_v0 (by decide)
                    have fL546 := fr_I eS643 gL545 fL546 o_v0 (by decide)
                    have d_y13 := rd_Ij eS643 (by decide) d_y13
                    have d_x614 := rd_Ij eS643 (by decide) d_x614
                    have d_x642 := rd_Is eS643 (rfl : x642 = x642)
                    have hT := tx_I eS643 hT
                    have g0 := gr_I eS643 g0
                    have gL545 := gr_I eS643 gL545
                    have o_v0 := ob_I eS643 o_v0
                    intro x644 ex644
                    exact ih557 _ _ _ _ _ _ ⟨hI, gL545, fL546, rfl, rfl, rfl, rfl, hT, (q307 i1u1 c10 hy13 q_x14 p_x15 q_x21 c22 q_x537 c538 q_x539 c540 q_x541 c542 i1u543 p_k1u543 c559 c584 q_x609 p_x610 q_x614 c615 c640 q_x641 ex642 ex644), (by rw [← d_x614, ← d_x642]; exact (q308 i1u1 c10 hy13 q_x14 p_x15 q_x21 c22 q_x537 c538 q_x539 c540 q_x541 c542 i1u543 p_k1u543 c559 c584 q_x609 p_x610 q_x614 c615 c640 q_x641 ex642 ex644))⟩ (mu_up (q309 i1u1 c10 hy13 q_x14 p_x15 q_x21 c22 q_x537 c538 q_x539 c540 q_x541 c542 i1u543 p_k1u543 c559 c584 q_x609 p_x610 q_x614 c615 c640 q_x641 ex642 ex644) (q310 i1u1 c10 hy13 q_x14 p_x15 q_x21 c22 q_x537 c538 q_x539 c540 q_x541 c542 i1u543 p_k1u543 c559 c584 q_x609 p_x610 q_x614 c615 c640 q_x641 ex642 ex644))
                  · intro x645 ex645
                    have q_x645 : x645 = x609 := ex645.trans d_x609.symm
                    have d_x645 := ex645
                    obtain ⟨a646, ea646, o_a646, l_a646⟩ := id hT
                    refine ⟨a646, ea646, ?_⟩
                    refine ⟨o_a646, ?_⟩
                    have n_a646 : nI (hN S544 a646) = 900 := by rw [show hN S544 a646 = 900 from l_a646]; decide
                    refine ⟨fun c647 => ?_, fun c647 => ?_⟩
                    · rw [n_a646] at c647
                      refine u_X4_next_201 ?_
                      refine ⟨o_v0, ?_⟩
                      intro x648 ex648
                      have q_x648 : x648 = x645 := ex648.trans d_x645.symm
                      have d_x648 := ex648
                      intro x649 ex649
                      intro S650 eS650
                      have hI : IV S650 := by rw [eS650]; exact iv_sI hI o_v0 (by decide) (nu_free (by decide))
                      have f0 := fr_I eS650 g0 f0 o_v0 (by decide)
                      have fL546 := fr_I eS650 gL545 fL546 o_v0 (by decide)
                      have d_y13 := rd_Ij eS650 (by decide) d_y13
                      have d_x614 := rd_Ij eS650 (by decide) d_x614
                      have d_x649 := rd_Is eS650 (rfl : x649 = x649)
                      have ea646 := rf_I eS650 ea646
                      have hT := tx_I eS650 hT
                      have l_a646 := ln_I eS650 l_a646
                      have g0 := gr_I eS650 g0
                      have gL545 := gr_I eS650 gL545
                      have o_a646 := ob_I eS650 o_a646
                      have o_v0 := ob_I eS650 o_v0
                      intro x651 ex651
                      exact ih557 _ _ _ _ _ _ ⟨hI, gL545, fL546, rfl, rfl, rfl, rfl, hT, (q311 i1u1 c10 hy13 q_x14 p_x15 q_x21 c22 q_x537 c538 q_x539 c540 q_x541 c542 i1u543 p_k1u543 c559 c584 q_x609 p_x610 q_x614 c615 c640 q_x645 c647 q_x648 ex649 ex651), (by rw [← d_x614, ← d_x649]; exact (q312 i1u1 c10 hy13 q_x14 p_x15 q_x21 c22 q_x537 c538 q_x539 c540 q_x541 c542 i1u543 p_k1u543 c559 c584 q_x609 p_x610 q_x614 c615 c640 q_x645 c647 q_x648 ex649 ex651))⟩ (mu_up (q313 i1u1 c10 hy13 q_x14 p_x15 q_x21 c22 q_x537 c538 q_x539 c540 q_x541 c542 i1u543 p_k1u543 c559 c584 q_x609 p_x610 q_x614 c615 c640 q_x645 c647 q_x648 ex649 ex651) (q314 i1u1 c10 hy13 q_x14 p_x15 q_x21 c22 q_x537 c538 q_x539 c540 q_x541 c542 i1u543 p_k1u543 c559 c584 q_x609 p_x610 q_x614 c615 c640 q_x645 c647 q_x648 ex649 ex651))
                    · rw [n_a646] at c647
                      intro x652 ex652
                      have dj_x652 := ex652
                      refine ⟨a646, ea646, ?_⟩
                      intro x654 ex654
                      have q_x654 : x654 = x645 := ex654.trans d_x645.symm
                      have d_x654 := ex654
                      refine ⟨o_a646, ?_⟩
                      refine ⟨(vin l_a646 (m := 900) (by decide) (q315 i1u1 c10 hy13 q_x14 p_x15 q_x21 c22 q_x537 c538 q_x539 c540 q_x541 c542 i1u543 p_k1u543 c559 c584 q_x609 p_x610 q_x614 c615 c640 q_x645 c647 q_x654)), ?_⟩
                      intro x655 ex655
                      intro x656 ex656
                      have q_x656 : x656 = x614 := ex656.trans d_x614.symm
                      have d_x656 := ex656
                      refine ⟨fun c657 => ?_, fun c657 => ?_⟩
                      · refine u_X4_next_195 ?_
                        refine ⟨o_v0, ?_⟩
                        intro x658 ex658
                        intro S659 eS659
                        have hI : IV S659 := by rw [eS659]; exact iv_sJ hI o_v0 (by decide)
                        have f0 := fr_J eS659 f0
                        have fL546 := fr_J eS659 fL546
                        have d_y13 := rd_J eS659 d_y13
                        have d_x656 := rd_J eS659 d_x656
                        have d_x654 := rd_J eS659 d_x654
                        have ea646 := rf_J eS659 ea646
                        have hT := tx_J eS659 hT
                        have l_a646 := ln_J eS659 l_a646
                        have g0 := gr_J eS659 g0
                        have gL545 := gr_J eS659 gL545
                        have o_a646 := ob_J eS659 o_a646
                        have o_v0 := ob_J eS659 o_v0
                        refine u_X4_next_201 ?_
                        refine ⟨o_v0, ?_⟩
                        intro x660 ex660
                        have q_x660 : x660 = x654 := ex660.trans d_x654.symm
                        have d_x660 := ex660
                        intro x661 ex661
                        intro S662 eS662
                        have hI : IV S662 := by rw [eS662]; exact iv_sI hI o_v0 (by decide) (nu_free (by decide))
                        have f0 := fr_I eS662 g0 f0 o_v0 (by decide)
                        have fL546 := fr_I eS662 gL545 fL546 o_v0 (by decide)
                        have d_y13 := rd_Ij eS662 (by decide) d_y13
                        have d_x656 := rd_Ij eS662 (by decide) d_x656
                        have d_x661 := rd_Is eS662 (rfl : x661 = x661)
                        have ea646 := rf_I eS662 ea646
                        have hT := tx_I eS662 hT
                        have l_a646 := ln_I eS662 l_a646
                        have g0 := gr_I eS662 g0
                        have gL545 := gr_I eS662 gL545
                        have o_a646 := ob_I eS662 o_a646
                        have o_v0 := ob_I eS662 o_v0
                        intro x663 ex663
                        exact ih557 _ _ _ _ _ _ ⟨hI, gL545, fL546, rfl, rfl, rfl, rfl, hT, (q316 i1u1 c10 hy13 q_x14 p_x15 q_x21 c22 q_x537 c538 q_x539 c540 q_x541 c542 i1u543 p_k1u543 c559 c584 q_x609 p_x610 q_x614 c615 c640 q_x645 c647 q_x654 q_x656 c657 q_x660 ex661 ex663), (by rw [← d_x656, ← d_x661]; exact (q317 i1u1 c10 hy13 q_x14 p_x15 q_x21 c22 q_x537 c538 q_x539 c540 q_x541 c542 i1u543 p_k1u543 c559 c584 q_x609 p_x610 q_x614 c615 c640 q_x645 c647 q_x654 q_x656 c657 q_x660 ex661 ex663))⟩ (mu_up (q318 i1u1 c10 hy13 q_x14 p_x15 q_x21 c22 q_x537 c538 q_x539 c540 q_x541 c542 i1u543 p_k1u543 c559 c584 q_x609 p_x610 q_x614 c615 c640 q_x645 c647 q_x654 q_x656 c657 q_x660 ex661 ex663) (q319 i1u1 c10 hy13 q_x14 p_x15 q_x21 c22 q_x537 c538 q_x539 c540 q_x541 c542 i1u543 p_k1u543 c559 c584 q_x609 p_x610 q_x614 c615 c640 q_x645 c647 q_x654 q_x656 c657 q_x660 ex661 ex663))
                      · refine u_X4_next_195 ?_
                        refine ⟨o_v0, ?_⟩
                        intro x664 ex664
                        intro S665 eS665
                        have hI : IV S665 := by rw [eS665]; exact iv_sJ hI o_v0 (by decide)
                        have f0 := fr_J eS665 f0
                        have fL546 := fr_J eS665 fL546
                        have d_y13 := rd_J eS665 d_y13
                        have d_x656 := rd_J eS665 d_x656
                        have d_x654 := rd_J eS665 d_x654
                        have ea646 := rf_J eS665 ea646
                        have hT := tx_J eS665 hT
                        have l_a646 := ln_J eS665 l_a646
                        have g0 := gr_J eS665 g0
                        have gL545 := gr_J eS665 gL545
                        have o_a646 := ob_J eS665 o_a646
                        have o_v0 := ob_J eS665 o_v0
                        refine u_X4_next_201 ?_
                        refine ⟨o_v0, ?_⟩
                        intro x666 ex666
                        have q_x666 : x666 = x654 := ex666.trans d_x654.symm
                        have d_x666 := ex666
                        intro x667 ex667
                        intro S668 eS668
                        have hI : IV S668 := by rw [eS668]; exact iv_sI hI o_v0 (by decide) (nu_free (by decide))
                        have f0 := fr_I eS668 g0 f0 o_v0 (by decide)
                        have fL546 := fr_I eS668 gL545 fL546 o_v0 (by decide)
                        have d_y13 := rd_Ij eS668 (by decide) d_y13
                        have d_x656 := rd_Ij eS668 (by decide) d_x656
                        have d_x667 := rd_Is eS668 (rfl : x667 = x667)
                        have ea646 := rf_I eS668 ea646
                        have hT := tx_I eS668 hT
                        have l_a646 := ln_I eS668 l_a646
                        have g0 := gr_I eS668 g0
                        have gL545 := gr_I eS668 gL545
                        have o_a646 := ob_I eS668 o_a646
                        have o_v0 := ob_I eS668 o_v0
                        intro x669 ex669
                        exact ih557 _ _ _ _ _ _ ⟨hI, gL545, fL546, rfl, rfl, rfl, rfl, hT, (q320 i1u1 c10 hy13 q_x14 p_x15 q_x21 c22 q_x537 c538 q_x539 c540 q_x541 c542 i1u543 p_k1u543 c559 c584 q_x609 p_x610 q_x614 c615 c640 q_x645 c647 q_x654 q_x656 c657 q_x666 ex667 ex669), (by rw [← d_x656, ← d_x667]; exact (q321 i1u1 c10 hy13 q_x14 p_x15 q_x21 c22 q_x537 c538 q_x539 c540 q_x541 c542 i1u543 p_k1u543 c559 c584 q_x609 p_x610 q_x614 c615 c640 q_x645 c647 q_x654 q_x656 c657 q_x666 ex667 ex669))⟩ (mu_up (q322 i1u1 c10 hy13 q_x14 p_x15 q_x21 c22 q_x537 c538 q_x539 c540 q_x541 c542 i1u543 p_k1u543 c559 c584 q_x609 p_x610 q_x614 c615 c640 q_x645 c647 q_x654 q_x656 c657 q_x666 ex667 ex669) (q323 i1u1 c10 hy13 q_x14 p_x15 q_x21 c22 q_x537 c538 q_x539 c540 q_x541 c542 i1u543 p_k1u543 c559 c584 q_x609 p_x610 q_x614 c615 c640 q_x645 c647 q_x654 q_x656 c657 q_x666 ex667 ex669))
          · refine u_X4_next_114 ?_
            refine i_X4_next_118 (fun (y0 : Nat) (y1 : Int32) (y2 : Int32) (y3 : Int32) (y4 : Int32) (Z : HS) => ((2147483647 : Int32).toInt - y4.toInt).toNat) (fun (y0 : Nat) (y1 : Int32) (y2 : Int32) (y3 : Int32) (y4 : Int32) (Z : HS) => (IV Z) ∧ (Gr S20 Z) ∧ (FRI [(4, 4)] [] S20 Z) ∧ (v0 = y0) ∧ ((0 : Int32) = y1) ∧ ((3 : Int32) = y2) ∧ ((32 : Int32) = y3) ∧ (TX Z v0) ∧ (0 ≤ y4) ∧ ((y1 = 0 ∨ fI Z v0 6 = 1 ∨ fI Z v0 6 = 2) ∧ (y1 = 0 → fI Z v0 6 = 0 ∨ (0 ≤ fI Z v0 4 ∧ fI Z v0 4 < 900)))) ?_ _ _ _ _ _ _ ⟨hI, (gr_rf _), (fri_rf _ _ _), rfl, rfl, rfl, rfl, hT, (q324 i1u1 c10 hy13 q_x14 p_x15 q_x21 c22 q_x537 c538 q_x539 c540 q_x541 c542), (by rw [← d_x541, ← d_x14]; exact (q325 i1u1 c10 hy13 q_x14 p_x15 q_x21 c22 q_x537 c538 q_x539 c540 q_x541 c542))⟩
            intro w674 w676 w678 w680 w682 S671 X683 ⟨hI, gL672, fL673, q675, q677, q679, q681, hT, i1u670, k1u670⟩ ih684
            subst q675
            subst q677
            subst q679
            subst q681
            have d_y13 := d_y13.trans (fri_at fL673 (by decide) (by decide) o_v0).symm
            have d_x541 := d_x541.trans (fri_at fL673 (by decide) (by decide) o_v0).symm
            have f0 := fri_tr (S := S20) g0 f0 fL673 (by decide) (by decide)
            have o_v0 := gr_ob gL672 o_v0
            have g0 := gr_tr (T := S20) g0 gL672
            obtain ⟨y685, d_y685⟩ : ∃ z : Int32, z = fI S671 v0 4 := ⟨_, rfl⟩
            have p_k1u670 : ((0 : Int32) = 0 ∨ x541 = 1 ∨ x541 = 2) ∧ ((0 : Int32) = 0 → x541 = 0 ∨ (0 ≤ y685 ∧ y685 < 900)) := by rw [d_x541, d_y685]; exact k1u670
            refine u_X4_next_118 ?_
            refine ⟨fun c686 => ?_, fun c686 => ?_⟩
            · refine u_X4_next_217 ?_
              refine ⟨fun c687 => ?_, fun c687 => ?_⟩
              · refine u_X4_next_240 ?_
                refine ⟨fun c688 => ?_, fun c688 => ?_⟩
                · exact hq _ hI g0 f0 hT
                · refine ⟨o_v0, ?_⟩
                  intro x689 ex689
                  have q_x689 : x689 = x541 := ex689.trans d_x541.symm
                  have d_x689 := ex689
                  refine ⟨fun c690 => ?_, fun c690 => ?_⟩
                  · exact hq _ hI g0 f0 hT
                  · intro x691 ex691
                    have q_x691 : x691 = y685 := ex691.trans d_y685.symm
                    have d_x691 := ex691
                    intro x692 ex692
                    intro S693 eS693
                    have hI : IV S693 := by rw [eS693]; exact iv_sI hI o_v0 (by decide) (nu_free (by decide))
                    have f0 := fr_I eS693 g0 f0 o_v0 (by decide)
                    have d_y13 := rd_Ij eS693 (by decide) d_y13
                    have d_x689 := rd_Ij eS693 (by decide) d_x689
                    have d_x692 := rd_Is eS693 (rfl : x692 = x692)
                    have hT := tx_I eS693 hT
                    have g0 := gr_I eS693 g0
                    have o_v0 := ob_I eS693 o_v0
                    exact hq _ hI g0 f0 hT
              · refine ⟨o_v0, ?_⟩
                intro x694 ex694
                have q_x694 : x694 = y685 := ex694.trans d_y685.symm
                have d_x694 := ex694
                intro x695 ex695
                have q_x695 : x695 = y13 := ex695.trans d_y13.symm
                have d_x695 := ex695
                refine ⟨fun c696 => ?_, fun c696 => ?_⟩
                · refine u_X4_next_240 ?_
                  refine ⟨fun c697 => ?_, fun c697 => ?_⟩
                  · exact hq _ hI g0 f0 hT
                  · refine ⟨o_v0, ?_⟩
                    intro x698 ex698
                    have q_x698 : x698 = x541 := ex698.trans d_x541.symm
                    have d_x698 := ex698
                    refine ⟨fun c699 => ?_, fun c699 => ?_⟩
                    · exact hq _ hI g0 f0 hT
                    · intro x700 ex700
                      have q_x700 : x700 = x694 := ex700.trans d_x694.symm
                      have d_x700 := ex700
                      intro x701 ex701
                      intro S702 eS702
                      have hI : IV S702 := by rw [eS702]; exact iv_sI hI o_v0 (by decide) (nu_free (by decide))
                      have f0 := fr_I eS702 g0 f0 o_v0 (by decide)
                      have d_x695 := rd_Ij eS702 (by decide) d_x695
                      have d_x698 := rd_Ij eS702 (by decide) d_x698
                      have d_x701 := rd_Is eS702 (rfl : x701 = x701)
                      have hT := tx_I eS702 hT
                      have g0 := gr_I eS702 g0
                      have o_v0 := ob_I eS702 o_v0
                      exact hq _ hI g0 f0 hT
                · intro S703 eS703
                  have hI : IV S703 := by rw [eS703]; exact iv_sI hI o_v0 (by decide) (nu_free (by decide))
                  have f0 := fr_I eS703 g0 f0 o_v0 (by decide)
                  have d_x695 := rd_Ij eS703 (by decide) d_x695
                  have d_x694 := rd_Ij eS703 (by decide) d_x694
                  obtain ⟨y704, hy704⟩ : ∃ z : Int32, z = (6 : Int32) := ⟨_, rfl⟩
                  have d_y704 := rd_Is eS703 hy704
                  have hT := tx_I eS703 hT
                  have g0 := gr_I eS703 g0
                  have o_v0 := ob_I eS703 o_v0
                  refine u_X4_next_240 ?_
                  refine ⟨fun c705 => ?_, fun c705 => ?_⟩
                  · exact hq _ hI g0 f0 hT
                  · refine ⟨o_v0, ?_⟩
                    intro x706 ex706
                    have q_x706 : x706 = y704 := ex706.trans d_y704.symm
                    have d_x706 := ex706
                    refine ⟨fun c707 => ?_, fun c707 => ?_⟩
                    · exact hq _ hI g0 f0 hT
                    · intro x708 ex708
                      have q_x708 : x708 = x694 := ex708.trans d_x694.symm
                      have d_x708 := ex708
                      intro x709 ex709
                      intro S710 eS710
                      have hI : IV S710 := by rw [eS710]; exact iv_sI hI o_v0 (by decide) (nu_free (by decide))
                      have f0 := fr_I eS710 g0 f0 o_v0 (by decide)
                      have d_x695 := rd_Ij eS710 (by decide) d_x695
                      have d_x706 := rd_Ij eS710 (by decide) d_x706
                      have d_x709 := rd_Is eS710 (rfl : x709 = x709)
                      have hT := tx_I eS710 hT
                      have g0 := gr_I eS710 g0
                      have o_v0 := ob_I eS710 o_v0
                      exact hq _ hI g0 f0 hT
            · refine ⟨fun c711 => ?_, fun c711 => ?_⟩
              · refine u_X4_next_217 ?_
                refine ⟨fun c712 => ?_, fun c712 => ?_⟩
                · refine u_X4_next_240 ?_
                  refine ⟨fun c713 => ?_, fun c713 => ?_⟩
                  · exact hq _ hI g0 f0 hT
                  · refine ⟨o_v0, ?_⟩
                    intro x714 ex714
                    have q_x714 : x714 = x541 := ex714.trans d_x541.symm
                    have d_x714 := ex714
                    refine ⟨fun c715 => ?_, fun c715 => ?_⟩
                    · exact hq _ hI g0 f0 hT
                    · intro x716 ex716
                      have q_x716 : x716 = y685 := ex716.trans d_y685.symm
                      have d_x716 := ex716
                      intro x717 ex717
                      intro S718 eS718
                      have hI : IV S718 := by rw [eS718]; exact iv_sI hI o_v0 (by decide) (nu_free (by decide))
                      have f0 := fr_I eS718 g0 f0 o_v0 (by decide)
                      have d_y13 := rd_Ij eS718 (by decide) d_y13
                      have d_x714 := rd_Ij eS718 (by decide) d_x714
                      have d_x717 := rd_Is eS718 (rfl : x717 = x717)
                      have hT := tx_I eS718 hT
                      have g0 := gr_I eS718 g0
                      have o_v0 := ob_I eS718 o_v0
                      exact hq _ hI g0 f0 hT
                · refine ⟨o_v0, ?_⟩
                  intro x719 ex719
                  have q_x719 : x719 = y685 := ex719.trans d_y685.symm
                  have d_x719 := ex719
                  intro x720 ex720
                  have q_x720 : x720 = y13 := ex720.trans d_y13.symm
                  have d_x720 := ex720
                  refine ⟨fun c721 => ?_, fun c721 => ?_⟩
                  · refine u_X4_next_240 ?_
                    refine ⟨fun c722 => ?_, fun c722 => ?_⟩
                    · exact hq _ hI g0 f0 hT
                    · refine ⟨o_v0, ?_⟩
                      intro x723 ex723
                      have q_x723 : x723 = x541 := ex723.trans d_x541.symm
                      have d_x723 := ex723
                      refine ⟨fun c724 => ?_, fun c724 => ?_⟩
                      · exact hq _ hI g0 f0 hT
                      · intro x725 ex725
                        have q_x725 : x725 = x719 := ex725.trans d_x719.symm
                        have d_x725 := ex725
                        intro x726 ex726
                        intro S727 eS727
                        have hI : IV S727 := by rw [eS727]; exact iv_sI hI o_v0 (by decide) (nu_free (by decide))
                        have f0 := fr_I eS727 g0 f0 o_v0 (by decide)
                        have d_x720 := rd_Ij eS727 (by decide) d_x720
                        have d_x723 := rd_Ij eS727 (by decide) d_x723
                        have d_x726 := rd_Is eS727 (rfl : x726 = x726)
                        have hT := tx_I eS727 hT
                        have g0 := gr_I eS727 g0
                        have o_v0 := ob_I eS727 o_v0
                        exact hq _ hI g0 f0 hT
                  · intro S728 eS728
                    have hI : IV S728 := by rw [eS728]; exact iv_sI hI o_v0 (by decide) (nu_free (by decide))
                    have f0 := fr_I eS728 g0 f0 o_v0 (by decide)
                    have d_x720 := rd_Ij eS728 (by decide) d_x720
                    have d_x719 := rd_Ij eS728 (by decide) d_x719
                    obtain ⟨y729, hy729⟩ : ∃ z : Int32, z = (6 : Int32) := ⟨_, rfl⟩
                    have d_y729 := rd_Is eS728 hy729
                    have hT := tx_I eS728 hT
                    have g0 := gr_I eS728 g0
                    have o_v0 := ob_I eS728 o_v0
                    refine u_X4_next_240 ?_
                    refine ⟨fun c730 => ?_, fun c730 => ?_⟩
                    · exact hq _ hI g0 f0 hT
                    · refine ⟨o_v0, ?_⟩
                      intro x731 ex731
                      have q_x731 : x731 = y729 := ex731.trans d_y729.symm
                      have d_x731 := ex731
                      refine ⟨fun c732 => ?_, fun c732 => ?_⟩
                      · exact hq _ hI g0 f0 hT
                      · intro x733 ex733
                        have q_x733 : x733 = x719 := ex733.trans d_x719.symm
                        have d_x733 := ex733
                        intro x734 ex734
                        intro S735 eS735
                        have hI : IV S735 := by rw [eS735]; exact iv_sI hI o_v0 (by decide) (nu_free (by decide))
                        have f0 := fr_I eS735 g0 f0 o_v0 (by decide)
                        have d_x720 := rd_Ij eS735 (by decide) d_x720
                        have d_x731 := rd_Ij eS735 (by decide) d_x731
                        have d_x734 := rd_Is eS735 (rfl : x734 = x734)
                        have hT := tx_I eS735 hT
                        have g0 := gr_I eS735 g0
                        have o_v0 := ob_I eS735 o_v0
                        exact hq _ hI g0 f0 hT
              · refine ⟨o_v0, ?_⟩
                intro x736 ex736
                have q_x736 : x736 = y685 := ex736.trans d_y685.symm
                have d_x736 := ex736
                refine m_X4_sortAt hI o_v0 hT (fun x737 S738 hI2 g739 p_x737 => ?_)
                obtain ⟨z_S738, p_x737⟩ := p_x737
                subst z_S738
                intro _
                intro x741 ex741
                have q_x741 : x741 = x541 := ex741.trans d_x541.symm
                have d_x741 := ex741
                refine ⟨fun c742 => ?_, fun c742 => ?_⟩
                · refine u_X4_next_217 ?_
                  refine ⟨fun c743 => ?_, fun c743 => ?_⟩
                  · refine u_X4_next_240 ?_
                    refine ⟨fun c744 => ?_, fun c744 => ?_⟩
                    · exact hq _ hI g0 f0 hT
                    · refine ⟨o_v0, ?_⟩
                      intro x745 ex745
                      have q_x745 : x745 = x741 := ex745.trans d_x741.symm
                      have d_x745 := ex745
                      refine ⟨fun c746 => ?_, fun c746 => ?_⟩
                      · exact hq _ hI g0 f0 hT
                      · intro x747 ex747
                        have q_x747 : x747 = x736 := ex747.trans d_x736.symm
                        have d_x747 := ex747
                        intro x748 ex748
                        intro S749 eS749
                        have hI : IV S749 := by rw [eS749]; exact iv_sI hI o_v0 (by decide) (nu_free (by decide))
                        have f0 := fr_I eS749 g0 f0 o_v0 (by decide)
                        have d_y13 := rd_Ij eS749 (by decide) d_y13
                        have d_x745 := rd_Ij eS749 (by decide) d_x745
                        have d_x748 := rd_Is eS749 (rfl : x748 = x748)
                        have hT := tx_I eS749 hT
                        have g0 := gr_I eS749 g0
                        have o_v0 := ob_I eS749 o_v0
                        exact hq _ hI g0 f0 hT
                  · refine ⟨o_v0, ?_⟩
                    intro x750 ex750
                    have q_x750 : x750 = x736 := ex750.trans d_x736.symm
                    have d_x750 := ex750
                    intro x751 ex751
                    have q_x751 : x751 = y13 := ex751.trans d_y13.symm
                    have d_x751 := ex751
                    refine ⟨fun c752 => ?_, fun c752 => ?_⟩
                    · refine u_X4_next_240 ?_
                      refine ⟨fun c753 => ?_, fun c753 => ?_⟩
                      · exact hq _ hI g0 f0 hT
                      · refine ⟨o_v0, ?_⟩
                        intro x754 ex754
                        have q_x754 : x754 = x741 := ex754.trans d_x741.symm
                        have d_x754 := ex754
                        refine ⟨fun c755 => ?_, fun c755 => ?_⟩
                        · exact hq _ hI g0 f0 hT
                        · intro x756 ex756
                          have q_x756 : x756 = x750 := ex756.trans d_x750.symm
                          have d_x756 := ex756
                          intro x757 ex757
                          intro S758 eS758
                          have hI : IV S758 := by rw [eS758]; exact iv_sI hI o_v0 (by decide) (nu_free (by decide))
                          have f0 := fr_I eS758 g0 f0 o_v0 (by decide)
                          have d_x751 := rd_Ij eS758 (by decide) d_x751
                          have d_x754 := rd_Ij eS758 (by decide) d_x754
                          have d_x757 := rd_Is eS758 (rfl : x757 = x757)
                          have hT := tx_I eS758 hT
                          have g0 := gr_I eS758 g0
                          have o_v0 := ob_I eS758 o_v0
                          exact hq _ hI g0 f0 hT
                    · intro S759 eS759
                      have hI : IV S759 := by rw [eS759]; exact iv_sI hI o_v0 (by decide) (nu_free (by decide))
                      have f0 := fr_I eS759 g0 f0 o_v0 (by decide)
                      have d_x751 := rd_Ij eS759 (by decide) d_x751
                      have d_x750 := rd_Ij eS759 (by decide) d_x750
                      obtain ⟨y760, hy760⟩ : ∃ z : Int32, z = (6 : Int32) := ⟨_, rfl⟩
                      have d_y760 := rd_Is eS759 hy760
                      have hT := tx_I eS759 hT
                      have g0 := gr_I eS759 g0
                      have o_v0 := ob_I eS759 o_v0
                      refine u_X4_next_240 ?_
                      refine ⟨fun c761 => ?_, fun c761 => ?_⟩
                      · exact hq _ hI g0 f0 hT
                      · refine ⟨o_v0, ?_⟩
                        intro x762 ex762
                        have q_x762 : x762 = y760 := ex762.trans d_y760.symm
                        have d_x762 := ex762
                        refine ⟨fun c763 => ?_, fun c763 => ?_⟩
                        · exact hq _ hI g0 f0 hT
                        · intro x764 ex764
                          have q_x764 : x764 = x750 := ex764.trans d_x750.symm
                          have d_x764 := ex764
                          intro x765 ex765
                          intro S766 eS766
                          have hI : IV S766 := by rw [eS766]; exact iv_sI hI o_v0 (by decide) (nu_free (by decide))
                          have f0 := fr_I eS766 g0 f0 o_v0 (by decide)
                          have d_x751 := rd_Ij eS766 (by decide) d_x751
                          have d_x762 := rd_Ij eS766 (by decide) d_x762
                          have d_x765 := rd_Is eS766 (rfl : x765 = x765)
                          have hT := tx_I eS766 hT
                          have g0 := gr_I eS766 g0
                          have o_v0 := ob_I eS766 o_v0
                          exact hq _ hI g0 f0 hT
                · refine ⟨fun c767 => ?_, fun c767 => ?_⟩
                  · refine u_X4_next_201 ?_
                    refine ⟨o_v0, ?_⟩
                    intro x768 ex768
                    have q_x768 : x768 = x736 := ex768.trans d_x736.symm
                    have d_x768 := ex768
                    intro x769 ex769
                    intro S770 eS770
                    have hI : IV S770 := by rw [eS770]; exact iv_sI hI o_v0 (by decide) (nu_free (by decide))
                    have f0 := fr_I eS770 g0 f0 o_v0 (by decide)
                    have fL673 := fr_I eS770 gL672 fL673 o_v0 (by decide)
                    have d_y13 := rd_Ij eS770 (by decide) d_y13
                    have d_x741 := rd_Ij eS770 (by decide) d_x741
                    have d_x769 := rd_Is eS770 (rfl : x769 = x769)
                    have hT := tx_I eS770 hT
                    have g0 := gr_I eS770 g0
                    have gL672 := gr_I eS770 gL672
                    have o_v0 := ob_I eS770 o_v0
                    intro x771 ex771
                    exact ih684 _ _ _ _ _ _ ⟨hI, gL672, fL673, rfl, rfl, rfl, rfl, hT, (q326 i1u1 c10 hy13 q_x14 p_x15 q_x21 c22 q_x537 c538 q_x539 c540 q_x541 c542 i1u670 p_k1u670 c686 c711 q_x736 p_x737 q_x741 c742 c767 q_x768 ex769 ex771), (by rw [← d_x741, ← d_x769]; exact (q327 i1u1 c10 hy13 q_x14 p_x15 q_x21 c22 q_x537 c538 q_x539 c540 q_x541 c542 i1u670 p_k1u670 c686 c711 q_x736 p_x737 q_x741 c742 c767 q_x768 ex769 ex771))⟩ (mu_up (q328 i1u1 c10 hy13 q_x14 p_x15 q_x21 c22 q_x537 c538 q_x539 c540 q_x541 c542 i1u670 p_k1u670 c686 c711 q_x736 p_x737 q_x741 c742 c767 q_x768 ex769 ex771) (q329 i1u1 c10 hy13 q_x14 p_x15 q_x21 c22 q_x537 c538 q_x539 c540 q_x541 c542 i1u670 p_k1u670 c686 c711 q_x736 p_x737 q_x741 c742 c767 q_x768 ex769 ex771))
                  · intro x772 ex772
                    have q_x772 : x772 = x736 := ex772.trans d_x736.symm
                    have d_x772 := ex772
                    obtain ⟨a773, ea773, o_a773, l_a773⟩ := id hT
                    refine ⟨a773, ea773, ?_⟩
                    refine ⟨o_a773, ?_⟩
                    have n_a773 : nI (hN S671 a773) = 900 := by rw [show hN S671 a773 = 900 from l_a773]; decide
                    refine ⟨fun c774 => ?_, fun c774 => ?_⟩
                    · rw [n_a773] at c774
                      refine u_X4_next_201 ?_
                      refine ⟨o_v0, ?_⟩
                      intro x775 ex775
                      have q_x775 : x775 = x772 := ex775.trans d_x772.symm
                      have d_x775 := ex775
                      intro x776 ex776
                      intro S777 eS777
                      have hI : IV S777 := by rw [eS777]; exact iv_sI hI o_v0 (by decide) (nu_free (by decide))
                      have f0 := fr_I eS777 g0 f0 o_v0 (by decide)
                      have fL673 := fr_I eS777 gL672 fL673 o_v0 (by decide)
                      have d_y13 := rd_Ij eS777 (by decide) d_y13
                      have d_x741 := rd_Ij eS777 (by decide) d_x741
                      have d_x776 := rd_Is eS777 (rfl : x776 = x776)
                      have ea773 := rf_I eS777 ea773
                      have hT := tx_I eS777 hT
                      have l_a773 := ln_I eS777 l_a773
                      have g0 := gr_I eS777 g0
                      have gL672 := gr_I eS777 gL672
                      have o_a773 := ob_I eS777 o_a773
                      have o_v0 := ob_I eS777 o_v0
                      intro x778 ex778
                      exact ih684 _ _ _ _ _ _ ⟨hI, gL672, fL673, rfl, rfl, rfl, rfl, hT, (q330 i1u1 c10 hy13 q_x14 p_x15 q_x21 c22 q_x537 c538 q_x539 c540 q_x541 c542 i1u670 p_k1u670 c686 c711 q_x736 p_x737 q_x741 c742 c767 q_x772 c774 q_x775 ex776 ex778), (by rw [← d_x741, ← d_x776]; exact (q331 i1u1 c10 hy13 q_x14 p_x15 q_x21 c22 q_x537 c538 q_x539 c540 q_x541 c542 i1u670 p_k1u670 c686 c711 q_x736 p_x737 q_x741 c742 c767 q_x772 c774 q_x775 ex776 ex778))⟩ (mu_up (q332 i1u1 c10 hy13 q_x14 p_x15 q_x21 c22 q_x537 c538 q_x539 c540 q_x541 c542 i1u670 p_k1u670 c686 c711 q_x736 p_x737 q_x741 c742 c767 q_x772 c774 q_x775 ex776 ex778) (q333 i1u1 c10 hy13 q_x14 p_x15 q_x21 c22 q_x537 c538 q_x539 c540 q_x541 c542 i1u670 p_k1u670 c686 c711 q_x736 p_x737 q_x741 c742 c767 q_x772 c774 q_x775 ex776 ex778))
                    · rw [n_a773] at c774
                      intro x779 ex779
                      have dj_x779 := ex779
                      refine ⟨a773, ea773, ?_⟩
                      intro x781 ex781
                      have q_x781 : x781 = x772 := ex781.trans d_x772.symm
                      have d_x781 := ex781
                      refine ⟨o_a773, ?_⟩
                      refine ⟨(vin l_a773 (m := 900) (by decide) (q334 i1u1 c10 hy13 q_x14 p_x15 q_x21 c22 q_x537 c538 q_x539 c540 q_x541 c542 i1u670 p_k1u670 c686 c711 q_x736 p_x737 q_x741 c742 c767 q_x772 c774 q_x781)), ?_⟩
                      intro x782 ex782
                      intro x783 ex783
                      have q_x783 : x783 = x741 := ex783.trans d_x741.symm
                      have d_x783 := ex783
                      refine ⟨fun c784 => ?_, fun c784 => ?_⟩
                      · refine u_X4_next_195 ?_
                        refine ⟨o_v0, ?_⟩
                        intro x785 ex785
                        intro S786 eS786
                        have hI : IV S786 := by rw [eS786]; exact iv_sJ hI o_v0 (by decide)
                        have f0 := fr_J eS786 f0
                        have fL673 := fr_J eS786 fL673
                        have d_y13 := rd_J eS786 d_y13
                        have d_x783 := rd_J eS786 d_x783
                        have d_x781 := rd_J eS786 d_x781
                        have ea773 := rf_J eS786 ea773
                        have hT := tx_J eS786 hT
                        have l_a773 := ln_J eS786 l_a773
                        have g0 := gr_J eS786 g0
                        have gL672 := gr_J eS786 gL672
                        have o_a773 := ob_J eS786 o_a773
                        have o_v0 := ob_J eS786 o_v0
                        refine u_X4_next_201 ?_
                        refine ⟨o_v0, ?_⟩
                        intro x787 ex787
                        have q_x787 : x787 = x781 := ex787.trans d_x781.symm
                        have d_x787 := ex787
                        intro x788 ex788
                        intro S789 eS789
                        have hI : IV S789 := by rw [eS789]; exact iv_sI hI o_v0 (by decide) (nu_free (by decide))
                        have f0 := fr_I eS789 g0 f0 o_v0 (by decide)
                        have fL673 := fr_I eS789 gL672 fL673 o_v0 (by decide)
                        have d_y13 := rd_Ij eS789 (by decide) d_y13
                        have d_x783 := rd_Ij eS789 (by decide) d_x783
                        have d_x788 := rd_Is eS789 (rfl : x788 = x788)
                        have ea773 := rf_I eS789 ea773
                        have hT := tx_I eS789 hT
                        have l_a773 := ln_I eS789 l_a773
                        have g0 := gr_I eS789 g0
                        have gL672 := gr_I eS789 gL672
                        have o_a773 := ob_I eS789 o_a773
                        have o_v0 := ob_I eS789 o_v0
                        intro x790 ex790
                        exact ih684 _ _ _ _ _ _ ⟨hI, gL672, fL673, rfl, rfl, rfl, rfl, hT, (q335 i1u1 c10 hy13 q_x14 p_x15 q_x21 c22 q_x537 c538 q_x539 c540 q_x541 c542 i1u670 p_k1u670 c686 c711 q_x736 p_x737 q_x741 c742 c767 q_x772 c774 q_x781 q_x783 c784 q_x787 ex788 ex790), (by rw [← d_x783, ← d_x788]; exact (q336 i1u1 c10 hy13 q_x14 p_x15 q_x21 c22 q_x537 c538 q_x539 c540 q_x541 c542 i1u670 p_k1u670 c686 c711 q_x736 p_x737 q_x741 c742 c767 q_x772 c774 q_x781 q_x783 c784 q_x787 ex788 ex790))⟩ (mu_up (q337 i1u1 c10 hy13 q_x14 p_x15 q_x21 c22 q_x537 c538 q_x539 c540 q_x541 c542 i1u670 p_k1u670 c686 c711 q_x736 p_x737 q_x741 c742 c767 q_x772 c774 q_x781 q_x783 c784 q_x787 ex788 ex790) (q338 i1u1 c10 hy13 q_x14 p_x15 q_x21 c22 q_x537 c538 q_x539 c540 q_x541 c542 i1u670 p_k1u670 c686 c711 q_x736 p_x737 q_x741 c742 c767 q_x772 c774 q_x781 q_x783 c784 q_x787 ex788 ex790))
                      · refine u_X4_next_195 ?_
                        refine ⟨o_v0, ?_⟩
                        intro x791 ex791
                        intro S792 eS792
                        have hI : IV S792 := by rw [eS792]; exact iv_sJ hI o_v0 (by decide)
                        have f0 := fr_J eS792 f0
                        have fL673 := fr_J eS792 fL673
                        have d_y13 := rd_J eS792 d_y13
                        have d_x783 := rd_J eS792 d_x783
                        have d_x781 := rd_J eS792 d_x781
                        have ea773 := rf_J eS792 ea773
                        have hT := tx_J eS792 hT
                        have l_a773 := ln_J eS792 l_a773
                        have g0 := gr_J eS792 g0
                        have gL672 := gr_J eS792 gL672
                        have o_a773 := ob_J eS792 o_a773
                        have o_v0 := ob_J eS792 o_v0
                        refine u_X4_next_201 ?_
                        refine ⟨o_v0, ?_⟩
                        intro x793 ex793
                        have q_x793 : x793 = x781 := ex793.trans d_x781.symm
                        have d_x793 := ex793
                        intro x794 ex794
                        intro S795 eS795
                        have hI : IV S795 := by rw [eS795]; exact iv_sI hI o_v0 (by decide) (nu_free (by decide))
                        have f0 := fr_I eS795 g0 f0 o_v0 (by decide)
                        have fL673 := fr_I eS795 gL672 fL673 o_v0 (by decide)
                        have d_y13 := rd_Ij eS795 (by decide) d_y13
                        have d_x783 := rd_Ij eS795 (by decide) d_x783
                        have d_x794 := rd_Is eS795 (rfl : x794 = x794)
                        have ea773 := rf_I eS795 ea773
                        have hT := tx_I eS795 hT
                        have l_a773 := ln_I eS795 l_a773
                        have g0 := gr_I eS795 g0
                        have gL672 := gr_I eS795 gL672
                        have o_a773 := ob_I eS795 o_a773
                        have o_v0 := ob_I eS795 o_v0
                        intro x796 ex796
                        exact ih684 _ _ _ _ _ _ ⟨hI, gL672, fL673, rfl, rfl, rfl, rfl, hT, (q339 i1u1 c10 hy13 q_x14 p_x15 q_x21 c22 q_x537 c538 q_x539 c540 q_x541 c542 i1u670 p_k1u670 c686 c711 q_x736 p_x737 q_x741 c742 c767 q_x772 c774 q_x781 q_x783 c784 q_x793 ex794 ex796), (by rw [← d_x783, ← d_x794]; exact (q340 i1u1 c10 hy13 q_x14 p_x15 q_x21 c22 q_x537 c538 q_x539 c540 q_x541 c542 i1u670 p_k1u670 c686 c711 q_x736 p_x737 q_x741 c742 c767 q_x772 c774 q_x781 q_x783 c784 q_x793 ex794 ex796))⟩ (mu_up (q341 i1u1 c10 hy13 q_x14 p_x15 q_x21 c22 q_x537 c538 q_x539 c540 q_x541 c542 i1u670 p_k1u670 c686 c711 q_x736 p_x737 q_x741 c742 c767 q_x772 c774 q_x781 q_x783 c784 q_x793 ex794 ex796) (q342 i1u1 c10 hy13 q_x14 p_x15 q_x21 c22 q_x537 c538 q_x539 c540 q_x541 c542 i1u670 p_k1u670 c686 c711 q_x736 p_x737 q_x741 c742 c767 q_x772 c774 q_x781 q_x783 c784 q_x793 ex794 ex796))
        · refine u_X4_next_98 ?_
          refine ⟨o_v0, ?_⟩
          intro x797 ex797
          have q_x797 : x797 = x539 := ex797.trans d_x539.symm
          have d_x797 := ex797
          refine ⟨fun c798 => ?_, fun c798 => ?_⟩
          · refine u_X4_next_114 ?_
            refine i_X4_next_118 (fun (y0 : Nat) (y1 : Int32) (y2 : Int32) (y3 : Int32) (y4 : Int32) (Z : HS) => ((2147483647 : Int32).toInt - y4.toInt).toNat) (fun (y0 : Nat) (y1 : Int32) (y2 : Int32) (y3 : Int32) (y4 : Int32) (Z : HS) => (IV Z) ∧ (Gr S20 Z) ∧ (FRI [(4, 4)] [] S20 Z) ∧ (v0 = y0) ∧ ((0 : Int32) = y1) ∧ ((8 : Int32) = y2) ∧ ((10 : Int32) = y3) ∧ (TX Z v0) ∧ (0 ≤ y4) ∧ ((y1 = 0 ∨ fI Z v0 6 = 1 ∨ fI Z v0 6 = 2) ∧ (y1 = 0 → fI Z v0 6 = 0 ∨ (0 ≤ fI Z v0 4 ∧ fI Z v0 4 < 900)))) ?_ _ _ _ _ _ _ ⟨hI, (gr_rf _), (fri_rf _ _ _), rfl, rfl, rfl, rfl, hT, (q343 i1u1 c10 hy13 q_x14 p_x15 q_x21 c22 q_x537 c538 q_x539 c540 q_x797 c798), (by rw [← d_x797, ← d_x14]; exact (q344 i1u1 c10 hy13 q_x14 p_x15 q_x21 c22 q_x537 c538 q_x539 c540 q_x797 c798))⟩
            intro w803 w805 w807 w809 w811 S800 X812 ⟨hI, gL801, fL802, q804, q806, q808, q810, hT, i1u799, k1u799⟩ ih813
            subst q804
            subst q806
            subst q808
            subst q810
            have d_y13 := d_y13.trans (fri_at fL802 (by decide) (by decide) o_v0).symm
            have d_x797 := d_x797.trans (fri_at fL802 (by decide) (by decide) o_v0).symm
            have f0 := fri_tr (S := S20) g0 f0 fL802 (by decide) (by decide)
            have o_v0 := gr_ob gL801 o_v0
            have g0 := gr_tr (T := S20) g0 gL801
            obtain ⟨y814, d_y814⟩ : ∃ z : Int32, z = fI S800 v0 4 := ⟨_, rfl⟩
            have p_k1u799 : ((0 : Int32) = 0 ∨ x797 = 1 ∨ x797 = 2) ∧ ((0 : Int32) = 0 → x797 = 0 ∨ (0 ≤ y814 ∧ y814 < 900)) := by rw [d_x797, d_y814]; exact k1u799
            refine u_X4_next_118 ?_
            refine ⟨fun c815 => ?_, fun c815 => ?_⟩
            · refine u_X4_next_217 ?_
              refine ⟨fun c816 => ?_, fun c816 => ?_⟩
              · refine u_X4_next_240 ?_
                refine ⟨fun c817 => ?_, fun c817 => ?_⟩
                · exact hq _ hI g0 f0 hT
                · refine ⟨o_v0, ?_⟩
                  intro x818 ex818
                  have q_x818 : x818 = x797 := ex818.trans d_x797.symm
                  have d_x818 := ex818
                  refine ⟨fun c819 => ?_, fun c819 => ?_⟩
                  · exact hq _ hI g0 f0 hT
                  · intro x820 ex820
                    have q_x820 : x820 = y814 := ex820.trans d_y814.symm
                    have d_x820 := ex820
                    intro x821 ex821
                    intro S822 eS822
                    have hI : IV S822 := by rw [eS822]; exact iv_sI hI o_v0 (by decide) (nu_free (by decide))
                    have f0 := fr_I eS822 g0 f0 o_v0 (by decide)
                    have d_y13 := rd_Ij eS822 (by decide) d_y13
                    have d_x818 := rd_Ij eS822 (by decide) d_x818
                    have d_x821 := rd_Is eS822 (rfl : x821 = x821)
                    have hT := tx_I eS822 hT
                    have g0 := gr_I eS822 g0
                    have o_v0 := ob_I eS822 o_v0
                    exact hq _ hI g0 f0 hT
              · refine ⟨o_v0, ?_⟩
                intro x823 ex823
                have q_x823 : x823 = y814 := ex823.trans d_y814.symm
                have d_x823 := ex823
                intro x824 ex824
                have q_x824 : x824 = y13 := ex824.trans d_y13.symm
                have d_x824 := ex824
                refine ⟨fun c825 => ?_, fun c825 => ?_⟩
                · refine u_X4_next_240 ?_
                  refine ⟨fun c826 => ?_, fun c826 => ?_⟩
                  · exact hq _ hI g0 f0 hT
                  · refine ⟨o_v0, ?_⟩
                    intro x827 ex827
                    have q_x827 : x827 = x797 := ex827.trans d_x797.symm
                    have d_x827 := ex827
                    refine ⟨fun c828 => ?_, fun c828 => ?_⟩
                    · exact hq _ hI g0 f0 hT
                    · intro x829 ex829
                      have q_x829 : x829 = x823 := ex829.trans d_x823.symm
                      have d_x829 := ex829
                      intro x830 ex830
                      intro S831 eS831
                      have hI : IV S831 := by rw [eS831]; exact iv_sI hI o_v0 (by decide) (nu_free (by decide))
                      have f0 := fr_I eS831 g0 f0 o_v0 (by decide)
                      have d_x824 := rd_Ij eS831 (by decide) d_x824
                      have d_x827 := rd_Ij eS831 (by decide) d_x827
                      have d_x830 := rd_Is eS831 (rfl : x830 = x830)
                      have hT := tx_I eS831 hT
                      have g0 := gr_I eS831 g0
                      have o_v0 := ob_I eS831 o_v0
                      exact hq _ hI g0 f0 hT
                · intro S832 eS832
                  have hI : IV S832 := by rw [eS832]; exact iv_sI hI o_v0 (by decide) (nu_free (by decide))
                  have f0 := fr_I eS832 g0 f0 o_v0 (by decide)
                  have d_x824 := rd_Ij eS832 (by decide) d_x824
                  have d_x823 := rd_Ij eS832 (by decide) d_x823
                  obtain ⟨y833, hy833⟩ : ∃ z : Int32, z = (6 : Int32) := ⟨_, rfl⟩
                  have d_y833 := rd_Is eS832 hy833
                  have hT := tx_I eS832 hT
                  have g0 := gr_I eS832 g0
                  have o_v0 := ob_I eS832 o_v0
                  refine u_X4_next_240 ?_
                  refine ⟨fun c834 => ?_, fun c834 => ?_⟩
                  · exact hq _ hI g0 f0 hT
                  · refine ⟨o_v0, ?_⟩
                    intro x835 ex835
                    have q_x835 : x835 = y833 := ex835.trans d_y833.symm
                    have d_x835 := ex835
                    refine ⟨fun c836 => ?_, fun c836 => ?_⟩
                    · exact hq _ hI g0 f0 hT
                    · intro x837 ex837
                      have q_x837 : x837 = x823 := ex837.trans d_x823.symm
                      have d_x837 := ex837
                      intro x838 ex838
                      intro S839 eS839
                      have hI : IV S839 := by rw [eS839]; exact iv_sI hI o_v0 (by decide) (nu_free (by decide))
                      have f0 := fr_I eS839 g0 f0 o_v0 (by decide)
                      have d_x824 := rd_Ij eS839 (by decide) d_x824
                      have d_x835 := rd_Ij eS839 (by decide) d_x835
                      have d_x838 := rd_Is eS839 (rfl : x838 = x838)
                      have hT := tx_I eS839 hT
                      have g0 := gr_I eS839 g0
                      have o_v0 := ob_I eS839 o_v0
                      exact hq _ hI g0 f0 hT
            · refine ⟨fun c840 => ?_, fun c840 => ?_⟩
              · refine u_X4_next_217 ?_
                refine ⟨fun c841 => ?_, fun c841 => ?_⟩
                · refine u_X4_next_240 ?_
                  refine ⟨fun c842 => ?_, fun c842 => ?_⟩
                  · exact hq _ hI g0 f0 hT
                  · refine ⟨o_v0, ?_⟩
                    intro x843 ex843
                    have q_x843 : x843 = x797 := ex843.trans d_x797.symm
                    have d_x843 := ex843
                    refine ⟨fun c844 => ?_, fun c844 => ?_⟩
                    · exact hq _ hI g0 f0 hT
                    · intro x845 ex845
                      have q_x845 : x845 = y814 := ex845.trans d_y814.symm
                      have d_x845 := ex845
                      intro x846 ex846
                      intro S847 eS847
                      have hI : IV S847 := by rw [eS847]; exact iv_sI hI o_v0 (by decide) (nu_free (by decide))
                      have f0 := fr_I eS847 g0 f0 o_v0 (by decide)
                      have d_y13 := rd_Ij eS847 (by decide) d_y13
                      have d_x843 := rd_Ij eS847 (by decide) d_x843
                      have d_x846 := rd_Is eS847 (rfl : x846 = x846)
                      have hT := tx_I eS847 hT
                      have g0 := gr_I eS847 g0
                      have o_v0 := ob_I eS847 o_v0
                      exact hq _ hI g0 f0 hT
                · refine ⟨o_v0, ?_⟩
                  intro x848 ex848
                  have q_x848 : x848 = y814 := ex848.trans d_y814.symm
                  have d_x848 := ex848
                  intro x849 ex849
                  have q_x849 : x849 = y13 := ex849.trans d_y13.symm
                  have d_x849 := ex849
                  refine ⟨fun c850 => ?_, fun c850 => ?_⟩
                  · refine u_X4_next_240 ?_
                    refine ⟨fun c851 => ?_, fun c851 => ?_⟩
                    · exact hq _ hI g0 f0 hT
                    · refine ⟨o_v0, ?_⟩
                      intro x852 ex852
                      have q_x852 : x852 = x797 := ex852.trans d_x797.symm
                      have d_x852 := ex852
                      refine ⟨fun c853 => ?_, fun c853 => ?_⟩
                      · exact hq _ hI g0 f0 hT
                      · intro x854 ex854
                        have q_x854 : x854 = x848 := ex854.trans d_x848.symm
                        have d_x854 := ex854
                        intro x855 ex855
                        intro S856 eS856
                        have hI : IV S856 := by rw [eS856]; exact iv_sI hI o_v0 (by decide) (nu_free (by decide))
                        have f0 := fr_I eS856 g0 f0 o_v0 (by decide)
                        have d_x849 := rd_Ij eS856 (by decide) d_x849
                        have d_x852 := rd_Ij eS856 (by decide) d_x852
                        have d_x855 := rd_Is eS856 (rfl : x855 = x855)
                        have hT := tx_I eS856 hT
                        have g0 := gr_I eS856 g0
                        have o_v0 := ob_I eS856 o_v0
                        exact hq _ hI g0 f0 hT
                  · intro S857 eS857
                    have hI : IV S857 := by rw [eS857]; exact iv_sI hI o_v0 (by decide) (nu_free (by decide))
                    have f0 := fr_I eS857 g0 f0 o_v0 (by decide)
                    have d_x849 := rd_Ij eS857 (by decide) d_x849
                    have d_x848 := rd_Ij eS857 (by decide) d_x848
                    obtain ⟨y858, hy858⟩ : ∃ z : Int32, z = (6 : Int32) := ⟨_, rfl⟩
                    have d_y858 := rd_Is eS857 hy858
                    have hT := tx_I eS857 hT
                    have g0 := gr_I eS857 g0
                    have o_v0 := ob_I eS857 o_v0
                    refine u_X4_next_240 ?_
                    refine ⟨fun c859 => ?_, fun c859 => ?_⟩
                    · exact hq _ hI g0 f0 hT
                    · refine ⟨o_v0, ?_⟩
                      intro x860 ex860
                      have q_x860 : x860 = y858 := ex860.trans d_y858.symm
                      have d_x860 := ex860
                      refine ⟨fun c861 => ?_, fun c861 => ?_⟩
                      · exact hq _ hI g0 f0 hT
                      · intro x862 ex862
                        have q_x862 : x862 = x848 := ex862.trans d_x848.symm
                        have d_x862 := ex862
                        intro x863 ex863
                        intro S864 eS864
                        have hI : IV S864 := by rw [eS864]; exact iv_sI hI o_v0 (by decide) (nu_free (by decide))
                        have f0 := fr_I eS864 g0 f0 o_v0 (by decide)
                        have d_x849 := rd_Ij eS864 (by decide) d_x849
                        have d_x860 := rd_Ij eS864 (by decide) d_x860
                        have d_x863 := rd_Is eS864 (rfl : x863 = x863)
                        have hT := tx_I eS864 hT
                        have g0 := gr_I eS864 g0
                        have o_v0 := ob_I eS864 o_v0
                        exact hq _ hI g0 f0 hT
              · refine ⟨o_v0, ?_⟩
                intro x865 ex865
                have q_x865 : x865 = y814 := ex865.trans d_y814.symm
                have d_x865 := ex865
                refine m_X4_sortAt hI o_v0 hT (fun x866 S867 hI2 g868 p_x866 => ?_)
                obtain ⟨z_S867, p_x866⟩ := p_x866
                subst z_S867
                intro _
                intro x870 ex870
                have q_x870 : x870 = x797 := ex870.trans d_x797.symm
                have d_x870 := ex870
                refine ⟨fun c871 => ?_, fun c871 => ?_⟩
                · refine u_X4_next_217 ?_
                  refine ⟨fun c872 => ?_, fun c872 => ?_⟩
                  · refine u_X4_next_240 ?_
                    refine ⟨fun c873 => ?_, fun c873 => ?_⟩
                    · exact hq _ hI g0 f0 hT
                    · refine ⟨o_v0, ?_⟩
                      intro x874 ex874
                      have q_x874 : x874 = x870 := ex874.trans d_x870.symm
                      have d_x874 := ex874
                      refine ⟨fun c875 => ?_, fun c875 => ?_⟩
                      · exact hq _ hI g0 f0 hT
                      · intro x876 ex876
                        have q_x876 : x876 = x865 := ex876.trans d_x865.symm
                        have d_x876 := ex876
                        intro x877 ex877
                        intro S878 eS878
                        have hI : IV S878 := by rw [eS878]; exact iv_sI hI o_v0 (by decide) (nu_free (by decide))
                        have f0 := fr_I eS878 g0 f0 o_v0 (by decide)
                        have d_y13 := rd_Ij eS878 (by decide) d_y13
                        have d_x874 := rd_Ij eS878 (by decide) d_x874
                        have d_x877 := rd_Is eS878 (rfl : x877 = x877)
                        have hT := tx_I eS878 hT
                        have g0 := gr_I eS878 g0
                        have o_v0 := ob_I eS878 o_v0
                        exact hq _ hI g0 f0 hT
                  · refine ⟨o_v0, ?_⟩
                    intro x879 ex879
                    have q_x879 : x879 = x865 := ex879.trans d_x865.symm
                    have d_x879 := ex879
                    intro x880 ex880
                    have q_x880 : x880 = y13 := ex880.trans d_y13.symm
                    have d_x880 := ex880
                    refine ⟨fun c881 => ?_, fun c881 => ?_⟩
                    · refine u_X4_next_240 ?_
                      refine ⟨fun c882 => ?_, fun c882 => ?_⟩
                      · exact hq _ hI g0 f0 hT
                      · refine ⟨o_v0, ?_⟩
                        intro x883 ex883
                        have q_x883 : x883 = x870 := ex883.trans d_x870.symm
                        have d_x883 := ex883
                        refine ⟨fun c884 => ?_, fun c884 => ?_⟩
                        · exact hq _ hI g0 f0 hT
                        · intro x885 ex885
                          have q_x885 : x885 = x879 := ex885.trans d_x879.symm
                          have d_x885 := ex885
                          intro x886 ex886
                          intro S887 eS887
                          have hI : IV S887 := by rw [eS887]; exact iv_sI hI o_v0 (by decide) (nu_free (by decide))
                          have f0 := fr_I eS887 g0 f0 o_v0 (by decide)
                          have d_x880 := rd_Ij eS887 (by decide) d_x880
                          have d_x883 := rd_Ij eS887 (by decide) d_x883
                          have d_x886 := rd_Is eS887 (rfl : x886 = x886)
                          have hT := tx_I eS887 hT
                          have g0 := gr_I eS887 g0
                          have o_v0 := ob_I eS887 o_v0
                          exact hq _ hI g0 f0 hT
                    · intro S888 eS888
                      have hI : IV S888 := by rw [eS888]; exact iv_sI hI o_v0 (by decide) (nu_free (by decide))
                      have f0 := fr_I eS888 g0 f0 o_v0 (by decide)
                      have d_x880 := rd_Ij eS888 (by decide) d_x880
                      have d_x879 := rd_Ij eS888 (by decide) d_x879
                      obtain ⟨y889, hy889⟩ : ∃ z : Int32, z = (6 : Int32) := ⟨_, rfl⟩
                      have d_y889 := rd_Is eS888 hy889
                      have hT := tx_I eS888 hT
                      have g0 := gr_I eS888 g0
                      have o_v0 := ob_I eS888 o_v0
                      refine u_X4_next_240 ?_
                      refine ⟨fun c890 => ?_, fun c890 => ?_⟩
                      · exact hq _ hI g0 f0 hT
                      · refine ⟨o_v0, ?_⟩
                        intro x891 ex891
                        have q_x891 : x891 = y889 := ex891.trans d_y889.symm
                        have d_x891 := ex891
                        refine ⟨fun c892 => ?_, fun c892 => ?_⟩
                        · exact hq _ hI g0 f0 hT
                        · intro x893 ex893
                          have q_x893 : x893 = x879 := ex893.trans d_x879.symm
                          have d_x893 := ex893
                          intro x894 ex894
                          intro S895 eS895
                          have hI : IV S895 := by rw [eS895]; exact iv_sI hI o_v0 (by decide) (nu_free (by decide))
                          have f0 := fr_I eS895 g0 f0 o_v0 (by decide)
                          have d_x880 := rd_Ij eS895 (by decide) d_x880
                          have d_x891 := rd_Ij eS895 (by decide) d_x891
                          have d_x894 := rd_Is eS895 (rfl : x894 = x894)
                          have hT := tx_I eS895 hT
                          have g0 := gr_I eS895 g0
                          have o_v0 := ob_I eS895 o_v0
                          exact hq _ hI g0 f0 hT
                · refine ⟨fun c896 => ?_, fun c896 => ?_⟩
                  · refine u_X4_next_201 ?_
                    refine ⟨o_v0, ?_⟩
                    intro x897 ex897
                    have q_x897 : x897 = x865 := ex897.trans d_x865.symm
                    have d_x897 := ex897
                    intro x898 ex898
                    intro S899 eS899
                    have hI : IV S899 := by rw [eS899]; exact iv_sI hI o_v0 (by decide) (nu_free (by decide))
                    have f0 := fr_I eS899 g0 f0 o_v0 (by decide)
                    have fL802 := fr_I eS899 gL801 fL802 o_v0 (by decide)
                    have d_y13 := rd_Ij eS899 (by decide) d_y13
                    have d_x870 := rd_Ij eS899 (by decide) d_x870
                    have d_x898 := rd_Is eS899 (rfl : x898 = x898)
                    have hT := tx_I eS899 hT
                    have g0 := gr_I eS899 g0
                    have gL801 := gr_I eS899 gL801
                    have o_v0 := ob_I eS899 o_v0
                    intro x900 ex900
                    exact ih813 _ _ _ _ _ _ ⟨hI, gL801, fL802, rfl, rfl, rfl, rfl, hT, (q345 i1u1 c10 hy13 q_x14 p_x15 q_x21 c22 q_x537 c538 q_x539 c540 q_x797 c798 i1u799 p_k1u799 c815 c840 q_x865 p_x866 q_x870 c871 c896 q_x897 ex898 ex900), (by rw [← d_x870, ← d_x898]; exact (q346 i1u1 c10 hy13 q_x14 p_x15 q_x21 c22 q_x537 c538 q_x539 c540 q_x797 c798 i1u799 p_k1u799 c815 c840 q_x865 p_x866 q_x870 c871 c896 q_x897 ex898 ex900))⟩ (mu_up (q347 i1u1 c10 hy13 q_x14 p_x15 q_x21 c22 q_x537 c538 q_x539 c540 q_x797 c798 i1u799 p_k1u799 c815 c840 q_x865 p_x866 q_x870 c871 c896 q_x897 ex898 ex900) (q348 i1u1 c10 hy13 q_x14 p_x15 q_x21 c22 q_x537 c538 q_x539 c540 q_x797 c798 i1u799 p_k1u799 c815 c840 q_x865 p_x866 q_x870 c871 c896 q_x897 ex898 ex900))
                  · intro x901 ex901
                    have q_x901 : x901 = x865 := ex901.trans d_x865.symm
                    have d_x901 := ex901
                    obtain ⟨a902, ea902, o_a902, l_a902⟩ := id hT
                    refine ⟨a902, ea902, ?_⟩
                    refine ⟨o_a902, ?_⟩
                    have n_a902 : nI (hN S800 a902) = 900 := by rw [show hN S800 a902 = 900 from l_a902]; decide
                    refine ⟨fun c903 => ?_, fun c903 => ?_⟩
                    · rw [n_a902] at c903
                      refine u_X4_next_201 ?_
                      refine ⟨o_v0, ?_⟩
                      intro x904 ex904
                      have q_x904 : x904 = x901 := ex904.trans d_x901.symm
                      have d_x904 := ex904
                      intro x905 ex905
                      intro S906 eS906
                      have hI : IV S906 := by rw [eS906]; exact iv_sI hI o_v0 (by decide) (nu_free (by decide))
                      have f0 := fr_I eS906 g0 f0 o_v0 (by decide)
                      have fL802 := fr_I eS906 gL801 fL802 o_v0 (by decide)
                      have d_y13 := rd_Ij eS906 (by decide) d_y13
                      have d_x870 := rd_Ij eS906 (by decide) d_x870
                      have d_x905 := rd_Is eS906 (rfl : x905 = x905)
                      have ea902 := rf_I eS906 ea902
                      have hT := tx_I eS906 hT
                      have l_a902 := ln_I eS906 l_a902
                      have g0 := gr_I eS906 g0
                      have gL801 := gr_I eS906 gL801
                      have o_a902 := ob_I eS906 o_a902
                      have o_v0 := ob_I eS906 o_v0
                      intro x907 ex907
                      exact ih813 _ _ _ _ _ _ ⟨hI, gL801, fL802, rfl, rfl, rfl, rfl, hT, (q349 i1u1 c10 hy13 q_x14 p_x15 q_x21 c22 q_x537 c538 q_x539 c540 q_x797 c798 i1u799 p_k1u799 c815 c840 q_x865 p_x866 q_x870 c871 c896 q_x901 c903 q_x904 ex905 ex907), (by rw [← d_x870, ← d_x905]; exact (q350 i1u1 c10 hy13 q_x14 p_x15 q_x21 c22 q_x537 c538 q_x539 c540 q_x797 c798 i1u799 p_k1u799 c815 c840 q_x865 p_x866 q_x870 c871 c896 q_x901 c903 q_x904 ex905 ex907))⟩ (mu_up (q351 i1u1 c10 hy13 q_x14 p_x15 q_x21 c22 q_x537 c538 q_x539 c540 q_x797 c798 i1u799 p_k1u799 c815 c840 q_x865 p_x866 q_x870 c871 c896 q_x901 c903 q_x904 ex905 ex907) (q352 i1u1 c10 hy13 q_x14 p_x15 q_x21 c22 q_x537 c538 q_x539 c540 q_x797 c798 i1u799 p_k1u799 c815 c840 q_x865 p_x866 q_x870 c871 c896 q_x901 c903 q_x904 ex905 ex907))
                    · rw [n_a902] at c903
                      intro x908 ex908
                      have dj_x908 := ex908
                      refine ⟨a902, ea902, ?_⟩
                      intro x910 ex910
                      have q_x910 : x910 = x901 := ex910.trans d_x901.symm
                      have d_x910 := ex910
                      refine ⟨o_a902, ?_⟩
                      refine ⟨(vin l_a902 (m := 900) (by decide) (q353 i1u1 c10 hy13 q_x14 p_x15 q_x21 c22 q_x537 c538 q_x539 c540 q_x797 c798 i1u799 p_k1u799 c815 c840 q_x865 p_x866 q_x870 c871 c896 q_x901 c903 q_x910)), ?_⟩
                      intro x911 ex911
                      intro x912 ex912
                      have q_x912 : x912 = x870 := ex912.trans d_x870.symm
                      have d_x912 := ex912
                      refine ⟨fun c913 => ?_, fun c913 => ?_⟩
                      · refine u_X4_next_195 ?_
                        refine ⟨o_v0, ?_⟩
                        intro x914 ex914
                        intro S915 eS915
                        have hI : IV S915 := by rw [eS915]; exact iv_sJ hI o_v0 (by decide)
                        have f0 := fr_J eS915 f0
                        have fL802 := fr_J eS915 fL802
                        have d_y13 := rd_J eS915 d_y13
                        have d_x912 := rd_J eS915 d_x912
                        have d_x910 := rd_J eS915 d_x910
                        have ea902 := rf_J eS915 ea902
                        have hT := tx_J eS915 hT
                        have l_a902 := ln_J eS915 l_a902
                        have g0 := gr_J eS915 g0
                        have gL801 := gr_J eS915 gL801
                        have o_a902 := ob_J eS915 o_a902
                        have o_v0 := ob_J eS915 o_v0
                        refine u_X4_next_201 ?_
                        refine ⟨o_v0, ?_⟩
                        intro x916 ex916
                        have q_x916 : x916 = x910 := ex916.trans d_x910.symm
                        have d_x916 := ex916
                        intro x917 ex917
                        intro S918 eS918
                        have hI : IV S918 := by rw [eS918]; exact iv_sI hI o_v0 (by decide) (nu_free (by decide))
                        have f0 := fr_I eS918 g0 f0 o_v0 (by decide)
                        have fL802 := fr_I eS918 gL801 fL802 o_v0 (by decide)
                        have d_y13 := rd_Ij eS918 (by decide) d_y13
                        have d_x912 := rd_Ij eS918 (by decide) d_x912
                        have d_x917 := rd_Is eS918 (rfl : x917 = x917)
                        have ea902 := rf_I eS918 ea902
                        have hT := tx_I eS918 hT
                        have l_a902 := ln_I eS918 l_a902
                        have g0 := gr_I eS918 g0
                        have gL801 := gr_I eS918 gL801
                        have o_a902 := ob_I eS918 o_a902
                        have o_v0 := ob_I eS918 o_v0
                        intro x919 ex919
                        exact ih813 _ _ _ _ _ _ ⟨hI, gL801, fL802, rfl, rfl, rfl, rfl, hT, (q354 i1u1 c10 hy13 q_x14 p_x15 q_x21 c22 q_x537 c538 q_x539 c540 q_x797 c798 i1u799 p_k1u799 c815 c840 q_x865 p_x866 q_x870 c871 c896 q_x901 c903 q_x910 q_x912 c913 q_x916 ex917 ex919), (by rw [← d_x912, ← d_x917]; exact (q355 i1u1 c10 hy13 q_x14 p_x15 q_x21 c22 q_x537 c538 q_x539 c540 q_x797 c798 i1u799 p_k1u799 c815 c840 q_x865 p_x866 q_x870 c871 c896 q_x901 c903 q_x910 q_x912 c913 q_x916 ex917 ex919))⟩ (mu_up (q356 i1u1 c10 hy13 q_x14 p_x15 q_x21 c22 q_x537 c538 q_x539 c540 q_x797 c798 i1u799 p_k1u799 c815 c840 q_x865 p_x866 q_x870 c871 c896 q_x901 c903 q_x910 q_x912 c913 q_x916 ex917 ex919) (q357 i1u1 c10 hy13 q_x14 p_x15 q_x21 c22 q_x537 c538 q_x539 c540 q_x797 c798 i1u799 p_k1u799 c815 c840 q_x865 p_x866 q_x870 c871 c896 q_x901 c903 q_x910 q_x912 c913 q_x916 ex917 ex919))
                      · refine u_X4_next_195 ?_
                        refine ⟨o_v0, ?_⟩
                        intro x920 ex920
                        intro S921 eS921
                        have hI : IV S921 := by rw [eS921]; exact iv_sJ hI o_v0 (by decide)
                        have f0 := fr_J eS921 f0
                        have fL802 := fr_J eS921 fL802
                        have d_y13 := rd_J eS921 d_y13
                        have d_x912 := rd_J eS921 d_x912
                        have d_x910 := rd_J eS921 d_x910
                        have ea902 := rf_J eS921 ea902
                        have hT := tx_J eS921 hT
                        have l_a902 := ln_J eS921 l_a902
                        have g0 := gr_J eS921 g0
                        have gL801 := gr_J eS921 gL801
                        have o_a902 := ob_J eS921 o_a902
                        have o_v0 := ob_J eS921 o_v0
                        refine u_X4_next_201 ?_
                        refine ⟨o_v0, ?_⟩
                        intro x922 ex922
                        have q_x922 : x922 = x910 := ex922.trans d_x910.symm
                        have d_x922 := ex922
                        intro x923 ex923
                        intro S924 eS924
                        have hI : IV S924 := by rw [eS924]; exact iv_sI hI o_v0 (by decide) (nu_free (by decide))
                        have f0 := fr_I eS924 g0 f0 o_v0 (by decide)
                        have fL802 := fr_I eS924 gL801 fL802 o_v0 (by decide)
                        have d_y13 := rd_Ij eS924 (by decide) d_y13
                        have d_x912 := rd_Ij eS924 (by decide) d_x912
                        have d_x923 := rd_Is eS924 (rfl : x923 = x923)
                        have ea902 := rf_I eS924 ea902
                        have hT := tx_I eS924 hT
                        have l_a902 := ln_I eS924 l_a902
                        have g0 := gr_I eS924 g0
                        have gL801 := gr_I eS924 gL801
                        have o_a902 := ob_I eS924 o_a902
                        have o_v0 := ob_I eS924 o_v0
                        intro x925 ex925
                        exact ih813 _ _ _ _ _ _ ⟨hI, gL801, fL802, rfl, rfl, rfl, rfl, hT, (q358 i1u1 c10 hy13 q_x14 p_x15 q_x21 c22 q_x537 c538 q_x539 c540 q_x797 c798 i1u799 p_k1u799 c815 c840 q_x865 p_x866 q_x870 c871 c896 q_x901 c903 q_x910 q_x912 c913 q_x922 ex923 ex925), (by rw [← d_x912, ← d_x923]; exact (q359 i1u1 c10 hy13 q_x14 p_x15 q_x21 c22 q_x537 c538 q_x539 c540 q_x797 c798 i1u799 p_k1u799 c815 c840 q_x865 p_x866 q_x870 c871 c896 q_x901 c903 q_x910 q_x912 c913 q_x922 ex923 ex925))⟩ (mu_up (q360 i1u1 c10 hy13 q_x14 p_x15 q_x21 c22 q_x537 c538 q_x539 c540 q_x797 c798 i1u799 p_k1u799 c815 c840 q_x865 p_x866 q_x870 c871 c896 q_x901 c903 q_x910 q_x912 c913 q_x922 ex923 ex925) (q361 i1u1 c10 hy13 q_x14 p_x15 q_x21 c22 q_x537 c538 q_x539 c540 q_x797 c798 i1u799 p_k1u799 c815 c840 q_x865 p_x866 q_x870 c871 c896 q_x901 c903 q_x910 q_x912 c913 q_x922 ex923 ex925))
          · refine u_X4_next_114 ?_
            refine i_X4_next_118 (fun (y0 : Nat) (y1 : Int32) (y2 : Int32) (y3 : Int32) (y4 : Int32) (Z : HS) => ((2147483647 : Int32).toInt - y4.toInt).toNat) (fun (y0 : Nat) (y1 : Int32) (y2 : Int32) (y3 : Int32) (y4 : Int32) (Z : HS) => (IV Z) ∧ (Gr S20 Z) ∧ (FRI [(4, 4)] [] S20 Z) ∧ (v0 = y0) ∧ ((0 : Int32) = y1) ∧ ((8 : Int32) = y2) ∧ ((32 : Int32) = y3) ∧ (TX Z v0) ∧ (0 ≤ y4) ∧ ((y1 = 0 ∨ fI Z v0 6 = 1 ∨ fI Z v0 6 = 2) ∧ (y1 = 0 → fI Z v0 6 = 0 ∨ (0 ≤ fI Z v0 4 ∧ fI Z v0 4 < 900)))) ?_ _ _ _ _ _ _ ⟨hI, (gr_rf _), (fri_rf _ _ _), rfl, rfl, rfl, rfl, hT, (q362 i1u1 c10 hy13 q_x14 p_x15 q_x21 c22 q_x537 c538 q_x539 c540 q_x797 c798), (by rw [← d_x797, ← d_x14]; exact (q363 i1u1 c10 hy13 q_x14 p_x15 q_x21 c22 q_x537 c538 q_x539 c540 q_x797 c798))⟩
            intro w930 w932 w934 w936 w938 S927 X939 ⟨hI, gL928, fL929, q931, q933, q935, q937, hT, i1u926, k1u926⟩ ih940
            subst q931
            subst q933
            subst q935
            subst q937
            have d_y13 := d_y13.trans (fri_at fL929 (by decide) (by decide) o_v0).symm
            have d_x797 := d_x797.trans (fri_at fL929 (by decide) (by decide) o_v0).symm
            have f0 := fri_tr (S := S20) g0 f0 fL929 (by decide) (by decide)
            have o_v0 := gr_ob gL928 o_v0
            have g0 := gr_tr (T := S20) g0 gL928
            obtain ⟨y941, d_y941⟩ : ∃ z : Int32, z = fI S927 v0 4 := ⟨_, rfl⟩
            have p_k1u926 : ((0 : Int32) = 0 ∨ x797 = 1 ∨ x797 = 2) ∧ ((0 : Int32) = 0 → x797 = 0 ∨ (0 ≤ y941 ∧ y941 < 900)) := by rw [d_x797, d_y941]; exact k1u926
            refine u_X4_next_118 ?_
            refine ⟨fun c942 => ?_, fun c942 => ?_⟩
            · refine u_X4_next_217 ?_
              refine ⟨fun c943 => ?_, fun c943 => ?_⟩
              · refine u_X4_next_240 ?_
                refine ⟨fun c944 => ?_, fun c944 => ?_⟩
                · exact hq _ hI g0 f0 hT
                · refine ⟨o_v0, ?_⟩
                  intro x945 ex945
                  have q_x945 : x945 = x797 := ex945.trans d_x797.symm
                  have d_x945 := ex945
                  refine ⟨fun c946 => ?_, fun c946 => ?_⟩
                  · exact hq _ hI g0 f0 hT
                  · intro x947 ex947
                    have q_x947 : x947 = y941 := ex947.trans d_y941.symm
                    have d_x947 := ex947
                    intro x948 ex948
                    intro S949 eS949
                    have hI : IV S949 := by rw [eS949]; exact iv_sI hI o_v0 (by decide) (nu_free (by decide))
                    have f0 := fr_I eS949 g0 f0 o_v0 (by decide)
                    have d_y13 := rd_Ij eS949 (by decide) d_y13
                    have d_x945 := rd_Ij eS949 (by decide) d_x945
                    have d_x948 := rd_Is eS949 (rfl : x948 = x948)
                    have hT := tx_I eS949 hT
                    have g0 := gr_I eS949 g0
                    have o_v0 := ob_I eS949 o_v0
                    exact hq _ hI g0 f0 hT
              · refine ⟨o_v0, ?_⟩
                intro x950 ex950
                have q_x950 : x950 = y941 := ex950.trans d_y941.symm
                have d_x950 := ex950
                intro x951 ex951
                have q_x951 : x951 = y13 := ex951.trans d_y13.symm
                have d_x951 := ex951
                refine ⟨fun c952 => ?_, fun c952 => ?_⟩
                · refine u_X4_next_240 ?_
                  refine ⟨fun c953 => ?_, fun c953 => ?_⟩
                  · exact hq _ hI g0 f0 hT
                  · refine ⟨o_v0, ?_⟩
                    intro x954 ex954
                    have q_x954 : x954 = x797 := ex954.trans d_x797.symm
                    have d_x954 := ex954
                    refine ⟨fun c955 => ?_, fun c955 => ?_⟩
                    · exact hq _ hI g0 f0 hT
                    · intro x956 ex956
                      have q_x956 : x956 = x950 := ex956.trans d_x950.symm
                      have d_x956 := ex956
                      intro x957 ex957
                      intro S958 eS958
                      have hI : IV S958 := by rw [eS958]; exact iv_sI hI o_v0 (by decide) (nu_free (by decide))
                      have f0 := fr_I eS958 g0 f0 o_v0 (by decide)
                      have d_x951 := rd_Ij eS958 (by decide) d_x951
                      have d_x954 := rd_Ij eS958 (by decide) d_x954
                      have d_x957 := rd_Is eS958 (rfl : x957 = x957)
                      have hT := tx_I eS958 hT
                      have g0 := gr_I eS958 g0
                      have o_v0 := ob_I eS958 o_v0
                      exact hq _ hI g0 f0 hT
                · intro S959 eS959
                  have hI : IV S959 := by rw [eS959]; exact iv_sI hI o_v0 (by decide) (nu_free (by decide))
                  have f0 := fr_I eS959 g0 f0 o_v0 (by decide)
                  have d_x951 := rd_Ij eS959 (by decide) d_x951
                  have d_x950 := rd_Ij eS959 (by decide) d_x950
                  obtain ⟨y960, hy960⟩ : ∃ z : Int32, z = (6 : Int32) := ⟨_, rfl⟩
                  have d_y960 := rd_Is eS959 hy960
                  have hT := tx_I eS959 hT
                  have g0 := gr_I eS959 g0
                  have o_v0 := ob_I eS959 o_v0
                  refine u_X4_next_240 ?_
                  refine ⟨fun c961 => ?_, fun c961 => ?_⟩
                  · exact hq _ hI g0 f0 hT
                  · refine ⟨o_v0, ?_⟩
                    intro x962 ex962
                    have q_x962 : x962 = y960 := ex962.trans d_y960.symm
                    have d_x962 := ex962
                    refine ⟨fun c963 => ?_, fun c963 => ?_⟩
                    · exact hq _ hI g0 f0 hT
                    · intro x964 ex964
                      have q_x964 : x964 = x950 := ex964.trans d_x950.symm
                      have d_x964 := ex964
                      intro x965 ex965
                      intro S966 eS966
                      have hI : IV S966 := by rw [eS966]; exact iv_sI hI o_v0 (by decide) (nu_free (by decide))
                      have f0 := fr_I eS966 g0 f0 o_v0 (by decide)
                      have d_x951 := rd_Ij eS966 (by decide) d_x951
                      have d_x962 := rd_Ij eS966 (by decide) d_x962
                      have d_x965 := rd_Is eS966 (rfl : x965 = x965)
                      have hT := tx_I eS966 hT
                      have g0 := gr_I eS966 g0
                      have o_v0 := ob_I eS966 o_v0
                      exact hq _ hI g0 f0 hT
            · refine ⟨fun c967 => ?_, fun c967 => ?_⟩
              · refine u_X4_next_217 ?_
                refine ⟨fun c968 => ?_, fun c968 => ?_⟩
                · refine u_X4_next_240 ?_
                  refine ⟨fun c969 => ?_, fun c969 => ?_⟩
                  · exact hq _ hI g0 f0 hT
                  · refine ⟨o_v0, ?_⟩
                    intro x970 ex970
                    have q_x970 : x970 = x797 := ex970.trans d_x797.symm
                    have d_x970 := ex970
                    refine ⟨fun c971 => ?_, fun c971 => ?_⟩
                    · exact hq _ hI g0 f0 hT
                    · intro x972 ex972
                      have q_x972 : x972 = y941 := ex972.trans d_y941.symm
                      have d_x972 := ex972
                      intro x973 ex973
                      intro S974 eS974
                      have hI : IV S974 := by rw [eS974]; exact iv_sI hI o_v0 (by decide) (nu_free (by decide))
                      have f0 := fr_I eS974 g0 f0 o_v0 (by decide)
                      have d_y13 := rd_Ij eS974 (by decide) d_y13
                      have d_x970 := rd_Ij eS974 (by decide) d_x970
                      have d_x973 := rd_Is eS974 (rfl : x973 = x973)
                      have hT := tx_I eS974 hT
                      have g0 := gr_I eS974 g0
                      have o_v0 := ob_I eS974 o_v0
                      exact hq _ hI g0 f0 hT
                · refine ⟨o_v0, ?_⟩
                  intro x975 ex975
                  have q_x975 : x975 = y941 := ex975.trans d_y941.symm
                  have d_x975 := ex975
                  intro x976 ex976
                  have q_x976 : x976 = y13 := ex976.trans d_y13.symm
                  have d_x976 := ex976
                  refine ⟨fun c977 => ?_, fun c977 => ?_⟩
                  · refine u_X4_next_240 ?_
                    refine ⟨fun c978 => ?_, fun c978 => ?_⟩
                    · exact hq _ hI g0 f0 hT
                    · refine ⟨o_v0, ?_⟩
                      intro x979 ex979
                      have q_x979 : x979 = x797 := ex979.trans d_x797.symm
                      have d_x979 := ex979
                      refine ⟨fun c980 => ?_, fun c980 => ?_⟩
                      · exact hq _ hI g0 f0 hT
                      · intro x981 ex981
                        have q_x981 : x981 = x975 := ex981.trans d_x975.symm
                        have d_x981 := ex981
                        intro x982 ex982
                        intro S983 eS983
                        have hI : IV S983 := by rw [eS983]; exact iv_sI hI o_v0 (by decide) (nu_free (by decide))
                        have f0 := fr_I eS983 g0 f0 o_v0 (by decide)
                        have d_x976 := rd_Ij eS983 (by decide) d_x976
                        have d_x979 := rd_Ij eS983 (by decide) d_x979
                        have d_x982 := rd_Is eS983 (rfl : x982 = x982)
                        have hT := tx_I eS983 hT
                        have g0 := gr_I eS983 g0
                        have o_v0 := ob_I eS983 o_v0
                        exact hq _ hI g0 f0 hT
                  · intro S984 eS984
                    have hI : IV S984 := by rw [eS984]; exact iv_sI hI o_v0 (by decide) (nu_free (by decide))
                    have f0 := fr_I eS984 g0 f0 o_v0 (by decide)
                    have d_x976 := rd_Ij eS984 (by decide) d_x976
                    have d_x975 := rd_Ij eS984 (by decide) d_x975
                    obtain ⟨y985, hy985⟩ : ∃ z : Int32, z = (6 : Int32) := ⟨_, rfl⟩
                    have d_y985 := rd_Is eS984 hy985
                    have hT := tx_I eS984 hT
                    have g0 := gr_I eS984 g0
                    have o_v0 := ob_I eS984 o_v0
                    refine u_X4_next_240 ?_
                    refine ⟨fun c986 => ?_, fun c986 => ?_⟩
                    · exact hq _ hI g0 f0 hT
                    · refine ⟨o_v0, ?_⟩
                      intro x987 ex987
                      have q_x987 : x987 = y985 := ex987.trans d_y985.symm
                      have d_x987 := ex987
                      refine ⟨fun c988 => ?_, fun c988 => ?_⟩
                      · exact hq _ hI g0 f0 hT
                      · intro x989 ex989
                        have q_x989 : x989 = x975 := ex989.trans d_x975.symm
                        have d_x989 := ex989
                        intro x990 ex990
                        intro S991 eS991
                        have hI : IV S991 := by rw [eS991]; exact iv_sI hI o_v0 (by decide) (nu_free (by decide))
                        have f0 := fr_I eS991 g0 f0 o_v0 (by decide)
                        have d_x976 := rd_Ij eS991 (by decide) d_x976
                        have d_x987 := rd_Ij eS991 (by decide) d_x987
                        have d_x990 := rd_Is eS991 (rfl : x990 = x990)
                        have hT := tx_I eS991 hT
                        have g0 := gr_I eS991 g0
                        have o_v0 := ob_I eS991 o_v0
                        exact hq _ hI g0 f0 hT
              · refine ⟨o_v0, ?_⟩
                intro x992 ex992
                have q_x992 : x992 = y941 := ex992.trans d_y941.symm
                have d_x992 := ex992
                refine m_X4_sortAt hI o_v0 hT (fun x993 S994 hI2 g995 p_x993 => ?_)
                obtain ⟨z_S994, p_x993⟩ := p_x993
                subst z_S994
                intro _
                intro x997 ex997
                have q_x997 : x997 = x797 := ex997.trans d_x797.symm
                have d_x997 := ex997
                refine ⟨fun c998 => ?_, fun c998 => ?_⟩
                · refine u_X4_next_217 ?_
                  refine ⟨fun c999 => ?_, fun c999 => ?_⟩
                  · refine u_X4_next_240 ?_
                    refine ⟨fun c1000 => ?_, fun c1000 => ?_⟩
                    · exact hq _ hI g0 f0 hT
                    · refine ⟨o_v0, ?_⟩
                      intro x1001 ex1001
                      have q_x1001 : x1001 = x997 := ex1001.trans d_x997.symm
                      have d_x1001 := ex1001
                      refine ⟨fun c1002 => ?_, fun c1002 => ?_⟩
                      · exact hq _ hI g0 f0 hT
                      · intro x1003 ex1003
                        have q_x1003 : x1003 = x992 := ex1003.trans d_x992.symm
                        have d_x1003 := ex1003
                        intro x1004 ex1004
                        intro S1005 eS1005
                        have hI : IV S1005 := by rw [eS1005]; exact iv_sI hI o_v0 (by decide) (nu_free (by decide))
                        have f0 := fr_I eS1005 g0 f0 o_v0 (by decide)
                        have d_y13 := rd_Ij eS1005 (by decide) d_y13
                        have d_x1001 := rd_Ij eS1005 (by decide) d_x1001
                        have d_x1004 := rd_Is eS1005 (rfl : x1004 = x1004)
                        have hT := tx_I eS1005 hT
                        have g0 := gr_I eS1005 g0
                        have o_v0 := ob_I eS1005 o_v0
                        exact hq _ hI g0 f0 hT
                  · refine ⟨o_v0, ?_⟩
                    intro x1006 ex1006
                    have q_x1006 : x1006 = x992 := ex1006.trans d_x992.symm
                    have d_x1006 := ex1006
                    intro x1007 ex1007
                    have q_x1007 : x1007 = y13 := ex1007.trans d_y13.symm
                    have d_x1007 := ex1007
                    refine ⟨fun c1008 => ?_, fun c1008 => ?_⟩
                    · refine u_X4_next_240 ?_
                      refine ⟨fun c1009 => ?_, fun c1009 => ?_⟩
                      · exact hq _ hI g0 f0 hT
                      · refine ⟨o_v0, ?_⟩
                        intro x1010 ex1010
                        have q_x1010 : x1010 = x997 := ex1010.trans d_x997.symm
                        have d_x1010 := ex1010
                        refine ⟨fun c1011 => ?_, fun c1011 => ?_⟩
                        · exact hq _ hI g0 f0 hT
                        · intro x1012 ex1012
                          have q_x1012 : x1012 = x1006 := ex1012.trans d_x1006.symm
                          have d_x1012 := ex1012
                          intro x1013 ex1013
                          intro S1014 eS1014
                          have hI : IV S1014 := by rw [eS1014]; exact iv_sI hI o_v0 (by decide) (nu_free (by decide))
                          have f0 := fr_I eS1014 g0 f0 o_v0 (by decide)
                          have d_x1007 := rd_Ij eS1014 (by decide) d_x1007
                          have d_x1010 := rd_Ij eS1014 (by decide) d_x1010
                          have d_x1013 := rd_Is eS1014 (rfl : x1013 = x1013)
                          have hT := tx_I eS1014 hT
                          have g0 := gr_I eS1014 g0
                          have o_v0 := ob_I eS1014 o_v0
                          exact hq _ hI g0 f0 hT
                    · intro S1015 eS1015
                      have hI : IV S1015 := by rw [eS1015]; exact iv_sI hI o_v0 (by decide) (nu_free (by decide))
                      have f0 := fr_I eS1015 g0 f0 o_v0 (by decide)
                      have d_x1007 := rd_Ij eS1015 (by decide) d_x1007
                      have d_x1006 := rd_Ij eS1015 (by decide) d_x1006
                      obtain ⟨y1016, hy1016⟩ : ∃ z : Int32, z = (6 : Int32) := ⟨_, rfl⟩
                      have d_y1016 := rd_Is eS1015 hy1016
                      have hT := tx_I eS1015 hT
                      have g0 := gr_I eS1015 g0
                      have o_v0 := ob_I eS1015 o_v0
                      refine u_X4_next_240 ?_
                      refine ⟨fun c1017 => ?_, fun c1017 => ?_⟩
                      · exact hq _ hI g0 f0 hT
                      · refine ⟨o_v0, ?_⟩
                        intro x1018 ex1018
                        have q_x1018 : x1018 = y1016 := ex1018.trans d_y1016.symm
                        have d_x1018 := ex1018
                        refine ⟨fun c1019 => ?_, fun c1019 => ?_⟩
                        · exact hq _ hI g0 f0 hT
                        · intro x1020 ex1020
                          have q_x1020 : x1020 = x1006 := ex1020.trans d_x1006.symm
                          have d_x1020 := ex1020
                          intro x1021 ex1021
                          intro S1022 eS1022
                          have hI : IV S1022 := by rw [eS1022]; exact iv_sI hI o_v0 (by decide) (nu_free (by decide))
                          have f0 := fr_I eS1022 g0 f0 o_v0 (by decide)
                          have d_x1007 := rd_Ij eS1022 (by decide) d_x1007
                          have d_x1018 := rd_Ij eS1022 (by decide) d_x1018
                          have d_x1021 := rd_Is eS1022 (rfl : x1021 = x1021)
                          have hT := tx_I eS1022 hT
                          have g0 := gr_I eS1022 g0
                          have o_v0 := ob_I eS1022 o_v0
                          exact hq _ hI g0 f0 hT
                · refine ⟨fun c1023 => ?_, fun c1023 => ?_⟩
                  · refine u_X4_next_201 ?_
                    refine ⟨o_v0, ?_⟩
                    intro x1024 ex1024
                    have q_x1024 : x1024 = x992 := ex1024.trans d_x992.symm
                    have d_x1024 := ex1024
                    intro x1025 ex1025
                    intro S1026 eS1026
                    have hI : IV S1026 := by rw [eS1026]; exact iv_sI hI o_v0 (by decide) (nu_free (by decide))
                    have f0 := fr_I eS1026 g0 f0 o_v0 (by decide)
                    have fL929 := fr_I eS1026 gL928 fL929 o_v0 (by decide)
                    have d_y13 := rd_Ij eS1026 (by decide) d_y13
                    have d_x997 := rd_Ij eS1026 (by decide) d_x997
                    have d_x1025 := rd_Is eS1026 (rfl : x1025 = x1025)
                    have hT := tx_I eS1026 hT
                    have g0 := gr_I eS1026 g0
                    have gL928 := gr_I eS1026 gL928
                    have o_v0 := ob_I eS1026 o_v0
                    intro x1027 ex1027
                    exact ih940 _ _ _ _ _ _ ⟨hI, gL928, fL929, rfl, rfl, rfl, rfl, hT, (q364 i1u1 c10 hy13 q_x14 p_x15 q_x21 c22 q_x537 c538 q_x539 c540 q_x797 c798 i1u926 p_k1u926 c942 c967 q_x992 p_x993 q_x997 c998 c1023 q_x1024 ex1025 ex1027), (by rw [← d_x997, ← d_x1025]; exact (q365 i1u1 c10 hy13 q_x14 p_x15 q_x21 c22 q_x537 c538 q_x539 c540 q_x797 c798 i1u926 p_k1u926 c942 c967 q_x992 p_x993 q_x997 c998 c1023 q_x1024 ex1025 ex1027))⟩ (mu_up (q366 i1u1 c10 hy13 q_x14 p_x15 q_x21 c22 q_x537 c538 q_x539 c540 q_x797 c798 i1u926 p_k1u926 c942 c967 q_x992 p_x993 q_x997 c998 c1023 q_x1024 ex1025 ex1027) (q367 i1u1 c10 hy13 q_x14 p_x15 q_x21 c22 q_x537 c538 q_x539 c540 q_x797 c798 i1u926 p_k1u926 c942 c967 q_x992 p_x993 q_x997 c998 c1023 q_x1024 ex1025 ex1027))
                  · intro x1028 ex1028
                    have q_x1028 : x1028 = x992 := ex1028.trans d_x992.symm
                    have d_x1028 := ex1028
                    obtain ⟨a1029, ea1029, o_a1029, l_a1029⟩ := id hT
                    refine ⟨a1029, ea1029, ?_⟩
                    refine ⟨o_a1029, ?_⟩
                    have n_a1029 : nI (hN S927 a1029) = 900 := by rw [show hN S927 a1029 = 900 from l_a1029]; decide
                    refine ⟨fun c1030 => ?_, fun c1030 => ?_⟩
                    · rw [n_a1029] at c1030
                      refine u_X4_next_201 ?_
                      refine ⟨o_v0, ?_⟩
                      intro x1031 ex1031
                      have q_x1031 : x1031 = x1028 := ex1031.trans d_x1028.symm
                      have d_x1031 := ex1031
                      intro x1032 ex1032
                      intro S1033 eS1033
                      have hI : IV S1033 := by rw [eS1033]; exact iv_sI hI o_v0 (by decide) (nu_free (by decide))
                      have f0 := fr_I eS1033 g0 f0 o_v0 (by decide)
                      have fL929 := fr_I eS1033 gL928 fL929 o_v0 (by decide)
                      have d_y13 := rd_Ij eS1033 (by decide) d_y13
                      have d_x997 := rd_Ij eS1033 (by decide) d_x997
                      have d_x1032 := rd_Is eS1033 (rfl : x1032 = x1032)
                      have ea1029 := rf_I eS1033 ea1029
                      have hT := tx_I eS1033 hT
                      have l_a1029 := ln_I eS1033 l_a1029
                      have g0 := gr_I eS1033 g0
                      have gL928 := gr_I eS1033 gL928
                      have o_a1029 := ob_I eS1033 o_a1029
                      have o_v0 := ob_I eS1033 o_v0
                      intro x1034 ex1034
                      exact ih940 _ _ _ _ _ _ ⟨hI, gL928, fL929, rfl, rfl, rfl, rfl, hT, (q368 i1u1 c10 hy13 q_x14 p_x15 q_x21 c22 q_x537 c538 q_x539 c540 q_x797 c798 i1u926 p_k1u926 c942 c967 q_x992 p_x993 q_x997 c998 c1023 q_x1028 c1030 q_x1031 ex1032 ex1034), (by rw [← d_x997, ← d_x1032]; exact (q369 i1u1 c10 hy13 q_x14 p_x15 q_x21 c22 q_x537 c538 q_x539 c540 q_x797 c798 i1u926 p_k1u926 c942 c967 q_x992 p_x993 q_x997 c998 c1023 q_x1028 c1030 q_x1031 ex1032 ex1034))⟩ (mu_up (q370 i1u1 c10 hy13 q_x14 p_x15 q_x21 c22 q_x537 c538 q_x539 c540 q_x797 c798 i1u926 p_k1u926 c942 c967 q_x992 p_x993 q_x997 c998 c1023 q_x1028 c1030 q_x1031 ex1032 ex1034) (q371 i1u1 c10 hy13 q_x14 p_x15 q_x21 c22 q_x537 c538 q_x539 c540 q_x797 c798 i1u926 p_k1u926 c942 c967 q_x992 p_x993 q_x997 c998 c1023 q_x1028 c1030 q_x1031 ex1032 ex1034))
                    · rw [n_a1029] at c1030
                      intro x1035 ex1035
                      have dj_x1035 := ex1035
                      refine ⟨a1029, ea1029, ?_⟩
                      intro x1037 ex1037
                      have q_x1037 : x1037 = x1028 := ex1037.trans d_x1028.symm
                      have d_x1037 := ex1037
                      refine ⟨o_a1029, ?_⟩
                      refine ⟨(vin l_a1029 (m := 900) (by decide) (q372 i1u1 c10 hy13 q_x14 p_x15 q_x21 c22 q_x537 c538 q_x539 c540 q_x797 c798 i1u926 p_k1u926 c942 c967 q_x992 p_x993 q_x997 c998 c1023 q_x1028 c1030 q_x1037)), ?_⟩
                      intro x1038 ex1038
                      intro x1039 ex1039
                      have q_x1039 : x1039 = x997 := ex1039.trans d_x997.symm
                      have d_x1039 := ex1039
                      refine ⟨fun c1040 => ?_, fun c1040 => ?_⟩
                      · refine u_X4_next_195 ?_
                        refine ⟨o_v0, ?_⟩
                        intro x1041 ex1041
                        intro S1042 eS1042
                        have hI : IV S1042 := by rw [eS1042]; exact iv_sJ hI o_v0 (by decide)
                        have f0 := fr_J eS1042 f0
                        have fL929 := fr_J eS1042 fL929
                        have d_y13 := rd_J eS1042 d_y13
                        have d_x1039 := rd_J eS1042 d_x1039
                        have d_x1037 := rd_J eS1042 d_x1037
                        have ea1029 := rf_J eS1042 ea1029
                        have hT := tx_J eS1042 hT
                        have l_a1029 := ln_J eS1042 l_a1029
                        have g0 := gr_J eS1042 g0
                        have gL928 := gr_J eS1042 gL928
                        have o_a1029 := ob_J eS1042 o_a1029
                        have o_v0 := ob_J eS1042 o_v0
                        refine u_X4_next_201 ?_
                        refine ⟨o_v0, ?_⟩
                        intro x1043 ex1043
                        have q_x1043 : x1043 = x1037 := ex1043.trans d_x1037.symm
                        have d_x1043 := ex1043
                        intro x1044 ex1044
                        intro S1045 eS1045
                        have hI : IV S1045 := by rw [eS1045]; exact iv_sI hI o_v0 (by decide) (nu_free (by decide))
                        have f0 := fr_I eS1045 g0 f0 o_v0 (by decide)
                        have fL929 := fr_I eS1045 gL928 fL929 o_v0 (by decide)
                        have d_y13 := rd_Ij eS1045 (by decide) d_y13
                        have d_x1039 := rd_Ij eS1045 (by decide) d_x1039
                        have d_x1044 := rd_Is eS1045 (rfl : x1044 = x1044)
                        have ea1029 := rf_I eS1045 ea1029
                        have hT := tx_I eS1045 hT
                        have l_a1029 := ln_I eS1045 l_a1029
                        have g0 := gr_I eS1045 g0
                        have gL928 := gr_I eS1045 gL928
                        have o_a1029 := ob_I eS1045 o_a1029
                        have o_v0 := ob_I eS1045 o_v0
                        intro x1046 ex1046
                        exact ih940 _ _ _ _ _ _ ⟨hI, gL928, fL929, rfl, rfl, rfl, rfl, hT, (q373 i1u1 c10 hy13 q_x14 p_x15 q_x21 c22 q_x537 c538 q_x539 c540 q_x797 c798 i1u926 p_k1u926 c942 c967 q_x992 p_x993 q_x997 c998 c1023 q_x1028 c1030 q_x1037 q_x1039 c1040 q_x1043 ex1044 ex1046), (by rw [← d_x1039, ← d_x1044]; exact (q374 i1u1 c10 hy13 q_x14 p_x15 q_x21 c22 q_x537 c538 q_x539 c540 q_x797 c798 i1u926 p_k1u926 c942 c967 q_x992 p_x993 q_x997 c998 c1023 q_x1028 c1030 q_x1037 q_x1039 c1040 q_x1043 ex1044 ex1046))⟩ (mu_up (q375 i1u1 c10 hy13 q_x14 p_x15 q_x21 c22 q_x537 c538 q_x539 c540 q_x797 c798 i1u926 p_k1u926 c942 c967 q_x992 p_x993 q_x997 c998 c1023 q_x1028 c1030 q_x1037 q_x1039 c1040 q_x1043 ex1044 ex1046) (q376 i1u1 c10 hy13 q_x14 p_x15 q_x21 c22 q_x537 c538 q_x539 c540 q_x797 c798 i1u926 p_k1u926 c942 c967 q_x992 p_x993 q_x997 c998 c1023 q_x1028 c1030 q_x1037 q_x1039 c1040 q_x1043 ex1044 ex1046))
                      · refine u_X4_next_195 ?_
                        refine ⟨o_v0, ?_⟩
                        intro x1047 ex1047
                        intro S1048 eS1048
                        have hI : IV S1048 := by rw [eS1048]; exact iv_sJ hI o_v0 (by decide)
                        have f0 := fr_J eS1048 f0
                        have fL929 := fr_J eS1048 fL929
                        have d_y13 := rd_J eS1048 d_y13
                        have d_x1039 := rd_J eS1048 d_x1039
                        have d_x1037 := rd_J eS1048 d_x1037
                        have ea1029 := rf_J eS1048 ea1029
                        have hT := tx_J eS1048 hT
                        have l_a1029 := ln_J eS1048 l_a1029
                        have g0 := gr_J eS1048 g0
                        have gL928 := gr_J eS1048 gL928
                        have o_a1029 := ob_J eS1048 o_a1029
                        have o_v0 := ob_J eS1048 o_v0
                        refine u_X4_next_201 ?_
                        refine ⟨o_v0, ?_⟩
                        intro x1049 ex1049
                        have q_x1049 : x1049 = x1037 := ex1049.trans d_x1037.symm
                        have d_x1049 := ex1049
                        intro x1050 ex1050
                        intro S1051 eS1051
                        have hI : IV S1051 := by rw [eS1051]; exact iv_sI hI o_v0 (by decide) (nu_free (by decide))
                        have f0 := fr_I eS1051 g0 f0 o_v0 (by decide)
                        have fL929 := fr_I eS1051 gL928 fL929 o_v0 (by decide)
                        have d_y13 := rd_Ij eS1051 (by decide) d_y13
                        have d_x1039 := rd_Ij eS1051 (by decide) d_x1039
                        have d_x1050 := rd_Is eS1051 (rfl : x1050 = x1050)
                        have ea1029 := rf_I eS1051 ea1029
                        have hT := tx_I eS1051 hT
                        have l_a1029 := ln_I eS1051 l_a1029
                        have g0 := gr_I eS1051 g0
                        have gL928 := gr_I eS1051 gL928
                        have o_a1029 := ob_I eS1051 o_a1029
                        have o_v0 := ob_I eS1051 o_v0
                        intro x1052 ex1052
                        exact ih940 _ _ _ _ _ _ ⟨hI, gL928, fL929, rfl, rfl, rfl, rfl, hT, (q377 i1u1 c10 hy13 q_x14 p_x15 q_x21 c22 q_x537 c538 q_x539 c540 q_x797 c798 i1u926 p_k1u926 c942 c967 q_x992 p_x993 q_x997 c998 c1023 q_x1028 c1030 q_x1037 q_x1039 c1040 q_x1049 ex1050 ex1052), (by rw [← d_x1039, ← d_x1050]; exact (q378 i1u1 c10 hy13 q_x14 p_x15 q_x21 c22 q_x537 c538 q_x539 c540 q_x797 c798 i1u926 p_k1u926 c942 c967 q_x992 p_x993 q_x997 c998 c1023 q_x1028 c1030 q_x1037 q_x1039 c1040 q_x1049 ex1050 ex1052))⟩ (mu_up (q379 i1u1 c10 hy13 q_x14 p_x15 q_x21 c22 q_x537 c538 q_x539 c540 q_x797 c798 i1u926 p_k1u926 c942 c967 q_x992 p_x993 q_x997 c998 c1023 q_x1028 c1030 q_x1037 q_x1039 c1040 q_x1049 ex1050 ex1052) (q380 i1u1 c10 hy13 q_x14 p_x15 q_x21 c22 q_x537 c538 q_x539 c540 q_x797 c798 i1u926 p_k1u926 c942 c967 q_x992 p_x993 q_x997 c998 c1023 q_x1028 c1030 q_x1037 q_x1039 c1040 q_x1049 ex1050 ex1052))
      · refine u_X4_next_78 ?_
        refine u_X4_next_83 ?_
        refine ⟨o_v0, ?_⟩
        intro x1053 ex1053
        have q_x1053 : x1053 = x537 := ex1053.trans d_x537.symm
        have d_x1053 := ex1053
        refine ⟨fun c1054 => ?_, fun c1054 => ?_⟩
        · refine u_X4_next_98 ?_
          refine ⟨o_v0, ?_⟩
          intro x1055 ex1055
          have q_x1055 : x1055 = x1053 := ex1055.trans d_x1053.symm
          have d_x1055 := ex1055
          refine ⟨fun c1056 => ?_, fun c1056 => ?_⟩
          · refine u_X4_next_114 ?_
            refine i_X4_next_118 (fun (y0 : Nat) (y1 : Int32) (y2 : Int32) (y3 : Int32) (y4 : Int32) (Z : HS) => ((2147483647 : Int32).toInt - y4.toInt).toNat) (fun (y0 : Nat) (y1 : Int32) (y2 : Int32) (y3 : Int32) (y4 : Int32) (Z : HS) => (IV Z) ∧ (Gr S20 Z) ∧ (FRI [(4, 4)] [] S20 Z) ∧ (v0 = y0) ∧ ((1 : Int32) = y1) ∧ ((3 : Int32) = y2) ∧ ((10 : Int32) = y3) ∧ (TX Z v0) ∧ (0 ≤ y4) ∧ ((y1 = 0 ∨ fI Z v0 6 = 1 ∨ fI Z v0 6 = 2) ∧ (y1 = 0 → fI Z v0 6 = 0 ∨ (0 ≤ fI Z v0 4 ∧ fI Z v0 4 < 900)))) ?_ _ _ _ _ _ _ ⟨hI, (gr_rf _), (fri_rf _ _ _), rfl, rfl, rfl, rfl, hT, (q381 i1u1 c10 hy13 q_x14 p_x15 q_x21 c22 q_x537 c538 q_x1053 c1054 q_x1055 c1056), (by rw [← d_x1055, ← d_x14]; exact (q382 i1u1 c10 hy13 q_x14 p_x15 q_x21 c22 q_x537 c538 q_x1053 c1054 q_x1055 c1056))⟩
            intro w1061 w1063 w1065 w1067 w1069 S1058 X1070 ⟨hI, gL1059, fL1060, q1062, q1064, q1066, q1068, hT, i1u1057, k1u1057⟩ ih1071
            subst q1062
            subst q1064
            subst q1066
            subst q1068
            have d_y13 := d_y13.trans (fri_at fL1060 (by decide) (by decide) o_v0).symm
            have d_x1055 := d_x1055.trans (fri_at fL1060 (by decide) (by decide) o_v0).symm
            have f0 := fri_tr (S := S20) g0 f0 fL1060 (by decide) (by decide)
            have o_v0 := gr_ob gL1059 o_v0
            have g0 := gr_tr (T := S20) g0 gL1059
            obtain ⟨y1072, d_y1072⟩ : ∃ z : Int32, z = fI S1058 v0 4 := ⟨_, rfl⟩
            have p_k1u1057 : ((1 : Int32) = 0 ∨ x1055 = 1 ∨ x1055 = 2) ∧ ((1 : Int32) = 0 → x1055 = 0 ∨ (0 ≤ y1072 ∧ y1072 < 900)) := by rw [d_x1055, d_y1072]; exact k1u1057
            refine u_X4_next_118 ?_
            refine ⟨fun c1073 => ?_, fun c1073 => ?_⟩
            · refine u_X4_next_217 ?_
              refine ⟨fun c1074 => ?_, fun c1074 => ?_⟩
              · refine u_X4_next_240 ?_
                refine ⟨fun c1075 => ?_, fun c1075 => ?_⟩
                · exact hq _ hI g0 f0 hT
                · refine ⟨o_v0, ?_⟩
                  intro x1076 ex1076
                  have q_x1076 : x1076 = x1055 := ex1076.trans d_x1055.symm
                  have d_x1076 := ex1076
                  refine ⟨fun c1077 => ?_, fun c1077 => ?_⟩
                  · exact hq _ hI g0 f0 hT
                  · intro x1078 ex1078
                    have q_x1078 : x1078 = y1072 := ex1078.trans d_y1072.symm
                    have d_x1078 := ex1078
                    intro x1079 ex1079
                    intro S1080 eS1080
                    have hI : IV S1080 := by rw [eS1080]; exact iv_sI hI o_v0 (by decide) (nu_free (by decide))
                    have f0 := fr_I eS1080 g0 f0 o_v0 (by decide)
                    have d_y13 := rd_Ij eS1080 (by decide) d_y13
                    have d_x1076 := rd_Ij eS1080 (by decide) d_x1076
                    have d_x1079 := rd_Is eS1080 (rfl : x1079 = x1079)
                    have hT := tx_I eS1080 hT
                    have g0 := gr_I eS1080 g0
                    have o_v0 := ob_I eS1080 o_v0
                    exact hq _ hI g0 f0 hT
              · refine ⟨o_v0, ?_⟩
                intro x1081 ex1081
                have q_x1081 : x1081 = y1072 := ex1081.trans d_y1072.symm
                have d_x1081 := ex1081
                intro x1082 ex1082
                have q_x1082 : x1082 = y13 := ex1082.trans d_y13.symm
                have d_x1082 := ex1082
                refine ⟨fun c1083 => ?_, fun c1083 => ?_⟩
                · refine u_X4_next_240 ?_
                  refine ⟨fun c1084 => ?_, fun c1084 => ?_⟩
                  · exact hq _ hI g0 f0 hT
                  · refine ⟨o_v0, ?_⟩
                    intro x1085 ex1085
                    have q_x1085 : x1085 = x1055 := ex1085.trans d_x1055.symm
                    have d_x1085 := ex1085
                    refine ⟨fun c1086 => ?_, fun c1086 => ?_⟩
                    · exact hq _ hI g0 f0 hT
                    · intro x1087 ex1087
                      have q_x1087 : x1087 = x1081 := ex1087.trans d_x1081.symm
                      have d_x1087 := ex1087
                      intro x1088 ex1088
                      intro S1089 eS1089
                      have hI : IV S1089 := by rw [eS1089]; exact iv_sI hI o_v0 (by decide) (nu_free (by decide))
                      have f0 := fr_I eS1089 g0 f0 o_v0 (by decide)
                      have d_x1082 := rd_Ij eS1089 (by decide) d_x1082
                      have d_x1085 := rd_Ij eS1089 (by decide) d_x1085
                      have d_x1088 := rd_Is eS1089 (rfl : x1088 = x1088)
                      have hT := tx_I eS1089 hT
                      have g0 := gr_I eS1089 g0
                      have o_v0 := ob_I eS1089 o_v0
                      exact hq _ hI g0 f0 hT
                · intro S1090 eS1090
                  have hI : IV S1090 := by rw [eS1090]; exact iv_sI hI o_v0 (by decide) (nu_free (by decide))
                  have f0 := fr_I eS1090 g0 f0 o_v0 (by decide)
                  have d_x1082 := rd_Ij eS1090 (by decide) d_x1082
                  have d_x1081 := rd_Ij eS1090 (by decide) d_x1081
                  obtain ⟨y1091, hy1091⟩ : ∃ z : Int32, z = (6 : Int32) := ⟨_, rfl⟩
                  have d_y1091 := rd_Is eS1090 hy1091
                  have hT := tx_I eS1090 hT
                  have g0 := gr_I eS1090 g0
                  have o_v0 := ob_I eS1090 o_v0
                  refine u_X4_next_240 ?_
                  refine ⟨fun c1092 => ?_, fun c1092 => ?_⟩
                  · exact hq _ hI g0 f0 hT
                  · refine ⟨o_v0, ?_⟩
                    intro x1093 ex1093
                    have q_x1093 : x1093 = y1091 := ex1093.trans d_y1091.symm
                    have d_x1093 := ex1093
                    refine ⟨fun c1094 => ?_, fun c1094 => ?_⟩
                    · exact hq _ hI g0 f0 hT
                    · intro x1095 ex1095
                      have q_x1095 : x1095 = x1081 := ex1095.trans d_x1081.symm
                      have d_x1095 := ex1095
                      intro x1096 ex1096
                      intro S1097 eS1097
                      have hI : IV S1097 := by rw [eS1097]; exact iv_sI hI o_v0 (by decide) (nu_free (by decide))
                      have f0 := fr_I eS1097 g0 f0 o_v0 (by decide)
                      have d_x1082 := rd_Ij eS1097 (by decide) d_x1082
                      have d_x1093 := rd_Ij eS1097 (by decide) d_x1093
                      have d_x1096 := rd_Is eS1097 (rfl : x1096 = x1096)
                      have hT := tx_I eS1097 hT
                      have g0 := gr_I eS1097 g0
                      have o_v0 := ob_I eS1097 o_v0
                      exact hq _ hI g0 f0 hT
            · refine ⟨fun c1098 => ?_, fun c1098 => ?_⟩
              · refine u_X4_next_217 ?_
                refine ⟨fun c1099 => ?_, fun c1099 => ?_⟩
                · refine u_X4_next_240 ?_
                  refine ⟨fun c1100 => ?_, fun c1100 => ?_⟩
                  · exact hq _ hI g0 f0 hT
                  · refine ⟨o_v0, ?_⟩
                    intro x1101 ex1101
                    have q_x1101 : x1101 = x1055 := ex1101.trans d_x1055.symm
                    have d_x1101 := ex1101
                    refine ⟨fun c1102 => ?_, fun c1102 => ?_⟩
                    · exact hq _ hI g0 f0 hT
                    · intro x1103 ex1103
                      have q_x1103 : x1103 = y1072 := ex1103.trans d_y1072.symm
                      have d_x1103 := ex1103
                      intro x1104 ex1104
                      intro S1105 eS1105
                      have hI : IV S1105 := by rw [eS1105]; exact iv_sI hI o_v0 (by decide) (nu_free (by decide))
                      have f0 := fr_I eS1105 g0 f0 o_v0 (by decide)
                      have d_y13 := rd_Ij eS1105 (by decide) d_y13
                      have d_x1101 := rd_Ij eS1105 (by decide) d_x1101
                      have d_x1104 := rd_Is eS1105 (rfl : x1104 = x1104)
                      have hT := tx_I eS1105 hT
                      have g0 := gr_I eS1105 g0
                      have o_v0 := ob_I eS1105 o_v0
                      exact hq _ hI g0 f0 hT
                · refine ⟨o_v0, ?_⟩
                  intro x1106 ex1106
                  have q_x1106 : x1106 = y1072 := ex1106.trans d_y1072.symm
                  have d_x1106 := ex1106
                  intro x1107 ex1107
                  have q_x1107 : x1107 = y13 := ex1107.trans d_y13.symm
                  have d_x1107 := ex1107
                  refine ⟨fun c1108 => ?_, fun c1108 => ?_⟩
                  · refine u_X4_next_240 ?_
                    refine ⟨fun c1109 => ?_, fun c1109 => ?_⟩
                    · exact hq _ hI g0 f0 hT
                    · refine ⟨o_v0, ?_⟩
                      intro x1110 ex1110
                      have q_x1110 : x1110 = x1055 := ex1110.trans d_x1055.symm
                      have d_x1110 := ex1110
                      refine ⟨fun c1111 => ?_, fun c1111 => ?_⟩
                      · exact hq _ hI g0 f0 hT
                      · intro x1112 ex1112
                        have q_x1112 : x1112 = x1106 := ex1112.trans d_x1106.symm
                        have d_x1112 := ex1112
                        intro x1113 ex1113
                        intro S1114 eS1114
                        have hI : IV S1114 := by rw [eS1114]; exact iv_sI hI o_v0 (by decide) (nu_free (by decide))
                        have f0 := fr_I eS1114 g0 f0 o_v0 (by decide)
                        have d_x1107 := rd_Ij eS1114 (by decide) d_x1107
                        have d_x1110 := rd_Ij eS1114 (by decide) d_x1110
                        have d_x1113 := rd_Is eS1114 (rfl : x1113 = x1113)
                        have hT := tx_I eS1114 hT
                        have g0 := gr_I eS1114 g0
                        have o_v0 := ob_I eS1114 o_v0
                        exact hq _ hI g0 f0 hT
                  · intro S1115 eS1115
                    have hI : IV S1115 := by rw [eS1115]; exact iv_sI hI o_v0 (by decide) (nu_free (by decide))
                    have f0 := fr_I eS1115 g0 f0 o_v0 (by decide)
                    have d_x1107 := rd_Ij eS1115 (by decide) d_x1107
                    have d_x1106 := rd_Ij eS1115 (by decide) d_x1106
                    obtain ⟨y1116, hy1116⟩ : ∃ z : Int32, z = (6 : Int32) := ⟨_, rfl⟩
                    have d_y1116 := rd_Is eS1115 hy1116
                    have hT := tx_I eS1115 hT
                    have g0 := gr_I eS1115 g0
                    have o_v0 := ob_I eS1115 o_v0
                    refine u_X4_next_240 ?_
                    refine ⟨fun c1117 => ?_, fun c1117 => ?_⟩
                    · exact hq _ hI g0 f0 hT
                    · refine ⟨o_v0, ?_⟩
                      intro x1118 ex1118
                      have q_x1118 : x1118 = y1116 := ex1118.trans d_y1116.symm
                      have d_x1118 := ex1118
                      refine ⟨fun c1119 => ?_, fun c1119 => ?_⟩
                      · exact hq _ hI g0 f0 hT
                      · intro x1120 ex1120
                        have q_x1120 : x1120 = x1106 := ex1120.trans d_x1106.symm
                        have d_x1120 := ex1120
                        intro x1121 ex1121
                        intro S1122 eS1122
                        have hI : IV S1122 := by rw [eS1122]; exact iv_sI hI o_v0 (by decide) (nu_free (by decide))
                        have f0 := fr_I eS1122 g0 f0 o_v0 (by decide)
                        have d_x1107 := rd_Ij eS1122 (by decide) d_x1107
                        have d_x1118 := rd_Ij eS1122 (by decide) d_x1118
                        have d_x1121 := rd_Is eS1122 (rfl : x1121 = x1121)
                        have hT := tx_I eS1122 hT
                        have g0 := gr_I eS1122 g0
                        have o_v0 := ob_I eS1122 o_v0
                        exact hq _ hI g0 f0 hT
              · refine ⟨o_v0, ?_⟩
                intro x1123 ex1123
                have q_x1123 : x1123 = y1072 := ex1123.trans d_y1072.symm
                have d_x1123 := ex1123
                refine m_X4_sortAt hI o_v0 hT (fun x1124 S1125 hI2 g1126 p_x1124 => ?_)
                obtain ⟨z_S1125, p_x1124⟩ := p_x1124
                subst z_S1125
                intro _
                intro x1128 ex1128
                have q_x1128 : x1128 = x1055 := ex1128.trans d_x1055.symm
                have d_x1128 := ex1128
                refine ⟨fun c1129 => ?_, fun c1129 => ?_⟩
                · refine u_X4_next_217 ?_
                  refine ⟨fun c1130 => ?_, fun c1130 => ?_⟩
                  · refine u_X4_next_240 ?_
                    refine ⟨fun c1131 => ?_, fun c1131 => ?_⟩
                    · exact hq _ hI g0 f0 hT
                    · refine ⟨o_v0, ?_⟩
                      intro x1132 ex1132
                      have q_x1132 : x1132 = x1128 := ex1132.trans d_x1128.symm
                      have d_x1132 := ex1132
                      refine ⟨fun c1133 => ?_, fun c1133 => ?_⟩
                      · exact hq _ hI g0 f0 hT
                      · intro x1134 ex1134
                        have q_x1134 : x1134 = x1123 := ex1134.trans d_x1123.symm
                        have d_x1134 := ex1134
                        intro x1135 ex1135
                        intro S1136 eS1136
                        have hI : IV S1136 := by rw [eS1136]; exact iv_sI hI o_v0 (by decide) (nu_free (by decide))
                        have f0 := fr_I eS1136 g0 f0 o_v0 (by decide)
                        have d_y13 := rd_Ij eS1136 (by decide) d_y13
                        have d_x1132 := rd_Ij eS1136 (by decide) d_x1132
                        have d_x1135 := rd_Is eS1136 (rfl : x1135 = x1135)
                        have hT := tx_I eS1136 hT
                        have g0 := gr_I eS1136 g0
                        have o_v0 := ob_I eS1136 o_v0
                        exact hq _ hI g0 f0 hT
                  · refine ⟨o_v0, ?_⟩
                    intro x1137 ex1137
                    have q_x1137 : x1137 = x1123 := ex1137.trans d_x1123.symm
                    have d_x1137 := ex1137
                    intro x1138 ex1138
                    have q_x1138 : x1138 = y13 := ex1138.trans d_y13.symm
                    have d_x1138 := ex1138
                    refine ⟨fun c1139 => ?_, fun c1139 => ?_⟩
                    · refine u_X4_next_240 ?_
                      refine ⟨fun c1140 => ?_, fun c1140 => ?_⟩
                      · exact hq _ hI g0 f0 hT
                      · refine ⟨o_v0, ?_⟩
                        intro x1141 ex1141
                        have q_x1141 : x1141 = x1128 := ex1141.trans d_x1128.symm
                        have d_x1141 := ex1141
                        refine ⟨fun c1142 => ?_, fun c1142 => ?_⟩
                        · exact hq _ hI g0 f0 hT
                        · intro x1143 ex1143
                          have q_x1143 : x1143 = x1137 := ex1143.trans d_x1137.symm
                          have d_x1143 := ex1143
                          intro x1144 ex1144
                          intro S1145 eS1145
                          have hI : IV S1145 := by rw [eS1145]; exact iv_sI hI o_v0 (by decide) (nu_free (by decide))
                          have f0 := fr_I eS1145 g0 f0 o_v0 (by decide)
                          have d_x1138 := rd_Ij eS1145 (by decide) d_x1138
                          have d_x1141 := rd_Ij eS1145 (by decide) d_x1141
                          have d_x1144 := rd_Is eS1145 (rfl : x1144 = x1144)
                          have hT := tx_I eS1145 hT
                          have g0 := gr_I eS1145 g0
                          have o_v0 := ob_I eS1145 o_v0
                          exact hq _ hI g0 f0 hT
                    · intro S1146 eS1146
                      have hI : IV S1146 := by rw [eS1146]; exact iv_sI hI o_v0 (by decide) (nu_free (by decide))
                      have f0 := fr_I eS1146 g0 f0 o_v0 (by decide)
                      have d_x1138 := rd_Ij eS1146 (by decide) d_x1138
                      have d_x1137 := rd_Ij eS1146 (by decide) d_x1137
                      obtain ⟨y1147, hy1147⟩ : ∃ z : Int32, z = (6 : Int32) := ⟨_, rfl⟩
                      have d_y1147 := rd_Is eS1146 hy1147
                      have hT := tx_I eS1146 hT
                      have g0 := gr_I eS1146 g0
                      have o_v0 := ob_I eS1146 o_v0
                      refine u_X4_next_240 ?_
                      refine ⟨fun c1148 => ?_, fun c1148 => ?_⟩
                      · exact hq _ hI g0 f0 hT
                      · refine ⟨o_v0, ?_⟩
                        intro x1149 ex1149
                        have q_x1149 : x1149 = y1147 := ex1149.trans d_y1147.symm
                        have d_x1149 := ex1149
                        refine ⟨fun c1150 => ?_, fun c1150 => ?_⟩
                        · exact hq _ hI g0 f0 hT
                        · intro x1151 ex1151
                          have q_x1151 : x1151 = x1137 := ex1151.trans d_x1137.symm
                          have d_x1151 := ex1151
                          intro x1152 ex1152
                          intro S1153 eS1153
                          have hI : IV S1153 := by rw [eS1153]; exact iv_sI hI o_v0 (by decide) (nu_free (by decide))
                          have f0 := fr_I eS1153 g0 f0 o_v0 (by decide)
                          have d_x1138 := rd_Ij eS1153 (by decide) d_x1138
                          have d_x1149 := rd_Ij eS1153 (by decide) d_x1149
                          have d_x1152 := rd_Is eS1153 (rfl : x1152 = x1152)
                          have hT := tx_I eS1153 hT
                          have g0 := gr_I eS1153 g0
                          have o_v0 := ob_I eS1153 o_v0
                          exact hq _ hI g0 f0 hT
                · refine ⟨fun c1154 => ?_, fun c1154 => ?_⟩
                  · refine u_X4_next_201 ?_
                    refine ⟨o_v0, ?_⟩
                    intro x1155 ex1155
                    have q_x1155 : x1155 = x1123 := ex1155.trans d_x1123.symm
                    have d_x1155 := ex1155
                    intro x1156 ex1156
                    intro S1157 eS1157
                    have hI : IV S1157 := by rw [eS1157]; exact iv_sI hI o_v0 (by decide) (nu_free (by decide))
                    have f0 := fr_I eS1157 g0 f0 o_v0 (by decide)
                    have fL1060 := fr_I eS1157 gL1059 fL1060 o_v0 (by decide)
                    have d_y13 := rd_Ij eS1157 (by decide) d_y13
                    have d_x1128 := rd_Ij eS1157 (by decide) d_x1128
                    have d_x1156 := rd_Is eS1157 (rfl : x1156 = x1156)
                    have hT := tx_I eS1157 hT
                    have g0 := gr_I eS1157 g0
                    have gL1059 := gr_I eS1157 gL1059
                    have o_v0 := ob_I eS1157 o_v0
                    intro x1158 ex1158
                    exact ih1071 _ _ _ _ _ _ ⟨hI, gL1059, fL1060, rfl, rfl, rfl, rfl, hT, (q383 i1u1 c10 hy13 q_x14 p_x15 q_x21 c22 q_x537 c538 q_x1053 c1054 q_x1055 c1056 i1u1057 p_k1u1057 c1098 q_x1123 p_x1124 q_x1128 c1129 c1154 q_x1155 ex1156 ex1158), (by rw [← d_x1128, ← d_x1156]; exact (q384 i1u1 c10 hy13 q_x14 p_x15 q_x21 c22 q_x537 c538 q_x1053 c1054 q_x1055 c1056 i1u1057 p_k1u1057 c1098 q_x1123 p_x1124 q_x1128 c1129 c1154 q_x1155 ex1156 ex1158))⟩ (mu_up (q385 i1u1 c10 hy13 q_x14 p_x15 q_x21 c22 q_x537 c538 q_x1053 c1054 q_x1055 c1056 i1u1057 p_k1u1057 c1098 q_x1123 p_x1124 q_x1128 c1129 c1154 q_x1155 ex1156 ex1158) (q386 i1u1 c10 hy13 q_x14 p_x15 q_x21 c22 q_x537 c538 q_x1053 c1054 q_x1055 c1056 i1u1057 p_k1u1057 c1098 q_x1123 p_x1124 q_x1128 c1129 c1154 q_x1155 ex1156 ex1158))
                  · intro x1159 ex1159
                    have q_x1159 : x1159 = x1123 := ex1159.trans d_x1123.symm
                    have d_x1159 := ex1159
                    obtain ⟨a1160, ea1160, o_a1160, l_a1160⟩ := id hT
                    refine ⟨a1160, ea1160, ?_⟩
                    refine ⟨o_a1160, ?_⟩
                    have n_a1160 : nI (hN S1058 a1160) = 900 := by rw [show hN S1058 a1160 = 900 from l_a1160]; decide
                    refine ⟨fun c1161 => ?_, fun c1161 => ?_⟩
                    · rw [n_a1160] at c1161
                      refine u_X4_next_201 ?_
                      refine ⟨o_v0, ?_⟩
                      intro x1162 ex1162
                      have q_x1162 : x1162 = x1159 := ex1162.trans d_x1159.symm
                      have d_x1162 := ex1162
                      intro x1163 ex1163
                      intro S1164 eS1164
                      have hI : IV S1164 := by rw [eS1164]; exact iv_sI hI o_v0 (by decide) (nu_free (by decide))
                      have f0 := fr_I eS1164 g0 f0 o_v0 (by decide)
                      have fL1060 := fr_I eS1164 gL1059 fL1060 o_v0 (by decide)
                      have d_y13 := rd_Ij eS1164 (by decide) d_y13
                      have d_x1128 := rd_Ij eS1164 (by decide) d_x1128
                      have d_x1163 := rd_Is eS1164 (rfl : x1163 = x1163)
                      have ea1160 := rf_I eS1164 ea1160
                      have hT := tx_I eS1164 hT
                      have l_a1160 := ln_I eS1164 l_a1160
                      have g0 := gr_I eS1164 g0
                      have gL1059 := gr_I eS1164 gL1059
                      have o_a1160 := ob_I eS1164 o_a1160
                      have o_v0 := ob_I eS1164 o_v0
                      intro x1165 ex1165
                      exact ih1071 _ _ _ _ _ _ ⟨hI, gL1059, fL1060, rfl, rfl, rfl, rfl, hT, (q387 i1u1 c10 hy13 q_x14 p_x15 q_x21 c22 q_x537 c538 q_x1053 c1054 q_x1055 c1056 i1u1057 p_k1u1057 c1098 q_x1123 p_x1124 q_x1128 c1129 c1154 q_x1159 c1161 q_x1162 ex1163 ex1165), (by rw [← d_x1128, ← d_x1163]; exact (q388 i1u1 c10 hy13 q_x14 p_x15 q_x21 c22 q_x537 c538 q_x1053 c1054 q_x1055 c1056 i1u1057 p_k1u1057 c1098 q_x1123 p_x1124 q_x1128 c1129 c1154 q_x1159 c1161 q_x1162 ex1163 ex1165))⟩ (mu_up (q389 i1u1 c10 hy13 q_x14 p_x15 q_x21 c22 q_x537 c538 q_x1053 c1054 q_x1055 c1056 i1u1057 p_k1u1057 c1098 q_x1123 p_x1124 q_x1128 c1129 c1154 q_x1159 c1161 q_x1162 ex1163 ex1165) (q390 i1u1 c10 hy13 q_x14 p_x15 q_x21 c22 q_x537 c538 q_x1053 c1054 q_x1055 c1056 i1u1057 p_k1u1057 c1098 q_x1123 p_x1124 q_x1128 c1129 c1154 q_x1159 c1161 q_x1162 ex1163 ex1165))
                    · rw [n_a1160] at c1161
                      intro x1166 ex1166
                      have dj_x1166 := ex1166
                      refine ⟨a1160, ea1160, ?_⟩
                      intro x1168 ex1168
                      have q_x1168 : x1168 = x1159 := ex1168.trans d_x1159.symm
                      have d_x1168 := ex1168
                      refine ⟨o_a1160, ?_⟩
                      refine ⟨(vin l_a1160 (m := 900) (by decide) (q391 i1u1 c10 hy13 q_x14 p_x15 q_x21 c22 q_x537 c538 q_x1053 c1054 q_x1055 c1056 i1u1057 p_k1u1057 c1098 q_x1123 p_x1124 q_x1128 c1129 c1154 q_x1159 c1161 q_x1168)), ?_⟩
                      intro x1169 ex1169
                      intro x1170 ex1170
                      have q_x1170 : x1170 = x1128 := ex1170.trans d_x1128.symm
                      have d_x1170 := ex1170
                      refine ⟨fun c1171 => ?_, fun c1171 => ?_⟩
                      · refine u_X4_next_195 ?_
                        refine ⟨o_v0, ?_⟩
                        intro x1172 ex1172
                        intro S1173 eS1173
                        have hI : IV S1173 := by rw [eS1173]; exact iv_sJ hI o_v0 (by decide)
                        have f0 := fr_J eS1173 f0
                        have fL1060 := fr_J eS1173 fL1060
                        have d_y13 := rd_J eS1173 d_y13
                        have d_x1170 := rd_J eS1173 d_x1170
                        have d_x1168 := rd_J eS1173 d_x1168
                        have ea1160 := rf_J eS1173 ea1160
                        have hT := tx_J eS1173 hT
                        have l_a1160 := ln_J eS1173 l_a1160
                        have g0 := gr_J eS1173 g0
                        have gL1059 := gr_J eS1173 gL1059
                        have o_a1160 := ob_J eS1173 o_a1160
                        have o_v0 := ob_J eS1173 o_v0
                        refine u_X4_next_201 ?_
                        refine ⟨o_v0, ?_⟩
                        intro x1174 ex1174
                        have q_x1174 : x1174 = x1168 := ex1174.trans d_x1168.symm
                        have d_x1174 := ex1174
                        intro x1175 ex1175
                        intro S1176 eS1176
                        have hI : IV S1176 := by rw [eS1176]; exact iv_sI hI o_v0 (by decide) (nu_free (by decide))
                        have f0 := fr_I eS1176 g0 f0 o_v0 (by decide)
                        have fL1060 := fr_I eS1176 gL1059 fL1060 o_v0 (by decide)
                        have d_y13 := rd_Ij eS1176 (by decide) d_y13
                        have d_x1170 := rd_Ij eS1176 (by decide) d_x1170
                        have d_x1175 := rd_Is eS1176 (rfl : x1175 = x1175)
                        have ea1160 := rf_I eS1176 ea1160
                        have hT := tx_I eS1176 hT
                        have l_a1160 := ln_I eS1176 l_a1160
                        have g0 := gr_I eS1176 g0
                        have gL1059 := gr_I eS1176 gL1059
                        have o_a1160 := ob_I eS1176 o_a1160
                        have o_v0 := ob_I eS1176 o_v0
                        intro x1177 ex1177
                        exact ih1071 _ _ _ _ _ _ ⟨hI, gL1059, fL1060, rfl, rfl, rfl, rfl, hT, (q392 i1u1 c10 hy13 q_x14 p_x15 q_x21 c22 q_x537 c538 q_x1053 c1054 q_x1055 c1056 i1u1057 p_k1u1057 c1098 q_x1123 p_x1124 q_x1128 c1129 c1154 q_x1159 c1161 q_x1168 q_x1170 c1171 q_x1174 ex1175 ex1177), (by rw [← d_x1170, ← d_x1175]; exact (q393 i1u1 c10 hy13 q_x14 p_x15 q_x21 c22 q_x537 c538 q_x1053 c1054 q_x1055 c1056 i1u1057 p_k1u1057 c1098 q_x1123 p_x1124 q_x1128 c1129 c1154 q_x1159 c1161 q_x1168 q_x1170 c1171 q_x1174 ex1175 ex1177))⟩ (mu_up (q394 i1u1 c10 hy13 q_x14 p_x15 q_x21 c22 q_x537 c538 q_x1053 c1054 q_x1055 c1056 i1u1057 p_k1u1057 c1098 q_x1123 p_x1124 q_x1128 c1129 c1154 q_x1159 c1161 q_x1168 q_x1170 c1171 q_x1174 ex1175 ex1177) (q395 i1u1 c10 hy13 q_x14 p_x15 q_x21 c22 q_x537 c538 q_x1053 c1054 q_x1055 c1056 i1u1057 p_k1u1057 c1098 q_x1123 p_x1124 q_x1128 c1129 c1154 q_x1159 c1161 q_x1168 q_x1170 c1171 q_x1174 ex1175 ex1177))
                      · refine u_X4_next_195 ?_
                        refine ⟨o_v0, ?_⟩
                        intro x1178 ex1178
                        intro S1179 eS1179
                        have hI : IV S1179 := by rw [eS1179]; exact iv_sJ hI o_v0 (by decide)
                        have f0 := fr_J eS1179 f0
                        have fL1060 := fr_J eS1179 fL1060
                        have d_y13 := rd_J eS1179 d_y13
                        have d_x1170 := rd_J eS1179 d_x1170
                        have d_x1168 := rd_J eS1179 d_x1168
                        have ea1160 := rf_J eS1179 ea1160
                        have hT := tx_J eS1179 hT
                        have l_a1160 := ln_J eS1179 l_a1160
                        have g0 := gr_J eS1179 g0
                        have gL1059 := gr_J eS1179 gL1059
                        have o_a1160 := ob_J eS1179 o_a1160
                        have o_v0 := ob_J eS1179 o_v0
                        refine u_X4_next_201 ?_
                        refine ⟨o_v0, ?_⟩
                        intro x1180 ex1180
                        have q_x1180 : x1180 = x1168 := ex1180.trans d_x1168.symm
                        have d_x1180 := ex1180
                        intro x1181 ex1181
                        intro S1182 eS1182
                        have hI : IV S1182 := by rw [eS1182]; exact iv_sI hI o_v0 (by decide) (nu_free (by decide))
                        have f0 := fr_I eS1182 g0 f0 o_v0 (by decide)
                        have fL1060 := fr_I eS1182 gL1059 fL1060 o_v0 (by decide)
                        have d_y13 := rd_Ij eS1182 (by decide) d_y13
                        have d_x1170 := rd_Ij eS1182 (by decide) d_x1170
                        have d_x1181 := rd_Is eS1182 (rfl : x1181 = x1181)
                        have ea1160 := rf_I eS1182 ea1160
                        have hT := tx_I eS1182 hT
                        have l_a1160 := ln_I eS1182 l_a1160
                        have g0 := gr_I eS1182 g0
                        have gL1059 := gr_I eS1182 gL1059
                        have o_a1160 := ob_I eS1182 o_a1160
                        have o_v0 := ob_I eS1182 o_v0
                        intro x1183 ex1183
                        exact ih1071 _ _ _ _ _ _ ⟨hI, gL1059, fL1060, rfl, rfl, rfl, rfl, hT, (q396 i1u1 c10 hy13 q_x14 p_x15 q_x21 c22 q_x537 c538 q_x1053 c1054 q_x1055 c1056 i1u1057 p_k1u1057 c1098 q_x1123 p_x1124 q_x1128 c1129 c1154 q_x1159 c1161 q_x1168 q_x1170 c1171 q_x1180 ex1181 ex1183), (by rw [← d_x1170, ← d_x1181]; exact (q397 i1u1 c10 hy13 q_x14 p_x15 q_x21 c22 q_x537 c538 q_x1053 c1054 q_x1055 c1056 i1u1057 p_k1u1057 c1098 q_x1123 p_x1124 q_x1128 c1129 c1154 q_x1159 c1161 q_x1168 q_x1170 c1171 q_x1180 ex1181 ex1183))⟩ (mu_up (q398 i1u1 c10 hy13 q_x14 p_x15 q_x21 c22 q_x537 c538 q_x1053 c1054 q_x1055 c1056 i1u1057 p_k1u1057 c1098 q_x1123 p_x1124 q_x1128 c1129 c1154 q_x1159 c1161 q_x1168 q_x1170 c1171 q_x1180 ex1181 ex1183) (q399 i1u1 c10 hy13 q_x14 p_x15 q_x21 c22 q_x537 c538 q_x1053 c1054 q_x1055 c1056 i1u1057 p_k1u1057 c1098 q_x1123 p_x1124 q_x1128 c1129 c1154 q_x1159 c1161 q_x1168 q_x1170 c1171 q_x1180 ex1181 ex1183))
          · refine u_X4_next_114 ?_
            refine i_X4_next_118 (fun (y0 : Nat) (y1 : Int32) (y2 : Int32) (y3 : Int32) (y4 : Int32) (Z : HS) => ((2147483647 : Int32).toInt - y4.toInt).toNat) (fun (y0 : Nat) (y1 : Int32) (y2 : Int32) (y3 : Int32) (y4 : Int32) (Z : HS) => (IV Z) ∧ (Gr S20 Z) ∧ (FRI [(4, 4)] [] S20 Z) ∧ (v0 = y0) ∧ ((1 : Int32) = y1) ∧ ((3 : Int32) = y2) ∧ ((32 : Int32) = y3) ∧ (TX Z v0) ∧ (0 ≤ y4) ∧ ((y1 = 0 ∨ fI Z v0 6 = 1 ∨ fI Z v0 6 = 2) ∧ (y1 = 0 → fI Z v0 6 = 0 ∨ (0 ≤ fI Z v0 4 ∧ fI Z v0 4 < 900)))) ?_ _ _ _ _ _ _ ⟨hI, (gr_rf _), (fri_rf _ _ _), rfl, rfl, rfl, rfl, hT, (q400 i1u1 c10 hy13 q_x14 p_x15 q_x21 c22 q_x537 c538 q_x1053 c1054 q_x1055 c1056), (by rw [← d_x1055, ← d_x14]; exact (q401 i1u1 c10 hy13 q_x14 p_x15 q_x21 c22 q_x537 c538 q_x1053 c1054 q_x1055 c1056))⟩
            intro w1188 w1190 w1192 w1194 w1196 S1185 X1197 ⟨hI, gL1186, fL1187, q1189, q1191, q1193, q1195, hT, i1u1184, k1u1184⟩ ih1198
            subst q1189
            subst q1191
            subst q1193
            subst q1195
            have d_y13 := d_y13.trans (fri_at fL1187 (by decide) (by decide) o_v0).symm
            have d_x1055 := d_x1055.trans (fri_at fL1187 (by decide) (by decide) o_v0).symm
            have f0 := fri_tr (S := S20) g0 f0 fL1187 (by decide) (by decide)
            have o_v0 := gr_ob gL1186 o_v0
            have g0 := gr_tr (T := S20) g0 gL1186
            obtain ⟨y1199, d_y1199⟩ : ∃ z : Int32, z = fI S1185 v0 4 := ⟨_, rfl⟩
            have p_k1u1184 : ((1 : Int32) = 0 ∨ x1055 = 1 ∨ x1055 = 2) ∧ ((1 : Int32) = 0 → x1055 = 0 ∨ (0 ≤ y1199 ∧ y1199 < 900)) := by rw [d_x1055, d_y1199]; exact k1u1184
            refine u_X4_next_118 ?_
            refine ⟨fun c1200 => ?_, fun c1200 => ?_⟩
            · refine u_X4_next_217 ?_
              refine ⟨fun c1201 => ?_, fun c1201 => ?_⟩
              · refine u_X4_next_240 ?_
                refine ⟨fun c1202 => ?_, fun c1202 => ?_⟩
                · exact hq _ hI g0 f0 hT
                · refine ⟨o_v0, ?_⟩
                  intro x1203 ex1203
                  have q_x1203 : x1203 = x1055 := ex1203.trans d_x1055.symm
                  have d_x1203 := ex1203
                  refine ⟨fun c1204 => ?_, fun c1204 => ?_⟩
                  · exact hq _ hI g0 f0 hT
                  · intro x1205 ex1205
                    have q_x1205 : x1205 = y1199 := ex1205.trans d_y1199.symm
                    have d_x1205 := ex1205
                    intro x1206 ex1206
                    intro S1207 eS1207
                    have hI : IV S1207 := by rw [eS1207]; exact iv_sI hI o_v0 (by decide) (nu_free (by decide))
                    have f0 := fr_I eS1207 g0 f0 o_v0 (by decide)
                    have d_y13 := rd_Ij eS1207 (by decide) d_y13
                    have d_x1203 := rd_Ij eS1207 (by decide) d_x1203
                    have d_x1206 := rd_Is eS1207 (rfl : x1206 = x1206)
                    have hT := tx_I eS1207 hT
                    have g0 := gr_I eS1207 g0
                    have o_v0 := ob_I eS1207 o_v0
                    exact hq _ hI g0 f0 hT
              · refine ⟨o_v0, ?_⟩
                intro x1208 ex1208
                have q_x1208 : x1208 = y1199 := ex1208.trans d_y1199.symm
                have d_x1208 := ex1208
                intro x1209 ex1209
                have q_x1209 : x1209 = y13 := ex1209.trans d_y13.symm
                have d_x1209 := ex1209
                refine ⟨fun c1210 => ?_, fun c1210 => ?_⟩
                · refine u_X4_next_240 ?_
                  refine ⟨fun c1211 => ?_, fun c1211 => ?_⟩
                  · exact hq _ hI g0 f0 hT
                  · refine ⟨o_v0, ?_⟩
                    intro x1212 ex1212
                    have q_x1212 : x1212 = x1055 := ex1212.trans d_x1055.symm
                    have d_x1212 := ex1212
                    refine ⟨fun c1213 => ?_, fun c1213 => ?_⟩
                    · exact hq _ hI g0 f0 hT
                    · intro x1214 ex1214
                      have q_x1214 : x1214 = x1208 := ex1214.trans d_x1208.symm
                      have d_x1214 := ex1214
                      intro x1215 ex1215
                      intro S1216 eS1216
                      have hI : IV S1216 := by rw [eS1216]; exact iv_sI hI o_v0 (by decide) (nu_free (by decide))
                      have f0 := fr_I eS1216 g0 f0 o_v0 (by decide)
                      have d_x1209 := rd_Ij eS1216 (by decide) d_x1209
                      have d_x1212 := rd_Ij eS1216 (by decide) d_x1212
                      have d_x1215 := rd_Is eS1216 (rfl : x1215 = x1215)
                      have hT := tx_I eS1216 hT
                      have g0 := gr_I eS1216 g0
                      have o_v0 := ob_I eS1216 o_v0
                      exact hq _ hI g0 f0 hT
                · intro S1217 eS1217
                  have hI : IV S1217 := by rw [eS1217]; exact iv_sI hI o_v0 (by decide) (nu_free (by decide))
                  have f0 := fr_I eS1217 g0 f0 o_v0 (by decide)
                  have d_x1209 := rd_Ij eS1217 (by decide) d_x1209
                  have d_x1208 := rd_Ij eS1217 (by decide) d_x1208
                  obtain ⟨y1218, hy1218⟩ : ∃ z : Int32, z = (6 : Int32) := ⟨_, rfl⟩
                  have d_y1218 := rd_Is eS1217 hy1218
                  have hT := tx_I eS1217 hT
                  have g0 := gr_I eS1217 g0
                  have o_v0 := ob_I eS1217 o_v0
                  refine u_X4_next_240 ?_
                  refine ⟨fun c1219 => ?_, fun c1219 => ?_⟩
                  · exact hq _ hI g0 f0 hT
                  · refine ⟨o_v0, ?_⟩
                    intro x1220 ex1220
                    have q_x1220 : x1220 = y1218 := ex1220.trans d_y1218.symm
                    have d_x1220 := ex1220
                    refine ⟨fun c1221 => ?_, fun c1221 => ?_⟩
                    · exact hq _ hI g0 f0 hT
                    · intro x1222 ex1222
                      have q_x1222 : x1222 = x1208 := ex1222.trans d_x1208.symm
                      have d_x1222 := ex1222
                      intro x1223 ex1223
                      intro S1224 eS1224
                      have hI : IV S1224 := by rw [eS1224]; exact iv_sI hI o_v0 (by decide) (nu_free (by decide))
                      have f0 := fr_I eS1224 g0 f0 o_v0 (by decide)
                      have d_x1209 := rd_Ij eS1224 (by decide) d_x1209
                      have d_x1220 := rd_Ij eS1224 (by decide) d_x1220
                      have d_x1223 := rd_Is eS1224 (rfl : x1223 = x1223)
                      have hT := tx_I eS1224 hT
                      have g0 := gr_I eS1224 g0
                      have o_v0 := ob_I eS1224 o_v0
                      exact hq _ hI g0 f0 hT
            · refine ⟨fun c1225 => ?_, fun c1225 => ?_⟩
              · refine u_X4_next_217 ?_
                refine ⟨fun c1226 => ?_, fun c1226 => ?_⟩
                · refine u_X4_next_240 ?_
                  refine ⟨fun c1227 => ?_, fun c1227 => ?_⟩
                  · exact hq _ hI g0 f0 hT
                  · refine ⟨o_v0, ?_⟩
                    intro x1228 ex1228
                    have q_x1228 : x1228 = x1055 := ex1228.trans d_x1055.symm
                    have d_x1228 := ex1228
                    refine ⟨fun c1229 => ?_, fun c1229 => ?_⟩
                    · exact hq _ hI g0 f0 hT
                    · intro x1230 ex1230
                      have q_x1230 : x1230 = y1199 := ex1230.trans d_y1199.symm
                      have d_x1230 := ex1230
                      intro x1231 ex1231
                      intro S1232 eS1232
                      have hI : IV S1232 := by rw [eS1232]; exact iv_sI hI o_v0 (by decide) (nu_free (by decide))
                      have f0 := fr_I eS1232 g0 f0 o_v0 (by decide)
                      have d_y13 := rd_Ij eS1232 (by decide) d_y13
                      have d_x1228 := rd_Ij eS1232 (by decide) d_x1228
                      have d_x1231 := rd_Is eS1232 (rfl : x1231 = x1231)
                      have hT := tx_I eS1232 hT
                      have g0 := gr_I eS1232 g0
                      have o_v0 := ob_I eS1232 o_v0
                      exact hq _ hI g0 f0 hT
                · refine ⟨o_v0, ?_⟩
                  intro x1233 ex1233
                  have q_x1233 : x1233 = y1199 := ex1233.trans d_y1199.symm
                  have d_x1233 := ex1233
                  intro x1234 ex1234
                  have q_x1234 : x1234 = y13 := ex1234.trans d_y13.symm
                  have d_x1234 := ex1234
                  refine ⟨fun c1235 => ?_, fun c1235 => ?_⟩
                  · refine u_X4_next_240 ?_
                    refine ⟨fun c1236 => ?_, fun c1236 => ?_⟩
                    · exact hq _ hI g0 f0 hT
                    · refine ⟨o_v0, ?_⟩
                      intro x1237 ex1237
                      have q_x1237 : x1237 = x1055 := ex1237.trans d_x1055.symm
                      have d_x1237 := ex1237
                      refine ⟨fun c1238 => ?_, fun c1238 => ?_⟩
                      · exact hq _ hI g0 f0 hT
                      · intro x1239 ex1239
                        have q_x1239 : x1239 = x1233 := ex1239.trans d_x1233.symm
                        have d_x1239 := ex1239
                        intro x1240 ex1240
                        intro S1241 eS1241
                        have hI : IV S1241 := by rw [eS1241]; exact iv_sI hI o_v0 (by decide) (nu_free (by decide))
                        have f0 := fr_I eS1241 g0 f0 o_v0 (by decide)
                        have d_x1234 := rd_Ij eS1241 (by decide) d_x1234
                        have d_x1237 := rd_Ij eS1241 (by decide) d_x1237
                        have d_x1240 := rd_Is eS1241 (rfl : x1240 = x1240)
                        have hT := tx_I eS1241 hT
                        have g0 := gr_I eS1241 g0
                        have o_v0 := ob_I eS1241 o_v0
                        exact hq _ hI g0 f0 hT
                  · intro S1242 eS1242
                    have hI : IV S1242 := by rw [eS1242]; exact iv_sI hI o_v0 (by decide) (nu_free (by decide))
                    have f0 := fr_I eS1242 g0 f0 o_v0 (by decide)
                    have d_x1234 := rd_Ij eS1242 (by decide) d_x1234
                    have d_x1233 := rd_Ij eS1242 (by decide) d_x1233
                    obtain ⟨y1243, hy1243⟩ : ∃ z : Int32, z = (6 : Int32) := ⟨_, rfl⟩
                    have d_y1243 := rd_Is eS1242 hy1243
                    have hT := tx_I eS1242 hT
                    have g0 := gr_I eS1242 g0
                    have o_v0 := ob_I eS1242 o_v0
                    refine u_X4_next_240 ?_
                    refine ⟨fun c1244 => ?_, fun c1244 => ?_⟩
                    · exact hq _ hI g0 f0 hT
                    · refine ⟨o_v0, ?_⟩
                      intro x1245 ex1245
                      have q_x1245 : x1245 = y1243 := ex1245.trans d_y1243.symm
                      have d_x1245 := ex1245
                      refine ⟨fun c1246 => ?_, fun c1246 => ?_⟩
                      · exact hq _ hI g0 f0 hT
                      · intro x1247 ex1247
                        have q_x1247 : x1247 = x1233 := ex1247.trans d_x1233.symm
                        have d_x1247 := ex1247
                        intro x1248 ex1248
                        intro S1249 eS1249
                        have hI : IV S1249 := by rw [eS1249]; exact iv_sI hI o_v0 (by decide) (nu_free (by decide))
                        have f0 := fr_I eS1249 g0 f0 o_v0 (by decide)
                        have d_x1234 := rd_Ij eS1249 (by decide) d_x1234
                        have d_x1245 := rd_Ij eS1249 (by decide) d_x1245
                        have d_x1248 := rd_Is eS1249 (rfl : x1248 = x1248)
                        have hT := tx_I eS1249 hT
                        have g0 := gr_I eS1249 g0
                        have o_v0 := ob_I eS1249 o_v0
                        exact hq _ hI g0 f0 hT
              · refine ⟨o_v0, ?_⟩
                intro x1250 ex1250
                have q_x1250 : x1250 = y1199 := ex1250.trans d_y1199.symm
                have d_x1250 := ex1250
                refine m_X4_sortAt hI o_v0 hT (fun x1251 S1252 hI2 g1253 p_x1251 => ?_)
                obtain ⟨z_S1252, p_x1251⟩ := p_x1251
                subst z_S1252
                intro _
                intro x1255 ex1255
                have q_x1255 : x1255 = x1055 := ex1255.trans d_x1055.symm
                have d_x1255 := ex1255
                refine ⟨fun c1256 => ?_, fun c1256 => ?_⟩
                · refine u_X4_next_217 ?_
                  refine ⟨fun c1257 => ?_, fun c1257 => ?_⟩
                  · refine u_X4_next_240 ?_
                    refine ⟨fun c1258 => ?_, fun c1258 => ?_⟩
                    · exact hq _ hI g0 f0 hT
                    · refine ⟨o_v0, ?_⟩
                      intro x1259 ex1259
                      have q_x1259 : x1259 = x1255 := ex1259.trans d_x1255.symm
                      have d_x1259 := ex1259
                      refine ⟨fun c1260 => ?_, fun c1260 => ?_⟩
                      · exact hq _ hI g0 f0 hT
                      · intro x1261 ex1261
                        have q_x1261 : x1261 = x1250 := ex1261.trans d_x1250.symm
                        have d_x1261 := ex1261
                        intro x1262 ex1262
                        intro S1263 eS1263
                        have hI : IV S1263 := by rw [eS1263]; exact iv_sI hI o_v0 (by decide) (nu_free (by decide))
                        have f0 := fr_I eS1263 g0 f0 o_v0 (by decide)
                        have d_y13 := rd_Ij eS1263 (by decide) d_y13
                        have d_x1259 := rd_Ij eS1263 (by decide) d_x1259
                        have d_x1262 := rd_Is eS1263 (rfl : x1262 = x1262)
                        have hT := tx_I eS1263 hT
                        have g0 := gr_I eS1263 g0
                        have o_v0 := ob_I eS1263 o_v0
                        exact hq _ hI g0 f0 hT
                  · refine ⟨o_v0, ?_⟩
                    intro x1264 ex1264
                    have q_x1264 : x1264 = x1250 := ex1264.trans d_x1250.symm
                    have d_x1264 := ex1264
                    intro x1265 ex1265
                    have q_x1265 : x1265 = y13 := ex1265.trans d_y13.symm
                    have d_x1265 := ex1265
                    refine ⟨fun c1266 => ?_, fun c1266 => ?_⟩
                    · refine u_X4_next_240 ?_
                      refine ⟨fun c1267 => ?_, fun c1267 => ?_⟩
                      · exact hq _ hI g0 f0 hT
                      · refine ⟨o_v0, ?_⟩
                        intro x1268 ex1268
                        have q_x1268 : x1268 = x1255 := ex1268.trans d_x1255.symm
                        have d_x1268 := ex1268
                        refine ⟨fun c1269 => ?_, fun c1269 => ?_⟩
                        · exact hq _ hI g0 f0 hT
                        · intro x1270 ex1270
                          have q_x1270 : x1270 = x1264 := ex1270.trans d_x1264.symm
                          have d_x1270 := ex1270
                          intro x1271 ex1271
                          intro S1272 eS1272
                          have hI : IV S1272 := by rw [eS1272]; exact iv_sI hI o_v0 (by decide) (nu_free (by decide))
                          have f0 := fr_I eS1272 g0 f0 o_v0 (by decide)
                          have d_x1265 := rd_Ij eS1272 (by decide) d_x1265
                          have d_x1268 := rd_Ij eS1272 (by decide) d_x1268
                          have d_x1271 := rd_Is eS1272 (rfl : x1271 = x1271)
                          have hT := tx_I eS1272 hT
                          have g0 := gr_I eS1272 g0
                          have o_v0 := ob_I eS1272 o_v0
                          exact hq _ hI g0 f0 hT
                    · intro S1273 eS1273
                      have hI : IV S1273 := by rw [eS1273]; exact iv_sI hI o_v0 (by decide) (nu_free (by decide))
                      have f0 := fr_I eS1273 g0 f0 o_v0 (by decide)
                      have d_x1265 := rd_Ij eS1273 (by decide) d_x1265
                      have d_x1264 := rd_Ij eS1273 (by decide) d_x1264
                      obtain ⟨y1274, hy1274⟩ : ∃ z : Int32, z = (6 : Int32) := ⟨_, rfl⟩
                      have d_y1274 := rd_Is eS1273 hy1274
                      have hT := tx_I eS1273 hT
                      have g0 := gr_I eS1273 g0
                      have o_v0 := ob_I eS1273 o_v0
                      refine u_X4_next_240 ?_
                      refine ⟨fun c1275 => ?_, fun c1275 => ?_⟩
                      · exact hq _ hI g0 f0 hT
                      · refine ⟨o_v0, ?_⟩
                        intro x1276 ex1276
                        have q_x1276 : x1276 = y1274 := ex1276.trans d_y1274.symm
                        have d_x1276 := ex1276
                        refine ⟨fun c1277 => ?_, fun c1277 => ?_⟩
                        · exact hq _ hI g0 f0 hT
                        · intro x1278 ex1278
                          have q_x1278 : x1278 = x1264 := ex1278.trans d_x1264.symm
                          have d_x1278 := ex1278
                          intro x1279 ex1279
                          intro S1280 eS1280
                          have hI : IV S1280 := by rw [eS1280]; exact iv_sI hI o_v0 (by decide) (nu_free (by decide))
                          have f0 := fr_I eS1280 g0 f0 o_v0 (by decide)
                          have d_x1265 := rd_Ij eS1280 (by decide) d_x1265
                          have d_x1276 := rd_Ij eS1280 (by decide) d_x1276
                          have d_x1279 := rd_Is eS1280 (rfl : x1279 = x1279)
                          have hT := tx_I eS1280 hT
                          have g0 := gr_I eS1280 g0
                          have o_v0 := ob_I eS1280 o_v0
                          exact hq _ hI g0 f0 hT
                · refine ⟨fun c1281 => ?_, fun c1281 => ?_⟩
                  · refine u_X4_next_201 ?_
                    refine ⟨o_v0, ?_⟩
                    intro x1282 ex1282
                    have q_x1282 : x1282 = x1250 := ex1282.trans d_x1250.symm
                    have d_x1282 := ex1282
                    intro x1283 ex1283
                    intro S1284 eS1284
                    have hI : IV S1284 := by rw [eS1284]; exact iv_sI hI o_v0 (by decide) (nu_free (by decide))
                    have f0 := fr_I eS1284 g0 f0 o_v0 (by decide)
                    have fL1187 := fr_I eS1284 gL1186 fL1187 o_v0 (by decide)
                    have d_y13 := rd_Ij eS1284 (by decide) d_y13
                    have d_x1255 := rd_Ij eS1284 (by decide) d_x1255
                    have d_x1283 := rd_Is eS1284 (rfl : x1283 = x1283)
                    have hT := tx_I eS1284 hT
                    have g0 := gr_I eS1284 g0
                    have gL1186 := gr_I eS1284 gL1186
                    have o_v0 := ob_I eS1284 o_v0
                    intro x1285 ex1285
                    exact ih1198 _ _ _ _ _ _ ⟨hI, gL1186, fL1187, rfl, rfl, rfl, rfl, hT, (q402 i1u1 c10 hy13 q_x14 p_x15 q_x21 c22 q_x537 c538 q_x1053 c1054 q_x1055 c1056 i1u1184 p_k1u1184 c1225 q_x1250 p_x1251 q_x1255 c1256 c1281 q_x1282 ex1283 ex1285), (by rw [← d_x1255, ← d_x1283]; exact (q403 i1u1 c10 hy13 q_x14 p_x15 q_x21 c22 q_x537 c538 q_x1053 c1054 q_x1055 c1056 i1u1184 p_k1u1184 c1225 q_x1250 p_x1251 q_x1255 c1256 c1281 q_x1282 ex1283 ex1285))⟩ (mu_up (q404 i1u1 c10 hy13 q_x14 p_x15 q_x21 c22 q_x537 c538 q_x1053 c1054 q_x1055 c1056 i1u1184 p_k1u1184 c1225 q_x1250 p_x1251 q_x1255 c1256 c1281 q_x1282 ex1283 ex1285) (q405 i1u1 c10 hy13 q_x14 p_x15 q_x21 c22 q_x537 c538 q_x1053 c1054 q_x1055 c1056 i1u1184 p_k1u1184 c1225 q_x1250 p_x1251 q_x1255 c1256 c1281 q_x1282 ex1283 ex1285))
                  · intro x1286 ex1286
                    have q_x1286 : x1286 = x1250 := ex1286.trans d_x1250.symm
                    have d_x1286 := ex1286
                    obtain ⟨a1287, ea1287, o_a1287, l_a1287⟩ := id hT
                    refine ⟨a1287, ea1287, ?_⟩
                    refine ⟨o_a1287, ?_⟩
                    have n_a1287 : nI (hN S1185 a1287) = 900 := by rw [show hN S1185 a1287 = 900 from l_a1287]; decide
                    refine ⟨fun c1288 => ?_, fun c1288 => ?_⟩
                    · rw [n_a1287] at c1288
                      refine u_X4_next_201 ?_
                      refine ⟨o_v0, ?_⟩
                      intro x1289 ex1289
                      have q_x1289 : x1289 = x1286 := ex1289.trans d_x1286.symm
                      have d_x1289 := ex1289
                      intro x1290 ex1290
                      intro S1291 eS1291
                      have hI : IV S1291 := by rw [eS1291]; exact iv_sI hI o_v0 (by decide) (nu_free (by decide))
                      have f0 := fr_I eS1291 g0 f0 o_v0 (by decide)
                      have fL1187 := fr_I eS1291 gL1186 fL1187 o_v0 (by decide)
                      have d_y13 := rd_Ij eS1291 (by decide) d_y13
                      have d_x1255 := rd_Ij eS1291 (by decide) d_x1255
                      have d_x1290 := rd_Is eS1291 (rfl : x1290 = x1290)
                      have ea1287 := rf_I eS1291 ea1287
                      have hT := tx_I eS1291 hT
                      have l_a1287 := ln_I eS1291 l_a1287
                      have g0 := gr_I eS1291 g0
                      have gL1186 := gr_I eS1291 gL1186
                      have o_a1287 := ob_I eS1291 o_a1287
                      have o_v0 := ob_I eS1291 o_v0
                      intro x1292 ex1292
                      exact ih1198 _ _ _ _ _ _ ⟨hI, gL1186, fL1187, rfl, rfl, rfl, rfl, hT, (q406 i1u1 c10 hy13 q_x14 p_x15 q_x21 c22 q_x537 c538 q_x1053 c1054 q_x1055 c1056 i1u1184 p_k1u1184 c1225 q_x1250 p_x1251 q_x1255 c1256 c1281 q_x1286 c1288 q_x1289 ex1290 ex1292), (by rw [← d_x1255, ← d_x1290]; exact (q407 i1u1 c10 hy13 q_x14 p_x15 q_x21 c22 q_x537 c538 q_x1053 c1054 q_x1055 c1056 i1u1184 p_k1u1184 c1225 q_x1250 p_x1251 q_x1255 c1256 c1281 q_x1286 c1288 q_x1289 ex1290 ex1292))⟩ (mu_up (q408 i1u1 c10 hy13 q_x14 p_x15 q_x21 c22 q_x537 c538 q_x1053 c1054 q_x1055 c1056 i1u1184 p_k1u1184 c1225 q_x1250 p_x1251 q_x1255 c1256 c1281 q_x1286 c1288 q_x1289 ex1290 ex1292) (q409 i1u1 c10 hy13 q_x14 p_x15 q_x21 c22 q_x537 c538 q_x1053 c1054 q_x1055 c1056 i1u1184 p_k1u1184 c1225 q_x1250 p_x1251 q_x1255 c1256 c1281 q_x1286 c1288 q_x1289 ex1290 ex1292))
                    · rw [n_a1287] at c1288
                      intro x1293 ex1293
                      have dj_x1293 := ex1293
                      refine ⟨a1287, ea1287, ?_⟩
                      intro x1295 ex1295
                      have q_x1295 : x1295 = x1286 := ex1295.trans d_x1286.symm
                      have d_x1295 := ex1295
                      refine ⟨o_a1287, ?_⟩
                      refine ⟨(vin l_a1287 (m := 900) (by decide) (q410 i1u1 c10 hy13 q_x14 p_x15 q_x21 c22 q_x537 c538 q_x1053 c1054 q_x1055 c1056 i1u1184 p_k1u1184 c1225 q_x1250 p_x1251 q_x1255 c1256 c1281 q_x1286 c1288 q_x1295)), ?_⟩
                      intro x1296 ex1296
                      intro x1297 ex1297
                      have q_x1297 : x1297 = x1255 := ex1297.trans d_x1255.symm
                      have d_x1297 := ex1297
                      refine ⟨fun c1298 => ?_, fun c1298 => ?_⟩
                      · refine u_X4_next_195 ?_
                        refine ⟨o_v0, ?_⟩
                        intro x1299 ex1299
                        intro S1300 eS1300
                        have hI : IV S1300 := by rw [eS1300]; exact iv_sJ hI o_v0 (by decide)
                        have f0 := fr_J eS1300 f0
                        have fL1187 := fr_J eS1300 fL1187
                        have d_y13 := rd_J eS1300 d_y13
                        have d_x1297 := rd_J eS1300 d_x1297
                        have d_x1295 := rd_J eS1300 d_x1295
                        have ea1287 := rf_J eS1300 ea1287
                        have hT := tx_J eS1300 hT
                        have l_a1287 := ln_J eS1300 l_a1287
                        have g0 := gr_J eS1300 g0
                        have gL1186 := gr_J eS1300 gL1186
                        have o_a1287 := ob_J eS1300 o_a1287
                        have o_v0 := ob_J eS1300 o_v0
                        refine u_X4_next_201 ?_
                        refine ⟨o_v0, ?_⟩
                        intro x1301 ex1301
                        have q_x1301 : x1301 = x1295 := ex1301.trans d_x1295.symm
                        have d_x1301 := ex1301
                        intro x1302 ex1302
                        intro S1303 eS1303
                        have hI : IV S1303 := by rw [eS1303]; exact iv_sI hI o_v0 (by decide) (nu_free (by decide))
                        have f0 := fr_I eS1303 g0 f0 o_v0 (by decide)
                        have fL1187 := fr_I eS1303 gL1186 fL1187 o_v0 (by decide)
                        have d_y13 := rd_Ij eS1303 (by decide) d_y13
                        have d_x1297 := rd_Ij eS1303 (by decide) d_x1297
                        have d_x1302 := rd_Is eS1303 (rfl : x1302 = x1302)
                        have ea1287 := rf_I eS1303 ea1287
                        have hT := tx_I eS1303 hT
                        have l_a1287 := ln_I eS1303 l_a1287
                        have g0 := gr_I eS1303 g0
                        have gL1186 := gr_I eS1303 gL1186
                        have o_a1287 := ob_I eS1303 o_a1287
                        have o_v0 := ob_I eS1303 o_v0
                        intro x1304 ex1304
                        exact ih1198 _ _ _ _ _ _ ⟨hI, gL1186, fL1187, rfl, rfl, rfl, rfl, hT, (q411 i1u1 c10 hy13 q_x14 p_x15 q_x21 c22 q_x537 c538 q_x1053 c1054 q_x1055 c1056 i1u1184 p_k1u1184 c1225 q_x1250 p_x1251 q_x1255 c1256 c1281 q_x1286 c1288 q_x1295 q_x1297 c1298 q_x1301 ex1302 ex1304), (by rw [← d_x1297, ← d_x1302]; exact (q412 i1u1 c10 hy13 q_x14 p_x15 q_x21 c22 q_x537 c538 q_x1053 c1054 q_x1055 c1056 i1u1184 p_k1u1184 c1225 q_x1250 p_x1251 q_x1255 c1256 c1281 q_x1286 c1288 q_x1295 q_x1297 c1298 q_x1301 ex1302 ex1304))⟩ (mu_up (q413 i1u1 c10 hy13 q_x14 p_x15 q_x21 c22 q_x537 c538 q_x1053 c1054 q_x1055 c1056 i1u1184 p_k1u1184 c1225 q_x1250 p_x1251 q_x1255 c1256 c1281 q_x1286 c1288 q_x1295 q_x1297 c1298 q_x1301 ex1302 ex1304) (q414 i1u1 c10 hy13 q_x14 p_x15 q_x21 c22 q_x537 c538 q_x1053 c1054 q_x1055 c1056 i1u1184 p_k1u1184 c1225 q_x1250 p_x1251 q_x1255 c1256 c1281 q_x1286 c1288 q_x1295 q_x1297 c1298 q_x1301 ex1302 ex1304))
                      · refine u_X4_next_195 ?_
                        refine ⟨o_v0, ?_⟩
                        intro x1305 ex1305
                        intro S1306 eS1306
                        have hI : IV S1306 := by rw [eS1306]; exact iv_sJ hI o_v0 (by decide)
                        have f0 := fr_J eS1306 f0
                        have fL1187 := fr_J eS1306 fL1187
                        have d_y13 := rd_J eS1306 d_y13
                        have d_x1297 := rd_J eS1306 d_x1297
                        have d_x1295 := rd_J eS1306 d_x1295
                        have ea1287 := rf_J eS1306 ea1287
                        have hT := tx_J eS1306 hT
                        have l_a1287 := ln_J eS1306 l_a1287
                        have g0 := gr_J eS1306 g0
                        have gL1186 := gr_J eS1306 gL1186
                        have o_a1287 := ob_J eS1306 o_a1287
                        have o_v0 := ob_J eS1306 o_v0
                        refine u_X4_next_201 ?_
                        refine ⟨o_v0, ?_⟩
                        intro x1307 ex1307
                        have q_x1307 : x1307 = x1295 := ex1307.trans d_x1295.symm
                        have d_x1307 := ex1307
                        intro x1308 ex1308
                        intro S1309 eS1309
                        have hI : IV S1309 := by rw [eS1309]; exact iv_sI hI o_v0 (by decide) (nu_free (by decide))
                        have f0 := fr_I eS1309 g0 f0 o_v0 (by decide)
                        have fL1187 := fr_I eS1309 gL1186 fL1187 o_v0 (by decide)
                        have d_y13 := rd_Ij eS1309 (by decide) d_y13
                        have d_x1297 := rd_Ij eS1309 (by decide) d_x1297
                        have d_x1308 := rd_Is eS1309 (rfl : x1308 = x1308)
                        have ea1287 := rf_I eS1309 ea1287
                        have hT := tx_I eS1309 hT
                        have l_a1287 := ln_I eS1309 l_a1287
                        have g0 := gr_I eS1309 g0
                        have gL1186 := gr_I eS1309 gL1186
                        have o_a1287 := ob_I eS1309 o_a1287
                        have o_v0 := ob_I eS1309 o_v0
                        intro x1310 ex1310
                        exact ih1198 _ _ _ _ _ _ ⟨hI, gL1186, fL1187, rfl, rfl, rfl, rfl, hT, (q415 i1u1 c10 hy13 q_x14 p_x15 q_x21 c22 q_x537 c538 q_x1053 c1054 q_x1055 c1056 i1u1184 p_k1u1184 c1225 q_x1250 p_x1251 q_x1255 c1256 c1281 q_x1286 c1288 q_x1295 q_x1297 c1298 q_x1307 ex1308 ex1310), (by rw [← d_x1297, ← d_x1308]; exact (q416 i1u1 c10 hy13 q_x14 p_x15 q_x21 c22 q_x537 c538 q_x1053 c1054 q_x1055 c1056 i1u1184 p_k1u1184 c1225 q_x1250 p_x1251 q_x1255 c1256 c1281 q_x1286 c1288 q_x1295 q_x1297 c1298 q_x1307 ex1308 ex1310))⟩ (mu_up (q417 i1u1 c10 hy13 q_x14 p_x15 q_x21 c22 q_x537 c538 q_x1053 c1054 q_x1055 c1056 i1u1184 p_k1u1184 c1225 q_x1250 p_x1251 q_x1255 c1256 c1281 q_x1286 c1288 q_x1295 q_x1297 c1298 q_x1307 ex1308 ex1310) (q418 i1u1 c10 hy13 q_x14 p_x15 q_x21 c22 q_x537 c538 q_x1053 c1054 q_x1055 c1056 i1u1184 p_k1u1184 c1225 q_x1250 p_x1251 q_x1255 c1256 c1281 q_x1286 c1288 q_x1295 q_x1297 c1298 q_x1307 ex1308 ex1310))
        · refine u_X4_next_98 ?_
          refine ⟨o_v0, ?_⟩
          intro x1311 ex1311
          have q_x1311 : x1311 = x1053 := ex1311.trans d_x1053.symm
          have d_x1311 := ex1311
          refine ⟨fun c1312 => ?_, fun c1312 => ?_⟩
          · refine u_X4_next_114 ?_
            refine i_X4_next_118 (fun (y0 : Nat) (y1 : Int32) (y2 : Int32) (y3 : Int32) (y4 : Int32) (Z : HS) => ((2147483647 : Int32).toInt - y4.toInt).toNat) (fun (y0 : Nat) (y1 : Int32) (y2 : Int32) (y3 : Int32) (y4 : Int32) (Z : HS) => (IV Z) ∧ (Gr S20 Z) ∧ (FRI [(4, 4)] [] S20 Z) ∧ (v0 = y0) ∧ ((1 : Int32) = y1) ∧ ((8 : Int32) = y2) ∧ ((10 : Int32) = y3) ∧ (TX Z v0) ∧ (0 ≤ y4) ∧ ((y1 = 0 ∨ fI Z v0 6 = 1 ∨ fI Z v0 6 = 2) ∧ (y1 = 0 → fI Z v0 6 = 0 ∨ (0 ≤ fI Z v0 4 ∧ fI Z v0 4 < 900)))) ?_ _ _ _ _ _ _ ⟨hI, (gr_rf _), (fri_rf _ _ _), rfl, rfl, rfl, rfl, hT, (q419 i1u1 c10 hy13 q_x14 p_x15 q_x21 c22 q_x537 c538 q_x1053 c1054 q_x1311 c1312), (by rw [← d_x1311, ← d_x14]; exact (q420 i1u1 c10 hy13 q_x14 p_x15 q_x21 c22 q_x537 c538 q_x1053 c1054 q_x1311 c1312))⟩
            intro w1317 w1319 w1321 w1323 w1325 S1314 X1326 ⟨hI, gL1315, fL1316, q1318, q1320, q1322, q1324, hT, i1u1313, k1u1313⟩ ih1327
            subst q1318
            subst q1320
            subst q1322
            subst q1324
            have d_y13 := d_y13.trans (fri_at fL1316 (by decide) (by decide) o_v0).symm
            have d_x1311 := d_x1311.trans (fri_at fL1316 (by decide) (by decide) o_v0).symm
            have f0 := fri_tr (S := S20) g0 f0 fL1316 (by decide) (by decide)
            have o_v0 := gr_ob gL1315 o_v0
            have g0 := gr_tr (T := S20) g0 gL1315
            obtain ⟨y1328, d_y1328⟩ : ∃ z : Int32, z = fI S1314 v0 4 := ⟨_, rfl⟩
            have p_k1u1313 : ((1 : Int32) = 0 ∨ x1311 = 1 ∨ x1311 = 2) ∧ ((1 : Int32) = 0 → x1311 = 0 ∨ (0 ≤ y1328 ∧ y1328 < 900)) := by rw [d_x1311, d_y1328]; exact k1u1313
            refine u_X4_next_118 ?_
            refine ⟨fun c1329 => ?_, fun c1329 => ?_⟩
            · refine u_X4_next_217 ?_
              refine ⟨fun c1330 => ?_, fun c1330 => ?_⟩
              · refine u_X4_next_240 ?_
                refine ⟨fun c1331 => ?_, fun c1331 => ?_⟩
                · exact hq _ hI g0 f0 hT
                · refine ⟨o_v0, ?_⟩
                  intro x1332 ex1332
                  have q_x1332 : x1332 = x1311 := ex1332.trans d_x1311.symm
                  have d_x1332 := ex1332
                  refine ⟨fun c1333 => ?_, fun c1333 => ?_⟩
                  · exact hq _ hI g0 f0 hT
                  · intro x1334 ex1334
                    have q_x1334 : x1334 = y1328 := ex1334.trans d_y1328.symm
                    have d_x1334 := ex1334
                    intro x1335 ex1335
                    intro S1336 eS1336
                    have hI : IV S1336 := by rw [eS1336]; exact iv_sI hI o_v0 (by decide) (nu_free (by decide))
                    have f0 := fr_I eS1336 g0 f0 o_v0 (by decide)
                    have d_y13 := rd_Ij eS1336 (by decide) d_y13
                    have d_x1332 := rd_Ij eS1336 (by decide) d_x1332
                    have d_x1335 := rd_Is eS1336 (rfl : x1335 = x1335)
                    have hT := tx_I eS1336 hT
                    have g0 := gr_I eS1336 g0
                    have o_v0 := ob_I eS1336 o_v0
                    exact hq _ hI g0 f0 hT
              · refine ⟨o_v0, ?_⟩
                intro x1337 ex1337
                have q_x1337 : x1337 = y1328 := ex1337.trans d_y1328.symm
                have d_x1337 := ex1337
                intro x1338 ex1338
                have q_x1338 : x1338 = y13 := ex1338.trans d_y13.symm
                have d_x1338 := ex1338
                refine ⟨fun c1339 => ?_, fun c1339 => ?_⟩
                · refine u_X4_next_240 ?_
                  refine ⟨fun c1340 => ?_, fun c1340 => ?_⟩
                  · exact hq _ hI g0 f0 hT
                  · refine ⟨o_v0, ?_⟩
                    intro x1341 ex1341
                    have q_x1341 : x1341 = x1311 := ex1341.trans d_x1311.symm
                    have d_x1341 := ex1341
                    refine ⟨fun c1342 => ?_, fun c1342 => ?_⟩
                    · exact hq _ hI g0 f0 hT
                    · intro x1343 ex1343
                      have q_x1343 : x1343 = x1337 := ex1343.trans d_x1337.symm
                      have d_x1343 := ex1343
                      intro x1344 ex1344
                      intro S1345 eS1345
                      have hI : IV S1345 := by rw [eS1345]; exact iv_sI hI o_v0 (by decide) (nu_free (by decide))
                      have f0 := fr_I eS1345 g0 f0 o_v0 (by decide)
                      have d_x1338 := rd_Ij eS1345 (by decide) d_x1338
                      have d_x1341 := rd_Ij eS1345 (by decide) d_x1341
                      have d_x1344 := rd_Is eS1345 (rfl : x1344 = x1344)
                      have hT := tx_I eS1345 hT
                      have g0 := gr_I eS1345 g0
                      have o_v0 := ob_I eS1345 o_v0
                      exact hq _ hI g0 f0 hT
                · intro S1346 eS1346
                  have hI : IV S1346 := by rw [eS1346]; exact iv_sI hI o_v0 (by decide) (nu_free (by decide))
                  have f0 := fr_I eS1346 g0 f0 o_v0 (by decide)
                  have d_x1338 := rd_Ij eS1346 (by decide) d_x1338
                  have d_x1337 := rd_Ij eS1346 (by decide) d_x1337
                  obtain ⟨y1347, hy1347⟩ : ∃ z : Int32, z = (6 : Int32) := ⟨_, rfl⟩
                  have d_y1347 := rd_Is eS1346 hy1347
                  have hT := tx_I eS1346 hT
                  have g0 := gr_I eS1346 g0
                  have o_v0 := ob_I eS1346 o_v0
                  refine u_X4_next_240 ?_
                  refine ⟨fun c1348 => ?_, fun c1348 => ?_⟩
                  · exact hq _ hI g0 f0 hT
                  · refine ⟨o_v0, ?_⟩
                    intro x1349 ex1349
                    have q_x1349 : x1349 = y1347 := ex1349.trans d_y1347.symm
                    have d_x1349 := ex1349
                    refine ⟨fun c1350 => ?_, fun c1350 => ?_⟩
                    · exact hq _ hI g0 f0 hT
                    · intro x1351 ex1351
                      have q_x1351 : x1351 = x1337 := ex1351.trans d_x1337.symm
                      have d_x1351 := ex1351
                      intro x1352 ex1352
                      intro S1353 eS1353
                      have hI : IV S1353 := by rw [eS1353]; exact iv_sI hI o_v0 (by decide) (nu_free (by decide))
                      have f0 := fr_I eS1353 g0 f0 o_v0 (by decide)
                      have d_x1338 := rd_Ij eS1353 (by decide) d_x1338
                      have d_x1349 := rd_Ij eS1353 (by decide) d_x1349
                      have d_x1352 := rd_Is eS1353 (rfl : x1352 = x1352)
                      have hT := tx_I eS1353 hT
                      have g0 := gr_I eS1353 g0
                      have o_v0 := ob_I eS1353 o_v0
                      exact hq _ hI g0 f0 hT
            · refine ⟨fun c1354 => ?_, fun c1354 => ?_⟩
              · refine u_X4_next_217 ?_
                refine ⟨fun c1355 => ?_, fun c1355 => ?_⟩
                · refine u_X4_next_240 ?_
                  refine ⟨fun c1356 => ?_, fun c1356 => ?_⟩
                  · exact hq _ hI g0 f0 hT
                  · refine ⟨o_v0, ?_⟩
                    intro x1357 ex1357
                    have q_x1357 : x1357 = x1311 := ex1357.trans d_x1311.symm
                    have d_x1357 := ex1357
                    refine ⟨fun c1358 => ?_, fun c1358 => ?_⟩
                    · exact hq _ hI g0 f0 hT
                    · intro x1359 ex1359
                      have q_x1359 : x1359 = y1328 := ex1359.trans d_y1328.symm
                      have d_x1359 := ex1359
                      intro x1360 ex1360
                      intro S1361 eS1361
                      have hI : IV S1361 := by rw [eS1361]; exact iv_sI hI o_v0 (by decide) (nu_free (by decide))
                      have f0 := fr_I eS1361 g0 f0 o_v0 (by decide)
                      have d_y13 := rd_Ij eS1361 (by decide) d_y13
                      have d_x1357 := rd_Ij eS1361 (by decide) d_x1357
                      have d_x1360 := rd_Is eS1361 (rfl : x1360 = x1360)
                      have hT := tx_I eS1361 hT
                      have g0 := gr_I eS1361 g0
                      have o_v0 := ob_I eS1361 o_v0
                      exact hq _ hI g0 f0 hT
                · refine ⟨o_v0, ?_⟩
                  intro x1362 ex1362
                  have q_x1362 : x1362 = y1328 := ex1362.trans d_y1328.symm
                  have d_x1362 := ex1362
                  intro x1363 ex1363
                  have q_x1363 : x1363 = y13 := ex1363.trans d_y13.symm
                  have d_x1363 := ex1363
                  refine ⟨fun c1364 => ?_, fun c1364 => ?_⟩
                  · refine u_X4_next_240 ?_
                    refine ⟨fun c1365 => ?_, fun c1365 => ?_⟩
                    · exact hq _ hI g0 f0 hT
                    · refine ⟨o_v0, ?_⟩
                      intro x1366 ex1366
                      have q_x1366 : x1366 = x1311 := ex1366.trans d_x1311.symm
                      have d_x1366 := ex1366
                      refine ⟨fun c1367 => ?_, fun c1367 => ?_⟩
                      · exact hq _ hI g0 f0 hT
                      · intro x1368 ex1368
                        have q_x1368 : x1368 = x1362 := ex1368.trans d_x1362.symm
                        have d_x1368 := ex1368
                        intro x1369 ex1369
                        intro S1370 eS1370
                        have hI : IV S1370 := by rw [eS1370]; exact iv_sI hI o_v0 (by decide) (nu_free (by decide))
                        have f0 := fr_I eS1370 g0 f0 o_v0 (by decide)
                        have d_x1363 := rd_Ij eS1370 (by decide) d_x1363
                        have d_x1366 := rd_Ij eS1370 (by decide) d_x1366
                        have d_x1369 := rd_Is eS1370 (rfl : x1369 = x1369)
                        have hT := tx_I eS1370 hT
                        have g0 := gr_I eS1370 g0
                        have o_v0 := ob_I eS1370 o_v0
                        exact hq _ hI g0 f0 hT
                  · intro S1371 eS1371
                    have hI : IV S1371 := by rw [eS1371]; exact iv_sI hI o_v0 (by decide) (nu_free (by decide))
                    have f0 := fr_I eS1371 g0 f0 o_v0 (by decide)
                    have d_x1363 := rd_Ij eS1371 (by decide) d_x1363
                    have d_x1362 := rd_Ij eS1371 (by decide) d_x1362
                    obtain ⟨y1372, hy1372⟩ : ∃ z : Int32, z = (6 : Int32) := ⟨_, rfl⟩
                    have d_y1372 := rd_Is eS1371 hy1372
                    have hT := tx_I eS1371 hT
                    have g0 := gr_I eS1371 g0
                    have o_v0 := ob_I eS1371 o_v0
                    refine u_X4_next_240 ?_
                    refine ⟨fun c1373 => ?_, fun c1373 => ?_⟩
                    · exact hq _ hI g0 f0 hT
                    · refine ⟨o_v0, ?_⟩
                      intro x1374 ex1374
                      have q_x1374 : x1374 = y1372 := ex1374.trans d_y1372.symm
                      have d_x1374 := ex1374
                      refine ⟨fun c1375 => ?_, fun c1375 => ?_⟩
                      · exact hq _ hI g0 f0 hT
                      · intro x1376 ex1376
                        have q_x1376 : x1376 = x1362 := ex1376.trans d_x1362.symm
                        have d_x1376 := ex1376
                        intro x1377 ex1377
                        intro S1378 eS1378
                        have hI : IV S1378 := by rw [eS1378]; exact iv_sI hI o_v0 (by decide) (nu_free (by decide))
                        have f0 := fr_I eS1378 g0 f0 o_v0 (by decide)
                        have d_x1363 := rd_Ij eS1378 (by decide) d_x1363
                        have d_x1374 := rd_Ij eS1378 (by decide) d_x1374
                        have d_x1377 := rd_Is eS1378 (rfl : x1377 = x1377)
                        have hT := tx_I eS1378 hT
                        have g0 := gr_I eS1378 g0
                        have o_v0 := ob_I eS1378 o_v0
                        exact hq _ hI g0 f0 hT
              · refine ⟨o_v0, ?_⟩
                intro x1379 ex1379
                have q_x1379 : x1379 = y1328 := ex1379.trans d_y1328.symm
                have d_x1379 := ex1379
                refine m_X4_sortAt hI o_v0 hT (fun x1380 S1381 hI2 g1382 p_x1380 => ?_)
                obtain ⟨z_S1381, p_x1380⟩ := p_x1380
                subst z_S1381
                intro _
                intro x1384 ex1384
                have q_x1384 : x1384 = x1311 := ex1384.trans d_x1311.symm
                have d_x1384 := ex1384
                refine ⟨fun c1385 => ?_, fun c1385 => ?_⟩
                · refine u_X4_next_217 ?_
                  refine ⟨fun c1386 => ?_, fun c1386 => ?_⟩
                  · refine u_X4_next_240 ?_
                    refine ⟨fun c1387 => ?_, fun c1387 => ?_⟩
                    · exact hq _ hI g0 f0 hT
                    · refine ⟨o_v0, ?_⟩
                      intro x1388 ex1388
                      have q_x1388 : x1388 = x1384 := ex1388.trans d_x1384.symm
                      have d_x1388 := ex1388
                      refine ⟨fun c1389 => ?_, fun c1389 => ?_⟩
                      · exact hq _ hI g0 f0 hT
                      · intro x1390 ex1390
                        have q_x1390 : x1390 = x1379 := ex1390.trans d_x1379.symm
                        have d_x1390 := ex1390
                        intro x1391 ex1391
                        intro S1392 eS1392
                        have hI : IV S1392 := by rw [eS1392]; exact iv_sI hI o_v0 (by decide) (nu_free (by decide))
                        have f0 := fr_I eS1392 g0 f0 o_v0 (by decide)
                        have d_y13 := rd_Ij eS1392 (by decide) d_y13
                        have d_x1388 := rd_Ij eS1392 (by decide) d_x1388
                        have d_x1391 := rd_Is eS1392 (rfl : x1391 = x1391)
                        have hT := tx_I eS1392 hT
                        have g0 := gr_I eS1392 g0
                        have o_v0 := ob_I eS1392 o_v0
                        exact hq _ hI g0 f0 hT
                  · refine ⟨o_v0, ?_⟩
                    intro x1393 ex1393
                    have q_x1393 : x1393 = x1379 := ex1393.trans d_x1379.symm
                    have d_x1393 := ex1393
                    intro x1394 ex1394
                    have q_x1394 : x1394 = y13 := ex1394.trans d_y13.symm
                    have d_x1394 := ex1394
                    refine ⟨fun c1395 => ?_, fun c1395 => ?_⟩
                    · refine u_X4_next_240 ?_
                      refine ⟨fun c1396 => ?_, fun c1396 => ?_⟩
                      · exact hq _ hI g0 f0 hT
                      · refine ⟨o_v0, ?_⟩
                        intro x1397 ex1397
                        have q_x1397 : x1397 = x1384 := ex1397.trans d_x1384.symm
                        have d_x1397 := ex1397
                        refine ⟨fun c1398 => ?_, fun c1398 => ?_⟩
                        · exact hq _ hI g0 f0 hT
                        · intro x1399 ex1399
                          have q_x1399 : x1399 = x1393 := ex1399.trans d_x1393.symm
                          have d_x1399 := ex1399
                          intro x1400 ex1400
                          intro S1401 eS1401
                          have hI : IV S1401 := by rw [eS1401]; exact iv_sI hI o_v0 (by decide) (nu_free (by decide))
                          have f0 := fr_I eS1401 g0 f0 o_v0 (by decide)
                          have d_x1394 := rd_Ij eS1401 (by decide) d_x1394
                          have d_x1397 := rd_Ij eS1401 (by decide) d_x1397
                          have d_x1400 := rd_Is eS1401 (rfl : x1400 = x1400)
                          have hT := tx_I eS1401 hT
                          have g0 := gr_I eS1401 g0
                          have o_v0 := ob_I eS1401 o_v0
                          exact hq _ hI g0 f0 hT
                    · intro S1402 eS1402
                      have hI : IV S1402 := by rw [eS1402]; exact iv_sI hI o_v0 (by decide) (nu_free (by decide))
                      have f0 := fr_I eS1402 g0 f0 o_v0 (by decide)
                      have d_x1394 := rd_Ij eS1402 (by decide) d_x1394
                      have d_x1393 := rd_Ij eS1402 (by decide) d_x1393
                      obtain ⟨y1403, hy1403⟩ : ∃ z : Int32, z = (6 : Int32) := ⟨_, rfl⟩
                      have d_y1403 := rd_Is eS1402 hy1403
                      have hT := tx_I eS1402 hT
                      have g0 := gr_I eS1402 g0
                      have o_v0 := ob_I eS1402 o_v0
                      refine u_X4_next_240 ?_
                      refine ⟨fun c1404 => ?_, fun c1404 => ?_⟩
                      · exact hq _ hI g0 f0 hT
                      · refine ⟨o_v0, ?_⟩
                        intro x1405 ex1405
                        have q_x1405 : x1405 = y1403 := ex1405.trans d_y1403.symm
                        have d_x1405 := ex1405
                        refine ⟨fun c1406 => ?_, fun c1406 => ?_⟩
                        · exact hq _ hI g0 f0 hT
                        · intro x1407 ex1407
                          have q_x1407 : x1407 = x1393 := ex1407.trans d_x1393.symm
                          have d_x1407 := ex1407
                          intro x1408 ex1408
                          intro S1409 eS1409
                          have hI : IV S1409 := by rw [eS1409]; exact iv_sI hI o_v0 (by decide) (nu_free (by decide))
                          have f0 := fr_I eS1409 g0 f0 o_v0 (by decide)
                          have d_x1394 := rd_Ij eS1409 (by decide) d_x1394
                          have d_x1405 := rd_Ij eS1409 (by decide) d_x1405
                          have d_x1408 := rd_Is eS1409 (rfl : x1408 = x1408)
                          have hT := tx_I eS1409 hT
                          have g0 := gr_I eS1409 g0
                          have o_v0 := ob_I eS1409 o_v0
                          exact hq _ hI g0 f0 hT
                · refine ⟨fun c1410 => ?_, fun c1410 => ?_⟩
                  · refine u_X4_next_201 ?_
                    refine ⟨o_v0, ?_⟩
                    intro x1411 ex1411
                    have q_x1411 : x1411 = x1379 := ex1411.trans d_x1379.symm
                    have d_x1411 := ex1411
                    intro x1412 ex1412
                    intro S1413 eS1413
                    have hI : IV S1413 := by rw [eS1413]; exact iv_sI hI o_v0 (by decide) (nu_free (by decide))
                    have f0 := fr_I eS1413 g0 f0 o_v0 (by decide)
                    have fL1316 := fr_I eS1413 gL1315 fL1316 o_v0 (by decide)
                    have d_y13 := rd_Ij eS1413 (by decide) d_y13
                    have d_x1384 := rd_Ij eS1413 (by decide) d_x1384
                    have d_x1412 := rd_Is eS1413 (rfl : x1412 = x1412)
                    have hT := tx_I eS1413 hT
                    have g0 := gr_I eS1413 g0
                    have gL1315 := gr_I eS1413 gL1315
                    have o_v0 := ob_I eS1413 o_v0
                    intro x1414 ex1414
                    exact ih1327 _ _ _ _ _ _ ⟨hI, gL1315, fL1316, rfl, rfl, rfl, rfl, hT, (q421 i1u1 c10 hy13 q_x14 p_x15 q_x21 c22 q_x537 c538 q_x1053 c1054 q_x1311 c1312 i1u1313 p_k1u1313 c1354 q_x1379 p_x1380 q_x1384 c1385 c1410 q_x1411 ex1412 ex1414), (by rw [← d_x1384, ← d_x1412]; exact (q422 i1u1 c10 hy13 q_x14 p_x15 q_x21 c22 q_x537 c538 q_x1053 c1054 q_x1311 c1312 i1u1313 p_k1u1313 c1354 q_x1379 p_x1380 q_x1384 c1385 c1410 q_x1411 ex1412 ex1414))⟩ (mu_up (q423 i1u1 c10 hy13 q_x14 p_x15 q_x21 c22 q_x537 c538 q_x1053 c1054 q_x1311 c1312 i1u1313 p_k1u1313 c1354 q_x1379 p_x1380 q_x1384 c1385 c1410 q_x1411 ex1412 ex1414) (q424 i1u1 c10 hy13 q_x14 p_x15 q_x21 c22 q_x537 c538 q_x1053 c1054 q_x1311 c1312 i1u1313 p_k1u1313 c1354 q_x1379 p_x1380 q_x1384 c1385 c1410 q_x1411 ex1412 ex1414))
                  · intro x1415 ex1415
                    have q_x1415 : x1415 = x1379 := ex1415.trans d_x1379.symm
                    have d_x1415 := ex1415
                    obtain ⟨a1416, ea1416, o_a1416, l_a1416⟩ := id hT
                    refine ⟨a1416, ea1416, ?_⟩
                    refine ⟨o_a1416, ?_⟩
                    have n_a1416 : nI (hN S1314 a1416) = 900 := by rw [show hN S1314 a1416 = 900 from l_a1416]; decide
                    refine ⟨fun c1417 => ?_, fun c1417 => ?_⟩
                    · rw [n_a1416] at c1417
                      refine u_X4_next_201 ?_
                      refine ⟨o_v0, ?_⟩
                      intro x1418 ex1418
                      have q_x1418 : x1418 = x1415 := ex1418.trans d_x1415.symm
                      have d_x1418 := ex1418
                      intro x1419 ex1419
                      intro S1420 eS1420
                      have hI : IV S1420 := by rw [eS1420]; exact iv_sI hI o_v0 (by decide) (nu_free (by decide))
                      have f0 := fr_I eS1420 g0 f0 o_v0 (by decide)
                      have fL1316 := fr_I eS1420 gL1315 fL1316 o_v0 (by decide)
                      have d_y13 := rd_Ij eS1420 (by decide) d_y13
                      have d_x1384 := rd_Ij eS1420 (by decide) d_x1384
                      have d_x1419 := rd_Is eS1420 (rfl : x1419 = x1419)
                      have ea1416 := rf_I eS1420 ea1416
                      have hT := tx_I eS1420 hT
                      have l_a1416 := ln_I eS1420 l_a1416
                      have g0 := gr_I eS1420 g0
                      have gL1315 := gr_I eS1420 gL1315
                      have o_a1416 := ob_I eS1420 o_a1416
                      have o_v0 := ob_I eS1420 o_v0
                      intro x1421 ex1421
                      exact ih1327 _ _ _ _ _ _ ⟨hI, gL1315, fL1316, rfl, rfl, rfl, rfl, hT, (q425 i1u1 c10 hy13 q_x14 p_x15 q_x21 c22 q_x537 c538 q_x1053 c1054 q_x1311 c1312 i1u1313 p_k1u1313 c1354 q_x1379 p_x1380 q_x1384 c1385 c1410 q_x1415 c1417 q_x1418 ex1419 ex1421), (by rw [← d_x1384, ← d_x1419]; exact (q426 i1u1 c10 hy13 q_x14 p_x15 q_x21 c22 q_x537 c538 q_x1053 c1054 q_x1311 c1312 i1u1313 p_k1u1313 c1354 q_x1379 p_x1380 q_x1384 c1385 c1410 q_x1415 c1417 q_x1418 ex1419 ex1421))⟩ (mu_up (q427 i1u1 c10 hy13 q_x14 p_x15 q_x21 c22 q_x537 c538 q_x1053 c1054 q_x1311 c1312 i1u1313 p_k1u1313 c1354 q_x1379 p_x1380 q_x1384 c1385 c1410 q_x1415 c1417 q_x1418 ex1419 ex1421) (q428 i1u1 c10 hy13 q_x14 p_x15 q_x21 c22 q_x537 c538 q_x1053 c1054 q_x1311 c1312 i1u1313 p_k1u1313 c1354 q_x1379 p_x1380 q_x1384 c1385 c1410 q_x1415 c1417 q_x1418 ex1419 ex1421))
                    · rw [n_a1416] at c1417
                      intro x1422 ex1422
                      have dj_x1422 := ex1422
                      refine ⟨a1416, ea1416, ?_⟩
                      intro x1424 ex1424
                      have q_x1424 : x1424 = x1415 := ex1424.trans d_x1415.symm
                      have d_x1424 := ex1424
                      refine ⟨o_a1416, ?_⟩
                      refine ⟨(vin l_a1416 (m := 900) (by decide) (q429 i1u1 c10 hy13 q_x14 p_x15 q_x21 c22 q_x537 c538 q_x1053 c1054 q_x1311 c1312 i1u1313 p_k1u1313 c1354 q_x1379 p_x1380 q_x1384 c1385 c1410 q_x1415 c1417 q_x1424)), ?_⟩
                      intro x1425 ex1425
                      intro x1426 ex1426
                      have q_x1426 : x1426 = x1384 := ex1426.trans d_x1384.symm
                      have d_x1426 := ex1426
                      refine ⟨fun c1427 => ?_, fun c1427 => ?_⟩
                      · refine u_X4_next_195 ?_
                        refine ⟨o_v0, ?_⟩
                        intro x1428 ex1428
                        intro S1429 eS1429
                        have hI : IV S1429 := by rw [eS1429]; exact iv_sJ hI o_v0 (by decide)
                        have f0 := fr_J eS1429 f0
                        have fL1316 := fr_J eS1429 fL1316
                        have d_y13 := rd_J eS1429 d_y13
                        have d_x1426 := rd_J eS1429 d_x1426
                        have d_x1424 := rd_J eS1429 d_x1424
                        have ea1416 := rf_J eS1429 ea1416
                        have hT := tx_J eS1429 hT
                        have l_a1416 := ln_J eS1429 l_a1416
                        have g0 := gr_J eS1429 g0
                        have gL1315 := gr_J eS1429 gL1315
                        have o_a1416 := ob_J eS1429 o_a1416
                        have o_v0 := ob_J eS1429 o_v0
                        refine u_X4_next_201 ?_
                        refine ⟨o_v0, ?_⟩
                        intro x1430 ex1430
                        have q_x1430 : x1430 = x1424 := ex1430.trans d_x1424.symm
                        have d_x1430 := ex1430
                        intro x1431 ex1431
                        intro S1432 eS1432
                        have hI : IV S1432 := by rw [eS1432]; exact iv_sI hI o_v0 (by decide) (nu_free (by decide))
                        have f0 := fr_I eS1432 g0 f0 o_v0 (by decide)
                        have fL1316 := fr_I eS1432 gL1315 fL1316 o_v0 (by decide)
                        have d_y13 := rd_Ij eS1432 (by decide) d_y13
                        have d_x1426 := rd_Ij eS1432 (by decide) d_x1426
                        have d_x1431 := rd_Is eS1432 (rfl : x1431 = x1431)
                        have ea1416 := rf_I eS1432 ea1416
                        have hT := tx_I eS1432 hT
                        have l_a1416 := ln_I eS1432 l_a1416
                        have g0 := gr_I eS1432 g0
                        have gL1315 := gr_I eS1432 gL1315
                        have o_a1416 := ob_I eS1432 o_a1416
                        have o_v0 := ob_I eS1432 o_v0
                        intro x1433 ex1433
                        exact ih1327 _ _ _ _ _ _ ⟨hI, gL1315, fL1316, rfl, rfl, rfl, rfl, hT, (q430 i1u1 c10 hy13 q_x14 p_x15 q_x21 c22 q_x537 c538 q_x1053 c1054 q_x1311 c1312 i1u1313 p_k1u1313 c1354 q_x1379 p_x1380 q_x1384 c1385 c1410 q_x1415 c1417 q_x1424 q_x1426 c1427 q_x1430 ex1431 ex1433), (by rw [← d_x1426, ← d_x1431]; exact (q431 i1u1 c10 hy13 q_x14 p_x15 q_x21 c22 q_x537 c538 q_x1053 c1054 q_x1311 c1312 i1u1313 p_k1u1313 c1354 q_x1379 p_x1380 q_x1384 c1385 c1410 q_x1415 c1417 q_x1424 q_x1426 c1427 q_x1430 ex1431 ex1433))⟩ (mu_up (q432 i1u1 c10 hy13 q_x14 p_x15 q_x21 c22 q_x537 c538 q_x1053 c1054 q_x1311 c1312 i1u1313 p_k1u1313 c1354 q_x1379 p_x1380 q_x1384 c1385 c1410 q_x1415 c1417 q_x1424 q_x1426 c1427 q_x1430 ex1431 ex1433) (q433 i1u1 c10 hy13 q_x14 p_x15 q_x21 c22 q_x537 c538 q_x1053 c1054 q_x1311 c1312 i1u1313 p_k1u1313 c1354 q_x1379 p_x1380 q_x1384 c1385 c1410 q_x1415 c1417 q_x1424 q_x1426 c1427 q_x1430 ex1431 ex1433))
                      · refine u_X4_next_195 ?_
                        refine ⟨o_v0, ?_⟩
                        intro x1434 ex1434
                        intro S1435 eS1435
                        have hI : IV S1435 := by rw [eS1435]; exact iv_sJ hI o_v0 (by decide)
                        have f0 := fr_J eS1435 f0
                        have fL1316 := fr_J eS1435 fL1316
                        have d_y13 := rd_J eS1435 d_y13
                        have d_x1426 := rd_J eS1435 d_x1426
                        have d_x1424 := rd_J eS1435 d_x1424
                        have ea1416 := rf_J eS1435 ea1416
                        have hT := tx_J eS1435 hT
                        have l_a1416 := ln_J eS1435 l_a1416
                        have g0 := gr_J eS1435 g0
                        have gL1315 := gr_J eS1435 gL1315
                        have o_a1416 := ob_J eS1435 o_a1416
                        have o_v0 := ob_J eS1435 o_v0
                        refine u_X4_next_201 ?_
                        refine ⟨o_v0, ?_⟩
                        intro x1436 ex1436
                        have q_x1436 : x1436 = x1424 := ex1436.trans d_x1424.symm
                        have d_x1436 := ex1436
                        intro x1437 ex1437
                        intro S1438 eS1438
                        have hI : IV S1438 := by rw [eS1438]; exact iv_sI hI o_v0 (by decide) (nu_free (by decide))
                        have f0 := fr_I eS1438 g0 f0 o_v0 (by decide)
                        have fL1316 := fr_I eS1438 gL1315 fL1316 o_v0 (by decide)
                        have d_y13 := rd_Ij eS1438 (by decide) d_y13
                        have d_x1426 := rd_Ij eS1438 (by decide) d_x1426
                        have d_x1437 := rd_Is eS1438 (rfl : x1437 = x1437)
                        have ea1416 := rf_I eS1438 ea1416
                        have hT := tx_I eS1438 hT
                        have l_a1416 := ln_I eS1438 l_a1416
                        have g0 := gr_I eS1438 g0
                        have gL1315 := gr_I eS1438 gL1315
                        have o_a1416 := ob_I eS1438 o_a1416
                        have o_v0 := ob_I eS1438 o_v0
                        intro x1439 ex1439
                        exact ih1327 _ _ _ _ _ _ ⟨hI, gL1315, fL1316, rfl, rfl, rfl, rfl, hT, (q434 i1u1 c10 hy13 q_x14 p_x15 q_x21 c22 q_x537 c538 q_x1053 c1054 q_x1311 c1312 i1u1313 p_k1u1313 c1354 q_x1379 p_x1380 q_x1384 c1385 c1410 q_x1415 c1417 q_x1424 q_x1426 c1427 q_x1436 ex1437 ex1439), (by rw [← d_x1426, ← d_x1437]; exact (q435 i1u1 c10 hy13 q_x14 p_x15 q_x21 c22 q_x537 c538 q_x1053 c1054 q_x1311 c1312 i1u1313 p_k1u1313 c1354 q_x1379 p_x1380 q_x1384 c1385 c1410 q_x1415 c1417 q_x1424 q_x1426 c1427 q_x1436 ex1437 ex1439))⟩ (mu_up (q436 i1u1 c10 hy13 q_x14 p_x15 q_x21 c22 q_x537 c538 q_x1053 c1054 q_x1311 c1312 i1u1313 p_k1u1313 c1354 q_x1379 p_x1380 q_x1384 c1385 c1410 q_x1415 c1417 q_x1424 q_x1426 c1427 q_x1436 ex1437 ex1439) (q437 i1u1 c10 hy13 q_x14 p_x15 q_x21 c22 q_x537 c538 q_x1053 c1054 q_x1311 c1312 i1u1313 p_k1u1313 c1354 q_x1379 p_x1380 q_x1384 c1385 c1410 q_x1415 c1417 q_x1424 q_x1426 c1427 q_x1436 ex1437 ex1439))
          · refine u_X4_next_114 ?_
            refine i_X4_next_118 (fun (y0 : Nat) (y1 : Int32) (y2 : Int32) (y3 : Int32) (y4 : Int32) (Z : HS) => ((2147483647 : Int32).toInt - y4.toInt).toNat) (fun (y0 : Nat) (y1 : Int32) (y2 : Int32) (y3 : Int32) (y4 : Int32) (Z : HS) => (IV Z) ∧ (Gr S20 Z) ∧ (FRI [(4, 4)] [] S20 Z) ∧ (v0 = y0) ∧ ((1 : Int32) = y1) ∧ ((8 : Int32) = y2) ∧ ((32 : Int32) = y3) ∧ (TX Z v0) ∧ (0 ≤ y4) ∧ ((y1 = 0 ∨ fI Z v0 6 = 1 ∨ fI Z v0 6 = 2) ∧ (y1 = 0 → fI Z v0 6 = 0 ∨ (0 ≤ fI Z v0 4 ∧ fI Z v0 4 < 900)))) ?_ _ _ _ _ _ _ ⟨hI, (gr_rf _), (fri_rf _ _ _), rfl, rfl, rfl, rfl, hT, (q438 i1u1 c10 hy13 q_x14 p_x15 q_x21 c22 q_x537 c538 q_x1053 c1054 q_x1311 c1312), (by rw [← d_x1311, ← d_x14]; exact (q439 i1u1 c10 hy13 q_x14 p_x15 q_x21 c22 q_x537 c538 q_x1053 c1054 q_x1311 c1312))⟩
            intro w1444 w1446 w1448 w1450 w1452 S1441 X1453 ⟨hI, gL1442, fL1443, q1445, q1447, q1449, q1451, hT, i1u1440, k1u1440⟩ ih1454
            subst q1445
            subst q1447
            subst q1449
            subst q1451
            have d_y13 := d_y13.trans (fri_at fL1443 (by decide) (by decide) o_v0).symm
            have d_x1311 := d_x1311.trans (fri_at fL1443 (by decide) (by decide) o_v0).symm
            have f0 := fri_tr (S := S20) g0 f0 fL1443 (by decide) (by decide)
            have o_v0 := gr_ob gL1442 o_v0
            have g0 := gr_tr (T := S20) g0 gL1442
            obtain ⟨y1455, d_y1455⟩ : ∃ z : Int32, z = fI S1441 v0 4 := ⟨_, rfl⟩
            have p_k1u1440 : ((1 : Int32) = 0 ∨ x1311 = 1 ∨ x1311 = 2) ∧ ((1 : Int32) = 0 → x1311 = 0 ∨ (0 ≤ y1455 ∧ y1455 < 900)) := by rw [d_x1311, d_y1455]; exact k1u1440
            refine u_X4_next_118 ?_
            refine ⟨fun c1456 => ?_, fun c1456 => ?_⟩
            · refine u_X4_next_217 ?_
              refine ⟨fun c1457 => ?_, fun c1457 => ?_⟩
              · refine u_X4_next_240 ?_
                refine ⟨fun c1458 => ?_, fun c1458 => ?_⟩
                · exact hq _ hI g0 f0 hT
                · refine ⟨o_v0, ?_⟩
                  intro x1459 ex1459
                  have q_x1459 : x1459 = x1311 := ex1459.trans d_x1311.symm
                  have d_x1459 := ex1459
                  refine ⟨fun c1460 => ?_, fun c1460 => ?_⟩
                  · exact hq _ hI g0 f0 hT
                  · intro x1461 ex1461
                    have q_x1461 : x1461 = y1455 := ex1461.trans d_y1455.symm
                    have d_x1461 := ex1461
                    intro x1462 ex1462
                    intro S1463 eS1463
                    have hI : IV S1463 := by rw [eS1463]; exact iv_sI hI o_v0 (by decide) (nu_free (by decide))
                    have f0 := fr_I eS1463 g0 f0 o_v0 (by decide)
                    have d_y13 := rd_Ij eS1463 (by decide) d_y13
                    have d_x1459 := rd_Ij eS1463 (by decide) d_x1459
                    have d_x1462 := rd_Is eS1463 (rfl : x1462 = x1462)
                    have hT := tx_I eS1463 hT
                    have g0 := gr_I eS1463 g0
                    have o_v0 := ob_I eS1463 o_v0
                    exact hq _ hI g0 f0 hT
              · refine ⟨o_v0, ?_⟩
                intro x1464 ex1464
                have q_x1464 : x1464 = y1455 := ex1464.trans d_y1455.symm
                have d_x1464 := ex1464
                intro x1465 ex1465
                have q_x1465 : x1465 = y13 := ex1465.trans d_y13.symm
                have d_x1465 := ex1465
                refine ⟨fun c1466 => ?_, fun c1466 => ?_⟩
                · refine u_X4_next_240 ?_
                  refine ⟨fun c1467 => ?_, fun c1467 => ?_⟩
                  · exact hq _ hI g0 f0 hT
                  · refine ⟨o_v0, ?_⟩
                    intro x1468 ex1468
                    have q_x1468 : x1468 = x1311 := ex1468.trans d_x1311.symm
                    have d_x1468 := ex1468
                    refine ⟨fun c1469 => ?_, fun c1469 => ?_⟩
                    · exact hq _ hI g0 f0 hT
                    · intro x1470 ex1470
                      have q_x1470 : x1470 = x1464 := ex1470.trans d_x1464.symm
                      have d_x1470 := ex1470
                      intro x1471 ex1471
                      intro S1472 eS1472
                      have hI : IV S1472 := by rw [eS1472]; exact iv_sI hI o_v0 (by decide) (nu_free (by decide))
                      have f0 := fr_I eS1472 g0 f0 o_v0 (by decide)
                      have d_x1465 := rd_Ij eS1472 (by decide) d_x1465
                      have d_x1468 := rd_Ij eS1472 (by decide) d_x1468
                      have d_x1471 := rd_Is eS1472 (rfl : x1471 = x1471)
                      have hT := tx_I eS1472 hT
                      have g0 := gr_I eS1472 g0
                      have o_v0 := ob_I eS1472 o_v0
                      exact hq _ hI g0 f0 hT
                · intro S1473 eS1473
                  have hI : IV S1473 := by rw [eS1473]; exact iv_sI hI o_v0 (by decide) (nu_free (by decide))
                  have f0 := fr_I eS1473 g0 f0 o_v0 (by decide)
                  have d_x1465 := rd_Ij eS1473 (by decide) d_x1465
                  have d_x1464 := rd_Ij eS1473 (by decide) d_x1464
                  obtain ⟨y1474, hy1474⟩ : ∃ z : Int32, z = (6 : Int32) := ⟨_, rfl⟩
                  have d_y1474 := rd_Is eS1473 hy1474
                  have hT := tx_I eS1473 hT
                  have g0 := gr_I eS1473 g0
                  have o_v0 := ob_I eS1473 o_v0
                  refine u_X4_next_240 ?_
                  refine ⟨fun c1475 => ?_, fun c1475 => ?_⟩
                  · exact hq _ hI g0 f0 hT
                  · refine ⟨o_v0, ?_⟩
                    intro x1476 ex1476
                    have q_x1476 : x1476 = y1474 := ex1476.trans d_y1474.symm
                    have d_x1476 := ex1476
                    refine ⟨fun c1477 => ?_, fun c1477 => ?_⟩
                    · exact hq _ hI g0 f0 hT
                    · intro x1478 ex1478
                      have q_x1478 : x1478 = x1464 := ex1478.trans d_x1464.symm
                      have d_x1478 := ex1478
                      intro x1479 ex1479
                      intro S1480 eS1480
                      have hI : IV S1480 := by rw [eS1480]; exact iv_sI hI o_v0 (by decide) (nu_free (by decide))
                      have f0 := fr_I eS1480 g0 f0 o_v0 (by decide)
                      have d_x1465 := rd_Ij eS1480 (by decide) d_x1465
                      have d_x1476 := rd_Ij eS1480 (by decide) d_x1476
                      have d_x1479 := rd_Is eS1480 (rfl : x1479 = x1479)
                      have hT := tx_I eS1480 hT
                      have g0 := gr_I eS1480 g0
                      have o_v0 := ob_I eS1480 o_v0
                      exact hq _ hI g0 f0 hT
            · refine ⟨fun c1481 => ?_, fun c1481 => ?_⟩
              · refine u_X4_next_217 ?_
                refine ⟨fun c1482 => ?_, fun c1482 => ?_⟩
                · refine u_X4_next_240 ?_
                  refine ⟨fun c1483 => ?_, fun c1483 => ?_⟩
                  · exact hq _ hI g0 f0 hT
                  · refine ⟨o_v0, ?_⟩
                    intro x1484 ex1484
                    have q_x1484 : x1484 = x1311 := ex1484.trans d_x1311.symm
                    have d_x1484 := ex1484
                    refine ⟨fun c1485 => ?_, fun c1485 => ?_⟩
                    · exact hq _ hI g0 f0 hT
                    · intro x1486 ex1486
                      have q_x1486 : x1486 = y1455 := ex1486.trans d_y1455.symm
                      have d_x1486 := ex1486
                      intro x1487 ex1487
                      intro S1488 eS1488
                      have hI : IV S1488 := by rw [eS1488]; exact iv_sI hI o_v0 (by decide) (nu_free (by decide))
                      have f0 := fr_I eS1488 g0 f0 o_v0 (by decide)
                      have d_y13 := rd_Ij eS1488 (by decide) d_y13
                      have d_x1484 := rd_Ij eS1488 (by decide) d_x1484
                      have d_x1487 := rd_Is eS1488 (rfl : x1487 = x1487)
                      have hT := tx_I eS1488 hT
                      have g0 := gr_I eS1488 g0
                      have o_v0 := ob_I eS1488 o_v0
                      exact hq _ hI g0 f0 hT
                · refine ⟨o_v0, ?_⟩
                  intro x1489 ex1489
                  have q_x1489 : x1489 = y1455 := ex1489.trans d_y1455.symm
                  have d_x1489 := ex1489
                  intro x1490 ex1490
                  have q_x1490 : x1490 = y13 := ex1490.trans d_y13.symm
                  have d_x1490 := ex1490
                  refine ⟨fun c1491 => ?_, fun c1491 => ?_⟩
                  · refine u_X4_next_240 ?_
                    refine ⟨fun c1492 => ?_, fun c1492 => ?_⟩
                    · exact hq _ hI g0 f0 hT
                    · refine ⟨o_v0, ?_⟩
                      intro x1493 ex1493
                      have q_x1493 : x1493 = x1311 := ex1493.trans d_x1311.symm
                      have d_x1493 := ex1493
                      refine ⟨fun c1494 => ?_, fun c1494 => ?_⟩
                      · exact hq _ hI g0 f0 hT
                      · intro x1495 ex1495
                        have q_x1495 : x1495 = x1489 := ex1495.trans d_x1489.symm
                        have d_x1495 := ex1495
                        intro x1496 ex1496
                        intro S1497 eS1497
                        have hI : IV S1497 := by rw [eS1497]; exact iv_sI hI o_v0 (by decide) (nu_free (by decide))
                        have f0 := fr_I eS1497 g0 f0 o_v0 (by decide)
                        have d_x1490 := rd_Ij eS1497 (by decide) d_x1490
                        have d_x1493 := rd_Ij eS1497 (by decide) d_x1493
                        have d_x1496 := rd_Is eS1497 (rfl : x1496 = x1496)
                        have hT := tx_I eS1497 hT
                        have g0 := gr_I eS1497 g0
                        have o_v0 := ob_I eS1497 o_v0
                        exact hq _ hI g0 f0 hT
                  · intro S1498 eS1498
                    have hI : IV S1498 := by rw [eS1498]; exact iv_sI hI o_v0 (by decide) (nu_free (by decide))
                    have f0 := fr_I eS1498 g0 f0 o_v0 (by decide)
                    have d_x1490 := rd_Ij eS1498 (by decide) d_x1490
                    have d_x1489 := rd_Ij eS1498 (by decide) d_x1489
                    obtain ⟨y1499, hy1499⟩ : ∃ z : Int32, z = (6 : Int32) := ⟨_, rfl⟩
                    have d_y1499 := rd_Is eS1498 hy1499
                    have hT := tx_I eS1498 hT
                    have g0 := gr_I eS1498 g0
                    have o_v0 := ob_I eS1498 o_v0
                    refine u_X4_next_240 ?_
                    refine ⟨fun c1500 => ?_, fun c1500 => ?_⟩
                    · exact hq _ hI g0 f0 hT
                    · refine ⟨o_v0, ?_⟩
                      intro x1501 ex1501
                      have q_x1501 : x1501 = y1499 := ex1501.trans d_y1499.symm
                      have d_x1501 := ex1501
                      refine ⟨fun c1502 => ?_, fun c1502 => ?_⟩
                      · exact hq _ hI g0 f0 hT
                      · intro x1503 ex1503
                        have q_x1503 : x1503 = x1489 := ex1503.trans d_x1489.symm
                        have d_x1503 := ex1503
                        intro x1504 ex1504
                        intro S1505 eS1505
                        have hI : IV S1505 := by rw [eS1505]; exact iv_sI hI o_v0 (by decide) (nu_free (by decide))
                        have f0 := fr_I eS1505 g0 f0 o_v0 (by decide)
                        have d_x1490 := rd_Ij eS1505 (by decide) d_x1490
                        have d_x1501 := rd_Ij eS1505 (by decide) d_x1501
                        have d_x1504 := rd_Is eS1505 (rfl : x1504 = x1504)
                        have hT := tx_I eS1505 hT
                        have g0 := gr_I eS1505 g0
                        have o_v0 := ob_I eS1505 o_v0
                        exact hq _ hI g0 f0 hT
              · refine ⟨o_v0, ?_⟩
                intro x1506 ex1506
                have q_x1506 : x1506 = y1455 := ex1506.trans d_y1455.symm
                have d_x1506 := ex1506
                refine m_X4_sortAt hI o_v0 hT (fun x1507 S1508 hI2 g1509 p_x1507 => ?_)
                obtain ⟨z_S1508, p_x1507⟩ := p_x1507
                subst z_S1508
                intro _
                intro x1511 ex1511
                have q_x1511 : x1511 = x1311 := ex1511.trans d_x1311.symm
                have d_x1511 := ex1511
                refine ⟨fun c1512 => ?_, fun c1512 => ?_⟩
                · refine u_X4_next_217 ?_
                  refine ⟨fun c1513 => ?_, fun c1513 => ?_⟩
                  · refine u_X4_next_240 ?_
                    refine ⟨fun c1514 => ?_, fun c1514 => ?_⟩
                    · exact hq _ hI g0 f0 hT
                    · refine ⟨o_v0, ?_⟩
                      intro x1515 ex1515
                      have q_x1515 : x1515 = x1511 := ex1515.trans d_x1511.symm
                      have d_x1515 := ex1515
                      refine ⟨fun c1516 => ?_, fun c1516 => ?_⟩
                      · exact hq _ hI g0 f0 hT
                      · intro x1517 ex1517
                        have q_x1517 : x1517 = x1506 := ex1517.trans d_x1506.symm
                        have d_x1517 := ex1517
                        intro x1518 ex1518
                        intro S1519 eS1519
                        have hI : IV S1519 := by rw [eS1519]; exact iv_sI hI o_v0 (by decide) (nu_free (by decide))
                        have f0 := fr_I eS1519 g0 f0 o_v0 (by decide)
                        have d_y13 := rd_Ij eS1519 (by decide) d_y13
                        have d_x1515 := rd_Ij eS1519 (by decide) d_x1515
                        have d_x1518 := rd_Is eS1519 (rfl : x1518 = x1518)
                        have hT := tx_I eS1519 hT
                        have g0 := gr_I eS1519 g0
                        have o_v0 := ob_I eS1519 o_v0
                        exact hq _ hI g0 f0 hT
                  · refine ⟨o_v0, ?_⟩
                    intro x1520 ex1520
                    have q_x1520 : x1520 = x1506 := ex1520.trans d_x1506.symm
                    have d_x1520 := ex1520
                    intro x1521 ex1521
                    have q_x1521 : x1521 = y13 := ex1521.trans d_y13.symm
                    have d_x1521 := ex1521
                    refine ⟨fun c1522 => ?_, fun c1522 => ?_⟩
                    · refine u_X4_next_240 ?_
                      refine ⟨fun c1523 => ?_, fun c1523 => ?_⟩
                      · exact hq _ hI g0 f0 hT
                      · refine ⟨o_v0, ?_⟩
                        intro x1524 ex1524
                        have q_x1524 : x1524 = x1511 := ex1524.trans d_x1511.symm
                        have d_x1524 := ex1524
                        refine ⟨fun c1525 => ?_, fun c1525 => ?_⟩
                        · exact hq _ hI g0 f0 hT
                        · intro x1526 ex1526
                          have q_x1526 : x1526 = x1520 := ex1526.trans d_x1520.symm
                          have d_x1526 := ex1526
                          intro x1527 ex1527
                          intro S1528 eS1528
                          have hI : IV S1528 := by rw [eS1528]; exact iv_sI hI o_v0 (by decide) (nu_free (by decide))
                          have f0 := fr_I eS1528 g0 f0 o_v0 (by decide)
                          have d_x1521 := rd_Ij eS1528 (by decide) d_x1521
                          have d_x1524 := rd_Ij eS1528 (by decide) d_x1524
                          have d_x1527 := rd_Is eS1528 (rfl : x1527 = x1527)
                          have hT := tx_I eS1528 hT
                          have g0 := gr_I eS1528 g0
                          have o_v0 := ob_I eS1528 o_v0
                          exact hq _ hI g0 f0 hT
                    · intro S1529 eS1529
                      have hI : IV S1529 := by rw [eS1529]; exact iv_sI hI o_v0 (by decide) (nu_free (by decide))
                      have f0 := fr_I eS1529 g0 f0 o_v0 (by decide)
                      have d_x1521 := rd_Ij eS1529 (by decide) d_x1521
                      have d_x1520 := rd_Ij eS1529 (by decide) d_x1520
                      obtain ⟨y1530, hy1530⟩ : ∃ z : Int32, z = (6 : Int32) := ⟨_, rfl⟩
                      have d_y1530 := rd_Is eS1529 hy1530
                      have hT := tx_I eS1529 hT
                      have g0 := gr_I eS1529 g0
                      have o_v0 := ob_I eS1529 o_v0
                      refine u_X4_next_240 ?_
                      refine ⟨fun c1531 => ?_, fun c1531 => ?_⟩
                      · exact hq _ hI g0 f0 hT
                      · refine ⟨o_v0, ?_⟩
                        intro x1532 ex1532
                        have q_x1532 : x1532 = y1530 := ex1532.trans d_y1530.symm
                        have d_x1532 := ex1532
                        refine ⟨fun c1533 => ?_, fun c1533 => ?_⟩
                        · exact hq _ hI g0 f0 hT
                        · intro x1534 ex1534
                          have q_x1534 : x1534 = x1520 := ex1534.trans d_x1520.symm
                          have d_x1534 := ex1534
                          intro x1535 ex1535
                          intro S1536 eS1536
                          have hI : IV S1536 := by rw [eS1536]; exact iv_sI hI o_v0 (by decide) (nu_free (by decide))
                          have f0 := fr_I eS1536 g0 f0 o_v0 (by decide)
                          have d_x1521 := rd_Ij eS1536 (by decide) d_x1521
                          have d_x1532 := rd_Ij eS1536 (by decide) d_x1532
                          have d_x1535 := rd_Is eS1536 (rfl : x1535 = x1535)
                          have hT := tx_I eS1536 hT
                          have g0 := gr_I eS1536 g0
                          have o_v0 := ob_I eS1536 o_v0
                          exact hq _ hI g0 f0 hT
                · refine ⟨fun c1537 => ?_, fun c1537 => ?_⟩
                  · refine u_X4_next_201 ?_
                    refine ⟨o_v0, ?_⟩
                    intro x1538 ex1538
                    have q_x1538 : x1538 = x1506 := ex1538.trans d_x1506.symm
                    have d_x1538 := ex1538
                    intro x1539 ex1539
                    intro S1540 eS1540
                    have hI : IV S1540 := by rw [eS1540]; exact iv_sI hI o_v0 (by decide) (nu_free (by decide))
                    have f0 := fr_I eS1540 g0 f0 o_v0 (by decide)
                    have fL1443 := fr_I eS1540 gL1442 fL1443 o_v0 (by decide)
                    have d_y13 := rd_Ij eS1540 (by decide) d_y13
                    have d_x1511 := rd_Ij eS1540 (by decide) d_x1511
                    have d_x1539 := rd_Is eS1540 (rfl : x1539 = x1539)
                    have hT := tx_I eS1540 hT
                    have g0 := gr_I eS1540 g0
                    have gL1442 := gr_I eS1540 gL1442
                    have o_v0 := ob_I eS1540 o_v0
                    intro x1541 ex1541
                    exact ih1454 _ _ _ _ _ _ ⟨hI, gL1442, fL1443, rfl, rfl, rfl, rfl, hT, (q440 i1u1 c10 hy13 q_x14 p_x15 q_x21 c22 q_x537 c538 q_x1053 c1054 q_x1311 c1312 i1u1440 p_k1u1440 c1481 q_x1506 p_x1507 q_x1511 c1512 c1537 q_x1538 ex1539 ex1541), (by rw [← d_x1511, ← d_x1539]; exact (q441 i1u1 c10 hy13 q_x14 p_x15 q_x21 c22 q_x537 c538 q_x1053 c1054 q_x1311 c1312 i1u1440 p_k1u1440 c1481 q_x1506 p_x1507 q_x1511 c1512 c1537 q_x1538 ex1539 ex1541))⟩ (mu_up (q442 i1u1 c10 hy13 q_x14 p_x15 q_x21 c22 q_x537 c538 q_x1053 c1054 q_x1311 c1312 i1u1440 p_k1u1440 c1481 q_x1506 p_x1507 q_x1511 c1512 c1537 q_x1538 ex1539 ex1541) (q443 i1u1 c10 hy13 q_x14 p_x15 q_x21 c22 q_x537 c538 q_x1053 c1054 q_x1311 c1312 i1u1440 p_k1u1440 c1481 q_x1506 p_x1507 q_x1511 c1512 c1537 q_x1538 ex1539 ex1541))
                  · intro x1542 ex1542
                    have q_x1542 : x1542 = x1506 := ex1542.trans d_x1506.symm
                    have d_x1542 := ex1542
                    obtain ⟨a1543, ea1543, o_a1543, l_a1543⟩ := id hT
                    refine ⟨a1543, ea1543, ?_⟩
                    refine ⟨o_a1543, ?_⟩
                    have n_a1543 : nI (hN S1441 a1543) = 900 := by rw [show hN S1441 a1543 = 900 from l_a1543]; decide
                    refine ⟨fun c1544 => ?_, fun c1544 => ?_⟩
                    · rw [n_a1543] at c1544
                      refine u_X4_next_201 ?_
                      refine ⟨o_v0, ?_⟩
                      intro x1545 ex1545
                      have q_x1545 : x1545 = x1542 := ex1545.trans d_x1542.symm
                      have d_x1545 := ex1545
                      intro x1546 ex1546
                      intro S1547 eS1547
                      have hI : IV S1547 := by rw [eS1547]; exact iv_sI hI o_v0 (by decide) (nu_free (by decide))
                      have f0 := fr_I eS1547 g0 f0 o_v0 (by decide)
                      have fL1443 := fr_I eS1547 gL1442 fL1443 o_v0 (by decide)
                      have d_y13 := rd_Ij eS1547 (by decide) d_y13
                      have d_x1511 := rd_Ij eS1547 (by decide) d_x1511
                      have d_x1546 := rd_Is eS1547 (rfl : x1546 = x1546)
                      have ea1543 := rf_I eS1547 ea1543
                      have hT := tx_I eS1547 hT
                      have l_a1543 := ln_I eS1547 l_a1543
                      have g0 := gr_I eS1547 g0
                      have gL1442 := gr_I eS1547 gL1442
                      have o_a1543 := ob_I eS1547 o_a1543
                      have o_v0 := ob_I eS1547 o_v0
                      intro x1548 ex1548
                      exact ih1454 _ _ _ _ _ _ ⟨hI, gL1442, fL1443, rfl, rfl, rfl, rfl, hT, (q444 i1u1 c10 hy13 q_x14 p_x15 q_x21 c22 q_x537 c538 q_x1053 c1054 q_x1311 c1312 i1u1440 p_k1u1440 c1481 q_x1506 p_x1507 q_x1511 c1512 c1537 q_x1542 c1544 q_x1545 ex1546 ex1548), (by rw [← d_x1511, ← d_x1546]; exact (q445 i1u1 c10 hy13 q_x14 p_x15 q_x21 c22 q_x537 c538 q_x1053 c1054 q_x1311 c1312 i1u1440 p_k1u1440 c1481 q_x1506 p_x1507 q_x1511 c1512 c1537 q_x1542 c1544 q_x1545 ex1546 ex1548))⟩ (mu_up (q446 i1u1 c10 hy13 q_x14 p_x15 q_x21 c22 q_x537 c538 q_x1053 c1054 q_x1311 c1312 i1u1440 p_k1u1440 c1481 q_x1506 p_x1507 q_x1511 c1512 c1537 q_x1542 c1544 q_x1545 ex1546 ex1548) (q447 i1u1 c10 hy13 q_x14 p_x15 q_x21 c22 q_x537 c538 q_x1053 c1054 q_x1311 c1312 i1u1440 p_k1u1440 c1481 q_x1506 p_x1507 q_x1511 c1512 c1537 q_x1542 c1544 q_x1545 ex1546 ex1548))
                    · rw [n_a1543] at c1544
                      intro x1549 ex1549
                      have dj_x1549 := ex1549
                      refine ⟨a1543, ea1543, ?_⟩
                      intro x1551 ex1551
                      have q_x1551 : x1551 = x1542 := ex1551.trans d_x1542.symm
                      have d_x1551 := ex1551
                      refine ⟨o_a1543, ?_⟩
                      refine ⟨(vin l_a1543 (m := 900) (by decide) (q448 i1u1 c10 hy13 q_x14 p_x15 q_x21 c22 q_x537 c538 q_x1053 c1054 q_x1311 c1312 i1u1440 p_k1u1440 c1481 q_x1506 p_x1507 q_x1511 c1512 c1537 q_x1542 c1544 q_x1551)), ?_⟩
                      intro x1552 ex1552
                      intro x1553 ex1553
                      have q_x1553 : x1553 = x1511 := ex1553.trans d_x1511.symm
                      have d_x1553 := ex1553
                      refine ⟨fun c1554 => ?_, fun c1554 => ?_⟩
                      · refine u_X4_next_195 ?_
                        refine ⟨o_v0, ?_⟩
                        intro x1555 ex1555
                        intro S1556 eS1556
                        have hI : IV S1556 := by rw [eS1556]; exact iv_sJ hI o_v0 (by decide)
                        have f0 := fr_J eS1556 f0
                        have fL1443 := fr_J eS1556 fL1443
                        have d_y13 := rd_J eS1556 d_y13
                        have d_x1553 := rd_J eS1556 d_x1553
                        have d_x1551 := rd_J eS1556 d_x1551
                        have ea1543 := rf_J eS1556 ea1543
                        have hT := tx_J eS1556 hT
                        have l_a1543 := ln_J eS1556 l_a1543
                        have g0 := gr_J eS1556 g0
                        have gL1442 := gr_J eS1556 gL1442
                        have o_a1543 := ob_J eS1556 o_a1543
                        have o_v0 := ob_J eS1556 o_v0
                        refine u_X4_next_201 ?_
                        refine ⟨o_v0, ?_⟩
                        intro x1557 ex1557
                        have q_x1557 : x1557 = x1551 := ex1557.trans d_x1551.symm
                        have d_x1557 := ex1557
                        intro x1558 ex1558
                        intro S1559 eS1559
                        have hI : IV S1559 := by rw [eS1559]; exact iv_sI hI o_v0 (by decide) (nu_free (by decide))
                        have f0 := fr_I eS1559 g0 f0 o_v0 (by decide)
                        have fL1443 := fr_I eS1559 gL1442 fL1443 o_v0 (by decide)
                        have d_y13 := rd_Ij eS1559 (by decide) d_y13
                        have d_x1553 := rd_Ij eS1559 (by decide) d_x1553
                        have d_x1558 := rd_Is eS1559 (rfl : x1558 = x1558)
                        have ea1543 := rf_I eS1559 ea1543
                        have hT := tx_I eS1559 hT
                        have l_a1543 := ln_I eS1559 l_a1543
                        have g0 := gr_I eS1559 g0
                        have gL1442 := gr_I eS1559 gL1442
                        have o_a1543 := ob_I eS1559 o_a1543
                        have o_v0 := ob_I eS1559 o_v0
                        intro x1560 ex1560
                        exact ih1454 _ _ _ _ _ _ ⟨hI, gL1442, fL1443, rfl, rfl, rfl, rfl, hT, (q449 i1u1 c10 hy13 q_x14 p_x15 q_x21 c22 q_x537 c538 q_x1053 c1054 q_x1311 c1312 i1u1440 p_k1u1440 c1481 q_x1506 p_x1507 q_x1511 c1512 c1537 q_x1542 c1544 q_x1551 q_x1553 c1554 q_x1557 ex1558 ex1560), (by rw [← d_x1553, ← d_x1558]; exact (q450 i1u1 c10 hy13 q_x14 p_x15 q_x21 c22 q_x537 c538 q_x1053 c1054 q_x1311 c1312 i1u1440 p_k1u1440 c1481 q_x1506 p_x1507 q_x1511 c1512 c1537 q_x1542 c1544 q_x1551 q_x1553 c1554 q_x1557 ex1558 ex1560))⟩ (mu_up (q451 i1u1 c10 hy13 q_x14 p_x15 q_x21 c22 q_x537 c538 q_x1053 c1054 q_x1311 c1312 i1u1440 p_k1u1440 c1481 q_x1506 p_x1507 q_x1511 c1512 c1537 q_x1542 c1544 q_x1551 q_x1553 c1554 q_x1557 ex1558 ex1560) (q452 i1u1 c10 hy13 q_x14 p_x15 q_x21 c22 q_x537 c538 q_x1053 c1054 q_x1311 c1312 i1u1440 p_k1u1440 c1481 q_x1506 p_x1507 q_x1511 c1512 c1537 q_x1542 c1544 q_x1551 q_x1553 c1554 q_x1557 ex1558 ex1560))
                      · refine u_X4_next_195 ?_
                        refine ⟨o_v0, ?_⟩
                        intro x1561 ex1561
                        intro S1562 eS1562
                        have hI : IV S1562 := by rw [eS1562]; exact iv_sJ hI o_v0 (by decide)
                        have f0 := fr_J eS1562 f0
                        have fL1443 := fr_J eS1562 fL1443
                        have d_y13 := rd_J eS1562 d_y13
                        have d_x1553 := rd_J eS1562 d_x1553
                        have d_x1551 := rd_J eS1562 d_x1551
                        have ea1543 := rf_J eS1562 ea1543
                        have hT := tx_J eS1562 hT
                        have l_a1543 := ln_J eS1562 l_a1543
                        have g0 := gr_J eS1562 g0
                        have gL1442 := gr_J eS1562 gL1442
                        have o_a1543 := ob_J eS1562 o_a1543
                        have o_v0 := ob_J eS1562 o_v0
                        refine u_X4_next_201 ?_
                        refine ⟨o_v0, ?_⟩
                        intro x1563 ex1563
                        have q_x1563 : x1563 = x1551 := ex1563.trans d_x1551.symm
                        have d_x1563 := ex1563
                        intro x1564 ex1564
                        intro S1565 eS1565
                        have hI : IV S1565 := by rw [eS1565]; exact iv_sI hI o_v0 (by decide) (nu_free (by decide))
                        have f0 := fr_I eS1565 g0 f0 o_v0 (by decide)
                        have fL1443 := fr_I eS1565 gL1442 fL1443 o_v0 (by decide)
                        have d_y13 := rd_Ij eS1565 (by decide) d_y13
                        have d_x1553 := rd_Ij eS1565 (by decide) d_x1553
                        have d_x1564 := rd_Is eS1565 (rfl : x1564 = x1564)
                        have ea1543 := rf_I eS1565 ea1543
                        have hT := tx_I eS1565 hT
                        have l_a1543 := ln_I eS1565 l_a1543
                        have g0 := gr_I eS1565 g0
                        have gL1442 := gr_I eS1565 gL1442
                        have o_a1543 := ob_I eS1565 o_a1543
                        have o_v0 := ob_I eS1565 o_v0
                        intro x1566 ex1566
                        exact ih1454 _ _ _ _ _ _ ⟨hI, gL1442, fL1443, rfl, rfl, rfl, rfl, hT, (q453 i1u1 c10 hy13 q_x14 p_x15 q_x21 c22 q_x537 c538 q_x1053 c1054 q_x1311 c1312 i1u1440 p_k1u1440 c1481 q_x1506 p_x1507 q_x1511 c1512 c1537 q_x1542 c1544 q_x1551 q_x1553 c1554 q_x1563 ex1564 ex1566), (by rw [← d_x1553, ← d_x1564]; exact (q454 i1u1 c10 hy13 q_x14 p_x15 q_x21 c22 q_x537 c538 q_x1053 c1054 q_x1311 c1312 i1u1440 p_k1u1440 c1481 q_x1506 p_x1507 q_x1511 c1512 c1537 q_x1542 c1544 q_x1551 q_x1553 c1554 q_x1563 ex1564 ex1566))⟩ (mu_up (q455 i1u1 c10 hy13 q_x14 p_x15 q_x21 c22 q_x537 c538 q_x1053 c1054 q_x1311 c1312 i1u1440 p_k1u1440 c1481 q_x1506 p_x1507 q_x1511 c1512 c1537 q_x1542 c1544 q_x1551 q_x1553 c1554 q_x1563 ex1564 ex1566) (q456 i1u1 c10 hy13 q_x14 p_x15 q_x21 c22 q_x537 c538 q_x1053 c1054 q_x1311 c1312 i1u1440 p_k1u1440 c1481 q_x1506 p_x1507 q_x1511 c1512 c1537 q_x1542 c1544 q_x1551 q_x1553 c1554 q_x1563 ex1564 ex1566))
  · refine ⟨o_v0, ?_⟩
    intro x1567 ex1567
    have d_x1567 := ex1567
    refine m_X4_sortAt hI o_v0 hT (fun x1568 S1569 hI2 g1570 p_x1568 => ?_)
    obtain ⟨z_S1569, p_x1568⟩ := p_x1568
    subst z_S1569
    intro _
    refine ⟨fun c1572 => ?_, fun c1572 => ?_⟩
    · refine u_X4_next_37 ?_
      refine ⟨o_v0, ?_⟩
      intro x1573 ex1573
      have q_x1573 : x1573 = x1567 := ex1573.trans d_x1567.symm
      have d_x1573 := ex1573
      intro S1574 eS1574
      have hI : IV S1574 := by rw [eS1574]; exact iv_sI hI o_v0 (by decide) (nu_free (by decide))
      have f0 := fr_I eS1574 g0 f0 o_v0 (by decide)
      have d_x1573 := rd_Ij eS1574 (by decide) d_x1573
      obtain ⟨y1575, hy1575⟩ : ∃ z : Int32, z = x1573 := ⟨_, rfl⟩
      have d_y1575 := rd_Is eS1574 hy1575
      have hT := tx_I eS1574 hT
      have g0 := gr_I eS1574 g0
      have o_v0 := ob_I eS1574 o_v0
      intro x1576 ex1576
      have q_x1576 : x1576 = x1573 := ex1576.trans d_x1573.symm
      have d_x1576 := ex1576
      refine m_X4_sortAt hI o_v0 hT (fun x1577 S1578 hI2 g1579 p_x1577 => ?_)
      obtain ⟨z_S1578, p_x1577⟩ := p_x1577
      subst z_S1578
      intro _
      intro S1581 eS1581
      have hI : IV S1581 := by rw [eS1581]; exact iv_sI hI o_v0 (by decide) (nu_free (by decide))
      have f0 := fr_I eS1581 g0 f0 o_v0 (by decide)
      have d_x1576 := rd_Ij eS1581 (by decide) d_x1576
      have d_y1575 := rd_Ij eS1581 (by decide) d_y1575
      have d_x1577 := rd_Is eS1581 (rfl : x1577 = x1577)
      have hT := tx_I eS1581 hT
      have g0 := gr_I eS1581 g0
      have o_v0 := ob_I eS1581 o_v0
      intro S1582 eS1582
      have hI : IV S1582 := by rw [eS1582]; exact iv_sJ hI o_v0 (by decide)
      have f0 := fr_J eS1582 f0
      have d_x1576 := rd_J eS1582 d_x1576
      have d_y1575 := rd_J eS1582 d_y1575
      have d_x1577 := rd_J eS1582 d_x1577
      have hT := tx_J eS1582 hT
      have g0 := gr_J eS1582 g0
      have o_v0 := ob_J eS1582 o_v0
      intro x1583 ex1583
      have q_x1583 : x1583 = x1577 := ex1583.trans d_x1577.symm
      have d_x1583 := ex1583
      refine ⟨fun c1584 => ?_, fun c1584 => ?_⟩
      · refine u_X4_next_78 ?_
        refine u_X4_next_83 ?_
        refine ⟨o_v0, ?_⟩
        intro x1585 ex1585
        have q_x1585 : x1585 = x1583 := ex1585.trans d_x1583.symm
        have d_x1585 := ex1585
        refine ⟨fun c1586 => ?_, fun c1586 => ?_⟩
        · refine u_X4_next_98 ?_
          refine ⟨o_v0, ?_⟩
          intro x1587 ex1587
          have q_x1587 : x1587 = x1585 := ex1587.trans d_x1585.symm
          have d_x1587 := ex1587
          refine ⟨fun c1588 => ?_, fun c1588 => ?_⟩
          · refine u_X4_next_114 ?_
            refine i_X4_next_118 (fun (y0 : Nat) (y1 : Int32) (y2 : Int32) (y3 : Int32) (y4 : Int32) (Z : HS) => ((2147483647 : Int32).toInt - y4.toInt).toNat) (fun (y0 : Nat) (y1 : Int32) (y2 : Int32) (y3 : Int32) (y4 : Int32) (Z : HS) => (IV Z) ∧ (Gr S1582 Z) ∧ (FRI [(4, 4)] [] S1582 Z) ∧ (v0 = y0) ∧ ((1 : Int32) = y1) ∧ ((3 : Int32) = y2) ∧ ((10 : Int32) = y3) ∧ (TX Z v0) ∧ (0 ≤ y4) ∧ ((y1 = 0 ∨ fI Z v0 6 = 1 ∨ fI Z v0 6 = 2) ∧ (y1 = 0 → fI Z v0 6 = 0 ∨ (0 ≤ fI Z v0 4 ∧ fI Z v0 4 < 900)))) ?_ _ _ _ _ _ _ ⟨hI, (gr_rf _), (fri_rf _ _ _), rfl, rfl, rfl, rfl, hT, (q457 i1u1 c10 p_x1568 c1572 q_x1573 hy1575 q_x1576 p_x1577 q_x1583 c1584 q_x1585 c1586 q_x1587 c1588), (by rw [← d_x1587, ← d_x1576]; exact (q458 i1u1 c10 p_x1568 c1572 q_x1573 hy1575 q_x1576 p_x1577 q_x1583 c1584 q_x1585 c1586 q_x1587 c1588))⟩
            intro w1593 w1595 w1597 w1599 w1601 S1590 X1602 ⟨hI, gL1591, fL1592, q1594, q1596, q1598, q1600, hT, i1u1589, k1u1589⟩ ih1603
            subst q1594
            subst q1596
            subst q1598
            subst q1600
            have d_y1575 := d_y1575.trans (fri_at fL1592 (by decide) (by decide) o_v0).symm
            have d_x1587 := d_x1587.trans (fri_at fL1592 (by decide) (by decide) o_v0).symm
            have f0 := fri_tr (S := S1582) g0 f0 fL1592 (by decide) (by decide)
            have o_v0 := gr_ob gL1591 o_v0
            have g0 := gr_tr (T := S1582) g0 gL1591
            obtain ⟨y1604, d_y1604⟩ : ∃ z : Int32, z = fI S1590 v0 4 := ⟨_, rfl⟩
            have p_k1u1589 : ((1 : Int32) = 0 ∨ x1587 = 1 ∨ x1587 = 2) ∧ ((1 : Int32) = 0 → x1587 = 0 ∨ (0 ≤ y1604 ∧ y1604 < 900)) := by rw [d_x1587, d_y1604]; exact k1u1589
            refine u_X4_next_118 ?_
            refine ⟨fun c1605 => ?_, fun c1605 => ?_⟩
            · refine u_X4_next_217 ?_
              refine ⟨fun c1606 => ?_, fun c1606 => ?_⟩
              · refine u_X4_next_240 ?_
                refine ⟨fun c1607 => ?_, fun c1607 => ?_⟩
                · exact hq _ hI g0 f0 hT
                · refine ⟨o_v0, ?_⟩
                  intro x1608 ex1608
                  have q_x1608 : x1608 = x1587 := ex1608.trans d_x1587.symm
                  have d_x1608 := ex1608
                  refine ⟨fun c1609 => ?_, fun c1609 => ?_⟩
                  · exact hq _ hI g0 f0 hT
                  · intro x1610 ex1610
                    have q_x1610 : x1610 = y1604 := ex1610.trans d_y1604.symm
                    have d_x1610 := ex1610
                    intro x1611 ex1611
                    intro S1612 eS1612
                    have hI : IV S1612 := by rw [eS1612]; exact iv_sI hI o_v0 (by decide) (nu_free (by decide))
                    have f0 := fr_I eS1612 g0 f0 o_v0 (by decide)
                    have d_y1575 := rd_Ij eS1612 (by decide) d_y1575
                    have d_x1608 := rd_Ij eS1612 (by decide) d_x1608
                    have d_x1611 := rd_Is eS1612 (rfl : x1611 = x1611)
                    have hT := tx_I eS1612 hT
                    have g0 := gr_I eS1612 g0
                    have o_v0 := ob_I eS1612 o_v0
                    exact hq _ hI g0 f0 hT
              · refine ⟨o_v0, ?_⟩
                intro x1613 ex1613
                have q_x1613 : x1613 = y1604 := ex1613.trans d_y1604.symm
                have d_x1613 := ex1613
                intro x1614 ex1614
                have q_x1614 : x1614 = y1575 := ex1614.trans d_y1575.symm
                have d_x1614 := ex1614
                refine ⟨fun c1615 => ?_, fun c1615 => ?_⟩
                · refine u_X4_next_240 ?_
                  refine ⟨fun c1616 => ?_, fun c1616 => ?_⟩
                  · exact hq _ hI g0 f0 hT
                  · refine ⟨o_v0, ?_⟩
                    intro x1617 ex1617
                    have q_x1617 : x1617 = x1587 := ex1617.trans d_x1587.symm
                    have d_x1617 := ex1617
                    refine ⟨fun c1618 => ?_, fun c1618 => ?_⟩
                    · exact hq _ hI g0 f0 hT
                    · intro x1619 ex1619
                      have q_x1619 : x1619 = x1613 := ex1619.trans d_x1613.symm
                      have d_x1619 := ex1619
                      intro x1620 ex1620
                      intro S1621 eS1621
                      have hI : IV S1621 := by rw [eS1621]; exact iv_sI hI o_v0 (by decide) (nu_free (by decide))
                      have f0 := fr_I eS1621 g0 f0 o_v0 (by decide)
                      have d_x1614 := rd_Ij eS1621 (by decide) d_x1614
                      have d_x1617 := rd_Ij eS1621 (by decide) d_x1617
                      have d_x1620 := rd_Is eS1621 (rfl : x1620 = x1620)
                      have hT := tx_I eS1621 hT
                      have g0 := gr_I eS1621 g0
                      have o_v0 := ob_I eS1621 o_v0
                      exact hq _ hI g0 f0 hT
                · intro S1622 eS1622
                  have hI : IV S1622 := by rw [eS1622]; exact iv_sI hI o_v0 (by decide) (nu_free (by decide))
                  have f0 := fr_I eS1622 g0 f0 o_v0 (by decide)
                  have d_x1614 := rd_Ij eS1622 (by decide) d_x1614
                  have d_x1613 := rd_Ij eS1622 (by decide) d_x1613
                  obtain ⟨y1623, hy1623⟩ : ∃ z : Int32, z = (6 : Int32) := ⟨_, rfl⟩
                  have d_y1623 := rd_Is eS1622 hy1623
                  have hT := tx_I eS1622 hT
                  have g0 := gr_I eS1622 g0
                  have o_v0 := ob_I eS1622 o_v0
                  refine u_X4_next_240 ?_
                  refine ⟨fun c1624 => ?_, fun c1624 => ?_⟩
                  · exact hq _ hI g0 f0 hT
                  · refine ⟨o_v0, ?_⟩
                    intro x1625 ex1625
                    have q_x1625 : x1625 = y1623 := ex1625.trans d_y1623.symm
                    have d_x1625 := ex1625
                    refine ⟨fun c1626 => ?_, fun c1626 => ?_⟩
                    · exact hq _ hI g0 f0 hT
                    · intro x1627 ex1627
                      have q_x1627 : x1627 = x1613 := ex1627.trans d_x1613.symm
                      have d_x1627 := ex1627
                      intro x1628 ex1628
                      intro S1629 eS1629
                      have hI : IV S1629 := by rw [eS1629]; exact iv_sI hI o_v0 (by decide) (nu_free (by decide))
                      have f0 := fr_I eS1629 g0 f0 o_v0 (by decide)
                      have d_x1614 := rd_Ij eS1629 (by decide) d_x1614
                      have d_x1625 := rd_Ij eS1629 (by decide) d_x1625
                      have d_x1628 := rd_Is eS1629 (rfl : x1628 = x1628)
                      have hT := tx_I eS1629 hT
                      have g0 := gr_I eS1629 g0
                      have o_v0 := ob_I eS1629 o_v0
                      exact hq _ hI g0 f0 hT
            · refine ⟨fun c1630 => ?_, fun c1630 => ?_⟩
              · refine u_X4_next_217 ?_
                refine ⟨fun c1631 => ?_, fun c1631 => ?_⟩
                · refine u_X4_next_240 ?_
                  refine ⟨fun c1632 => ?_, fun c1632 => ?_⟩
                  · exact hq _ hI g0 f0 hT
                  · refine ⟨o_v0, ?_⟩
                    intro x1633 ex1633
                    have q_x1633 : x1633 = x1587 := ex1633.trans d_x1587.symm
                    have d_x1633 := ex1633
                    refine ⟨fun c1634 => ?_, fun c1634 => ?_⟩
                    · exact hq _ hI g0 f0 hT
                    · intro x1635 ex1635
                      have q_x1635 : x1635 = y1604 := ex1635.trans d_y1604.symm
                      have d_x1635 := ex1635
                      intro x1636 ex1636
                      intro S1637 eS1637
                      have hI : IV S1637 := by rw [eS1637]; exact iv_sI hI o_v0 (by decide) (nu_free (by decide))
                      have f0 := fr_I eS1637 g0 f0 o_v0 (by decide)
                      have d_y1575 := rd_Ij eS1637 (by decide) d_y1575
                      have d_x1633 := rd_Ij eS1637 (by decide) d_x1633
                      have d_x1636 := rd_Is eS1637 (rfl : x1636 = x1636)
                      have hT := tx_I eS1637 hT
                      have g0 := gr_I eS1637 g0
                      have o_v0 := ob_I eS1637 o_v0
                      exact hq _ hI g0 f0 hT
                · refine ⟨o_v0, ?_⟩
                  intro x1638 ex1638
                  have q_x1638 : x1638 = y1604 := ex1638.trans d_y1604.symm
                  have d_x1638 := ex1638
                  intro x1639 ex1639
                  have q_x1639 : x1639 = y1575 := ex1639.trans d_y1575.symm
                  have d_x1639 := ex1639
                  refine ⟨fun c1640 => ?_, fun c1640 => ?_⟩
                  · refine u_X4_next_240 ?_
                    refine ⟨fun c1641 => ?_, fun c1641 => ?_⟩
                    · exact hq _ hI g0 f0 hT
                    · refine ⟨o_v0, ?_⟩
                      intro x1642 ex1642
                      have q_x1642 : x1642 = x1587 := ex1642.trans d_x1587.symm
                      have d_x1642 := ex1642
                      refine ⟨fun c1643 => ?_, fun c1643 => ?_⟩
                      · exact hq _ hI g0 f0 hT
                      · intro x1644 ex1644
                        have q_x1644 : x1644 = x1638 := ex1644.trans d_x1638.symm
                        have d_x1644 := ex1644
                        intro x1645 ex1645
                        intro S1646 eS1646
                        have hI : IV S1646 := by rw [eS1646]; exact iv_sI hI o_v0 (by decide) (nu_free (by decide))
                        have f0 := fr_I eS1646 g0 f0 o_v0 (by decide)
                        have d_x1639 := rd_Ij eS1646 (by decide) d_x1639
                        have d_x1642 := rd_Ij eS1646 (by decide) d_x1642
                        have d_x1645 := rd_Is eS1646 (rfl : x1645 = x1645)
                        have hT := tx_I eS1646 hT
                        have g0 := gr_I eS1646 g0
                        have o_v0 := ob_I eS1646 o_v0
                        exact hq _ hI g0 f0 hT
                  · intro S1647 eS1647
                    have hI : IV S1647 := by rw [eS1647]; exact iv_sI hI o_v0 (by decide) (nu_free (by decide))
                    have f0 := fr_I eS1647 g0 f0 o_v0 (by decide)
                    have d_x1639 := rd_Ij eS1647 (by decide) d_x1639
                    have d_x1638 := rd_Ij eS1647 (by decide) d_x1638
                    obtain ⟨y1648, hy1648⟩ : ∃ z : Int32, z = (6 : Int32) := ⟨_, rfl⟩
                    have d_y1648 := rd_Is eS1647 hy1648
                    have hT := tx_I eS1647 hT
                    have g0 := gr_I eS1647 g0
                    have o_v0 := ob_I eS1647 o_v0
                    refine u_X4_next_240 ?_
                    refine ⟨fun c1649 => ?_, fun c1649 => ?_⟩
                    · exact hq _ hI g0 f0 hT
                    · refine ⟨o_v0, ?_⟩
                      intro x1650 ex1650
                      have q_x1650 : x1650 = y1648 := ex1650.trans d_y1648.symm
                      have d_x1650 := ex1650
                      refine ⟨fun c1651 => ?_, fun c1651 => ?_⟩
                      · exact hq _ hI g0 f0 hT
                      · intro x1652 ex1652
                        have q_x1652 : x1652 = x1638 := ex1652.trans d_x1638.symm
                        have d_x1652 := ex1652
                        intro x1653 ex1653
                        intro S1654 eS1654
                        have hI : IV S1654 := by rw [eS1654]; exact iv_sI hI o_v0 (by decide) (nu_free (by decide))
                        have f0 := fr_I eS1654 g0 f0 o_v0 (by decide)
                        have d_x1639 := rd_Ij eS1654 (by decide) d_x1639
                        have d_x1650 := rd_Ij eS1654 (by decide) d_x1650
                        have d_x1653 := rd_Is eS1654 (rfl : x1653 = x1653)
                        have hT := tx_I eS1654 hT
                        have g0 := gr_I eS1654 g0
                        have o_v0 := ob_I eS1654 o_v0
                        exact hq _ hI g0 f0 hT
              · refine ⟨o_v0, ?_⟩
                intro x1655 ex1655
                have q_x1655 : x1655 = y1604 := ex1655.trans d_y1604.symm
                have d_x1655 := ex1655
                refine m_X4_sortAt hI o_v0 hT (fun x1656 S1657 hI2 g1658 p_x1656 => ?_)
                obtain ⟨z_S1657, p_x1656⟩ := p_x1656
                subst z_S1657
                intro _
                intro x1660 ex1660
                have q_x1660 : x1660 = x1587 := ex1660.trans d_x1587.symm
                have d_x1660 := ex1660
                refine ⟨fun c1661 => ?_, fun c1661 => ?_⟩
                · refine u_X4_next_217 ?_
                  refine ⟨fun c1662 => ?_, fun c1662 => ?_⟩
                  · refine u_X4_next_240 ?_
                    refine ⟨fun c1663 => ?_, fun c1663 => ?_⟩
                    · exact hq _ hI g0 f0 hT
                    · refine ⟨o_v0, ?_⟩
                      intro x1664 ex1664
                      have q_x1664 : x1664 = x1660 := ex1664.trans d_x1660.symm
                      have d_x1664 := ex1664
                      refine ⟨fun c1665 => ?_, fun c1665 => ?_⟩
                      · exact hq _ hI g0 f0 hT
                      · intro x1666 ex1666
                        have q_x1666 : x1666 = x1655 := ex1666.trans d_x1655.symm
                        have d_x1666 := ex1666
                        intro x1667 ex1667
                        intro S1668 eS1668
                        have hI : IV S1668 := by rw [eS1668]; exact iv_sI hI o_v0 (by decide) (nu_free (by decide))
                        have f0 := fr_I eS1668 g0 f0 o_v0 (by decide)
                        have d_y1575 := rd_Ij eS1668 (by decide) d_y1575
                        have d_x1664 := rd_Ij eS1668 (by decide) d_x1664
                        have d_x1667 := rd_Is eS1668 (rfl : x1667 = x1667)
                        have hT := tx_I eS1668 hT
                        have g0 := gr_I eS1668 g0
                        have o_v0 := ob_I eS1668 o_v0
                        exact hq _ hI g0 f0 hT
                  · refine ⟨o_v0, ?_⟩
                    intro x1669 ex1669
                    have q_x1669 : x1669 = x1655 := ex1669.trans d_x1655.symm
                    have d_x1669 := ex1669
                    intro x1670 ex1670
                    have q_x1670 : x1670 = y1575 := ex1670.trans d_y1575.symm
                    have d_x1670 := ex1670
                    refine ⟨fun c1671 => ?_, fun c1671 => ?_⟩
                    · refine u_X4_next_240 ?_
                      refine ⟨fun c1672 => ?_, fun c1672 => ?_⟩
                      · exact hq _ hI g0 f0 hT
                      · refine ⟨o_v0, ?_⟩
                        intro x1673 ex1673
                        have q_x1673 : x1673 = x1660 := ex1673.trans d_x1660.symm
                        have d_x1673 := ex1673
                        refine ⟨fun c1674 => ?_, fun c1674 => ?_⟩
                        · exact hq _ hI g0 f0 hT
                        · intro x1675 ex1675
                          have q_x1675 : x1675 = x1669 := ex1675.trans d_x1669.symm
                          have d_x1675 := ex1675
                          intro x1676 ex1676
                          intro S1677 eS1677
                          have hI : IV S1677 := by rw [eS1677]; exact iv_sI hI o_v0 (by decide) (nu_free (by decide))
                          have f0 := fr_I eS1677 g0 f0 o_v0 (by decide)
                          have d_x1670 := rd_Ij eS1677 (by decide) d_x1670
                          have d_x1673 := rd_Ij eS1677 (by decide) d_x1673
                          have d_x1676 := rd_Is eS1677 (rfl : x1676 = x1676)
                          have hT := tx_I eS1677 hT
                          have g0 := gr_I eS1677 g0
                          have o_v0 := ob_I eS1677 o_v0
                          exact hq _ hI g0 f0 hT
                    · intro S1678 eS1678
                      have hI : IV S1678 := by rw [eS1678]; exact iv_sI hI o_v0 (by decide) (nu_free (by decide))
                      have f0 := fr_I eS1678 g0 f0 o_v0 (by decide)
                      have d_x1670 := rd_Ij eS1678 (by decide) d_x1670
                      have d_x1669 := rd_Ij eS1678 (by decide) d_x1669
                      obtain ⟨y1679, hy1679⟩ : ∃ z : Int32, z = (6 : Int32) := ⟨_, rfl⟩
                      have d_y1679 := rd_Is eS1678 hy1679
                      have hT := tx_I eS1678 hT
                      have g0 := gr_I eS1678 g0
                      have o_v0 := ob_I eS1678 o_v0
                      refine u_X4_next_240 ?_
                      refine ⟨fun c1680 => ?_, fun c1680 => ?_⟩
                      · exact hq _ hI g0 f0 hT
                      · refine ⟨o_v0, ?_⟩
                        intro x1681 ex1681
                        have q_x1681 : x1681 = y1679 := ex1681.trans d_y1679.symm
                        have d_x1681 := ex1681
                        refine ⟨fun c1682 => ?_, fun c1682 => ?_⟩
                        · exact hq _ hI g0 f0 hT
                        · intro x1683 ex1683
                          have q_x1683 : x1683 = x1669 := ex1683.trans d_x1669.symm
                          have d_x1683 := ex1683
                          intro x1684 ex1684
                          intro S1685 eS1685
                          have hI : IV S1685 := by rw [eS1685]; exact iv_sI hI o_v0 (by decide) (nu_free (by decide))
                          have f0 := fr_I eS1685 g0 f0 o_v0 (by decide)
                          have d_x1670 := rd_Ij eS1685 (by decide) d_x1670
                          have d_x1681 := rd_Ij eS1685 (by decide) d_x1681
                          have d_x1684 := rd_Is eS1685 (rfl : x1684 = x1684)
                          have hT := tx_I eS1685 hT
                          have g0 := gr_I eS1685 g0
                          have o_v0 := ob_I eS1685 o_v0
                          exact hq _ hI g0 f0 hT
                · refine ⟨fun c1686 => ?_, fun c1686 => ?_⟩
                  · refine u_X4_next_201 ?_
                    refine ⟨o_v0, ?_⟩
                    intro x1687 ex1687
                    have q_x1687 : x1687 = x1655 := ex1687.trans d_x1655.symm
                    have d_x1687 := ex1687
                    intro x1688 ex1688
                    intro S1689 eS1689
                    have hI : IV S1689 := by rw [eS1689]; exact iv_sI hI o_v0 (by decide) (nu_free (by decide))
                    have f0 := fr_I eS1689 g0 f0 o_v0 (by decide)
                    have fL1592 := fr_I eS1689 gL1591 fL1592 o_v0 (by decide)
                    have d_y1575 := rd_Ij eS1689 (by decide) d_y1575
                    have d_x1660 := rd_Ij eS1689 (by decide) d_x1660
                    have d_x1688 := rd_Is eS1689 (rfl : x1688 = x1688)
                    have hT := tx_I eS1689 hT
                    have g0 := gr_I eS1689 g0
                    have gL1591 := gr_I eS1689 gL1591
                    have o_v0 := ob_I eS1689 o_v0
                    intro x1690 ex1690
                    exact ih1603 _ _ _ _ _ _ ⟨hI, gL1591, fL1592, rfl, rfl, rfl, rfl, hT, (q459 i1u1 c10 p_x1568 c1572 q_x1573 hy1575 q_x1576 p_x1577 q_x1583 c1584 q_x1585 c1586 q_x1587 c1588 i1u1589 p_k1u1589 c1630 q_x1655 p_x1656 q_x1660 c1661 c1686 q_x1687 ex1688 ex1690), (by rw [← d_x1660, ← d_x1688]; exact (q460 i1u1 c10 p_x1568 c1572 q_x1573 hy1575 q_x1576 p_x1577 q_x1583 c1584 q_x1585 c1586 q_x1587 c1588 i1u1589 p_k1u1589 c1630 q_x1655 p_x1656 q_x1660 c1661 c1686 q_x1687 ex1688 ex1690))⟩ (mu_up (q461 i1u1 c10 p_x1568 c1572 q_x1573 hy1575 q_x1576 p_x1577 q_x1583 c1584 q_x1585 c1586 q_x1587 c1588 i1u1589 p_k1u1589 c1630 q_x1655 p_x1656 q_x1660 c1661 c1686 q_x1687 ex1688 ex1690) (q462 i1u1 c10 p_x1568 c1572 q_x1573 hy1575 q_x1576 p_x1577 q_x1583 c1584 q_x1585 c1586 q_x1587 c1588 i1u1589 p_k1u1589 c1630 q_x1655 p_x1656 q_x1660 c1661 c1686 q_x1687 ex1688 ex1690))
                  · intro x1691 ex1691
                    have q_x1691 : x1691 = x1655 := ex1691.trans d_x1655.symm
                    have d_x1691 := ex1691
                    obtain ⟨a1692, ea1692, o_a1692, l_a1692⟩ := id hT
                    refine ⟨a1692, ea1692, ?_⟩
                    refine ⟨o_a1692, ?_⟩
                    have n_a1692 : nI (hN S1590 a1692) = 900 := by rw [show hN S1590 a1692 = 900 from l_a1692]; decide
                    refine ⟨fun c1693 => ?_, fun c1693 => ?_⟩
                    · rw [n_a1692] at c1693
                      refine u_X4_next_201 ?_
                      refine ⟨o_v0, ?_⟩
                      intro x1694 ex1694
                      have q_x1694 : x1694 = x1691 := ex1694.trans d_x1691.symm
                      have d_x1694 := ex1694
                      intro x1695 ex1695
                      intro S1696 eS1696
                      have hI : IV S1696 := by rw [eS1696]; exact iv_sI hI o_v0 (by decide) (nu_free (by decide))
                      have f0 := fr_I eS1696 g0 f0 o_v0 (by decide)
                      have fL1592 := fr_I eS1696 gL1591 fL1592 o_v0 (by decide)
                      have d_y1575 := rd_Ij eS1696 (by decide) d_y1575
                      have d_x1660 := rd_Ij eS1696 (by decide) d_x1660
                      have d_x1695 := rd_Is eS1696 (rfl : x1695 = x1695)
                      have ea1692 := rf_I eS1696 ea1692
                      have hT := tx_I eS1696 hT
                      have l_a1692 := ln_I eS1696 l_a1692
                      have g0 := gr_I eS1696 g0
                      have gL1591 := gr_I eS1696 gL1591
                      have o_a1692 := ob_I eS1696 o_a1692
                      have o_v0 := ob_I eS1696 o_v0
                      intro x1697 ex1697
                      exact ih1603 _ _ _ _ _ _ ⟨hI, gL1591, fL1592, rfl, rfl, rfl, rfl, hT, (q463 i1u1 c10 p_x1568 c1572 q_x1573 hy1575 q_x1576 p_x1577 q_x1583 c1584 q_x1585 c1586 q_x1587 c1588 i1u1589 p_k1u1589 c1630 q_x1655 p_x1656 q_x1660 c1661 c1686 q_x1691 c1693 q_x1694 ex1695 ex1697), (by rw [← d_x1660, ← d_x1695]; exact (q464 i1u1 c10 p_x1568 c1572 q_x1573 hy1575 q_x1576 p_x1577 q_x1583 c1584 q_x1585 c1586 q_x1587 c1588 i1u1589 p_k1u1589 c1630 q_x1655 p_x1656 q_x1660 c1661 c1686 q_x1691 c1693 q_x1694 ex1695 ex1697))⟩ (mu_up (q465 i1u1 c10 p_x1568 c1572 q_x1573 hy1575 q_x1576 p_x1577 q_x1583 c1584 q_x1585 c1586 q_x1587 c1588 i1u1589 p_k1u1589 c1630 q_x1655 p_x1656 q_x1660 c1661 c1686 q_x1691 c1693 q_x1694 ex1695 ex1697) (q466 i1u1 c10 p_x1568 c1572 q_x1573 hy1575 q_x1576 p_x1577 q_x1583 c1584 q_x1585 c1586 q_x1587 c1588 i1u1589 p_k1u1589 c1630 q_x1655 p_x1656 q_x1660 c1661 c1686 q_x1691 c1693 q_x1694 ex1695 ex1697))
                    · rw [n_a1692] at c1693
                      intro x1698 ex1698
                      have dj_x1698 := ex1698
                      refine ⟨a1692, ea1692, ?_⟩
                      intro x1700 ex1700
                      have q_x1700 : x1700 = x1691 := ex1700.trans d_x1691.symm
                      have d_x1700 := ex1700
                      refine ⟨o_a1692, ?_⟩
                      refine ⟨(vin l_a1692 (m := 900) (by decide) (q467 i1u1 c10 p_x1568 c1572 q_x1573 hy1575 q_x1576 p_x1577 q_x1583 c1584 q_x1585 c1586 q_x1587 c1588 i1u1589 p_k1u1589 c1630 q_x1655 p_x1656 q_x1660 c1661 c1686 q_x1691 c1693 q_x1700)), ?_⟩
                      intro x1701 ex1701
                      intro x1702 ex1702
                      have q_x1702 : x1702 = x1660 := ex1702.trans d_x1660.symm
                      have d_x1702 := ex1702
                      refine ⟨fun c1703 => ?_, fun c1703 => ?_⟩
                      · refine u_X4_next_195 ?_
                        refine ⟨o_v0, ?_⟩
                        intro x1704 ex1704
                        intro S1705 eS1705
                        have hI : IV S1705 := by rw [eS1705]; exact iv_sJ hI o_v0 (by decide)
                        have f0 := fr_J eS1705 f0
                        have fL1592 := fr_J eS1705 fL1592
                        have d_y1575 := rd_J eS1705 d_y1575
                        have d_x1702 := rd_J eS1705 d_x1702
                        have d_x1700 := rd_J eS1705 d_x1700
                        have ea1692 := rf_J eS1705 ea1692
                        have hT := tx_J eS1705 hT
                        have l_a1692 := ln_J eS1705 l_a1692
                        have g0 := gr_J eS1705 g0
                        have gL1591 := gr_J eS1705 gL1591
                        have o_a1692 := ob_J eS1705 o_a1692
                        have o_v0 := ob_J eS1705 o_v0
                        refine u_X4_next_201 ?_
                        refine ⟨o_v0, ?_⟩
                        intro x1706 ex1706
                        have q_x1706 : x1706 = x1700 := ex1706.trans d_x1700.symm
                        have d_x1706 := ex1706
                        intro x1707 ex1707
                        intro S1708 eS1708
                        have hI : IV S1708 := by rw [eS1708]; exact iv_sI hI o_v0 (by decide) (nu_free (by decide))
                        have f0 := fr_I eS1708 g0 f0 o_v0 (by decide)
                        have fL1592 := fr_I eS1708 gL1591 fL1592 o_v0 (by decide)
                        have d_y1575 := rd_Ij eS1708 (by decide) d_y1575
                        have d_x1702 := rd_Ij eS1708 (by decide) d_x1702
                        have d_x1707 := rd_Is eS1708 (rfl : x1707 = x1707)
                        have ea1692 := rf_I eS1708 ea1692
                        have hT := tx_I eS1708 hT
                        have l_a1692 := ln_I eS1708 l_a1692
                        have g0 := gr_I eS1708 g0
                        have gL1591 := gr_I eS1708 gL1591
                        have o_a1692 := ob_I eS1708 o_a1692
                        have o_v0 := ob_I eS1708 o_v0
                        intro x1709 ex1709
                        exact ih1603 _ _ _ _ _ _ ⟨hI, gL1591, fL1592, rfl, rfl, rfl, rfl, hT, (q468 i1u1 c10 p_x1568 c1572 q_x1573 hy1575 q_x1576 p_x1577 q_x1583 c1584 q_x1585 c1586 q_x1587 c1588 i1u1589 p_k1u1589 c1630 q_x1655 p_x1656 q_x1660 c1661 c1686 q_x1691 c1693 q_x1700 q_x1702 c1703 q_x1706 ex1707 ex1709), (by rw [← d_x1702, ← d_x1707]; exact (q469 i1u1 c10 p_x1568 c1572 q_x1573 hy1575 q_x1576 p_x1577 q_x1583 c1584 q_x1585 c1586 q_x1587 c1588 i1u1589 p_k1u1589 c1630 q_x1655 p_x1656 q_x1660 c1661 c1686 q_x1691 c1693 q_x1700 q_x1702 c1703 q_x1706 ex1707 ex1709))⟩ (mu_up (q470 i1u1 c10 p_x1568 c1572 q_x1573 hy1575 q_x1576 p_x1577 q_x1583 c1584 q_x1585 c1586 q_x1587 c1588 i1u1589 p_k1u1589 c1630 q_x1655 p_x1656 q_x1660 c1661 c1686 q_x1691 c1693 q_x1700 q_x1702 c1703 q_x1706 ex1707 ex1709) (q471 i1u1 c10 p_x1568 c1572 q_x1573 hy1575 q_x1576 p_x1577 q_x1583 c1584 q_x1585 c1586 q_x1587 c1588 i1u1589 p_k1u1589 c1630 q_x1655 p_x1656 q_x1660 c1661 c1686 q_x1691 c1693 q_x1700 q_x1702 c1703 q_x1706 ex1707 ex1709))
                      · refine u_X4_next_195 ?_
                        refine ⟨o_v0, ?_⟩
                        intro x1710 ex1710
                        intro S1711 eS1711
                        have hI : IV S1711 := by rw [eS1711]; exact iv_sJ hI o_v0 (by decide)
                        have f0 := fr_J eS1711 f0
                        have fL1592 := fr_J eS1711 fL1592
                        have d_y1575 := rd_J eS1711 d_y1575
                        have d_x1702 := rd_J eS1711 d_x1702
                        have d_x1700 := rd_J eS1711 d_x1700
                        have ea1692 := rf_J eS1711 ea1692
                        have hT := tx_J eS1711 hT
                        have l_a1692 := ln_J eS1711 l_a1692
                        have g0 := gr_J eS1711 g0
                        have gL1591 := gr_J eS1711 gL1591
                        have o_a1692 := ob_J eS1711 o_a1692
                        have o_v0 := ob_J eS1711 o_v0
                        refine u_X4_next_201 ?_
                        refine ⟨o_v0, ?_⟩
                        intro x1712 ex1712
                        have q_x1712 : x1712 = x1700 := ex1712.trans d_x1700.symm
                        have d_x1712 := ex1712
                        intro x1713 ex1713
                        intro S1714 eS1714
                        have hI : IV S1714 := by rw [eS1714]; exact iv_sI hI o_v0 (by decide) (nu_free (by decide))
                        have f0 := fr_I eS1714 g0 f0 o_v0 (by decide)
                        have fL1592 := fr_I eS1714 gL1591 fL1592 o_v0 (by decide)
                        have d_y1575 := rd_Ij eS1714 (by decide) d_y1575
                        have d_x1702 := rd_Ij eS1714 (by decide) d_x1702
                        have d_x1713 := rd_Is eS1714 (rfl : x1713 = x1713)
                        have ea1692 := rf_I eS1714 ea1692
                        have hT := tx_I eS1714 hT
                        have l_a1692 := ln_I eS1714 l_a1692
                        have g0 := gr_I eS1714 g0
                        have gL1591 := gr_I eS1714 gL1591
                        have o_a1692 := ob_I eS1714 o_a1692
                        have o_v0 := ob_I eS1714 o_v0
                        intro x1715 ex1715
                        exact ih1603 _ _ _ _ _ _ ⟨hI, gL1591, fL1592, rfl, rfl, rfl, rfl, hT, (q472 i1u1 c10 p_x1568 c1572 q_x1573 hy1575 q_x1576 p_x1577 q_x1583 c1584 q_x1585 c1586 q_x1587 c1588 i1u1589 p_k1u1589 c1630 q_x1655 p_x1656 q_x1660 c1661 c1686 q_x1691 c1693 q_x1700 q_x1702 c1703 q_x1712 ex1713 ex1715), (by rw [← d_x1702, ← d_x1713]; exact (q473 i1u1 c10 p_x1568 c1572 q_x1573 hy1575 q_x1576 p_x1577 q_x1583 c1584 q_x1585 c1586 q_x1587 c1588 i1u1589 p_k1u1589 c1630 q_x1655 p_x1656 q_x1660 c1661 c1686 q_x1691 c1693 q_x1700 q_x1702 c1703 q_x1712 ex1713 ex1715))⟩ (mu_up (q474 i1u1 c10 p_x1568 c1572 q_x1573 hy1575 q_x1576 p_x1577 q_x1583 c1584 q_x1585 c1586 q_x1587 c1588 i1u1589 p_k1u1589 c1630 q_x1655 p_x1656 q_x1660 c1661 c1686 q_x1691 c1693 q_x1700 q_x1702 c1703 q_x1712 ex1713 ex1715) (q475 i1u1 c10 p_x1568 c1572 q_x1573 hy1575 q_x1576 p_x1577 q_x1583 c1584 q_x1585 c1586 q_x1587 c1588 i1u1589 p_k1u1589 c1630 q_x1655 p_x1656 q_x1660 c1661 c1686 q_x1691 c1693 q_x1700 q_x1702 c1703 q_x1712 ex1713 ex1715))
          · refine u_X4_next_114 ?_
            refine i_X4_next_118 (fun (y0 : Nat) (y1 : Int32) (y2 : Int32) (y3 : Int32) (y4 : Int32) (Z : HS) => ((2147483647 : Int32).toInt - y4.toInt).toNat) (fun (y0 : Nat) (y1 : Int32) (y2 : Int32) (y3 : Int32) (y4 : Int32) (Z : HS) => (IV Z) ∧ (Gr S1582 Z) ∧ (FRI [(4, 4)] [] S1582 Z) ∧ (v0 = y0) ∧ ((1 : Int32) = y1) ∧ ((3 : Int32) = y2) ∧ ((32 : Int32) = y3) ∧ (TX Z v0) ∧ (0 ≤ y4) ∧ ((y1 = 0 ∨ fI Z v0 6 = 1 ∨ fI Z v0 6 = 2) ∧ (y1 = 0 → fI Z v0 6 = 0 ∨ (0 ≤ fI Z v0 4 ∧ fI Z v0 4 < 900)))) ?_ _ _ _ _ _ _ ⟨hI, (gr_rf _), (fri_rf _ _ _), rfl, rfl, rfl, rfl, hT, (q476 i1u1 c10 p_x1568 c1572 q_x1573 hy1575 q_x1576 p_x1577 q_x1583 c1584 q_x1585 c1586 q_x1587 c1588), (by rw [← d_x1587, ← d_x1576]; exact (q477 i1u1 c10 p_x1568 c1572 q_x1573 hy1575 q_x1576 p_x1577 q_x1583 c1584 q_x1585 c1586 q_x1587 c1588))⟩
            intro w1720 w1722 w1724 w1726 w1728 S1717 X1729 ⟨hI, gL1718, fL1719, q1721, q1723, q1725, q1727, hT, i1u1716, k1u1716⟩ ih1730
            subst q1721
            subst q1723
            subst q1725
            subst q1727
            have d_y1575 := d_y1575.trans (fri_at fL1719 (by decide) (by decide) o_v0).symm
            have d_x1587 := d_x1587.trans (fri_at fL1719 (by decide) (by decide) o_v0).symm
            have f0 := fri_tr (S := S1582) g0 f0 fL1719 (by decide) (by decide)
            have o_v0 := gr_ob gL1718 o_v0
            have g0 := gr_tr (T := S1582) g0 gL1718
            obtain ⟨y1731, d_y1731⟩ : ∃ z : Int32, z = fI S1717 v0 4 := ⟨_, rfl⟩
            have p_k1u1716 : ((1 : Int32) = 0 ∨ x1587 = 1 ∨ x1587 = 2) ∧ ((1 : Int32) = 0 → x1587 = 0 ∨ (0 ≤ y1731 ∧ y1731 < 900)) := by rw [d_x1587, d_y1731]; exact k1u1716
            refine u_X4_next_118 ?_
            refine ⟨fun c1732 => ?_, fun c1732 => ?_⟩
            · refine u_X4_next_217 ?_
              refine ⟨fun c1733 => ?_, fun c1733 => ?_⟩
              · refine u_X4_next_240 ?_
                refine ⟨fun c1734 => ?_, fun c1734 => ?_⟩
                · exact hq _ hI g0 f0 hT
                · refine ⟨o_v0, ?_⟩
                  intro x1735 ex1735
                  have q_x1735 : x1735 = x1587 := ex1735.trans d_x1587.symm
                  have d_x1735 := ex1735
                  refine ⟨fun c1736 => ?_, fun c1736 => ?_⟩
                  · exact hq _ hI g0 f0 hT
                  · intro x1737 ex1737
                    have q_x1737 : x1737 = y1731 := ex1737.trans d_y1731.symm
                    have d_x1737 := ex1737
                    intro x1738 ex1738
                    intro S1739 eS1739
                    have hI : IV S1739 := by rw [eS1739]; exact iv_sI hI o_v0 (by decide) (nu_free (by decide))
                    have f0 := fr_I eS1739 g0 f0 o_v0 (by decide)
                    have d_y1575 := rd_Ij eS1739 (by decide) d_y1575
                    have d_x1735 := rd_Ij eS1739 (by decide) d_x1735
                    have d_x1738 := rd_Is eS1739 (rfl : x1738 = x1738)
                    have hT := tx_I eS1739 hT
                    have g0 := gr_I eS1739 g0
                    have o_v0 := ob_I eS1739 o_v0
                    exact hq _ hI g0 f0 hT
              · refine ⟨o_v0, ?_⟩
                intro x1740 ex1740
                have q_x1740 : x1740 = y1731 := ex1740.trans d_y1731.symm
                have d_x1740 := ex1740
                intro x1741 ex1741
                have q_x1741 : x1741 = y1575 := ex1741.trans d_y1575.symm
                have d_x1741 := ex1741
                refine ⟨fun c1742 => ?_, fun c1742 => ?_⟩
                · refine u_X4_next_240 ?_
                  refine ⟨fun c1743 => ?_, fun c1743 => ?_⟩
                  · exact hq _ hI g0 f0 hT
                  · refine ⟨o_v0, ?_⟩
                    intro x1744 ex1744
                    have q_x1744 : x1744 = x1587 := ex1744.trans d_x1587.symm
                    have d_x1744 := ex1744
                    refine ⟨fun c1745 => ?_, fun c1745 => ?_⟩
                    · exact hq _ hI g0 f0 hT
                    · intro x1746 ex1746
                      have q_x1746 : x1746 = x1740 := ex1746.trans d_x1740.symm
                      have d_x1746 := ex1746
                      intro x1747 ex1747
                      intro S1748 eS1748
                      have hI : IV S1748 := by rw [eS1748]; exact iv_sI hI o_v0 (by decide) (nu_free (by decide))
                      have f0 := fr_I eS1748 g0 f0 o_v0 (by decide)
                      have d_x1741 := rd_Ij eS1748 (by decide) d_x1741
                      have d_x1744 := rd_Ij eS1748 (by decide) d_x1744
                      have d_x1747 := rd_Is eS1748 (rfl : x1747 = x1747)
                      have hT := tx_I eS1748 hT
                      have g0 := gr_I eS1748 g0
                      have o_v0 := ob_I eS1748 o_v0
                      exact hq _ hI g0 f0 hT
                · intro S1749 eS1749
                  have hI : IV S1749 := by rw [eS1749]; exact iv_sI hI o_v0 (by decide) (nu_free (by decide))
                  have f0 := fr_I eS1749 g0 f0 o_v0 (by decide)
                  have d_x1741 := rd_Ij eS1749 (by decide) d_x1741
                  have d_x1740 := rd_Ij eS1749 (by decide) d_x1740
                  obtain ⟨y1750, hy1750⟩ : ∃ z : Int32, z = (6 : Int32) := ⟨_, rfl⟩
                  have d_y1750 := rd_Is eS1749 hy1750
                  have hT := tx_I eS1749 hT
                  have g0 := gr_I eS1749 g0
                  have o_v0 := ob_I eS1749 o_v0
                  refine u_X4_next_240 ?_
                  refine ⟨fun c1751 => ?_, fun c1751 => ?_⟩
                  · exact hq _ hI g0 f0 hT
                  · refine ⟨o_v0, ?_⟩
                    intro x1752 ex1752
                    have q_x1752 : x1752 = y1750 := ex1752.trans d_y1750.symm
                    have d_x1752 := ex1752
                    refine ⟨fun c1753 => ?_, fun c1753 => ?_⟩
                    · exact hq _ hI g0 f0 hT
                    · intro x1754 ex1754
                      have q_x1754 : x1754 = x1740 := ex1754.trans d_x1740.symm
                      have d_x1754 := ex1754
                      intro x1755 ex1755
                      intro S1756 eS1756
                      have hI : IV S1756 := by rw [eS1756]; exact iv_sI hI o_v0 (by decide) (nu_free (by decide))
                      have f0 := fr_I eS1756 g0 f0 o_v0 (by decide)
                      have d_x1741 := rd_Ij eS1756 (by decide) d_x1741
                      have d_x1752 := rd_Ij eS1756 (by decide) d_x1752
                      have d_x1755 := rd_Is eS1756 (rfl : x1755 = x1755)
                      have hT := tx_I eS1756 hT
                      have g0 := gr_I eS1756 g0
                      have o_v0 := ob_I eS1756 o_v0
                      exact hq _ hI g0 f0 hT
            · refine ⟨fun c1757 => ?_, fun c1757 => ?_⟩
              · refine u_X4_next_217 ?_
                refine ⟨fun c1758 => ?_, fun c1758 => ?_⟩
                · refine u_X4_next_240 ?_
                  refine ⟨fun c1759 => ?_, fun c1759 => ?_⟩
                  · exact hq _ hI g0 f0 hT
                  · refine ⟨o_v0, ?_⟩
                    intro x1760 ex1760
                    have q_x1760 : x1760 = x1587 := ex1760.trans d_x1587.symm
                    have d_x1760 := ex1760
                    refine ⟨fun c1761 => ?_, fun c1761 => ?_⟩
                    · exact hq _ hI g0 f0 hT
                    · intro x1762 ex1762
                      have q_x1762 : x1762 = y1731 := ex1762.trans d_y1731.symm
                      have d_x1762 := ex1762
                      intro x1763 ex1763
                      intro S1764 eS1764
                      have hI : IV S1764 := by rw [eS1764]; exact iv_sI hI o_v0 (by decide) (nu_free (by decide))
                      have f0 := fr_I eS1764 g0 f0 o_v0 (by decide)
                      have d_y1575 := rd_Ij eS1764 (by decide) d_y1575
                      have d_x1760 := rd_Ij eS1764 (by decide) d_x1760
                      have d_x1763 := rd_Is eS1764 (rfl : x1763 = x1763)
                      have hT := tx_I eS1764 hT
                      have g0 := gr_I eS1764 g0
                      have o_v0 := ob_I eS1764 o_v0
                      exact hq _ hI g0 f0 hT
                · refine ⟨o_v0, ?_⟩
                  intro x1765 ex1765
                  have q_x1765 : x1765 = y1731 := ex1765.trans d_y1731.symm
                  have d_x1765 := ex1765
                  intro x1766 ex1766
                  have q_x1766 : x1766 = y1575 := ex1766.trans d_y1575.symm
                  have d_x1766 := ex1766
                  refine ⟨fun c1767 => ?_, fun c1767 => ?_⟩
                  · refine u_X4_next_240 ?_
                    refine ⟨fun c1768 => ?_, fun c1768 => ?_⟩
                    · exact hq _ hI g0 f0 hT
                    · refine ⟨o_v0, ?_⟩
                      intro x1769 ex1769
                      have q_x1769 : x1769 = x1587 := ex1769.trans d_x1587.symm
                      have d_x1769 := ex1769
                      refine ⟨fun c1770 => ?_, fun c1770 => ?_⟩
                      · exact hq _ hI g0 f0 hT
                      · intro x1771 ex1771
                        have q_x1771 : x1771 = x1765 := ex1771.trans d_x1765.symm
                        have d_x1771 := ex1771
                        intro x1772 ex1772
                        intro S1773 eS1773
                        have hI : IV S1773 := by rw [eS1773]; exact iv_sI hI o_v0 (by decide) (nu_free (by decide))
                        have f0 := fr_I eS1773 g0 f0 o_v0 (by decide)
                        have d_x1766 := rd_Ij eS1773 (by decide) d_x1766
                        have d_x1769 := rd_Ij eS1773 (by decide) d_x1769
                        have d_x1772 := rd_Is eS1773 (rfl : x1772 = x1772)
                        have hT := tx_I eS1773 hT
                        have g0 := gr_I eS1773 g0
                        have o_v0 := ob_I eS1773 o_v0
                        exact hq _ hI g0 f0 hT
                  · intro S1774 eS1774
                    have hI : IV S1774 := by rw [eS1774]; exact iv_sI hI o_v0 (by decide) (nu_free (by decide))
                    have f0 := fr_I eS1774 g0 f0 o_v0 (by decide)
                    have d_x1766 := rd_Ij eS1774 (by decide) d_x1766
                    have d_x1765 := rd_Ij eS1774 (by decide) d_x1765
                    obtain ⟨y1775, hy1775⟩ : ∃ z : Int32, z = (6 : Int32) := ⟨_, rfl⟩
                    have d_y1775 := rd_Is eS1774 hy1775
                    have hT := tx_I eS1774 hT
                    have g0 := gr_I eS1774 g0
                    have o_v0 := ob_I eS1774 o_v0
                    refine u_X4_next_240 ?_
                    refine ⟨fun c1776 => ?_, fun c1776 => ?_⟩
                    · exact hq _ hI g0 f0 hT
                    · refine ⟨o_v0, ?_⟩
                      intro x1777 ex1777
                      have q_x1777 : x1777 = y1775 := ex1777.trans d_y1775.symm
                      have d_x1777 := ex1777
                      refine ⟨fun c1778 => ?_, fun c1778 => ?_⟩
                      · exact hq _ hI g0 f0 hT
                      · intro x1779 ex1779
                        have q_x1779 : x1779 = x1765 := ex1779.trans d_x1765.symm
                        have d_x1779 := ex1779
                        intro x1780 ex1780
                        intro S1781 eS1781
                        have hI : IV S1781 := by rw [eS1781]; exact iv_sI hI o_v0 (by decide) (nu_free (by decide))
                        have f0 := fr_I eS1781 g0 f0 o_v0 (by decide)
                        have d_x1766 := rd_Ij eS1781 (by decide) d_x1766
                        have d_x1777 := rd_Ij eS1781 (by decide) d_x1777
                        have d_x1780 := rd_Is eS1781 (rfl : x1780 = x1780)
                        have hT := tx_I eS1781 hT
                        have g0 := gr_I eS1781 g0
                        have o_v0 := ob_I eS1781 o_v0
                        exact hq _ hI g0 f0 hT
              · refine ⟨o_v0, ?_⟩
                intro x1782 ex1782
                have q_x1782 : x1782 = y1731 := ex1782.trans d_y1731.symm
                have d_x1782 := ex1782
                refine m_X4_sortAt hI o_v0 hT (fun x1783 S1784 hI2 g1785 p_x1783 => ?_)
                obtain ⟨z_S1784, p_x1783⟩ := p_x1783
                subst z_S1784
                intro _
                intro x1787 ex1787
                have q_x1787 : x1787 = x1587 := ex1787.trans d_x1587.symm
                have d_x1787 := ex1787
                refine ⟨fun c1788 => ?_, fun c1788 => ?_⟩
                · refine u_X4_next_217 ?_
                  refine ⟨fun c1789 => ?_, fun c1789 => ?_⟩
                  · refine u_X4_next_240 ?_
                    refine ⟨fun c1790 => ?_, fun c1790 => ?_⟩
                    · exact hq _ hI g0 f0 hT
                    · refine ⟨o_v0, ?_⟩
                      intro x1791 ex1791
                      have q_x1791 : x1791 = x1787 := ex1791.trans d_x1787.symm
                      have d_x1791 := ex1791
                      refine ⟨fun c1792 => ?_, fun c1792 => ?_⟩
                      · exact hq _ hI g0 f0 hT
                      · intro x1793 ex1793
                        have q_x1793 : x1793 = x1782 := ex1793.trans d_x1782.symm
                        have d_x1793 := ex1793
                        intro x1794 ex1794
                        intro S1795 eS1795
                        have hI : IV S1795 := by rw [eS1795]; exact iv_sI hI o_v0 (by decide) (nu_free (by decide))
                        have f0 := fr_I eS1795 g0 f0 o_v0 (by decide)
                        have d_y1575 := rd_Ij eS1795 (by decide) d_y1575
                        have d_x1791 := rd_Ij eS1795 (by decide) d_x1791
                        have d_x1794 := rd_Is eS1795 (rfl : x1794 = x1794)
                        have hT := tx_I eS1795 hT
                        have g0 := gr_I eS1795 g0
                        have o_v0 := ob_I eS1795 o_v0
                        exact hq _ hI g0 f0 hT
                  · refine ⟨o_v0, ?_⟩
                    intro x1796 ex1796
                    have q_x1796 : x1796 = x1782 := ex1796.trans d_x1782.symm
                    have d_x1796 := ex1796
                    intro x1797 ex1797
                    have q_x1797 : x1797 = y1575 := ex1797.trans d_y1575.symm
                    have d_x1797 := ex1797
                    refine ⟨fun c1798 => ?_, fun c1798 => ?_⟩
                    · refine u_X4_next_240 ?_
                      refine ⟨fun c1799 => ?_, fun c1799 => ?_⟩
                      · exact hq _ hI g0 f0 hT
                      · refine ⟨o_v0, ?_⟩
                        intro x1800 ex1800
                        have q_x1800 : x1800 = x1787 := ex1800.trans d_x1787.symm
                        have d_x1800 := ex1800
                        refine ⟨fun c1801 => ?_, fun c1801 => ?_⟩
                        · exact hq _ hI g0 f0 hT
                        · intro x1802 ex1802
                          have q_x1802 : x1802 = x1796 := ex1802.trans d_x1796.symm
                          have d_x1802 := ex1802
                          intro x1803 ex1803
                          intro S1804 eS1804
                          have hI : IV S1804 := by rw [eS1804]; exact iv_sI hI o_v0 (by decide) (nu_free (by decide))
                          have f0 := fr_I eS1804 g0 f0 o_v0 (by decide)
                          have d_x1797 := rd_Ij eS1804 (by decide) d_x1797
                          have d_x1800 := rd_Ij eS1804 (by decide) d_x1800
                          have d_x1803 := rd_Is eS1804 (rfl : x1803 = x1803)
                          have hT := tx_I eS1804 hT
                          have g0 := gr_I eS1804 g0
                          have o_v0 := ob_I eS1804 o_v0
                          exact hq _ hI g0 f0 hT
                    · intro S1805 eS1805
                      have hI : IV S1805 := by rw [eS1805]; exact iv_sI hI o_v0 (by decide) (nu_free (by decide))
                      have f0 := fr_I eS1805 g0 f0 o_v0 (by decide)
                      have d_x1797 := rd_Ij eS1805 (by decide) d_x1797
                      have d_x1796 := rd_Ij eS1805 (by decide) d_x1796
                      obtain ⟨y1806, hy1806⟩ : ∃ z : Int32, z = (6 : Int32) := ⟨_, rfl⟩
                      have d_y1806 := rd_Is eS1805 hy1806
                      have hT := tx_I eS1805 hT
                      have g0 := gr_I eS1805 g0
                      have o_v0 := ob_I eS1805 o_v0
                      refine u_X4_next_240 ?_
                      refine ⟨fun c1807 => ?_, fun c1807 => ?_⟩
                      · exact hq _ hI g0 f0 hT
                      · refine ⟨o_v0, ?_⟩
                        intro x1808 ex1808
                        have q_x1808 : x1808 = y1806 := ex1808.trans d_y1806.symm
                        have d_x1808 := ex1808
                        refine ⟨fun c1809 => ?_, fun c1809 => ?_⟩
                        · exact hq _ hI g0 f0 hT
                        · intro x1810 ex1810
                          have q_x1810 : x1810 = x1796 := ex1810.trans d_x1796.symm
                          have d_x1810 := ex1810
                          intro x1811 ex1811
                          intro S1812 eS1812
                          have hI : IV S1812 := by rw [eS1812]; exact iv_sI hI o_v0 (by decide) (nu_free (by decide))
                          have f0 := fr_I eS1812 g0 f0 o_v0 (by decide)
                          have d_x1797 := rd_Ij eS1812 (by decide) d_x1797
                          have d_x1808 := rd_Ij eS1812 (by decide) d_x1808
                          have d_x1811 := rd_Is eS1812 (rfl : x1811 = x1811)
                          have hT := tx_I eS1812 hT
                          have g0 := gr_I eS1812 g0
                          have o_v0 := ob_I eS1812 o_v0
                          exact hq _ hI g0 f0 hT
                · refine ⟨fun c1813 => ?_, fun c1813 => ?_⟩
                  · refine u_X4_next_201 ?_
                    refine ⟨o_v0, ?_⟩
                    intro x1814 ex1814
                    have q_x1814 : x1814 = x1782 := ex1814.trans d_x1782.symm
                    have d_x1814 := ex1814
                    intro x1815 ex1815
                    intro S1816 eS1816
                    have hI : IV S1816 := by rw [eS1816]; exact iv_sI hI o_v0 (by decide) (nu_free (by decide))
                    have f0 := fr_I eS1816 g0 f0 o_v0 (by decide)
                    have fL1719 := fr_I eS1816 gL1718 fL1719 o_v0 (by decide)
                    have d_y1575 := rd_Ij eS1816 (by decide) d_y1575
                    have d_x1787 := rd_Ij eS1816 (by decide) d_x1787
                    have d_x1815 := rd_Is eS1816 (rfl : x1815 = x1815)
                    have hT := tx_I eS1816 hT
                    have g0 := gr_I eS1816 g0
                    have gL1718 := gr_I eS1816 gL1718
                    have o_v0 := ob_I eS1816 o_v0
                    intro x1817 ex1817
                    exact ih1730 _ _ _ _ _ _ ⟨hI, gL1718, fL1719, rfl, rfl, rfl, rfl, hT, (q478 i1u1 c10 p_x1568 c1572 q_x1573 hy1575 q_x1576 p_x1577 q_x1583 c1584 q_x1585 c1586 q_x1587 c1588 i1u1716 p_k1u1716 c1757 q_x1782 p_x1783 q_x1787 c1788 c1813 q_x1814 ex1815 ex1817), (by rw [← d_x1787, ← d_x1815]; exact (q479 i1u1 c10 p_x1568 c1572 q_x1573 hy1575 q_x1576 p_x1577 q_x1583 c1584 q_x1585 c1586 q_x1587 c1588 i1u1716 p_k1u1716 c1757 q_x1782 p_x1783 q_x1787 c1788 c1813 q_x1814 ex1815 ex1817))⟩ (mu_up (q480 i1u1 c10 p_x1568 c1572 q_x1573 hy1575 q_x1576 p_x1577 q_x1583 c1584 q_x1585 c1586 q_x1587 c1588 i1u1716 p_k1u1716 c1757 q_x1782 p_x1783 q_x1787 c1788 c1813 q_x1814 ex1815 ex1817) (q481 i1u1 c10 p_x1568 c1572 q_x1573 hy1575 q_x1576 p_x1577 q_x1583 c1584 q_x1585 c1586 q_x1587 c1588 i1u1716 p_k1u1716 c1757 q_x1782 p_x1783 q_x1787 c1788 c1813 q_x1814 ex1815 ex1817))
                  · intro x1818 ex1818
                    have q_x1818 : x1818 = x1782 := ex1818.trans d_x1782.symm
                    have d_x1818 := ex1818
                    obtain ⟨a1819, ea1819, o_a1819, l_a1819⟩ := id hT
                    refine ⟨a1819, ea1819, ?_⟩
                    refine ⟨o_a1819, ?_⟩
                    have n_a1819 : nI (hN S1717 a1819) = 900 := by rw [show hN S1717 a1819 = 900 from l_a1819]; decide
                    refine ⟨fun c1820 => ?_, fun c1820 => ?_⟩
                    · rw [n_a1819] at c1820
                      refine u_X4_next_201 ?_
                      refine ⟨o_v0, ?_⟩
                      intro x1821 ex1821
                      have q_x1821 : x1821 = x1818 := ex1821.trans d_x1818.symm
                      have d_x1821 := ex1821
                      intro x1822 ex1822
                      intro S1823 eS1823
                      have hI : IV S1823 := by rw [eS1823]; exact iv_sI hI o_v0 (by decide) (nu_free (by decide))
                      have f0 := fr_I eS1823 g0 f0 o_v0 (by decide)
                      have fL1719 := fr_I eS1823 gL1718 fL1719 o_v0 (by decide)
                      have d_y1575 := rd_Ij eS1823 (by decide) d_y1575
                      have d_x1787 := rd_Ij eS1823 (by decide) d_x1787
                      have d_x1822 := rd_Is eS1823 (rfl : x1822 = x1822)
                      have ea1819 := rf_I eS1823 ea1819
                      have hT := tx_I eS1823 hT
                      have l_a1819 := ln_I eS1823 l_a1819
                      have g0 := gr_I eS1823 g0
                      have gL1718 := gr_I eS1823 gL1718
                      have o_a1819 := ob_I eS1823 o_a1819
                      have o_v0 := ob_I eS1823 o_v0
                      intro x1824 ex1824
                      exact ih1730 _ _ _ _ _ _ ⟨hI, gL1718, fL1719, rfl, rfl, rfl, rfl, hT, (q482 i1u1 c10 p_x1568 c1572 q_x1573 hy1575 q_x1576 p_x1577 q_x1583 c1584 q_x1585 c1586 q_x1587 c1588 i1u1716 p_k1u1716 c1757 q_x1782 p_x1783 q_x1787 c1788 c1813 q_x1818 c1820 q_x1821 ex1822 ex1824), (by rw [← d_x1787, ← d_x1822]; exact (q483 i1u1 c10 p_x1568 c1572 q_x1573 hy1575 q_x1576 p_x1577 q_x1583 c1584 q_x1585 c1586 q_x1587 c1588 i1u1716 p_k1u1716 c1757 q_x1782 p_x1783 q_x1787 c1788 c1813 q_x1818 c1820 q_x1821 ex1822 ex1824))⟩ (mu_up (q484 i1u1 c10 p_x1568 c1572 q_x1573 hy1575 q_x1576 p_x1577 q_x1583 c1584 q_x1585 c1586 q_x1587 c1588 i1u1716 p_k1u1716 c1757 q_x1782 p_x1783 q_x1787 c1788 c1813 q_x1818 c1820 q_x1821 ex1822 ex1824) (q485 i1u1 c10 p_x1568 c1572 q_x1573 hy1575 q_x1576 p_x1577 q_x1583 c1584 q_x1585 c1586 q_x1587 c1588 i1u1716 p_k1u1716 c1757 q_x1782 p_x1783 q_x1787 c1788 c1813 q_x1818 c1820 q_x1821 ex1822 ex1824))
                    · rw [n_a1819] at c1820
                      intro x1825 ex1825
                      have dj_x1825 := ex1825
                      refine ⟨a1819, ea1819, ?_⟩
                      intro x1827 ex1827
                      have q_x1827 : x1827 = x1818 := ex1827.trans d_x1818.symm
                      have d_x1827 := ex1827
                      refine ⟨o_a1819, ?_⟩
                      refine ⟨(vin l_a1819 (m := 900) (by decide) (q486 i1u1 c10 p_x1568 c1572 q_x1573 hy1575 q_x1576 p_x1577 q_x1583 c1584 q_x1585 c1586 q_x1587 c1588 i1u1716 p_k1u1716 c1757 q_x1782 p_x1783 q_x1787 c1788 c1813 q_x1818 c1820 q_x1827)), ?_⟩
                      intro x1828 ex1828
                      intro x1829 ex1829
                      have q_x1829 : x1829 = x1787 := ex1829.trans d_x1787.symm
                      have d_x1829 := ex1829
                      refine ⟨fun c1830 => ?_, fun c1830 => ?_⟩
                      · refine u_X4_next_195 ?_
                        refine ⟨o_v0, ?_⟩
                        intro x1831 ex1831
                        intro S1832 eS1832
                        have hI : IV S1832 := by rw [eS1832]; exact iv_sJ hI o_v0 (by decide)
                        have f0 := fr_J eS1832 f0
                        have fL1719 := fr_J eS1832 fL1719
                        have d_y1575 := rd_J eS1832 d_y1575
                        have d_x1829 := rd_J eS1832 d_x1829
                        have d_x1827 := rd_J eS1832 d_x1827
                        have ea1819 := rf_J eS1832 ea1819
                        have hT := tx_J eS1832 hT
                        have l_a1819 := ln_J eS1832 l_a1819
                        have g0 := gr_J eS1832 g0
                        have gL1718 := gr_J eS1832 gL1718
                        have o_a1819 := ob_J eS1832 o_a1819
                        have o_v0 := ob_J eS1832 o_v0
                        refine u_X4_next_201 ?_
                        refine ⟨o_v0, ?_⟩
                        intro x1833 ex1833
                        have q_x1833 : x1833 = x1827 := ex1833.trans d_x1827.symm
                        have d_x1833 := ex1833
                        intro x1834 ex1834
                        intro S1835 eS1835
                        have hI : IV S1835 := by rw [eS1835]; exact iv_sI hI o_v0 (by decide) (nu_free (by decide))
                        have f0 := fr_I eS1835 g0 f0 o_v0 (by decide)
                        have fL1719 := fr_I eS1835 gL1718 fL1719 o_v0 (by decide)
                        have d_y1575 := rd_Ij eS1835 (by decide) d_y1575
                        have d_x1829 := rd_Ij eS1835 (by decide) d_x1829
                        have d_x1834 := rd_Is eS1835 (rfl : x1834 = x1834)
                        have ea1819 := rf_I eS1835 ea1819
                        have hT := tx_I eS1835 hT
                        have l_a1819 := ln_I eS1835 l_a1819
                        have g0 := gr_I eS1835 g0
                        have gL1718 := gr_I eS1835 gL1718
                        have o_a1819 := ob_I eS1835 o_a1819
                        have o_v0 := ob_I eS1835 o_v0
                        intro x1836 ex1836
                        exact ih1730 _ _ _ _ _ _ ⟨hI, gL1718, fL1719, rfl, rfl, rfl, rfl, hT, (q487 i1u1 c10 p_x1568 c1572 q_x1573 hy1575 q_x1576 p_x1577 q_x1583 c1584 q_x1585 c1586 q_x1587 c1588 i1u1716 p_k1u1716 c1757 q_x1782 p_x1783 q_x1787 c1788 c1813 q_x1818 c1820 q_x1827 q_x1829 c1830 q_x1833 ex1834 ex1836), (by rw [← d_x1829, ← d_x1834]; exact (q488 i1u1 c10 p_x1568 c1572 q_x1573 hy1575 q_x1576 p_x1577 q_x1583 c1584 q_x1585 c1586 q_x1587 c1588 i1u1716 p_k1u1716 c1757 q_x1782 p_x1783 q_x1787 c1788 c1813 q_x1818 c1820 q_x1827 q_x1829 c1830 q_x1833 ex1834 ex1836))⟩ (mu_up (q489 i1u1 c10 p_x1568 c1572 q_x1573 hy1575 q_x1576 p_x1577 q_x1583 c1584 q_x1585 c1586 q_x1587 c1588 i1u1716 p_k1u1716 c1757 q_x1782 p_x1783 q_x1787 c1788 c1813 q_x1818 c1820 q_x1827 q_x1829 c1830 q_x1833 ex1834 ex1836) (q490 i1u1 c10 p_x1568 c1572 q_x1573 hy1575 q_x1576 p_x1577 q_x1583 c1584 q_x1585 c1586 q_x1587 c1588 i1u1716 p_k1u1716 c1757 q_x1782 p_x1783 q_x1787 c1788 c1813 q_x1818 c1820 q_x1827 q_x1829 c1830 q_x1833 ex1834 ex1836))
                      · refine u_X4_next_195 ?_
                        refine ⟨o_v0, ?_⟩
                        intro x1837 ex1837
                        intro S1838 eS1838
                        have hI : IV S1838 := by rw [eS1838]; exact iv_sJ hI o_v0 (by decide)
                        have f0 := fr_J eS1838 f0
                        have fL1719 := fr_J eS1838 fL1719
                        have d_y1575 := rd_J eS1838 d_y1575
                        have d_x1829 := rd_J eS1838 d_x1829
                        have d_x1827 := rd_J eS1838 d_x1827
                        have ea1819 := rf_J eS1838 ea1819
                        have hT := tx_J eS1838 hT
                        have l_a1819 := ln_J eS1838 l_a1819
                        have g0 := gr_J eS1838 g0
                        have gL1718 := gr_J eS1838 gL1718
                        have o_a1819 := ob_J eS1838 o_a1819
                        have o_v0 := ob_J eS1838 o_v0
                        refine u_X4_next_201 ?_
                        refine ⟨o_v0, ?_⟩
                        intro x1839 ex1839
                        have q_x1839 : x1839 = x1827 := ex1839.trans d_x1827.symm
                        have d_x1839 := ex1839
                        intro x1840 ex1840
                        intro S1841 eS1841
                        have hI : IV S1841 := by rw [eS1841]; exact iv_sI hI o_v0 (by decide) (nu_free (by decide))
                        have f0 := fr_I eS1841 g0 f0 o_v0 (by decide)
                        have fL1719 := fr_I eS1841 gL1718 fL1719 o_v0 (by decide)
                        have d_y1575 := rd_Ij eS1841 (by decide) d_y1575
                        have d_x1829 := rd_Ij eS1841 (by decide) d_x1829
                        have d_x1840 := rd_Is eS1841 (rfl : x1840 = x1840)
                        have ea1819 := rf_I eS1841 ea1819
                        have hT := tx_I eS1841 hT
                        have l_a1819 := ln_I eS1841 l_a1819
                        have g0 := gr_I eS1841 g0
                        have gL1718 := gr_I eS1841 gL1718
                        have o_a1819 := ob_I eS1841 o_a1819
                        have o_v0 := ob_I eS1841 o_v0
                        intro x1842 ex1842
                        exact ih1730 _ _ _ _ _ _ ⟨hI, gL1718, fL1719, rfl, rfl, rfl, rfl, hT, (q491 i1u1 c10 p_x1568 c1572 q_x1573 hy1575 q_x1576 p_x1577 q_x1583 c1584 q_x1585 c1586 q_x1587 c1588 i1u1716 p_k1u1716 c1757 q_x1782 p_x1783 q_x1787 c1788 c1813 q_x1818 c1820 q_x1827 q_x1829 c1830 q_x1839 ex1840 ex1842), (by rw [← d_x1829, ← d_x1840]; exact (q492 i1u1 c10 p_x1568 c1572 q_x1573 hy1575 q_x1576 p_x1577 q_x1583 c1584 q_x1585 c1586 q_x1587 c1588 i1u1716 p_k1u1716 c1757 q_x1782 p_x1783 q_x1787 c1788 c1813 q_x1818 c1820 q_x1827 q_x1829 c1830 q_x1839 ex1840 ex1842))⟩ (mu_up (q493 i1u1 c10 p_x1568 c1572 q_x1573 hy1575 q_x1576 p_x1577 q_x1583 c1584 q_x1585 c1586 q_x1587 c1588 i1u1716 p_k1u1716 c1757 q_x1782 p_x1783 q_x1787 c1788 c1813 q_x1818 c1820 q_x1827 q_x1829 c1830 q_x1839 ex1840 ex1842) (q494 i1u1 c10 p_x1568 c1572 q_x1573 hy1575 q_x1576 p_x1577 q_x1583 c1584 q_x1585 c1586 q_x1587 c1588 i1u1716 p_k1u1716 c1757 q_x1782 p_x1783 q_x1787 c1788 c1813 q_x1818 c1820 q_x1827 q_x1829 c1830 q_x1839 ex1840 ex1842))
        · refine u_X4_next_98 ?_
          refine ⟨o_v0, ?_⟩
          intro x1843 ex1843
          have q_x1843 : x1843 = x1585 := ex1843.trans d_x1585.symm
          have d_x1843 := ex1843
          refine ⟨fun c1844 => ?_, fun c1844 => ?_⟩
          · refine u_X4_next_114 ?_
            refine i_X4_next_118 (fun (y0 : Nat) (y1 : Int32) (y2 : Int32) (y3 : Int32) (y4 : Int32) (Z : HS) => ((2147483647 : Int32).toInt - y4.toInt).toNat) (fun (y0 : Nat) (y1 : Int32) (y2 : Int32) (y3 : Int32) (y4 : Int32) (Z : HS) => (IV Z) ∧ (Gr S1582 Z) ∧ (FRI [(4, 4)] [] S1582 Z) ∧ (v0 = y0) ∧ ((1 : Int32) = y1) ∧ ((8 : Int32) = y2) ∧ ((10 : Int32) = y3) ∧ (TX Z v0) ∧ (0 ≤ y4) ∧ ((y1 = 0 ∨ fI Z v0 6 = 1 ∨ fI Z v0 6 = 2) ∧ (y1 = 0 → fI Z v0 6 = 0 ∨ (0 ≤ fI Z v0 4 ∧ fI Z v0 4 < 900)))) ?_ _ _ _ _ _ _ ⟨hI, (gr_rf _), (fri_rf _ _ _), rfl, rfl, rfl, rfl, hT, (q495 i1u1 c10 p_x1568 c1572 q_x1573 hy1575 q_x1576 p_x1577 q_x1583 c1584 q_x1585 c1586 q_x1843 c1844), (by rw [← d_x1843, ← d_x1576]; exact (q496 i1u1 c10 p_x1568 c1572 q_x1573 hy1575 q_x1576 p_x1577 q_x1583 c1584 q_x1585 c1586 q_x1843 c1844))⟩
            intro w1849 w1851 w1853 w1855 w1857 S1846 X1858 ⟨hI, gL1847, fL1848, q1850, q1852, q1854, q1856, hT, i1u1845, k1u1845⟩ ih1859
            subst q1850
            subst q1852
            subst q1854
            subst q1856
            have d_y1575 := d_y1575.trans (fri_at fL1848 (by decide) (by decide) o_v0).symm
            have d_x1843 := d_x1843.trans (fri_at fL1848 (by decide) (by decide) o_v0).symm
            have f0 := fri_tr (S := S1582) g0 f0 fL1848 (by decide) (by decide)
            have o_v0 := gr_ob gL1847 o_v0
            have g0 := gr_tr (T := S1582) g0 gL1847
            obtain ⟨y1860, d_y1860⟩ : ∃ z : Int32, z = fI S1846 v0 4 := ⟨_, rfl⟩
            have p_k1u1845 : ((1 : Int32) = 0 ∨ x1843 = 1 ∨ x1843 = 2) ∧ ((1 : Int32) = 0 → x1843 = 0 ∨ (0 ≤ y1860 ∧ y1860 < 900)) := by rw [d_x1843, d_y1860]; exact k1u1845
            refine u_X4_next_118 ?_
            refine ⟨fun c1861 => ?_, fun c1861 => ?_⟩
            · refine u_X4_next_217 ?_
              refine ⟨fun c1862 => ?_, fun c1862 => ?_⟩
              · refine u_X4_next_240 ?_
                refine ⟨fun c1863 => ?_, fun c1863 => ?_⟩
                · exact hq _ hI g0 f0 hT
                · refine ⟨o_v0, ?_⟩
                  intro x1864 ex1864
                  have q_x1864 : x1864 = x1843 := ex1864.trans d_x1843.symm
                  have d_x1864 := ex1864
                  refine ⟨fun c1865 => ?_, fun c1865 => ?_⟩
                  · exact hq _ hI g0 f0 hT
                  · intro x1866 ex1866
                    have q_x1866 : x1866 = y1860 := ex1866.trans d_y1860.symm
                    have d_x1866 := ex1866
                    intro x1867 ex1867
                    intro S1868 eS1868
                    have hI : IV S1868 := by rw [eS1868]; exact iv_sI hI o_v0 (by decide) (nu_free (by decide))
                    have f0 := fr_I eS1868 g0 f0 o_v0 (by decide)
                    have d_y1575 := rd_Ij eS1868 (by decide) d_y1575
                    have d_x1864 := rd_Ij eS1868 (by decide) d_x1864
                    have d_x1867 := rd_Is eS1868 (rfl : x1867 = x1867)
                    have hT := tx_I eS1868 hT
                    have g0 := gr_I eS1868 g0
                    have o_v0 := ob_I eS1868 o_v0
                    exact hq _ hI g0 f0 hT
              · refine ⟨o_v0, ?_⟩
                intro x1869 ex1869
                have q_x1869 : x1869 = y1860 := ex1869.trans d_y1860.symm
                have d_x1869 := ex1869
                intro x1870 ex1870
                have q_x1870 : x1870 = y1575 := ex1870.trans d_y1575.symm
                have d_x1870 := ex1870
                refine ⟨fun c1871 => ?_, fun c1871 => ?_⟩
                · refine u_X4_next_240 ?_
                  refine ⟨fun c1872 => ?_, fun c1872 => ?_⟩
                  · exact hq _ hI g0 f0 hT
                  · refine ⟨o_v0, ?_⟩
                    intro x1873 ex1873
                    have q_x1873 : x1873 = x1843 := ex1873.trans d_x1843.symm
                    have d_x1873 := ex1873
                    refine ⟨fun c1874 => ?_, fun c1874 => ?_⟩
                    · exact hq _ hI g0 f0 hT
                    · intro x1875 ex1875
                      have q_x1875 : x1875 = x1869 := ex1875.trans d_x1869.symm
                      have d_x1875 := ex1875
                      intro x1876 ex1876
                      intro S1877 eS1877
                      have hI : IV S1877 := by rw [eS1877]; exact iv_sI hI o_v0 (by decide) (nu_free (by decide))
                      have f0 := fr_I eS1877 g0 f0 o_v0 (by decide)
                      have d_x1870 := rd_Ij eS1877 (by decide) d_x1870
                      have d_x1873 := rd_Ij eS1877 (by decide) d_x1873
                      have d_x1876 := rd_Is eS1877 (rfl : x1876 = x1876)
                      have hT := tx_I eS1877 hT
                      have g0 := gr_I eS1877 g0
                      have o_v0 := ob_I eS1877 o_v0
                      exact hq _ hI g0 f0 hT
                · intro S1878 eS1878
                  have hI : IV S1878 := by rw [eS1878]; exact iv_sI hI o_v0 (by decide) (nu_free (by decide))
                  have f0 := fr_I eS1878 g0 f0 o_v0 (by decide)
                  have d_x1870 := rd_Ij eS1878 (by decide) d_x1870
                  have d_x1869 := rd_Ij eS1878 (by decide) d_x1869
                  obtain ⟨y1879, hy1879⟩ : ∃ z : Int32, z = (6 : Int32) := ⟨_, rfl⟩
                  have d_y1879 := rd_Is eS1878 hy1879
                  have hT := tx_I eS1878 hT
                  have g0 := gr_I eS1878 g0
                  have o_v0 := ob_I eS1878 o_v0
                  refine u_X4_next_240 ?_
                  refine ⟨fun c1880 => ?_, fun c1880 => ?_⟩
                  · exact hq _ hI g0 f0 hT
                  · refine ⟨o_v0, ?_⟩
                    intro x1881 ex1881
                    have q_x1881 : x1881 = y1879 := ex1881.trans d_y1879.symm
                    have d_x1881 := ex1881
                    refine ⟨fun c1882 => ?_, fun c1882 => ?_⟩
                    · exact hq _ hI g0 f0 hT
                    · intro x1883 ex1883
                      have q_x1883 : x1883 = x1869 := ex1883.trans d_x1869.symm
                      have d_x1883 := ex1883
                      intro x1884 ex1884
                      intro S1885 eS1885
                      have hI : IV S1885 := by rw [eS1885]; exact iv_sI hI o_v0 (by decide) (nu_free (by decide))
                      have f0 := fr_I eS1885 g0 f0 o_v0 (by decide)
                      have d_x1870 := rd_Ij eS1885 (by decide) d_x1870
                      have d_x1881 := rd_Ij eS1885 (by decide) d_x1881
                      have d_x1884 := rd_Is eS1885 (rfl : x1884 = x1884)
                      have hT := tx_I eS1885 hT
                      have g0 := gr_I eS1885 g0
                      have o_v0 := ob_I eS1885 o_v0
                      exact hq _ hI g0 f0 hT
            · refine ⟨fun c1886 => ?_, fun c1886 => ?_⟩
              · refine u_X4_next_217 ?_
                refine ⟨fun c1887 => ?_, fun c1887 => ?_⟩
                · refine u_X4_next_240 ?_
                  refine ⟨fun c1888 => ?_, fun c1888 => ?_⟩
                  · exact hq _ hI g0 f0 hT
                  · refine ⟨o_v0, ?_⟩
                    intro x1889 ex1889
                    have q_x1889 : x1889 = x1843 := ex1889.trans d_x1843.symm
                    have d_x1889 := ex1889
                    refine ⟨fun c1890 => ?_, fun c1890 => ?_⟩
                    · exact hq _ hI g0 f0 hT
                    · intro x1891 ex1891
                      have q_x1891 : x1891 = y1860 := ex1891.trans d_y1860.symm
                      have d_x1891 := ex1891
                      intro x1892 ex1892
                      intro S1893 eS1893
                      have hI : IV S1893 := by rw [eS1893]; exact iv_sI hI o_v0 (by decide) (nu_free (by decide))
                      have f0 := fr_I eS1893 g0 f0 o_v0 (by decide)
                      have d_y1575 := rd_Ij eS1893 (by decide) d_y1575
                      have d_x1889 := rd_Ij eS1893 (by decide) d_x1889
                      have d_x1892 := rd_Is eS1893 (rfl : x1892 = x1892)
                      have hT := tx_I eS1893 hT
                      have g0 := gr_I eS1893 g0
                      have o_v0 := ob_I eS1893 o_v0
                      exact hq _ hI g0 f0 hT
                · refine ⟨o_v0, ?_⟩
                  intro x1894 ex1894
                  have q_x1894 : x1894 = y1860 := ex1894.trans d_y1860.symm
                  have d_x1894 := ex1894
                  intro x1895 ex1895
                  have q_x1895 : x1895 = y1575 := ex1895.trans d_y1575.symm
                  have d_x1895 := ex1895
                  refine ⟨fun c1896 => ?_, fun c1896 => ?_⟩
                  · refine u_X4_next_240 ?_
                    refine ⟨fun c1897 => ?_, fun c1897 => ?_⟩
                    · exact hq _ hI g0 f0 hT
                    · refine ⟨o_v0, ?_⟩
                      intro x1898 ex1898
                      have q_x1898 : x1898 = x1843 := ex1898.trans d_x1843.symm
                      have d_x1898 := ex1898
                      refine ⟨fun c1899 => ?_, fun c1899 => ?_⟩
                      · exact hq _ hI g0 f0 hT
                      · intro x1900 ex1900
                        have q_x1900 : x1900 = x1894 := ex1900.trans d_x1894.symm
                        have d_x1900 := ex1900
                        intro x1901 ex1901
                        intro S1902 eS1902
                        have hI : IV S1902 := by rw [eS1902]; exact iv_sI hI o_v0 (by decide) (nu_free (by decide))
                        have f0 := fr_I eS1902 g0 f0 o_v0 (by decide)
                        have d_x1895 := rd_Ij eS1902 (by decide) d_x1895
                        have d_x1898 := rd_Ij eS1902 (by decide) d_x1898
                        have d_x1901 := rd_Is eS1902 (rfl : x1901 = x1901)
                        have hT := tx_I eS1902 hT
                        have g0 := gr_I eS1902 g0
                        have o_v0 := ob_I eS1902 o_v0
                        exact hq _ hI g0 f0 hT
                  · intro S1903 eS1903
                    have hI : IV S1903 := by rw [eS1903]; exact iv_sI hI o_v0 (by decide) (nu_free (by decide))
                    have f0 := fr_I eS1903 g0 f0 o_v0 (by decide)
                    have d_x1895 := rd_Ij eS1903 (by decide) d_x1895
                    have d_x1894 := rd_Ij eS1903 (by decide) d_x1894
                    obtain ⟨y1904, hy1904⟩ : ∃ z : Int32, z = (6 : Int32) := ⟨_, rfl⟩
                    have d_y1904 := rd_Is eS1903 hy1904
                    have hT := tx_I eS1903 hT
                    have g0 := gr_I eS1903 g0
                    have o_v0 := ob_I eS1903 o_v0
                    refine u_X4_next_240 ?_
                    refine ⟨fun c1905 => ?_, fun c1905 => ?_⟩
                    · exact hq _ hI g0 f0 hT
                    · refine ⟨o_v0, ?_⟩
                      intro x1906 ex1906
                      have q_x1906 : x1906 = y1904 := ex1906.trans d_y1904.symm
                      have d_x1906 := ex1906
                      refine ⟨fun c1907 => ?_, fun c1907 => ?_⟩
                      · exact hq _ hI g0 f0 hT
                      · intro x1908 ex1908
                        have q_x1908 : x1908 = x1894 := ex1908.trans d_x1894.symm
                        have d_x1908 := ex1908
                        intro x1909 ex1909
                        intro S1910 eS1910
                        have hI : IV S1910 := by rw [eS1910]; exact iv_sI hI o_v0 (by decide) (nu_free (by decide))
                        have f0 := fr_I eS1910 g0 f0 o_v0 (by decide)
                        have d_x1895 := rd_Ij eS1910 (by decide) d_x1895
                        have d_x1906 := rd_Ij eS1910 (by decide) d_x1906
                        have d_x1909 := rd_Is eS1910 (rfl : x1909 = x1909)
                        have hT := tx_I eS1910 hT
                        have g0 := gr_I eS1910 g0
                        have o_v0 := ob_I eS1910 o_v0
                        exact hq _ hI g0 f0 hT
              · refine ⟨o_v0, ?_⟩
                intro x1911 ex1911
                have q_x1911 : x1911 = y1860 := ex1911.trans d_y1860.symm
                have d_x1911 := ex1911
                refine m_X4_sortAt hI o_v0 hT (fun x1912 S1913 hI2 g1914 p_x1912 => ?_)
                obtain ⟨z_S1913, p_x1912⟩ := p_x1912
                subst z_S1913
                intro _
                intro x1916 ex1916
                have q_x1916 : x1916 = x1843 := ex1916.trans d_x1843.symm
                have d_x1916 := ex1916
                refine ⟨fun c1917 => ?_, fun c1917 => ?_⟩
                · refine u_X4_next_217 ?_
                  refine ⟨fun c1918 => ?_, fun c1918 => ?_⟩
                  · refine u_X4_next_240 ?_
                    refine ⟨fun c1919 => ?_, fun c1919 => ?_⟩
                    · exact hq _ hI g0 f0 hT
                    · refine ⟨o_v0, ?_⟩
                      intro x1920 ex1920
                      have q_x1920 : x1920 = x1916 := ex1920.trans d_x1916.symm
                      have d_x1920 := ex1920
                      refine ⟨fun c1921 => ?_, fun c1921 => ?_⟩
                      · exact hq _ hI g0 f0 hT
                      · intro x1922 ex1922
                        have q_x1922 : x1922 = x1911 := ex1922.trans d_x1911.symm
                        have d_x1922 := ex1922
                        intro x1923 ex1923
                        intro S1924 eS1924
                        have hI : IV S1924 := by rw [eS1924]; exact iv_sI hI o_v0 (by decide) (nu_free (by decide))
                        have f0 := fr_I eS1924 g0 f0 o_v0 (by decide)
                        have d_y1575 := rd_Ij eS1924 (by decide) d_y1575
                        have d_x1920 := rd_Ij eS1924 (by decide) d_x1920
                        have d_x1923 := rd_Is eS1924 (rfl : x1923 = x1923)
                        have hT := tx_I eS1924 hT
                        have g0 := gr_I eS1924 g0
                        have o_v0 := ob_I eS1924 o_v0
                        exact hq _ hI g0 f0 hT
                  · refine ⟨o_v0, ?_⟩
                    intro x1925 ex1925
                    have q_x1925 : x1925 = x1911 := ex1925.trans d_x1911.symm
                    have d_x1925 := ex1925
                    intro x1926 ex1926
                    have q_x1926 : x1926 = y1575 := ex1926.trans d_y1575.symm
                    have d_x1926 := ex1926
                    refine ⟨fun c1927 => ?_, fun c1927 => ?_⟩
                    · refine u_X4_next_240 ?_
                      refine ⟨fun c1928 => ?_, fun c1928 => ?_⟩
                      · exact hq _ hI g0 f0 hT
                      · refine ⟨o_v0, ?_⟩
                        intro x1929 ex1929
                        have q_x1929 : x1929 = x1916 := ex1929.trans d_x1916.symm
                        have d_x1929 := ex1929
                        refine ⟨fun c1930 => ?_, fun c1930 => ?_⟩
                        · exact hq _ hI g0 f0 hT
                        · intro x1931 ex1931
                          have q_x1931 : x1931 = x1925 := ex1931.trans d_x1925.symm
                          have d_x1931 := ex1931
                          intro x1932 ex1932
                          intro S1933 eS1933
                          have hI : IV S1933 := by rw [eS1933]; exact iv_sI hI o_v0 (by decide) (nu_free (by decide))
                          have f0 := fr_I eS1933 g0 f0 o_v0 (by decide)
                          have d_x1926 := rd_Ij eS1933 (by decide) d_x1926
                          have d_x1929 := rd_Ij eS1933 (by decide) d_x1929
                          have d_x1932 := rd_Is eS1933 (rfl : x1932 = x1932)
                          have hT := tx_I eS1933 hT
                          have g0 := gr_I eS1933 g0
                          have o_v0 := ob_I eS1933 o_v0
                          exact hq _ hI g0 f0 hT
                    · intro S1934 eS1934
                      have hI : IV S1934 := by rw [eS1934]; exact iv_sI hI o_v0 (by decide) (nu_free (by decide))
                      have f0 := fr_I eS1934 g0 f0 o_v0 (by decide)
                      have d_x1926 := rd_Ij eS1934 (by decide) d_x1926
                      have d_x1925 := rd_Ij eS1934 (by decide) d_x1925
                      obtain ⟨y1935, hy1935⟩ : ∃ z : Int32, z = (6 : Int32) := ⟨_, rfl⟩
                      have d_y1935 := rd_Is eS1934 hy1935
                      have hT := tx_I eS1934 hT
                      have g0 := gr_I eS1934 g0
                      have o_v0 := ob_I eS1934 o_v0
                      refine u_X4_next_240 ?_
                      refine ⟨fun c1936 => ?_, fun c1936 => ?_⟩
                      · exact hq _ hI g0 f0 hT
                      · refine ⟨o_v0, ?_⟩
                        intro x1937 ex1937
                        have q_x1937 : x1937 = y1935 := ex1937.trans d_y1935.symm
                        have d_x1937 := ex1937
                        refine ⟨fun c1938 => ?_, fun c1938 => ?_⟩
                        · exact hq _ hI g0 f0 hT
                        · intro x1939 ex1939
                          have q_x1939 : x1939 = x1925 := ex1939.trans d_x1925.symm
                          have d_x1939 := ex1939
                          intro x1940 ex1940
                          intro S1941 eS1941
                          have hI : IV S1941 := by rw [eS1941]; exact iv_sI hI o_v0 (by decide) (nu_free (by decide))
                          have f0 := fr_I eS1941 g0 f0 o_v0 (by decide)
                          have d_x1926 := rd_Ij eS1941 (by decide) d_x1926
                          have d_x1937 := rd_Ij eS1941 (by decide) d_x1937
                          have d_x1940 := rd_Is eS1941 (rfl : x1940 = x1940)
                          have hT := tx_I eS1941 hT
                          have g0 := gr_I eS1941 g0
                          have o_v0 := ob_I eS1941 o_v0
                          exact hq _ hI g0 f0 hT
                · refine ⟨fun c1942 => ?_, fun c1942 => ?_⟩
                  · refine u_X4_next_201 ?_
                    refine ⟨o_v0, ?_⟩
                    intro x1943 ex1943
                    have q_x1943 : x1943 = x1911 := ex1943.trans d_x1911.symm
                    have d_x1943 := ex1943
                    intro x1944 ex1944
                    intro S1945 eS1945
                    have hI : IV S1945 := by rw [eS1945]; exact iv_sI hI o_v0 (by decide) (nu_free (by decide))
                    have f0 := fr_I eS1945 g0 f0 o_v0 (by decide)
                    have fL1848 := fr_I eS1945 gL1847 fL1848 o_v0 (by decide)
                    have d_y1575 := rd_Ij eS1945 (by decide) d_y1575
                    have d_x1916 := rd_Ij eS1945 (by decide) d_x1916
                    have d_x1944 := rd_Is eS1945 (rfl : x1944 = x1944)
                    have hT := tx_I eS1945 hT
                    have g0 := gr_I eS1945 g0
                    have gL1847 := gr_I eS1945 gL1847
                    have o_v0 := ob_I eS1945 o_v0
                    intro x1946 ex1946
                    exact ih1859 _ _ _ _ _ _ ⟨hI, gL1847, fL1848, rfl, rfl, rfl, rfl, hT, (q497 i1u1 c10 p_x1568 c1572 q_x1573 hy1575 q_x1576 p_x1577 q_x1583 c1584 q_x1585 c1586 q_x1843 c1844 i1u1845 p_k1u1845 c1886 q_x1911 p_x1912 q_x1916 c1917 c1942 q_x1943 ex1944 ex1946), (by rw [← d_x1916, ← d_x1944]; exact (q498 i1u1 c10 p_x1568 c1572 q_x1573 hy1575 q_x1576 p_x1577 q_x1583 c1584 q_x1585 c1586 q_x1843 c1844 i1u1845 p_k1u1845 c1886 q_x1911 p_x1912 q_x1916 c1917 c1942 q_x1943 ex1944 ex1946))⟩ (mu_up (q499 i1u1 c10 p_x1568 c1572 q_x1573 hy1575 q_x1576 p_x1577 q_x1583 c1584 q_x1585 c1586 q_x1843 c1844 i1u1845 p_k1u1845 c1886 q_x1911 p_x1912 q_x1916 c1917 c1942 q_x1943 ex1944 ex1946) (q500 i1u1 c10 p_x1568 c1572 q_x1573 hy1575 q_x1576 p_x1577 q_x1583 c1584 q_x1585 c1586 q_x1843 c1844 i1u1845 p_k1u1845 c1886 q_x1911 p_x1912 q_x1916 c1917 c1942 q_x1943 ex1944 ex1946))
                  · intro x1947 ex1947
                    have q_x1947 : x1947 = x1911 := ex1947.trans d_x1911.symm
                    have d_x1947 := ex1947
                    obtain ⟨a1948, ea1948, o_a1948, l_a1948⟩ := id hT
                    refine ⟨a1948, ea1948, ?_⟩
                    refine ⟨o_a1948, ?_⟩
                    have n_a1948 : nI (hN S1846 a1948) = 900 := by rw [show hN S1846 a1948 = 900 from l_a1948]; decide
                    refine ⟨fun c1949 => ?_, fun c1949 => ?_⟩
                    · rw [n_a1948] at c1949
                      refine u_X4_next_201 ?_
                      refine ⟨o_v0, ?_⟩
                      intro x1950 ex1950
                      have q_x1950 : x1950 = x1947 := ex1950.trans d_x1947.symm
                      have d_x1950 := ex1950
                      intro x1951 ex1951
                      intro S1952 eS1952
                      have hI : IV S1952 := by rw [eS1952]; exact iv_sI hI o_v0 (by decide) (nu_free (by decide))
                      have f0 := fr_I eS1952 g0 f0 o_v0 (by decide)
                      have fL1848 := fr_I eS1952 gL1847 fL1848 o_v0 (by decide)
                      have d_y1575 := rd_Ij eS1952 (by decide) d_y1575
                      have d_x1916 := rd_Ij eS1952 (by decide) d_x1916
                      have d_x1951 := rd_Is eS1952 (rfl : x1951 = x1951)
                      have ea1948 := rf_I eS1952 ea1948
                      have hT := tx_I eS1952 hT
                      have l_a1948 := ln_I eS1952 l_a1948
                      have g0 := gr_I eS1952 g0
                      have gL1847 := gr_I eS1952 gL1847
                      have o_a1948 := ob_I eS1952 o_a1948
                      have o_v0 := ob_I eS1952 o_v0
                      intro x1953 ex1953
                      exact ih1859 _ _ _ _ _ _ ⟨hI, gL1847, fL1848, rfl, rfl, rfl, rfl, hT, (q501 i1u1 c10 p_x1568 c1572 q_x1573 hy1575 q_x1576 p_x1577 q_x1583 c1584 q_x1585 c1586 q_x1843 c1844 i1u1845 p_k1u1845 c1886 q_x1911 p_x1912 q_x1916 c1917 c1942 q_x1947 c1949 q_x1950 ex1951 ex1953), (by rw [← d_x1916, ← d_x1951]; exact (q502 i1u1 c10 p_x1568 c1572 q_x1573 hy1575 q_x1576 p_x1577 q_x1583 c1584 q_x1585 c1586 q_x1843 c1844 i1u1845 p_k1u1845 c1886 q_x1911 p_x1912 q_x1916 c1917 c1942 q_x1947 c1949 q_x1950 ex1951 ex1953))⟩ (mu_up (q503 i1u1 c10 p_x1568 c1572 q_x1573 hy1575 q_x1576 p_x1577 q_x1583 c1584 q_x1585 c1586 q_x1843 c1844 i1u1845 p_k1u1845 c1886 q_x1911 p_x1912 q_x1916 c1917 c1942 q_x1947 c1949 q_x1950 ex1951 ex1953) (q504 i1u1 c10 p_x1568 c1572 q_x1573 hy1575 q_x1576 p_x1577 q_x1583 c1584 q_x1585 c1586 q_x1843 c1844 i1u1845 p_k1u1845 c1886 q_x1911 p_x1912 q_x1916 c1917 c1942 q_x1947 c1949 q_x1950 ex1951 ex1953))
                    · rw [n_a1948] at c1949
                      intro x1954 ex1954
                      have dj_x1954 := ex1954
                      refine ⟨a1948, ea1948, ?_⟩
                      intro x1956 ex1956
                      have q_x1956 : x1956 = x1947 := ex1956.trans d_x1947.symm
                      have d_x1956 := ex1956
                      refine ⟨o_a1948, ?_⟩
                      refine ⟨(vin l_a1948 (m := 900) (by decide) (q505 i1u1 c10 p_x1568 c1572 q_x1573 hy1575 q_x1576 p_x1577 q_x1583 c1584 q_x1585 c1586 q_x1843 c1844 i1u1845 p_k1u1845 c1886 q_x1911 p_x1912 q_x1916 c1917 c1942 q_x1947 c1949 q_x1956)), ?_⟩
                      intro x1957 ex1957
                      intro x1958 ex1958
                      have q_x1958 : x1958 = x1916 := ex1958.trans d_x1916.symm
                      have d_x1958 := ex1958
                      refine ⟨fun c1959 => ?_, fun c1959 => ?_⟩
                      · refine u_X4_next_195 ?_
                        refine ⟨o_v0, ?_⟩
                        intro x1960 ex1960
                        intro S1961 eS1961
                        have hI : IV S1961 := by rw [eS1961]; exact iv_sJ hI o_v0 (by decide)
                        have f0 := fr_J eS1961 f0
                        have fL1848 := fr_J eS1961 fL1848
                        have d_y1575 := rd_J eS1961 d_y1575
                        have d_x1958 := rd_J eS1961 d_x1958
                        have d_x1956 := rd_J eS1961 d_x1956
                        have ea1948 := rf_J eS1961 ea1948
                        have hT := tx_J eS1961 hT
                        have l_a1948 := ln_J eS1961 l_a1948
                        have g0 := gr_J eS1961 g0
                        have gL1847 := gr_J eS1961 gL1847
                        have o_a1948 := ob_J eS1961 o_a1948
                        have o_v0 := ob_J eS1961 o_v0
                        refine u_X4_next_201 ?_
                        refine ⟨o_v0, ?_⟩
                        intro x1962 ex1962
                        have q_x1962 : x1962 = x1956 := ex1962.trans d_x1956.symm
                        have d_x1962 := ex1962
                        intro x1963 ex1963
                        intro S1964 eS1964
                        have hI : IV S1964 := by rw [eS1964]; exact iv_sI hI o_v0 (by decide) (nu_free (by decide))
                        have f0 := fr_I eS1964 g0 f0 o_v0 (by decide)
                        have fL1848 := fr_I eS1964 gL1847 fL1848 o_v0 (by decide)
                        have d_y1575 := rd_Ij eS1964 (by decide) d_y1575
                        have d_x1958 := rd_Ij eS1964 (by decide) d_x1958
                        have d_x1963 := rd_Is eS1964 (rfl : x1963 = x1963)
                        have ea1948 := rf_I eS1964 ea1948
                        have hT := tx_I eS1964 hT
                        have l_a1948 := ln_I eS1964 l_a1948
                        have g0 := gr_I eS1964 g0
                        have gL1847 := gr_I eS1964 gL1847
                        have o_a1948 := ob_I eS1964 o_a1948
                        have o_v0 := ob_I eS1964 o_v0
                        intro x1965 ex1965
                        exact ih1859 _ _ _ _ _ _ ⟨hI, gL1847, fL1848, rfl, rfl, rfl, rfl, hT, (q506 i1u1 c10 p_x1568 c1572 q_x1573 hy1575 q_x1576 p_x1577 q_x1583 c1584 q_x1585 c1586 q_x1843 c1844 i1u1845 p_k1u1845 c1886 q_x1911 p_x1912 q_x1916 c1917 c1942 q_x1947 c1949 q_x1956 q_x1958 c1959 q_x1962 ex1963 ex1965), (by rw [← d_x1958, ← d_x1963]; exact (q507 i1u1 c10 p_x1568 c1572 q_x1573 hy1575 q_x1576 p_x1577 q_x1583 c1584 q_x1585 c1586 q_x1843 c1844 i1u1845 p_k1u1845 c1886 q_x1911 p_x1912 q_x1916 c1917 c1942 q_x1947 c1949 q_x1956 q_x1958 c1959 q_x1962 ex1963 ex1965))⟩ (mu_up (q508 i1u1 c10 p_x1568 c1572 q_x1573 hy1575 q_x1576 p_x1577 q_x1583 c1584 q_x1585 c1586 q_x1843 c1844 i1u1845 p_k1u1845 c1886 q_x1911 p_x1912 q_x1916 c1917 c1942 q_x1947 c1949 q_x1956 q_x1958 c1959 q_x1962 ex1963 ex1965) (q509 i1u1 c10 p_x1568 c1572 q_x1573 hy1575 q_x1576 p_x1577 q_x1583 c1584 q_x1585 c1586 q_x1843 c1844 i1u1845 p_k1u1845 c1886 q_x1911 p_x1912 q_x1916 c1917 c1942 q_x1947 c1949 q_x1956 q_x1958 c1959 q_x1962 ex1963 ex1965))
                      · refine u_X4_next_195 ?_
                        refine ⟨o_v0, ?_⟩
                        intro x1966 ex1966
                        intro S1967 eS1967
                        have hI : IV S1967 := by rw [eS1967]; exact iv_sJ hI o_v0 (by decide)
                        have f0 := fr_J eS1967 f0
                        have fL1848 := fr_J eS1967 fL1848
                        have d_y1575 := rd_J eS1967 d_y1575
                        have d_x1958 := rd_J eS1967 d_x1958
                        have d_x1956 := rd_J eS1967 d_x1956
                        have ea1948 := rf_J eS1967 ea1948
                        have hT := tx_J eS1967 hT
                        have l_a1948 := ln_J eS1967 l_a1948
                        have g0 := gr_J eS1967 g0
                        have gL1847 := gr_J eS1967 gL1847
                        have o_a1948 := ob_J eS1967 o_a1948
                        have o_v0 := ob_J eS1967 o_v0
                        refine u_X4_next_201 ?_
                        refine ⟨o_v0, ?_⟩
                        intro x1968 ex1968
                        have q_x1968 : x1968 = x1956 := ex1968.trans d_x1956.symm
                        have d_x1968 := ex1968
                        intro x1969 ex1969
                        intro S1970 eS1970
                        have hI : IV S1970 := by rw [eS1970]; exact iv_sI hI o_v0 (by decide) (nu_free (by decide))
                        have f0 := fr_I eS1970 g0 f0 o_v0 (by decide)
                        have fL1848 := fr_I eS1970 gL1847 fL1848 o_v0 (by decide)
                        have d_y1575 := rd_Ij eS1970 (by decide) d_y1575
                        have d_x1958 := rd_Ij eS1970 (by decide) d_x1958
                        have d_x1969 := rd_Is eS1970 (rfl : x1969 = x1969)
                        have ea1948 := rf_I eS1970 ea1948
                        have hT := tx_I eS1970 hT
                        have l_a1948 := ln_I eS1970 l_a1948
                        have g0 := gr_I eS1970 g0
                        have gL1847 := gr_I eS1970 gL1847
                        have o_a1948 := ob_I eS1970 o_a1948
                        have o_v0 := ob_I eS1970 o_v0
                        intro x1971 ex1971
                        exact ih1859 _ _ _ _ _ _ ⟨hI, gL1847, fL1848, rfl, rfl, rfl, rfl, hT, (q510 i1u1 c10 p_x1568 c1572 q_x1573 hy1575 q_x1576 p_x1577 q_x1583 c1584 q_x1585 c1586 q_x1843 c1844 i1u1845 p_k1u1845 c1886 q_x1911 p_x1912 q_x1916 c1917 c1942 q_x1947 c1949 q_x1956 q_x1958 c1959 q_x1968 ex1969 ex1971), (by rw [← d_x1958, ← d_x1969]; exact (q511 i1u1 c10 p_x1568 c1572 q_x1573 hy1575 q_x1576 p_x1577 q_x1583 c1584 q_x1585 c1586 q_x1843 c1844 i1u1845 p_k1u1845 c1886 q_x1911 p_x1912 q_x1916 c1917 c1942 q_x1947 c1949 q_x1956 q_x1958 c1959 q_x1968 ex1969 ex1971))⟩ (mu_up (q512 i1u1 c10 p_x1568 c1572 q_x1573 hy1575 q_x1576 p_x1577 q_x1583 c1584 q_x1585 c1586 q_x1843 c1844 i1u1845 p_k1u1845 c1886 q_x1911 p_x1912 q_x1916 c1917 c1942 q_x1947 c1949 q_x1956 q_x1958 c1959 q_x1968 ex1969 ex1971) (q513 i1u1 c10 p_x1568 c1572 q_x1573 hy1575 q_x1576 p_x1577 q_x1583 c1584 q_x1585 c1586 q_x1843 c1844 i1u1845 p_k1u1845 c1886 q_x1911 p_x1912 q_x1916 c1917 c1942 q_x1947 c1949 q_x1956 q_x1958 c1959 q_x1968 ex1969 ex1971))
          · refine u_X4_next_114 ?_
            refine i_X4_next_118 (fun (y0 : Nat) (y1 : Int32) (y2 : Int32) (y3 : Int32) (y4 : Int32) (Z : HS) => ((2147483647 : Int32).toInt - y4.toInt).toNat) (fun (y0 : Nat) (y1 : Int32) (y2 : Int32) (y3 : Int32) (y4 : Int32) (Z : HS) => (IV Z) ∧ (Gr S1582 Z) ∧ (FRI [(4, 4)] [] S1582 Z) ∧ (v0 = y0) ∧ ((1 : Int32) = y1) ∧ ((8 : Int32) = y2) ∧ ((32 : Int32) = y3) ∧ (TX Z v0) ∧ (0 ≤ y4) ∧ ((y1 = 0 ∨ fI Z v0 6 = 1 ∨ fI Z v0 6 = 2) ∧ (y1 = 0 → fI Z v0 6 = 0 ∨ (0 ≤ fI Z v0 4 ∧ fI Z v0 4 < 900)))) ?_ _ _ _ _ _ _ ⟨hI, (gr_rf _), (fri_rf _ _ _), rfl, rfl, rfl, rfl, hT, (q514 i1u1 c10 p_x1568 c1572 q_x1573 hy1575 q_x1576 p_x1577 q_x1583 c1584 q_x1585 c1586 q_x1843 c1844), (by rw [← d_x1843, ← d_x1576]; exact (q515 i1u1 c10 p_x1568 c1572 q_x1573 hy1575 q_x1576 p_x1577 q_x1583 c1584 q_x1585 c1586 q_x1843 c1844))⟩
            intro w1976 w1978 w1980 w1982 w1984 S1973 X1985 ⟨hI, gL1974, fL1975, q1977, q1979, q1981, q1983, hT, i1u1972, k1u1972⟩ ih1986
            subst q1977
            subst q1979
            subst q1981
            subst q1983
            have d_y1575 := d_y1575.trans (fri_at fL1975 (by decide) (by decide) o_v0).symm
            have d_x1843 := d_x1843.trans (fri_at fL1975 (by decide) (by decide) o_v0).symm
            have f0 := fri_tr (S := S1582) g0 f0 fL1975 (by decide) (by decide)
            have o_v0 := gr_ob gL1974 o_v0
            have g0 := gr_tr (T := S1582) g0 gL1974
            obtain ⟨y1987, d_y1987⟩ : ∃ z : Int32, z = fI S1973 v0 4 := ⟨_, rfl⟩
            have p_k1u1972 : ((1 : Int32) = 0 ∨ x1843 = 1 ∨ x1843 = 2) ∧ ((1 : Int32) = 0 → x1843 = 0 ∨ (0 ≤ y1987 ∧ y1987 < 900)) := by rw [d_x1843, d_y1987]; exact k1u1972
            refine u_X4_next_118 ?_
            refine ⟨fun c1988 => ?_, fun c1988 => ?_⟩
            · refine u_X4_next_217 ?_
              refine ⟨fun c1989 => ?_, fun c1989 => ?_⟩
              · refine u_X4_next_240 ?_
                refine ⟨fun c1990 => ?_, fun c1990 => ?_⟩
                · exact hq _ hI g0 f0 hT
                · refine ⟨o_v0, ?_⟩
                  intro x1991 ex1991
                  have q_x1991 : x1991 = x1843 := ex1991.trans d_x1843.symm
                  have d_x1991 := ex1991
                  refine ⟨fun c1992 => ?_, fun c1992 => ?_⟩
                  · exact hq _ hI g0 f0 hT
                  · intro x1993 ex1993
                    have q_x1993 : x1993 = y1987 := ex1993.trans d_y1987.symm
                    have d_x1993 := ex1993
                    intro x1994 ex1994
                    intro S1995 eS1995
                    have hI : IV S1995 := by rw [eS1995]; exact iv_sI hI o_v0 (by decide) (nu_free (by decide))
                    have f0 := fr_I eS1995 g0 f0 o_v0 (by decide)
                    have d_y1575 := rd_Ij eS1995 (by decide) d_y1575
                    have d_x1991 := rd_Ij eS1995 (by decide) d_x1991
                    have d_x1994 := rd_Is eS1995 (rfl : x1994 = x1994)
                    have hT := tx_I eS1995 hT
                    have g0 := gr_I eS1995 g0
                    have o_v0 := ob_I eS1995 o_v0
                    exact hq _ hI g0 f0 hT
              · refine ⟨o_v0, ?_⟩
                intro x1996 ex1996
                have q_x1996 : x1996 = y1987 := ex1996.trans d_y1987.symm
                have d_x1996 := ex1996
                intro x1997 ex1997
                have q_x1997 : x1997 = y1575 := ex1997.trans d_y1575.symm
                have d_x1997 := ex1997
                refine ⟨fun c1998 => ?_, fun c1998 => ?_⟩
                · refine u_X4_next_240 ?_
                  refine ⟨fun c1999 => ?_, fun c1999 => ?_⟩
                  · exact hq _ hI g0 f0 hT
                  · refine ⟨o_v0, ?_⟩
                    intro x2000 ex2000
                    have q_x2000 : x2000 = x1843 := ex2000.trans d_x1843.symm
                    have d_x2000 := ex2000
                    refine ⟨fun c2001 => ?_, fun c2001 => ?_⟩
                    · exact hq _ hI g0 f0 hT
                    · intro x2002 ex2002
                      have q_x2002 : x2002 = x1996 := ex2002.trans d_x1996.symm
                      have d_x2002 := ex2002
                      intro x2003 ex2003
                      intro S2004 eS2004
                      have hI : IV S2004 := by rw [eS2004]; exact iv_sI hI o_v0 (by decide) (nu_free (by decide))
                      have f0 := fr_I eS2004 g0 f0 o_v0 (by decide)
                      have d_x1997 := rd_Ij eS2004 (by decide) d_x1997
                      have d_x2000 := rd_Ij eS2004 (by decide) d_x2000
                      have d_x2003 := rd_Is eS2004 (rfl : x2003 = x2003)
                      have hT := tx_I eS2004 hT
                      have g0 := gr_I eS2004 g0
                      have o_v0 := ob_I eS2004 o_v0
                      exact hq _ hI g0 f0 hT
                · intro S2005 eS2005
                  have hI : IV S2005 := by rw [eS2005]; exact iv_sI hI o_v0 (by decide) (nu_free (by decide))
                  have f0 := fr_I eS2005 g0 f0 o_v0 (by decide)
                  have d_x1997 := rd_Ij eS2005 (by decide) d_x1997
                  have d_x1996 := rd_Ij eS2005 (by decide) d_x1996
                  obtain ⟨y2006, hy2006⟩ : ∃ z : Int32, z = (6 : Int32) := ⟨_, rfl⟩
                  have d_y2006 := rd_Is eS2005 hy2006
                  have hT := tx_I eS2005 hT
                  have g0 := gr_I eS2005 g0
                  have o_v0 := ob_I eS2005 o_v0
                  refine u_X4_next_240 ?_
                  refine ⟨fun c2007 => ?_, fun c2007 => ?_⟩
                  · exact hq _ hI g0 f0 hT
                  · refine ⟨o_v0, ?_⟩
                    intro x2008 ex2008
                    have q_x2008 : x2008 = y2006 := ex2008.trans d_y2006.symm
                    have d_x2008 := ex2008
                    refine ⟨fun c2009 => ?_, fun c2009 => ?_⟩
                    · exact hq _ hI g0 f0 hT
                    · intro x2010 ex2010
                      have q_x2010 : x2010 = x1996 := ex2010.trans d_x1996.symm
                      have d_x2010 := ex2010
                      intro x2011 ex2011
                      intro S2012 eS2012
                      have hI : IV S2012 := by rw [eS2012]; exact iv_sI hI o_v0 (by decide) (nu_free (by decide))
                      have f0 := fr_I eS2012 g0 f0 o_v0 (by decide)
                      have d_x1997 := rd_Ij eS2012 (by decide) d_x1997
                      have d_x2008 := rd_Ij eS2012 (by decide) d_x2008
                      have d_x2011 := rd_Is eS2012 (rfl : x2011 = x2011)
                      have hT := tx_I eS2012 hT
                      have g0 := gr_I eS2012 g0
                      have o_v0 := ob_I eS2012 o_v0
                      exact hq _ hI g0 f0 hT
            · refine ⟨fun c2013 => ?_, fun c2013 => ?_⟩
              · refine u_X4_next_217 ?_
                refine ⟨fun c2014 => ?_, fun c2014 => ?_⟩
                · refine u_X4_next_240 ?_
                  refine ⟨fun c2015 => ?_, fun c2015 => ?_⟩
                  · exact hq _ hI g0 f0 hT
                  · refine ⟨o_v0, ?_⟩
                    intro x2016 ex2016
                    have q_x2016 : x2016 = x1843 := ex2016.trans d_x1843.symm
                    have d_x2016 := ex2016
                    refine ⟨fun c2017 => ?_, fun c2017 => ?_⟩
                    · exact hq _ hI g0 f0 hT
                    · intro x2018 ex2018
                      have q_x2018 : x2018 = y1987 := ex2018.trans d_y1987.symm
                      have d_x2018 := ex2018
                      intro x2019 ex2019
                      intro S2020 eS2020
                      have hI : IV S2020 := by rw [eS2020]; exact iv_sI hI o_v0 (by decide) (nu_free (by decide))
                      have f0 := fr_I eS2020 g0 f0 o_v0 (by decide)
                      have d_y1575 := rd_Ij eS2020 (by decide) d_y1575
                      have d_x2016 := rd_Ij eS2020 (by decide) d_x2016
                      have d_x2019 := rd_Is eS2020 (rfl : x2019 = x2019)
                      have hT := tx_I eS2020 hT
                      have g0 := gr_I eS2020 g0
                      have o_v0 := ob_I eS2020 o_v0
                      exact hq _ hI g0 f0 hT
                · refine ⟨o_v0, ?_⟩
                  intro x2021 ex2021
                  have q_x2021 : x2021 = y1987 := ex2021.trans d_y1987.symm
                  have d_x2021 := ex2021
                  intro x2022 ex2022
                  have q_x2022 : x2022 = y1575 := ex2022.trans d_y1575.symm
                  have d_x2022 := ex2022
                  refine ⟨fun c2023 => ?_, fun c2023 => ?_⟩
                  · refine u_X4_next_240 ?_
                    refine ⟨fun c2024 => ?_, fun c2024 => ?_⟩
                    · exact hq _ hI g0 f0 hT
                    · refine ⟨o_v0, ?_⟩
                      intro x2025 ex2025
                      have q_x2025 : x2025 = x1843 := ex2025.trans d_x1843.symm
                      have d_x2025 := ex2025
                      refine ⟨fun c2026 => ?_, fun c2026 => ?_⟩
                      · exact hq _ hI g0 f0 hT
                      · intro x2027 ex2027
                        have q_x2027 : x2027 = x2021 := ex2027.trans d_x2021.symm
                        have d_x2027 := ex2027
                        intro x2028 ex2028
                        intro S2029 eS2029
                        have hI : IV S2029 := by rw [eS2029]; exact iv_sI hI o_v0 (by decide) (nu_free (by decide))
                        have f0 := fr_I eS2029 g0 f0 o_v0 (by decide)
                        have d_x2022 := rd_Ij eS2029 (by decide) d_x2022
                        have d_x2025 := rd_Ij eS2029 (by decide) d_x2025
                        have d_x2028 := rd_Is eS2029 (rfl : x2028 = x2028)
                        have hT := tx_I eS2029 hT
                        have g0 := gr_I eS2029 g0
                        have o_v0 := ob_I eS2029 o_v0
                        exact hq _ hI g0 f0 hT
                  · intro S2030 eS2030
                    have hI : IV S2030 := by rw [eS2030]; exact iv_sI hI o_v0 (by decide) (nu_free (by decide))
                    have f0 := fr_I eS2030 g0 f0 o_v0 (by decide)
                    have d_x2022 := rd_Ij eS2030 (by decide) d_x2022
                    have d_x2021 := rd_Ij eS2030 (by decide) d_x2021
                    obtain ⟨y2031, hy2031⟩ : ∃ z : Int32, z = (6 : Int32) := ⟨_, rfl⟩
                    have d_y2031 := rd_Is eS2030 hy2031
                    have hT := tx_I eS2030 hT
                    have g0 := gr_I eS2030 g0
                    have o_v0 := ob_I eS2030 o_v0
                    refine u_X4_next_240 ?_
                    refine ⟨fun c2032 => ?_, fun c2032 => ?_⟩
                    · exact hq _ hI g0 f0 hT
                    · refine ⟨o_v0, ?_⟩
                      intro x2033 ex2033
                      have q_x2033 : x2033 = y2031 := ex2033.trans d_y2031.symm
                      have d_x2033 := ex2033
                      refine ⟨fun c2034 => ?_, fun c2034 => ?_⟩
                      · exact hq _ hI g0 f0 hT
                      · intro x2035 ex2035
                        have q_x2035 : x2035 = x2021 := ex2035.trans d_x2021.symm
                        have d_x2035 := ex2035
                        intro x2036 ex2036
                        intro S2037 eS2037
                        have hI : IV S2037 := by rw [eS2037]; exact iv_sI hI o_v0 (by decide) (nu_free (by decide))
                        have f0 := fr_I eS2037 g0 f0 o_v0 (by decide)
                        have d_x2022 := rd_Ij eS2037 (by decide) d_x2022
                        have d_x2033 := rd_Ij eS2037 (by decide) d_x2033
                        have d_x2036 := rd_Is eS2037 (rfl : x2036 = x2036)
                        have hT := tx_I eS2037 hT
                        have g0 := gr_I eS2037 g0
                        have o_v0 := ob_I eS2037 o_v0
                        exact hq _ hI g0 f0 hT
              · refine ⟨o_v0, ?_⟩
                intro x2038 ex2038
                have q_x2038 : x2038 = y1987 := ex2038.trans d_y1987.symm
                have d_x2038 := ex2038
                refine m_X4_sortAt hI o_v0 hT (fun x2039 S2040 hI2 g2041 p_x2039 => ?_)
                obtain ⟨z_S2040, p_x2039⟩ := p_x2039
                subst z_S2040
                intro _
                intro x2043 ex2043
                have q_x2043 : x2043 = x1843 := ex2043.trans d_x1843.symm
                have d_x2043 := ex2043
                refine ⟨fun c2044 => ?_, fun c2044 => ?_⟩
                · refine u_X4_next_217 ?_
                  refine ⟨fun c2045 => ?_, fun c2045 => ?_⟩
                  · refine u_X4_next_240 ?_
                    refine ⟨fun c2046 => ?_, fun c2046 => ?_⟩
                    · exact hq _ hI g0 f0 hT
                    · refine ⟨o_v0, ?_⟩
                      intro x2047 ex2047
                      have q_x2047 : x2047 = x2043 := ex2047.trans d_x2043.symm
                      have d_x2047 := ex2047
                      refine ⟨fun c2048 => ?_, fun c2048 => ?_⟩
                      · exact hq _ hI g0 f0 hT
                      · intro x2049 ex2049
                        have q_x2049 : x2049 = x2038 := ex2049.trans d_x2038.symm
                        have d_x2049 := ex2049
                        intro x2050 ex2050
                        intro S2051 eS2051
                        have hI : IV S2051 := by rw [eS2051]; exact iv_sI hI o_v0 (by decide) (nu_free (by decide))
                        have f0 := fr_I eS2051 g0 f0 o_v0 (by decide)
                        have d_y1575 := rd_Ij eS2051 (by decide) d_y1575
                        have d_x2047 := rd_Ij eS2051 (by decide) d_x2047
                        have d_x2050 := rd_Is eS2051 (rfl : x2050 = x2050)
                        have hT := tx_I eS2051 hT
                        have g0 := gr_I eS2051 g0
                        have o_v0 := ob_I eS2051 o_v0
                        exact hq _ hI g0 f0 hT
                  · refine ⟨o_v0, ?_⟩
                    intro x2052 ex2052
                    have q_x2052 : x2052 = x2038 := ex2052.trans d_x2038.symm
                    have d_x2052 := ex2052
                    intro x2053 ex2053
                    have q_x2053 : x2053 = y1575 := ex2053.trans d_y1575.symm
                    have d_x2053 := ex2053
                    refine ⟨fun c2054 => ?_, fun c2054 => ?_⟩
                    · refine u_X4_next_240 ?_
                      refine ⟨fun c2055 => ?_, fun c2055 => ?_⟩
                      · exact hq _ hI g0 f0 hT
                      · refine ⟨o_v0, ?_⟩
                        intro x2056 ex2056
                        have q_x2056 : x2056 = x2043 := ex2056.trans d_x2043.symm
                        have d_x2056 := ex2056
                        refine ⟨fun c2057 => ?_, fun c2057 => ?_⟩
                        · exact hq _ hI g0 f0 hT
                        · intro x2058 ex2058
                          have q_x2058 : x2058 = x2052 := ex2058.trans d_x2052.symm
                          have d_x2058 := ex2058
                          intro x2059 ex2059
                          intro S2060 eS2060
                          have hI : IV S2060 := by rw [eS2060]; exact iv_sI hI o_v0 (by decide) (nu_free (by decide))
                          have f0 := fr_I eS2060 g0 f0 o_v0 (by decide)
                          have d_x2053 := rd_Ij eS2060 (by decide) d_x2053
                          have d_x2056 := rd_Ij eS2060 (by decide) d_x2056
                          have d_x2059 := rd_Is eS2060 (rfl : x2059 = x2059)
                          have hT := tx_I eS2060 hT
                          have g0 := gr_I eS2060 g0
                          have o_v0 := ob_I eS2060 o_v0
                          exact hq _ hI g0 f0 hT
                    · intro S2061 eS2061
                      have hI : IV S2061 := by rw [eS2061]; exact iv_sI hI o_v0 (by decide) (nu_free (by decide))
                      have f0 := fr_I eS2061 g0 f0 o_v0 (by decide)
                      have d_x2053 := rd_Ij eS2061 (by decide) d_x2053
                      have d_x2052 := rd_Ij eS2061 (by decide) d_x2052
                      obtain ⟨y2062, hy2062⟩ : ∃ z : Int32, z = (6 : Int32) := ⟨_, rfl⟩
                      have d_y2062 := rd_Is eS2061 hy2062
                      have hT := tx_I eS2061 hT
                      have g0 := gr_I eS2061 g0
                      have o_v0 := ob_I eS2061 o_v0
                      refine u_X4_next_240 ?_
                      refine ⟨fun c2063 => ?_, fun c2063 => ?_⟩
                      · exact hq _ hI g0 f0 hT
                      · refine ⟨o_v0, ?_⟩
                        intro x2064 ex2064
                        have q_x2064 : x2064 = y2062 := ex2064.trans d_y2062.symm
                        have d_x2064 := ex2064
                        refine ⟨fun c2065 => ?_, fun c2065 => ?_⟩
                        · exact hq _ hI g0 f0 hT
                        · intro x2066 ex2066
                          have q_x2066 : x2066 = x2052 := ex2066.trans d_x2052.symm
                          have d_x2066 := ex2066
                          intro x2067 ex2067
                          intro S2068 eS2068
                          have hI : IV S2068 := by rw [eS2068]; exact iv_sI hI o_v0 (by decide) (nu_free (by decide))
                          have f0 := fr_I eS2068 g0 f0 o_v0 (by decide)
                          have d_x2053 := rd_Ij eS2068 (by decide) d_x2053
                          have d_x2064 := rd_Ij eS2068 (by decide) d_x2064
                          have d_x2067 := rd_Is eS2068 (rfl : x2067 = x2067)
                          have hT := tx_I eS2068 hT
                          have g0 := gr_I eS2068 g0
                          have o_v0 := ob_I eS2068 o_v0
                          exact hq _ hI g0 f0 hT
                · refine ⟨fun c2069 => ?_, fun c2069 => ?_⟩
                  · refine u_X4_next_201 ?_
                    refine ⟨o_v0, ?_⟩
                    intro x2070 ex2070
                    have q_x2070 : x2070 = x2038 := ex2070.trans d_x2038.symm
                    have d_x2070 := ex2070
                    intro x2071 ex2071
                    intro S2072 eS2072
                    have hI : IV S2072 := by rw [eS2072]; exact iv_sI hI o_v0 (by decide) (nu_free (by decide))
                    have f0 := fr_I eS2072 g0 f0 o_v0 (by decide)
                    have fL1975 := fr_I eS2072 gL1974 fL1975 o_v0 (by decide)
                    have d_y1575 := rd_Ij eS2072 (by decide) d_y1575
                    have d_x2043 := rd_Ij eS2072 (by decide) d_x2043
                    have d_x2071 := rd_Is eS2072 (rfl : x2071 = x2071)
                    have hT := tx_I eS2072 hT
                    have g0 := gr_I eS2072 g0
                    have gL1974 := gr_I eS2072 gL1974
                    have o_v0 := ob_I eS2072 o_v0
                    intro x2073 ex2073
                    exact ih1986 _ _ _ _ _ _ ⟨hI, gL1974, fL1975, rfl, rfl, rfl, rfl, hT, (q516 i1u1 c10 p_x1568 c1572 q_x1573 hy1575 q_x1576 p_x1577 q_x1583 c1584 q_x1585 c1586 q_x1843 c1844 i1u1972 p_k1u1972 c2013 q_x2038 p_x2039 q_x2043 c2044 c2069 q_x2070 ex2071 ex2073), (by rw [← d_x2043, ← d_x2071]; exact (q517 i1u1 c10 p_x1568 c1572 q_x1573 hy1575 q_x1576 p_x1577 q_x1583 c1584 q_x1585 c1586 q_x1843 c1844 i1u1972 p_k1u1972 c2013 q_x2038 p_x2039 q_x2043 c2044 c2069 q_x2070 ex2071 ex2073))⟩ (mu_up (q518 i1u1 c10 p_x1568 c1572 q_x1573 hy1575 q_x1576 p_x1577 q_x1583 c1584 q_x1585 c1586 q_x1843 c1844 i1u1972 p_k1u1972 c2013 q_x2038 p_x2039 q_x2043 c2044 c2069 q_x2070 ex2071 ex2073) (q519 i1u1 c10 p_x1568 c1572 q_x1573 hy1575 q_x1576 p_x1577 q_x1583 c1584 q_x1585 c1586 q_x1843 c1844 i1u1972 p_k1u1972 c2013 q_x2038 p_x2039 q_x2043 c2044 c2069 q_x2070 ex2071 ex2073))
                  · intro x2074 ex2074
                    have q_x2074 : x2074 = x2038 := ex2074.trans d_x2038.symm
                    have d_x2074 := ex2074
                    obtain ⟨a2075, ea2075, o_a2075, l_a2075⟩ := id hT
                    refine ⟨a2075, ea2075, ?_⟩
                    refine ⟨o_a2075, ?_⟩
                    have n_a2075 : nI (hN S1973 a2075) = 900 := by rw [show hN S1973 a2075 = 900 from l_a2075]; decide
                    refine ⟨fun c2076 => ?_, fun c2076 => ?_⟩
                    · rw [n_a2075] at c2076
                      refine u_X4_next_201 ?_
                      refine ⟨o_v0, ?_⟩
                      intro x2077 ex2077
                      have q_x2077 : x2077 = x2074 := ex2077.trans d_x2074.symm
                      have d_x2077 := ex2077
                      intro x2078 ex2078
                      intro S2079 eS2079
                      have hI : IV S2079 := by rw [eS2079]; exact iv_sI hI o_v0 (by decide) (nu_free (by decide))
                      have f0 := fr_I eS2079 g0 f0 o_v0 (by decide)
                      have fL1975 := fr_I eS2079 gL1974 fL1975 o_v0 (by decide)
                      have d_y1575 := rd_Ij eS2079 (by decide) d_y1575
                      have d_x2043 := rd_Ij eS2079 (by decide) d_x2043
                      have d_x2078 := rd_Is eS2079 (rfl : x2078 = x2078)
                      have ea2075 := rf_I eS2079 ea2075
                      have hT := tx_I eS2079 hT
                      have l_a2075 := ln_I eS2079 l_a2075
                      have g0 := gr_I eS2079 g0
                      have gL1974 := gr_I eS2079 gL1974
                      have o_a2075 := ob_I eS2079 o_a2075
                      have o_v0 := ob_I eS2079 o_v0
                      intro x2080 ex2080
                      exact ih1986 _ _ _ _ _ _ ⟨hI, gL1974, fL1975, rfl, rfl, rfl, rfl, hT, (q520 i1u1 c10 p_x1568 c1572 q_x1573 hy1575 q_x1576 p_x1577 q_x1583 c1584 q_x1585 c1586 q_x1843 c1844 i1u1972 p_k1u1972 c2013 q_x2038 p_x2039 q_x2043 c2044 c2069 q_x2074 c2076 q_x2077 ex2078 ex2080), (by rw [← d_x2043, ← d_x2078]; exact (q521 i1u1 c10 p_x1568 c1572 q_x1573 hy1575 q_x1576 p_x1577 q_x1583 c1584 q_x1585 c1586 q_x1843 c1844 i1u1972 p_k1u1972 c2013 q_x2038 p_x2039 q_x2043 c2044 c2069 q_x2074 c2076 q_x2077 ex2078 ex2080))⟩ (mu_up (q522 i1u1 c10 p_x1568 c1572 q_x1573 hy1575 q_x1576 p_x1577 q_x1583 c1584 q_x1585 c1586 q_x1843 c1844 i1u1972 p_k1u1972 c2013 q_x2038 p_x2039 q_x2043 c2044 c2069 q_x2074 c2076 q_x2077 ex2078 ex2080) (q523 i1u1 c10 p_x1568 c1572 q_x1573 hy1575 q_x1576 p_x1577 q_x1583 c1584 q_x1585 c1586 q_x1843 c1844 i1u1972 p_k1u1972 c2013 q_x2038 p_x2039 q_x2043 c2044 c2069 q_x2074 c2076 q_x2077 ex2078 ex2080))
                    · rw [n_a2075] at c2076
                      intro x2081 ex2081
                      have dj_x2081 := ex2081
                      refine ⟨a2075, ea2075, ?_⟩
                      intro x2083 ex2083
                      have q_x2083 : x2083 = x2074 := ex2083.trans d_x2074.symm
                      have d_x2083 := ex2083
                      refine ⟨o_a2075, ?_⟩
                      refine ⟨(vin l_a2075 (m := 900) (by decide) (q524 i1u1 c10 p_x1568 c1572 q_x1573 hy1575 q_x1576 p_x1577 q_x1583 c1584 q_x1585 c1586 q_x1843 c1844 i1u1972 p_k1u1972 c2013 q_x2038 p_x2039 q_x2043 c2044 c2069 q_x2074 c2076 q_x2083)), ?_⟩
                      intro x2084 ex2084
                      intro x2085 ex2085
                      have q_x2085 : x2085 = x2043 := ex2085.trans d_x2043.symm
                      have d_x2085 := ex2085
                      refine ⟨fun c2086 => ?_, fun c2086 => ?_⟩
                      · refine u_X4_next_195 ?_
                        refine ⟨o_v0, ?_⟩
                        intro x2087 ex2087
                        intro S2088 eS2088
                        have hI : IV S2088 := by rw [eS2088]; exact iv_sJ hI o_v0 (by decide)
                        have f0 := fr_J eS2088 f0
                        have fL1975 := fr_J eS2088 fL1975
                        have d_y1575 := rd_J eS2088 d_y1575
                        have d_x2085 := rd_J eS2088 d_x2085
                        have d_x2083 := rd_J eS2088 d_x2083
                        have ea2075 := rf_J eS2088 ea2075
                        have hT := tx_J eS2088 hT
                        have l_a2075 := ln_J eS2088 l_a2075
                        have g0 := gr_J eS2088 g0
                        have gL1974 := gr_J eS2088 gL1974
                        have o_a2075 := ob_J eS2088 o_a2075
                        have o_v0 := ob_J eS2088 o_v0
                        refine u_X4_next_201 ?_
                        refine ⟨o_v0, ?_⟩
                        intro x2089 ex2089
                        have q_x2089 : x2089 = x2083 := ex2089.trans d_x2083.symm
                        have d_x2089 := ex2089
                        intro x2090 ex2090
                        intro S2091 eS2091
                        have hI : IV S2091 := by rw [eS2091]; exact iv_sI hI o_v0 (by decide) (nu_free (by decide))
                        have f0 := fr_I eS2091 g0 f0 o_v0 (by decide)
                        have fL1975 := fr_I eS2091 gL1974 fL1975 o_v0 (by decide)
                        have d_y1575 := rd_Ij eS2091 (by decide) d_y1575
                        have d_x2085 := rd_Ij eS2091 (by decide) d_x2085
                        have d_x2090 := rd_Is eS2091 (rfl : x2090 = x2090)
                        have ea2075 := rf_I eS2091 ea2075
                        have hT := tx_I eS2091 hT
                        have l_a2075 := ln_I eS2091 l_a2075
                        have g0 := gr_I eS2091 g0
                        have gL1974 := gr_I eS2091 gL1974
                        have o_a2075 := ob_I eS2091 o_a2075
                        have o_v0 := ob_I eS2091 o_v0
                        intro x2092 ex2092
                        exact ih1986 _ _ _ _ _ _ ⟨hI, gL1974, fL1975, rfl, rfl, rfl, rfl, hT, (q525 i1u1 c10 p_x1568 c1572 q_x1573 hy1575 q_x1576 p_x1577 q_x1583 c1584 q_x1585 c1586 q_x1843 c1844 i1u1972 p_k1u1972 c2013 q_x2038 p_x2039 q_x2043 c2044 c2069 q_x2074 c2076 q_x2083 q_x2085 c2086 q_x2089 ex2090 ex2092), (by rw [← d_x2085, ← d_x2090]; exact (q526 i1u1 c10 p_x1568 c1572 q_x1573 hy1575 q_x1576 p_x1577 q_x1583 c1584 q_x1585 c1586 q_x1843 c1844 i1u1972 p_k1u1972 c2013 q_x2038 p_x2039 q_x2043 c2044 c2069 q_x2074 c2076 q_x2083 q_x2085 c2086 q_x2089 ex2090 ex2092))⟩ (mu_up (q527 i1u1 c10 p_x1568 c1572 q_x1573 hy1575 q_x1576 p_x1577 q_x1583 c1584 q_x1585 c1586 q_x1843 c1844 i1u1972 p_k1u1972 c2013 q_x2038 p_x2039 q_x2043 c2044 c2069 q_x2074 c2076 q_x2083 q_x2085 c2086 q_x2089 ex2090 ex2092) (q528 i1u1 c10 p_x1568 c1572 q_x1573 hy1575 q_x1576 p_x1577 q_x1583 c1584 q_x1585 c1586 q_x1843 c1844 i1u1972 p_k1u1972 c2013 q_x2038 p_x2039 q_x2043 c2044 c2069 q_x2074 c2076 q_x2083 q_x2085 c2086 q_x2089 ex2090 ex2092))
                      · refine u_X4_next_195 ?_
                        refine ⟨o_v0, ?_⟩
                        intro x2093 ex2093
                        intro S2094 eS2094
                        have hI : IV S2094 := by rw [eS2094]; exact iv_sJ hI o_v0 (by decide)
                        have f0 := fr_J eS2094 f0
                        have fL1975 := fr_J eS2094 fL1975
                        have d_y1575 := rd_J eS2094 d_y1575
                        have d_x2085 := rd_J eS2094 d_x2085
                        have d_x2083 := rd_J eS2094 d_x2083
                        have ea2075 := rf_J eS2094 ea2075
                        have hT := tx_J eS2094 hT
                        have l_a2075 := ln_J eS2094 l_a2075
                        have g0 := gr_J eS2094 g0
                        have gL1974 := gr_J eS2094 gL1974
                        have o_a2075 := ob_J eS2094 o_a2075
                        have o_v0 := ob_J eS2094 o_v0
                        refine u_X4_next_201 ?_
                        refine ⟨o_v0, ?_⟩
                        intro x2095 ex2095
                        have q_x2095 : x2095 = x2083 := ex2095.trans d_x2083.symm
                        have d_x2095 := ex2095
                        intro x2096 ex2096
                        intro S2097 eS2097
                        have hI : IV S2097 := by rw [eS2097]; exact iv_sI hI o_v0 (by decide) (nu_free (by decide))
                        have f0 := fr_I eS2097 g0 f0 o_v0 (by decide)
                        have fL1975 := fr_I eS2097 gL1974 fL1975 o_v0 (by decide)
                        have d_y1575 := rd_Ij eS2097 (by decide) d_y1575
                        have d_x2085 := rd_Ij eS2097 (by decide) d_x2085
                        have d_x2096 := rd_Is eS2097 (rfl : x2096 = x2096)
                        have ea2075 := rf_I eS2097 ea2075
                        have hT := tx_I eS2097 hT
                        have l_a2075 := ln_I eS2097 l_a2075
                        have g0 := gr_I eS2097 g0
                        have gL1974 := gr_I eS2097 gL1974
                        have o_a2075 := ob_I eS2097 o_a2075
                        have o_v0 := ob_I eS2097 o_v0
                        intro x2098 ex2098
                        exact ih1986 _ _ _ _ _ _ ⟨hI, gL1974, fL1975, rfl, rfl, rfl, rfl, hT, (q529 i1u1 c10 p_x1568 c1572 q_x1573 hy1575 q_x1576 p_x1577 q_x1583 c1584 q_x1585 c1586 q_x1843 c1844 i1u1972 p_k1u1972 c2013 q_x2038 p_x2039 q_x2043 c2044 c2069 q_x2074 c2076 q_x2083 q_x2085 c2086 q_x2095 ex2096 ex2098), (by rw [← d_x2085, ← d_x2096]; exact (q530 i1u1 c10 p_x1568 c1572 q_x1573 hy1575 q_x1576 p_x1577 q_x1583 c1584 q_x1585 c1586 q_x1843 c1844 i1u1972 p_k1u1972 c2013 q_x2038 p_x2039 q_x2043 c2044 c2069 q_x2074 c2076 q_x2083 q_x2085 c2086 q_x2095 ex2096 ex2098))⟩ (mu_up (q531 i1u1 c10 p_x1568 c1572 q_x1573 hy1575 q_x1576 p_x1577 q_x1583 c1584 q_x1585 c1586 q_x1843 c1844 i1u1972 p_k1u1972 c2013 q_x2038 p_x2039 q_x2043 c2044 c2069 q_x2074 c2076 q_x2083 q_x2085 c2086 q_x2095 ex2096 ex2098) (q532 i1u1 c10 p_x1568 c1572 q_x1573 hy1575 q_x1576 p_x1577 q_x1583 c1584 q_x1585 c1586 q_x1843 c1844 i1u1972 p_k1u1972 c2013 q_x2038 p_x2039 q_x2043 c2044 c2069 q_x2074 c2076 q_x2083 q_x2085 c2086 q_x2095 ex2096 ex2098))
      · intro x2099 ex2099
        have q_x2099 : x2099 = x1583 := ex2099.trans d_x1583.symm
        have d_x2099 := ex2099
        refine ⟨fun c2100 => ?_, fun c2100 => ?_⟩
        · refine u_X4_next_83 ?_
          refine ⟨o_v0, ?_⟩
          intro x2101 ex2101
          have q_x2101 : x2101 = x2099 := ex2101.trans d_x2099.symm
          have d_x2101 := ex2101
          refine ⟨fun c2102 => ?_, fun c2102 => ?_⟩
          · refine u_X4_next_98 ?_
            refine ⟨o_v0, ?_⟩
            intro x2103 ex2103
            have q_x2103 : x2103 = x2101 := ex2103.trans d_x2101.symm
            have d_x2103 := ex2103
            refine ⟨fun c2104 => ?_, fun c2104 => ?_⟩
            · refine u_X4_next_114 ?_
              refine i_X4_next_118 (fun (y0 : Nat) (y1 : Int32) (y2 : Int32) (y3 : Int32) (y4 : Int32) (Z : HS) => ((2147483647 : Int32).toInt - y4.toInt).toNat) (fun (y0 : Nat) (y1 : Int32) (y2 : Int32) (y3 : Int32) (y4 : Int32) (Z : HS) => (IV Z) ∧ (Gr S1582 Z) ∧ (FRI [(4, 4)] [] S1582 Z) ∧ (v0 = y0) ∧ ((0 : Int32) = y1) ∧ ((3 : Int32) = y2) ∧ ((10 : Int32) = y3) ∧ (TX Z v0) ∧ (0 ≤ y4) ∧ ((y1 = 0 ∨ fI Z v0 6 = 1 ∨ fI Z v0 6 = 2) ∧ (y1 = 0 → fI Z v0 6 = 0 ∨ (0 ≤ fI Z v0 4 ∧ fI Z v0 4 < 900)))) ?_ _ _ _ _ _ _ ⟨hI, (gr_rf _), (fri_rf _ _ _), rfl, rfl, rfl, rfl, hT, (q533 i1u1 c10 p_x1568 c1572 q_x1573 hy1575 q_x1576 p_x1577 q_x1583 c1584 q_x2099 c2100 q_x2101 c2102 q_x2103 c2104), (by rw [← d_x2103, ← d_x1576]; exact (q534 i1u1 c10 p_x1568 c1572 q_x1573 hy1575 q_x1576 p_x1577 q_x1583 c1584 q_x2099 c2100 q_x2101 c2102 q_x2103 c2104))⟩
              intro w2109 w2111 w2113 w2115 w2117 S2106 X2118 ⟨hI, gL2107, fL2108, q2110, q2112, q2114, q2116, hT, i1u2105, k1u2105⟩ ih2119
              subst q2110
              subst q2112
              subst q2114
              subst q2116
              have d_y1575 := d_y1575.trans (fri_at fL2108 (by decide) (by decide) o_v0).symm
              have d_x2103 := d_x2103.trans (fri_at fL2108 (by decide) (by decide) o_v0).symm
              have f0 := fri_tr (S := S1582) g0 f0 fL2108 (by decide) (by decide)
              have o_v0 := gr_ob gL2107 o_v0
              have g0 := gr_tr (T := S1582) g0 gL2107
              obtain ⟨y2120, d_y2120⟩ : ∃ z : Int32, z = fI S2106 v0 4 := ⟨_, rfl⟩
              have p_k1u2105 : ((0 : Int32) = 0 ∨ x2103 = 1 ∨ x2103 = 2) ∧ ((0 : Int32) = 0 → x2103 = 0 ∨ (0 ≤ y2120 ∧ y2120 < 900)) := by rw [d_x2103, d_y2120]; exact k1u2105
              refine u_X4_next_118 ?_
              refine ⟨fun c2121 => ?_, fun c2121 => ?_⟩
              · refine u_X4_next_217 ?_
                refine ⟨fun c2122 => ?_, fun c2122 => ?_⟩
                · refine u_X4_next_240 ?_
                  refine ⟨fun c2123 => ?_, fun c2123 => ?_⟩
                  · exact hq _ hI g0 f0 hT
                  · refine ⟨o_v0, ?_⟩
                    intro x2124 ex2124
                    have q_x2124 : x2124 = x2103 := ex2124.trans d_x2103.symm
                    have d_x2124 := ex2124
                    refine ⟨fun c2125 => ?_, fun c2125 => ?_⟩
                    · exact hq _ hI g0 f0 hT
                    · intro x2126 ex2126
                      have q_x2126 : x2126 = y2120 := ex2126.trans d_y2120.symm
                      have d_x2126 := ex2126
                      intro x2127 ex2127
                      intro S2128 eS2128
                      have hI : IV S2128 := by rw [eS2128]; exact iv_sI hI o_v0 (by decide) (nu_free (by decide))
                      have f0 := fr_I eS2128 g0 f0 o_v0 (by decide)
                      have d_y1575 := rd_Ij eS2128 (by decide) d_y1575
                      have d_x2124 := rd_Ij eS2128 (by decide) d_x2124
                      have d_x2127 := rd_Is eS2128 (rfl : x2127 = x2127)
                      have hT := tx_I eS2128 hT
                      have g0 := gr_I eS2128 g0
                      have o_v0 := ob_I eS2128 o_v0
                      exact hq _ hI g0 f0 hT
                · refine ⟨o_v0, ?_⟩
                  intro x2129 ex2129
                  have q_x2129 : x2129 = y2120 := ex2129.trans d_y2120.symm
                  have d_x2129 := ex2129
                  intro x2130 ex2130
                  have q_x2130 : x2130 = y1575 := ex2130.trans d_y1575.symm
                  have d_x2130 := ex2130
                  refine ⟨fun c2131 => ?_, fun c2131 => ?_⟩
                  · refine u_X4_next_240 ?_
                    refine ⟨fun c2132 => ?_, fun c2132 => ?_⟩
                    · exact hq _ hI g0 f0 hT
                    · refine ⟨o_v0, ?_⟩
                      intro x2133 ex2133
                      have q_x2133 : x2133 = x2103 := ex2133.trans d_x2103.symm
                      have d_x2133 := ex2133
                      refine ⟨fun c2134 => ?_, fun c2134 => ?_⟩
                      · exact hq _ hI g0 f0 hT
                      · intro x2135 ex2135
                        have q_x2135 : x2135 = x2129 := ex2135.trans d_x2129.symm
                        have d_x2135 := ex2135
                        intro x2136 ex2136
                        intro S2137 eS2137
                        have hI : IV S2137 := by rw [eS2137]; exact iv_sI hI o_v0 (by decide) (nu_free (by decide))
                        have f0 := fr_I eS2137 g0 f0 o_v0 (by decide)
                        have d_x2130 := rd_Ij eS2137 (by decide) d_x2130
                        have d_x2133 := rd_Ij eS2137 (by decide) d_x2133
                        have d_x2136 := rd_Is eS2137 (rfl : x2136 = x2136)
                        have hT := tx_I eS2137 hT
                        have g0 := gr_I eS2137 g0
                        have o_v0 := ob_I eS2137 o_v0
                        exact hq _ hI g0 f0 hT
                  · intro S2138 eS2138
                    have hI : IV S2138 := by rw [eS2138]; exact iv_sI hI o_v0 (by decide) (nu_free (by decide))
                    have f0 := fr_I eS2138 g0 f0 o_v0 (by decide)
                    have d_x2130 := rd_Ij eS2138 (by decide) d_x2130
                    have d_x2129 := rd_Ij eS2138 (by decide) d_x2129
                    obtain ⟨y2139, hy2139⟩ : ∃ z : Int32, z = (6 : Int32) := ⟨_, rfl⟩
                    have d_y2139 := rd_Is eS2138 hy2139
                    have hT := tx_I eS2138 hT
                    have g0 := gr_I eS2138 g0
                    have o_v0 := ob_I eS2138 o_v0
                    refine u_X4_next_240 ?_
                    refine ⟨fun c2140 => ?_, fun c2140 => ?_⟩
                    · exact hq _ hI g0 f0 hT
                    · refine ⟨o_v0, ?_⟩
                      intro x2141 ex2141
                      have q_x2141 : x2141 = y2139 := ex2141.trans d_y2139.symm
                      have d_x2141 := ex2141
                      refine ⟨fun c2142 => ?_, fun c2142 => ?_⟩
                      · exact hq _ hI g0 f0 hT
                      · intro x2143 ex2143
                        have q_x2143 : x2143 = x2129 := ex2143.trans d_x2129.symm
                        have d_x2143 := ex2143
                        intro x2144 ex2144
                        intro S2145 eS2145
                        have hI : IV S2145 := by rw [eS2145]; exact iv_sI hI o_v0 (by decide) (nu_free (by decide))
                        have f0 := fr_I eS2145 g0 f0 o_v0 (by decide)
                        have d_x2130 := rd_Ij eS2145 (by decide) d_x2130
                        have d_x2141 := rd_Ij eS2145 (by decide) d_x2141
                        have d_x2144 := rd_Is eS2145 (rfl : x2144 = x2144)
                        have hT := tx_I eS2145 hT
                        have g0 := gr_I eS2145 g0
                        have o_v0 := ob_I eS2145 o_v0
                        exact hq _ hI g0 f0 hT
              · refine ⟨fun c2146 => ?_, fun c2146 => ?_⟩
                · refine u_X4_next_217 ?_
                  refine ⟨fun c2147 => ?_, fun c2147 => ?_⟩
                  · refine u_X4_next_240 ?_
                    refine ⟨fun c2148 => ?_, fun c2148 => ?_⟩
                    · exact hq _ hI g0 f0 hT
                    · refine ⟨o_v0, ?_⟩
                      intro x2149 ex2149
                      have q_x2149 : x2149 = x2103 := ex2149.trans d_x2103.symm
                      have d_x2149 := ex2149
                      refine ⟨fun c2150 => ?_, fun c2150 => ?_⟩
                      · exact hq _ hI g0 f0 hT
                      · intro x2151 ex2151
                        have q_x2151 : x2151 = y2120 := ex2151.trans d_y2120.symm
                        have d_x2151 := ex2151
                        intro x2152 ex2152
                        intro S2153 eS2153
                        have hI : IV S2153 := by rw [eS2153]; exact iv_sI hI o_v0 (by decide) (nu_free (by decide))
                        have f0 := fr_I eS2153 g0 f0 o_v0 (by decide)
                        have d_y1575 := rd_Ij eS2153 (by decide) d_y1575
                        have d_x2149 := rd_Ij eS2153 (by decide) d_x2149
                        have d_x2152 := rd_Is eS2153 (rfl : x2152 = x2152)
                        have hT := tx_I eS2153 hT
                        have g0 := gr_I eS2153 g0
                        have o_v0 := ob_I eS2153 o_v0
                        exact hq _ hI g0 f0 hT
                  · refine ⟨o_v0, ?_⟩
                    intro x2154 ex2154
                    have q_x2154 : x2154 = y2120 := ex2154.trans d_y2120.symm
                    have d_x2154 := ex2154
                    intro x2155 ex2155
                    have q_x2155 : x2155 = y1575 := ex2155.trans d_y1575.symm
                    have d_x2155 := ex2155
                    refine ⟨fun c2156 => ?_, fun c2156 => ?_⟩
                    · refine u_X4_next_240 ?_
                      refine ⟨fun c2157 => ?_, fun c2157 => ?_⟩
                      · exact hq _ hI g0 f0 hT
                      · refine ⟨o_v0, ?_⟩
                        intro x2158 ex2158
                        have q_x2158 : x2158 = x2103 := ex2158.trans d_x2103.symm
                        have d_x2158 := ex2158
                        refine ⟨fun c2159 => ?_, fun c2159 => ?_⟩
                        · exact hq _ hI g0 f0 hT
                        · intro x2160 ex2160
                          have q_x2160 : x2160 = x2154 := ex2160.trans d_x2154.symm
                          have d_x2160 := ex2160
                          intro x2161 ex2161
                          intro S2162 eS2162
                          have hI : IV S2162 := by rw [eS2162]; exact iv_sI hI o_v0 (by decide) (nu_free (by decide))
                          have f0 := fr_I eS2162 g0 f0 o_v0 (by decide)
                          have d_x2155 := rd_Ij eS2162 (by decide) d_x2155
                          have d_x2158 := rd_Ij eS2162 (by decide) d_x2158
                          have d_x2161 := rd_Is eS2162 (rfl : x2161 = x2161)
                          have hT := tx_I eS2162 hT
                          have g0 := gr_I eS2162 g0
                          have o_v0 := ob_I eS2162 o_v0
                          exact hq _ hI g0 f0 hT
                    · intro S2163 eS2163
                      have hI : IV S2163 := by rw [eS2163]; exact iv_sI hI o_v0 (by decide) (nu_free (by decide))
                      have f0 := fr_I eS2163 g0 f0 o_v0 (by decide)
                      have d_x2155 := rd_Ij eS2163 (by decide) d_x2155
                      have d_x2154 := rd_Ij eS2163 (by decide) d_x2154
                      obtain ⟨y2164, hy2164⟩ : ∃ z : Int32, z = (6 : Int32) := ⟨_, rfl⟩
                      have d_y2164 := rd_Is eS2163 hy2164
                      have hT := tx_I eS2163 hT
                      have g0 := gr_I eS2163 g0
                      have o_v0 := ob_I eS2163 o_v0
                      refine u_X4_next_240 ?_
                      refine ⟨fun c2165 => ?_, fun c2165 => ?_⟩
                      · exact hq _ hI g0 f0 hT
                      · refine ⟨o_v0, ?_⟩
                        intro x2166 ex2166
                        have q_x2166 : x2166 = y2164 := ex2166.trans d_y2164.symm
                        have d_x2166 := ex2166
                        refine ⟨fun c2167 => ?_, fun c2167 => ?_⟩
                        · exact hq _ hI g0 f0 hT
                        · intro x2168 ex2168
                          have q_x2168 : x2168 = x2154 := ex2168.trans d_x2154.symm
                          have d_x2168 := ex2168
                          intro x2169 ex2169
                          intro S2170 eS2170
                          have hI : IV S2170 := by rw [eS2170]; exact iv_sI hI o_v0 (by decide) (nu_free (by decide))
                          have f0 := fr_I eS2170 g0 f0 o_v0 (by decide)
                          have d_x2155 := rd_Ij eS2170 (by decide) d_x2155
                          have d_x2166 := rd_Ij eS2170 (by decide) d_x2166
                          have d_x2169 := rd_Is eS2170 (rfl : x2169 = x2169)
                          have hT := tx_I eS2170 hT
                          have g0 := gr_I eS2170 g0
                          have o_v0 := ob_I eS2170 o_v0
                          exact hq _ hI g0 f0 hT
                · refine ⟨o_v0, ?_⟩
                  intro x2171 ex2171
                  have q_x2171 : x2171 = y2120 := ex2171.trans d_y2120.symm
                  have d_x2171 := ex2171
                  refine m_X4_sortAt hI o_v0 hT (fun x2172 S2173 hI2 g2174 p_x2172 => ?_)
                  obtain ⟨z_S2173, p_x2172⟩ := p_x2172
                  subst z_S2173
                  intro _
                  intro x2176 ex2176
                  have q_x2176 : x2176 = x2103 := ex2176.trans d_x2103.symm
                  have d_x2176 := ex2176
                  refine ⟨fun c2177 => ?_, fun c2177 => ?_⟩
                  · refine u_X4_next_217 ?_
                    refine ⟨fun c2178 => ?_, fun c2178 => ?_⟩
                    · refine u_X4_next_240 ?_
                      refine ⟨fun c2179 => ?_, fun c2179 => ?_⟩
                      · exact hq _ hI g0 f0 hT
                      · refine ⟨o_v0, ?_⟩
                        intro x2180 ex2180
                        have q_x2180 : x2180 = x2176 := ex2180.trans d_x2176.symm
                        have d_x2180 := ex2180
                        refine ⟨fun c2181 => ?_, fun c2181 => ?_⟩
                        · exact hq _ hI g0 f0 hT
                        · intro x2182 ex2182
                          have q_x2182 : x2182 = x2171 := ex2182.trans d_x2171.symm
                          have d_x2182 := ex2182
                          intro x2183 ex2183
                          intro S2184 eS2184
                          have hI : IV S2184 := by rw [eS2184]; exact iv_sI hI o_v0 (by decide) (nu_free (by decide))
                          have f0 := fr_I eS2184 g0 f0 o_v0 (by decide)
                          have d_y1575 := rd_Ij eS2184 (by decide) d_y1575
                          have d_x2180 := rd_Ij eS2184 (by decide) d_x2180
                          have d_x2183 := rd_Is eS2184 (rfl : x2183 = x2183)
                          have hT := tx_I eS2184 hT
                          have g0 := gr_I eS2184 g0
                          have o_v0 := ob_I eS2184 o_v0
                          exact hq _ hI g0 f0 hT
                    · refine ⟨o_v0, ?_⟩
                      intro x2185 ex2185
                      have q_x2185 : x2185 = x2171 := ex2185.trans d_x2171.symm
                      have d_x2185 := ex2185
                      intro x2186 ex2186
                      have q_x2186 : x2186 = y1575 := ex2186.trans d_y1575.symm
                      have d_x2186 := ex2186
                      refine ⟨fun c2187 => ?_, fun c2187 => ?_⟩
                      · refine u_X4_next_240 ?_
                        refine ⟨fun c2188 => ?_, fun c2188 => ?_⟩
                        · exact hq _ hI g0 f0 hT
                        · refine ⟨o_v0, ?_⟩
                          intro x2189 ex2189
                          have q_x2189 : x2189 = x2176 := ex2189.trans d_x2176.symm
                          have d_x2189 := ex2189
                          refine ⟨fun c2190 => ?_, fun c2190 => ?_⟩
                          · exact hq _ hI g0 f0 hT
                          · intro x2191 ex2191
                            have q_x2191 : x2191 = x2185 := ex2191.trans d_x2185.symm
                            have d_x2191 := ex2191
                            intro x2192 ex2192
                            intro S2193 eS2193
                            have hI : IV S2193 := by rw [eS2193]; exact iv_sI hI o_v0 (by decide) (nu_free (by decide))
                            have f0 := fr_I eS2193 g0 f0 o_v0 (by decide)
                            have d_x2186 := rd_Ij eS2193 (by decide) d_x2186
                            have d_x2189 := rd_Ij eS2193 (by decide) d_x2189
                            have d_x2192 := rd_Is eS2193 (rfl : x2192 = x2192)
                            have hT := tx_I eS2193 hT
                            have g0 := gr_I eS2193 g0
                            have o_v0 := ob_I eS2193 o_v0
                            exact hq _ hI g0 f0 hT
                      · intro S2194 eS2194
                        have hI : IV S2194 := by rw [eS2194]; exact iv_sI hI o_v0 (by decide) (nu_free (by decide))
                        have f0 := fr_I eS2194 g0 f0 o_v0 (by decide)
                        have d_x2186 := rd_Ij eS2194 (by decide) d_x2186
                        have d_x2185 := rd_Ij eS2194 (by decide) d_x2185
                        obtain ⟨y2195, hy2195⟩ : ∃ z : Int32, z = (6 : Int32) := ⟨_, rfl⟩
                        have d_y2195 := rd_Is eS2194 hy2195
                        have hT := tx_I eS2194 hT
                        have g0 := gr_I eS2194 g0
                        have o_v0 := ob_I eS2194 o_v0
                        refine u_X4_next_240 ?_
                        refine ⟨fun c2196 => ?_, fun c2196 => ?_⟩
                        · exact hq _ hI g0 f0 hT
                        · refine ⟨o_v0, ?_⟩
                          intro x2197 ex2197
                          have q_x2197 : x2197 = y2195 := ex2197.trans d_y2195.symm
                          have d_x2197 := ex2197
                          refine ⟨fun c2198 => ?_, fun c2198 => ?_⟩
                          · exact hq _ hI g0 f0 hT
                          · intro x2199 ex2199
                            have q_x2199 : x2199 = x2185 := ex2199.trans d_x2185.symm
                            have d_x2199 := ex2199
                            intro x2200 ex2200
                            intro S2201 eS2201
                            have hI : IV S2201 := by rw [eS2201]; exact iv_sI hI o_v0 (by decide) (nu_free (by decide))
                            have f0 := fr_I eS2201 g0 f0 o_v0 (by decide)
                            have d_x2186 := rd_Ij eS2201 (by decide) d_x2186
                            have d_x2197 := rd_Ij eS2201 (by decide) d_x2197
                            have d_x2200 := rd_Is eS2201 (rfl : x2200 = x2200)
                            have hT := tx_I eS2201 hT
                            have g0 := gr_I eS2201 g0
                            have o_v0 := ob_I eS2201 o_v0
                            exact hq _ hI g0 f0 hT
                  · refine ⟨fun c2202 => ?_, fun c2202 => ?_⟩
                    · refine u_X4_next_201 ?_
                      refine ⟨o_v0, ?_⟩
                      intro x2203 ex2203
                      have q_x2203 : x2203 = x2171 := ex2203.trans d_x2171.symm
                      have d_x2203 := ex2203
                      intro x2204 ex2204
                      intro S2205 eS2205
                      have hI : IV S2205 := by rw [eS2205]; exact iv_sI hI o_v0 (by decide) (nu_free (by decide))
                      have f0 := fr_I eS2205 g0 f0 o_v0 (by decide)
                      have fL2108 := fr_I eS2205 gL2107 fL2108 o_v0 (by decide)
                      have d_y1575 := rd_Ij eS2205 (by decide) d_y1575
                      have d_x2176 := rd_Ij eS2205 (by decide) d_x2176
                      have d_x2204 := rd_Is eS2205 (rfl : x2204 = x2204)
                      have hT := tx_I eS2205 hT
                      have g0 := gr_I eS2205 g0
                      have gL2107 := gr_I eS2205 gL2107
                      have o_v0 := ob_I eS2205 o_v0
                      intro x2206 ex2206
                      exact ih2119 _ _ _ _ _ _ ⟨hI, gL2107, fL2108, rfl, rfl, rfl, rfl, hT, (q535 i1u1 c10 p_x1568 c1572 q_x1573 hy1575 q_x1576 p_x1577 q_x1583 c1584 q_x2099 c2100 q_x2101 c2102 q_x2103 c2104 i1u2105 p_k1u2105 c2121 c2146 q_x2171 p_x2172 q_x2176 c2177 c2202 q_x2203 ex2204 ex2206), (by rw [← d_x2176, ← d_x2204]; exact (q536 i1u1 c10 p_x1568 c1572 q_x1573 hy1575 q_x1576 p_x1577 q_x1583 c1584 q_x2099 c2100 q_x2101 c2102 q_x2103 c2104 i1u2105 p_k1u2105 c2121 c2146 q_x2171 p_x2172 q_x2176 c2177 c2202 q_x2203 ex2204 ex2206))⟩ (mu_up (q537 i1u1 c10 p_x1568 c1572 q_x1573 hy1575 q_x1576 p_x1577 q_x1583 c1584 q_x2099 c2100 q_x2101 c2102 q_x2103 c2104 i1u2105 p_k1u2105 c2121 c2146 q_x2171 p_x2172 q_x2176 c2177 c2202 q_x2203 ex2204 ex2206) (q538 i1u1 c10 p_x1568 c1572 q_x1573 hy1575 q_x1576 p_x1577 q_x1583 c1584 q_x2099 c2100 q_x2101 c2102 q_x2103 c2104 i1u2105 p_k1u2105 c2121 c2146 q_x2171 p_x2172 q_x2176 c2177 c2202 q_x2203 ex2204 ex2206))
                    · intro x2207 ex2207
                      have q_x2207 : x2207 = x2171 := ex2207.trans d_x2171.symm
                      have d_x2207 := ex2207
                      obtain ⟨a2208, ea2208, o_a2208, l_a2208⟩ := id hT
                      refine ⟨a2208, ea2208, ?_⟩
                      refine ⟨o_a2208, ?_⟩
                      have n_a2208 : nI (hN S2106 a2208) = 900 := by rw [show hN S2106 a2208 = 900 from l_a2208]; decide
                      refine ⟨fun c2209 => ?_, fun c2209 => ?_⟩
                      · rw [n_a2208] at c2209
                        refine u_X4_next_201 ?_
                        refine ⟨o_v0, ?_⟩
                        intro x2210 ex2210
                        have q_x2210 : x2210 = x2207 := ex2210.trans d_x2207.symm
                        have d_x2210 := ex2210
                        intro x2211 ex2211
                        intro S2212 eS2212
                        have hI : IV S2212 := by rw [eS2212]; exact iv_sI hI o_v0 (by decide) (nu_free (by decide))
                        have f0 := fr_I eS2212 g0 f0 o_v0 (by decide)
                        have fL2108 := fr_I eS2212 gL2107 fL2108 o_v0 (by decide)
                        have d_y1575 := rd_Ij eS2212 (by decide) d_y1575
                        have d_x2176 := rd_Ij eS2212 (by decide) d_x2176
                        have d_x2211 := rd_Is eS2212 (rfl : x2211 = x2211)
                        have ea2208 := rf_I eS2212 ea2208
                        have hT := tx_I eS2212 hT
                        have l_a2208 := ln_I eS2212 l_a2208
                        have g0 := gr_I eS2212 g0
                        have gL2107 := gr_I eS2212 gL2107
                        have o_a2208 := ob_I eS2212 o_a2208
                        have o_v0 := ob_I eS2212 o_v0
                        intro x2213 ex2213
                        exact ih2119 _ _ _ _ _ _ ⟨hI, gL2107, fL2108, rfl, rfl, rfl, rfl, hT, (q539 i1u1 c10 p_x1568 c1572 q_x1573 hy1575 q_x1576 p_x1577 q_x1583 c1584 q_x2099 c2100 q_x2101 c2102 q_x2103 c2104 i1u2105 p_k1u2105 c2121 c2146 q_x2171 p_x2172 q_x2176 c2177 c2202 q_x2207 c2209 q_x2210 ex2211 ex2213), (by rw [← d_x2176, ← d_x2211]; exact (q540 i1u1 c10 p_x1568 c1572 q_x1573 hy1575 q_x1576 p_x1577 q_x1583 c1584 q_x2099 c2100 q_x2101 c2102 q_x2103 c2104 i1u2105 p_k1u2105 c2121 c2146 q_x2171 p_x2172 q_x2176 c2177 c2202 q_x2207 c2209 q_x2210 ex2211 ex2213))⟩ (mu_up (q541 i1u1 c10 p_x1568 c1572 q_x1573 hy1575 q_x1576 p_x1577 q_x1583 c1584 q_x2099 c2100 q_x2101 c2102 q_x2103 c2104 i1u2105 p_k1u2105 c2121 c2146 q_x2171 p_x2172 q_x2176 c2177 c2202 q_x2207 c2209 q_x2210 ex2211 ex2213) (q542 i1u1 c10 p_x1568 c1572 q_x1573 hy1575 q_x1576 p_x1577 q_x1583 c1584 q_x2099 c2100 q_x2101 c2102 q_x2103 c2104 i1u2105 p_k1u2105 c2121 c2146 q_x2171 p_x2172 q_x2176 c2177 c2202 q_x2207 c2209 q_x2210 ex2211 ex2213))
                      · rw [n_a2208] at c2209
                        intro x2214 ex2214
                        have dj_x2214 := ex2214
                        refine ⟨a2208, ea2208, ?_⟩
                        intro x2216 ex2216
                        have q_x2216 : x2216 = x2207 := ex2216.trans d_x2207.symm
                        have d_x2216 := ex2216
                        refine ⟨o_a2208, ?_⟩
                        refine ⟨(vin l_a2208 (m := 900) (by decide) (q543 i1u1 c10 p_x1568 c1572 q_x1573 hy1575 q_x1576 p_x1577 q_x1583 c1584 q_x2099 c2100 q_x2101 c2102 q_x2103 c2104 i1u2105 p_k1u2105 c2121 c2146 q_x2171 p_x2172 q_x2176 c2177 c2202 q_x2207 c2209 q_x2216)), ?_⟩
                        intro x2217 ex2217
                        intro x2218 ex2218
                        have q_x2218 : x2218 = x2176 := ex2218.trans d_x2176.symm
                        have d_x2218 := ex2218
                        refine ⟨fun c2219 => ?_, fun c2219 => ?_⟩
                        · refine u_X4_next_195 ?_
                          refine ⟨o_v0, ?_⟩
                          intro x2220 ex2220
                          intro S2221 eS2221
                          have hI : IV S2221 := by rw [eS2221]; exact iv_sJ hI o_v0 (by decide)
                          have f0 := fr_J eS2221 f0
                          have fL2108 := fr_J eS2221 fL2108
                          have d_y1575 := rd_J eS2221 d_y1575
                          have d_x2218 := rd_J eS2221 d_x2218
                          have d_x2216 := rd_J eS2221 d_x2216
                          have ea2208 := rf_J eS2221 ea2208
                          have hT := tx_J eS2221 hT
                          have l_a2208 := ln_J eS2221 l_a2208
                          have g0 := gr_J eS2221 g0
                          have gL2107 := gr_J eS2221 gL2107
                          have o_a2208 := ob_J eS2221 o_a2208
                          have o_v0 := ob_J eS2221 o_v0
                          refine u_X4_next_201 ?_
                          refine ⟨o_v0, ?_⟩
                          intro x2222 ex2222
                          have q_x2222 : x2222 = x2216 := ex2222.trans d_x2216.symm
                          have d_x2222 := ex2222
                          intro x2223 ex2223
                          intro S2224 eS2224
                          have hI : IV S2224 := by rw [eS2224]; exact iv_sI hI o_v0 (by decide) (nu_free (by decide))
                          have f0 := fr_I eS2224 g0 f0 o_v0 (by decide)
                          have fL2108 := fr_I eS2224 gL2107 fL2108 o_v0 (by decide)
                          have d_y1575 := rd_Ij eS2224 (by decide) d_y1575
                          have d_x2218 := rd_Ij eS2224 (by decide) d_x2218
                          have d_x2223 := rd_Is eS2224 (rfl : x2223 = x2223)
                          have ea2208 := rf_I eS2224 ea2208
                          have hT := tx_I eS2224 hT
                          have l_a2208 := ln_I eS2224 l_a2208
                          have g0 := gr_I eS2224 g0
                          have gL2107 := gr_I eS2224 gL2107
                          have o_a2208 := ob_I eS2224 o_a2208
                          have o_v0 := ob_I eS2224 o_v0
                          intro x2225 ex2225
                          exact ih2119 _ _ _ _ _ _ ⟨hI, gL2107, fL2108, rfl, rfl, rfl, rfl, hT, (q544 i1u1 c10 p_x1568 c1572 q_x1573 hy1575 q_x1576 p_x1577 q_x1583 c1584 q_x2099 c2100 q_x2101 c2102 q_x2103 c2104 i1u2105 p_k1u2105 c2121 c2146 q_x2171 p_x2172 q_x2176 c2177 c2202 q_x2207 c2209 q_x2216 q_x2218 c2219 q_x2222 ex2223 ex2225), (by rw [← d_x2218, ← d_x2223]; exact (q545 i1u1 c10 p_x1568 c1572 q_x1573 hy1575 q_x1576 p_x1577 q_x1583 c1584 q_x2099 c2100 q_x2101 c2102 q_x2103 c2104 i1u2105 p_k1u2105 c2121 c2146 q_x2171 p_x2172 q_x2176 c2177 c2202 q_x2207 c2209 q_x2216 q_x2218 c2219 q_x2222 ex2223 ex2225))⟩ (mu_up (q546 i1u1 c10 p_x1568 c1572 q_x1573 hy1575 q_x1576 p_x1577 q_x1583 c1584 q_x2099 c2100 q_x2101 c2102 q_x2103 c2104 i1u2105 p_k1u2105 c2121 c2146 q_x2171 p_x2172 q_x2176 c2177 c2202 q_x2207 c2209 q_x2216 q_x2218 c2219 q_x2222 ex2223 ex2225) (q547 i1u1 c10 p_x1568 c1572 q_x1573 hy1575 q_x1576 p_x1577 q_x1583 c1584 q_x2099 c2100 q_x2101 c2102 q_x2103 c2104 i1u2105 p_k1u2105 c2121 c2146 q_x2171 p_x2172 q_x2176 c2177 c2202 q_x2207 c2209 q_x2216 q_x2218 c2219 q_x2222 ex2223 ex2225))
                        · refine u_X4_next_195 ?_
                          refine ⟨o_v0, ?_⟩
                          intro x2226 ex2226
                          intro S2227 eS2227
                          have hI : IV S2227 := by rw [eS2227]; exact iv_sJ hI o_v0 (by decide)
                          have f0 := fr_J eS2227 f0
                          have fL2108 := fr_J eS2227 fL2108
                          have d_y1575 := rd_J eS2227 d_y1575
                          have d_x2218 := rd_J eS2227 d_x2218
                          have d_x2216 := rd_J eS2227 d_x2216
                          have ea2208 := rf_J eS2227 ea2208
                          have hT := tx_J eS2227 hT
                          have l_a2208 := ln_J eS2227 l_a2208
                          have g0 := gr_J eS2227 g0
                          have gL2107 := gr_J eS2227 gL2107
                          have o_a2208 := ob_J eS2227 o_a2208
                          have o_v0 := ob_J eS2227 o_v0
                          refine u_X4_next_201 ?_
                          refine ⟨o_v0, ?_⟩
                          intro x2228 ex2228
                          have q_x2228 : x2228 = x2216 := ex2228.trans d_x2216.symm
                          have d_x2228 := ex2228
                          intro x2229 ex2229
                          intro S2230 eS2230
                          have hI : IV S2230 := by rw [eS2230]; exact iv_sI hI o_v0 (by decide) (nu_free (by decide))
                          have f0 := fr_I eS2230 g0 f0 o_v0 (by decide)
                          have fL2108 := fr_I eS2230 gL2107 fL2108 o_v0 (by decide)
                          have d_y1575 := rd_Ij eS2230 (by decide) d_y1575
                          have d_x2218 := rd_Ij eS2230 (by decide) d_x2218
                          have d_x2229 := rd_Is eS2230 (rfl : x2229 = x2229)
                          have ea2208 := rf_I eS2230 ea2208
                          have hT := tx_I eS2230 hT
                          have l_a2208 := ln_I eS2230 l_a2208
                          have g0 := gr_I eS2230 g0
                          have gL2107 := gr_I eS2230 gL2107
                          have o_a2208 := ob_I eS2230 o_a2208
                          have o_v0 := ob_I eS2230 o_v0
                          intro x2231 ex2231
                          exact ih2119 _ _ _ _ _ _ ⟨hI, gL2107, fL2108, rfl, rfl, rfl, rfl, hT, (q548 i1u1 c10 p_x1568 c1572 q_x1573 hy1575 q_x1576 p_x1577 q_x1583 c1584 q_x2099 c2100 q_x2101 c2102 q_x2103 c2104 i1u2105 p_k1u2105 c2121 c2146 q_x2171 p_x2172 q_x2176 c2177 c2202 q_x2207 c2209 q_x2216 q_x2218 c2219 q_x2228 ex2229 ex2231), (by rw [← d_x2218, ← d_x2229]; exact (q549 i1u1 c10 p_x1568 c1572 q_x1573 hy1575 q_x1576 p_x1577 q_x1583 c1584 q_x2099 c2100 q_x2101 c2102 q_x2103 c2104 i1u2105 p_k1u2105 c2121 c2146 q_x2171 p_x2172 q_x2176 c2177 c2202 q_x2207 c2209 q_x2216 q_x2218 c2219 q_x2228 ex2229 ex2231))⟩ (mu_up (q550 i1u1 c10 p_x1568 c1572 q_x1573 hy1575 q_x1576 p_x1577 q_x1583 c1584 q_x2099 c2100 q_x2101 c2102 q_x2103 c2104 i1u2105 p_k1u2105 c2121 c2146 q_x2171 p_x2172 q_x2176 c2177 c2202 q_x2207 c2209 q_x2216 q_x2218 c2219 q_x2228 ex2229 ex2231) (q551 i1u1 c10 p_x1568 c1572 q_x1573 hy1575 q_x1576 p_x1577 q_x1583 c1584 q_x2099 c2100 q_x2101 c2102 q_x2103 c2104 i1u2105 p_k1u2105 c2121 c2146 q_x2171 p_x2172 q_x2176 c2177 c2202 q_x2207 c2209 q_x2216 q_x2218 c2219 q_x2228 ex2229 ex2231))
            · refine u_X4_next_114 ?_
              refine i_X4_next_118 (fun (y0 : Nat) (y1 : Int32) (y2 : Int32) (y3 : Int32) (y4 : Int32) (Z : HS) => ((2147483647 : Int32).toInt - y4.toInt).toNat) (fun (y0 : Nat) (y1 : Int32) (y2 : Int32) (y3 : Int32) (y4 : Int32) (Z : HS) => (IV Z) ∧ (Gr S1582 Z) ∧ (FRI [(4, 4)] [] S1582 Z) ∧ (v0 = y0) ∧ ((0 : Int32) = y1) ∧ ((3 : Int32) = y2) ∧ ((32 : Int32) = y3) ∧ (TX Z v0) ∧ (0 ≤ y4) ∧ ((y1 = 0 ∨ fI Z v0 6 = 1 ∨ fI Z v0 6 = 2) ∧ (y1 = 0 → fI Z v0 6 = 0 ∨ (0 ≤ fI Z v0 4 ∧ fI Z v0 4 < 900)))) ?_ _ _ _ _ _ _ ⟨hI, (gr_rf _), (fri_rf _ _ _), rfl, rfl, rfl, rfl, hT, (q552 i1u1 c10 p_x1568 c1572 q_x1573 hy1575 q_x1576 p_x1577 q_x1583 c1584 q_x2099 c2100 q_x2101 c2102 q_x2103 c2104), (by rw [← d_x2103, ← d_x1576]; exact (q553 i1u1 c10 p_x1568 c1572 q_x1573 hy1575 q_x1576 p_x1577 q_x1583 c1584 q_x2099 c2100 q_x2101 c2102 q_x2103 c2104))⟩
              intro w2236 w2238 w2240 w2242 w2244 S2233 X2245 ⟨hI, gL2234, fL2235, q2237, q2239, q2241, q2243, hT, i1u2232, k1u2232⟩ ih2246
              subst q2237
              subst q2239
              subst q2241
              subst q2243
              have d_y1575 := d_y1575.trans (fri_at fL2235 (by decide) (by decide) o_v0).symm
              have d_x2103 := d_x2103.trans (fri_at fL2235 (by decide) (by decide) o_v0).symm
              have f0 := fri_tr (S := S1582) g0 f0 fL2235 (by decide) (by decide)
              have o_v0 := gr_ob gL2234 o_v0
              have g0 := gr_tr (T := S1582) g0 gL2234
              obtain ⟨y2247, d_y2247⟩ : ∃ z : Int32, z = fI S2233 v0 4 := ⟨_, rfl⟩
              have p_k1u2232 : ((0 : Int32) = 0 ∨ x2103 = 1 ∨ x2103 = 2) ∧ ((0 : Int32) = 0 → x2103 = 0 ∨ (0 ≤ y2247 ∧ y2247 < 900)) := by rw [d_x2103, d_y2247]; exact k1u2232
              refine u_X4_next_118 ?_
              refine ⟨fun c2248 => ?_, fun c2248 => ?_⟩
              · refine u_X4_next_217 ?_
                refine ⟨fun c2249 => ?_, fun c2249 => ?_⟩
                · refine u_X4_next_240 ?_
                  refine ⟨fun c2250 => ?_, fun c2250 => ?_⟩
                  · exact hq _ hI g0 f0 hT
                  · refine ⟨o_v0, ?_⟩
                    intro x2251 ex2251
                    have q_x2251 : x2251 = x2103 := ex2251.trans d_x2103.symm
                    have d_x2251 := ex2251
                    refine ⟨fun c2252 => ?_, fun c2252 => ?_⟩
                    · exact hq _ hI g0 f0 hT
                    · intro x2253 ex2253
                      have q_x2253 : x2253 = y2247 := ex2253.trans d_y2247.symm
                      have d_x2253 := ex2253
                      intro x2254 ex2254
                      intro S2255 eS2255
                      have hI : IV S2255 := by rw [eS2255]; exact iv_sI hI o_v0 (by decide) (nu_free (by decide))
                      have f0 := fr_I eS2255 g0 f0 o_v0 (by decide)
                      have d_y1575 := rd_Ij eS2255 (by decide) d_y1575
                      have d_x2251 := rd_Ij eS2255 (by decide) d_x2251
                      have d_x2254 := rd_Is eS2255 (rfl : x2254 = x2254)
                      have hT := tx_I eS2255 hT
                      have g0 := gr_I eS2255 g0
                      have o_v0 := ob_I eS2255 o_v0
                      exact hq _ hI g0 f0 hT
                · refine ⟨o_v0, ?_⟩
                  intro x2256 ex2256
                  have q_x2256 : x2256 = y2247 := ex2256.trans d_y2247.symm
                  have d_x2256 := ex2256
                  intro x2257 ex2257
                  have q_x2257 : x2257 = y1575 := ex2257.trans d_y1575.symm
                  have d_x2257 := ex2257
                  refine ⟨fun c2258 => ?_, fun c2258 => ?_⟩
                  · refine u_X4_next_240 ?_
                    refine ⟨fun c2259 => ?_, fun c2259 => ?_⟩
                    · exact hq _ hI g0 f0 hT
                    · refine ⟨o_v0, ?_⟩
                      intro x2260 ex2260
                      have q_x2260 : x2260 = x2103 := ex2260.trans d_x2103.symm
                      have d_x2260 := ex2260
                      refine ⟨fun c2261 => ?_, fun c2261 => ?_⟩
                      · exact hq _ hI g0 f0 hT
                      · intro x2262 ex2262
                        have q_x2262 : x2262 = x2256 := ex2262.trans d_x2256.symm
                        have d_x2262 := ex2262
                        intro x2263 ex2263
                        intro S2264 eS2264
                        have hI : IV S2264 := by rw [eS2264]; exact iv_sI hI o_v0 (by decide) (nu_free (by decide))
                        have f0 := fr_I eS2264 g0 f0 o_v0 (by decide)
                        have d_x2257 := rd_Ij eS2264 (by decide) d_x2257
                        have d_x2260 := rd_Ij eS2264 (by decide) d_x2260
                        have d_x2263 := rd_Is eS2264 (rfl : x2263 = x2263)
                        have hT := tx_I eS2264 hT
                        have g0 := gr_I eS2264 g0
                        have o_v0 := ob_I eS2264 o_v0
                        exact hq _ hI g0 f0 hT
                  · intro S2265 eS2265
                    have hI : IV S2265 := by rw [eS2265]; exact iv_sI hI o_v0 (by decide) (nu_free (by decide))
                    have f0 := fr_I eS2265 g0 f0 o_v0 (by decide)
                    have d_x2257 := rd_Ij eS2265 (by decide) d_x2257
                    have d_x2256 := rd_Ij eS2265 (by decide) d_x2256
                    obtain ⟨y2266, hy2266⟩ : ∃ z : Int32, z = (6 : Int32) := ⟨_, rfl⟩
                    have d_y2266 := rd_Is eS2265 hy2266
                    have hT := tx_I eS2265 hT
                    have g0 := gr_I eS2265 g0
                    have o_v0 := ob_I eS2265 o_v0
                    refine u_X4_next_240 ?_
                    refine ⟨fun c2267 => ?_, fun c2267 => ?_⟩
                    · exact hq _ hI g0 f0 hT
                    · refine ⟨o_v0, ?_⟩
                      intro x2268 ex2268
                      have q_x2268 : x2268 = y2266 := ex2268.trans d_y2266.symm
                      have d_x2268 := ex2268
                      refine ⟨fun c2269 => ?_, fun c2269 => ?_⟩
                      · exact hq _ hI g0 f0 hT
                      · intro x2270 ex2270
                        have q_x2270 : x2270 = x2256 := ex2270.trans d_x2256.symm
                        have d_x2270 := ex2270
                        intro x2271 ex2271
                        intro S2272 eS2272
                        have hI : IV S2272 := by rw [eS2272]; exact iv_sI hI o_v0 (by decide) (nu_free (by decide))
                        have f0 := fr_I eS2272 g0 f0 o_v0 (by decide)
                        have d_x2257 := rd_Ij eS2272 (by decide) d_x2257
                        have d_x2268 := rd_Ij eS2272 (by decide) d_x2268
                        have d_x2271 := rd_Is eS2272 (rfl : x2271 = x2271)
                        have hT := tx_I eS2272 hT
                        have g0 := gr_I eS2272 g0
                        have o_v0 := ob_I eS2272 o_v0
                        exact hq _ hI g0 f0 hT
              · refine ⟨fun c2273 => ?_, fun c2273 => ?_⟩
                · refine u_X4_next_217 ?_
                  refine ⟨fun c2274 => ?_, fun c2274 => ?_⟩
                  · refine u_X4_next_240 ?_
                    refine ⟨fun c2275 => ?_, fun c2275 => ?_⟩
                    · exact hq _ hI g0 f0 hT
                    · refine ⟨o_v0, ?_⟩
                      intro x2276 ex2276
                      have q_x2276 : x2276 = x2103 := ex2276.trans d_x2103.symm
                      have d_x2276 := ex2276
                      refine ⟨fun c2277 => ?_, fun c2277 => ?_⟩
                      · exact hq _ hI g0 f0 hT
                      · intro x2278 ex2278
                        have q_x2278 : x2278 = y2247 := ex2278.trans d_y2247.symm
                        have d_x2278 := ex2278
                        intro x2279 ex2279
                        intro S2280 eS2280
                        have hI : IV S2280 := by rw [eS2280]; exact iv_sI hI o_v0 (by decide) (nu_free (by decide))
                        have f0 := fr_I eS2280 g0 f0 o_v0 (by decide)
                        have d_y1575 := rd_Ij eS2280 (by decide) d_y1575
                        have d_x2276 := rd_Ij eS2280 (by decide) d_x2276
                        have d_x2279 := rd_Is eS2280 (rfl : x2279 = x2279)
                        have hT := tx_I eS2280 hT
                        have g0 := gr_I eS2280 g0
                        have o_v0 := ob_I eS2280 o_v0
                        exact hq _ hI g0 f0 hT
                  · refine ⟨o_v0, ?_⟩
                    intro x2281 ex2281
                    have q_x2281 : x2281 = y2247 := ex2281.trans d_y2247.symm
                    have d_x2281 := ex2281
                    intro x2282 ex2282
                    have q_x2282 : x2282 = y1575 := ex2282.trans d_y1575.symm
                    have d_x2282 := ex2282
                    refine ⟨fun c2283 => ?_, fun c2283 => ?_⟩
                    · refine u_X4_next_240 ?_
                      refine ⟨fun c2284 => ?_, fun c2284 => ?_⟩
                      · exact hq _ hI g0 f0 hT
                      · refine ⟨o_v0, ?_⟩
                        intro x2285 ex2285
                        have q_x2285 : x2285 = x2103 := ex2285.trans d_x2103.symm
                        have d_x2285 := ex2285
                        refine ⟨fun c2286 => ?_, fun c2286 => ?_⟩
                        · exact hq _ hI g0 f0 hT
                        · intro x2287 ex2287
                          have q_x2287 : x2287 = x2281 := ex2287.trans d_x2281.symm
                          have d_x2287 := ex2287
                          intro x2288 ex2288
                          intro S2289 eS2289
                          have hI : IV S2289 := by rw [eS2289]; exact iv_sI hI o_v0 (by decide) (nu_free (by decide))
                          have f0 := fr_I eS2289 g0 f0 o_v0 (by decide)
                          have d_x2282 := rd_Ij eS2289 (by decide) d_x2282
                          have d_x2285 := rd_Ij eS2289 (by decide) d_x2285
                          have d_x2288 := rd_Is eS2289 (rfl : x2288 = x2288)
                          have hT := tx_I eS2289 hT
                          have g0 := gr_I eS2289 g0
                          have o_v0 := ob_I eS2289 o_v0
                          exact hq _ hI g0 f0 hT
                    · intro S2290 eS2290
                      have hI : IV S2290 := by rw [eS2290]; exact iv_sI hI o_v0 (by decide) (nu_free (by decide))
                      have f0 := fr_I eS2290 g0 f0 o_v0 (by decide)
                      have d_x2282 := rd_Ij eS2290 (by decide) d_x2282
                      have d_x2281 := rd_Ij eS2290 (by decide) d_x2281
                      obtain ⟨y2291, hy2291⟩ : ∃ z : Int32, z = (6 : Int32) := ⟨_, rfl⟩
                      have d_y2291 := rd_Is eS2290 hy2291
                      have hT := tx_I eS2290 hT
                      have g0 := gr_I eS2290 g0
                      have o_v0 := ob_I eS2290 o_v0
                      refine u_X4_next_240 ?_
                      refine ⟨fun c2292 => ?_, fun c2292 => ?_⟩
                      · exact hq _ hI g0 f0 hT
                      · refine ⟨o_v0, ?_⟩
                        intro x2293 ex2293
                        have q_x2293 : x2293 = y2291 := ex2293.trans d_y2291.symm
                        have d_x2293 := ex2293
                        refine ⟨fun c2294 => ?_, fun c2294 => ?_⟩
                        · exact hq _ hI g0 f0 hT
                        · intro x2295 ex2295
                          have q_x2295 : x2295 = x2281 := ex2295.trans d_x2281.symm
                          have d_x2295 := ex2295
                          intro x2296 ex2296
                          intro S2297 eS2297
                          have hI : IV S2297 := by rw [eS2297]; exact iv_sI hI o_v0 (by decide) (nu_free (by decide))
                          have f0 := fr_I eS2297 g0 f0 o_v0 (by decide)
                          have d_x2282 := rd_Ij eS2297 (by decide) d_x2282
                          have d_x2293 := rd_Ij eS2297 (by decide) d_x2293
                          have d_x2296 := rd_Is eS2297 (rfl : x2296 = x2296)
                          have hT := tx_I eS2297 hT
                          have g0 := gr_I eS2297 g0
                          have o_v0 := ob_I eS2297 o_v0
                          exact hq _ hI g0 f0 hT
                · refine ⟨o_v0, ?_⟩
                  intro x2298 ex2298
                  have q_x2298 : x2298 = y2247 := ex2298.trans d_y2247.symm
                  have d_x2298 := ex2298
                  refine m_X4_sortAt hI o_v0 hT (fun x2299 S2300 hI2 g2301 p_x2299 => ?_)
                  obtain ⟨z_S2300, p_x2299⟩ := p_x2299
                  subst z_S2300
                  intro _
                  intro x2303 ex2303
                  have q_x2303 : x2303 = x2103 := ex2303.trans d_x2103.symm
                  have d_x2303 := ex2303
                  refine ⟨fun c2304 => ?_, fun c2304 => ?_⟩
                  · refine u_X4_next_217 ?_
                    refine ⟨fun c2305 => ?_, fun c2305 => ?_⟩
                    · refine u_X4_next_240 ?_
                      refine ⟨fun c2306 => ?_, fun c2306 => ?_⟩
                      · exact hq _ hI g0 f0 hT
                      · refine ⟨o_v0, ?_⟩
                        intro x2307 ex2307
                        have q_x2307 : x2307 = x2303 := ex2307.trans d_x2303.symm
                        have d_x2307 := ex2307
                        refine ⟨fun c2308 => ?_, fun c2308 => ?_⟩
                        · exact hq _ hI g0 f0 hT
                        · intro x2309 ex2309
                          have q_x2309 : x2309 = x2298 := ex2309.trans d_x2298.symm
                          have d_x2309 := ex2309
                          intro x2310 ex2310
                          intro S2311 eS2311
                          have hI : IV S2311 := by rw [eS2311]; exact iv_sI hI o_v0 (by decide) (nu_free (by decide))
                          have f0 := fr_I eS2311 g0 f0 o_v0 (by decide)
                          have d_y1575 := rd_Ij eS2311 (by decide) d_y1575
                          have d_x2307 := rd_Ij eS2311 (by decide) d_x2307
                          have d_x2310 := rd_Is eS2311 (rfl : x2310 = x2310)
                          have hT := tx_I eS2311 hT
                          have g0 := gr_I eS2311 g0
                          have o_v0 := ob_I eS2311 o_v0
                          exact hq _ hI g0 f0 hT
                    · refine ⟨o_v0, ?_⟩
                      intro x2312 ex2312
                      have q_x2312 : x2312 = x2298 := ex2312.trans d_x2298.symm
                      have d_x2312 := ex2312
                      intro x2313 ex2313
                      have q_x2313 : x2313 = y1575 := ex2313.trans d_y1575.symm
                      have d_x2313 := ex2313
                      refine ⟨fun c2314 => ?_, fun c2314 => ?_⟩
                      · refine u_X4_next_240 ?_
                        refine ⟨fun c2315 => ?_, fun c2315 => ?_⟩
                        · exact hq _ hI g0 f0 hT
                        · refine ⟨o_v0, ?_⟩
                          intro x2316 ex2316
                          have q_x2316 : x2316 = x2303 := ex2316.trans d_x2303.symm
                          have d_x2316 := ex2316
                          refine ⟨fun c2317 => ?_, fun c2317 => ?_⟩
                          · exact hq _ hI g0 f0 hT
                          · intro x2318 ex2318
                            have q_x2318 : x2318 = x2312 := ex2318.trans d_x2312.symm
                            have d_x2318 := ex2318
                            intro x2319 ex2319
                            intro S2320 eS2320
                            have hI : IV S2320 := by rw [eS2320]; exact iv_sI hI o_v0 (by decide) (nu_free (by decide))
                            have f0 := fr_I eS2320 g0 f0 o_v0 (by decide)
                            have d_x2313 := rd_Ij eS2320 (by decide) d_x2313
                            have d_x2316 := rd_Ij eS2320 (by decide) d_x2316
                            have d_x2319 := rd_Is eS2320 (rfl : x2319 = x2319)
                            have hT := tx_I eS2320 hT
                            have g0 := gr_I eS2320 g0
                            have o_v0 := ob_I eS2320 o_v0
                            exact hq _ hI g0 f0 hT
                      · intro S2321 eS2321
                        have hI : IV S2321 := by rw [eS2321]; exact iv_sI hI o_v0 (by decide) (nu_free (by decide))
                        have f0 := fr_I eS2321 g0 f0 o_v0 (by decide)
                        have d_x2313 := rd_Ij eS2321 (by decide) d_x2313
                        have d_x2312 := rd_Ij eS2321 (by decide) d_x2312
                        obtain ⟨y2322, hy2322⟩ : ∃ z : Int32, z = (6 : Int32) := ⟨_, rfl⟩
                        have d_y2322 := rd_Is eS2321 hy2322
                        have hT := tx_I eS2321 hT
                        have g0 := gr_I eS2321 g0
                        have o_v0 := ob_I eS2321 o_v0
                        refine u_X4_next_240 ?_
                        refine ⟨fun c2323 => ?_, fun c2323 => ?_⟩
                        · exact hq _ hI g0 f0 hT
                        · refine ⟨o_v0, ?_⟩
                          intro x2324 ex2324
                          have q_x2324 : x2324 = y2322 := ex2324.trans d_y2322.symm
                          have d_x2324 := ex2324
                          refine ⟨fun c2325 => ?_, fun c2325 => ?_⟩
                          · exact hq _ hI g0 f0 hT
                          · intro x2326 ex2326
                            have q_x2326 : x2326 = x2312 := ex2326.trans d_x2312.symm
                            have d_x2326 := ex2326
                            intro x2327 ex2327
                            intro S2328 eS2328
                            have hI : IV S2328 := by rw [eS2328]; exact iv_sI hI o_v0 (by decide) (nu_free (by decide))
                            have f0 := fr_I eS2328 g0 f0 o_v0 (by decide)
                            have d_x2313 := rd_Ij eS2328 (by decide) d_x2313
                            have d_x2324 := rd_Ij eS2328 (by decide) d_x2324
                            have d_x2327 := rd_Is eS2328 (rfl : x2327 = x2327)
                            have hT := tx_I eS2328 hT
                            have g0 := gr_I eS2328 g0
                            have o_v0 := ob_I eS2328 o_v0
                            exact hq _ hI g0 f0 hT
                  · refine ⟨fun c2329 => ?_, fun c2329 => ?_⟩
                    · refine u_X4_next_201 ?_
                      refine ⟨o_v0, ?_⟩
                      intro x2330 ex2330
                      have q_x2330 : x2330 = x2298 := ex2330.trans d_x2298.symm
                      have d_x2330 := ex2330
                      intro x2331 ex2331
                      intro S2332 eS2332
                      have hI : IV S2332 := by rw [eS2332]; exact iv_sI hI o_v0 (by decide) (nu_free (by decide))
                      have f0 := fr_I eS2332 g0 f0 o_v0 (by decide)
                      have fL2235 := fr_I eS2332 gL2234 fL2235 o_v0 (by decide)
                      have d_y1575 := rd_Ij eS2332 (by decide) d_y1575
                      have d_x2303 := rd_Ij eS2332 (by decide) d_x2303
                      have d_x2331 := rd_Is eS2332 (rfl : x2331 = x2331)
                      have hT := tx_I eS2332 hT
                      have g0 := gr_I eS2332 g0
                      have gL2234 := gr_I eS2332 gL2234
                      have o_v0 := ob_I eS2332 o_v0
                      intro x2333 ex2333
                      exact ih2246 _ _ _ _ _ _ ⟨hI, gL2234, fL2235, rfl, rfl, rfl, rfl, hT, (q554 i1u1 c10 p_x1568 c1572 q_x1573 hy1575 q_x1576 p_x1577 q_x1583 c1584 q_x2099 c2100 q_x2101 c2102 q_x2103 c2104 i1u2232 p_k1u2232 c2248 c2273 q_x2298 p_x2299 q_x2303 c2304 c2329 q_x2330 ex2331 ex2333), (by rw [← d_x2303, ← d_x2331]; exact (q555 i1u1 c10 p_x1568 c1572 q_x1573 hy1575 q_x1576 p_x1577 q_x1583 c1584 q_x2099 c2100 q_x2101 c2102 q_x2103 c2104 i1u2232 p_k1u2232 c2248 c2273 q_x2298 p_x2299 q_x2303 c2304 c2329 q_x2330 ex2331 ex2333))⟩ (mu_up (q556 i1u1 c10 p_x1568 c1572 q_x1573 hy1575 q_x1576 p_x1577 q_x1583 c1584 q_x2099 c2100 q_x2101 c2102 q_x2103 c2104 i1u2232 p_k1u2232 c2248 c2273 q_x2298 p_x2299 q_x2303 c2304 c2329 q_x2330 ex2331 ex2333) (q557 i1u1 c10 p_x1568 c1572 q_x1573 hy1575 q_x1576 p_x1577 q_x1583 c1584 q_x2099 c2100 q_x2101 c2102 q_x2103 c2104 i1u2232 p_k1u2232 c2248 c2273 q_x2298 p_x2299 q_x2303 c2304 c2329 q_x2330 ex2331 ex2333))
                    · intro x2334 ex2334
                      have q_x2334 : x2334 = x2298 := ex2334.trans d_x2298.symm
                      have d_x2334 := ex2334
                      obtain ⟨a2335, ea2335, o_a2335, l_a2335⟩ := id hT
                      refine ⟨a2335, ea2335, ?_⟩
                      refine ⟨o_a2335, ?_⟩
                      have n_a2335 : nI (hN S2233 a2335) = 900 := by rw [show hN S2233 a2335 = 900 from l_a2335]; decide
                      refine ⟨fun c2336 => ?_, fun c2336 => ?_⟩
                      · rw [n_a2335] at c2336
                        refine u_X4_next_201 ?_
                        refine ⟨o_v0, ?_⟩
                        intro x2337 ex2337
                        have q_x2337 : x2337 = x2334 := ex2337.trans d_x2334.symm
                        have d_x2337 := ex2337
                        intro x2338 ex2338
                        intro S2339 eS2339
                        have hI : IV S2339 := by rw [eS2339]; exact iv_sI hI o_v0 (by decide) (nu_free (by decide))
                        have f0 := fr_I eS2339 g0 f0 o_v0 (by decide)
                        have fL2235 := fr_I eS2339 gL2234 fL2235 o_v0 (by decide)
                        have d_y1575 := rd_Ij eS2339 (by decide) d_y1575
                        have d_x2303 := rd_Ij eS2339 (by decide) d_x2303
                        have d_x2338 := rd_Is eS2339 (rfl : x2338 = x2338)
                        have ea2335 := rf_I eS2339 ea2335
                        have hT := tx_I eS2339 hT
                        have l_a2335 := ln_I eS2339 l_a2335
                        have g0 := gr_I eS2339 g0
                        have gL2234 := gr_I eS2339 gL2234
                        have o_a2335 := ob_I eS2339 o_a2335
                        have o_v0 := ob_I eS2339 o_v0
                        intro x2340 ex2340
                        exact ih2246 _ _ _ _ _ _ ⟨hI, gL2234, fL2235, rfl, rfl, rfl, rfl, hT, (q558 i1u1 c10 p_x1568 c1572 q_x1573 hy1575 q_x1576 p_x1577 q_x1583 c1584 q_x2099 c2100 q_x2101 c2102 q_x2103 c2104 i1u2232 p_k1u2232 c2248 c2273 q_x2298 p_x2299 q_x2303 c2304 c2329 q_x2334 c2336 q_x2337 ex2338 ex2340), (by rw [← d_x2303, ← d_x2338]; exact (q559 i1u1 c10 p_x1568 c1572 q_x1573 hy1575 q_x1576 p_x1577 q_x1583 c1584 q_x2099 c2100 q_x2101 c2102 q_x2103 c2104 i1u2232 p_k1u2232 c2248 c2273 q_x2298 p_x2299 q_x2303 c2304 c2329 q_x2334 c2336 q_x2337 ex2338 ex2340))⟩ (mu_up (q560 i1u1 c10 p_x1568 c1572 q_x1573 hy1575 q_x1576 p_x1577 q_x1583 c1584 q_x2099 c2100 q_x2101 c2102 q_x2103 c2104 i1u2232 p_k1u2232 c2248 c2273 q_x2298 p_x2299 q_x2303 c2304 c2329 q_x2334 c2336 q_x2337 ex2338 ex2340) (q561 i1u1 c10 p_x1568 c1572 q_x1573 hy1575 q_x1576 p_x1577 q_x1583 c1584 q_x2099 c2100 q_x2101 c2102 q_x2103 c2104 i1u2232 p_k1u2232 c2248 c2273 q_x2298 p_x2299 q_x2303 c2304 c2329 q_x2334 c2336 q_x2337 ex2338 ex2340))
                      · rw [n_a2335] at c2336
                        intro x2341 ex2341
                        have dj_x2341 := ex2341
                        refine ⟨a2335, ea2335, ?_⟩
                        intro x2343 ex2343
                        have q_x2343 : x2343 = x2334 := ex2343.trans d_x2334.symm
                        have d_x2343 := ex2343
                        refine ⟨o_a2335, ?_⟩
                        refine ⟨(vin l_a2335 (m := 900) (by decide) (q562 i1u1 c10 p_x1568 c1572 q_x1573 hy1575 q_x1576 p_x1577 q_x1583 c1584 q_x2099 c2100 q_x2101 c2102 q_x2103 c2104 i1u2232 p_k1u2232 c2248 c2273 q_x2298 p_x2299 q_x2303 c2304 c2329 q_x2334 c2336 q_x2343)), ?_⟩
                        intro x2344 ex2344
                        intro x2345 ex2345
                        have q_x2345 : x2345 = x2303 := ex2345.trans d_x2303.symm
                        have d_x2345 := ex2345
                        refine ⟨fun c2346 => ?_, fun c2346 => ?_⟩
                        · refine u_X4_next_195 ?_
                          refine ⟨o_v0, ?_⟩
                          intro x2347 ex2347
                          intro S2348 eS2348
                          have hI : IV S2348 := by rw [eS2348]; exact iv_sJ hI o_v0 (by decide)
                          have f0 := fr_J eS2348 f0
                          have fL2235 := fr_J eS2348 fL2235
                          have d_y1575 := rd_J eS2348 d_y1575
                          have d_x2345 := rd_J eS2348 d_x2345
                          have d_x2343 := rd_J eS2348 d_x2343
                          have ea2335 := rf_J eS2348 ea2335
                          have hT := tx_J eS2348 hT
                          have l_a2335 := ln_J eS2348 l_a2335
                          have g0 := gr_J eS2348 g0
                          have gL2234 := gr_J eS2348 gL2234
                          have o_a2335 := ob_J eS2348 o_a2335
                          have o_v0 := ob_J eS2348 o_v0
                          refine u_X4_next_201 ?_
                          refine ⟨o_v0, ?_⟩
                          intro x2349 ex2349
                          have q_x2349 : x2349 = x2343 := ex2349.trans d_x2343.symm
                          have d_x2349 := ex2349
                          intro x2350 ex2350
                          intro S2351 eS2351
                          have hI : IV S2351 := by rw [eS2351]; exact iv_sI hI o_v0 (by decide) (nu_free (by decide))
                          have f0 := fr_I eS2351 g0 f0 o_v0 (by decide)
                          have fL2235 := fr_I eS2351 gL2234 fL2235 o_v0 (by decide)
                          have d_y1575 := rd_Ij eS2351 (by decide) d_y1575
                          have d_x2345 := rd_Ij eS2351 (by decide) d_x2345
                          have d_x2350 := rd_Is eS2351 (rfl : x2350 = x2350)
                          have ea2335 := rf_I eS2351 ea2335
                          have hT := tx_I eS2351 hT
                          have l_a2335 := ln_I eS2351 l_a2335
                          have g0 := gr_I eS2351 g0
                          have gL2234 := gr_I eS2351 gL2234
                          have o_a2335 := ob_I eS2351 o_a2335
                          have o_v0 := ob_I eS2351 o_v0
                          intro x2352 ex2352
                          exact ih2246 _ _ _ _ _ _ ⟨hI, gL2234, fL2235, rfl, rfl, rfl, rfl, hT, (q563 i1u1 c10 p_x1568 c1572 q_x1573 hy1575 q_x1576 p_x1577 q_x1583 c1584 q_x2099 c2100 q_x2101 c2102 q_x2103 c2104 i1u2232 p_k1u2232 c2248 c2273 q_x2298 p_x2299 q_x2303 c2304 c2329 q_x2334 c2336 q_x2343 q_x2345 c2346 q_x2349 ex2350 ex2352), (by rw [← d_x2345, ← d_x2350]; exact (q564 i1u1 c10 p_x1568 c1572 q_x1573 hy1575 q_x1576 p_x1577 q_x1583 c1584 q_x2099 c2100 q_x2101 c2102 q_x2103 c2104 i1u2232 p_k1u2232 c2248 c2273 q_x2298 p_x2299 q_x2303 c2304 c2329 q_x2334 c2336 q_x2343 q_x2345 c2346 q_x2349 ex2350 ex2352))⟩ (mu_up (q565 i1u1 c10 p_x1568 c1572 q_x1573 hy1575 q_x1576 p_x1577 q_x1583 c1584 q_x2099 c2100 q_x2101 c2102 q_x2103 c2104 i1u2232 p_k1u2232 c2248 c2273 q_x2298 p_x2299 q_x2303 c2304 c2329 q_x2334 c2336 q_x2343 q_x2345 c2346 q_x2349 ex2350 ex2352) (q566 i1u1 c10 p_x1568 c1572 q_x1573 hy1575 q_x1576 p_x1577 q_x1583 c1584 q_x2099 c2100 q_x2101 c2102 q_x2103 c2104 i1u2232 p_k1u2232 c2248 c2273 q_x2298 p_x2299 q_x2303 c2304 c2329 q_x2334 c2336 q_x2343 q_x2345 c2346 q_x2349 ex2350 ex2352))
                        · refine u_X4_next_195 ?_
                          refine ⟨o_v0, ?_⟩
                          intro x2353 ex2353
                          intro S2354 eS2354
                          have hI : IV S2354 := by rw [eS2354]; exact iv_sJ hI o_v0 (by decide)
                          have f0 := fr_J eS2354 f0
                          have fL2235 := fr_J eS2354 fL2235
                          have d_y1575 := rd_J eS2354 d_y1575
                          have d_x2345 := rd_J eS2354 d_x2345
                          have d_x2343 := rd_J eS2354 d_x2343
                          have ea2335 := rf_J eS2354 ea2335
                          have hT := tx_J eS2354 hT
                          have l_a2335 := ln_J eS2354 l_a2335
                          have g0 := gr_J eS2354 g0
                          have gL2234 := gr_J eS2354 gL2234
                          have o_a2335 := ob_J eS2354 o_a2335
                          have o_v0 := ob_J eS2354 o_v0
                          refine u_X4_next_201 ?_
                          refine ⟨o_v0, ?_⟩
                          intro x2355 ex2355
                          have q_x2355 : x2355 = x2343 := ex2355.trans d_x2343.symm
                          have d_x2355 := ex2355
                          intro x2356 ex2356
                          intro S2357 eS2357
                          have hI : IV S2357 := by rw [eS2357]; exact iv_sI hI o_v0 (by decide) (nu_free (by decide))
                          have f0 := fr_I eS2357 g0 f0 o_v0 (by decide)
                          have fL2235 := fr_I eS2357 gL2234 fL2235 o_v0 (by decide)
                          have d_y1575 := rd_Ij eS2357 (by decide) d_y1575
                          have d_x2345 := rd_Ij eS2357 (by decide) d_x2345
                          have d_x2356 := rd_Is eS2357 (rfl : x2356 = x2356)
                          have ea2335 := rf_I eS2357 ea2335
                          have hT := tx_I eS2357 hT
                          have l_a2335 := ln_I eS2357 l_a2335
                          have g0 := gr_I eS2357 g0
                          have gL2234 := gr_I eS2357 gL2234
                          have o_a2335 := ob_I eS2357 o_a2335
                          have o_v0 := ob_I eS2357 o_v0
                          intro x2358 ex2358
                          exact ih2246 _ _ _ _ _ _ ⟨hI, gL2234, fL2235, rfl, rfl, rfl, rfl, hT, (q567 i1u1 c10 p_x1568 c1572 q_x1573 hy1575 q_x1576 p_x1577 q_x1583 c1584 q_x2099 c2100 q_x2101 c2102 q_x2103 c2104 i1u2232 p_k1u2232 c2248 c2273 q_x2298 p_x2299 q_x2303 c2304 c2329 q_x2334 c2336 q_x2343 q_x2345 c2346 q_x2355 ex2356 ex2358), (by rw [← d_x2345, ← d_x2356]; exact (q568 i1u1 c10 p_x1568 c1572 q_x1573 hy1575 q_x1576 p_x1577 q_x1583 c1584 q_x2099 c2100 q_x2101 c2102 q_x2103 c2104 i1u2232 p_k1u2232 c2248 c2273 q_x2298 p_x2299 q_x2303 c2304 c2329 q_x2334 c2336 q_x2343 q_x2345 c2346 q_x2355 ex2356 ex2358))⟩ (mu_up (q569 i1u1 c10 p_x1568 c1572 q_x1573 hy1575 q_x1576 p_x1577 q_x1583 c1584 q_x2099 c2100 q_x2101 c2102 q_x2103 c2104 i1u2232 p_k1u2232 c2248 c2273 q_x2298 p_x2299 q_x2303 c2304 c2329 q_x2334 c2336 q_x2343 q_x2345 c2346 q_x2355 ex2356 ex2358) (q570 i1u1 c10 p_x1568 c1572 q_x1573 hy1575 q_x1576 p_x1577 q_x1583 c1584 q_x2099 c2100 q_x2101 c2102 q_x2103 c2104 i1u2232 p_k1u2232 c2248 c2273 q_x2298 p_x2299 q_x2303 c2304 c2329 q_x2334 c2336 q_x2343 q_x2345 c2346 q_x2355 ex2356 ex2358))
          · refine u_X4_next_98 ?_
            refine ⟨o_v0, ?_⟩
            intro x2359 ex2359
            have q_x2359 : x2359 = x2101 := ex2359.trans d_x2101.symm
            have d_x2359 := ex2359
            refine ⟨fun c2360 => ?_, fun c2360 => ?_⟩
            · refine u_X4_next_114 ?_
              refine i_X4_next_118 (fun (y0 : Nat) (y1 : Int32) (y2 : Int32) (y3 : Int32) (y4 : Int32) (Z : HS) => ((2147483647 : Int32).toInt - y4.toInt).toNat) (fun (y0 : Nat) (y1 : Int32) (y2 : Int32) (y3 : Int32) (y4 : Int32) (Z : HS) => (IV Z) ∧ (Gr S1582 Z) ∧ (FRI [(4, 4)] [] S1582 Z) ∧ (v0 = y0) ∧ ((0 : Int32) = y1) ∧ ((8 : Int32) = y2) ∧ ((10 : Int32) = y3) ∧ (TX Z v0) ∧ (0 ≤ y4) ∧ ((y1 = 0 ∨ fI Z v0 6 = 1 ∨ fI Z v0 6 = 2) ∧ (y1 = 0 → fI Z v0 6 = 0 ∨ (0 ≤ fI Z v0 4 ∧ fI Z v0 4 < 900)))) ?_ _ _ _ _ _ _ ⟨hI, (gr_rf _), (fri_rf _ _ _), rfl, rfl, rfl, rfl, hT, (q571 i1u1 c10 p_x1568 c1572 q_x1573 hy1575 q_x1576 p_x1577 q_x1583 c1584 q_x2099 c2100 q_x2101 c2102 q_x2359 c2360), (by rw [← d_x2359, ← d_x1576]; exact (q572 i1u1 c10 p_x1568 c1572 q_x1573 hy1575 q_x1576 p_x1577 q_x1583 c1584 q_x2099 c2100 q_x2101 c2102 q_x2359 c2360))⟩
              intro w2365 w2367 w2369 w2371 w2373 S2362 X2374 ⟨hI, gL2363, fL2364, q2366, q2368, q2370, q2372, hT, i1u2361, k1u2361⟩ ih2375
              subst q2366
              subst q2368
              subst q2370
              subst q2372
              have d_y1575 := d_y1575.trans (fri_at fL2364 (by decide) (by decide) o_v0).symm
              have d_x2359 := d_x2359.trans (fri_at fL2364 (by decide) (by decide) o_v0).symm
              have f0 := fri_tr (S := S1582) g0 f0 fL2364 (by decide) (by decide)
              have o_v0 := gr_ob gL2363 o_v0
              have g0 := gr_tr (T := S1582) g0 gL2363
              obtain ⟨y2376, d_y2376⟩ : ∃ z : Int32, z = fI S2362 v0 4 := ⟨_, rfl⟩
              have p_k1u2361 : ((0 : Int32) = 0 ∨ x2359 = 1 ∨ x2359 = 2) ∧ ((0 : Int32) = 0 → x2359 = 0 ∨ (0 ≤ y2376 ∧ y2376 < 900)) := by rw [d_x2359, d_y2376]; exact k1u2361
              refine u_X4_next_118 ?_
              refine ⟨fun c2377 => ?_, fun c2377 => ?_⟩
              · refine u_X4_next_217 ?_
                refine ⟨fun c2378 => ?_, fun c2378 => ?_⟩
                · refine u_X4_next_240 ?_
                  refine ⟨fun c2379 => ?_, fun c2379 => ?_⟩
                  · exact hq _ hI g0 f0 hT
                  · refine ⟨o_v0, ?_⟩
                    intro x2380 ex2380
                    have q_x2380 : x2380 = x2359 := ex2380.trans d_x2359.symm
                    have d_x2380 := ex2380
                    refine ⟨fun c2381 => ?_, fun c2381 => ?_⟩
                    · exact hq _ hI g0 f0 hT
                    · intro x2382 ex2382
                      have q_x2382 : x2382 = y2376 := ex2382.trans d_y2376.symm
                      have d_x2382 := ex2382
                      intro x2383 ex2383
                      intro S2384 eS2384
                      have hI : IV S2384 := by rw [eS2384]; exact iv_sI hI o_v0 (by decide) (nu_free (by decide))
                      have f0 := fr_I eS2384 g0 f0 o_v0 (by decide)
                      have d_y1575 := rd_Ij eS2384 (by decide) d_y1575
                      have d_x2380 := rd_Ij eS2384 (by decide) d_x2380
                      have d_x2383 := rd_Is eS2384 (rfl : x2383 = x2383)
                      have hT := tx_I eS2384 hT
                      have g0 := gr_I eS2384 g0
                      have o_v0 := ob_I eS2384 o_v0
                      exact hq _ hI g0 f0 hT
                · refine ⟨o_v0, ?_⟩
                  intro x2385 ex2385
                  have q_x2385 : x2385 = y2376 := ex2385.trans d_y2376.symm
                  have d_x2385 := ex2385
                  intro x2386 ex2386
                  have q_x2386 : x2386 = y1575 := ex2386.trans d_y1575.symm
                  have d_x2386 := ex2386
                  refine ⟨fun c2387 => ?_, fun c2387 => ?_⟩
                  · refine u_X4_next_240 ?_
                    refine ⟨fun c2388 => ?_, fun c2388 => ?_⟩
                    · exact hq _ hI g0 f0 hT
                    · refine ⟨o_v0, ?_⟩
                      intro x2389 ex2389
                      have q_x2389 : x2389 = x2359 := ex2389.trans d_x2359.symm
                      have d_x2389 := ex2389
                      refine ⟨fun c2390 => ?_, fun c2390 => ?_⟩
                      · exact hq _ hI g0 f0 hT
                      · intro x2391 ex2391
                        have q_x2391 : x2391 = x2385 := ex2391.trans d_x2385.symm
                        have d_x2391 := ex2391
                        intro x2392 ex2392
                        intro S2393 eS2393
                        have hI : IV S2393 := by rw [eS2393]; exact iv_sI hI o_v0 (by decide) (nu_free (by decide))
                        have f0 := fr_I eS2393 g0 f0 o_v0 (by decide)
                        have d_x2386 := rd_Ij eS2393 (by decide) d_x2386
                        have d_x2389 := rd_Ij eS2393 (by decide) d_x2389
                        have d_x2392 := rd_Is eS2393 (rfl : x2392 = x2392)
                        have hT := tx_I eS2393 hT
                        have g0 := gr_I eS2393 g0
                        have o_v0 := ob_I eS2393 o_v0
                        exact hq _ hI g0 f0 hT
                  · intro S2394 eS2394
                    have hI : IV S2394 := by rw [eS2394]; exact iv_sI hI o_v0 (by decide) (nu_free (by decide))
                    have f0 := fr_I eS2394 g0 f0 o_v0 (by decide)
                    have d_x2386 := rd_Ij eS2394 (by decide) d_x2386
                    have d_x2385 := rd_Ij eS2394 (by decide) d_x2385
                    obtain ⟨y2395, hy2395⟩ : ∃ z : Int32, z = (6 : Int32) := ⟨_, rfl⟩
                    have d_y2395 := rd_Is eS2394 hy2395
                    have hT := tx_I eS2394 hT
                    have g0 := gr_I eS2394 g0
                    have o_v0 := ob_I eS2394 o_v0
                    refine u_X4_next_240 ?_
                    refine ⟨fun c2396 => ?_, fun c2396 => ?_⟩
                    · exact hq _ hI g0 f0 hT
                    · refine ⟨o_v0, ?_⟩
                      intro x2397 ex2397
                      have q_x2397 : x2397 = y2395 := ex2397.trans d_y2395.symm
                      have d_x2397 := ex2397
                      refine ⟨fun c2398 => ?_, fun c2398 => ?_⟩
                      · exact hq _ hI g0 f0 hT
                      · intro x2399 ex2399
                        have q_x2399 : x2399 = x2385 := ex2399.trans d_x2385.symm
                        have d_x2399 := ex2399
                        intro x2400 ex2400
                        intro S2401 eS2401
                        have hI : IV S2401 := by rw [eS2401]; exact iv_sI hI o_v0 (by decide) (nu_free (by decide))
                        have f0 := fr_I eS2401 g0 f0 o_v0 (by decide)
                        have d_x2386 := rd_Ij eS2401 (by decide) d_x2386
                        have d_x2397 := rd_Ij eS2401 (by decide) d_x2397
                        have d_x2400 := rd_Is eS2401 (rfl : x2400 = x2400)
                        have hT := tx_I eS2401 hT
                        have g0 := gr_I eS2401 g0
                        have o_v0 := ob_I eS2401 o_v0
                        exact hq _ hI g0 f0 hT
              · refine ⟨fun c2402 => ?_, fun c2402 => ?_⟩
                · refine u_X4_next_217 ?_
                  refine ⟨fun c2403 => ?_, fun c2403 => ?_⟩
                  · refine u_X4_next_240 ?_
                    refine ⟨fun c2404 => ?_, fun c2404 => ?_⟩
                    · exact hq _ hI g0 f0 hT
                    · refine ⟨o_v0, ?_⟩
                      intro x2405 ex2405
                      have q_x2405 : x2405 = x2359 := ex2405.trans d_x2359.symm
                      have d_x2405 := ex2405
                      refine ⟨fun c2406 => ?_, fun c2406 => ?_⟩
                      · exact hq _ hI g0 f0 hT
                      · intro x2407 ex2407
                        have q_x2407 : x2407 = y2376 := ex2407.trans d_y2376.symm
                        have d_x2407 := ex2407
                        intro x2408 ex2408
                        intro S2409 eS2409
                        have hI : IV S2409 := by rw [eS2409]; exact iv_sI hI o_v0 (by decide) (nu_free (by decide))
                        have f0 := fr_I eS2409 g0 f0 o_v0 (by decide)
                        have d_y1575 := rd_Ij eS2409 (by decide) d_y1575
                        have d_x2405 := rd_Ij eS2409 (by decide) d_x2405
                        have d_x2408 := rd_Is eS2409 (rfl : x2408 = x2408)
                        have hT := tx_I eS2409 hT
                        have g0 := gr_I eS2409 g0
                        have o_v0 := ob_I eS2409 o_v0
                        exact hq _ hI g0 f0 hT
                  · refine ⟨o_v0, ?_⟩
                    intro x2410 ex2410
                    have q_x2410 : x2410 = y2376 := ex2410.trans d_y2376.symm
                    have d_x2410 := ex2410
                    intro x2411 ex2411
                    have q_x2411 : x2411 = y1575 := ex2411.trans d_y1575.symm
                    have d_x2411 := ex2411
                    refine ⟨fun c2412 => ?_, fun c2412 => ?_⟩
                    · refine u_X4_next_240 ?_
                      refine ⟨fun c2413 => ?_, fun c2413 => ?_⟩
                      · exact hq _ hI g0 f0 hT
                      · refine ⟨o_v0, ?_⟩
                        intro x2414 ex2414
                        have q_x2414 : x2414 = x2359 := ex2414.trans d_x2359.symm
                        have d_x2414 := ex2414
                        refine ⟨fun c2415 => ?_, fun c2415 => ?_⟩
                        · exact hq _ hI g0 f0 hT
                        · intro x2416 ex2416
                          have q_x2416 : x2416 = x2410 := ex2416.trans d_x2410.symm
                          have d_x2416 := ex2416
                          intro x2417 ex2417
                          intro S2418 eS2418
                          have hI : IV S2418 := by rw [eS2418]; exact iv_sI hI o_v0 (by decide) (nu_free (by decide))
                          have f0 := fr_I eS2418 g0 f0 o_v0 (by decide)
                          have d_x2411 := rd_Ij eS2418 (by decide) d_x2411
                          have d_x2414 := rd_Ij eS2418 (by decide) d_x2414
                          have d_x2417 := rd_Is eS2418 (rfl : x2417 = x2417)
                          have hT := tx_I eS2418 hT
                          have g0 := gr_I eS2418 g0
                          have o_v0 := ob_I eS2418 o_v0
                          exact hq _ hI g0 f0 hT
                    · intro S2419 eS2419
                      have hI : IV S2419 := by rw [eS2419]; exact iv_sI hI o_v0 (by decide) (nu_free (by decide))
                      have f0 := fr_I eS2419 g0 f0 o_v0 (by decide)
                      have d_x2411 := rd_Ij eS2419 (by decide) d_x2411
                      have d_x2410 := rd_Ij eS2419 (by decide) d_x2410
                      obtain ⟨y2420, hy2420⟩ : ∃ z : Int32, z = (6 : Int32) := ⟨_, rfl⟩
                      have d_y2420 := rd_Is eS2419 hy2420
                      have hT := tx_I eS2419 hT
                      have g0 := gr_I eS2419 g0
                      have o_v0 := ob_I eS2419 o_v0
                      refine u_X4_next_240 ?_
                      refine ⟨fun c2421 => ?_, fun c2421 => ?_⟩
                      · exact hq _ hI g0 f0 hT
                      · refine ⟨o_v0, ?_⟩
                        intro x2422 ex2422
                        have q_x2422 : x2422 = y2420 := ex2422.trans d_y2420.symm
                        have d_x2422 := ex2422
                        refine ⟨fun c2423 => ?_, fun c2423 => ?_⟩
                        · exact hq _ hI g0 f0 hT
                        · intro x2424 ex2424
                          have q_x2424 : x2424 = x2410 := ex2424.trans d_x2410.symm
                          have d_x2424 := ex2424
                          intro x2425 ex2425
                          intro S2426 eS2426
                          have hI : IV S2426 := by rw [eS2426]; exact iv_sI hI o_v0 (by decide) (nu_free (by decide))
                          have f0 := fr_I eS2426 g0 f0 o_v0 (by decide)
                          have d_x2411 := rd_Ij eS2426 (by decide) d_x2411
                          have d_x2422 := rd_Ij eS2426 (by decide) d_x2422
                          have d_x2425 := rd_Is eS2426 (rfl : x2425 = x2425)
                          have hT := tx_I eS2426 hT
                          have g0 := gr_I eS2426 g0
                          have o_v0 := ob_I eS2426 o_v0
                          exact hq _ hI g0 f0 hT
                · refine ⟨o_v0, ?_⟩
                  intro x2427 ex2427
                  have q_x2427 : x2427 = y2376 := ex2427.trans d_y2376.symm
                  have d_x2427 := ex2427
                  refine m_X4_sortAt hI o_v0 hT (fun x2428 S2429 hI2 g2430 p_x2428 => ?_)
                  obtain ⟨z_S2429, p_x2428⟩ := p_x2428
                  subst z_S2429
                  intro _
                  intro x2432 ex2432
                  have q_x2432 : x2432 = x2359 := ex2432.trans d_x2359.symm
                  have d_x2432 := ex2432
                  refine ⟨fun c2433 => ?_, fun c2433 => ?_⟩
                  · refine u_X4_next_217 ?_
                    refine ⟨fun c2434 => ?_, fun c2434 => ?_⟩
                    · refine u_X4_next_240 ?_
                      refine ⟨fun c2435 => ?_, fun c2435 => ?_⟩
                      · exact hq _ hI g0 f0 hT
                      · refine ⟨o_v0, ?_⟩
                        intro x2436 ex2436
                        have q_x2436 : x2436 = x2432 := ex2436.trans d_x2432.symm
                        have d_x2436 := ex2436
                        refine ⟨fun c2437 => ?_, fun c2437 => ?_⟩
                        · exact hq _ hI g0 f0 hT
                        · intro x2438 ex2438
                          have q_x2438 : x2438 = x2427 := ex2438.trans d_x2427.symm
                          have d_x2438 := ex2438
                          intro x2439 ex2439
                          intro S2440 eS2440
                          have hI : IV S2440 := by rw [eS2440]; exact iv_sI hI o_v0 (by decide) (nu_free (by decide))
                          have f0 := fr_I eS2440 g0 f0 o_v0 (by decide)
                          have d_y1575 := rd_Ij eS2440 (by decide) d_y1575
                          have d_x2436 := rd_Ij eS2440 (by decide) d_x2436
                          have d_x2439 := rd_Is eS2440 (rfl : x2439 = x2439)
                          have hT := tx_I eS2440 hT
                          have g0 := gr_I eS2440 g0
                          have o_v0 := ob_I eS2440 o_v0
                          exact hq _ hI g0 f0 hT
                    · refine ⟨o_v0, ?_⟩
                      intro x2441 ex2441
                      have q_x2441 : x2441 = x2427 := ex2441.trans d_x2427.symm
                      have d_x2441 := ex2441
                      intro x2442 ex2442
                      have q_x2442 : x2442 = y1575 := ex2442.trans d_y1575.symm
                      have d_x2442 := ex2442
                      refine ⟨fun c2443 => ?_, fun c2443 => ?_⟩
                      · refine u_X4_next_240 ?_
                        refine ⟨fun c2444 => ?_, fun c2444 => ?_⟩
                        · exact hq _ hI g0 f0 hT
                        · refine ⟨o_v0, ?_⟩
                          intro x2445 ex2445
                          have q_x2445 : x2445 = x2432 := ex2445.trans d_x2432.symm
                          have d_x2445 := ex2445
                          refine ⟨fun c2446 => ?_, fun c2446 => ?_⟩
                          · exact hq _ hI g0 f0 hT
                          · intro x2447 ex2447
                            have q_x2447 : x2447 = x2441 := ex2447.trans d_x2441.symm
                            have d_x2447 := ex2447
                            intro x2448 ex2448
                            intro S2449 eS2449
                            have hI : IV S2449 := by rw [eS2449]; exact iv_sI hI o_v0 (by decide) (nu_free (by decide))
                            have f0 := fr_I eS2449 g0 f0 o_v0 (by decide)
                            have d_x2442 := rd_Ij eS2449 (by decide) d_x2442
                            have d_x2445 := rd_Ij eS2449 (by decide) d_x2445
                            have d_x2448 := rd_Is eS2449 (rfl : x2448 = x2448)
                            have hT := tx_I eS2449 hT
                            have g0 := gr_I eS2449 g0
                            have o_v0 := ob_I eS2449 o_v0
                            exact hq _ hI g0 f0 hT
                      · intro S2450 eS2450
                        have hI : IV S2450 := by rw [eS2450]; exact iv_sI hI o_v0 (by decide) (nu_free (by decide))
                        have f0 := fr_I eS2450 g0 f0 o_v0 (by decide)
                        have d_x2442 := rd_Ij eS2450 (by decide) d_x2442
                        have d_x2441 := rd_Ij eS2450 (by decide) d_x2441
                        obtain ⟨y2451, hy2451⟩ : ∃ z : Int32, z = (6 : Int32) := ⟨_, rfl⟩
                        have d_y2451 := rd_Is eS2450 hy2451
                        have hT := tx_I eS2450 hT
                        have g0 := gr_I eS2450 g0
                        have o_v0 := ob_I eS2450 o_v0
                        refine u_X4_next_240 ?_
                        refine ⟨fun c2452 => ?_, fun c2452 => ?_⟩
                        · exact hq _ hI g0 f0 hT
                        · refine ⟨o_v0, ?_⟩
                          intro x2453 ex2453
                          have q_x2453 : x2453 = y2451 := ex2453.trans d_y2451.symm
                          have d_x2453 := ex2453
                          refine ⟨fun c2454 => ?_, fun c2454 => ?_⟩
                          · exact hq _ hI g0 f0 hT
                          · intro x2455 ex2455
                            have q_x2455 : x2455 = x2441 := ex2455.trans d_x2441.symm
                            have d_x2455 := ex2455
                            intro x2456 ex2456
                            intro S2457 eS2457
                            have hI : IV S2457 := by rw [eS2457]; exact iv_sI hI o_v0 (by decide) (nu_free (by decide))
                            have f0 := fr_I eS2457 g0 f0 o_v0 (by decide)
                            have d_x2442 := rd_Ij eS2457 (by decide) d_x2442
                            have d_x2453 := rd_Ij eS2457 (by decide) d_x2453
                            have d_x2456 := rd_Is eS2457 (rfl : x2456 = x2456)
                            have hT := tx_I eS2457 hT
                            have g0 := gr_I eS2457 g0
                            have o_v0 := ob_I eS2457 o_v0
                            exact hq _ hI g0 f0 hT
                  · refine ⟨fun c2458 => ?_, fun c2458 => ?_⟩
                    · refine u_X4_next_201 ?_
                      refine ⟨o_v0, ?_⟩
                      intro x2459 ex2459
                      have q_x2459 : x2459 = x2427 := ex2459.trans d_x2427.symm
                      have d_x2459 := ex2459
                      intro x2460 ex2460
                      intro S2461 eS2461
                      have hI : IV S2461 := by rw [eS2461]; exact iv_sI hI o_v0 (by decide) (nu_free (by decide))
                      have f0 := fr_I eS2461 g0 f0 o_v0 (by decide)
                      have fL2364 := fr_I eS2461 gL2363 fL2364 o_v0 (by decide)
                      have d_y1575 := rd_Ij eS2461 (by decide) d_y1575
                      have d_x2432 := rd_Ij eS2461 (by decide) d_x2432
                      have d_x2460 := rd_Is eS2461 (rfl : x2460 = x2460)
                      have hT := tx_I eS2461 hT
                      have g0 := gr_I eS2461 g0
                      have gL2363 := gr_I eS2461 gL2363
                      have o_v0 := ob_I eS2461 o_v0
                      intro x2462 ex2462
                      exact ih2375 _ _ _ _ _ _ ⟨hI, gL2363, fL2364, rfl, rfl, rfl, rfl, hT, (q573 i1u1 c10 p_x1568 c1572 q_x1573 hy1575 q_x1576 p_x1577 q_x1583 c1584 q_x2099 c2100 q_x2101 c2102 q_x2359 c2360 i1u2361 p_k1u2361 c2377 c2402 q_x2427 p_x2428 q_x2432 c2433 c2458 q_x2459 ex2460 ex2462), (by rw [← d_x2432, ← d_x2460]; exact (q574 i1u1 c10 p_x1568 c1572 q_x1573 hy1575 q_x1576 p_x1577 q_x1583 c1584 q_x2099 c2100 q_x2101 c2102 q_x2359 c2360 i1u2361 p_k1u2361 c2377 c2402 q_x2427 p_x2428 q_x2432 c2433 c2458 q_x2459 ex2460 ex2462))⟩ (mu_up (q575 i1u1 c10 p_x1568 c1572 q_x1573 hy1575 q_x1576 p_x1577 q_x1583 c1584 q_x2099 c2100 q_x2101 c2102 q_x2359 c2360 i1u2361 p_k1u2361 c2377 c2402 q_x2427 p_x2428 q_x2432 c2433 c2458 q_x2459 ex2460 ex2462) (q576 i1u1 c10 p_x1568 c1572 q_x1573 hy1575 q_x1576 p_x1577 q_x1583 c1584 q_x2099 c2100 q_x2101 c2102 q_x2359 c2360 i1u2361 p_k1u2361 c2377 c2402 q_x2427 p_x2428 q_x2432 c2433 c2458 q_x2459 ex2460 ex2462))
                    · intro x2463 ex2463
                      have q_x2463 : x2463 = x2427 := ex2463.trans d_x2427.symm
                      have d_x2463 := ex2463
                      obtain ⟨a2464, ea2464, o_a2464, l_a2464⟩ := id hT
                      refine ⟨a2464, ea2464, ?_⟩
                      refine ⟨o_a2464, ?_⟩
                      have n_a2464 : nI (hN S2362 a2464) = 900 := by rw [show hN S2362 a2464 = 900 from l_a2464]; decide
                      refine ⟨fun c2465 => ?_, fun c2465 => ?_⟩
                      · rw [n_a2464] at c2465
                        refine u_X4_next_201 ?_
                        refine ⟨o_v0, ?_⟩
                        intro x2466 ex2466
                        have q_x2466 : x2466 = x2463 := ex2466.trans d_x2463.symm
                        have d_x2466 := ex2466
                        intro x2467 ex2467
                        intro S2468 eS2468
                        have hI : IV S2468 := by rw [eS2468]; exact iv_sI hI o_v0 (by decide) (nu_free (by decide))
                        have f0 := fr_I eS2468 g0 f0 o_v0 (by decide)
                        have fL2364 := fr_I eS2468 gL2363 fL2364 o_v0 (by decide)
                        have d_y1575 := rd_Ij eS2468 (by decide) d_y1575
                        have d_x2432 := rd_Ij eS2468 (by decide) d_x2432
                        have d_x2467 := rd_Is eS2468 (rfl : x2467 = x2467)
                        have ea2464 := rf_I eS2468 ea2464
                        have hT := tx_I eS2468 hT
                        have l_a2464 := ln_I eS2468 l_a2464
                        have g0 := gr_I eS2468 g0
                        have gL2363 := gr_I eS2468 gL2363
                        have o_a2464 := ob_I eS2468 o_a2464
                        have o_v0 := ob_I eS2468 o_v0
                        intro x2469 ex2469
                        exact ih2375 _ _ _ _ _ _ ⟨hI, gL2363, fL2364, rfl, rfl, rfl, rfl, hT, (q577 i1u1 c10 p_x1568 c1572 q_x1573 hy1575 q_x1576 p_x1577 q_x1583 c1584 q_x2099 c2100 q_x2101 c2102 q_x2359 c2360 i1u2361 p_k1u2361 c2377 c2402 q_x2427 p_x2428 q_x2432 c2433 c2458 q_x2463 c2465 q_x2466 ex2467 ex2469), (by rw [← d_x2432, ← d_x2467]; exact (q578 i1u1 c10 p_x1568 c1572 q_x1573 hy1575 q_x1576 p_x1577 q_x1583 c1584 q_x2099 c2100 q_x2101 c2102 q_x2359 c2360 i1u2361 p_k1u2361 c2377 c2402 q_x2427 p_x2428 q_x2432 c2433 c2458 q_x2463 c2465 q_x2466 ex2467 ex2469))⟩ (mu_up (q579 i1u1 c10 p_x1568 c1572 q_x1573 hy1575 q_x1576 p_x1577 q_x1583 c1584 q_x2099 c2100 q_x2101 c2102 q_x2359 c2360 i1u2361 p_k1u2361 c2377 c2402 q_x2427 p_x2428 q_x2432 c2433 c2458 q_x2463 c2465 q_x2466 ex2467 ex2469) (q580 i1u1 c10 p_x1568 c1572 q_x1573 hy1575 q_x1576 p_x1577 q_x1583 c1584 q_x2099 c2100 q_x2101 c2102 q_x2359 c2360 i1u2361 p_k1u2361 c2377 c2402 q_x2427 p_x2428 q_x2432 c2433 c2458 q_x2463 c2465 q_x2466 ex2467 ex2469))
                      · rw [n_a2464] at c2465
                        intro x2470 ex2470
                        have dj_x2470 := ex2470
                        refine ⟨a2464, ea2464, ?_⟩
                        intro x2472 ex2472
                        have q_x2472 : x2472 = x2463 := ex2472.trans d_x2463.symm
                        have d_x2472 := ex2472
                        refine ⟨o_a2464, ?_⟩
                        refine ⟨(vin l_a2464 (m := 900) (by decide) (q581 i1u1 c10 p_x1568 c1572 q_x1573 hy1575 q_x1576 p_x1577 q_x1583 c1584 q_x2099 c2100 q_x2101 c2102 q_x2359 c2360 i1u2361 p_k1u2361 c2377 c2402 q_x2427 p_x2428 q_x2432 c2433 c2458 q_x2463 c2465 q_x2472)), ?_⟩
                        intro x2473 ex2473
                        intro x2474 ex2474
                        have q_x2474 : x2474 = x2432 := ex2474.trans d_x2432.symm
                        have d_x2474 := ex2474
                        refine ⟨fun c2475 => ?_, fun c2475 => ?_⟩
                        · refine u_X4_next_195 ?_
                          refine ⟨o_v0, ?_⟩
                          intro x2476 ex2476
                          intro S2477 eS2477
                          have hI : IV S2477 := by rw [eS2477]; exact iv_sJ hI o_v0 (by decide)
                          have f0 := fr_J eS2477 f0
                          have fL2364 := fr_J eS2477 fL2364
                          have d_y1575 := rd_J eS2477 d_y1575
                          have d_x2474 := rd_J eS2477 d_x2474
                          have d_x2472 := rd_J eS2477 d_x2472
                          have ea2464 := rf_J eS2477 ea2464
                          have hT := tx_J eS2477 hT
                          have l_a2464 := ln_J eS2477 l_a2464
                          have g0 := gr_J eS2477 g0
                          have gL2363 := gr_J eS2477 gL2363
                          have o_a2464 := ob_J eS2477 o_a2464
                          have o_v0 := ob_J eS2477 o_v0
                          refine u_X4_next_201 ?_
                          refine ⟨o_v0, ?_⟩
                          intro x2478 ex2478
                          have q_x2478 : x2478 = x2472 := ex2478.trans d_x2472.symm
                          have d_x2478 := ex2478
                          intro x2479 ex2479
                          intro S2480 eS2480
                          have hI : IV S2480 := by rw [eS2480]; exact iv_sI hI o_v0 (by decide) (nu_free (by decide))
                          have f0 := fr_I eS2480 g0 f0 o_v0 (by decide)
                          have fL2364 := fr_I eS2480 gL2363 fL2364 o_v0 (by decide)
                          have d_y1575 := rd_Ij eS2480 (by decide) d_y1575
                          have d_x2474 := rd_Ij eS2480 (by decide) d_x2474
                          have d_x2479 := rd_Is eS2480 (rfl : x2479 = x2479)
                          have ea2464 := rf_I eS2480 ea2464
                          have hT := tx_I eS2480 hT
                          have l_a2464 := ln_I eS2480 l_a2464
                          have g0 := gr_I eS2480 g0
                          have gL2363 := gr_I eS2480 gL2363
                          have o_a2464 := ob_I eS2480 o_a2464
                          have o_v0 := ob_I eS2480 o_v0
                          intro x2481 ex2481
                          exact ih2375 _ _ _ _ _ _ ⟨hI, gL2363, fL2364, rfl, rfl, rfl, rfl, hT, (q582 i1u1 c10 p_x1568 c1572 q_x1573 hy1575 q_x1576 p_x1577 q_x1583 c1584 q_x2099 c2100 q_x2101 c2102 q_x2359 c2360 i1u2361 p_k1u2361 c2377 c2402 q_x2427 p_x2428 q_x2432 c2433 c2458 q_x2463 c2465 q_x2472 q_x2474 c2475 q_x2478 ex2479 ex2481), (by rw [← d_x2474, ← d_x2479]; exact (q583 i1u1 c10 p_x1568 c1572 q_x1573 hy1575 q_x1576 p_x1577 q_x1583 c1584 q_x2099 c2100 q_x2101 c2102 q_x2359 c2360 i1u2361 p_k1u2361 c2377 c2402 q_x2427 p_x2428 q_x2432 c2433 c2458 q_x2463 c2465 q_x2472 q_x2474 c2475 q_x2478 ex2479 ex2481))⟩ (mu_up (q584 i1u1 c10 p_x1568 c1572 q_x1573 hy1575 q_x1576 p_x1577 q_x1583 c1584 q_x2099 c2100 q_x2101 c2102 q_x2359 c2360 i1u2361 p_k1u2361 c2377 c2402 q_x2427 p_x2428 q_x2432 c2433 c2458 q_x2463 c2465 q_x2472 q_x2474 c2475 q_x2478 ex2479 ex2481) (q585 i1u1 c10 p_x1568 c1572 q_x1573 hy1575 q_x1576 p_x1577 q_x1583 c1584 q_x2099 c2100 q_x2101 c2102 q_x2359 c2360 i1u2361 p_k1u2361 c2377 c2402 q_x2427 p_x2428 q_x2432 c2433 c2458 q_x2463 c2465 q_x2472 q_x2474 c2475 q_x2478 ex2479 ex2481))
                        · refine u_X4_next_195 ?_
                          refine ⟨o_v0, ?_⟩
                          intro x2482 ex2482
                          intro S2483 eS2483
                          have hI : IV S2483 := by rw [eS2483]; exact iv_sJ hI o_v0 (by decide)
                          have f0 := fr_J eS2483 f0
                          have fL2364 := fr_J eS2483 fL2364
                          have d_y1575 := rd_J eS2483 d_y1575
                          have d_x2474 := rd_J eS2483 d_x2474
                          have d_x2472 := rd_J eS2483 d_x2472
                          have ea2464 := rf_J eS2483 ea2464
                          have hT := tx_J eS2483 hT
                          have l_a2464 := ln_J eS2483 l_a2464
                          have g0 := gr_J eS2483 g0
                          have gL2363 := gr_J eS2483 gL2363
                          have o_a2464 := ob_J eS2483 o_a2464
                          have o_v0 := ob_J eS2483 o_v0
                          refine u_X4_next_201 ?_
                          refine ⟨o_v0, ?_⟩
                          intro x2484 ex2484
                          have q_x2484 : x2484 = x2472 := ex2484.trans d_x2472.symm
                          have d_x2484 := ex2484
                          intro x2485 ex2485
                          intro S2486 eS2486
                          have hI : IV S2486 := by rw [eS2486]; exact iv_sI hI o_v0 (by decide) (nu_free (by decide))
                          have f0 := fr_I eS2486 g0 f0 o_v0 (by decide)
                          have fL2364 := fr_I eS2486 gL2363 fL2364 o_v0 (by decide)
                          have d_y1575 := rd_Ij eS2486 (by decide) d_y1575
                          have d_x2474 := rd_Ij eS2486 (by decide) d_x2474
                          have d_x2485 := rd_Is eS2486 (rfl : x2485 = x2485)
                          have ea2464 := rf_I eS2486 ea2464
                          have hT := tx_I eS2486 hT
                          have l_a2464 := ln_I eS2486 l_a2464
                          have g0 := gr_I eS2486 g0
                          have gL2363 := gr_I eS2486 gL2363
                          have o_a2464 := ob_I eS2486 o_a2464
                          have o_v0 := ob_I eS2486 o_v0
                          intro x2487 ex2487
                          exact ih2375 _ _ _ _ _ _ ⟨hI, gL2363, fL2364, rfl, rfl, rfl, rfl, hT, (q586 i1u1 c10 p_x1568 c1572 q_x1573 hy1575 q_x1576 p_x1577 q_x1583 c1584 q_x2099 c2100 q_x2101 c2102 q_x2359 c2360 i1u2361 p_k1u2361 c2377 c2402 q_x2427 p_x2428 q_x2432 c2433 c2458 q_x2463 c2465 q_x2472 q_x2474 c2475 q_x2484 ex2485 ex2487), (by rw [← d_x2474, ← d_x2485]; exact (q587 i1u1 c10 p_x1568 c1572 q_x1573 hy1575 q_x1576 p_x1577 q_x1583 c1584 q_x2099 c2100 q_x2101 c2102 q_x2359 c2360 i1u2361 p_k1u2361 c2377 c2402 q_x2427 p_x2428 q_x2432 c2433 c2458 q_x2463 c2465 q_x2472 q_x2474 c2475 q_x2484 ex2485 ex2487))⟩ (mu_up (q588 i1u1 c10 p_x1568 c1572 q_x1573 hy1575 q_x1576 p_x1577 q_x1583 c1584 q_x2099 c2100 q_x2101 c2102 q_x2359 c2360 i1u2361 p_k1u2361 c2377 c2402 q_x2427 p_x2428 q_x2432 c2433 c2458 q_x2463 c2465 q_x2472 q_x2474 c2475 q_x2484 ex2485 ex2487) (q589 i1u1 c10 p_x1568 c1572 q_x1573 hy1575 q_x1576 p_x1577 q_x1583 c1584 q_x2099 c2100 q_x2101 c2102 q_x2359 c2360 i1u2361 p_k1u2361 c2377 c2402 q_x2427 p_x2428 q_x2432 c2433 c2458 q_x2463 c2465 q_x2472 q_x2474 c2475 q_x2484 ex2485 ex2487))
            · refine u_X4_next_114 ?_
              refine i_X4_next_118 (fun (y0 : Nat) (y1 : Int32) (y2 : Int32) (y3 : Int32) (y4 : Int32) (Z : HS) => ((2147483647 : Int32).toInt - y4.toInt).toNat) (fun (y0 : Nat) (y1 : Int32) (y2 : Int32) (y3 : Int32) (y4 : Int32) (Z : HS) => (IV Z) ∧ (Gr S1582 Z) ∧ (FRI [(4, 4)] [] S1582 Z) ∧ (v0 = y0) ∧ ((0 : Int32) = y1) ∧ ((8 : Int32) = y2) ∧ ((32 : Int32) = y3) ∧ (TX Z v0) ∧ (0 ≤ y4) ∧ ((y1 = 0 ∨ fI Z v0 6 = 1 ∨ fI Z v0 6 = 2) ∧ (y1 = 0 → fI Z v0 6 = 0 ∨ (0 ≤ fI Z v0 4 ∧ fI Z v0 4 < 900)))) ?_ _ _ _ _ _ _ ⟨hI, (gr_rf _), (fri_rf _ _ _), rfl, rfl, rfl, rfl, hT, (q590 i1u1 c10 p_x1568 c1572 q_x1573 hy1575 q_x1576 p_x1577 q_x1583 c1584 q_x2099 c2100 q_x2101 c2102 q_x2359 c2360), (by rw [← d_x2359, ← d_x1576]; exact (q591 i1u1 c10 p_x1568 c1572 q_x1573 hy1575 q_x1576 p_x1577 q_x1583 c1584 q_x2099 c2100 q_x2101 c2102 q_x2359 c2360))⟩
              intro w2492 w2494 w2496 w2498 w2500 S2489 X2501 ⟨hI, gL2490, fL2491, q2493, q2495, q2497, q2499, hT, i1u2488, k1u2488⟩ ih2502
              subst q2493
              subst q2495
              subst q2497
              subst q2499
              have d_y1575 := d_y1575.trans (fri_at fL2491 (by decide) (by decide) o_v0).symm
              have d_x2359 := d_x2359.trans (fri_at fL2491 (by decide) (by decide) o_v0).symm
              have f0 := fri_tr (S := S1582) g0 f0 fL2491 (by decide) (by decide)
              have o_v0 := gr_ob gL2490 o_v0
              have g0 := gr_tr (T := S1582) g0 gL2490
              obtain ⟨y2503, d_y2503⟩ : ∃ z : Int32, z = fI S2489 v0 4 := ⟨_, rfl⟩
              have p_k1u2488 : ((0 : Int32) = 0 ∨ x2359 = 1 ∨ x2359 = 2) ∧ ((0 : Int32) = 0 → x2359 = 0 ∨ (0 ≤ y2503 ∧ y2503 < 900)) := by rw [d_x2359, d_y2503]; exact k1u2488
              refine u_X4_next_118 ?_
              refine ⟨fun c2504 => ?_, fun c2504 => ?_⟩
              · refine u_X4_next_217 ?_
                refine ⟨fun c2505 => ?_, fun c2505 => ?_⟩
                · refine u_X4_next_240 ?_
                  refine ⟨fun c2506 => ?_, fun c2506 => ?_⟩
                  · exact hq _ hI g0 f0 hT
                  · refine ⟨o_v0, ?_⟩
                    intro x2507 ex2507
                    have q_x2507 : x2507 = x2359 := ex2507.trans d_x2359.symm
                    have d_x2507 := ex2507
                    refine ⟨fun c2508 => ?_, fun c2508 => ?_⟩
                    · exact hq _ hI g0 f0 hT
                    · intro x2509 ex2509
                      have q_x2509 : x2509 = y2503 := ex2509.trans d_y2503.symm
                      have d_x2509 := ex2509
                      intro x2510 ex2510
                      intro S2511 eS2511
                      have hI : IV S2511 := by rw [eS2511]; exact iv_sI hI o_v0 (by decide) (nu_free (by decide))
                      have f0 := fr_I eS2511 g0 f0 o_v0 (by decide)
                      have d_y1575 := rd_Ij eS2511 (by decide) d_y1575
                      have d_x2507 := rd_Ij eS2511 (by decide) d_x2507
                      have d_x2510 := rd_Is eS2511 (rfl : x2510 = x2510)
                      have hT := tx_I eS2511 hT
                      have g0 := gr_I eS2511 g0
                      have o_v0 := ob_I eS2511 o_v0
                      exact hq _ hI g0 f0 hT
                · refine ⟨o_v0, ?_⟩
                  intro x2512 ex2512
                  have q_x2512 : x2512 = y2503 := ex2512.trans d_y2503.symm
                  have d_x2512 := ex2512
                  intro x2513 ex2513
                  have q_x2513 : x2513 = y1575 := ex2513.trans d_y1575.symm
                  have d_x2513 := ex2513
                  refine ⟨fun c2514 => ?_, fun c2514 => ?_⟩
                  · refine u_X4_next_240 ?_
                    refine ⟨fun c2515 => ?_, fun c2515 => ?_⟩
                    · exact hq _ hI g0 f0 hT
                    · refine ⟨o_v0, ?_⟩
                      intro x2516 ex2516
                      have q_x2516 : x2516 = x2359 := ex2516.trans d_x2359.symm
                      have d_x2516 := ex2516
                      refine ⟨fun c2517 => ?_, fun c2517 => ?_⟩
                      · exact hq _ hI g0 f0 hT
                      · intro x2518 ex2518
                        have q_x2518 : x2518 = x2512 := ex2518.trans d_x2512.symm
                        have d_x2518 := ex2518
                        intro x2519 ex2519
                        intro S2520 eS2520
                        have hI : IV S2520 := by rw [eS2520]; exact iv_sI hI o_v0 (by decide) (nu_free (by decide))
                        have f0 := fr_I eS2520 g0 f0 o_v0 (by decide)
                        have d_x2513 := rd_Ij eS2520 (by decide) d_x2513
                        have d_x2516 := rd_Ij eS2520 (by decide) d_x2516
                        have d_x2519 := rd_Is eS2520 (rfl : x2519 = x2519)
                        have hT := tx_I eS2520 hT
                        have g0 := gr_I eS2520 g0
                        have o_v0 := ob_I eS2520 o_v0
                        exact hq _ hI g0 f0 hT
                  · intro S2521 eS2521
                    have hI : IV S2521 := by rw [eS2521]; exact iv_sI hI o_v0 (by decide) (nu_free (by decide))
                    have f0 := fr_I eS2521 g0 f0 o_v0 (by decide)
                    have d_x2513 := rd_Ij eS2521 (by decide) d_x2513
                    have d_x2512 := rd_Ij eS2521 (by decide) d_x2512
                    obtain ⟨y2522, hy2522⟩ : ∃ z : Int32, z = (6 : Int32) := ⟨_, rfl⟩
                    have d_y2522 := rd_Is eS2521 hy2522
                    have hT := tx_I eS2521 hT
                    have g0 := gr_I eS2521 g0
                    have o_v0 := ob_I eS2521 o_v0
                    refine u_X4_next_240 ?_
                    refine ⟨fun c2523 => ?_, fun c2523 => ?_⟩
                    · exact hq _ hI g0 f0 hT
                    · refine ⟨o_v0, ?_⟩
                      intro x2524 ex2524
                      have q_x2524 : x2524 = y2522 := ex2524.trans d_y2522.symm
                      have d_x2524 := ex2524
                      refine ⟨fun c2525 => ?_, fun c2525 => ?_⟩
                      · exact hq _ hI g0 f0 hT
                      · intro x2526 ex2526
                        have q_x2526 : x2526 = x2512 := ex2526.trans d_x2512.symm
                        have d_x2526 := ex2526
                        intro x2527 ex2527
                        intro S2528 eS2528
                        have hI : IV S2528 := by rw [eS2528]; exact iv_sI hI o_v0 (by decide) (nu_free (by decide))
                        have f0 := fr_I eS2528 g0 f0 o_v0 (by decide)
                        have d_x2513 := rd_Ij eS2528 (by decide) d_x2513
                        have d_x2524 := rd_Ij eS2528 (by decide) d_x2524
                        have d_x2527 := rd_Is eS2528 (rfl : x2527 = x2527)
                        have hT := tx_I eS2528 hT
                        have g0 := gr_I eS2528 g0
                        have o_v0 := ob_I eS2528 o_v0
                        exact hq _ hI g0 f0 hT
              · refine ⟨fun c2529 => ?_, fun c2529 => ?_⟩
                · refine u_X4_next_217 ?_
                  refine ⟨fun c2530 => ?_, fun c2530 => ?_⟩
                  · refine u_X4_next_240 ?_
                    refine ⟨fun c2531 => ?_, fun c2531 => ?_⟩
                    · exact hq _ hI g0 f0 hT
                    · refine ⟨o_v0, ?_⟩
                      intro x2532 ex2532
                      have q_x2532 : x2532 = x2359 := ex2532.trans d_x2359.symm
                      have d_x2532 := ex2532
                      refine ⟨fun c2533 => ?_, fun c2533 => ?_⟩
                      · exact hq _ hI g0 f0 hT
                      · intro x2534 ex2534
                        have q_x2534 : x2534 = y2503 := ex2534.trans d_y2503.symm
                        have d_x2534 := ex2534
                        intro x2535 ex2535
                        intro S2536 eS2536
                        have hI : IV S2536 := by rw [eS2536]; exact iv_sI hI o_v0 (by decide) (nu_free (by decide))
                        have f0 := fr_I eS2536 g0 f0 o_v0 (by decide)
                        have d_y1575 := rd_Ij eS2536 (by decide) d_y1575
                        have d_x2532 := rd_Ij eS2536 (by decide) d_x2532
                        have d_x2535 := rd_Is eS2536 (rfl : x2535 = x2535)
                        have hT := tx_I eS2536 hT
                        have g0 := gr_I eS2536 g0
                        have o_v0 := ob_I eS2536 o_v0
                        exact hq _ hI g0 f0 hT
                  · refine ⟨o_v0, ?_⟩
                    intro x2537 ex2537
                    have q_x2537 : x2537 = y2503 := ex2537.trans d_y2503.symm
                    have d_x2537 := ex2537
                    intro x2538 ex2538
                    have q_x2538 : x2538 = y1575 := ex2538.trans d_y1575.symm
                    have d_x2538 := ex2538
                    refine ⟨fun c2539 => ?_, fun c2539 => ?_⟩
                    · refine u_X4_next_240 ?_
                      refine ⟨fun c2540 => ?_, fun c2540 => ?_⟩
                      · exact hq _ hI g0 f0 hT
                      · refine ⟨o_v0, ?_⟩
                        intro x2541 ex2541
                        have q_x2541 : x2541 = x2359 := ex2541.trans d_x2359.symm
                        have d_x2541 := ex2541
                        refine ⟨fun c2542 => ?_, fun c2542 => ?_⟩
                        · exact hq _ hI g0 f0 hT
                        · intro x2543 ex2543
                          have q_x2543 : x2543 = x2537 := ex2543.trans d_x2537.symm
                          have d_x2543 := ex2543
                          intro x2544 ex2544
                          intro S2545 eS2545
                          have hI : IV S2545 := by rw [eS2545]; exact iv_sI hI o_v0 (by decide) (nu_free (by decide))
                          have f0 := fr_I eS2545 g0 f0 o_v0 (by decide)
                          have d_x2538 := rd_Ij eS2545 (by decide) d_x2538
                          have d_x2541 := rd_Ij eS2545 (by decide) d_x2541
                          have d_x2544 := rd_Is eS2545 (rfl : x2544 = x2544)
                          have hT := tx_I eS2545 hT
                          have g0 := gr_I eS2545 g0
                          have o_v0 := ob_I eS2545 o_v0
                          exact hq _ hI g0 f0 hT
                    · intro S2546 eS2546
                      have hI : IV S2546 := by rw [eS2546]; exact iv_sI hI o_v0 (by decide) (nu_free (by decide))
                      have f0 := fr_I eS2546 g0 f0 o_v0 (by decide)
                      have d_x2538 := rd_Ij eS2546 (by decide) d_x2538
                      have d_x2537 := rd_Ij eS2546 (by decide) d_x2537
                      obtain ⟨y2547, hy2547⟩ : ∃ z : Int32, z = (6 : Int32) := ⟨_, rfl⟩
                      have d_y2547 := rd_Is eS2546 hy2547
                      have hT := tx_I eS2546 hT
                      have g0 := gr_I eS2546 g0
                      have o_v0 := ob_I eS2546 o_v0
                      refine u_X4_next_240 ?_
                      refine ⟨fun c2548 => ?_, fun c2548 => ?_⟩
                      · exact hq _ hI g0 f0 hT
                      · refine ⟨o_v0, ?_⟩
                        intro x2549 ex2549
                        have q_x2549 : x2549 = y2547 := ex2549.trans d_y2547.symm
                        have d_x2549 := ex2549
                        refine ⟨fun c2550 => ?_, fun c2550 => ?_⟩
                        · exact hq _ hI g0 f0 hT
                        · intro x2551 ex2551
                          have q_x2551 : x2551 = x2537 := ex2551.trans d_x2537.symm
                          have d_x2551 := ex2551
                          intro x2552 ex2552
                          intro S2553 eS2553
                          have hI : IV S2553 := by rw [eS2553]; exact iv_sI hI o_v0 (by decide) (nu_free (by decide))
                          have f0 := fr_I eS2553 g0 f0 o_v0 (by decide)
                          have d_x2538 := rd_Ij eS2553 (by decide) d_x2538
                          have d_x2549 := rd_Ij eS2553 (by decide) d_x2549
                          have d_x2552 := rd_Is eS2553 (rfl : x2552 = x2552)
                          have hT := tx_I eS2553 hT
                          have g0 := gr_I eS2553 g0
                          have o_v0 := ob_I eS2553 o_v0
                          exact hq _ hI g0 f0 hT
                · refine ⟨o_v0, ?_⟩
                  intro x2554 ex2554
                  have q_x2554 : x2554 = y2503 := ex2554.trans d_y2503.symm
                  have d_x2554 := ex2554
                  refine m_X4_sortAt hI o_v0 hT (fun x2555 S2556 hI2 g2557 p_x2555 => ?_)
                  obtain ⟨z_S2556, p_x2555⟩ := p_x2555
                  subst z_S2556
                  intro _
                  intro x2559 ex2559
                  have q_x2559 : x2559 = x2359 := ex2559.trans d_x2359.symm
                  have d_x2559 := ex2559
                  refine ⟨fun c2560 => ?_, fun c2560 => ?_⟩
                  · refine u_X4_next_217 ?_
                    refine ⟨fun c2561 => ?_, fun c2561 => ?_⟩
                    · refine u_X4_next_240 ?_
                      refine ⟨fun c2562 => ?_, fun c2562 => ?_⟩
                      · exact hq _ hI g0 f0 hT
                      · refine ⟨o_v0, ?_⟩
                        intro x2563 ex2563
                        have q_x2563 : x2563 = x2559 := ex2563.trans d_x2559.symm
                        have d_x2563 := ex2563
                        refine ⟨fun c2564 => ?_, fun c2564 => ?_⟩
                        · exact hq _ hI g0 f0 hT
                        · intro x2565 ex2565
                          have q_x2565 : x2565 = x2554 := ex2565.trans d_x2554.symm
                          have d_x2565 := ex2565
                          intro x2566 ex2566
                          intro S2567 eS2567
                          have hI : IV S2567 := by rw [eS2567]; exact iv_sI hI o_v0 (by decide) (nu_free (by decide))
                          have f0 := fr_I eS2567 g0 f0 o_v0 (by decide)
                          have d_y1575 := rd_Ij eS2567 (by decide) d_y1575
                          have d_x2563 := rd_Ij eS2567 (by decide) d_x2563
                          have d_x2566 := rd_Is eS2567 (rfl : x2566 = x2566)
                          have hT := tx_I eS2567 hT
                          have g0 := gr_I eS2567 g0
                          have o_v0 := ob_I eS2567 o_v0
                          exact hq _ hI g0 f0 hT
                    · refine ⟨o_v0, ?_⟩
                      intro x2568 ex2568
                      have q_x2568 : x2568 = x2554 := ex2568.trans d_x2554.symm
                      have d_x2568 := ex2568
                      intro x2569 ex2569
                      have q_x2569 : x2569 = y1575 := ex2569.trans d_y1575.symm
                      have d_x2569 := ex2569
                      refine ⟨fun c2570 => ?_, fun c2570 => ?_⟩
                      · refine u_X4_next_240 ?_
                        refine ⟨fun c2571 => ?_, fun c2571 => ?_⟩
                        · exact hq _ hI g0 f0 hT
                        · refine ⟨o_v0, ?_⟩
                          intro x2572 ex2572
                          have q_x2572 : x2572 = x2559 := ex2572.trans d_x2559.symm
                          have d_x2572 := ex2572
                          refine ⟨fun c2573 => ?_, fun c2573 => ?_⟩
                          · exact hq _ hI g0 f0 hT
                          · intro x2574 ex2574
                            have q_x2574 : x2574 = x2568 := ex2574.trans d_x2568.symm
                            have d_x2574 := ex2574
                            intro x2575 ex2575
                            intro S2576 eS2576
                            have hI : IV S2576 := by rw [eS2576]; exact iv_sI hI o_v0 (by decide) (nu_free (by decide))
                            have f0 := fr_I eS2576 g0 f0 o_v0 (by decide)
                            have d_x2569 := rd_Ij eS2576 (by decide) d_x2569
                            have d_x2572 := rd_Ij eS2576 (by decide) d_x2572
                            have d_x2575 := rd_Is eS2576 (rfl : x2575 = x2575)
                            have hT := tx_I eS2576 hT
                            have g0 := gr_I eS2576 g0
                            have o_v0 := ob_I eS2576 o_v0
                            exact hq _ hI g0 f0 hT
                      · intro S2577 eS2577
                        have hI : IV S2577 := by rw [eS2577]; exact iv_sI hI o_v0 (by decide) (nu_free (by decide))
                        have f0 := fr_I eS2577 g0 f0 o_v0 (by decide)
                        have d_x2569 := rd_Ij eS2577 (by decide) d_x2569
                        have d_x2568 := rd_Ij eS2577 (by decide) d_x2568
                        obtain ⟨y2578, hy2578⟩ : ∃ z : Int32, z = (6 : Int32) := ⟨_, rfl⟩
                        have d_y2578 := rd_Is eS2577 hy2578
                        have hT := tx_I eS2577 hT
                        have g0 := gr_I eS2577 g0
                        have o_v0 := ob_I eS2577 o_v0
                        refine u_X4_next_240 ?_
                        refine ⟨fun c2579 => ?_, fun c2579 => ?_⟩
                        · exact hq _ hI g0 f0 hT
                        · refine ⟨o_v0, ?_⟩
                          intro x2580 ex2580
                          have q_x2580 : x2580 = y2578 := ex2580.trans d_y2578.symm
                          have d_x2580 := ex2580
                          refine ⟨fun c2581 => ?_, fun c2581 => ?_⟩
                          · exact hq _ hI g0 f0 hT
                          · intro x2582 ex2582
                            have q_x2582 : x2582 = x2568 := ex2582.trans d_x2568.symm
                            have d_x2582 := ex2582
                            intro x2583 ex2583
                            intro S2584 eS2584
                            have hI : IV S2584 := by rw [eS2584]; exact iv_sI hI o_v0 (by decide) (nu_free (by decide))
                            have f0 := fr_I eS2584 g0 f0 o_v0 (by decide)
                            have d_x2569 := rd_Ij eS2584 (by decide) d_x2569
                            have d_x2580 := rd_Ij eS2584 (by decide) d_x2580
                            have d_x2583 := rd_Is eS2584 (rfl : x2583 = x2583)
                            have hT := tx_I eS2584 hT
                            have g0 := gr_I eS2584 g0
                            have o_v0 := ob_I eS2584 o_v0
                            exact hq _ hI g0 f0 hT
                  · refine ⟨fun c2585 => ?_, fun c2585 => ?_⟩
                    · refine u_X4_next_201 ?_
                      refine ⟨o_v0, ?_⟩
                      intro x2586 ex2586
                      have q_x2586 : x2586 = x2554 := ex2586.trans d_x2554.symm
                      have d_x2586 := ex2586
                      intro x2587 ex2587
                      intro S2588 eS2588
                      have hI : IV S2588 := by rw [eS2588]; exact iv_sI hI o_v0 (by decide) (nu_free (by decide))
                      have f0 := fr_I eS2588 g0 f0 o_v0 (by decide)
                      have fL2491 := fr_I eS2588 gL2490 fL2491 o_v0 (by decide)
                      have d_y1575 := rd_Ij eS2588 (by decide) d_y1575
                      have d_x2559 := rd_Ij eS2588 (by decide) d_x2559
                      have d_x2587 := rd_Is eS2588 (rfl : x2587 = x2587)
                      have hT := tx_I eS2588 hT
                      have g0 := gr_I eS2588 g0
                      have gL2490 := gr_I eS2588 gL2490
                      have o_v0 := ob_I eS2588 o_v0
                      intro x2589 ex2589
                      exact ih2502 _ _ _ _ _ _ ⟨hI, gL2490, fL2491, rfl, rfl, rfl, rfl, hT, (q592 i1u1 c10 p_x1568 c1572 q_x1573 hy1575 q_x1576 p_x1577 q_x1583 c1584 q_x2099 c2100 q_x2101 c2102 q_x2359 c2360 i1u2488 p_k1u2488 c2504 c2529 q_x2554 p_x2555 q_x2559 c2560 c2585 q_x2586 ex2587 ex2589), (by rw [← d_x2559, ← d_x2587]; exact (q593 i1u1 c10 p_x1568 c1572 q_x1573 hy1575 q_x1576 p_x1577 q_x1583 c1584 q_x2099 c2100 q_x2101 c2102 q_x2359 c2360 i1u2488 p_k1u2488 c2504 c2529 q_x2554 p_x2555 q_x2559 c2560 c2585 q_x2586 ex2587 ex2589))⟩ (mu_up (q594 i1u1 c10 p_x1568 c1572 q_x1573 hy1575 q_x1576 p_x1577 q_x1583 c1584 q_x2099 c2100 q_x2101 c2102 q_x2359 c2360 i1u2488 p_k1u2488 c2504 c2529 q_x2554 p_x2555 q_x2559 c2560 c2585 q_x2586 ex2587 ex2589) (q595 i1u1 c10 p_x1568 c1572 q_x1573 hy1575 q_x1576 p_x1577 q_x1583 c1584 q_x2099 c2100 q_x2101 c2102 q_x2359 c2360 i1u2488 p_k1u2488 c2504 c2529 q_x2554 p_x2555 q_x2559 c2560 c2585 q_x2586 ex2587 ex2589))
                    · intro x2590 ex2590
                      have q_x2590 : x2590 = x2554 := ex2590.trans d_x2554.symm
                      have d_x2590 := ex2590
                      obtain ⟨a2591, ea2591, o_a2591, l_a2591⟩ := id hT
                      refine ⟨a2591, ea2591, ?_⟩
                      refine ⟨o_a2591, ?_⟩
                      have n_a2591 : nI (hN S2489 a2591) = 900 := by rw [show hN S2489 a2591 = 900 from l_a2591]; decide
                      refine ⟨fun c2592 => ?_, fun c2592 => ?_⟩
                      · rw [n_a2591] at c2592
                        refine u_X4_next_201 ?_
                        refine ⟨o_v0, ?_⟩
                        intro x2593 ex2593
                        have q_x2593 : x2593 = x2590 := ex2593.trans d_x2590.symm
                        have d_x2593 := ex2593
                        intro x2594 ex2594
                        intro S2595 eS2595
                        have hI : IV S2595 := by rw [eS2595]; exact iv_sI hI o_v0 (by decide) (nu_free (by decide))
                        have f0 := fr_I eS2595 g0 f0 o_v0 (by decide)
                        have fL2491 := fr_I eS2595 gL2490 fL2491 o_v0 (by decide)
                        have d_y1575 := rd_Ij eS2595 (by decide) d_y1575
                        have d_x2559 := rd_Ij eS2595 (by decide) d_x2559
                        have d_x2594 := rd_Is eS2595 (rfl : x2594 = x2594)
                        have ea2591 := rf_I eS2595 ea2591
                        have hT := tx_I eS2595 hT
                        have l_a2591 := ln_I eS2595 l_a2591
                        have g0 := gr_I eS2595 g0
                        have gL2490 := gr_I eS2595 gL2490
                        have o_a2591 := ob_I eS2595 o_a2591
                        have o_v0 := ob_I eS2595 o_v0
                        intro x2596 ex2596
                        exact ih2502 _ _ _ _ _ _ ⟨hI, gL2490, fL2491, rfl, rfl, rfl, rfl, hT, (q596 i1u1 c10 p_x1568 c1572 q_x1573 hy1575 q_x1576 p_x1577 q_x1583 c1584 q_x2099 c2100 q_x2101 c2102 q_x2359 c2360 i1u2488 p_k1u2488 c2504 c2529 q_x2554 p_x2555 q_x2559 c2560 c2585 q_x2590 c2592 q_x2593 ex2594 ex2596), (by rw [← d_x2559, ← d_x2594]; exact (q597 i1u1 c10 p_x1568 c1572 q_x1573 hy1575 q_x1576 p_x1577 q_x1583 c1584 q_x2099 c2100 q_x2101 c2102 q_x2359 c2360 i1u2488 p_k1u2488 c2504 c2529 q_x2554 p_x2555 q_x2559 c2560 c2585 q_x2590 c2592 q_x2593 ex2594 ex2596))⟩ (mu_up (q598 i1u1 c10 p_x1568 c1572 q_x1573 hy1575 q_x1576 p_x1577 q_x1583 c1584 q_x2099 c2100 q_x2101 c2102 q_x2359 c2360 i1u2488 p_k1u2488 c2504 c2529 q_x2554 p_x2555 q_x2559 c2560 c2585 q_x2590 c2592 q_x2593 ex2594 ex2596) (q599 i1u1 c10 p_x1568 c1572 q_x1573 hy1575 q_x1576 p_x1577 q_x1583 c1584 q_x2099 c2100 q_x2101 c2102 q_x2359 c2360 i1u2488 p_k1u2488 c2504 c2529 q_x2554 p_x2555 q_x2559 c2560 c2585 q_x2590 c2592 q_x2593 ex2594 ex2596))
                      · rw [n_a2591] at c2592
                        intro x2597 ex2597
                        have dj_x2597 := ex2597
                        refine ⟨a2591, ea2591, ?_⟩
                        intro x2599 ex2599
                        have q_x2599 : x2599 = x2590 := ex2599.trans d_x2590.symm
                        have d_x2599 := ex2599
                        refine ⟨o_a2591, ?_⟩
                        refine ⟨(vin l_a2591 (m := 900) (by decide) (q600 i1u1 c10 p_x1568 c1572 q_x1573 hy1575 q_x1576 p_x1577 q_x1583 c1584 q_x2099 c2100 q_x2101 c2102 q_x2359 c2360 i1u2488 p_k1u2488 c2504 c2529 q_x2554 p_x2555 q_x2559 c2560 c2585 q_x2590 c2592 q_x2599)), ?_⟩
                        intro x2600 ex2600
                        intro x2601 ex2601
                        have q_x2601 : x2601 = x2559 := ex2601.trans d_x2559.symm
                        have d_x2601 := ex2601
                        refine ⟨fun c2602 => ?_, fun c2602 => ?_⟩
                        · refine u_X4_next_195 ?_
                          refine ⟨o_v0, ?_⟩
                          intro x2603 ex2603
                          intro S2604 eS2604
                          have hI : IV S2604 := by rw [eS2604]; exact iv_sJ hI o_v0 (by decide)
                          have f0 := fr_J eS2604 f0
                          have fL2491 := fr_J eS2604 fL2491
                          have d_y1575 := rd_J eS2604 d_y1575
                          have d_x2601 := rd_J eS2604 d_x2601
                          have d_x2599 := rd_J eS2604 d_x2599
                          have ea2591 := rf_J eS2604 ea2591
                          have hT := tx_J eS2604 hT
                          have l_a2591 := ln_J eS2604 l_a2591
                          have g0 := gr_J eS2604 g0
                          have gL2490 := gr_J eS2604 gL2490
                          have o_a2591 := ob_J eS2604 o_a2591
                          have o_v0 := ob_J eS2604 o_v0
                          refine u_X4_next_201 ?_
                          refine ⟨o_v0, ?_⟩
                          intro x2605 ex2605
                          have q_x2605 : x2605 = x2599 := ex2605.trans d_x2599.symm
                          have d_x2605 := ex2605
                          intro x2606 ex2606
                          intro S2607 eS2607
                          have hI : IV S2607 := by rw [eS2607]; exact iv_sI hI o_v0 (by decide) (nu_free (by decide))
                          have f0 := fr_I eS2607 g0 f0 o_v0 (by decide)
                          have fL2491 := fr_I eS2607 gL2490 fL2491 o_v0 (by decide)
                          have d_y1575 := rd_Ij eS2607 (by decide) d_y1575
                          have d_x2601 := rd_Ij eS2607 (by decide) d_x2601
                          have d_x2606 := rd_Is eS2607 (rfl : x2606 = x2606)
                          have ea2591 := rf_I eS2607 ea2591
                          have hT := tx_I eS2607 hT
                          have l_a2591 := ln_I eS2607 l_a2591
                          have g0 := gr_I eS2607 g0
                          have gL2490 := gr_I eS2607 gL2490
                          have o_a2591 := ob_I eS2607 o_a2591
                          have o_v0 := ob_I eS2607 o_v0
                          intro x2608 ex2608
                          exact ih2502 _ _ _ _ _ _ ⟨hI, gL2490, fL2491, rfl, rfl, rfl, rfl, hT, (q601 i1u1 c10 p_x1568 c1572 q_x1573 hy1575 q_x1576 p_x1577 q_x1583 c1584 q_x2099 c2100 q_x2101 c2102 q_x2359 c2360 i1u2488 p_k1u2488 c2504 c2529 q_x2554 p_x2555 q_x2559 c2560 c2585 q_x2590 c2592 q_x2599 q_x2601 c2602 q_x2605 ex2606 ex2608), (by rw [← d_x2601, ← d_x2606]; exact (q602 i1u1 c10 p_x1568 c1572 q_x1573 hy1575 q_x1576 p_x1577 q_x1583 c1584 q_x2099 c2100 q_x2101 c2102 q_x2359 c2360 i1u2488 p_k1u2488 c2504 c2529 q_x2554 p_x2555 q_x2559 c2560 c2585 q_x2590 c2592 q_x2599 q_x2601 c2602 q_x2605 ex2606 ex2608))⟩ (mu_up (q603 i1u1 c10 p_x1568 c1572 q_x1573 hy1575 q_x1576 p_x1577 q_x1583 c1584 q_x2099 c2100 q_x2101 c2102 q_x2359 c2360 i1u2488 p_k1u2488 c2504 c2529 q_x2554 p_x2555 q_x2559 c2560 c2585 q_x2590 c2592 q_x2599 q_x2601 c2602 q_x2605 ex2606 ex2608) (q604 i1u1 c10 p_x1568 c1572 q_x1573 hy1575 q_x1576 p_x1577 q_x1583 c1584 q_x2099 c2100 q_x2101 c2102 q_x2359 c2360 i1u2488 p_k1u2488 c2504 c2529 q_x2554 p_x2555 q_x2559 c2560 c2585 q_x2590 c2592 q_x2599 q_x2601 c2602 q_x2605 ex2606 ex2608))
                        · refine u_X4_next_195 ?_
                          refine ⟨o_v0, ?_⟩
                          intro x2609 ex2609
                          intro S2610 eS2610
                          have hI : IV S2610 := by rw [eS2610]; exact iv_sJ hI o_v0 (by decide)
                          have f0 := fr_J eS2610 f0
                          have fL2491 := fr_J eS2610 fL2491
                          have d_y1575 := rd_J eS2610 d_y1575
                          have d_x2601 := rd_J eS2610 d_x2601
                          have d_x2599 := rd_J eS2610 d_x2599
                          have ea2591 := rf_J eS2610 ea2591
                          have hT := tx_J eS2610 hT
                          have l_a2591 := ln_J eS2610 l_a2591
                          have g0 := gr_J eS2610 g0
                          have gL2490 := gr_J eS2610 gL2490
                          have o_a2591 := ob_J eS2610 o_a2591
                          have o_v0 := ob_J eS2610 o_v0
                          refine u_X4_next_201 ?_
                          refine ⟨o_v0, ?_⟩
                          intro x2611 ex2611
                          have q_x2611 : x2611 = x2599 := ex2611.trans d_x2599.symm
                          have d_x2611 := ex2611
                          intro x2612 ex2612
                          intro S2613 eS2613
                          have hI : IV S2613 := by rw [eS2613]; exact iv_sI hI o_v0 (by decide) (nu_free (by decide))
                          have f0 := fr_I eS2613 g0 f0 o_v0 (by decide)
                          have fL2491 := fr_I eS2613 gL2490 fL2491 o_v0 (by decide)
                          have d_y1575 := rd_Ij eS2613 (by decide) d_y1575
                          have d_x2601 := rd_Ij eS2613 (by decide) d_x2601
                          have d_x2612 := rd_Is eS2613 (rfl : x2612 = x2612)
                          have ea2591 := rf_I eS2613 ea2591
                          have hT := tx_I eS2613 hT
                          have l_a2591 := ln_I eS2613 l_a2591
                          have g0 := gr_I eS2613 g0
                          have gL2490 := gr_I eS2613 gL2490
                          have o_a2591 := ob_I eS2613 o_a2591
                          have o_v0 := ob_I eS2613 o_v0
                          intro x2614 ex2614
                          exact ih2502 _ _ _ _ _ _ ⟨hI, gL2490, fL2491, rfl, rfl, rfl, rfl, hT, (q605 i1u1 c10 p_x1568 c1572 q_x1573 hy1575 q_x1576 p_x1577 q_x1583 c1584 q_x2099 c2100 q_x2101 c2102 q_x2359 c2360 i1u2488 p_k1u2488 c2504 c2529 q_x2554 p_x2555 q_x2559 c2560 c2585 q_x2590 c2592 q_x2599 q_x2601 c2602 q_x2611 ex2612 ex2614), (by rw [← d_x2601, ← d_x2612]; exact (q606 i1u1 c10 p_x1568 c1572 q_x1573 hy1575 q_x1576 p_x1577 q_x1583 c1584 q_x2099 c2100 q_x2101 c2102 q_x2359 c2360 i1u2488 p_k1u2488 c2504 c2529 q_x2554 p_x2555 q_x2559 c2560 c2585 q_x2590 c2592 q_x2599 q_x2601 c2602 q_x2611 ex2612 ex2614))⟩ (mu_up (q607 i1u1 c10 p_x1568 c1572 q_x1573 hy1575 q_x1576 p_x1577 q_x1583 c1584 q_x2099 c2100 q_x2101 c2102 q_x2359 c2360 i1u2488 p_k1u2488 c2504 c2529 q_x2554 p_x2555 q_x2559 c2560 c2585 q_x2590 c2592 q_x2599 q_x2601 c2602 q_x2611 ex2612 ex2614) (q608 i1u1 c10 p_x1568 c1572 q_x1573 hy1575 q_x1576 p_x1577 q_x1583 c1584 q_x2099 c2100 q_x2101 c2102 q_x2359 c2360 i1u2488 p_k1u2488 c2504 c2529 q_x2554 p_x2555 q_x2559 c2560 c2585 q_x2590 c2592 q_x2599 q_x2601 c2602 q_x2611 ex2612 ex2614))
        · refine u_X4_next_78 ?_
          refine u_X4_next_83 ?_
          refine ⟨o_v0, ?_⟩
          intro x2615 ex2615
          have q_x2615 : x2615 = x2099 := ex2615.trans d_x2099.symm
          have d_x2615 := ex2615
          refine ⟨fun c2616 => ?_, fun c2616 => ?_⟩
          · refine u_X4_next_98 ?_
            refine ⟨o_v0, ?_⟩
            intro x2617 ex2617
            have q_x2617 : x2617 = x2615 := ex2617.trans d_x2615.symm
            have d_x2617 := ex2617
            refine ⟨fun c2618 => ?_, fun c2618 => ?_⟩
            · refine u_X4_next_114 ?_
              refine i_X4_next_118 (fun (y0 : Nat) (y1 : Int32) (y2 : Int32) (y3 : Int32) (y4 : Int32) (Z : HS) => ((2147483647 : Int32).toInt - y4.toInt).toNat) (fun (y0 : Nat) (y1 : Int32) (y2 : Int32) (y3 : Int32) (y4 : Int32) (Z : HS) => (IV Z) ∧ (Gr S1582 Z) ∧ (FRI [(4, 4)] [] S1582 Z) ∧ (v0 = y0) ∧ ((1 : Int32) = y1) ∧ ((3 : Int32) = y2) ∧ ((10 : Int32) = y3) ∧ (TX Z v0) ∧ (0 ≤ y4) ∧ ((y1 = 0 ∨ fI Z v0 6 = 1 ∨ fI Z v0 6 = 2) ∧ (y1 = 0 → fI Z v0 6 = 0 ∨ (0 ≤ fI Z v0 4 ∧ fI Z v0 4 < 900)))) ?_ _ _ _ _ _ _ ⟨hI, (gr_rf _), (fri_rf _ _ _), rfl, rfl, rfl, rfl, hT, (q609 i1u1 c10 p_x1568 c1572 q_x1573 hy1575 q_x1576 p_x1577 q_x1583 c1584 q_x2099 c2100 q_x2615 c2616 q_x2617 c2618), (by rw [← d_x2617, ← d_x1576]; exact (q610 i1u1 c10 p_x1568 c1572 q_x1573 hy1575 q_x1576 p_x1577 q_x1583 c1584 q_x2099 c2100 q_x2615 c2616 q_x2617 c2618))⟩
              intro w2623 w2625 w2627 w2629 w2631 S2620 X2632 ⟨hI, gL2621, fL2622, q2624, q2626, q2628, q2630, hT, i1u2619, k1u2619⟩ ih2633
              subst q2624
              subst q2626
              subst q2628
              subst q2630
              have d_y1575 := d_y1575.trans (fri_at fL2622 (by decide) (by decide) o_v0).symm
              have d_x2617 := d_x2617.trans (fri_at fL2622 (by decide) (by decide) o_v0).symm
              have f0 := fri_tr (S := S1582) g0 f0 fL2622 (by decide) (by decide)
              have o_v0 := gr_ob gL2621 o_v0
              have g0 := gr_tr (T := S1582) g0 gL2621
              obtain ⟨y2634, d_y2634⟩ : ∃ z : Int32, z = fI S2620 v0 4 := ⟨_, rfl⟩
              have p_k1u2619 : ((1 : Int32) = 0 ∨ x2617 = 1 ∨ x2617 = 2) ∧ ((1 : Int32) = 0 → x2617 = 0 ∨ (0 ≤ y2634 ∧ y2634 < 900)) := by rw [d_x2617, d_y2634]; exact k1u2619
              refine u_X4_next_118 ?_
              refine ⟨fun c2635 => ?_, fun c2635 => ?_⟩
              · refine u_X4_next_217 ?_
                refine ⟨fun c2636 => ?_, fun c2636 => ?_⟩
                · refine u_X4_next_240 ?_
                  refine ⟨fun c2637 => ?_, fun c2637 => ?_⟩
                  · exact hq _ hI g0 f0 hT
                  · refine ⟨o_v0, ?_⟩
                    intro x2638 ex2638
                    have q_x2638 : x2638 = x2617 := ex2638.trans d_x2617.symm
                    have d_x2638 := ex2638
                    refine ⟨fun c2639 => ?_, fun c2639 => ?_⟩
                    · exact hq _ hI g0 f0 hT
                    · intro x2640 ex2640
                      have q_x2640 : x2640 = y2634 := ex2640.trans d_y2634.symm
                      have d_x2640 := ex2640
                      intro x2641 ex2641
                      intro S2642 eS2642
                      have hI : IV S2642 := by rw [eS2642]; exact iv_sI hI o_v0 (by decide) (nu_free (by decide))
                      have f0 := fr_I eS2642 g0 f0 o_v0 (by decide)
                      have d_y1575 := rd_Ij eS2642 (by decide) d_y1575
                      have d_x2638 := rd_Ij eS2642 (by decide) d_x2638
                      have d_x2641 := rd_Is eS2642 (rfl : x2641 = x2641)
                      have hT := tx_I eS2642 hT
                      have g0 := gr_I eS2642 g0
                      have o_v0 := ob_I eS2642 o_v0
                      exact hq _ hI g0 f0 hT
                · refine ⟨o_v0, ?_⟩
                  intro x2643 ex2643
                  have q_x2643 : x2643 = y2634 := ex2643.trans d_y2634.symm
                  have d_x2643 := ex2643
                  intro x2644 ex2644
                  have q_x2644 : x2644 = y1575 := ex2644.trans d_y1575.symm
                  have d_x2644 := ex2644
                  refine ⟨fun c2645 => ?_, fun c2645 => ?_⟩
                  · refine u_X4_next_240 ?_
                    refine ⟨fun c2646 => ?_, fun c2646 => ?_⟩
                    · exact hq _ hI g0 f0 hT
                    · refine ⟨o_v0, ?_⟩
                      intro x2647 ex2647
                      have q_x2647 : x2647 = x2617 := ex2647.trans d_x2617.symm
                      have d_x2647 := ex2647
                      refine ⟨fun c2648 => ?_, fun c2648 => ?_⟩
                      · exact hq _ hI g0 f0 hT
                      · intro x2649 ex2649
                        have q_x2649 : x2649 = x2643 := ex2649.trans d_x2643.symm
                        have d_x2649 := ex2649
                        intro x2650 ex2650
                        intro S2651 eS2651
                        have hI : IV S2651 := by rw [eS2651]; exact iv_sI hI o_v0 (by decide) (nu_free (by decide))
                        have f0 := fr_I eS2651 g0 f0 o_v0 (by decide)
                        have d_x2644 := rd_Ij eS2651 (by decide) d_x2644
                        have d_x2647 := rd_Ij eS2651 (by decide) d_x2647
                        have d_x2650 := rd_Is eS2651 (rfl : x2650 = x2650)
                        have hT := tx_I eS2651 hT
                        have g0 := gr_I eS2651 g0
                        have o_v0 := ob_I eS2651 o_v0
                        exact hq _ hI g0 f0 hT
                  · intro S2652 eS2652
                    have hI : IV S2652 := by rw [eS2652]; exact iv_sI hI o_v0 (by decide) (nu_free (by decide))
                    have f0 := fr_I eS2652 g0 f0 o_v0 (by decide)
                    have d_x2644 := rd_Ij eS2652 (by decide) d_x2644
                    have d_x2643 := rd_Ij eS2652 (by decide) d_x2643
                    obtain ⟨y2653, hy2653⟩ : ∃ z : Int32, z = (6 : Int32) := ⟨_, rfl⟩
                    have d_y2653 := rd_Is eS2652 hy2653
                    have hT := tx_I eS2652 hT
                    have g0 := gr_I eS2652 g0
                    have o_v0 := ob_I eS2652 o_v0
                    refine u_X4_next_240 ?_
                    refine ⟨fun c2654 => ?_, fun c2654 => ?_⟩
                    · exact hq _ hI g0 f0 hT
                    · refine ⟨o_v0, ?_⟩
                      intro x2655 ex2655
                      have q_x2655 : x2655 = y2653 := ex2655.trans d_y2653.symm
                      have d_x2655 := ex2655
                      refine ⟨fun c2656 => ?_, fun c2656 => ?_⟩
                      · exact hq _ hI g0 f0 hT
                      · intro x2657 ex2657
                        have q_x2657 : x2657 = x2643 := ex2657.trans d_x2643.symm
                        have d_x2657 := ex2657
                        intro x2658 ex2658
                        intro S2659 eS2659
                        have hI : IV S2659 := by rw [eS2659]; exact iv_sI hI o_v0 (by decide) (nu_free (by decide))
                        have f0 := fr_I eS2659 g0 f0 o_v0 (by decide)
                        have d_x2644 := rd_Ij eS2659 (by decide) d_x2644
                        have d_x2655 := rd_Ij eS2659 (by decide) d_x2655
                        have d_x2658 := rd_Is eS2659 (rfl : x2658 = x2658)
                        have hT := tx_I eS2659 hT
                        have g0 := gr_I eS2659 g0
                        have o_v0 := ob_I eS2659 o_v0
                        exact hq _ hI g0 f0 hT
              · refine ⟨fun c2660 => ?_, fun c2660 => ?_⟩
                · refine u_X4_next_217 ?_
                  refine ⟨fun c2661 => ?_, fun c2661 => ?_⟩
                  · refine u_X4_next_240 ?_
                    refine ⟨fun c2662 => ?_, fun c2662 => ?_⟩
                    · exact hq _ hI g0 f0 hT
                    · refine ⟨o_v0, ?_⟩
                      intro x2663 ex2663
                      have q_x2663 : x2663 = x2617 := ex2663.trans d_x2617.symm
                      have d_x2663 := ex2663
                      refine ⟨fun c2664 => ?_, fun c2664 => ?_⟩
                      · exact hq _ hI g0 f0 hT
                      · intro x2665 ex2665
                        have q_x2665 : x2665 = y2634 := ex2665.trans d_y2634.symm
                        have d_x2665 := ex2665
                        intro x2666 ex2666
                        intro S2667 eS2667
                        have hI : IV S2667 := by rw [eS2667]; exact iv_sI hI o_v0 (by decide) (nu_free (by decide))
                        have f0 := fr_I eS2667 g0 f0 o_v0 (by decide)
                        have d_y1575 := rd_Ij eS2667 (by decide) d_y1575
                        have d_x2663 := rd_Ij eS2667 (by decide) d_x2663
                        have d_x2666 := rd_Is eS2667 (rfl : x2666 = x2666)
                        have hT := tx_I eS2667 hT
                        have g0 := gr_I eS2667 g0
                        have o_v0 := ob_I eS2667 o_v0
                        exact hq _ hI g0 f0 hT
                  · refine ⟨o_v0, ?_⟩
                    intro x2668 ex2668
                    have q_x2668 : x2668 = y2634 := ex2668.trans d_y2634.symm
                    have d_x2668 := ex2668
                    intro x2669 ex2669
                    have q_x2669 : x2669 = y1575 := ex2669.trans d_y1575.symm
                    have d_x2669 := ex2669
                    refine ⟨fun c2670 => ?_, fun c2670 => ?_⟩
                    · refine u_X4_next_240 ?_
                      refine ⟨fun c2671 => ?_, fun c2671 => ?_⟩
                      · exact hq _ hI g0 f0 hT
                      · refine ⟨o_v0, ?_⟩
                        intro x2672 ex2672
                        have q_x2672 : x2672 = x2617 := ex2672.trans d_x2617.symm
                        have d_x2672 := ex2672
                        refine ⟨fun c2673 => ?_, fun c2673 => ?_⟩
                        · exact hq _ hI g0 f0 hT
                        · intro x2674 ex2674
                          have q_x2674 : x2674 = x2668 := ex2674.trans d_x2668.symm
                          have d_x2674 := ex2674
                          intro x2675 ex2675
                          intro S2676 eS2676
                          have hI : IV S2676 := by rw [eS2676]; exact iv_sI hI o_v0 (by decide) (nu_free (by decide))
                          have f0 := fr_I eS2676 g0 f0 o_v0 (by decide)
                          have d_x2669 := rd_Ij eS2676 (by decide) d_x2669
                          have d_x2672 := rd_Ij eS2676 (by decide) d_x2672
                          have d_x2675 := rd_Is eS2676 (rfl : x2675 = x2675)
                          have hT := tx_I eS2676 hT
                          have g0 := gr_I eS2676 g0
                          have o_v0 := ob_I eS2676 o_v0
                          exact hq _ hI g0 f0 hT
                    · intro S2677 eS2677
                      have hI : IV S2677 := by rw [eS2677]; exact iv_sI hI o_v0 (by decide) (nu_free (by decide))
                      have f0 := fr_I eS2677 g0 f0 o_v0 (by decide)
                      have d_x2669 := rd_Ij eS2677 (by decide) d_x2669
                      have d_x2668 := rd_Ij eS2677 (by decide) d_x2668
                      obtain ⟨y2678, hy2678⟩ : ∃ z : Int32, z = (6 : Int32) := ⟨_, rfl⟩
                      have d_y2678 := rd_Is eS2677 hy2678
                      have hT := tx_I eS2677 hT
                      have g0 := gr_I eS2677 g0
                      have o_v0 := ob_I eS2677 o_v0
                      refine u_X4_next_240 ?_
                      refine ⟨fun c2679 => ?_, fun c2679 => ?_⟩
                      · exact hq _ hI g0 f0 hT
                      · refine ⟨o_v0, ?_⟩
                        intro x2680 ex2680
                        have q_x2680 : x2680 = y2678 := ex2680.trans d_y2678.symm
                        have d_x2680 := ex2680
                        refine ⟨fun c2681 => ?_, fun c2681 => ?_⟩
                        · exact hq _ hI g0 f0 hT
                        · intro x2682 ex2682
                          have q_x2682 : x2682 = x2668 := ex2682.trans d_x2668.symm
                          have d_x2682 := ex2682
                          intro x2683 ex2683
                          intro S2684 eS2684
                          have hI : IV S2684 := by rw [eS2684]; exact iv_sI hI o_v0 (by decide) (nu_free (by decide))
                          have f0 := fr_I eS2684 g0 f0 o_v0 (by decide)
                          have d_x2669 := rd_Ij eS2684 (by decide) d_x2669
                          have d_x2680 := rd_Ij eS2684 (by decide) d_x2680
                          have d_x2683 := rd_Is eS2684 (rfl : x2683 = x2683)
                          have hT := tx_I eS2684 hT
                          have g0 := gr_I eS2684 g0
                          have o_v0 := ob_I eS2684 o_v0
                          exact hq _ hI g0 f0 hT
                · refine ⟨o_v0, ?_⟩
                  intro x2685 ex2685
                  have q_x2685 : x2685 = y2634 := ex2685.trans d_y2634.symm
                  have d_x2685 := ex2685
                  refine m_X4_sortAt hI o_v0 hT (fun x2686 S2687 hI2 g2688 p_x2686 => ?_)
                  obtain ⟨z_S2687, p_x2686⟩ := p_x2686
                  subst z_S2687
                  intro _
                  intro x2690 ex2690
                  have q_x2690 : x2690 = x2617 := ex2690.trans d_x2617.symm
                  have d_x2690 := ex2690
                  refine ⟨fun c2691 => ?_, fun c2691 => ?_⟩
                  · refine u_X4_next_217 ?_
                    refine ⟨fun c2692 => ?_, fun c2692 => ?_⟩
                    · refine u_X4_next_240 ?_
                      refine ⟨fun c2693 => ?_, fun c2693 => ?_⟩
                      · exact hq _ hI g0 f0 hT
                      · refine ⟨o_v0, ?_⟩
                        intro x2694 ex2694
                        have q_x2694 : x2694 = x2690 := ex2694.trans d_x2690.symm
                        have d_x2694 := ex2694
                        refine ⟨fun c2695 => ?_, fun c2695 => ?_⟩
                        · exact hq _ hI g0 f0 hT
                        · intro x2696 ex2696
                          have q_x2696 : x2696 = x2685 := ex2696.trans d_x2685.symm
                          have d_x2696 := ex2696
                          intro x2697 ex2697
                          intro S2698 eS2698
                          have hI : IV S2698 := by rw [eS2698]; exact iv_sI hI o_v0 (by decide) (nu_free (by decide))
                          have f0 := fr_I eS2698 g0 f0 o_v0 (by decide)
                          have d_y1575 := rd_Ij eS2698 (by decide) d_y1575
                          have d_x2694 := rd_Ij eS2698 (by decide) d_x2694
                          have d_x2697 := rd_Is eS2698 (rfl : x2697 = x2697)
                          have hT := tx_I eS2698 hT
                          have g0 := gr_I eS2698 g0
                          have o_v0 := ob_I eS2698 o_v0
                          exact hq _ hI g0 f0 hT
                    · refine ⟨o_v0, ?_⟩
                      intro x2699 ex2699
                      have q_x2699 : x2699 = x2685 := ex2699.trans d_x2685.symm
                      have d_x2699 := ex2699
                      intro x2700 ex2700
                      have q_x2700 : x2700 = y1575 := ex2700.trans d_y1575.symm
                      have d_x2700 := ex2700
                      refine ⟨fun c2701 => ?_, fun c2701 => ?_⟩
                      · refine u_X4_next_240 ?_
                        refine ⟨fun c2702 => ?_, fun c2702 => ?_⟩
                        · exact hq _ hI g0 f0 hT
                        · refine ⟨o_v0, ?_⟩
                          intro x2703 ex2703
                          have q_x2703 : x2703 = x2690 := ex2703.trans d_x2690.symm
                          have d_x2703 := ex2703
                          refine ⟨fun c2704 => ?_, fun c2704 => ?_⟩
                          · exact hq _ hI g0 f0 hT
                          · intro x2705 ex2705
                            have q_x2705 : x2705 = x2699 := ex2705.trans d_x2699.symm
                            have d_x2705 := ex2705
                            intro x2706 ex2706
                            intro S2707 eS2707
                            have hI : IV S2707 := by rw [eS2707]; exact iv_sI hI o_v0 (by decide) (nu_free (by decide))
                            have f0 := fr_I eS2707 g0 f0 o_v0 (by decide)
                            have d_x2700 := rd_Ij eS2707 (by decide) d_x2700
                            have d_x2703 := rd_Ij eS2707 (by decide) d_x2703
                            have d_x2706 := rd_Is eS2707 (rfl : x2706 = x2706)
                            have hT := tx_I eS2707 hT
                            have g0 := gr_I eS2707 g0
                            have o_v0 := ob_I eS2707 o_v0
                            exact hq _ hI g0 f0 hT
                      · intro S2708 eS2708
                        have hI : IV S2708 := by rw [eS2708]; exact iv_sI hI o_v0 (by decide) (nu_free (by decide))
                        have f0 := fr_I eS2708 g0 f0 o_v0 (by decide)
                        have d_x2700 := rd_Ij eS2708 (by decide) d_x2700
                        have d_x2699 := rd_Ij eS2708 (by decide) d_x2699
                        obtain ⟨y2709, hy2709⟩ : ∃ z : Int32, z = (6 : Int32) := ⟨_, rfl⟩
                        have d_y2709 := rd_Is eS2708 hy2709
                        have hT := tx_I eS2708 hT
                        have g0 := gr_I eS2708 g0
                        have o_v0 := ob_I eS2708 o_v0
                        refine u_X4_next_240 ?_
                        refine ⟨fun c2710 => ?_, fun c2710 => ?_⟩
                        · exact hq _ hI g0 f0 hT
                        · refine ⟨o_v0, ?_⟩
                          intro x2711 ex2711
                          have q_x2711 : x2711 = y2709 := ex2711.trans d_y2709.symm
                          have d_x2711 := ex2711
                          refine ⟨fun c2712 => ?_, fun c2712 => ?_⟩
                          · exact hq _ hI g0 f0 hT
                          · intro x2713 ex2713
                            have q_x2713 : x2713 = x2699 := ex2713.trans d_x2699.symm
                            have d_x2713 := ex2713
                            intro x2714 ex2714
                            intro S2715 eS2715
                            have hI : IV S2715 := by rw [eS2715]; exact iv_sI hI o_v0 (by decide) (nu_free (by decide))
                            have f0 := fr_I eS2715 g0 f0 o_v0 (by decide)
                            have d_x2700 := rd_Ij eS2715 (by decide) d_x2700
                            have d_x2711 := rd_Ij eS2715 (by decide) d_x2711
                            have d_x2714 := rd_Is eS2715 (rfl : x2714 = x2714)
                            have hT := tx_I eS2715 hT
                            have g0 := gr_I eS2715 g0
                            have o_v0 := ob_I eS2715 o_v0
                            exact hq _ hI g0 f0 hT
                  · refine ⟨fun c2716 => ?_, fun c2716 => ?_⟩
                    · refine u_X4_next_201 ?_
                      refine ⟨o_v0, ?_⟩
                      intro x2717 ex2717
                      have q_x2717 : x2717 = x2685 := ex2717.trans d_x2685.symm
                      have d_x2717 := ex2717
                      intro x2718 ex2718
                      intro S2719 eS2719
                      have hI : IV S2719 := by rw [eS2719]; exact iv_sI hI o_v0 (by decide) (nu_free (by decide))
                      have f0 := fr_I eS2719 g0 f0 o_v0 (by decide)
                      have fL2622 := fr_I eS2719 gL2621 fL2622 o_v0 (by decide)
                      have d_y1575 := rd_Ij eS2719 (by decide) d_y1575
                      have d_x2690 := rd_Ij eS2719 (by decide) d_x2690
                      have d_x2718 := rd_Is eS2719 (rfl : x2718 = x2718)
                      have hT := tx_I eS2719 hT
                      have g0 := gr_I eS2719 g0
                      have gL2621 := gr_I eS2719 gL2621
                      have o_v0 := ob_I eS2719 o_v0
                      intro x2720 ex2720
                      exact ih2633 _ _ _ _ _ _ ⟨hI, gL2621, fL2622, rfl, rfl, rfl, rfl, hT, (q611 i1u1 c10 p_x1568 c1572 q_x1573 hy1575 q_x1576 p_x1577 q_x1583 c1584 q_x2099 c2100 q_x2615 c2616 q_x2617 c2618 i1u2619 p_k1u2619 c2660 q_x2685 p_x2686 q_x2690 c2691 c2716 q_x2717 ex2718 ex2720), (by rw [← d_x2690, ← d_x2718]; exact (q612 i1u1 c10 p_x1568 c1572 q_x1573 hy1575 q_x1576 p_x1577 q_x1583 c1584 q_x2099 c2100 q_x2615 c2616 q_x2617 c2618 i1u2619 p_k1u2619 c2660 q_x2685 p_x2686 q_x2690 c2691 c2716 q_x2717 ex2718 ex2720))⟩ (mu_up (q613 i1u1 c10 p_x1568 c1572 q_x1573 hy1575 q_x1576 p_x1577 q_x1583 c1584 q_x2099 c2100 q_x2615 c2616 q_x2617 c2618 i1u2619 p_k1u2619 c2660 q_x2685 p_x2686 q_x2690 c2691 c2716 q_x2717 ex2718 ex2720) (q614 i1u1 c10 p_x1568 c1572 q_x1573 hy1575 q_x1576 p_x1577 q_x1583 c1584 q_x2099 c2100 q_x2615 c2616 q_x2617 c2618 i1u2619 p_k1u2619 c2660 q_x2685 p_x2686 q_x2690 c2691 c2716 q_x2717 ex2718 ex2720))
                    · intro x2721 ex2721
                      have q_x2721 : x2721 = x2685 := ex2721.trans d_x2685.symm
                      have d_x2721 := ex2721
                      obtain ⟨a2722, ea2722, o_a2722, l_a2722⟩ := id hT
                      refine ⟨a2722, ea2722, ?_⟩
                      refine ⟨o_a2722, ?_⟩
                      have n_a2722 : nI (hN S2620 a2722) = 900 := by rw [show hN S2620 a2722 = 900 from l_a2722]; decide
                      refine ⟨fun c2723 => ?_, fun c2723 => ?_⟩
                      · rw [n_a2722] at c2723
                        refine u_X4_next_201 ?_
                        refine ⟨o_v0, ?_⟩
                        intro x2724 ex2724
                        have q_x2724 : x2724 = x2721 := ex2724.trans d_x2721.symm
                        have d_x2724 := ex2724
                        intro x2725 ex2725
                        intro S2726 eS2726
                        have hI : IV S2726 := by rw [eS2726]; exact iv_sI hI o_v0 (by decide) (nu_free (by decide))
                        have f0 := fr_I eS2726 g0 f0 o_v0 (by decide)
                        have fL2622 := fr_I eS2726 gL2621 fL2622 o_v0 (by decide)
                        have d_y1575 := rd_Ij eS2726 (by decide) d_y1575
                        have d_x2690 := rd_Ij eS2726 (by decide) d_x2690
                        have d_x2725 := rd_Is eS2726 (rfl : x2725 = x2725)
                        have ea2722 := rf_I eS2726 ea2722
                        have hT := tx_I eS2726 hT
                        have l_a2722 := ln_I eS2726 l_a2722
                        have g0 := gr_I eS2726 g0
                        have gL2621 := gr_I eS2726 gL2621
                        have o_a2722 := ob_I eS2726 o_a2722
                        have o_v0 := ob_I eS2726 o_v0
                        intro x2727 ex2727
                        exact ih2633 _ _ _ _ _ _ ⟨hI, gL2621, fL2622, rfl, rfl, rfl, rfl, hT, (q615 i1u1 c10 p_x1568 c1572 q_x1573 hy1575 q_x1576 p_x1577 q_x1583 c1584 q_x2099 c2100 q_x2615 c2616 q_x2617 c2618 i1u2619 p_k1u2619 c2660 q_x2685 p_x2686 q_x2690 c2691 c2716 q_x2721 c2723 q_x2724 ex2725 ex2727), (by rw [← d_x2690, ← d_x2725]; exact (q616 i1u1 c10 p_x1568 c1572 q_x1573 hy1575 q_x1576 p_x1577 q_x1583 c1584 q_x2099 c2100 q_x2615 c2616 q_x2617 c2618 i1u2619 p_k1u2619 c2660 q_x2685 p_x2686 q_x2690 c2691 c2716 q_x2721 c2723 q_x2724 ex2725 ex2727))⟩ (mu_up (q617 i1u1 c10 p_x1568 c1572 q_x1573 hy1575 q_x1576 p_x1577 q_x1583 c1584 q_x2099 c2100 q_x2615 c2616 q_x2617 c2618 i1u2619 p_k1u2619 c2660 q_x2685 p_x2686 q_x2690 c2691 c2716 q_x2721 c2723 q_x2724 ex2725 ex2727) (q618 i1u1 c10 p_x1568 c1572 q_x1573 hy1575 q_x1576 p_x1577 q_x1583 c1584 q_x2099 c2100 q_x2615 c2616 q_x2617 c2618 i1u2619 p_k1u2619 c2660 q_x2685 p_x2686 q_x2690 c2691 c2716 q_x2721 c2723 q_x2724 ex2725 ex2727))
                      · rw [n_a2722] at c2723
                        intro x2728 ex2728
                        have dj_x2728 := ex2728
                        refine ⟨a2722, ea2722, ?_⟩
                        intro x2730 ex2730
                        have q_x2730 : x2730 = x2721 := ex2730.trans d_x2721.symm
                        have d_x2730 := ex2730
                        refine ⟨o_a2722, ?_⟩
                        refine ⟨(vin l_a2722 (m := 900) (by decide) (q619 i1u1 c10 p_x1568 c1572 q_x1573 hy1575 q_x1576 p_x1577 q_x1583 c1584 q_x2099 c2100 q_x2615 c2616 q_x2617 c2618 i1u2619 p_k1u2619 c2660 q_x2685 p_x2686 q_x2690 c2691 c2716 q_x2721 c2723 q_x2730)), ?_⟩
                        intro x2731 ex2731
                        intro x2732 ex2732
                        have q_x2732 : x2732 = x2690 := ex2732.trans d_x2690.symm
                        have d_x2732 := ex2732
                        refine ⟨fun c2733 => ?_, fun c2733 => ?_⟩
                        · refine u_X4_next_195 ?_
                          refine ⟨o_v0, ?_⟩
                          intro x2734 ex2734
                          intro S2735 eS2735
                          have hI : IV S2735 := by rw [eS2735]; exact iv_sJ hI o_v0 (by decide)
                          have f0 := fr_J eS2735 f0
                          have fL2622 := fr_J eS2735 fL2622
                          have d_y1575 := rd_J eS2735 d_y1575
                          have d_x2732 := rd_J eS2735 d_x2732
                          have d_x2730 := rd_J eS2735 d_x2730
                          have ea2722 := rf_J eS2735 ea2722
                          have hT := tx_J eS2735 hT
                          have l_a2722 := ln_J eS2735 l_a2722
                          have g0 := gr_J eS2735 g0
                          have gL2621 := gr_J eS2735 gL2621
                          have o_a2722 := ob_J eS2735 o_a2722
                          have o_v0 := ob_J eS2735 o_v0
                          refine u_X4_next_201 ?_
                          refine ⟨o_v0, ?_⟩
                          intro x2736 ex2736
                          have q_x2736 : x2736 = x2730 := ex2736.trans d_x2730.symm
                          have d_x2736 := ex2736
                          intro x2737 ex2737
                          intro S2738 eS2738
                          have hI : IV S2738 := by rw [eS2738]; exact iv_sI hI o_v0 (by decide) (nu_free (by decide))
                          have f0 := fr_I eS2738 g0 f0 o_v0 (by decide)
                          have fL2622 := fr_I eS2738 gL2621 fL2622 o_v0 (by decide)
                          have d_y1575 := rd_Ij eS2738 (by decide) d_y1575
                          have d_x2732 := rd_Ij eS2738 (by decide) d_x2732
                          have d_x2737 := rd_Is eS2738 (rfl : x2737 = x2737)
                          have ea2722 := rf_I eS2738 ea2722
                          have hT := tx_I eS2738 hT
                          have l_a2722 := ln_I eS2738 l_a2722
                          have g0 := gr_I eS2738 g0
                          have gL2621 := gr_I eS2738 gL2621
                          have o_a2722 := ob_I eS2738 o_a2722
                          have o_v0 := ob_I eS2738 o_v0
                          intro x2739 ex2739
                          exact ih2633 _ _ _ _ _ _ ⟨hI, gL2621, fL2622, rfl, rfl, rfl, rfl, hT, (q620 i1u1 c10 p_x1568 c1572 q_x1573 hy1575 q_x1576 p_x1577 q_x1583 c1584 q_x2099 c2100 q_x2615 c2616 q_x2617 c2618 i1u2619 p_k1u2619 c2660 q_x2685 p_x2686 q_x2690 c2691 c2716 q_x2721 c2723 q_x2730 q_x2732 c2733 q_x2736 ex2737 ex2739), (by rw [← d_x2732, ← d_x2737]; exact (q621 i1u1 c10 p_x1568 c1572 q_x1573 hy1575 q_x1576 p_x1577 q_x1583 c1584 q_x2099 c2100 q_x2615 c2616 q_x2617 c2618 i1u2619 p_k1u2619 c2660 q_x2685 p_x2686 q_x2690 c2691 c2716 q_x2721 c2723 q_x2730 q_x2732 c2733 q_x2736 ex2737 ex2739))⟩ (mu_up (q622 i1u1 c10 p_x1568 c1572 q_x1573 hy1575 q_x1576 p_x1577 q_x1583 c1584 q_x2099 c2100 q_x2615 c2616 q_x2617 c2618 i1u2619 p_k1u2619 c2660 q_x2685 p_x2686 q_x2690 c2691 c2716 q_x2721 c2723 q_x2730 q_x2732 c2733 q_x2736 ex2737 ex2739) (q623 i1u1 c10 p_x1568 c1572 q_x1573 hy1575 q_x1576 p_x1577 q_x1583 c1584 q_x2099 c2100 q_x2615 c2616 q_x2617 c2618 i1u2619 p_k1u2619 c2660 q_x2685 p_x2686 q_x2690 c2691 c2716 q_x2721 c2723 q_x2730 q_x2732 c2733 q_x2736 ex2737 ex2739))
                        · refine u_X4_next_195 ?_
                          refine ⟨o_v0, ?_⟩
                          intro x2740 ex2740
                          intro S2741 eS2741
                          have hI : IV S2741 := by rw [eS2741]; exact iv_sJ hI o_v0 (by decide)
                          have f0 := fr_J eS2741 f0
                          have fL2622 := fr_J eS2741 fL2622
                          have d_y1575 := rd_J eS2741 d_y1575
                          have d_x2732 := rd_J eS2741 d_x2732
                          have d_x2730 := rd_J eS2741 d_x2730
                          have ea2722 := rf_J eS2741 ea2722
                          have hT := tx_J eS2741 hT
                          have l_a2722 := ln_J eS2741 l_a2722
                          have g0 := gr_J eS2741 g0
                          have gL2621 := gr_J eS2741 gL2621
                          have o_a2722 := ob_J eS2741 o_a2722
                          have o_v0 := ob_J eS2741 o_v0
                          refine u_X4_next_201 ?_
                          refine ⟨o_v0, ?_⟩
                          intro x2742 ex2742
                          have q_x2742 : x2742 = x2730 := ex2742.trans d_x2730.symm
                          have d_x2742 := ex2742
                          intro x2743 ex2743
                          intro S2744 eS2744
                          have hI : IV S2744 := by rw [eS2744]; exact iv_sI hI o_v0 (by decide) (nu_free (by decide))
                          have f0 := fr_I eS2744 g0 f0 o_v0 (by decide)
                          have fL2622 := fr_I eS2744 gL2621 fL2622 o_v0 (by decide)
                          have d_y1575 := rd_Ij eS2744 (by decide) d_y1575
                          have d_x2732 := rd_Ij eS2744 (by decide) d_x2732
                          have d_x2743 := rd_Is eS2744 (rfl : x2743 = x2743)
                          have ea2722 := rf_I eS2744 ea2722
                          have hT := tx_I eS2744 hT
                          have l_a2722 := ln_I eS2744 l_a2722
                          have g0 := gr_I eS2744 g0
                          have gL2621 := gr_I eS2744 gL2621
                          have o_a2722 := ob_I eS2744 o_a2722
                          have o_v0 := ob_I eS2744 o_v0
                          intro x2745 ex2745
                          exact ih2633 _ _ _ _ _ _ ⟨hI, gL2621, fL2622, rfl, rfl, rfl, rfl, hT, (q624 i1u1 c10 p_x1568 c1572 q_x1573 hy1575 q_x1576 p_x1577 q_x1583 c1584 q_x2099 c2100 q_x2615 c2616 q_x2617 c2618 i1u2619 p_k1u2619 c2660 q_x2685 p_x2686 q_x2690 c2691 c2716 q_x2721 c2723 q_x2730 q_x2732 c2733 q_x2742 ex2743 ex2745), (by rw [← d_x2732, ← d_x2743]; exact (q625 i1u1 c10 p_x1568 c1572 q_x1573 hy1575 q_x1576 p_x1577 q_x1583 c1584 q_x2099 c2100 q_x2615 c2616 q_x2617 c2618 i1u2619 p_k1u2619 c2660 q_x2685 p_x2686 q_x2690 c2691 c2716 q_x2721 c2723 q_x2730 q_x2732 c2733 q_x2742 ex2743 ex2745))⟩ (mu_up (q626 i1u1 c10 p_x1568 c1572 q_x1573 hy1575 q_x1576 p_x1577 q_x1583 c1584 q_x2099 c2100 q_x2615 c2616 q_x2617 c2618 i1u2619 p_k1u2619 c2660 q_x2685 p_x2686 q_x2690 c2691 c2716 q_x2721 c2723 q_x2730 q_x2732 c2733 q_x2742 ex2743 ex2745) (q627 i1u1 c10 p_x1568 c1572 q_x1573 hy1575 q_x1576 p_x1577 q_x1583 c1584 q_x2099 c2100 q_x2615 c2616 q_x2617 c2618 i1u2619 p_k1u2619 c2660 q_x2685 p_x2686 q_x2690 c2691 c2716 q_x2721 c2723 q_x2730 q_x2732 c2733 q_x2742 ex2743 ex2745))
            · refine u_X4_next_114 ?_
              refine i_X4_next_118 (fun (y0 : Nat) (y1 : Int32) (y2 : Int32) (y3 : Int32) (y4 : Int32) (Z : HS) => ((2147483647 : Int32).toInt - y4.toInt).toNat) (fun (y0 : Nat) (y1 : Int32) (y2 : Int32) (y3 : Int32) (y4 : Int32) (Z : HS) => (IV Z) ∧ (Gr S1582 Z) ∧ (FRI [(4, 4)] [] S1582 Z) ∧ (v0 = y0) ∧ ((1 : Int32) = y1) ∧ ((3 : Int32) = y2) ∧ ((32 : Int32) = y3) ∧ (TX Z v0) ∧ (0 ≤ y4) ∧ ((y1 = 0 ∨ fI Z v0 6 = 1 ∨ fI Z v0 6 = 2) ∧ (y1 = 0 → fI Z v0 6 = 0 ∨ (0 ≤ fI Z v0 4 ∧ fI Z v0 4 < 900)))) ?_ _ _ _ _ _ _ ⟨hI, (gr_rf _), (fri_rf _ _ _), rfl, rfl, rfl, rfl, hT, (q628 i1u1 c10 p_x1568 c1572 q_x1573 hy1575 q_x1576 p_x1577 q_x1583 c1584 q_x2099 c2100 q_x2615 c2616 q_x2617 c2618), (by rw [← d_x2617, ← d_x1576]; exact (q629 i1u1 c10 p_x1568 c1572 q_x1573 hy1575 q_x1576 p_x1577 q_x1583 c1584 q_x2099 c2100 q_x2615 c2616 q_x2617 c2618))⟩
              intro w2750 w2752 w2754 w2756 w2758 S2747 X2759 ⟨hI, gL2748, fL2749, q2751, q2753, q2755, q2757, hT, i1u2746, k1u2746⟩ ih2760
              subst q2751
              subst q2753
              subst q2755
              subst q2757
              have d_y1575 := d_y1575.trans (fri_at fL2749 (by decide) (by decide) o_v0).symm
              have d_x2617 := d_x2617.trans (fri_at fL2749 (by decide) (by decide) o_v0).symm
              have f0 := fri_tr (S := S1582) g0 f0 fL2749 (by decide) (by decide)
              have o_v0 := gr_ob gL2748 o_v0
              have g0 := gr_tr (T := S1582) g0 gL2748
              obtain ⟨y2761, d_y2761⟩ : ∃ z : Int32, z = fI S2747 v0 4 := ⟨_, rfl⟩
              have p_k1u2746 : ((1 : Int32) = 0 ∨ x2617 = 1 ∨ x2617 = 2) ∧ ((1 : Int32) = 0 → x2617 = 0 ∨ (0 ≤ y2761 ∧ y2761 < 900)) := by rw [d_x2617, d_y2761]; exact k1u2746
              refine u_X4_next_118 ?_
              refine ⟨fun c2762 => ?_, fun c2762 => ?_⟩
              · refine u_X4_next_217 ?_
                refine ⟨fun c2763 => ?_, fun c2763 => ?_⟩
                · refine u_X4_next_240 ?_
                  refine ⟨fun c2764 => ?_, fun c2764 => ?_⟩
                  · exact hq _ hI g0 f0 hT
                  · refine ⟨o_v0, ?_⟩
                    intro x2765 ex2765
                    have q_x2765 : x2765 = x2617 := ex2765.trans d_x2617.symm
                    have d_x2765 := ex2765
                    refine ⟨fun c2766 => ?_, fun c2766 => ?_⟩
                    · exact hq _ hI g0 f0 hT
                    · intro x2767 ex2767
                      have q_x2767 : x2767 = y2761 := ex2767.trans d_y2761.symm
                      have d_x2767 := ex2767
                      intro x2768 ex2768
                      intro S2769 eS2769
                      have hI : IV S2769 := by rw [eS2769]; exact iv_sI hI o_v0 (by decide) (nu_free (by decide))
                      have f0 := fr_I eS2769 g0 f0 o_v0 (by decide)
                      have d_y1575 := rd_Ij eS2769 (by decide) d_y1575
                      have d_x2765 := rd_Ij eS2769 (by decide) d_x2765
                      have d_x2768 := rd_Is eS2769 (rfl : x2768 = x2768)
                      have hT := tx_I eS2769 hT
                      have g0 := gr_I eS2769 g0
                      have o_v0 := ob_I eS2769 o_v0
                      exact hq _ hI g0 f0 hT
                · refine ⟨o_v0, ?_⟩
                  intro x2770 ex2770
                  have q_x2770 : x2770 = y2761 := ex2770.trans d_y2761.symm
                  have d_x2770 := ex2770
                  intro x2771 ex2771
                  have q_x2771 : x2771 = y1575 := ex2771.trans d_y1575.symm
                  have d_x2771 := ex2771
                  refine ⟨fun c2772 => ?_, fun c2772 => ?_⟩
                  · refine u_X4_next_240 ?_
                    refine ⟨fun c2773 => ?_, fun c2773 => ?_⟩
                    · exact hq _ hI g0 f0 hT
                    · refine ⟨o_v0, ?_⟩
                      intro x2774 ex2774
                      have q_x2774 : x2774 = x2617 := ex2774.trans d_x2617.symm
                      have d_x2774 := ex2774
                      refine ⟨fun c2775 => ?_, fun c2775 => ?_⟩
                      · exact hq _ hI g0 f0 hT
                      · intro x2776 ex2776
                        have q_x2776 : x2776 = x2770 := ex2776.trans d_x2770.symm
                        have d_x2776 := ex2776
                        intro x2777 ex2777
                        intro S2778 eS2778
                        have hI : IV S2778 := by rw [eS2778]; exact iv_sI hI o_v0 (by decide) (nu_free (by decide))
                        have f0 := fr_I eS2778 g0 f0 o_v0 (by decide)
                        have d_x2771 := rd_Ij eS2778 (by decide) d_x2771
                        have d_x2774 := rd_Ij eS2778 (by decide) d_x2774
                        have d_x2777 := rd_Is eS2778 (rfl : x2777 = x2777)
                        have hT := tx_I eS2778 hT
                        have g0 := gr_I eS2778 g0
                        have o_v0 := ob_I eS2778 o_v0
                        exact hq _ hI g0 f0 hT
                  · intro S2779 eS2779
                    have hI : IV S2779 := by rw [eS2779]; exact iv_sI hI o_v0 (by decide) (nu_free (by decide))
                    have f0 := fr_I eS2779 g0 f0 o_v0 (by decide)
                    have d_x2771 := rd_Ij eS2779 (by decide) d_x2771
                    have d_x2770 := rd_Ij eS2779 (by decide) d_x2770
                    obtain ⟨y2780, hy2780⟩ : ∃ z : Int32, z = (6 : Int32) := ⟨_, rfl⟩
                    have d_y2780 := rd_Is eS2779 hy2780
                    have hT := tx_I eS2779 hT
                    have g0 := gr_I eS2779 g0
                    have o_v0 := ob_I eS2779 o_v0
                    refine u_X4_next_240 ?_
                    refine ⟨fun c2781 => ?_, fun c2781 => ?_⟩
                    · exact hq _ hI g0 f0 hT
                    · refine ⟨o_v0, ?_⟩
                      intro x2782 ex2782
                      have q_x2782 : x2782 = y2780 := ex2782.trans d_y2780.symm
                      have d_x2782 := ex2782
                      refine ⟨fun c2783 => ?_, fun c2783 => ?_⟩
                      · exact hq _ hI g0 f0 hT
                      · intro x2784 ex2784
                        have q_x2784 : x2784 = x2770 := ex2784.trans d_x2770.symm
                        have d_x2784 := ex2784
                        intro x2785 ex2785
                        intro S2786 eS2786
                        have hI : IV S2786 := by rw [eS2786]; exact iv_sI hI o_v0 (by decide) (nu_free (by decide))
                        have f0 := fr_I eS2786 g0 f0 o_v0 (by decide)
                        have d_x2771 := rd_Ij eS2786 (by decide) d_x2771
                        have d_x2782 := rd_Ij eS2786 (by decide) d_x2782
                        have d_x2785 := rd_Is eS2786 (rfl : x2785 = x2785)
                        have hT := tx_I eS2786 hT
                        have g0 := gr_I eS2786 g0
                        have o_v0 := ob_I eS2786 o_v0
                        exact hq _ hI g0 f0 hT
              · refine ⟨fun c2787 => ?_, fun c2787 => ?_⟩
                · refine u_X4_next_217 ?_
                  refine ⟨fun c2788 => ?_, fun c2788 => ?_⟩
                  · refine u_X4_next_240 ?_
                    refine ⟨fun c2789 => ?_, fun c2789 => ?_⟩
                    · exact hq _ hI g0 f0 hT
                    · refine ⟨o_v0, ?_⟩
                      intro x2790 ex2790
                      have q_x2790 : x2790 = x2617 := ex2790.trans d_x2617.symm
                      have d_x2790 := ex2790
                      refine ⟨fun c2791 => ?_, fun c2791 => ?_⟩
                      · exact hq _ hI g0 f0 hT
                      · intro x2792 ex2792
                        have q_x2792 : x2792 = y2761 := ex2792.trans d_y2761.symm
                        have d_x2792 := ex2792
                        intro x2793 ex2793
                        intro S2794 eS2794
                        have hI : IV S2794 := by rw [eS2794]; exact iv_sI hI o_v0 (by decide) (nu_free (by decide))
                        have f0 := fr_I eS2794 g0 f0 o_v0 (by decide)
                        have d_y1575 := rd_Ij eS2794 (by decide) d_y1575
                        have d_x2790 := rd_Ij eS2794 (by decide) d_x2790
                        have d_x2793 := rd_Is eS2794 (rfl : x2793 = x2793)
                        have hT := tx_I eS2794 hT
                        have g0 := gr_I eS2794 g0
                        have o_v0 := ob_I eS2794 o_v0
                        exact hq _ hI g0 f0 hT
                  · refine ⟨o_v0, ?_⟩
                    intro x2795 ex2795
                    have q_x2795 : x2795 = y2761 := ex2795.trans d_y2761.symm
                    have d_x2795 := ex2795
                    intro x2796 ex2796
                    have q_x2796 : x2796 = y1575 := ex2796.trans d_y1575.symm
                    have d_x2796 := ex2796
                    refine ⟨fun c2797 => ?_, fun c2797 => ?_⟩
                    · refine u_X4_next_240 ?_
                      refine ⟨fun c2798 => ?_, fun c2798 => ?_⟩
                      · exact hq _ hI g0 f0 hT
                      · refine ⟨o_v0, ?_⟩
                        intro x2799 ex2799
                        have q_x2799 : x2799 = x2617 := ex2799.trans d_x2617.symm
                        have d_x2799 := ex2799
                        refine ⟨fun c2800 => ?_, fun c2800 => ?_⟩
                        · exact hq _ hI g0 f0 hT
                        · intro x2801 ex2801
                          have q_x2801 : x2801 = x2795 := ex2801.trans d_x2795.symm
                          have d_x2801 := ex2801
                          intro x2802 ex2802
                          intro S2803 eS2803
                          have hI : IV S2803 := by rw [eS2803]; exact iv_sI hI o_v0 (by decide) (nu_free (by decide))
                          have f0 := fr_I eS2803 g0 f0 o_v0 (by decide)
                          have d_x2796 := rd_Ij eS2803 (by decide) d_x2796
                          have d_x2799 := rd_Ij eS2803 (by decide) d_x2799
                          have d_x2802 := rd_Is eS2803 (rfl : x2802 = x2802)
                          have hT := tx_I eS2803 hT
                          have g0 := gr_I eS2803 g0
                          have o_v0 := ob_I eS2803 o_v0
                          exact hq _ hI g0 f0 hT
                    · intro S2804 eS2804
                      have hI : IV S2804 := by rw [eS2804]; exact iv_sI hI o_v0 (by decide) (nu_free (by decide))
                      have f0 := fr_I eS2804 g0 f0 o_v0 (by decide)
                      have d_x2796 := rd_Ij eS2804 (by decide) d_x2796
                      have d_x2795 := rd_Ij eS2804 (by decide) d_x2795
                      obtain ⟨y2805, hy2805⟩ : ∃ z : Int32, z = (6 : Int32) := ⟨_, rfl⟩
                      have d_y2805 := rd_Is eS2804 hy2805
                      have hT := tx_I eS2804 hT
                      have g0 := gr_I eS2804 g0
                      have o_v0 := ob_I eS2804 o_v0
                      refine u_X4_next_240 ?_
                      refine ⟨fun c2806 => ?_, fun c2806 => ?_⟩
                      · exact hq _ hI g0 f0 hT
                      · refine ⟨o_v0, ?_⟩
                        intro x2807 ex2807
                        have q_x2807 : x2807 = y2805 := ex2807.trans d_y2805.symm
                        have d_x2807 := ex2807
                        refine ⟨fun c2808 => ?_, fun c2808 => ?_⟩
                        · exact hq _ hI g0 f0 hT
                        · intro x2809 ex2809
                          have q_x2809 : x2809 = x2795 := ex2809.trans d_x2795.symm
                          have d_x2809 := ex2809
                          intro x2810 ex2810
                          intro S2811 eS2811
                          have hI : IV S2811 := by rw [eS2811]; exact iv_sI hI o_v0 (by decide) (nu_free (by decide))
                          have f0 := fr_I eS2811 g0 f0 o_v0 (by decide)
                          have d_x2796 := rd_Ij eS2811 (by decide) d_x2796
                          have d_x2807 := rd_Ij eS2811 (by decide) d_x2807
                          have d_x2810 := rd_Is eS2811 (rfl : x2810 = x2810)
                          have hT := tx_I eS2811 hT
                          have g0 := gr_I eS2811 g0
                          have o_v0 := ob_I eS2811 o_v0
                          exact hq _ hI g0 f0 hT
                · refine ⟨o_v0, ?_⟩
                  intro x2812 ex2812
                  have q_x2812 : x2812 = y2761 := ex2812.trans d_y2761.symm
                  have d_x2812 := ex2812
                  refine m_X4_sortAt hI o_v0 hT (fun x2813 S2814 hI2 g2815 p_x2813 => ?_)
                  obtain ⟨z_S2814, p_x2813⟩ := p_x2813
                  subst z_S2814
                  intro _
                  intro x2817 ex2817
                  have q_x2817 : x2817 = x2617 := ex2817.trans d_x2617.symm
                  have d_x2817 := ex2817
                  refine ⟨fun c2818 => ?_, fun c2818 => ?_⟩
                  · refine u_X4_next_217 ?_
                    refine ⟨fun c2819 => ?_, fun c2819 => ?_⟩
                    · refine u_X4_next_240 ?_
                      refine ⟨fun c2820 => ?_, fun c2820 => ?_⟩
                      · exact hq _ hI g0 f0 hT
                      · refine ⟨o_v0, ?_⟩
                        intro x2821 ex2821
                        have q_x2821 : x2821 = x2817 := ex2821.trans d_x2817.symm
                        have d_x2821 := ex2821
                        refine ⟨fun c2822 => ?_, fun c2822 => ?_⟩
                        · exact hq _ hI g0 f0 hT
                        · intro x2823 ex2823
                          have q_x2823 : x2823 = x2812 := ex2823.trans d_x2812.symm
                          have d_x2823 := ex2823
                          intro x2824 ex2824
                          intro S2825 eS2825
                          have hI : IV S2825 := by rw [eS2825]; exact iv_sI hI o_v0 (by decide) (nu_free (by decide))
                          have f0 := fr_I eS2825 g0 f0 o_v0 (by decide)
                          have d_y1575 := rd_Ij eS2825 (by decide) d_y1575
                          have d_x2821 := rd_Ij eS2825 (by decide) d_x2821
                          have d_x2824 := rd_Is eS2825 (rfl : x2824 = x2824)
                          have hT := tx_I eS2825 hT
                          have g0 := gr_I eS2825 g0
                          have o_v0 := ob_I eS2825 o_v0
                          exact hq _ hI g0 f0 hT
                    · refine ⟨o_v0, ?_⟩
                      intro x2826 ex2826
                      have q_x2826 : x2826 = x2812 := ex2826.trans d_x2812.symm
                      have d_x2826 := ex2826
                      intro x2827 ex2827
                      have q_x2827 : x2827 = y1575 := ex2827.trans d_y1575.symm
                      have d_x2827 := ex2827
                      refine ⟨fun c2828 => ?_, fun c2828 => ?_⟩
                      · refine u_X4_next_240 ?_
                        refine ⟨fun c2829 => ?_, fun c2829 => ?_⟩
                        · exact hq _ hI g0 f0 hT
                        · refine ⟨o_v0, ?_⟩
                          intro x2830 ex2830
                          have q_x2830 : x2830 = x2817 := ex2830.trans d_x2817.symm
                          have d_x2830 := ex2830
                          refine ⟨fun c2831 => ?_, fun c2831 => ?_⟩
                          · exact hq _ hI g0 f0 hT
                          · intro x2832 ex2832
                            have q_x2832 : x2832 = x2826 := ex2832.trans d_x2826.symm
                            have d_x2832 := ex2832
                            intro x2833 ex2833
                            intro S2834 eS2834
                            have hI : IV S2834 := by rw [eS2834]; exact iv_sI hI o_v0 (by decide) (nu_free (by decide))
                            have f0 := fr_I eS2834 g0 f0 o_v0 (by decide)
                            have d_x2827 := rd_Ij eS2834 (by decide) d_x2827
                            have d_x2830 := rd_Ij eS2834 (by decide) d_x2830
                            have d_x2833 := rd_Is eS2834 (rfl : x2833 = x2833)
                            have hT := tx_I eS2834 hT
                            have g0 := gr_I eS2834 g0
                            have o_v0 := ob_I eS2834 o_v0
                            exact hq _ hI g0 f0 hT
                      · intro S2835 eS2835
                        have hI : IV S2835 := by rw [eS2835]; exact iv_sI hI o_v0 (by decide) (nu_free (by decide))
                        have f0 := fr_I eS2835 g0 f0 o_v0 (by decide)
                        have d_x2827 := rd_Ij eS2835 (by decide) d_x2827
                        have d_x2826 := rd_Ij eS2835 (by decide) d_x2826
                        obtain ⟨y2836, hy2836⟩ : ∃ z : Int32, z = (6 : Int32) := ⟨_, rfl⟩
                        have d_y2836 := rd_Is eS2835 hy2836
                        have hT := tx_I eS2835 hT
                        have g0 := gr_I eS2835 g0
                        have o_v0 := ob_I eS2835 o_v0
                        refine u_X4_next_240 ?_
                        refine ⟨fun c2837 => ?_, fun c2837 => ?_⟩
                        · exact hq _ hI g0 f0 hT
                        · refine ⟨o_v0, ?_⟩
                          intro x2838 ex2838
                          have q_x2838 : x2838 = y2836 := ex2838.trans d_y2836.symm
                          have d_x2838 := ex2838
                          refine ⟨fun c2839 => ?_, fun c2839 => ?_⟩
                          · exact hq _ hI g0 f0 hT
                          · intro x2840 ex2840
                            have q_x2840 : x2840 = x2826 := ex2840.trans d_x2826.symm
                            have d_x2840 := ex2840
                            intro x2841 ex2841
                            intro S2842 eS2842
                            have hI : IV S2842 := by rw [eS2842]; exact iv_sI hI o_v0 (by decide) (nu_free (by decide))
                            have f0 := fr_I eS2842 g0 f0 o_v0 (by decide)
                            have d_x2827 := rd_Ij eS2842 (by decide) d_x2827
                            have d_x2838 := rd_Ij eS2842 (by decide) d_x2838
                            have d_x2841 := rd_Is eS2842 (rfl : x2841 = x2841)
                            have hT := tx_I eS2842 hT
                            have g0 := gr_I eS2842 g0
                            have o_v0 := ob_I eS2842 o_v0
                            exact hq _ hI g0 f0 hT
                  · refine ⟨fun c2843 => ?_, fun c2843 => ?_⟩
                    · refine u_X4_next_201 ?_
                      refine ⟨o_v0, ?_⟩
                      intro x2844 ex2844
                      have q_x2844 : x2844 = x2812 := ex2844.trans d_x2812.symm
                      have d_x2844 := ex2844
                      intro x2845 ex2845
                      intro S2846 eS2846
                      have hI : IV S2846 := by rw [eS2846]; exact iv_sI hI o_v0 (by decide) (nu_free (by decide))
                      have f0 := fr_I eS2846 g0 f0 o_v0 (by decide)
                      have fL2749 := fr_I eS2846 gL2748 fL2749 o_v0 (by decide)
                      have d_y1575 := rd_Ij eS2846 (by decide) d_y1575
                      have d_x2817 := rd_Ij eS2846 (by decide) d_x2817
                      have d_x2845 := rd_Is eS2846 (rfl : x2845 = x2845)
                      have hT := tx_I eS2846 hT
                      have g0 := gr_I eS2846 g0
                      have gL2748 := gr_I eS2846 gL2748
                      have o_v0 := ob_I eS2846 o_v0
                      intro x2847 ex2847
                      exact ih2760 _ _ _ _ _ _ ⟨hI, gL2748, fL2749, rfl, rfl, rfl, rfl, hT, (q630 i1u1 c10 p_x1568 c1572 q_x1573 hy1575 q_x1576 p_x1577 q_x1583 c1584 q_x2099 c2100 q_x2615 c2616 q_x2617 c2618 i1u2746 p_k1u2746 c2787 q_x2812 p_x2813 q_x2817 c2818 c2843 q_x2844 ex2845 ex2847), (by rw [← d_x2817, ← d_x2845]; exact (q631 i1u1 c10 p_x1568 c1572 q_x1573 hy1575 q_x1576 p_x1577 q_x1583 c1584 q_x2099 c2100 q_x2615 c2616 q_x2617 c2618 i1u2746 p_k1u2746 c2787 q_x2812 p_x2813 q_x2817 c2818 c2843 q_x2844 ex2845 ex2847))⟩ (mu_up (q632 i1u1 c10 p_x1568 c1572 q_x1573 hy1575 q_x1576 p_x1577 q_x1583 c1584 q_x2099 c2100 q_x2615 c2616 q_x2617 c2618 i1u2746 p_k1u2746 c2787 q_x2812 p_x2813 q_x2817 c2818 c2843 q_x2844 ex2845 ex2847) (q633 i1u1 c10 p_x1568 c1572 q_x1573 hy1575 q_x1576 p_x1577 q_x1583 c1584 q_x2099 c2100 q_x2615 c2616 q_x2617 c2618 i1u2746 p_k1u2746 c2787 q_x2812 p_x2813 q_x2817 c2818 c2843 q_x2844 ex2845 ex2847))
                    · intro x2848 ex2848
                      have q_x2848 : x2848 = x2812 := ex2848.trans d_x2812.symm
                      have d_x2848 := ex2848
                      obtain ⟨a2849, ea2849, o_a2849, l_a2849⟩ := id hT
                      refine ⟨a2849, ea2849, ?_⟩
                      refine ⟨o_a2849, ?_⟩
                      have n_a2849 : nI (hN S2747 a2849) = 900 := by rw [show hN S2747 a2849 = 900 from l_a2849]; decide
                      refine ⟨fun c2850 => ?_, fun c2850 => ?_⟩
                      · rw [n_a2849] at c2850
                        refine u_X4_next_201 ?_
                        refine ⟨o_v0, ?_⟩
                        intro x2851 ex2851
                        have q_x2851 : x2851 = x2848 := ex2851.trans d_x2848.symm
                        have d_x2851 := ex2851
                        intro x2852 ex2852
                        intro S2853 eS2853
                        have hI : IV S2853 := by rw [eS2853]; exact iv_sI hI o_v0 (by decide) (nu_free (by decide))
                        have f0 := fr_I eS2853 g0 f0 o_v0 (by decide)
                        have fL2749 := fr_I eS2853 gL2748 fL2749 o_v0 (by decide)
                        have d_y1575 := rd_Ij eS2853 (by decide) d_y1575
                        have d_x2817 := rd_Ij eS2853 (by decide) d_x2817
                        have d_x2852 := rd_Is eS2853 (rfl : x2852 = x2852)
                        have ea2849 := rf_I eS2853 ea2849
                        have hT := tx_I eS2853 hT
                        have l_a2849 := ln_I eS2853 l_a2849
                        have g0 := gr_I eS2853 g0
                        have gL2748 := gr_I eS2853 gL2748
                        have o_a2849 := ob_I eS2853 o_a2849
                        have o_v0 := ob_I eS2853 o_v0
                        intro x2854 ex2854
                        exact ih2760 _ _ _ _ _ _ ⟨hI, gL2748, fL2749, rfl, rfl, rfl, rfl, hT, (q634 i1u1 c10 p_x1568 c1572 q_x1573 hy1575 q_x1576 p_x1577 q_x1583 c1584 q_x2099 c2100 q_x2615 c2616 q_x2617 c2618 i1u2746 p_k1u2746 c2787 q_x2812 p_x2813 q_x2817 c2818 c2843 q_x2848 c2850 q_x2851 ex2852 ex2854), (by rw [← d_x2817, ← d_x2852]; exact (q635 i1u1 c10 p_x1568 c1572 q_x1573 hy1575 q_x1576 p_x1577 q_x1583 c1584 q_x2099 c2100 q_x2615 c2616 q_x2617 c2618 i1u2746 p_k1u2746 c2787 q_x2812 p_x2813 q_x2817 c2818 c2843 q_x2848 c2850 q_x2851 ex2852 ex2854))⟩ (mu_up (q636 i1u1 c10 p_x1568 c1572 q_x1573 hy1575 q_x1576 p_x1577 q_x1583 c1584 q_x2099 c2100 q_x2615 c2616 q_x2617 c2618 i1u2746 p_k1u2746 c2787 q_x2812 p_x2813 q_x2817 c2818 c2843 q_x2848 c2850 q_x2851 ex2852 ex2854) (q637 i1u1 c10 p_x1568 c1572 q_x1573 hy1575 q_x1576 p_x1577 q_x1583 c1584 q_x2099 c2100 q_x2615 c2616 q_x2617 c2618 i1u2746 p_k1u2746 c2787 q_x2812 p_x2813 q_x2817 c2818 c2843 q_x2848 c2850 q_x2851 ex2852 ex2854))
                      · rw [n_a2849] at c2850
                        intro x2855 ex2855
                        have dj_x2855 := ex2855
                        refine ⟨a2849, ea2849, ?_⟩
                        intro x2857 ex2857
                        have q_x2857 : x2857 = x2848 := ex2857.trans d_x2848.symm
                        have d_x2857 := ex2857
                        refine ⟨o_a2849, ?_⟩
                        refine ⟨(vin l_a2849 (m := 900) (by decide) (q638 i1u1 c10 p_x1568 c1572 q_x1573 hy1575 q_x1576 p_x1577 q_x1583 c1584 q_x2099 c2100 q_x2615 c2616 q_x2617 c2618 i1u2746 p_k1u2746 c2787 q_x2812 p_x2813 q_x2817 c2818 c2843 q_x2848 c2850 q_x2857)), ?_⟩
                        intro x2858 ex2858
                        intro x2859 ex2859
                        have q_x2859 : x2859 = x2817 := ex2859.trans d_x2817.symm
                        have d_x2859 := ex2859
                        refine ⟨fun c2860 => ?_, fun c2860 => ?_⟩
                        · refine u_X4_next_195 ?_
                          refine ⟨o_v0, ?_⟩
                          intro x2861 ex2861
                          intro S2862 eS2862
                          have hI : IV S2862 := by rw [eS2862]; exact iv_sJ hI o_v0 (by decide)
                          have f0 := fr_J eS2862 f0
                          have fL2749 := fr_J eS2862 fL2749
                          have d_y1575 := rd_J eS2862 d_y1575
                          have d_x2859 := rd_J eS2862 d_x2859
                          have d_x2857 := rd_J eS2862 d_x2857
                          have ea2849 := rf_J eS2862 ea2849
                          have hT := tx_J eS2862 hT
                          have l_a2849 := ln_J eS2862 l_a2849
                          have g0 := gr_J eS2862 g0
                          have gL2748 := gr_J eS2862 gL2748
                          have o_a2849 := ob_J eS2862 o_a2849
                          have o_v0 := ob_J eS2862 o_v0
                          refine u_X4_next_201 ?_
                          refine ⟨o_v0, ?_⟩
                          intro x2863 ex2863
                          have q_x2863 : x2863 = x2857 := ex2863.trans d_x2857.symm
                          have d_x2863 := ex2863
                          intro x2864 ex2864
                          intro S2865 eS2865
                          have hI : IV S2865 := by rw [eS2865]; exact iv_sI hI o_v0 (by decide) (nu_free (by decide))
                          have f0 := fr_I eS2865 g0 f0 o_v0 (by decide)
                          have fL2749 := fr_I eS2865 gL2748 fL2749 o_v0 (by decide)
                          have d_y1575 := rd_Ij eS2865 (by decide) d_y1575
                          have d_x2859 := rd_Ij eS2865 (by decide) d_x2859
                          have d_x2864 := rd_Is eS2865 (rfl : x2864 = x2864)
                          have ea2849 := rf_I eS2865 ea2849
                          have hT := tx_I eS2865 hT
                          have l_a2849 := ln_I eS2865 l_a2849
                          have g0 := gr_I eS2865 g0
                          have gL2748 := gr_I eS2865 gL2748
                          have o_a2849 := ob_I eS2865 o_a2849
                          have o_v0 := ob_I eS2865 o_v0
                          intro x2866 ex2866
                          exact ih2760 _ _ _ _ _ _ ⟨hI, gL2748, fL2749, rfl, rfl, rfl, rfl, hT, (q639 i1u1 c10 p_x1568 c1572 q_x1573 hy1575 q_x1576 p_x1577 q_x1583 c1584 q_x2099 c2100 q_x2615 c2616 q_x2617 c2618 i1u2746 p_k1u2746 c2787 q_x2812 p_x2813 q_x2817 c2818 c2843 q_x2848 c2850 q_x2857 q_x2859 c2860 q_x2863 ex2864 ex2866), (by rw [← d_x2859, ← d_x2864]; exact (q640 i1u1 c10 p_x1568 c1572 q_x1573 hy1575 q_x1576 p_x1577 q_x1583 c1584 q_x2099 c2100 q_x2615 c2616 q_x2617 c2618 i1u2746 p_k1u2746 c2787 q_x2812 p_x2813 q_x2817 c2818 c2843 q_x2848 c2850 q_x2857 q_x2859 c2860 q_x2863 ex2864 ex2866))⟩ (mu_up (q641 i1u1 c10 p_x1568 c1572 q_x1573 hy1575 q_x1576 p_x1577 q_x1583 c1584 q_x2099 c2100 q_x2615 c2616 q_x2617 c2618 i1u2746 p_k1u2746 c2787 q_x2812 p_x2813 q_x2817 c2818 c2843 q_x2848 c2850 q_x2857 q_x2859 c2860 q_x2863 ex2864 ex2866) (q642 i1u1 c10 p_x1568 c1572 q_x1573 hy1575 q_x1576 p_x1577 q_x1583 c1584 q_x2099 c2100 q_x2615 c2616 q_x2617 c2618 i1u2746 p_k1u2746 c2787 q_x2812 p_x2813 q_x2817 c2818 c2843 q_x2848 c2850 q_x2857 q_x2859 c2860 q_x2863 ex2864 ex2866))
                        · refine u_X4_next_195 ?_
                          refine ⟨o_v0, ?_⟩
                          intro x2867 ex2867
                          intro S2868 eS2868
                          have hI : IV S2868 := by rw [eS2868]; exact iv_sJ hI o_v0 (by decide)
                          have f0 := fr_J eS2868 f0
                          have fL2749 := fr_J eS2868 fL2749
                          have d_y1575 := rd_J eS2868 d_y1575
                          have d_x2859 := rd_J eS2868 d_x2859
                          have d_x2857 := rd_J eS2868 d_x2857
                          have ea2849 := rf_J eS2868 ea2849
                          have hT := tx_J eS2868 hT
                          have l_a2849 := ln_J eS2868 l_a2849
                          have g0 := gr_J eS2868 g0
                          have gL2748 := gr_J eS2868 gL2748
                          have o_a2849 := ob_J eS2868 o_a2849
                          have o_v0 := ob_J eS2868 o_v0
                          refine u_X4_next_201 ?_
                          refine ⟨o_v0, ?_⟩
                          intro x2869 ex2869
                          have q_x2869 : x2869 = x2857 := ex2869.trans d_x2857.symm
                          have d_x2869 := ex2869
                          intro x2870 ex2870
                          intro S2871 eS2871
                          have hI : IV S2871 := by rw [eS2871]; exact iv_sI hI o_v0 (by decide) (nu_free (by decide))
                          have f0 := fr_I eS2871 g0 f0 o_v0 (by decide)
                          have fL2749 := fr_I eS2871 gL2748 fL2749 o_v0 (by decide)
                          have d_y1575 := rd_Ij eS2871 (by decide) d_y1575
                          have d_x2859 := rd_Ij eS2871 (by decide) d_x2859
                          have d_x2870 := rd_Is eS2871 (rfl : x2870 = x2870)
                          have ea2849 := rf_I eS2871 ea2849
                          have hT := tx_I eS2871 hT
                          have l_a2849 := ln_I eS2871 l_a2849
                          have g0 := gr_I eS2871 g0
                          have gL2748 := gr_I eS2871 gL2748
                          have o_a2849 := ob_I eS2871 o_a2849
                          have o_v0 := ob_I eS2871 o_v0
                          intro x2872 ex2872
                          exact ih2760 _ _ _ _ _ _ ⟨hI, gL2748, fL2749, rfl, rfl, rfl, rfl, hT, (q643 i1u1 c10 p_x1568 c1572 q_x1573 hy1575 q_x1576 p_x1577 q_x1583 c1584 q_x2099 c2100 q_x2615 c2616 q_x2617 c2618 i1u2746 p_k1u2746 c2787 q_x2812 p_x2813 q_x2817 c2818 c2843 q_x2848 c2850 q_x2857 q_x2859 c2860 q_x2869 ex2870 ex2872), (by rw [← d_x2859, ← d_x2870]; exact (q644 i1u1 c10 p_x1568 c1572 q_x1573 hy1575 q_x1576 p_x1577 q_x1583 c1584 q_x2099 c2100 q_x2615 c2616 q_x2617 c2618 i1u2746 p_k1u2746 c2787 q_x2812 p_x2813 q_x2817 c2818 c2843 q_x2848 c2850 q_x2857 q_x2859 c2860 q_x2869 ex2870 ex2872))⟩ (mu_up (q645 i1u1 c10 p_x1568 c1572 q_x1573 hy1575 q_x1576 p_x1577 q_x1583 c1584 q_x2099 c2100 q_x2615 c2616 q_x2617 c2618 i1u2746 p_k1u2746 c2787 q_x2812 p_x2813 q_x2817 c2818 c2843 q_x2848 c2850 q_x2857 q_x2859 c2860 q_x2869 ex2870 ex2872) (q646 i1u1 c10 p_x1568 c1572 q_x1573 hy1575 q_x1576 p_x1577 q_x1583 c1584 q_x2099 c2100 q_x2615 c2616 q_x2617 c2618 i1u2746 p_k1u2746 c2787 q_x2812 p_x2813 q_x2817 c2818 c2843 q_x2848 c2850 q_x2857 q_x2859 c2860 q_x2869 ex2870 ex2872))
          · refine u_X4_next_98 ?_
            refine ⟨o_v0, ?_⟩
            intro x2873 ex2873
            have q_x2873 : x2873 = x2615 := ex2873.trans d_x2615.symm
            have d_x2873 := ex2873
            refine ⟨fun c2874 => ?_, fun c2874 => ?_⟩
            · refine u_X4_next_114 ?_
              refine i_X4_next_118 (fun (y0 : Nat) (y1 : Int32) (y2 : Int32) (y3 : Int32) (y4 : Int32) (Z : HS) => ((2147483647 : Int32).toInt - y4.toInt).toNat) (fun (y0 : Nat) (y1 : Int32) (y2 : Int32) (y3 : Int32) (y4 : Int32) (Z : HS) => (IV Z) ∧ (Gr S1582 Z) ∧ (FRI [(4, 4)] [] S1582 Z) ∧ (v0 = y0) ∧ ((1 : Int32) = y1) ∧ ((8 : Int32) = y2) ∧ ((10 : Int32) = y3) ∧ (TX Z v0) ∧ (0 ≤ y4) ∧ ((y1 = 0 ∨ fI Z v0 6 = 1 ∨ fI Z v0 6 = 2) ∧ (y1 = 0 → fI Z v0 6 = 0 ∨ (0 ≤ fI Z v0 4 ∧ fI Z v0 4 < 900)))) ?_ _ _ _ _ _ _ ⟨hI, (gr_rf _), (fri_rf _ _ _), rfl, rfl, rfl, rfl, hT, (q647 i1u1 c10 p_x1568 c1572 q_x1573 hy1575 q_x1576 p_x1577 q_x1583 c1584 q_x2099 c2100 q_x2615 c2616 q_x2873 c2874), (by rw [← d_x2873, ← d_x1576]; exact (q648 i1u1 c10 p_x1568 c1572 q_x1573 hy1575 q_x1576 p_x1577 q_x1583 c1584 q_x2099 c2100 q_x2615 c2616 q_x2873 c2874))⟩
              intro w2879 w2881 w2883 w2885 w2887 S2876 X2888 ⟨hI, gL2877, fL2878, q2880, q2882, q2884, q2886, hT, i1u2875, k1u2875⟩ ih2889
              subst q2880
              subst q2882
              subst q2884
              subst q2886
              have d_y1575 := d_y1575.trans (fri_at fL2878 (by decide) (by decide) o_v0).symm
              have d_x2873 := d_x2873.trans (fri_at fL2878 (by decide) (by decide) o_v0).symm
              have f0 := fri_tr (S := S1582) g0 f0 fL2878 (by decide) (by decide)
              have o_v0 := gr_ob gL2877 o_v0
              have g0 := gr_tr (T := S1582) g0 gL2877
              obtain ⟨y2890, d_y2890⟩ : ∃ z : Int32, z = fI S2876 v0 4 := ⟨_, rfl⟩
              have p_k1u2875 : ((1 : Int32) = 0 ∨ x2873 = 1 ∨ x2873 = 2) ∧ ((1 : Int32) = 0 → x2873 = 0 ∨ (0 ≤ y2890 ∧ y2890 < 900)) := by rw [d_x2873, d_y2890]; exact k1u2875
              refine u_X4_next_118 ?_
              refine ⟨fun c2891 => ?_, fun c2891 => ?_⟩
              · refine u_X4_next_217 ?_
                refine ⟨fun c2892 => ?_, fun c2892 => ?_⟩
                · refine u_X4_next_240 ?_
                  refine ⟨fun c2893 => ?_, fun c2893 => ?_⟩
                  · exact hq _ hI g0 f0 hT
                  · refine ⟨o_v0, ?_⟩
                    intro x2894 ex2894
                    have q_x2894 : x2894 = x2873 := ex2894.trans d_x2873.symm
                    have d_x2894 := ex2894
                    refine ⟨fun c2895 => ?_, fun c2895 => ?_⟩
                    · exact hq _ hI g0 f0 hT
                    · intro x2896 ex2896
                      have q_x2896 : x2896 = y2890 := ex2896.trans d_y2890.symm
                      have d_x2896 := ex2896
                      intro x2897 ex2897
                      intro S2898 eS2898
                      have hI : IV S2898 := by rw [eS2898]; exact iv_sI hI o_v0 (by decide) (nu_free (by decide))
                      have f0 := fr_I eS2898 g0 f0 o_v0 (by decide)
                      have d_y1575 := rd_Ij eS2898 (by decide) d_y1575
                      have d_x2894 := rd_Ij eS2898 (by decide) d_x2894
                      have d_x2897 := rd_Is eS2898 (rfl : x2897 = x2897)
                      have hT := tx_I eS2898 hT
                      have g0 := gr_I eS2898 g0
                      have o_v0 := ob_I eS2898 o_v0
                      exact hq _ hI g0 f0 hT
                · refine ⟨o_v0, ?_⟩
                  intro x2899 ex2899
                  have q_x2899 : x2899 = y2890 := ex2899.trans d_y2890.symm
                  have d_x2899 := ex2899
                  intro x2900 ex2900
                  have q_x2900 : x2900 = y1575 := ex2900.trans d_y1575.symm
                  have d_x2900 := ex2900
                  refine ⟨fun c2901 => ?_, fun c2901 => ?_⟩
                  · refine u_X4_next_240 ?_
                    refine ⟨fun c2902 => ?_, fun c2902 => ?_⟩
                    · exact hq _ hI g0 f0 hT
                    · refine ⟨o_v0, ?_⟩
                      intro x2903 ex2903
                      have q_x2903 : x2903 = x2873 := ex2903.trans d_x2873.symm
                      have d_x2903 := ex2903
                      refine ⟨fun c2904 => ?_, fun c2904 => ?_⟩
                      · exact hq _ hI g0 f0 hT
                      · intro x2905 ex2905
                        have q_x2905 : x2905 = x2899 := ex2905.trans d_x2899.symm
                        have d_x2905 := ex2905
                        intro x2906 ex2906
                        intro S2907 eS2907
                        have hI : IV S2907 := by rw [eS2907]; exact iv_sI hI o_v0 (by decide) (nu_free (by decide))
                        have f0 := fr_I eS2907 g0 f0 o_v0 (by decide)
                        have d_x2900 := rd_Ij eS2907 (by decide) d_x2900
                        have d_x2903 := rd_Ij eS2907 (by decide) d_x2903
                        have d_x2906 := rd_Is eS2907 (rfl : x2906 = x2906)
                        have hT := tx_I eS2907 hT
                        have g0 := gr_I eS2907 g0
                        have o_v0 := ob_I eS2907 o_v0
                        exact hq _ hI g0 f0 hT
                  · intro S2908 eS2908
                    have hI : IV S2908 := by rw [eS2908]; exact iv_sI hI o_v0 (by decide) (nu_free (by decide))
                    have f0 := fr_I eS2908 g0 f0 o_v0 (by decide)
                    have d_x2900 := rd_Ij eS2908 (by decide) d_x2900
                    have d_x2899 := rd_Ij eS2908 (by decide) d_x2899
                    obtain ⟨y2909, hy2909⟩ : ∃ z : Int32, z = (6 : Int32) := ⟨_, rfl⟩
                    have d_y2909 := rd_Is eS2908 hy2909
                    have hT := tx_I eS2908 hT
                    have g0 := gr_I eS2908 g0
                    have o_v0 := ob_I eS2908 o_v0
                    refine u_X4_next_240 ?_
                    refine ⟨fun c2910 => ?_, fun c2910 => ?_⟩
                    · exact hq _ hI g0 f0 hT
                    · refine ⟨o_v0, ?_⟩
                      intro x2911 ex2911
                      have q_x2911 : x2911 = y2909 := ex2911.trans d_y2909.symm
                      have d_x2911 := ex2911
                      refine ⟨fun c2912 => ?_, fun c2912 => ?_⟩
                      · exact hq _ hI g0 f0 hT
                      · intro x2913 ex2913
                        have q_x2913 : x2913 = x2899 := ex2913.trans d_x2899.symm
                        have d_x2913 := ex2913
                        intro x2914 ex2914
                        intro S2915 eS2915
                        have hI : IV S2915 := by rw [eS2915]; exact iv_sI hI o_v0 (by decide) (nu_free (by decide))
                        have f0 := fr_I eS2915 g0 f0 o_v0 (by decide)
                        have d_x2900 := rd_Ij eS2915 (by decide) d_x2900
                        have d_x2911 := rd_Ij eS2915 (by decide) d_x2911
                        have d_x2914 := rd_Is eS2915 (rfl : x2914 = x2914)
                        have hT := tx_I eS2915 hT
                        have g0 := gr_I eS2915 g0
                        have o_v0 := ob_I eS2915 o_v0
                        exact hq _ hI g0 f0 hT
              · refine ⟨fun c2916 => ?_, fun c2916 => ?_⟩
                · refine u_X4_next_217 ?_
                  refine ⟨fun c2917 => ?_, fun c2917 => ?_⟩
                  · refine u_X4_next_240 ?_
                    refine ⟨fun c2918 => ?_, fun c2918 => ?_⟩
                    · exact hq _ hI g0 f0 hT
                    · refine ⟨o_v0, ?_⟩
                      intro x2919 ex2919
                      have q_x2919 : x2919 = x2873 := ex2919.trans d_x2873.symm
                      have d_x2919 := ex2919
                      refine ⟨fun c2920 => ?_, fun c2920 => ?_⟩
                      · exact hq _ hI g0 f0 hT
                      · intro x2921 ex2921
                        have q_x2921 : x2921 = y2890 := ex2921.trans d_y2890.symm
                        have d_x2921 := ex2921
                        intro x2922 ex2922
                        intro S2923 eS2923
                        have hI : IV S2923 := by rw [eS2923]; exact iv_sI hI o_v0 (by decide) (nu_free (by decide))
                        have f0 := fr_I eS2923 g0 f0 o_v0 (by decide)
                        have d_y1575 := rd_Ij eS2923 (by decide) d_y1575
                        have d_x2919 := rd_Ij eS2923 (by decide) d_x2919
                        have d_x2922 := rd_Is eS2923 (rfl : x2922 = x2922)
                        have hT := tx_I eS2923 hT
                        have g0 := gr_I eS2923 g0
                        have o_v0 := ob_I eS2923 o_v0
                        exact hq _ hI g0 f0 hT
                  · refine ⟨o_v0, ?_⟩
                    intro x2924 ex2924
                    have q_x2924 : x2924 = y2890 := ex2924.trans d_y2890.symm
                    have d_x2924 := ex2924
                    intro x2925 ex2925
                    have q_x2925 : x2925 = y1575 := ex2925.trans d_y1575.symm
                    have d_x2925 := ex2925
                    refine ⟨fun c2926 => ?_, fun c2926 => ?_⟩
                    · refine u_X4_next_240 ?_
                      refine ⟨fun c2927 => ?_, fun c2927 => ?_⟩
                      · exact hq _ hI g0 f0 hT
                      · refine ⟨o_v0, ?_⟩
                        intro x2928 ex2928
                        have q_x2928 : x2928 = x2873 := ex2928.trans d_x2873.symm
                        have d_x2928 := ex2928
                        refine ⟨fun c2929 => ?_, fun c2929 => ?_⟩
                        · exact hq _ hI g0 f0 hT
                        · intro x2930 ex2930
                          have q_x2930 : x2930 = x2924 := ex2930.trans d_x2924.symm
                          have d_x2930 := ex2930
                          intro x2931 ex2931
                          intro S2932 eS2932
                          have hI : IV S2932 := by rw [eS2932]; exact iv_sI hI o_v0 (by decide) (nu_free (by decide))
                          have f0 := fr_I eS2932 g0 f0 o_v0 (by decide)
                          have d_x2925 := rd_Ij eS2932 (by decide) d_x2925
                          have d_x2928 := rd_Ij eS2932 (by decide) d_x2928
                          have d_x2931 := rd_Is eS2932 (rfl : x2931 = x2931)
                          have hT := tx_I eS2932 hT
                          have g0 := gr_I eS2932 g0
                          have o_v0 := ob_I eS2932 o_v0
                          exact hq _ hI g0 f0 hT
                    · intro S2933 eS2933
                      have hI : IV S2933 := by rw [eS2933]; exact iv_sI hI o_v0 (by decide) (nu_free (by decide))
                      have f0 := fr_I eS2933 g0 f0 o_v0 (by decide)
                      have d_x2925 := rd_Ij eS2933 (by decide) d_x2925
                      have d_x2924 := rd_Ij eS2933 (by decide) d_x2924
                      obtain ⟨y2934, hy2934⟩ : ∃ z : Int32, z = (6 : Int32) := ⟨_, rfl⟩
                      have d_y2934 := rd_Is eS2933 hy2934
                      have hT := tx_I eS2933 hT
                      have g0 := gr_I eS2933 g0
                      have o_v0 := ob_I eS2933 o_v0
                      refine u_X4_next_240 ?_
                      refine ⟨fun c2935 => ?_, fun c2935 => ?_⟩
                      · exact hq _ hI g0 f0 hT
                      · refine ⟨o_v0, ?_⟩
                        intro x2936 ex2936
                        have q_x2936 : x2936 = y2934 := ex2936.trans d_y2934.symm
                        have d_x2936 := ex2936
                        refine ⟨fun c2937 => ?_, fun c2937 => ?_⟩
                        · exact hq _ hI g0 f0 hT
                        · intro x2938 ex2938
                          have q_x2938 : x2938 = x2924 := ex2938.trans d_x2924.symm
                          have d_x2938 := ex2938
                          intro x2939 ex2939
                          intro S2940 eS2940
                          have hI : IV S2940 := by rw [eS2940]; exact iv_sI hI o_v0 (by decide) (nu_free (by decide))
                          have f0 := fr_I eS2940 g0 f0 o_v0 (by decide)
                          have d_x2925 := rd_Ij eS2940 (by decide) d_x2925
                          have d_x2936 := rd_Ij eS2940 (by decide) d_x2936
                          have d_x2939 := rd_Is eS2940 (rfl : x2939 = x2939)
                          have hT := tx_I eS2940 hT
                          have g0 := gr_I eS2940 g0
                          have o_v0 := ob_I eS2940 o_v0
                          exact hq _ hI g0 f0 hT
                · refine ⟨o_v0, ?_⟩
                  intro x2941 ex2941
                  have q_x2941 : x2941 = y2890 := ex2941.trans d_y2890.symm
                  have d_x2941 := ex2941
                  refine m_X4_sortAt hI o_v0 hT (fun x2942 S2943 hI2 g2944 p_x2942 => ?_)
                  obtain ⟨z_S2943, p_x2942⟩ := p_x2942
                  subst z_S2943
                  intro _
                  intro x2946 ex2946
                  have q_x2946 : x2946 = x2873 := ex2946.trans d_x2873.symm
                  have d_x2946 := ex2946
                  refine ⟨fun c2947 => ?_, fun c2947 => ?_⟩
                  · refine u_X4_next_217 ?_
                    refine ⟨fun c2948 => ?_, fun c2948 => ?_⟩
                    · refine u_X4_next_240 ?_
                      refine ⟨fun c2949 => ?_, fun c2949 => ?_⟩
                      · exact hq _ hI g0 f0 hT
                      · refine ⟨o_v0, ?_⟩
                        intro x2950 ex2950
                        have q_x2950 : x2950 = x2946 := ex2950.trans d_x2946.symm
                        have d_x2950 := ex2950
                        refine ⟨fun c2951 => ?_, fun c2951 => ?_⟩
                        · exact hq _ hI g0 f0 hT
                        · intro x2952 ex2952
                          have q_x2952 : x2952 = x2941 := ex2952.trans d_x2941.symm
                          have d_x2952 := ex2952
                          intro x2953 ex2953
                          intro S2954 eS2954
                          have hI : IV S2954 := by rw [eS2954]; exact iv_sI hI o_v0 (by decide) (nu_free (by decide))
                          have f0 := fr_I eS2954 g0 f0 o_v0 (by decide)
                          have d_y1575 := rd_Ij eS2954 (by decide) d_y1575
                          have d_x2950 := rd_Ij eS2954 (by decide) d_x2950
                          have d_x2953 := rd_Is eS2954 (rfl : x2953 = x2953)
                          have hT := tx_I eS2954 hT
                          have g0 := gr_I eS2954 g0
                          have o_v0 := ob_I eS2954 o_v0
                          exact hq _ hI g0 f0 hT
                    · refine ⟨o_v0, ?_⟩
                      intro x2955 ex2955
                      have q_x2955 : x2955 = x2941 := ex2955.trans d_x2941.symm
                      have d_x2955 := ex2955
                      intro x2956 ex2956
                      have q_x2956 : x2956 = y1575 := ex2956.trans d_y1575.symm
                      have d_x2956 := ex2956
                      refine ⟨fun c2957 => ?_, fun c2957 => ?_⟩
                      · refine u_X4_next_240 ?_
                        refine ⟨fun c2958 => ?_, fun c2958 => ?_⟩
                        · exact hq _ hI g0 f0 hT
                        · refine ⟨o_v0, ?_⟩
                          intro x2959 ex2959
                          have q_x2959 : x2959 = x2946 := ex2959.trans d_x2946.symm
                          have d_x2959 := ex2959
                          refine ⟨fun c2960 => ?_, fun c2960 => ?_⟩
                          · exact hq _ hI g0 f0 hT
                          · intro x2961 ex2961
                            have q_x2961 : x2961 = x2955 := ex2961.trans d_x2955.symm
                            have d_x2961 := ex2961
                            intro x2962 ex2962
                            intro S2963 eS2963
                            have hI : IV S2963 := by rw [eS2963]; exact iv_sI hI o_v0 (by decide) (nu_free (by decide))
                            have f0 := fr_I eS2963 g0 f0 o_v0 (by decide)
                            have d_x2956 := rd_Ij eS2963 (by decide) d_x2956
                            have d_x2959 := rd_Ij eS2963 (by decide) d_x2959
                            have d_x2962 := rd_Is eS2963 (rfl : x2962 = x2962)
                            have hT := tx_I eS2963 hT
                            have g0 := gr_I eS2963 g0
                            have o_v0 := ob_I eS2963 o_v0
                            exact hq _ hI g0 f0 hT
                      · intro S2964 eS2964
                        have hI : IV S2964 := by rw [eS2964]; exact iv_sI hI o_v0 (by decide) (nu_free (by decide))
                        have f0 := fr_I eS2964 g0 f0 o_v0 (by decide)
                        have d_x2956 := rd_Ij eS2964 (by decide) d_x2956
                        have d_x2955 := rd_Ij eS2964 (by decide) d_x2955
                        obtain ⟨y2965, hy2965⟩ : ∃ z : Int32, z = (6 : Int32) := ⟨_, rfl⟩
                        have d_y2965 := rd_Is eS2964 hy2965
                        have hT := tx_I eS2964 hT
                        have g0 := gr_I eS2964 g0
                        have o_v0 := ob_I eS2964 o_v0
                        refine u_X4_next_240 ?_
                        refine ⟨fun c2966 => ?_, fun c2966 => ?_⟩
                        · exact hq _ hI g0 f0 hT
                        · refine ⟨o_v0, ?_⟩
                          intro x2967 ex2967
                          have q_x2967 : x2967 = y2965 := ex2967.trans d_y2965.symm
                          have d_x2967 := ex2967
                          refine ⟨fun c2968 => ?_, fun c2968 => ?_⟩
                          · exact hq _ hI g0 f0 hT
                          · intro x2969 ex2969
                            have q_x2969 : x2969 = x2955 := ex2969.trans d_x2955.symm
                            have d_x2969 := ex2969
                            intro x2970 ex2970
                            intro S2971 eS2971
                            have hI : IV S2971 := by rw [eS2971]; exact iv_sI hI o_v0 (by decide) (nu_free (by decide))
                            have f0 := fr_I eS2971 g0 f0 o_v0 (by decide)
                            have d_x2956 := rd_Ij eS2971 (by decide) d_x2956
                            have d_x2967 := rd_Ij eS2971 (by decide) d_x2967
                            have d_x2970 := rd_Is eS2971 (rfl : x2970 = x2970)
                            have hT := tx_I eS2971 hT
                            have g0 := gr_I eS2971 g0
                            have o_v0 := ob_I eS2971 o_v0
                            exact hq _ hI g0 f0 hT
                  · refine ⟨fun c2972 => ?_, fun c2972 => ?_⟩
                    · refine u_X4_next_201 ?_
                      refine ⟨o_v0, ?_⟩
                      intro x2973 ex2973
                      have q_x2973 : x2973 = x2941 := ex2973.trans d_x2941.symm
                      have d_x2973 := ex2973
                      intro x2974 ex2974
                      intro S2975 eS2975
                      have hI : IV S2975 := by rw [eS2975]; exact iv_sI hI o_v0 (by decide) (nu_free (by decide))
                      have f0 := fr_I eS2975 g0 f0 o_v0 (by decide)
                      have fL2878 := fr_I eS2975 gL2877 fL2878 o_v0 (by decide)
                      have d_y1575 := rd_Ij eS2975 (by decide) d_y1575
                      have d_x2946 := rd_Ij eS2975 (by decide) d_x2946
                      have d_x2974 := rd_Is eS2975 (rfl : x2974 = x2974)
                      have hT := tx_I eS2975 hT
                      have g0 := gr_I eS2975 g0
                      have gL2877 := gr_I eS2975 gL2877
                      have o_v0 := ob_I eS2975 o_v0
                      intro x2976 ex2976
                      exact ih2889 _ _ _ _ _ _ ⟨hI, gL2877, fL2878, rfl, rfl, rfl, rfl, hT, (q649 i1u1 c10 p_x1568 c1572 q_x1573 hy1575 q_x1576 p_x1577 q_x1583 c1584 q_x2099 c2100 q_x2615 c2616 q_x2873 c2874 i1u2875 p_k1u2875 c2916 q_x2941 p_x2942 q_x2946 c2947 c2972 q_x2973 ex2974 ex2976), (by rw [← d_x2946, ← d_x2974]; exact (q650 i1u1 c10 p_x1568 c1572 q_x1573 hy1575 q_x1576 p_x1577 q_x1583 c1584 q_x2099 c2100 q_x2615 c2616 q_x2873 c2874 i1u2875 p_k1u2875 c2916 q_x2941 p_x2942 q_x2946 c2947 c2972 q_x2973 ex2974 ex2976))⟩ (mu_up (q651 i1u1 c10 p_x1568 c1572 q_x1573 hy1575 q_x1576 p_x1577 q_x1583 c1584 q_x2099 c2100 q_x2615 c2616 q_x2873 c2874 i1u2875 p_k1u2875 c2916 q_x2941 p_x2942 q_x2946 c2947 c2972 q_x2973 ex2974 ex2976) (q652 i1u1 c10 p_x1568 c1572 q_x1573 hy1575 q_x1576 p_x1577 q_x1583 c1584 q_x2099 c2100 q_x2615 c2616 q_x2873 c2874 i1u2875 p_k1u2875 c2916 q_x2941 p_x2942 q_x2946 c2947 c2972 q_x2973 ex2974 ex2976))
                    · intro x2977 ex2977
                      have q_x2977 : x2977 = x2941 := ex2977.trans d_x2941.symm
                      have d_x2977 := ex2977
                      obtain ⟨a2978, ea2978, o_a2978, l_a2978⟩ := id hT
                      refine ⟨a2978, ea2978, ?_⟩
                      refine ⟨o_a2978, ?_⟩
                      have n_a2978 : nI (hN S2876 a2978) = 900 := by rw [show hN S2876 a2978 = 900 from l_a2978]; decide
                      refine ⟨fun c2979 => ?_, fun c2979 => ?_⟩
                      · rw [n_a2978] at c2979
                        refine u_X4_next_201 ?_
                        refine ⟨o_v0, ?_⟩
                        intro x2980 ex2980
                        have q_x2980 : x2980 = x2977 := ex2980.trans d_x2977.symm
                        have d_x2980 := ex2980
                        intro x2981 ex2981
                        intro S2982 eS2982
                        have hI : IV S2982 := by rw [eS2982]; exact iv_sI hI o_v0 (by decide) (nu_free (by decide))
                        have f0 := fr_I eS2982 g0 f0 o_v0 (by decide)
                        have fL2878 := fr_I eS2982 gL2877 fL2878 o_v0 (by decide)
                        have d_y1575 := rd_Ij eS2982 (by decide) d_y1575
                        have d_x2946 := rd_Ij eS2982 (by decide) d_x2946
                        have d_x2981 := rd_Is eS2982 (rfl : x2981 = x2981)
                        have ea2978 := rf_I eS2982 ea2978
                        have hT := tx_I eS2982 hT
                        have l_a2978 := ln_I eS2982 l_a2978
                        have g0 := gr_I eS2982 g0
                        have gL2877 := gr_I eS2982 gL2877
                        have o_a2978 := ob_I eS2982 o_a2978
                        have o_v0 := ob_I eS2982 o_v0
                        intro x2983 ex2983
                        exact ih2889 _ _ _ _ _ _ ⟨hI, gL2877, fL2878, rfl, rfl, rfl, rfl, hT, (q653 i1u1 c10 p_x1568 c1572 q_x1573 hy1575 q_x1576 p_x1577 q_x1583 c1584 q_x2099 c2100 q_x2615 c2616 q_x2873 c2874 i1u2875 p_k1u2875 c2916 q_x2941 p_x2942 q_x2946 c2947 c2972 q_x2977 c2979 q_x2980 ex2981 ex2983), (by rw [← d_x2946, ← d_x2981]; exact (q654 i1u1 c10 p_x1568 c1572 q_x1573 hy1575 q_x1576 p_x1577 q_x1583 c1584 q_x2099 c2100 q_x2615 c2616 q_x2873 c2874 i1u2875 p_k1u2875 c2916 q_x2941 p_x2942 q_x2946 c2947 c2972 q_x2977 c2979 q_x2980 ex2981 ex2983))⟩ (mu_up (q655 i1u1 c10 p_x1568 c1572 q_x1573 hy1575 q_x1576 p_x1577 q_x1583 c1584 q_x2099 c2100 q_x2615 c2616 q_x2873 c2874 i1u2875 p_k1u2875 c2916 q_x2941 p_x2942 q_x2946 c2947 c2972 q_x2977 c2979 q_x2980 ex2981 ex2983) (q656 i1u1 c10 p_x1568 c1572 q_x1573 hy1575 q_x1576 p_x1577 q_x1583 c1584 q_x2099 c2100 q_x2615 c2616 q_x2873 c2874 i1u2875 p_k1u2875 c2916 q_x2941 p_x2942 q_x2946 c2947 c2972 q_x2977 c2979 q_x2980 ex2981 ex2983))
                      · rw [n_a2978] at c2979
                        intro x2984 ex2984
                        have dj_x2984 := ex2984
                        refine ⟨a2978, ea2978, ?_⟩
                        intro x2986 ex2986
                        have q_x2986 : x2986 = x2977 := ex2986.trans d_x2977.symm
                        have d_x2986 := ex2986
                        refine ⟨o_a2978, ?_⟩
                        refine ⟨(vin l_a2978 (m := 900) (by decide) (q657 i1u1 c10 p_x1568 c1572 q_x1573 hy1575 q_x1576 p_x1577 q_x1583 c1584 q_x2099 c2100 q_x2615 c2616 q_x2873 c2874 i1u2875 p_k1u2875 c2916 q_x2941 p_x2942 q_x2946 c2947 c2972 q_x2977 c2979 q_x2986)), ?_⟩
                        intro x2987 ex2987
                        intro x2988 ex2988
                        have q_x2988 : x2988 = x2946 := ex2988.trans d_x2946.symm
                        have d_x2988 := ex2988
                        refine ⟨fun c2989 => ?_, fun c2989 => ?_⟩
                        · refine u_X4_next_195 ?_
                          refine ⟨o_v0, ?_⟩
                          intro x2990 ex2990
                          intro S2991 eS2991
                          have hI : IV S2991 := by rw [eS2991]; exact iv_sJ hI o_v0 (by decide)
                          have f0 := fr_J eS2991 f0
                          have fL2878 := fr_J eS2991 fL2878
                          have d_y1575 := rd_J eS2991 d_y1575
                          have d_x2988 := rd_J eS2991 d_x2988
                          have d_x2986 := rd_J eS2991 d_x2986
                          have ea2978 := rf_J eS2991 ea2978
                          have hT := tx_J eS2991 hT
                          have l_a2978 := ln_J eS2991 l_a2978
                          have g0 := gr_J eS2991 g0
                          have gL2877 := gr_J eS2991 gL2877
                          have o_a2978 := ob_J eS2991 o_a2978
                          have o_v0 := ob_J eS2991 o_v0
                          refine u_X4_next_201 ?_
                          refine ⟨o_v0, ?_⟩
                          intro x2992 ex2992
                          have q_x2992 : x2992 = x2986 := ex2992.trans d_x2986.symm
                          have d_x2992 := ex2992
                          intro x2993 ex2993
                          intro S2994 eS2994
                          have hI : IV S2994 := by rw [eS2994]; exact iv_sI hI o_v0 (by decide) (nu_free (by decide))
                          have f0 := fr_I eS2994 g0 f0 o_v0 (by decide)
                          have fL2878 := fr_I eS2994 gL2877 fL2878 o_v0 (by decide)
                          have d_y1575 := rd_Ij eS2994 (by decide) d_y1575
                          have d_x2988 := rd_Ij eS2994 (by decide) d_x2988
                          have d_x2993 := rd_Is eS2994 (rfl : x2993 = x2993)
                          have ea2978 := rf_I eS2994 ea2978
                          have hT := tx_I eS2994 hT
                          have l_a2978 := ln_I eS2994 l_a2978
                          have g0 := gr_I eS2994 g0
                          have gL2877 := gr_I eS2994 gL2877
                          have o_a2978 := ob_I eS2994 o_a2978
                          have o_v0 := ob_I eS2994 o_v0
                          intro x2995 ex2995
                          exact ih2889 _ _ _ _ _ _ ⟨hI, gL2877, fL2878, rfl, rfl, rfl, rfl, hT, (q658 i1u1 c10 p_x1568 c1572 q_x1573 hy1575 q_x1576 p_x1577 q_x1583 c1584 q_x2099 c2100 q_x2615 c2616 q_x2873 c2874 i1u2875 p_k1u2875 c2916 q_x2941 p_x2942 q_x2946 c2947 c2972 q_x2977 c2979 q_x2986 q_x2988 c2989 q_x2992 ex2993 ex2995), (by rw [← d_x2988, ← d_x2993]; exact (q659 i1u1 c10 p_x1568 c1572 q_x1573 hy1575 q_x1576 p_x1577 q_x1583 c1584 q_x2099 c2100 q_x2615 c2616 q_x2873 c2874 i1u2875 p_k1u2875 c2916 q_x2941 p_x2942 q_x2946 c2947 c2972 q_x2977 c2979 q_x2986 q_x2988 c2989 q_x2992 ex2993 ex2995))⟩ (mu_up (q660 i1u1 c10 p_x1568 c1572 q_x1573 hy1575 q_x1576 p_x1577 q_x1583 c1584 q_x2099 c2100 q_x2615 c2616 q_x2873 c2874 i1u2875 p_k1u2875 c2916 q_x2941 p_x2942 q_x2946 c2947 c2972 q_x2977 c2979 q_x2986 q_x2988 c2989 q_x2992 ex2993 ex2995) (q661 i1u1 c10 p_x1568 c1572 q_x1573 hy1575 q_x1576 p_x1577 q_x1583 c1584 q_x2099 c2100 q_x2615 c2616 q_x2873 c2874 i1u2875 p_k1u2875 c2916 q_x2941 p_x2942 q_x2946 c2947 c2972 q_x2977 c2979 q_x2986 q_x2988 c2989 q_x2992 ex2993 ex2995))
                        · refine u_X4_next_195 ?_
                          refine ⟨o_v0, ?_⟩
                          intro x2996 ex2996
                          intro S2997 eS2997
                          have hI : IV S2997 := by rw [eS2997]; exact iv_sJ hI o_v0 (by decide)
                          have f0 := fr_J eS2997 f0
                          have fL2878 := fr_J eS2997 fL2878
                          have d_y1575 := rd_J eS2997 d_y1575
                          have d_x2988 := rd_J eS2997 d_x2988
                          have d_x2986 := rd_J eS2997 d_x2986
                          have ea2978 := rf_J eS2997 ea2978
                          have hT := tx_J eS2997 hT
                          have l_a2978 := ln_J eS2997 l_a2978
                          have g0 := gr_J eS2997 g0
                          have gL2877 := gr_J eS2997 gL2877
                          have o_a2978 := ob_J eS2997 o_a2978
                          have o_v0 := ob_J eS2997 o_v0
                          refine u_X4_next_201 ?_
                          refine ⟨o_v0, ?_⟩
                          intro x2998 ex2998
                          have q_x2998 : x2998 = x2986 := ex2998.trans d_x2986.symm
                          have d_x2998 := ex2998
                          intro x2999 ex2999
                          intro S3000 eS3000
                          have hI : IV S3000 := by rw [eS3000]; exact iv_sI hI o_v0 (by decide) (nu_free (by decide))
                          have f0 := fr_I eS3000 g0 f0 o_v0 (by decide)
                          have fL2878 := fr_I eS3000 gL2877 fL2878 o_v0 (by decide)
                          have d_y1575 := rd_Ij eS3000 (by decide) d_y1575
                          have d_x2988 := rd_Ij eS3000 (by decide) d_x2988
                          have d_x2999 := rd_Is eS3000 (rfl : x2999 = x2999)
                          have ea2978 := rf_I eS3000 ea2978
                          have hT := tx_I eS3000 hT
                          have l_a2978 := ln_I eS3000 l_a2978
                          have g0 := gr_I eS3000 g0
                          have gL2877 := gr_I eS3000 gL2877
                          have o_a2978 := ob_I eS3000 o_a2978
                          have o_v0 := ob_I eS3000 o_v0
                          intro x3001 ex3001
                          exact ih2889 _ _ _ _ _ _ ⟨hI, gL2877, fL2878, rfl, rfl, rfl, rfl, hT, (q662 i1u1 c10 p_x1568 c1572 q_x1573 hy1575 q_x1576 p_x1577 q_x1583 c1584 q_x2099 c2100 q_x2615 c2616 q_x2873 c2874 i1u2875 p_k1u2875 c2916 q_x2941 p_x2942 q_x2946 c2947 c2972 q_x2977 c2979 q_x2986 q_x2988 c2989 q_x2998 ex2999 ex3001), (by rw [← d_x2988, ← d_x2999]; exact (q663 i1u1 c10 p_x1568 c1572 q_x1573 hy1575 q_x1576 p_x1577 q_x1583 c1584 q_x2099 c2100 q_x2615 c2616 q_x2873 c2874 i1u2875 p_k1u2875 c2916 q_x2941 p_x2942 q_x2946 c2947 c2972 q_x2977 c2979 q_x2986 q_x2988 c2989 q_x2998 ex2999 ex3001))⟩ (mu_up (q664 i1u1 c10 p_x1568 c1572 q_x1573 hy1575 q_x1576 p_x1577 q_x1583 c1584 q_x2099 c2100 q_x2615 c2616 q_x2873 c2874 i1u2875 p_k1u2875 c2916 q_x2941 p_x2942 q_x2946 c2947 c2972 q_x2977 c2979 q_x2986 q_x2988 c2989 q_x2998 ex2999 ex3001) (q665 i1u1 c10 p_x1568 c1572 q_x1573 hy1575 q_x1576 p_x1577 q_x1583 c1584 q_x2099 c2100 q_x2615 c2616 q_x2873 c2874 i1u2875 p_k1u2875 c2916 q_x2941 p_x2942 q_x2946 c2947 c2972 q_x2977 c2979 q_x2986 q_x2988 c2989 q_x2998 ex2999 ex3001))
            · refine u_X4_next_114 ?_
              refine i_X4_next_118 (fun (y0 : Nat) (y1 : Int32) (y2 : Int32) (y3 : Int32) (y4 : Int32) (Z : HS) => ((2147483647 : Int32).toInt - y4.toInt).toNat) (fun (y0 : Nat) (y1 : Int32) (y2 : Int32) (y3 : Int32) (y4 : Int32) (Z : HS) => (IV Z) ∧ (Gr S1582 Z) ∧ (FRI [(4, 4)] [] S1582 Z) ∧ (v0 = y0) ∧ ((1 : Int32) = y1) ∧ ((8 : Int32) = y2) ∧ ((32 : Int32) = y3) ∧ (TX Z v0) ∧ (0 ≤ y4) ∧ ((y1 = 0 ∨ fI Z v0 6 = 1 ∨ fI Z v0 6 = 2) ∧ (y1 = 0 → fI Z v0 6 = 0 ∨ (0 ≤ fI Z v0 4 ∧ fI Z v0 4 < 900)))) ?_ _ _ _ _ _ _ ⟨hI, (gr_rf _), (fri_rf _ _ _), rfl, rfl, rfl, rfl, hT, (q666 i1u1 c10 p_x1568 c1572 q_x1573 hy1575 q_x1576 p_x1577 q_x1583 c1584 q_x2099 c2100 q_x2615 c2616 q_x2873 c2874), (by rw [← d_x2873, ← d_x1576]; exact (q667 i1u1 c10 p_x1568 c1572 q_x1573 hy1575 q_x1576 p_x1577 q_x1583 c1584 q_x2099 c2100 q_x2615 c2616 q_x2873 c2874))⟩
              intro w3006 w3008 w3010 w3012 w3014 S3003 X3015 ⟨hI, gL3004, fL3005, q3007, q3009, q3011, q3013, hT, i1u3002, k1u3002⟩ ih3016
              subst q3007
              subst q3009
              subst q3011
              subst q3013
              have d_y1575 := d_y1575.trans (fri_at fL3005 (by decide) (by decide) o_v0).symm
              have d_x2873 := d_x2873.trans (fri_at fL3005 (by decide) (by decide) o_v0).symm
              have f0 := fri_tr (S := S1582) g0 f0 fL3005 (by decide) (by decide)
              have o_v0 := gr_ob gL3004 o_v0
              have g0 := gr_tr (T := S1582) g0 gL3004
              obtain ⟨y3017, d_y3017⟩ : ∃ z : Int32, z = fI S3003 v0 4 := ⟨_, rfl⟩
              have p_k1u3002 : ((1 : Int32) = 0 ∨ x2873 = 1 ∨ x2873 = 2) ∧ ((1 : Int32) = 0 → x2873 = 0 ∨ (0 ≤ y3017 ∧ y3017 < 900)) := by rw [d_x2873, d_y3017]; exact k1u3002
              refine u_X4_next_118 ?_
              refine ⟨fun c3018 => ?_, fun c3018 => ?_⟩
              · refine u_X4_next_217 ?_
                refine ⟨fun c3019 => ?_, fun c3019 => ?_⟩
                · refine u_X4_next_240 ?_
                  refine ⟨fun c3020 => ?_, fun c3020 => ?_⟩
                  · exact hq _ hI g0 f0 hT
                  · refine ⟨o_v0, ?_⟩
                    intro x3021 ex3021
                    have q_x3021 : x3021 = x2873 := ex3021.trans d_x2873.symm
                    have d_x3021 := ex3021
                    refine ⟨fun c3022 => ?_, fun c3022 => ?_⟩
                    · exact hq _ hI g0 f0 hT
                    · intro x3023 ex3023
                      have q_x3023 : x3023 = y3017 := ex3023.trans d_y3017.symm
                      have d_x3023 := ex3023
                      intro x3024 ex3024
                      intro S3025 eS3025
                      have hI : IV S3025 := by rw [eS3025]; exact iv_sI hI o_v0 (by decide) (nu_free (by decide))
                      have f0 := fr_I eS3025 g0 f0 o_v0 (by decide)
                      have d_y1575 := rd_Ij eS3025 (by decide) d_y1575
                      have d_x3021 := rd_Ij eS3025 (by decide) d_x3021
                      have d_x3024 := rd_Is eS3025 (rfl : x3024 = x3024)
                      have hT := tx_I eS3025 hT
                      have g0 := gr_I eS3025 g0
                      have o_v0 := ob_I eS3025 o_v0
                      exact hq _ hI g0 f0 hT
                · refine ⟨o_v0, ?_⟩
                  intro x3026 ex3026
                  have q_x3026 : x3026 = y3017 := ex3026.trans d_y3017.symm
                  have d_x3026 := ex3026
                  intro x3027 ex3027
                  have q_x3027 : x3027 = y1575 := ex3027.trans d_y1575.symm
                  have d_x3027 := ex3027
                  refine ⟨fun c3028 => ?_, fun c3028 => ?_⟩
                  · refine u_X4_next_240 ?_
                    refine ⟨fun c3029 => ?_, fun c3029 => ?_⟩
                    · exact hq _ hI g0 f0 hT
                    · refine ⟨o_v0, ?_⟩
                      intro x3030 ex3030
                      have q_x3030 : x3030 = x2873 := ex3030.trans d_x2873.symm
                      have d_x3030 := ex3030
                      refine ⟨fun c3031 => ?_, fun c3031 => ?_⟩
                      · exact hq _ hI g0 f0 hT
                      · intro x3032 ex3032
                        have q_x3032 : x3032 = x3026 := ex3032.trans d_x3026.symm
                        have d_x3032 := ex3032
                        intro x3033 ex3033
                        intro S3034 eS3034
                        have hI : IV S3034 := by rw [eS3034]; exact iv_sI hI o_v0 (by decide) (nu_free (by decide))
                        have f0 := fr_I eS3034 g0 f0 o_v0 (by decide)
                        have d_x3027 := rd_Ij eS3034 (by decide) d_x3027
                        have d_x3030 := rd_Ij eS3034 (by decide) d_x3030
                        have d_x3033 := rd_Is eS3034 (rfl : x3033 = x3033)
                        have hT := tx_I eS3034 hT
                        have g0 := gr_I eS3034 g0
                        have o_v0 := ob_I eS3034 o_v0
                        exact hq _ hI g0 f0 hT
                  · intro S3035 eS3035
                    have hI : IV S3035 := by rw [eS3035]; exact iv_sI hI o_v0 (by decide) (nu_free (by decide))
                    have f0 := fr_I eS3035 g0 f0 o_v0 (by decide)
                    have d_x3027 := rd_Ij eS3035 (by decide) d_x3027
                    have d_x3026 := rd_Ij eS3035 (by decide) d_x3026
                    obtain ⟨y3036, hy3036⟩ : ∃ z : Int32, z = (6 : Int32) := ⟨_, rfl⟩
                    have d_y3036 := rd_Is eS3035 hy3036
                    have hT := tx_I eS3035 hT
                    have g0 := gr_I eS3035 g0
                    have o_v0 := ob_I eS3035 o_v0
                    refine u_X4_next_240 ?_
                    refine ⟨fun c3037 => ?_, fun c3037 => ?_⟩
                    · exact hq _ hI g0 f0 hT
                    · refine ⟨o_v0, ?_⟩
                      intro x3038 ex3038
                      have q_x3038 : x3038 = y3036 := ex3038.trans d_y3036.symm
                      have d_x3038 := ex3038
                      refine ⟨fun c3039 => ?_, fun c3039 => ?_⟩
                      · exact hq _ hI g0 f0 hT
                      · intro x3040 ex3040
                        have q_x3040 : x3040 = x3026 := ex3040.trans d_x3026.symm
                        have d_x3040 := ex3040
                        intro x3041 ex3041
                        intro S3042 eS3042
                        have hI : IV S3042 := by rw [eS3042]; exact iv_sI hI o_v0 (by decide) (nu_free (by decide))
                        have f0 := fr_I eS3042 g0 f0 o_v0 (by decide)
                        have d_x3027 := rd_Ij eS3042 (by decide) d_x3027
                        have d_x3038 := rd_Ij eS3042 (by decide) d_x3038
                        have d_x3041 := rd_Is eS3042 (rfl : x3041 = x3041)
                        have hT := tx_I eS3042 hT
                        have g0 := gr_I eS3042 g0
                        have o_v0 := ob_I eS3042 o_v0
                        exact hq _ hI g0 f0 hT
              · refine ⟨fun c3043 => ?_, fun c3043 => ?_⟩
                · refine u_X4_next_217 ?_
                  refine ⟨fun c3044 => ?_, fun c3044 => ?_⟩
                  · refine u_X4_next_240 ?_
                    refine ⟨fun c3045 => ?_, fun c3045 => ?_⟩
                    · exact hq _ hI g0 f0 hT
                    · refine ⟨o_v0, ?_⟩
                      intro x3046 ex3046
                      have q_x3046 : x3046 = x2873 := ex3046.trans d_x2873.symm
                      have d_x3046 := ex3046
                      refine ⟨fun c3047 => ?_, fun c3047 => ?_⟩
                      · exact hq _ hI g0 f0 hT
                      · intro x3048 ex3048
                        have q_x3048 : x3048 = y3017 := ex3048.trans d_y3017.symm
                        have d_x3048 := ex3048
                        intro x3049 ex3049
                        intro S3050 eS3050
                        have hI : IV S3050 := by rw [eS3050]; exact iv_sI hI o_v0 (by decide) (nu_free (by decide))
                        have f0 := fr_I eS3050 g0 f0 o_v0 (by decide)
                        have d_y1575 := rd_Ij eS3050 (by decide) d_y1575
                        have d_x3046 := rd_Ij eS3050 (by decide) d_x3046
                        have d_x3049 := rd_Is eS3050 (rfl : x3049 = x3049)
                        have hT := tx_I eS3050 hT
                        have g0 := gr_I eS3050 g0
                        have o_v0 := ob_I eS3050 o_v0
                        exact hq _ hI g0 f0 hT
                  · refine ⟨o_v0, ?_⟩
                    intro x3051 ex3051
                    have q_x3051 : x3051 = y3017 := ex3051.trans d_y3017.symm
                    have d_x3051 := ex3051
                    intro x3052 ex3052
                    have q_x3052 : x3052 = y1575 := ex3052.trans d_y1575.symm
                    have d_x3052 := ex3052
                    refine ⟨fun c3053 => ?_, fun c3053 => ?_⟩
                    · refine u_X4_next_240 ?_
                      refine ⟨fun c3054 => ?_, fun c3054 => ?_⟩
                      · exact hq _ hI g0 f0 hT
                      · refine ⟨o_v0, ?_⟩
                        intro x3055 ex3055
                        have q_x3055 : x3055 = x2873 := ex3055.trans d_x2873.symm
                        have d_x3055 := ex3055
                        refine ⟨fun c3056 => ?_, fun c3056 => ?_⟩
                        · exact hq _ hI g0 f0 hT
                        · intro x3057 ex3057
                          have q_x3057 : x3057 = x3051 := ex3057.trans d_x3051.symm
                          have d_x3057 := ex3057
                          intro x3058 ex3058
                          intro S3059 eS3059
                          have hI : IV S3059 := by rw [eS3059]; exact iv_sI hI o_v0 (by decide) (nu_free (by decide))
                          have f0 := fr_I eS3059 g0 f0 o_v0 (by decide)
                          have d_x3052 := rd_Ij eS3059 (by decide) d_x3052
                          have d_x3055 := rd_Ij eS3059 (by decide) d_x3055
                          have d_x3058 := rd_Is eS3059 (rfl : x3058 = x3058)
                          have hT := tx_I eS3059 hT
                          have g0 := gr_I eS3059 g0
                          have o_v0 := ob_I eS3059 o_v0
                          exact hq _ hI g0 f0 hT
                    · intro S3060 eS3060
                      have hI : IV S3060 := by rw [eS3060]; exact iv_sI hI o_v0 (by decide) (nu_free (by decide))
                      have f0 := fr_I eS3060 g0 f0 o_v0 (by decide)
                      have d_x3052 := rd_Ij eS3060 (by decide) d_x3052
                      have d_x3051 := rd_Ij eS3060 (by decide) d_x3051
                      obtain ⟨y3061, hy3061⟩ : ∃ z : Int32, z = (6 : Int32) := ⟨_, rfl⟩
                      have d_y3061 := rd_Is eS3060 hy3061
                      have hT := tx_I eS3060 hT
                      have g0 := gr_I eS3060 g0
                      have o_v0 := ob_I eS3060 o_v0
                      refine u_X4_next_240 ?_
                      refine ⟨fun c3062 => ?_, fun c3062 => ?_⟩
                      · exact hq _ hI g0 f0 hT
                      · refine ⟨o_v0, ?_⟩
                        intro x3063 ex3063
                        have q_x3063 : x3063 = y3061 := ex3063.trans d_y3061.symm
                        have d_x3063 := ex3063
                        refine ⟨fun c3064 => ?_, fun c3064 => ?_⟩
                        · exact hq _ hI g0 f0 hT
                        · intro x3065 ex3065
                          have q_x3065 : x3065 = x3051 := ex3065.trans d_x3051.symm
                          have d_x3065 := ex3065
                          intro x3066 ex3066
                          intro S3067 eS3067
                          have hI : IV S3067 := by rw [eS3067]; exact iv_sI hI o_v0 (by decide) (nu_free (by decide))
                          have f0 := fr_I eS3067 g0 f0 o_v0 (by decide)
                          have d_x3052 := rd_Ij eS3067 (by decide) d_x3052
                          have d_x3063 := rd_Ij eS3067 (by decide) d_x3063
                          have d_x3066 := rd_Is eS3067 (rfl : x3066 = x3066)
                          have hT := tx_I eS3067 hT
                          have g0 := gr_I eS3067 g0
                          have o_v0 := ob_I eS3067 o_v0
                          exact hq _ hI g0 f0 hT
                · refine ⟨o_v0, ?_⟩
                  intro x3068 ex3068
                  have q_x3068 : x3068 = y3017 := ex3068.trans d_y3017.symm
                  have d_x3068 := ex3068
                  refine m_X4_sortAt hI o_v0 hT (fun x3069 S3070 hI2 g3071 p_x3069 => ?_)
                  obtain ⟨z_S3070, p_x3069⟩ := p_x3069
                  subst z_S3070
                  intro _
                  intro x3073 ex3073
                  have q_x3073 : x3073 = x2873 := ex3073.trans d_x2873.symm
                  have d_x3073 := ex3073
                  refine ⟨fun c3074 => ?_, fun c3074 => ?_⟩
                  · refine u_X4_next_217 ?_
                    refine ⟨fun c3075 => ?_, fun c3075 => ?_⟩
                    · refine u_X4_next_240 ?_
                      refine ⟨fun c3076 => ?_, fun c3076 => ?_⟩
                      · exact hq _ hI g0 f0 hT
                      · refine ⟨o_v0, ?_⟩
                        intro x3077 ex3077
                        have q_x3077 : x3077 = x3073 := ex3077.trans d_x3073.symm
                        have d_x3077 := ex3077
                        refine ⟨fun c3078 => ?_, fun c3078 => ?_⟩
                        · exact hq _ hI g0 f0 hT
                        · intro x3079 ex3079
                          have q_x3079 : x3079 = x3068 := ex3079.trans d_x3068.symm
                          have d_x3079 := ex3079
                          intro x3080 ex3080
                          intro S3081 eS3081
                          have hI : IV S3081 := by rw [eS3081]; exact iv_sI hI o_v0 (by decide) (nu_free (by decide))
                          have f0 := fr_I eS3081 g0 f0 o_v0 (by decide)
                          have d_y1575 := rd_Ij eS3081 (by decide) d_y1575
                          have d_x3077 := rd_Ij eS3081 (by decide) d_x3077
                          have d_x3080 := rd_Is eS3081 (rfl : x3080 = x3080)
                          have hT := tx_I eS3081 hT
                          have g0 := gr_I eS3081 g0
                          have o_v0 := ob_I eS3081 o_v0
                          exact hq _ hI g0 f0 hT
                    · refine ⟨o_v0, ?_⟩
                      intro x3082 ex3082
                      have q_x3082 : x3082 = x3068 := ex3082.trans d_x3068.symm
                      have d_x3082 := ex3082
                      intro x3083 ex3083
                      have q_x3083 : x3083 = y1575 := ex3083.trans d_y1575.symm
                      have d_x3083 := ex3083
                      refine ⟨fun c3084 => ?_, fun c3084 => ?_⟩
                      · refine u_X4_next_240 ?_
                        refine ⟨fun c3085 => ?_, fun c3085 => ?_⟩
                        · exact hq _ hI g0 f0 hT
                        · refine ⟨o_v0, ?_⟩
                          intro x3086 ex3086
                          have q_x3086 : x3086 = x3073 := ex3086.trans d_x3073.symm
                          have d_x3086 := ex3086
                          refine ⟨fun c3087 => ?_, fun c3087 => ?_⟩
                          · exact hq _ hI g0 f0 hT
                          · intro x3088 ex3088
                            have q_x3088 : x3088 = x3082 := ex3088.trans d_x3082.symm
                            have d_x3088 := ex3088
                            intro x3089 ex3089
                            intro S3090 eS3090
                            have hI : IV S3090 := by rw [eS3090]; exact iv_sI hI o_v0 (by decide) (nu_free (by decide))
                            have f0 := fr_I eS3090 g0 f0 o_v0 (by decide)
                            have d_x3083 := rd_Ij eS3090 (by decide) d_x3083
                            have d_x3086 := rd_Ij eS3090 (by decide) d_x3086
                            have d_x3089 := rd_Is eS3090 (rfl : x3089 = x3089)
                            have hT := tx_I eS3090 hT
                            have g0 := gr_I eS3090 g0
                            have o_v0 := ob_I eS3090 o_v0
                            exact hq _ hI g0 f0 hT
                      · intro S3091 eS3091
                        have hI : IV S3091 := by rw [eS3091]; exact iv_sI hI o_v0 (by decide) (nu_free (by decide))
                        have f0 := fr_I eS3091 g0 f0 o_v0 (by decide)
                        have d_x3083 := rd_Ij eS3091 (by decide) d_x3083
                        have d_x3082 := rd_Ij eS3091 (by decide) d_x3082
                        obtain ⟨y3092, hy3092⟩ : ∃ z : Int32, z = (6 : Int32) := ⟨_, rfl⟩
                        have d_y3092 := rd_Is eS3091 hy3092
                        have hT := tx_I eS3091 hT
                        have g0 := gr_I eS3091 g0
                        have o_v0 := ob_I eS3091 o_v0
                        refine u_X4_next_240 ?_
                        refine ⟨fun c3093 => ?_, fun c3093 => ?_⟩
                        · exact hq _ hI g0 f0 hT
                        · refine ⟨o_v0, ?_⟩
                          intro x3094 ex3094
                          have q_x3094 : x3094 = y3092 := ex3094.trans d_y3092.symm
                          have d_x3094 := ex3094
                          refine ⟨fun c3095 => ?_, fun c3095 => ?_⟩
                          · exact hq _ hI g0 f0 hT
                          · intro x3096 ex3096
                            have q_x3096 : x3096 = x3082 := ex3096.trans d_x3082.symm
                            have d_x3096 := ex3096
                            intro x3097 ex3097
                            intro S3098 eS3098
                            have hI : IV S3098 := by rw [eS3098]; exact iv_sI hI o_v0 (by decide) (nu_free (by decide))
                            have f0 := fr_I eS3098 g0 f0 o_v0 (by decide)
                            have d_x3083 := rd_Ij eS3098 (by decide) d_x3083
                            have d_x3094 := rd_Ij eS3098 (by decide) d_x3094
                            have d_x3097 := rd_Is eS3098 (rfl : x3097 = x3097)
                            have hT := tx_I eS3098 hT
                            have g0 := gr_I eS3098 g0
                            have o_v0 := ob_I eS3098 o_v0
                            exact hq _ hI g0 f0 hT
                  · refine ⟨fun c3099 => ?_, fun c3099 => ?_⟩
                    · refine u_X4_next_201 ?_
                      refine ⟨o_v0, ?_⟩
                      intro x3100 ex3100
                      have q_x3100 : x3100 = x3068 := ex3100.trans d_x3068.symm
                      have d_x3100 := ex3100
                      intro x3101 ex3101
                      intro S3102 eS3102
                      have hI : IV S3102 := by rw [eS3102]; exact iv_sI hI o_v0 (by decide) (nu_free (by decide))
                      have f0 := fr_I eS3102 g0 f0 o_v0 (by decide)
                      have fL3005 := fr_I eS3102 gL3004 fL3005 o_v0 (by decide)
                      have d_y1575 := rd_Ij eS3102 (by decide) d_y1575
                      have d_x3073 := rd_Ij eS3102 (by decide) d_x3073
                      have d_x3101 := rd_Is eS3102 (rfl : x3101 = x3101)
                      have hT := tx_I eS3102 hT
                      have g0 := gr_I eS3102 g0
                      have gL3004 := gr_I eS3102 gL3004
                      have o_v0 := ob_I eS3102 o_v0
                      intro x3103 ex3103
                      exact ih3016 _ _ _ _ _ _ ⟨hI, gL3004, fL3005, rfl, rfl, rfl, rfl, hT, (q668 i1u1 c10 p_x1568 c1572 q_x1573 hy1575 q_x1576 p_x1577 q_x1583 c1584 q_x2099 c2100 q_x2615 c2616 q_x2873 c2874 i1u3002 p_k1u3002 c3043 q_x3068 p_x3069 q_x3073 c3074 c3099 q_x3100 ex3101 ex3103), (by rw [← d_x3073, ← d_x3101]; exact (q669 i1u1 c10 p_x1568 c1572 q_x1573 hy1575 q_x1576 p_x1577 q_x1583 c1584 q_x2099 c2100 q_x2615 c2616 q_x2873 c2874 i1u3002 p_k1u3002 c3043 q_x3068 p_x3069 q_x3073 c3074 c3099 q_x3100 ex3101 ex3103))⟩ (mu_up (q670 i1u1 c10 p_x1568 c1572 q_x1573 hy1575 q_x1576 p_x1577 q_x1583 c1584 q_x2099 c2100 q_x2615 c2616 q_x2873 c2874 i1u3002 p_k1u3002 c3043 q_x3068 p_x3069 q_x3073 c3074 c3099 q_x3100 ex3101 ex3103) (q671 i1u1 c10 p_x1568 c1572 q_x1573 hy1575 q_x1576 p_x1577 q_x1583 c1584 q_x2099 c2100 q_x2615 c2616 q_x2873 c2874 i1u3002 p_k1u3002 c3043 q_x3068 p_x3069 q_x3073 c3074 c3099 q_x3100 ex3101 ex3103))
                    · intro x3104 ex3104
                      have q_x3104 : x3104 = x3068 := ex3104.trans d_x3068.symm
                      have d_x3104 := ex3104
                      obtain ⟨a3105, ea3105, o_a3105, l_a3105⟩ := id hT
                      refine ⟨a3105, ea3105, ?_⟩
                      refine ⟨o_a3105, ?_⟩
                      have n_a3105 : nI (hN S3003 a3105) = 900 := by rw [show hN S3003 a3105 = 900 from l_a3105]; decide
                      refine ⟨fun c3106 => ?_, fun c3106 => ?_⟩
                      · rw [n_a3105] at c3106
                        refine u_X4_next_201 ?_
                        refine ⟨o_v0, ?_⟩
                        intro x3107 ex3107
                        have q_x3107 : x3107 = x3104 := ex3107.trans d_x3104.symm
                        have d_x3107 := ex3107
                        intro x3108 ex3108
                        intro S3109 eS3109
                        have hI : IV S3109 := by rw [eS3109]; exact iv_sI hI o_v0 (by decide) (nu_free (by decide))
                        have f0 := fr_I eS3109 g0 f0 o_v0 (by decide)
                        have fL3005 := fr_I eS3109 gL3004 fL3005 o_v0 (by decide)
                        have d_y1575 := rd_Ij eS3109 (by decide) d_y1575
                        have d_x3073 := rd_Ij eS3109 (by decide) d_x3073
                        have d_x3108 := rd_Is eS3109 (rfl : x3108 = x3108)
                        have ea3105 := rf_I eS3109 ea3105
                        have hT := tx_I eS3109 hT
                        have l_a3105 := ln_I eS3109 l_a3105
                        have g0 := gr_I eS3109 g0
                        have gL3004 := gr_I eS3109 gL3004
                        have o_a3105 := ob_I eS3109 o_a3105
                        have o_v0 := ob_I eS3109 o_v0
                        intro x3110 ex3110
                        exact ih3016 _ _ _ _ _ _ ⟨hI, gL3004, fL3005, rfl, rfl, rfl, rfl, hT, (q672 i1u1 c10 p_x1568 c1572 q_x1573 hy1575 q_x1576 p_x1577 q_x1583 c1584 q_x2099 c2100 q_x2615 c2616 q_x2873 c2874 i1u3002 p_k1u3002 c3043 q_x3068 p_x3069 q_x3073 c3074 c3099 q_x3104 c3106 q_x3107 ex3108 ex3110), (by rw [← d_x3073, ← d_x3108]; exact (q673 i1u1 c10 p_x1568 c1572 q_x1573 hy1575 q_x1576 p_x1577 q_x1583 c1584 q_x2099 c2100 q_x2615 c2616 q_x2873 c2874 i1u3002 p_k1u3002 c3043 q_x3068 p_x3069 q_x3073 c3074 c3099 q_x3104 c3106 q_x3107 ex3108 ex3110))⟩ (mu_up (q674 i1u1 c10 p_x1568 c1572 q_x1573 hy1575 q_x1576 p_x1577 q_x1583 c1584 q_x2099 c2100 q_x2615 c2616 q_x2873 c2874 i1u3002 p_k1u3002 c3043 q_x3068 p_x3069 q_x3073 c3074 c3099 q_x3104 c3106 q_x3107 ex3108 ex3110) (q675 i1u1 c10 p_x1568 c1572 q_x1573 hy1575 q_x1576 p_x1577 q_x1583 c1584 q_x2099 c2100 q_x2615 c2616 q_x2873 c2874 i1u3002 p_k1u3002 c3043 q_x3068 p_x3069 q_x3073 c3074 c3099 q_x3104 c3106 q_x3107 ex3108 ex3110))
                      · rw [n_a3105] at c3106
                        intro x3111 ex3111
                        have dj_x3111 := ex3111
                        refine ⟨a3105, ea3105, ?_⟩
                        intro x3113 ex3113
                        have q_x3113 : x3113 = x3104 := ex3113.trans d_x3104.symm
                        have d_x3113 := ex3113
                        refine ⟨o_a3105, ?_⟩
                        refine ⟨(vin l_a3105 (m := 900) (by decide) (q676 i1u1 c10 p_x1568 c1572 q_x1573 hy1575 q_x1576 p_x1577 q_x1583 c1584 q_x2099 c2100 q_x2615 c2616 q_x2873 c2874 i1u3002 p_k1u3002 c3043 q_x3068 p_x3069 q_x3073 c3074 c3099 q_x3104 c3106 q_x3113)), ?_⟩
                        intro x3114 ex3114
                        intro x3115 ex3115
                        have q_x3115 : x3115 = x3073 := ex3115.trans d_x3073.symm
                        have d_x3115 := ex3115
                        refine ⟨fun c3116 => ?_, fun c3116 => ?_⟩
                        · refine u_X4_next_195 ?_
                          refine ⟨o_v0, ?_⟩
                          intro x3117 ex3117
                          intro S3118 eS3118
                          have hI : IV S3118 := by rw [eS3118]; exact iv_sJ hI o_v0 (by decide)
                          have f0 := fr_J eS3118 f0
                          have fL3005 := fr_J eS3118 fL3005
                          have d_y1575 := rd_J eS3118 d_y1575
                          have d_x3115 := rd_J eS3118 d_x3115
                          have d_x3113 := rd_J eS3118 d_x3113
                          have ea3105 := rf_J eS3118 ea3105
                          have hT := tx_J eS3118 hT
                          have l_a3105 := ln_J eS3118 l_a3105
                          have g0 := gr_J eS3118 g0
                          have gL3004 := gr_J eS3118 gL3004
                          have o_a3105 := ob_J eS3118 o_a3105
                          have o_v0 := ob_J eS3118 o_v0
                          refine u_X4_next_201 ?_
                          refine ⟨o_v0, ?_⟩
                          intro x3119 ex3119
                          have q_x3119 : x3119 = x3113 := ex3119.trans d_x3113.symm
                          have d_x3119 := ex3119
                          intro x3120 ex3120
                          intro S3121 eS3121
                          have hI : IV S3121 := by rw [eS3121]; exact iv_sI hI o_v0 (by decide) (nu_free (by decide))
                          have f0 := fr_I eS3121 g0 f0 o_v0 (by decide)
                          have fL3005 := fr_I eS3121 gL3004 fL3005 o_v0 (by decide)
                          have d_y1575 := rd_Ij eS3121 (by decide) d_y1575
                          have d_x3115 := rd_Ij eS3121 (by decide) d_x3115
                          have d_x3120 := rd_Is eS3121 (rfl : x3120 = x3120)
                          have ea3105 := rf_I eS3121 ea3105
                          have hT := tx_I eS3121 hT
                          have l_a3105 := ln_I eS3121 l_a3105
                          have g0 := gr_I eS3121 g0
                          have gL3004 := gr_I eS3121 gL3004
                          have o_a3105 := ob_I eS3121 o_a3105
                          have o_v0 := ob_I eS3121 o_v0
                          intro x3122 ex3122
                          exact ih3016 _ _ _ _ _ _ ⟨hI, gL3004, fL3005, rfl, rfl, rfl, rfl, hT, (q677 i1u1 c10 p_x1568 c1572 q_x1573 hy1575 q_x1576 p_x1577 q_x1583 c1584 q_x2099 c2100 q_x2615 c2616 q_x2873 c2874 i1u3002 p_k1u3002 c3043 q_x3068 p_x3069 q_x3073 c3074 c3099 q_x3104 c3106 q_x3113 q_x3115 c3116 q_x3119 ex3120 ex3122), (by rw [← d_x3115, ← d_x3120]; exact (q678 i1u1 c10 p_x1568 c1572 q_x1573 hy1575 q_x1576 p_x1577 q_x1583 c1584 q_x2099 c2100 q_x2615 c2616 q_x2873 c2874 i1u3002 p_k1u3002 c3043 q_x3068 p_x3069 q_x3073 c3074 c3099 q_x3104 c3106 q_x3113 q_x3115 c3116 q_x3119 ex3120 ex3122))⟩ (mu_up (q679 i1u1 c10 p_x1568 c1572 q_x1573 hy1575 q_x1576 p_x1577 q_x1583 c1584 q_x2099 c2100 q_x2615 c2616 q_x2873 c2874 i1u3002 p_k1u3002 c3043 q_x3068 p_x3069 q_x3073 c3074 c3099 q_x3104 c3106 q_x3113 q_x3115 c3116 q_x3119 ex3120 ex3122) (q680 i1u1 c10 p_x1568 c1572 q_x1573 hy1575 q_x1576 p_x1577 q_x1583 c1584 q_x2099 c2100 q_x2615 c2616 q_x2873 c2874 i1u3002 p_k1u3002 c3043 q_x3068 p_x3069 q_x3073 c3074 c3099 q_x3104 c3106 q_x3113 q_x3115 c3116 q_x3119 ex3120 ex3122))
                        · refine u_X4_next_195 ?_
                          refine ⟨o_v0, ?_⟩
                          intro x3123 ex3123
                          intro S3124 eS3124
                          have hI : IV S3124 := by rw [eS3124]; exact iv_sJ hI o_v0 (by decide)
                          have f0 := fr_J eS3124 f0
                          have fL3005 := fr_J eS3124 fL3005
                          have d_y1575 := rd_J eS3124 d_y1575
                          have d_x3115 := rd_J eS3124 d_x3115
                          have d_x3113 := rd_J eS3124 d_x3113
                          have ea3105 := rf_J eS3124 ea3105
                          have hT := tx_J eS3124 hT
                          have l_a3105 := ln_J eS3124 l_a3105
                          have g0 := gr_J eS3124 g0
                          have gL3004 := gr_J eS3124 gL3004
                          have o_a3105 := ob_J eS3124 o_a3105
                          have o_v0 := ob_J eS3124 o_v0
                          refine u_X4_next_201 ?_
                          refine ⟨o_v0, ?_⟩
                          intro x3125 ex3125
                          have q_x3125 : x3125 = x3113 := ex3125.trans d_x3113.symm
                          have d_x3125 := ex3125
                          intro x3126 ex3126
                          intro S3127 eS3127
                          have hI : IV S3127 := by rw [eS3127]; exact iv_sI hI o_v0 (by decide) (nu_free (by decide))
                          have f0 := fr_I eS3127 g0 f0 o_v0 (by decide)
                          have fL3005 := fr_I eS3127 gL3004 fL3005 o_v0 (by decide)
                          have d_y1575 := rd_Ij eS3127 (by decide) d_y1575
                          have d_x3115 := rd_Ij eS3127 (by decide) d_x3115
                          have d_x3126 := rd_Is eS3127 (rfl : x3126 = x3126)
                          have ea3105 := rf_I eS3127 ea3105
                          have hT := tx_I eS3127 hT
                          have l_a3105 := ln_I eS3127 l_a3105
                          have g0 := gr_I eS3127 g0
                          have gL3004 := gr_I eS3127 gL3004
                          have o_a3105 := ob_I eS3127 o_a3105
                          have o_v0 := ob_I eS3127 o_v0
                          intro x3128 ex3128
                          exact ih3016 _ _ _ _ _ _ ⟨hI, gL3004, fL3005, rfl, rfl, rfl, rfl, hT, (q681 i1u1 c10 p_x1568 c1572 q_x1573 hy1575 q_x1576 p_x1577 q_x1583 c1584 q_x2099 c2100 q_x2615 c2616 q_x2873 c2874 i1u3002 p_k1u3002 c3043 q_x3068 p_x3069 q_x3073 c3074 c3099 q_x3104 c3106 q_x3113 q_x3115 c3116 q_x3125 ex3126 ex3128), (by rw [← d_x3115, ← d_x3126]; exact (q682 i1u1 c10 p_x1568 c1572 q_x1573 hy1575 q_x1576 p_x1577 q_x1583 c1584 q_x2099 c2100 q_x2615 c2616 q_x2873 c2874 i1u3002 p_k1u3002 c3043 q_x3068 p_x3069 q_x3073 c3074 c3099 q_x3104 c3106 q_x3113 q_x3115 c3116 q_x3125 ex3126 ex3128))⟩ (mu_up (q683 i1u1 c10 p_x1568 c1572 q_x1573 hy1575 q_x1576 p_x1577 q_x1583 c1584 q_x2099 c2100 q_x2615 c2616 q_x2873 c2874 i1u3002 p_k1u3002 c3043 q_x3068 p_x3069 q_x3073 c3074 c3099 q_x3104 c3106 q_x3113 q_x3115 c3116 q_x3125 ex3126 ex3128) (q684 i1u1 c10 p_x1568 c1572 q_x1573 hy1575 q_x1576 p_x1577 q_x1583 c1584 q_x2099 c2100 q_x2615 c2616 q_x2873 c2874 i1u3002 p_k1u3002 c3043 q_x3068 p_x3069 q_x3073 c3074 c3099 q_x3104 c3106 q_x3113 q_x3115 c3116 q_x3125 ex3126 ex3128))
    · intro x3129 ex3129
      have q_x3129 : x3129 = x1567 := ex3129.trans d_x1567.symm
      have d_x3129 := ex3129
      intro x3130 ex3130
      intro S3131 eS3131
      have hI : IV S3131 := by rw [eS3131]; exact iv_sI hI o_v0 (by decide) (nu_free (by decide))
      have f0 := fr_I eS3131 g0 f0 o_v0 (by decide)
      have fL4 := fr_I eS3131 gL3 fL4 o_v0 (by decide)
      have d_x3130 := rd_Is eS3131 (rfl : x3130 = x3130)
      have hT := tx_I eS3131 hT
      have g0 := gr_I eS3131 g0
      have gL3 := gr_I eS3131 gL3
      have o_v0 := ob_I eS3131 o_v0
      intro x3132 ex3132
      exact ih9 _ _ _ ⟨hI, gL3, fL4, rfl, hT, (q685 i1u1 c10 p_x1568 c1572 q_x3129 ex3130 ex3132)⟩ (mu_up (q686 i1u1 c10 p_x1568 c1572 q_x3129 ex3130 ex3132) (q687 i1u1 c10 p_x1568 c1572 q_x3129 ex3130 ex3132))
