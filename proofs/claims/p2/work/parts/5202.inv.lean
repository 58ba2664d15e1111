set_option maxHeartbeats 4000000 in
set_option maxRecDepth 20000 in
theorem m_X1_leastWet {v0 : Nat} {v1 : Nat} {v2 : Nat} {v3 : Int32} {v4 : Nat} {Q : Int64 → HS → Prop} {S : HS} (hI : IV S) (o_v0 : ob S v0 1) (o_v1 : ob S v1 6) (o_v2 : ob S v2 5) (o_v4 : ob S v4 3)     (hq : ∀ (r : Int64) (T : HS), IV T → Gr S T → FRI [] [] S T → Q r T) : P_X1_leastWet v0 v1 v2 v3 v4 Q S := by
  have g0 := gr_rf S
  have f0 := fri_rf [] [] S
  refine u_X1_leastWet ?_
  refine u_X1_leastWet_0 ?_
  refine ⟨o_v0, ?_⟩
  refine m_X1_bestSpeed hI o_v0 o_v1 o_v2 o_v4 (fun x1 S2 hI g3 fc4 => ?_)
  have f0 := fri_tr (S := S) g0 f0 fc4 (by decide) (by decide)
  have o_v0 := gr_ob g3 o_v0
  have o_v1 := gr_ob g3 o_v1
  have o_v2 := gr_ob g3 o_v2
  have o_v4 := gr_ob g3 o_v4
  have g0 := gr_tr (T := S) g0 g3
  intro _
  refine m_X1_wetOf hI o_v0 o_v1 o_v2 o_v4 (fun x5 S6 hI g7 fc8 => ?_)
  have f0 := fri_tr (S := S2) g0 f0 fc8 (by decide) (by decide)
  have o_v0 := gr_ob g7 o_v0
  have o_v1 := gr_ob g7 o_v1
  have o_v2 := gr_ob g7 o_v2
  have o_v4 := gr_ob g7 o_v4
  have g0 := gr_tr (T := S2) g0 g7
  intro _
  exact hq _ _ hI g0 f0
set_option maxHeartbeats 4000000 in
set_option maxRecDepth 20000 in
theorem m_X1_wetInLee {v0 : Nat} {v1 : Nat} {v2 : Nat} {Q : Int64 → HS → Prop} {S : HS} (hI : IV S) (o_v0 : ob S v0 1) (o_v1 : ob S v1 6) (o_v2 : ob S v2 6)     (hq : ∀ (r : Int64) (T : HS), IV T → Gr S T → FRI [] [] S T → Q r T) : P_X1_wetInLee v0 v1 v2 Q S := by
  have g0 := gr_rf S
  have f0 := fri_rf [] [] S
  refine u_X1_wetInLee ?_
  refine u_X1_wetInLee_0 ?_
  refine ⟨o_v2, ?_⟩
  intro x1 ex1
  have d_x1 := ex1
  refine ⟨o_v0, ?_⟩
  refine m_X1_soak hI o_v0 o_v1 (fun x2 S3 hI g4 fc5 => ?_)
  have d_x1 := d_x1.trans (fri_at fc5 (by decide) (by decide) o_v2).symm
  have f0 := fri_tr (S := S) g0 f0 fc5 (by decide) (by decide)
  have o_v0 := gr_ob g4 o_v0
  have o_v1 := gr_ob g4 o_v1
  have o_v2 := gr_ob g4 o_v2
  have g0 := gr_tr (T := S) g0 g4
  intro _
  refine ⟨o_v1, ?_⟩
  intro x6 ex6
  have d_x6 := ex6
  refine m_X1_soak hI o_v0 o_v2 (fun x7 S8 hI g9 fc10 => ?_)
  have d_x1 := d_x1.trans (fri_at fc10 (by decide) (by decide) o_v2).symm
  have d_x6 := d_x6.trans (fri_at fc10 (by decide) (by decide) o_v1).symm
  have f0 := fri_tr (S := S3) g0 f0 fc10 (by decide) (by decide)
  have o_v0 := gr_ob g9 o_v0
  have o_v1 := gr_ob g9 o_v1
  have o_v2 := gr_ob g9 o_v2
  have g0 := gr_tr (T := S3) g0 g9
  intro _
  exact hq _ _ hI g0 f0
set_option maxHeartbeats 4000000 in
set_option maxRecDepth 20000 in
theorem m_X1_worstSpeed {v0 : Nat} {v1 : Nat} {v2 : Nat} {v3 : Int32} {v4 : Nat} {Q : Int32 → HS → Prop} {S : HS} (hI : IV S) (o_v0 : ob S v0 1) (o_v1 : ob S v1 6) (o_v2 : ob S v2 5) (o_v4 : ob S v4 3)     (hq : ∀ (r : Int32) (T : HS), IV T → Gr S T → FRI [] [] S T → Q r T) : P_X1_worstSpeed v0 v1 v2 v3 v4 Q S := by
  have g0 := gr_rf S
  have f0 := fri_rf [] [] S
  refine u_X1_worstSpeed ?_
  refine u_X1_worstSpeed_0 ?_
  refine ⟨o_v1, ?_⟩
  intro x1 ex1
  have r_x1 : (0 : Int32) ≤ x1 ∧ x1 ≤ (9 : Int32) := by rw [ex1]; exact nu 4 rfl hI o_v1
  have d_x1 := ex1
  intro x2 ex2
  have r_x2 : (0 : Int32) ≤ x2 ∧ x2 ≤ (9 : Int32) := by rw [ex2]; exact nu 4 rfl hI o_v1
  have q_x2 : x2 = x1 := ex2.trans d_x1.symm
  have d_x2 := ex2
  refine i_X1_worstSpeed_17 (fun (y0 : Nat) (y1 : Nat) (y2 : Nat) (y3 : Int32) (y4 : Nat) (y5 : Int32) (y6 : Int64) (y8 : Int32) (Z : HS) => ((2147483647 : Int32).toInt - y8.toInt).toNat) (fun (y0 : Nat) (y1 : Nat) (y2 : Nat) (y3 : Int32) (y4 : Nat) (y5 : Int32) (y6 : Int64) (y8 : Int32) (Z : HS) => (IV Z) ∧ (Gr S Z) ∧ (FRI [] [] S Z) ∧ (v0 = y0) ∧ (v1 = y1) ∧ (v2 = y2) ∧ (v3 = y3) ∧ (v4 = y4)) ?_ _ _ _ _ _ _ _ _ _ ⟨hI, (gr_rf _), (fri_rf _ _ _), rfl, rfl, rfl, rfl, rfl⟩
  intro w6 w8 w10 w12 w14 w16 w17 w18 S3 X19 ⟨hI, gL4, fL5, q7, q9, q11, q13, q15⟩ ih20
  subst q7
  subst q9
  subst q11
  subst q13
  subst q15
  have d_x2 := d_x2.trans (fri_at fL5 (by decide) (by decide) o_v1).symm
  have f0 := fri_tr (S := S) g0 f0 fL5 (by decide) (by decide)
  have o_v0 := gr_ob gL4 o_v0
  have o_v1 := gr_ob gL4 o_v1
  have o_v2 := gr_ob gL4 o_v2
  have o_v4 := gr_ob gL4 o_v4
  have g0 := gr_tr (T := S) g0 gL4
  refine u_X1_worstSpeed_17 ?_
  refine ⟨o_v1, ?_⟩
  intro x21 ex21
  have r_x21 : (0 : Int32) ≤ x21 ∧ x21 ≤ (9 : Int32) := by rw [ex21]; exact nu 5 rfl hI o_v1
  have d_x21 := ex21
  refine ⟨fun c22 => ?_, fun c22 => ?_⟩
  · exact hq _ _ hI g0 f0
  · refine ⟨o_v0, ?_⟩
    refine m_X1_wetOf hI o_v0 o_v1 o_v2 o_v4 (fun x23 S24 hI g25 fc26 => ?_)
    have d_x2 := d_x2.trans (fri_at fc26 (by decide) (by decide) o_v1).symm
    have d_x21 := d_x21.trans (fri_at fc26 (by decide) (by decide) o_v1).symm
    have f0 := fri_tr (S := S3) g0 f0 fc26 (by decide) (by decide)
    have fL5 := fri_tr (S := S3) gL4 fL5 fc26 (by decide) (by decide)
    have o_v0 := gr_ob g25 o_v0
    have o_v1 := gr_ob g25 o_v1
    have o_v2 := gr_ob g25 o_v2
    have o_v4 := gr_ob g25 o_v4
    have g0 := gr_tr (T := S3) g0 g25
    have gL4 := gr_tr (T := S3) gL4 g25
    intro _
    refine ⟨fun c27 => ?_, fun c27 => ?_⟩
    · refine u_X1_worstSpeed_55 ?_
      intro x28 ex28
      exact ih20 _ _ _ _ _ _ _ _ _ ⟨hI, gL4, fL5, rfl, rfl, rfl, rfl, rfl⟩ (mu_up (q31 r_x21 c22 c27 ex28) (q32 r_x21 c22 c27 ex28))
    · refine u_X1_worstSpeed_55 ?_
      intro x29 ex29
      exact ih20 _ _ _ _ _ _ _ _ _ ⟨hI, gL4, fL5, rfl, rfl, rfl, rfl, rfl⟩ (mu_up (q33 r_x21 c22 c27 ex29) (q34 r_x21 c22 c27 ex29))
set_option maxHeartbeats 4000000 in
set_option maxRecDepth 20000 in
theorem m_X2_addFaces {v0 : Nat} {v1 : Nat} {Q : HS → Prop} {S : HS} (hI : IV S) (o_v0 : ob S v0 2) (o_v1 : ob S v1 14) (l_v1 : hN S v1 = 5)    (hq : ∀ (T : HS), IV T → Gr S T → FRI [] [] S T → Q T) : P_X2_addFaces v0 v1 Q S := by
  have g0 := gr_rf S
  have f0 := fri_rf [] [] S
  refine u_X2_addFaces ?_
  refine u_X2_addFaces_0 ?_
  refine i_X2_addFaces_2 (fun (y0 : Nat) (y1 : Nat) (y2 : Int32) (Z : HS) => ((2147483647 : Int32).toInt - y2.toInt).toNat) (fun (y0 : Nat) (y1 : Nat) (y2 : Int32) (Z : HS) => (IV Z) ∧ (Gr S Z) ∧ (FRI [] [] S Z) ∧ (v0 = y0) ∧ (v1 = y1) ∧ (0 ≤ y2)) ?_ _ _ _ _ ⟨hI, (gr_rf _), (fri_rf _ _ _), rfl, rfl, (q82)⟩
  intro w4 w6 w8 S1 X9 ⟨hI, gL2, fL3, q5, q7, i1⟩ ih10
  subst q5
  subst q7
  have l_v1 := (gr_len gL2 o_v1).trans l_v1
  have f0 := fri_tr (S := S) g0 f0 fL3 (by decide) (by decide)
  have o_v0 := gr_ob gL2 o_v0
  have o_v1 := gr_ob gL2 o_v1
  have g0 := gr_tr (T := S) g0 gL2
  refine u_X2_addFaces_2 ?_
  refine ⟨fun c11 => ?_, fun c11 => ?_⟩
  · exact hq _ hI g0 f0
  · refine ⟨o_v1, ?_⟩
    have n_v1 : nI (hN S1 v1) = 5 := by rw [show hN S1 v1 = 5 from l_v1]; decide
    refine ⟨fun c12 => ?_, fun c12 => ?_⟩
    · rw [n_v1] at c12
      exact hq _ hI g0 f0
    · rw [n_v1] at c12
      refine ⟨o_v0, ?_⟩
      obtain ⟨a13, ea13, o_a13, l_a13⟩ := shl 11 rfl hI o_v0
      refine ⟨a13, ea13, ?_⟩
      refine ⟨o_a13, ?_⟩
      refine ⟨(vin l_a13 (m := 5) (by decide) (q729 i1 c11 c12)), ?_⟩
      intro x14 ex14
      refine ⟨(vin l_v1 (m := 5) (by decide) (q729 i1 c11 c12)), ?_⟩
      intro x15 ex15
      intro x16 ex16
      have i17 : vp_in w8 (hN _ a13) := (vin l_a13 (m := 5) (by decide) (q729 i1 c11 c12))
      refine ⟨i17, ?_⟩
      have hI := iv_aJ (i := w8.toNatClampNeg) (v := x16) hI o_v0 (by decide) ea13 o_a13 (by decide)
      intro x18 ex18
      exact ih10 _ _ _ _ ⟨hI, gL2, fL3, rfl, rfl, (q730 i1 c11 c12 ex18)⟩ (mu_up (q731 i1 c11 c12 ex18) (q732 i1 c11 c12 ex18))
set_option maxHeartbeats 4000000 in
set_option maxRecDepth 20000 in
theorem m_X2_allGot {v0 : Nat} {Q : Int64 → HS → Prop} {S : HS} (hI : IV S) (o_v0 : ob S v0 2)     (hq : ∀ (r : Int64) (T : HS), IV T → Gr S T → (S = T) → Q r T) : P_X2_allGot v0 Q S := by
  have g0 := gr_rf S
  refine u_X2_allGot ?_
  refine u_X2_allGot_0 ?_
  refine i_X2_allGot_4 (fun (y0 : Nat) (y1 : Int64) (y3 : Int32) (Z : HS) => ((2147483647 : Int32).toInt - y3.toInt).toNat) (fun (y0 : Nat) (y1 : Int64) (y3 : Int32) (Z : HS) => (S = Z) ∧ (v0 = y0) ∧ (0 ≤ y3)) ?_ _ _ _ _ ⟨rfl, rfl, (q82)⟩
  intro w4 w6 w7 S1 X8 ⟨eS1, q5, i1⟩ ih9
  subst q5
  subst eS1
  refine u_X2_allGot_4 ?_
  refine ⟨fun c10 => ?_, fun c10 => ?_⟩
  · exact hq _ _ hI g0 rfl
  · refine ⟨o_v0, ?_⟩
    obtain ⟨a11, ea11, o_a11, l_a11⟩ := shl 11 rfl hI o_v0
    refine ⟨a11, ea11, ?_⟩
    refine ⟨o_a11, ?_⟩
    refine ⟨(vin l_a11 (m := 5) (by decide) (q86 i1 c10)), ?_⟩
    intro x12 ex12
    intro x13 ex13
    intro x14 ex14
    exact ih9 _ _ _ _ ⟨rfl, rfl, (q87 i1 c10 ex14)⟩ (mu_up (q88 i1 c10 ex14) (q89 i1 c10 ex14))
set_option maxHeartbeats 4000000 in
set_option maxRecDepth 20000 in
theorem m_X4_fail {v0 : Nat} {v1 : Int32} {Q : Int32 → HS → Prop} {S : HS} (hI : IV S) (o_v0 : ob S v0 4)    (hT : TX S v0) (hq : ∀ (r : Int32) (T : HS), IV T → Gr S T → FRI [(4, 0), (4, 1)] [] S T → bl r → (TX T v0) → Q r T) : P_X4_fail v0 v1 Q S := by
  have g0 := gr_rf S
  have f0 := fri_rf [(4, 0), (4, 1)] [] S
  refine u_X4_fail ?_
  refine u_X4_fail_0 ?_
  refine ⟨o_v0, ?_⟩
  have hI := iv_sI (j := 0) (v := v1) hI o_v0 (by decide) (nu_free (by decide))
  have f0 : FRI _ _ _ (sI S v0 0 v1) := fri_sI (S := S) g0 f0 o_v0 (by decide)
  have d_v1 : v1 = fI (sI S v0 0 v1) v0 0 := (u2_self _ _ _ _).symm
  intro x1 ex1
  have d_x1 := ex1
  have hI := iv_sI (j := 1) (v := x1) hI o_v0 (by decide) (nu_free (by decide))
  have f0 : FRI _ _ _ (sI (sI S v0 0 v1) v0 1 x1) := fri_sI (S := sI S v0 0 v1) g0 f0 o_v0 (by decide)
  have d_v1 : v1 = fI (sI (sI S v0 0 v1) v0 1 x1) v0 0 := d_v1.trans (rd_j (by decide)).symm
  have d_x1 : x1 = fI (sI (sI S v0 0 v1) v0 1 x1) v0 7 := d_x1.trans (rd_j (by decide)).symm
  have d_x1 : x1 = fI (sI (sI S v0 0 v1) v0 1 x1) v0 1 := (u2_self _ _ _ _).symm
  exact hq _ _ hI g0 f0 (Or.inl rfl) hT
set_option maxHeartbeats 4000000 in
set_option maxRecDepth 20000 in
theorem m_X4_sortAt {v0 : Nat} {v1 : Int32} {Q : Int32 → HS → Prop} {S : HS} (hI : IV S) (o_v0 : ob S v0 4)    (hT : TX S v0) (hq : ∀ (r : Int32) (T : HS), IV T → Gr S T → (S = T) ∧ (r = 0 ∨ (0 ≤ v1 ∧ v1 < 900)) → Q r T) : P_X4_sortAt v0 v1 Q S := by
  have g0 := gr_rf S
  refine u_X4_sortAt ?_
  refine u_X4_sortAt_0 ?_
  refine ⟨fun c1 => ?_, fun c1 => ?_⟩
  · exact hq _ _ hI g0 ⟨rfl, (q805 c1)⟩
  · refine ⟨o_v0, ?_⟩
    intro x2 ex2
    have r_x2 : (0 : Int32) ≤ x2 ∧ x2 ≤ (900 : Int32) := by rw [ex2]; exact nu 6 rfl hI o_v0
    have d_x2 := ex2
    refine ⟨fun c3 => ?_, fun c3 => ?_⟩
    · exact hq _ _ hI g0 ⟨rfl, (q806 c1 r_x2 c3)⟩
    · obtain ⟨a4, ea4, o_a4, l_a4⟩ := hT
      refine ⟨a4, ea4, ?_⟩
      refine ⟨o_a4, ?_⟩
      have n_a4 : nI (hN S a4) = 900 := by rw [show hN S a4 = 900 from l_a4]; decide
      refine ⟨fun c5 => ?_, fun c5 => ?_⟩
      · rw [n_a4] at c5
        refine ⟨a4, ea4, ?_⟩
        refine ⟨o_a4, ?_⟩
        refine ⟨(vin l_a4 (m := 900) (by decide) (q807 c1 r_x2 c3 c5)), ?_⟩
        intro x7 ex7
        refine ⟨fun c8 => ?_, fun c8 => ?_⟩
        · refine u_X4_sortAt_44 ?_
          refine ⟨fun c9 => ?_, fun c9 => ?_⟩
          · refine u_X4_sortAt_58 ?_
            refine ⟨fun c10 => ?_, fun c10 => ?_, fun c10 => ?_, fun c10 => ?_⟩
            · exact hq _ _ hI g0 ⟨rfl, (q808 c1 r_x2 c3 c5 c8 c9)⟩
            · exact hq _ _ hI g0 ⟨rfl, (q809 c1 r_x2 c3 c5 c8 c9)⟩
            · exact hq _ _ hI g0 ⟨rfl, (q810 c1 r_x2 c3 c5 c8 c9)⟩
            · exact hq _ _ hI g0 ⟨rfl, (q811 c1 r_x2 c3 c5 c8 c9)⟩
          · refine ⟨fun c11 => ?_, fun c11 => ?_⟩
            · refine u_X4_sortAt_58 ?_
              refine ⟨fun c12 => ?_, fun c12 => ?_, fun c12 => ?_, fun c12 => ?_⟩
              · exact hq _ _ hI g0 ⟨rfl, (q812 c1 r_x2 c3 c5 c8 c9 c11)⟩
              · exact hq _ _ hI g0 ⟨rfl, (q813 c1 r_x2 c3 c5 c8 c9 c11)⟩
              · exact hq _ _ hI g0 ⟨rfl, (q814 c1 r_x2 c3 c5 c8 c9 c11)⟩
              · exact hq _ _ hI g0 ⟨rfl, (q815 c1 r_x2 c3 c5 c8 c9 c11)⟩
            · exact hq _ _ hI g0 ⟨rfl, (q816 c1 r_x2 c3 c5 c8 c9 c11)⟩
        · refine ⟨fun c13 => ?_, fun c13 => ?_⟩
          · refine u_X4_sortAt_44 ?_
            refine ⟨fun c14 => ?_, fun c14 => ?_⟩
            · refine u_X4_sortAt_58 ?_
              refine ⟨fun c15 => ?_, fun c15 => ?_, fun c15 => ?_, fun c15 => ?_⟩
              · exact hq _ _ hI g0 ⟨rfl, (q817 c1 r_x2 c3 c5 c8 c13 c14)⟩
              · exact hq _ _ hI g0 ⟨rfl, (q818 c1 r_x2 c3 c5 c8 c13 c14)⟩
              · exact hq _ _ hI g0 ⟨rfl, (q819 c1 r_x2 c3 c5 c8 c13 c14)⟩
              · exact hq _ _ hI g0 ⟨rfl, (q820 c1 r_x2 c3 c5 c8 c13 c14)⟩
            · refine ⟨fun c16 => ?_, fun c16 => ?_⟩
              · refine u_X4_sortAt_58 ?_
                refine ⟨fun c17 => ?_, fun c17 => ?_, fun c17 => ?_, fun c17 => ?_⟩
                · exact hq _ _ hI g0 ⟨rfl, (q821 c1 r_x2 c3 c5 c8 c13 c14 c16)⟩
                · exact hq _ _ hI g0 ⟨rfl, (q822 c1 r_x2 c3 c5 c8 c13 c14 c16)⟩
                · exact hq _ _ hI g0 ⟨rfl, (q823 c1 r_x2 c3 c5 c8 c13 c14 c16)⟩
                · exact hq _ _ hI g0 ⟨rfl, (q824 c1 r_x2 c3 c5 c8 c13 c14 c16)⟩
              · exact hq _ _ hI g0 ⟨rfl, (q825 c1 r_x2 c3 c5 c8 c13 c14 c16)⟩
          · exact hq _ _ hI g0 ⟨rfl, (q826 c1 r_x2 c3 c5 c8 c13)⟩
      · rw [n_a4] at c5
        exact hq _ _ hI g0 ⟨rfl, (q827 c1 r_x2 c3 c5)⟩
set_option maxHeartbeats 4000000 in
set_option maxRecDepth 20000 in
theorem m_X4_next {v0 : Nat} {Q : HS → Prop} {S : HS} (hI : IV S) (o_v0 : ob S v0 4)    (hT : TX S v0) (hq : ∀ (T : HS), IV T → Gr S T → FRI [(4, 4), (4, 6), (4, 7)] [] S T → (TX T v0) → Q T) : P_X4_next v0 Q S := sorry
set_option maxHeartbeats 4000000 in
set_option maxRecDepth 20000 in
theorem m_X4_whole {v0 : Nat} {v1 : Int32} {v2 : Int32} {Q : Int32 → HS → Prop} {S : HS} (hI : IV S) (o_v0 : ob S v0 4)    (hT : TX S v0) (hq : ∀ (r : Int32) (T : HS), IV T → Gr S T → FRI [(4, 0), (4, 1), (4, 4), (4, 6), (4, 7), (4, 9)] [] S T → bl r → (TX T v0) ∧ (r = 1 → v1 ≤ fI T v0 9 ∧ fI T v0 9 ≤ v2) → Q r T) : P_X4_whole v0 v1 v2 Q S := by
  have g0 := gr_rf S
  have f0 := fri_rf [(4, 0), (4, 1), (4, 4), (4, 6), (4, 7), (4, 9)] [] S
  refine u_X4_whole ?_
  refine u_X4_whole_0 ?_
  refine ⟨o_v0, ?_⟩
  intro x1 ex1
  have d_x1 := ex1
  refine ⟨fun c2 => ?_, fun c2 => ?_⟩
  · intro x3 ex3
    have dj_x3 := ex3
    refine ⟨fun c4 => ?_, fun c4 => ?_⟩
    · refine u_X4_whole_34 ?_
      refine ⟨o_v0, ?_⟩
      refine u_X4_fail ?_
      refine u_X4_fail_0 ?_
      refine ⟨o_v0, ?_⟩
      have hI := iv_sI (j := 0) (v := (4 : Int32)) hI o_v0 (by decide) (nu_free (by decide))
      have f0 : FRI _ _ _ (sI S v0 0 (4 : Int32)) := fri_sI (S := S) g0 f0 o_v0 (by decide)
      have d_x1 : x1 = fI (sI S v0 0 (4 : Int32)) v0 6 := d_x1.trans (rd_j (by decide)).symm
      obtain ⟨y5, hy5⟩ : ∃ z : Int32, z = (4 : Int32) := ⟨_, rfl⟩
      have d_y5 : y5 = fI (sI S v0 0 (4 : Int32)) v0 0 := hy5.trans (u2_self _ _ _ _).symm
      intro x6 ex6
      have d_x6 := ex6
      have hI := iv_sI (j := 1) (v := x6) hI o_v0 (by decide) (nu_free (by decide))
      have f0 : FRI _ _ _ (sI (sI S v0 0 (4 : Int32)) v0 1 x6) := fri_sI (S := sI S v0 0 (4 : Int32)) g0 f0 o_v0 (by decide)
      have d_x1 : x1 = fI (sI (sI S v0 0 (4 : Int32)) v0 1 x6) v0 6 := d_x1.trans (rd_j (by decide)).symm
      have d_y5 : y5 = fI (sI (sI S v0 0 (4 : Int32)) v0 1 x6) v0 0 := d_y5.trans (rd_j (by decide)).symm
      have d_x6 : x6 = fI (sI (sI S v0 0 (4 : Int32)) v0 1 x6) v0 7 := d_x6.trans (rd_j (by decide)).symm
      have d_x6 : x6 = fI (sI (sI S v0 0 (4 : Int32)) v0 1 x6) v0 1 := (u2_self _ _ _ _).symm
      intro _ _
      obtain ⟨y7, d_y7⟩ : ∃ z : Int32, z = fI (sI (sI S v0 0 (4 : Int32)) v0 1 x6) v0 9 := ⟨_, rfl⟩
      exact hq _ _ hI g0 f0 (Or.inl rfl) ⟨hT, (by rw [← d_y7]; exact (q786 c2 c4))⟩
    · intro x8 ex8
      have q_x8 : x8 = x3 := ex8.trans dj_x3.symm
      have dj_x8 := ex8
      refine ⟨fun c9 => ?_, fun c9 => ?_⟩
      · intro x10 ex10
        have q_x10 : x10 = x8 := ex10.trans dj_x8.symm
        have dj_x10 := ex10
        intro x11 ex11
        have hI := iv_sI (j := 9) (v := x11) hI o_v0 (by decide) (nu_free (by decide))
        have f0 : FRI _ _ _ (sI S v0 9 x11) := fri_sI (S := S) g0 f0 o_v0 (by decide)
        have d_x1 : x1 = fI (sI S v0 9 x11) v0 6 := d_x1.trans (rd_j (by decide)).symm
        have d_x11 : x11 = fI (sI S v0 9 x11) v0 9 := (u2_self _ _ _ _).symm
        refine m_X4_next hI o_v0 hT (fun S13 hI g14 fc15 p_S13 => ?_)
        obtain hT := p_S13
        have d_x11 := d_x11.trans (fri_at fc15 (by decide) (by decide) o_v0).symm
        have f0 := fri_tr (S := sI S v0 9 x11) g0 f0 fc15 (by decide) (by decide)
        have o_v0 := gr_ob g14 o_v0
        have g0 := gr_tr (T := sI S v0 9 x11) g0 g14
        intro _
        exact hq _ _ hI g0 f0 (Or.inr rfl) ⟨hT, (by rw [← d_x11]; exact (fun _ => by have a := lc_ge c4; have b := lc_le c9; simp only [q_x8, q_x10, ex11] at *; exact i64_rng a b))⟩
      · refine u_X4_whole_34 ?_
        refine ⟨o_v0, ?_⟩
        refine u_X4_fail ?_
        refine u_X4_fail_0 ?_
        refine ⟨o_v0, ?_⟩
        have hI := iv_sI (j := 0) (v := (4 : Int32)) hI o_v0 (by decide) (nu_free (by decide))
        have f0 : FRI _ _ _ (sI S v0 0 (4 : Int32)) := fri_sI (S := S) g0 f0 o_v0 (by decide)
        have d_x1 : x1 = fI (sI S v0 0 (4 : Int32)) v0 6 := d_x1.trans (rd_j (by decide)).symm
        obtain ⟨y16, hy16⟩ : ∃ z : Int32, z = (4 : Int32) := ⟨_, rfl⟩
        have d_y16 : y16 = fI (sI S v0 0 (4 : Int32)) v0 0 := hy16.trans (u2_self _ _ _ _).symm
        intro x17 ex17
        have d_x17 := ex17
        have hI := iv_sI (j := 1) (v := x17) hI o_v0 (by decide) (nu_free (by decide))
        have f0 : FRI _ _ _ (sI (sI S v0 0 (4 : Int32)) v0 1 x17) := fri_sI (S := sI S v0 0 (4 : Int32)) g0 f0 o_v0 (by decide)
        have d_x1 : x1 = fI (sI (sI S v0 0 (4 : Int32)) v0 1 x17) v0 6 := d_x1.trans (rd_j (by decide)).symm
        have d_y16 : y16 = fI (sI (sI S v0 0 (4 : Int32)) v0 1 x17) v0 0 := d_y16.trans (rd_j (by decide)).symm
        have d_x17 : x17 = fI (sI (sI S v0 0 (4 : Int32)) v0 1 x17) v0 7 := d_x17.trans (rd_j (by decide)).symm
        have d_x17 : x17 = fI (sI (sI S v0 0 (4 : Int32)) v0 1 x17) v0 1 := (u2_self _ _ _ _).symm
        intro _ _
        obtain ⟨y18, d_y18⟩ : ∃ z : Int32, z = fI (sI (sI S v0 0 (4 : Int32)) v0 1 x17) v0 9 := ⟨_, rfl⟩
        exact hq _ _ hI g0 f0 (Or.inl rfl) ⟨hT, (by rw [← d_y18]; exact (q787 c2 c4 q_x8 c9))⟩
  · refine u_X4_fail ?_
    refine u_X4_fail_0 ?_
    refine ⟨o_v0, ?_⟩
    have hI := iv_sI (j := 0) (v := (1 : Int32)) hI o_v0 (by decide) (nu_free (by decide))
    have f0 : FRI _ _ _ (sI S v0 0 (1 : Int32)) := fri_sI (S := S) g0 f0 o_v0 (by decide)
    have d_x1 : x1 = fI (sI S v0 0 (1 : Int32)) v0 6 := d_x1.trans (rd_j (by decide)).symm
    obtain ⟨y19, hy19⟩ : ∃ z : Int32, z = (1 : Int32) := ⟨_, rfl⟩
    have d_y19 : y19 = fI (sI S v0 0 (1 : Int32)) v0 0 := hy19.trans (u2_self _ _ _ _).symm
    intro x20 ex20
    have d_x20 := ex20
    have hI := iv_sI (j := 1) (v := x20) hI o_v0 (by decide) (nu_free (by decide))
    have f0 : FRI _ _ _ (sI (sI S v0 0 (1 : Int32)) v0 1 x20) := fri_sI (S := sI S v0 0 (1 : Int32)) g0 f0 o_v0 (by decide)
    have d_x1 : x1 = fI (sI (sI S v0 0 (1 : Int32)) v0 1 x20) v0 6 := d_x1.trans (rd_j (by decide)).symm
    have d_y19 : y19 = fI (sI (sI S v0 0 (1 : Int32)) v0 1 x20) v0 0 := d_y19.trans (rd_j (by decide)).symm
    have d_x20 : x20 = fI (sI (sI S v0 0 (1 : Int32)) v0 1 x20) v0 7 := d_x20.trans (rd_j (by decide)).symm
    have d_x20 : x20 = fI (sI (sI S v0 0 (1 : Int32)) v0 1 x20) v0 1 := (u2_self _ _ _ _).symm
    intro _ _
    obtain ⟨y21, d_y21⟩ : ∃ z : Int32, z = fI (sI (sI S v0 0 (1 : Int32)) v0 1 x20) v0 9 := ⟨_, rfl⟩
    exact hq _ _ hI g0 f0 (Or.inl rfl) ⟨hT, (by rw [← d_y21]; exact (q788 c2))⟩
set_option maxHeartbeats 4000000 in
set_option maxRecDepth 20000 in
theorem m_X4_is {v0 : Nat} {v1 : Nat} {Q : Int32 → HS → Prop} {S : HS} (hI : IV S) (o_v0 : ob S v0 4)  (hw_v1 : v1 < 54)  (hT : TX S v0) (hq : ∀ (r : Int32) (T : HS), IV T → Gr S T → bl r → (S = T) → Q r T) : P_X4_is v0 v1 Q S := by
  have g0 := gr_rf S
  refine u_X4_is ?_
  refine u_X4_is_0 ?_
  refine ⟨o_v0, ?_⟩
  intro x1 ex1
  have d_x1 := ex1
  refine ⟨fun c2 => ?_, fun c2 => ?_⟩
  · refine i_X4_is_15 (fun (y0 : Nat) (y1 : Nat) (y2 : Int64) (y4 : Int32) (Z : HS) => ((2147483647 : Int32).toInt - y4.toInt).toNat) (fun (y0 : Nat) (y1 : Nat) (y2 : Int64) (y4 : Int32) (Z : HS) => (S = Z) ∧ (v0 = y0) ∧ (v1 = y1) ∧ (0 ≤ y4)) ?_ _ _ _ _ _ ⟨rfl, rfl, rfl, (q789 c2)⟩
    intro w6 w8 w10 w11 S3 X12 ⟨eS3, q7, q9, i1⟩ ih13
    subst q7
    subst q9
    subst eS3
    refine u_X4_is_15 ?_
    refine ⟨hw_v1, ?_⟩
    intro x14 ex14
    refine ⟨fun c15 => ?_, fun c15 => ?_⟩
    · refine ⟨o_v0, ?_⟩
      intro x16 ex16
      have dj_x16 := ex16
      refine ⟨fun c17 => ?_, fun c17 => ?_⟩
      · exact hq _ _ hI g0 (Or.inl rfl) rfl
      · exact hq _ _ hI g0 (Or.inr rfl) rfl
    · refine ⟨hw_v1, sorry, ?_⟩
      intro x18 ex18
      intro x19 ex19
      intro x20 ex20
      exact ih13 _ _ _ _ _ ⟨rfl, rfl, rfl, (q790 c2 i1 c15 ex20)⟩ (mu_up (q791 c2 i1 c15 ex20) (q792 c2 i1 c15 ex20))
  · exact hq _ _ hI g0 (Or.inl rfl) rfl
set_option maxHeartbeats 4000000 in
set_option maxRecDepth 20000 in
theorem m_X4_word {v0 : Nat} {v1 : Nat} {Q : Int32 → HS → Prop} {S : HS} (hI : IV S) (o_v0 : ob S v0 4)  (hw_v1 : v1 < 54)  (hT : TX S v0) (hq : ∀ (r : Int32) (T : HS), IV T → Gr S T → FRI [(4, 0), (4, 1), (4, 4), (4, 6), (4, 7)] [] S T → bl r → (TX T v0) → Q r T) : P_X4_word v0 v1 Q S := by
  have g0 := gr_rf S
  have f0 := fri_rf [(4, 0), (4, 1), (4, 4), (4, 6), (4, 7)] [] S
  refine u_X4_word ?_
  refine u_X4_word_0 ?_
  refine ⟨o_v0, ?_⟩
  refine m_X4_is hI o_v0 hw_v1 hT (fun x1 S2 hI2 g3 b_x1 p_x1 => ?_)
  subst p_x1
  intro _ _
  have bb_x1 : x1 = 0 ∨ x1 = 1 := b_x1
  refine ⟨fun c5 => ?_, fun c5 => ?_⟩
  · refine m_X4_next hI o_v0 hT (fun S7 hI g8 fc9 p_S7 => ?_)
    obtain hT := p_S7
    have f0 := fri_tr (S := S) g0 f0 fc9 (by decide) (by decide)
    have o_v0 := gr_ob g8 o_v0
    have g0 := gr_tr (T := S) g0 g8
    intro _
    exact hq _ _ hI g0 f0 (Or.inr rfl) hT
  · refine u_X4_fail ?_
    refine u_X4_fail_0 ?_
    refine ⟨o_v0, ?_⟩
    have hI := iv_sI (j := 0) (v := (1 : Int32)) hI o_v0 (by decide) (nu_free (by decide))
    have f0 : FRI _ _ _ (sI S v0 0 (1 : Int32)) := fri_sI (S := S) g0 f0 o_v0 (by decide)
    obtain ⟨y10, hy10⟩ : ∃ z : Int32, z = (1 : Int32) := ⟨_, rfl⟩
    have d_y10 : y10 = fI (sI S v0 0 (1 : Int32)) v0 0 := hy10.trans (u2_self _ _ _ _).symm
    intro x11 ex11
    have d_x11 := ex11
    have hI := iv_sI (j := 1) (v := x11) hI o_v0 (by decide) (nu_free (by decide))
    have f0 : FRI _ _ _ (sI (sI S v0 0 (1 : Int32)) v0 1 x11) := fri_sI (S := sI S v0 0 (1 : Int32)) g0 f0 o_v0 (by decide)
    have d_y10 : y10 = fI (sI (sI S v0 0 (1 : Int32)) v0 1 x11) v0 0 := d_y10.trans (rd_j (by decide)).symm
    have d_x11 : x11 = fI (sI (sI S v0 0 (1 : Int32)) v0 1 x11) v0 7 := d_x11.trans (rd_j (by decide)).symm
    have d_x11 : x11 = fI (sI (sI S v0 0 (1 : Int32)) v0 1 x11) v0 1 := (u2_self _ _ _ _).symm
    intro _ _
    exact hq _ _ hI g0 f0 (Or.inl rfl) hT
set_option maxHeartbeats 4000000 in
set_option maxRecDepth 20000 in
theorem m_X4_wordAndWhole {v0 : Nat} {v1 : Nat} {v2 : Int32} {v3 : Int32} {Q : Int32 → HS → Prop} {S : HS} (hI : IV S) (o_v0 : ob S v0 4)  (hw_v1 : v1 < 54)  (hT : TX S v0) (hq : ∀ (r : Int32) (T : HS), IV T → Gr S T → FRI [(4, 0), (4, 1), (4, 4), (4, 6), (4, 7), (4, 9)] [] S T → bl r → (TX T v0) ∧ (r = 1 → v2 ≤ fI T v0 9 ∧ fI T v0 9 ≤ v3) → Q r T) : P_X4_wordAndWhole v0 v1 v2 v3 Q S := by
  have g0 := gr_rf S
  have f0 := fri_rf [(4, 0), (4, 1), (4, 4), (4, 6), (4, 7), (4, 9)] [] S
  refine u_X4_wordAndWhole ?_
  refine u_X4_wordAndWhole_0 ?_
  refine ⟨o_v0, ?_⟩
  refine m_X4_word hI o_v0 hw_v1 hT (fun x1 S2 hI g3 fc4 b_x1 p_x1 => ?_)
  obtain hT := p_x1
  have f0 := fri_tr (S := S) g0 f0 fc4 (by decide) (by decide)
  have o_v0 := gr_ob g3 o_v0
  have g0 := gr_tr (T := S) g0 g3
  intro _ _
  have bb_x1 : x1 = 0 ∨ x1 = 1 := b_x1
  refine ⟨fun c5 => ?_, fun c5 => ?_⟩
  · obtain ⟨y6, d_y6⟩ : ∃ z : Int32, z = fI S2 v0 9 := ⟨_, rfl⟩
    exact hq _ _ hI g0 f0 (Or.inl rfl) ⟨hT, (by rw [← d_y6]; exact (q783 bb_x1 c5))⟩
  · refine m_X4_whole hI o_v0 hT (fun x7 S8 hI g9 fc10 b_x7 p_x7 => ?_)
    obtain ⟨hT, pf9_S8⟩ := p_x7
    have f0 := fri_tr (S := S2) g0 f0 fc10 (by decide) (by decide)
    have o_v0 := gr_ob g9 o_v0
    have g0 := gr_tr (T := S2) g0 g9
    obtain ⟨y11, d_y11⟩ : ∃ z : Int32, z = fI S8 v0 9 := ⟨_, rfl⟩
    have p_y11 : x7 = 1 → v2 ≤ y11 ∧ y11 ≤ v3 := by rw [d_y11]; exact pf9_S8
    intro _ _
    have bb_x7 : x7 = 0 ∨ x7 = 1 := b_x7
    refine ⟨fun c12 => ?_, fun c12 => ?_⟩
    · exact hq _ _ hI g0 f0 (Or.inl rfl) ⟨hT, (by rw [← d_y11]; exact (q784 bb_x1 c5 p_y11 bb_x7 c12))⟩
    · exact hq _ _ hI g0 f0 (Or.inr rfl) ⟨hT, (by rw [← d_y11]; exact (q785 bb_x1 c5 p_y11 bb_x7 c12))⟩
set_option maxHeartbeats 4000000 in
set_option maxRecDepth 20000 in
theorem m_X6_shape {v0 : Nat} {v1 : Int32} {v2 : Int32} {v3 : Int32} {Q : HS → Prop} {S : HS} (hI : IV S) (o_v0 : ob S v0 6)     (hq : ∀ (T : HS), IV T → Gr S T → FRI [(6, 2), (6, 3), (6, 4)] [] S T → Q T) : P_X6_shape v0 v1 v2 v3 Q S := by
  have g0 := gr_rf S
  have f0 := fri_rf [(6, 2), (6, 3), (6, 4)] [] S
  refine u_X6_shape ?_
  refine u_X6_shape_0 ?_
  refine ⟨o_v0, ?_⟩
  intro x1 ex1
  have d_x1 := ex1
  refine ⟨fun c2 => ?_, fun c2 => ?_⟩
  · refine u_X6_shape_16 ?_
    refine ⟨o_v0, ?_⟩
    intro x3 ex3
    have hI := iv_sI (j := 2) (v := x3) hI o_v0 (by decide) (nu_free (by decide))
    have f0 : FRI _ _ _ (sI S v0 2 x3) := fri_sI (S := S) g0 f0 o_v0 (by decide)
    have d_x1 : x1 = fI (sI S v0 2 x3) v0 0 := d_x1.trans (rd_j (by decide)).symm
    have d_x3 : x3 = fI (sI S v0 2 x3) v0 2 := (u2_self _ _ _ _).symm
    intro x4 ex4
    have hI := iv_sI (j := 3) (v := x4) hI o_v0 (by decide) (nu_free (by decide))
    have f0 : FRI _ _ _ (sI (sI S v0 2 x3) v0 3 x4) := fri_sI (S := sI S v0 2 x3) g0 f0 o_v0 (by decide)
    have d_x1 : x1 = fI (sI (sI S v0 2 x3) v0 3 x4) v0 0 := d_x1.trans (rd_j (by decide)).symm
    have d_x3 : x3 = fI (sI (sI S v0 2 x3) v0 3 x4) v0 2 := d_x3.trans (rd_j (by decide)).symm
    have d_x4 : x4 = fI (sI (sI S v0 2 x3) v0 3 x4) v0 3 := (u2_self _ _ _ _).symm
    intro x5 ex5
    have hI := iv_sI (j := 4) (v := x5) hI o_v0 (by decide) (nu_free (by decide))
    have f0 : FRI _ _ _ (sI (sI (sI S v0 2 x3) v0 3 x4) v0 4 x5) := fri_sI (S := sI (sI S v0 2 x3) v0 3 x4) g0 f0 o_v0 (by decide)
    have d_x1 : x1 = fI (sI (sI (sI S v0 2 x3) v0 3 x4) v0 4 x5) v0 0 := d_x1.trans (rd_j (by decide)).symm
    have d_x3 : x3 = fI (sI (sI (sI S v0 2 x3) v0 3 x4) v0 4 x5) v0 2 := d_x3.trans (rd_j (by decide)).symm
    have d_x4 : x4 = fI (sI (sI (sI S v0 2 x3) v0 3 x4) v0 4 x5) v0 3 := d_x4.trans (rd_j (by decide)).symm
    have d_x5 : x5 = fI (sI (sI (sI S v0 2 x3) v0 3 x4) v0 4 x5) v0 4 := (u2_self _ _ _ _).symm
    exact hq _ hI g0 f0
  · intro x6 ex6
    have d_x6 := ex6
    refine u_X6_shape_16 ?_
    refine ⟨o_v0, ?_⟩
    intro x7 ex7
    have hI := iv_sI (j := 2) (v := x7) hI o_v0 (by decide) (nu_free (by decide))
    have f0 : FRI _ _ _ (sI S v0 2 x7) := fri_sI (S := S) g0 f0 o_v0 (by decide)
    have d_x1 : x1 = fI (sI S v0 2 x7) v0 0 := d_x1.trans (rd_j (by decide)).symm
    have d_x6 : x6 = fI (sI S v0 2 x7) v0 1 := d_x6.trans (rd_j (by decide)).symm
    have d_x7 : x7 = fI (sI S v0 2 x7) v0 2 := (u2_self _ _ _ _).symm
    intro x8 ex8
    have hI := iv_sI (j := 3) (v := x8) hI o_v0 (by decide) (nu_free (by decide))
    have f0 : FRI _ _ _ (sI (sI S v0 2 x7) v0 3 x8) := fri_sI (S := sI S v0 2 x7) g0 f0 o_v0 (by decide)
    have d_x1 : x1 = fI (sI (sI S v0 2 x7) v0 3 x8) v0 0 := d_x1.trans (rd_j (by decide)).symm
    have d_x6 : x6 = fI (sI (sI S v0 2 x7) v0 3 x8) v0 1 := d_x6.trans (rd_j (by decide)).symm
    have d_x7 : x7 = fI (sI (sI S v0 2 x7) v0 3 x8) v0 2 := d_x7.trans (rd_j (by decide)).symm
    have d_x8 : x8 = fI (sI (sI S v0 2 x7) v0 3 x8) v0 3 := (u2_self _ _ _ _).symm
    intro x9 ex9
    have hI := iv_sI (j := 4) (v := x9) hI o_v0 (by decide) (nu_free (by decide))
    have f0 : FRI _ _ _ (sI (sI (sI S v0 2 x7) v0 3 x8) v0 4 x9) := fri_sI (S := sI (sI S v0 2 x7) v0 3 x8) g0 f0 o_v0 (by decide)
    have d_x1 : x1 = fI (sI (sI (sI S v0 2 x7) v0 3 x8) v0 4 x9) v0 0 := d_x1.trans (rd_j (by decide)).symm
    have d_x6 : x6 = fI (sI (sI (sI S v0 2 x7) v0 3 x8) v0 4 x9) v0 1 := d_x6.trans (rd_j (by decide)).symm
    have d_x7 : x7 = fI (sI (sI (sI S v0 2 x7) v0 3 x8) v0 4 x9) v0 2 := d_x7.trans (rd_j (by decide)).symm
    have d_x8 : x8 = fI (sI (sI (sI S v0 2 x7) v0 3 x8) v0 4 x9) v0 3 := d_x8.trans (rd_j (by decide)).symm
    have d_x9 : x9 = fI (sI (sI (sI S v0 2 x7) v0 3 x8) v0 4 x9) v0 4 := (u2_self _ _ _ _).symm
    exact hq _ hI g0 f0
set_option maxHeartbeats 4000000 in
set_option maxRecDepth 20000 in
theorem m_X4_bodyOf {v0 : Nat} {v1 : Nat} {Q : Int32 → HS → Prop} {S : HS} (hI : IV S) (o_v0 : ob S v0 4) (o_v1 : ob S v1 6)    (hT : TX S v0) (hq : ∀ (r : Int32) (T : HS), IV T → Gr S T → FRI [(4, 0), (4, 1), (4, 4), (4, 6), (4, 7), (4, 9), (6, 2), (6, 3), (6, 4)] [] S T → bl r → (TX T v0) → Q r T) : P_X4_bodyOf v0 v1 Q S := by
  have g0 := gr_rf S
  have f0 := fri_rf [(4, 0), (4, 1), (4, 4), (4, 6), (4, 7), (4, 9), (6, 2), (6, 3), (6, 4)] [] S
  refine u_X4_bodyOf ?_
  refine u_X4_bodyOf_0 ?_
  refine ⟨o_v0, ?_⟩
  refine m_X4_wordAndWhole hI o_v0 (by decide) hT (fun x1 S2 hI g3 fc4 b_x1 p_x1 => ?_)
  obtain ⟨hT, pf9_S2⟩ := p_x1
  have f0 := fri_tr (S := S) g0 f0 fc4 (by decide) (by decide)
  have o_v0 := gr_ob g3 o_v0
  have o_v1 := gr_ob g3 o_v1
  have g0 := gr_tr (T := S) g0 g3
  obtain ⟨y5, d_y5⟩ : ∃ z : Int32, z = fI S2 v0 9 := ⟨_, rfl⟩
  have p_y5 : x1 = 1 → (1 : Int32) ≤ y5 ∧ y5 ≤ (9 : Int32) := by rw [d_y5]; exact pf9_S2
  intro _ _
  have bb_x1 : x1 = 0 ∨ x1 = 1 := b_x1
  refine ⟨fun c6 => ?_, fun c6 => ?_⟩
  · intro x7 ex7
    have q_x7 : x7 = y5 := ex7.trans d_y5.symm
    have d_x7 := ex7
    refine m_X4_wordAndWhole hI o_v0 (by decide) hT (fun x8 S9 hI g10 fc11 b_x8 p_x8 => ?_)
    obtain ⟨hT, pf9_S9⟩ := p_x8
    have f0 := fri_tr (S := S2) g0 f0 fc11 (by decide) (by decide)
    have o_v0 := gr_ob g10 o_v0
    have o_v1 := gr_ob g10 o_v1
    have g0 := gr_tr (T := S2) g0 g10
    obtain ⟨y12, d_y12⟩ : ∃ z : Int32, z = fI S9 v0 9 := ⟨_, rfl⟩
    have p_y12 : x8 = 1 → (1 : Int32) ≤ y12 ∧ y12 ≤ (9 : Int32) := by rw [d_y12]; exact pf9_S9
    intro _ _
    have bb_x8 : x8 = 0 ∨ x8 = 1 := b_x8
    refine ⟨fun c13 => ?_, fun c13 => ?_⟩
    · intro x14 ex14
      have q_x14 : x14 = y12 := ex14.trans d_y12.symm
      have d_x14 := ex14
      refine ⟨o_v1, ?_⟩
      intro x15 ex15
      have d_x15 := ex15
      refine ⟨fun c16 => ?_, fun c16 => ?_⟩
      · refine u_X4_bodyOf_58 ?_
        refine ⟨o_v0, ?_⟩
        refine m_X4_wordAndWhole hI o_v0 (by decide) hT (fun x17 S18 hI g19 fc20 b_x17 p_x17 => ?_)
        obtain ⟨hT, pf9_S18⟩ := p_x17
        have d_x15 := d_x15.trans (fri_at fc20 (by decide) (by decide) o_v1).symm
        have f0 := fri_tr (S := S9) g0 f0 fc20 (by decide) (by decide)
        have o_v0 := gr_ob g19 o_v0
        have o_v1 := gr_ob g19 o_v1
        have g0 := gr_tr (T := S9) g0 g19
        obtain ⟨y21, d_y21⟩ : ∃ z : Int32, z = fI S18 v0 9 := ⟨_, rfl⟩
        have p_y21 : x17 = 1 → (1 : Int32) ≤ y21 ∧ y21 ≤ (9 : Int32) := by rw [d_y21]; exact pf9_S18
        intro _ _
        have bb_x17 : x17 = 0 ∨ x17 = 1 := b_x17
        refine ⟨fun c22 => ?_, fun c22 => ?_⟩
        · intro x23 ex23
          have q_x23 : x23 = y21 := ex23.trans d_y21.symm
          have d_x23 := ex23
          refine ⟨o_v1, ?_⟩
          refine u_X6_shape ?_
          refine u_X6_shape_0 ?_
          refine ⟨o_v1, ?_⟩
          intro x24 ex24
          have q_x24 : x24 = x15 := ex24.trans d_x15.symm
          have d_x24 := ex24
          refine ⟨fun c25 => ?_, fun c25 => ?_⟩
          · refine u_X6_shape_16 ?_
            refine ⟨o_v1, ?_⟩
            intro x26 ex26
            have hI := iv_sI (j := 2) (v := x26) hI o_v1 (by decide) (nu_free (by decide))
            have f0 : FRI _ _ _ (sI S18 v1 2 x26) := fri_sI (S := S18) g0 f0 o_v1 (by decide)
            have d_x24 : x24 = fI (sI S18 v1 2 x26) v1 0 := d_x24.trans (rd_j (by decide)).symm
            have d_x23 : x23 = fI (sI S18 v1 2 x26) v0 9 := d_x23.trans (sI_ne (S := S18) o_v1 o_v0 (by decide) 9).symm
            have d_x26 : x26 = fI (sI S18 v1 2 x26) v1 2 := (u2_self _ _ _ _).symm
            intro x27 ex27
            have hI := iv_sI (j := 3) (v := x27) hI o_v1 (by decide) (nu_free (by decide))
            have f0 : FRI _ _ _ (sI (sI S18 v1 2 x26) v1 3 x27) := fri_sI (S := sI S18 v1 2 x26) g0 f0 o_v1 (by decide)
            have d_x24 : x24 = fI (sI (sI S18 v1 2 x26) v1 3 x27) v1 0 := d_x24.trans (rd_j (by decide)).symm
            have d_x23 : x23 = fI (sI (sI S18 v1 2 x26) v1 3 x27) v0 9 := d_x23.trans (sI_ne (S := sI S18 v1 2 x26) o_v1 o_v0 (by decide) 9).symm
            have d_x26 : x26 = fI (sI (sI S18 v1 2 x26) v1 3 x27) v1 2 := d_x26.trans (rd_j (by decide)).symm
            have d_x27 : x27 = fI (sI (sI S18 v1 2 x26) v1 3 x27) v1 3 := (u2_self _ _ _ _).symm
            intro x28 ex28
            have hI := iv_sI (j := 4) (v := x28) hI o_v1 (by decide) (nu_free (by decide))
            have f0 : FRI _ _ _ (sI (sI (sI S18 v1 2 x26) v1 3 x27) v1 4 x28) := fri_sI (S := sI (sI S18 v1 2 x26) v1 3 x27) g0 f0 o_v1 (by decide)
            have d_x24 : x24 = fI (sI (sI (sI S18 v1 2 x26) v1 3 x27) v1 4 x28) v1 0 := d_x24.trans (rd_j (by decide)).symm
            have d_x23 : x23 = fI (sI (sI (sI S18 v1 2 x26) v1 3 x27) v1 4 x28) v0 9 := d_x23.trans (sI_ne (S := sI (sI S18 v1 2 x26) v1 3 x27) o_v1 o_v0 (by decide) 9).symm
            have d_x26 : x26 = fI (sI (sI (sI S18 v1 2 x26) v1 3 x27) v1 4 x28) v1 2 := d_x26.trans (rd_j (by decide)).symm
            have d_x27 : x27 = fI (sI (sI (sI S18 v1 2 x26) v1 3 x27) v1 4 x28) v1 3 := d_x27.trans (rd_j (by decide)).symm
            have d_x28 : x28 = fI (sI (sI (sI S18 v1 2 x26) v1 3 x27) v1 4 x28) v1 4 := (u2_self _ _ _ _).symm
            intro _
            exact hq _ _ hI g0 f0 (Or.inr rfl) hT
          · intro x29 ex29
            have d_x29 := ex29
            refine u_X6_shape_16 ?_
            refine ⟨o_v1, ?_⟩
            intro x30 ex30
            have hI := iv_sI (j := 2) (v := x30) hI o_v1 (by decide) (nu_free (by decide))
            have f0 : FRI _ _ _ (sI S18 v1 2 x30) := fri_sI (S := S18) g0 f0 o_v1 (by decide)
            have d_x24 : x24 = fI (sI S18 v1 2 x30) v1 0 := d_x24.trans (rd_j (by decide)).symm
            have d_x23 : x23 = fI (sI S18 v1 2 x30) v0 9 := d_x23.trans (sI_ne (S := S18) o_v1 o_v0 (by decide) 9).symm
            have d_x29 : x29 = fI (sI S18 v1 2 x30) v1 1 := d_x29.trans (rd_j (by decide)).symm
            have d_x30 : x30 = fI (sI S18 v1 2 x30) v1 2 := (u2_self _ _ _ _).symm
            intro x31 ex31
            have hI := iv_sI (j := 3) (v := x31) hI o_v1 (by decide) (nu_free (by decide))
            have f0 : FRI _ _ _ (sI (sI S18 v1 2 x30) v1 3 x31) := fri_sI (S := sI S18 v1 2 x30) g0 f0 o_v1 (by decide)
            have d_x24 : x24 = fI (sI (sI S18 v1 2 x30) v1 3 x31) v1 0 := d_x24.trans (rd_j (by decide)).symm
            have d_x23 : x23 = fI (sI (sI S18 v1 2 x30) v1 3 x31) v0 9 := d_x23.trans (sI_ne (S := sI S18 v1 2 x30) o_v1 o_v0 (by decide) 9).symm
            have d_x29 : x29 = fI (sI (sI S18 v1 2 x30) v1 3 x31) v1 1 := d_x29.trans (rd_j (by decide)).symm
            have d_x30 : x30 = fI (sI (sI S18 v1 2 x30) v1 3 x31) v1 2 := d_x30.trans (rd_j (by decide)).symm
            have d_x31 : x31 = fI (sI (sI S18 v1 2 x30) v1 3 x31) v1 3 := (u2_self _ _ _ _).symm
            intro x32 ex32
            have hI := iv_sI (j := 4) (v := x32) hI o_v1 (by decide) (nu_free (by decide))
            have f0 : FRI _ _ _ (sI (sI (sI S18 v1 2 x30) v1 3 x31) v1 4 x32) := fri_sI (S := sI (sI S18 v1 2 x30) v1 3 x31) g0 f0 o_v1 (by decide)
            have d_x24 : x24 = fI (sI (sI (sI S18 v1 2 x30) v1 3 x31) v1 4 x32) v1 0 := d_x24.trans (rd_j (by decide)).symm
            have d_x23 : x23 = fI (sI (sI (sI S18 v1 2 x30) v1 3 x31) v1 4 x32) v0 9 := d_x23.trans (sI_ne (S := sI (sI S18 v1 2 x30) v1 3 x31) o_v1 o_v0 (by decide) 9).symm
            have d_x29 : x29 = fI (sI (sI (sI S18 v1 2 x30) v1 3 x31) v1 4 x32) v1 1 := d_x29.trans (rd_j (by decide)).symm
            have d_x30 : x30 = fI (sI (sI (sI S18 v1 2 x30) v1 3 x31) v1 4 x32) v1 2 := d_x30.trans (rd_j (by decide)).symm
            have d_x31 : x31 = fI (sI (sI (sI S18 v1 2 x30) v1 3 x31) v1 4 x32) v1 3 := d_x31.trans (rd_j (by decide)).symm
            have d_x32 : x32 = fI (sI (sI (sI S18 v1 2 x30) v1 3 x31) v1 4 x32) v1 4 := (u2_self _ _ _ _).symm
            intro _
            exact hq _ _ hI g0 f0 (Or.inr rfl) hT
        · exact hq _ _ hI g0 f0 (Or.inl rfl) hT
      · intro x33 ex33
        have d_x33 := ex33
        refine u_X4_bodyOf_58 ?_
        intro x34 ex34
        refine ⟨o_v0, ?_⟩
        refine m_X4_wordAndWhole hI o_v0 (by decide) hT (fun x35 S36 hI g37 fc38 b_x35 p_x35 => ?_)
        obtain ⟨hT, pf9_S36⟩ := p_x35
        have d_x15 := d_x15.trans (fri_at fc38 (by decide) (by decide) o_v1).symm
        have d_x33 := d_x33.trans (fri_at fc38 (by decide) (by decide) o_v1).symm
        have f0 := fri_tr (S := S9) g0 f0 fc38 (by decide) (by decide)
        have o_v0 := gr_ob g37 o_v0
        have o_v1 := gr_ob g37 o_v1
        have g0 := gr_tr (T := S9) g0 g37
        obtain ⟨y39, d_y39⟩ : ∃ z : Int32, z = fI S36 v0 9 := ⟨_, rfl⟩
        have p_y39 : x35 = 1 → x34 ≤ y39 ∧ y39 ≤ (9 : Int32) := by rw [d_y39]; exact pf9_S36
        intro _ _
        have bb_x35 : x35 = 0 ∨ x35 = 1 := b_x35
        refine ⟨fun c40 => ?_, fun c40 => ?_⟩
        · intro x41 ex41
          have q_x41 : x41 = y39 := ex41.trans d_y39.symm
          have d_x41 := ex41
          refine ⟨o_v1, ?_⟩
          refine u_X6_shape ?_
          refine u_X6_shape_0 ?_
          refine ⟨o_v1, ?_⟩
          intro x42 ex42
          have q_x42 : x42 = x15 := ex42.trans d_x15.symm
          have d_x42 := ex42
          refine ⟨fun c43 => ?_, fun c43 => ?_⟩
          · refine u_X6_shape_16 ?_
            refine ⟨o_v1, ?_⟩
            intro x44 ex44
            have hI := iv_sI (j := 2) (v := x44) hI o_v1 (by decide) (nu_free (by decide))
            have f0 : FRI _ _ _ (sI S36 v1 2 x44) := fri_sI (S := S36) g0 f0 o_v1 (by decide)
            have d_x42 : x42 = fI (sI S36 v1 2 x44) v1 0 := d_x42.trans (rd_j (by decide)).symm
            have d_x33 : x33 = fI (sI S36 v1 2 x44) v1 1 := d_x33.trans (rd_j (by decide)).symm
            have d_x41 : x41 = fI (sI S36 v1 2 x44) v0 9 := d_x41.trans (sI_ne (S := S36) o_v1 o_v0 (by decide) 9).symm
            have d_x44 : x44 = fI (sI S36 v1 2 x44) v1 2 := (u2_self _ _ _ _).symm
            intro x45 ex45
            have hI := iv_sI (j := 3) (v := x45) hI o_v1 (by decide) (nu_free (by decide))
            have f0 : FRI _ _ _ (sI (sI S36 v1 2 x44) v1 3 x45) := fri_sI (S := sI S36 v1 2 x44) g0 f0 o_v1 (by decide)
            have d_x42 : x42 = fI (sI (sI S36 v1 2 x44) v1 3 x45) v1 0 := d_x42.trans (rd_j (by decide)).symm
            have d_x33 : x33 = fI (sI (sI S36 v1 2 x44) v1 3 x45) v1 1 := d_x33.trans (rd_j (by decide)).symm
            have d_x41 : x41 = fI (sI (sI S36 v1 2 x44) v1 3 x45) v0 9 := d_x41.trans (sI_ne (S := sI S36 v1 2 x44) o_v1 o_v0 (by decide) 9).symm
            have d_x44 : x44 = fI (sI (sI S36 v1 2 x44) v1 3 x45) v1 2 := d_x44.trans (rd_j (by decide)).symm
            have d_x45 : x45 = fI (sI (sI S36 v1 2 x44) v1 3 x45) v1 3 := (u2_self _ _ _ _).symm
            intro x46 ex46
            have hI := iv_sI (j := 4) (v := x46) hI o_v1 (by decide) (nu_free (by decide))
            have f0 : FRI _ _ _ (sI (sI (sI S36 v1 2 x44) v1 3 x45) v1 4 x46) := fri_sI (S := sI (sI S36 v1 2 x44) v1 3 x45) g0 f0 o_v1 (by decide)
            have d_x42 : x42 = fI (sI (sI (sI S36 v1 2 x44) v1 3 x45) v1 4 x46) v1 0 := d_x42.trans (rd_j (by decide)).symm
            have d_x33 : x33 = fI (sI (sI (sI S36 v1 2 x44) v1 3 x45) v1 4 x46) v1 1 := d_x33.trans (rd_j (by decide)).symm
            have d_x41 : x41 = fI (sI (sI (sI S36 v1 2 x44) v1 3 x45) v1 4 x46) v0 9 := d_x41.trans (sI_ne (S := sI (sI S36 v1 2 x44) v1 3 x45) o_v1 o_v0 (by decide) 9).symm
            have d_x44 : x44 = fI (sI (sI (sI S36 v1 2 x44) v1 3 x45) v1 4 x46) v1 2 := d_x44.trans (rd_j (by decide)).symm
            have d_x45 : x45 = fI (sI (sI (sI S36 v1 2 x44) v1 3 x45) v1 4 x46) v1 3 := d_x45.trans (rd_j (by decide)).symm
            have d_x46 : x46 = fI (sI (sI (sI S36 v1 2 x44) v1 3 x45) v1 4 x46) v1 4 := (u2_self _ _ _ _).symm
            intro _
            exact hq _ _ hI g0 f0 (Or.inr rfl) hT
          · intro x47 ex47
            have q_x47 : x47 = x33 := ex47.trans d_x33.symm
            have d_x47 := ex47
            refine u_X6_shape_16 ?_
            refine ⟨o_v1, ?_⟩
            intro x48 ex48
            have hI := iv_sI (j := 2) (v := x48) hI o_v1 (by decide) (nu_free (by decide))
            have f0 : FRI _ _ _ (sI S36 v1 2 x48) := fri_sI (S := S36) g0 f0 o_v1 (by decide)
            have d_x42 : x42 = fI (sI S36 v1 2 x48) v1 0 := d_x42.trans (rd_j (by decide)).symm
            have d_x47 : x47 = fI (sI S36 v1 2 x48) v1 1 := d_x47.trans (rd_j (by decide)).symm
            have d_x41 : x41 = fI (sI S36 v1 2 x48) v0 9 := d_x41.trans (sI_ne (S := S36) o_v1 o_v0 (by decide) 9).symm
            have d_x48 : x48 = fI (sI S36 v1 2 x48) v1 2 := (u2_self _ _ _ _).symm
            intro x49 ex49
            have hI := iv_sI (j := 3) (v := x49) hI o_v1 (by decide) (nu_free (by decide))
            have f0 : FRI _ _ _ (sI (sI S36 v1 2 x48) v1 3 x49) := fri_sI (S := sI S36 v1 2 x48) g0 f0 o_v1 (by decide)
            have d_x42 : x42 = fI (sI (sI S36 v1 2 x48) v1 3 x49) v1 0 := d_x42.trans (rd_j (by decide)).symm
            have d_x47 : x47 = fI (sI (sI S36 v1 2 x48) v1 3 x49) v1 1 := d_x47.trans (rd_j (by decide)).symm
            have d_x41 : x41 = fI (sI (sI S36 v1 2 x48) v1 3 x49) v0 9 := d_x41.trans (sI_ne (S := sI S36 v1 2 x48) o_v1 o_v0 (by decide) 9).symm
            have d_x48 : x48 = fI (sI (sI S36 v1 2 x48) v1 3 x49) v1 2 := d_x48.trans (rd_j (by decide)).symm
            have d_x49 : x49 = fI (sI (sI S36 v1 2 x48) v1 3 x49) v1 3 := (u2_self _ _ _ _).symm
            intro x50 ex50
            have hI := iv_sI (j := 4) (v := x50) hI o_v1 (by decide) (nu_free (by decide))
            have f0 : FRI _ _ _ (sI (sI (sI S36 v1 2 x48) v1 3 x49) v1 4 x50) := fri_sI (S := sI (sI S36 v1 2 x48) v1 3 x49) g0 f0 o_v1 (by decide)
            have d_x42 : x42 = fI (sI (sI (sI S36 v1 2 x48) v1 3 x49) v1 4 x50) v1 0 := d_x42.trans (rd_j (by decide)).symm
            have d_x47 : x47 = fI (sI (sI (sI S36 v1 2 x48) v1 3 x49) v1 4 x50) v1 1 := d_x47.trans (rd_j (by decide)).symm
            have d_x41 : x41 = fI (sI (sI (sI S36 v1 2 x48) v1 3 x49) v1 4 x50) v0 9 := d_x41.trans (sI_ne (S := sI (sI S36 v1 2 x48) v1 3 x49) o_v1 o_v0 (by decide) 9).symm
            have d_x48 : x48 = fI (sI (sI (sI S36 v1 2 x48) v1 3 x49) v1 4 x50) v1 2 := d_x48.trans (rd_j (by decide)).symm
            have d_x49 : x49 = fI (sI (sI (sI S36 v1 2 x48) v1 3 x49) v1 4 x50) v1 3 := d_x49.trans (rd_j (by decide)).symm
            have d_x50 : x50 = fI (sI (sI (sI S36 v1 2 x48) v1 3 x49) v1 4 x50) v1 4 := (u2_self _ _ _ _).symm
            intro _
            exact hq _ _ hI g0 f0 (Or.inr rfl) hT
        · exact hq _ _ hI g0 f0 (Or.inl rfl) hT
    · exact hq _ _ hI g0 f0 (Or.inl rfl) hT
  · exact hq _ _ hI g0 f0 (Or.inl rfl) hT
