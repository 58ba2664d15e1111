set_option maxHeartbeats 4000000 in
set_option maxRecDepth 20000 in
theorem m_X1_countFits {v0 : Nat} {v1 : Nat} {v2 : Int32} {Q : Int32 → HS → Prop} {S : HS} (hI : IV S) (o_v0 : ob S v0 1) (o_v1 : ob S v1 8)     (hq : ∀ (r : Int32) (T : HS), IV T → Gr S T → Q r T) : P_X1_countFits v0 v1 v2 Q S := by
  have g0 := gr_rf S
  refine u_X1_countFits ?_
  refine u_X1_countFits_0 ?_
  refine i_X1_countFits_5 (fun (y0 : Nat) (y1 : Nat) (y2 : Int32) (y3 : Int32) (y4 : Int32) (Z : HS) => ((2147483647 : Int32).toInt - y4.toInt).toNat) (fun (y0 : Nat) (y1 : Nat) (y2 : Int32) (y3 : Int32) (y4 : Int32) (Z : HS) => (IV Z) ∧ (Gr S Z) ∧ (v0 = y0) ∧ (v1 = y1) ∧ (v2 = y2) ∧ (0 ≤ y4)) ?_ _ _ _ _ _ _ ⟨hI, (gr_rf _), rfl, rfl, rfl, (q43)⟩
  intro w3 w5 w7 w9 w10 S1 X11 ⟨hI, gL2, q4, q6, q8, i1⟩ ih12
  subst q4
  subst q6
  subst q8
  have o_v0 := gr_ob gL2 o_v0
  have o_v1 := gr_ob gL2 o_v1
  have g0 := gr_tr g0 gL2
  refine u_X1_countFits_5 ?_
  refine u_X1_legsOf ?_
  refine u_X1_legsOf_0 ?_
  refine ⟨o_v1, ?_⟩
  intro x13 ex13
  have r_x13 : (0 : Int32) ≤ x13 ∧ x13 ≤ (12 : Int32) := by rw [ex13]; exact nu 13 rfl hI o_v1
  intro x14 ex14
  have r_x14 : (0 : Int32) ≤ x14 ∧ x14 ≤ (6 : Int32) := by rw [ex14]; exact nu 11 rfl hI o_v1
  intro _
  refine ⟨fun c15 => ?_, fun c15 => ?_⟩
  · exact hq _ _ hI g0
  · refine ⟨o_v0, ?_⟩
    refine m_X1_fitCode hI o_v0 o_v1 (fun x16 S17 hI g18 => ?_)
    have o_v0 := gr_ob g18 o_v0
    have o_v1 := gr_ob g18 o_v1
    have g0 := gr_tr g0 g18
    have gL2 := gr_tr gL2 g18
    intro _
    refine ⟨fun c19 => ?_, fun c19 => ?_⟩
    · refine u_X1_countFits_29 ?_
      intro x20 ex20
      exact ih12 _ _ _ _ _ _ ⟨hI, gL2, rfl, rfl, rfl, (q381 i1 r_x13 r_x14 c15 ex20)⟩ (mu_up (q382 i1 r_x13 r_x14 c15 ex20) (q383 i1 r_x13 r_x14 c15 ex20))
    · intro x21 ex21
      refine u_X1_countFits_29 ?_
      intro x22 ex22
      exact ih12 _ _ _ _ _ _ ⟨hI, gL2, rfl, rfl, rfl, (q381 i1 r_x13 r_x14 c15 ex22)⟩ (mu_up (q382 i1 r_x13 r_x14 c15 ex22) (q383 i1 r_x13 r_x14 c15 ex22))
set_option maxHeartbeats 4000000 in
set_option maxRecDepth 20000 in
theorem m_X1_findFit {v0 : Nat} {v1 : Nat} {v2 : Int32} {v3 : Int32} {Q : Int32 → HS → Prop} {S : HS} (hI : IV S) (o_v0 : ob S v0 1) (o_v1 : ob S v1 8)     (hq : ∀ (r : Int32) (T : HS), IV T → Gr S T → Q r T) : P_X1_findFit v0 v1 v2 v3 Q S := by
  have g0 := gr_rf S
  refine u_X1_findFit ?_
  refine u_X1_findFit_0 ?_
  refine i_X1_findFit_6 (fun (y0 : Nat) (y1 : Nat) (y2 : Int32) (y4 : Int32) (y5 : Int32) (Z : HS) => ((2147483647 : Int32).toInt - y5.toInt).toNat) (fun (y0 : Nat) (y1 : Nat) (y2 : Int32) (y4 : Int32) (y5 : Int32) (Z : HS) => (IV Z) ∧ (Gr S Z) ∧ (v0 = y0) ∧ (v1 = y1) ∧ (v2 = y2) ∧ (0 ≤ y5)) ?_ _ _ _ _ _ _ ⟨hI, (gr_rf _), rfl, rfl, rfl, (q43)⟩
  intro w3 w5 w7 w9 w10 S1 X11 ⟨hI, gL2, q4, q6, q8, i1⟩ ih12
  subst q4
  subst q6
  subst q8
  have o_v0 := gr_ob gL2 o_v0
  have o_v1 := gr_ob gL2 o_v1
  have g0 := gr_tr g0 gL2
  refine u_X1_findFit_6 ?_
  refine u_X1_legsOf ?_
  refine u_X1_legsOf_0 ?_
  refine ⟨o_v1, ?_⟩
  intro x13 ex13
  have r_x13 : (0 : Int32) ≤ x13 ∧ x13 ≤ (12 : Int32) := by rw [ex13]; exact nu 13 rfl hI o_v1
  intro x14 ex14
  have r_x14 : (0 : Int32) ≤ x14 ∧ x14 ≤ (6 : Int32) := by rw [ex14]; exact nu 11 rfl hI o_v1
  intro _
  refine ⟨fun c15 => ?_, fun c15 => ?_⟩
  · exact hq _ _ hI g0
  · refine ⟨o_v0, ?_⟩
    refine m_X1_fitCode hI o_v0 o_v1 (fun x16 S17 hI g18 => ?_)
    have o_v0 := gr_ob g18 o_v0
    have o_v1 := gr_ob g18 o_v1
    have g0 := gr_tr g0 g18
    have gL2 := gr_tr gL2 g18
    intro _
    refine ⟨fun c19 => ?_, fun c19 => ?_⟩
    · refine u_X1_findFit_39 ?_
      refine ⟨fun c20 => ?_, fun c20 => ?_⟩
      · refine u_X1_findFit_48 ?_
        intro x21 ex21
        exact ih12 _ _ _ _ _ _ ⟨hI, gL2, rfl, rfl, rfl, (q381 i1 r_x13 r_x14 c15 ex21)⟩ (mu_up (q382 i1 r_x13 r_x14 c15 ex21) (q383 i1 r_x13 r_x14 c15 ex21))
      · intro x22 ex22
        refine u_X1_findFit_48 ?_
        intro x23 ex23
        exact ih12 _ _ _ _ _ _ ⟨hI, gL2, rfl, rfl, rfl, (q381 i1 r_x13 r_x14 c15 ex23)⟩ (mu_up (q382 i1 r_x13 r_x14 c15 ex23) (q383 i1 r_x13 r_x14 c15 ex23))
    · refine ⟨fun c24 => ?_, fun c24 => ?_⟩
      · refine u_X1_findFit_39 ?_
        refine ⟨fun c25 => ?_, fun c25 => ?_⟩
        · refine u_X1_findFit_48 ?_
          intro x26 ex26
          exact ih12 _ _ _ _ _ _ ⟨hI, gL2, rfl, rfl, rfl, (q381 i1 r_x13 r_x14 c15 ex26)⟩ (mu_up (q382 i1 r_x13 r_x14 c15 ex26) (q383 i1 r_x13 r_x14 c15 ex26))
        · intro x27 ex27
          refine u_X1_findFit_48 ?_
          intro x28 ex28
          exact ih12 _ _ _ _ _ _ ⟨hI, gL2, rfl, rfl, rfl, (q381 i1 r_x13 r_x14 c15 ex28)⟩ (mu_up (q382 i1 r_x13 r_x14 c15 ex28) (q383 i1 r_x13 r_x14 c15 ex28))
      · exact hq _ _ hI g0
set_option maxHeartbeats 4000000 in
set_option maxRecDepth 20000 in
theorem m_X1_leastWet {v0 : Nat} {v1 : Nat} {v2 : Nat} {v3 : Int32} {v4 : Nat} {Q : Int64 → HS → Prop} {S : HS} (hI : IV S) (o_v0 : ob S v0 1) (o_v1 : ob S v1 6) (o_v2 : ob S v2 5) (o_v4 : ob S v4 3)     (hq : ∀ (r : Int64) (T : HS), IV T → Gr S T → Q r T) : P_X1_leastWet v0 v1 v2 v3 v4 Q S := by
  have g0 := gr_rf S
  refine u_X1_leastWet ?_
  refine u_X1_leastWet_0 ?_
  refine ⟨o_v0, ?_⟩
  refine m_X1_bestSpeed hI o_v0 o_v1 o_v2 o_v4 (fun x1 S2 hI g3 => ?_)
  have o_v0 := gr_ob g3 o_v0
  have o_v1 := gr_ob g3 o_v1
  have o_v2 := gr_ob g3 o_v2
  have o_v4 := gr_ob g3 o_v4
  have g0 := gr_tr g0 g3
  intro _
  refine m_X1_wetOf hI o_v0 o_v1 o_v2 o_v4 (fun x4 S5 hI g6 => ?_)
  have o_v0 := gr_ob g6 o_v0
  have o_v1 := gr_ob g6 o_v1
  have o_v2 := gr_ob g6 o_v2
  have o_v4 := gr_ob g6 o_v4
  have g0 := gr_tr g0 g6
  intro _
  exact hq _ _ hI g0
set_option maxHeartbeats 4000000 in
set_option maxRecDepth 20000 in
theorem m_X1_wetInLee {v0 : Nat} {v1 : Nat} {v2 : Nat} {Q : Int64 → HS → Prop} {S : HS} (hI : IV S) (o_v0 : ob S v0 1) (o_v1 : ob S v1 6) (o_v2 : ob S v2 6)     (hq : ∀ (r : Int64) (T : HS), IV T → Gr S T → Q r T) : P_X1_wetInLee v0 v1 v2 Q S := by
  have g0 := gr_rf S
  refine u_X1_wetInLee ?_
  refine u_X1_wetInLee_0 ?_
  refine ⟨o_v2, ?_⟩
  intro x1 ex1
  refine ⟨o_v0, ?_⟩
  refine m_X1_soak hI o_v0 o_v1 (fun x2 S3 hI g4 => ?_)
  have o_v0 := gr_ob g4 o_v0
  have o_v1 := gr_ob g4 o_v1
  have o_v2 := gr_ob g4 o_v2
  have g0 := gr_tr g0 g4
  intro _
  refine ⟨o_v1, ?_⟩
  intro x5 ex5
  refine m_X1_soak hI o_v0 o_v2 (fun x6 S7 hI g8 => ?_)
  have o_v0 := gr_ob g8 o_v0
  have o_v1 := gr_ob g8 o_v1
  have o_v2 := gr_ob g8 o_v2
  have g0 := gr_tr g0 g8
  intro _
  exact hq _ _ hI g0
set_option maxHeartbeats 4000000 in
set_option maxRecDepth 20000 in
theorem m_X1_worstSpeed {v0 : Nat} {v1 : Nat} {v2 : Nat} {v3 : Int32} {v4 : Nat} {Q : Int32 → HS → Prop} {S : HS} (hI : IV S) (o_v0 : ob S v0 1) (o_v1 : ob S v1 6) (o_v2 : ob S v2 5) (o_v4 : ob S v4 3)     (hq : ∀ (r : Int32) (T : HS), IV T → Gr S T → Q r T) : P_X1_worstSpeed v0 v1 v2 v3 v4 Q S := by
  have g0 := gr_rf S
  refine u_X1_worstSpeed ?_
  refine u_X1_worstSpeed_0 ?_
  refine ⟨o_v1, ?_⟩
  intro x1 ex1
  have r_x1 : (0 : Int32) ≤ x1 ∧ x1 ≤ (9 : Int32) := by rw [ex1]; exact nu 4 rfl hI o_v1
  intro x2 ex2
  have r_x2 : (0 : Int32) ≤ x2 ∧ x2 ≤ (9 : Int32) := by rw [ex2]; exact nu 4 rfl hI o_v1
  refine i_X1_worstSpeed_17 (fun (y0 : Nat) (y1 : Nat) (y2 : Nat) (y3 : Int32) (y4 : Nat) (y5 : Int32) (y6 : Int64) (y8 : Int32) (Z : HS) => ((2147483647 : Int32).toInt - y8.toInt).toNat) (fun (y0 : Nat) (y1 : Nat) (y2 : Nat) (y3 : Int32) (y4 : Nat) (y5 : Int32) (y6 : Int64) (y8 : Int32) (Z : HS) => (IV Z) ∧ (Gr S Z) ∧ (v0 = y0) ∧ (v1 = y1) ∧ (v2 = y2) ∧ (v3 = y3) ∧ (v4 = y4)) ?_ _ _ _ _ _ _ _ _ _ ⟨hI, (gr_rf _), rfl, rfl, rfl, rfl, rfl⟩
  intro w5 w7 w9 w11 w13 w15 w16 w17 S3 X18 ⟨hI, gL4, q6, q8, q10, q12, q14⟩ ih19
  subst q6
  subst q8
  subst q10
  subst q12
  subst q14
  have o_v0 := gr_ob gL4 o_v0
  have o_v1 := gr_ob gL4 o_v1
  have o_v2 := gr_ob gL4 o_v2
  have o_v4 := gr_ob gL4 o_v4
  have g0 := gr_tr g0 gL4
  refine u_X1_worstSpeed_17 ?_
  refine ⟨o_v1, ?_⟩
  intro x20 ex20
  have r_x20 : (0 : Int32) ≤ x20 ∧ x20 ≤ (9 : Int32) := by rw [ex20]; exact nu 5 rfl hI o_v1
  refine ⟨fun c21 => ?_, fun c21 => ?_⟩
  · exact hq _ _ hI g0
  · refine ⟨o_v0, ?_⟩
    refine m_X1_wetOf hI o_v0 o_v1 o_v2 o_v4 (fun x22 S23 hI g24 => ?_)
    have o_v0 := gr_ob g24 o_v0
    have o_v1 := gr_ob g24 o_v1
    have o_v2 := gr_ob g24 o_v2
    have o_v4 := gr_ob g24 o_v4
    have g0 := gr_tr g0 g24
    have gL4 := gr_tr gL4 g24
    intro _
    refine ⟨fun c25 => ?_, fun c25 => ?_⟩
    · refine u_X1_worstSpeed_55 ?_
      intro x26 ex26
      exact ih19 _ _ _ _ _ _ _ _ _ ⟨hI, gL4, rfl, rfl, rfl, rfl, rfl⟩ (mu_up (q31 r_x20 c21 ex26) (q32 r_x20 c21 ex26))
    · refine u_X1_worstSpeed_55 ?_
      intro x27 ex27
      exact ih19 _ _ _ _ _ _ _ _ _ ⟨hI, gL4, rfl, rfl, rfl, rfl, rfl⟩ (mu_up (q31 r_x20 c21 ex27) (q32 r_x20 c21 ex27))
set_option maxHeartbeats 4000000 in
set_option maxRecDepth 20000 in
theorem m_X2_addFaces {v0 : Nat} {v1 : Nat} {Q : HS → Prop} {S : HS} (hI : IV S) (o_v0 : ob S v0 2) (o_v1 : ob S v1 14) (l_v1 : hN S v1 = 5)    (hq : ∀ (T : HS), IV T → Gr S T → Q T) : P_X2_addFaces v0 v1 Q S := by
  have g0 := gr_rf S
  refine u_X2_addFaces ?_
  refine u_X2_addFaces_0 ?_
  refine i_X2_addFaces_2 (fun (y0 : Nat) (y1 : Nat) (y2 : Int32) (Z : HS) => ((2147483647 : Int32).toInt - y2.toInt).toNat) (fun (y0 : Nat) (y1 : Nat) (y2 : Int32) (Z : HS) => (IV Z) ∧ (Gr S Z) ∧ (v0 = y0) ∧ (v1 = y1) ∧ (0 ≤ y2)) ?_ _ _ _ _ ⟨hI, (gr_rf _), rfl, rfl, (q43)⟩
  intro w3 w5 w7 S1 X8 ⟨hI, gL2, q4, q6, i1⟩ ih9
  subst q4
  subst q6
  have l_v1 := (gr_len gL2 o_v1).trans l_v1
  have o_v0 := gr_ob gL2 o_v0
  have o_v1 := gr_ob gL2 o_v1
  have g0 := gr_tr g0 gL2
  refine u_X2_addFaces_2 ?_
  refine ⟨fun c10 => ?_, fun c10 => ?_⟩
  · exact hq _ hI g0
  · refine ⟨o_v1, ?_⟩
    have n_v1 : nI (hN S1 v1) = 5 := by rw [show hN S1 v1 = 5 from l_v1]; decide
    refine ⟨fun c11 => ?_, fun c11 => ?_⟩
    · rw [n_v1] at c11
      exact hq _ hI g0
    · rw [n_v1] at c11
      refine ⟨o_v0, ?_⟩
      obtain ⟨a12, ea12, o_a12, l_a12⟩ := shl 11 rfl hI o_v0
      refine ⟨a12, ea12, ?_⟩
      refine ⟨o_a12, ?_⟩
      refine ⟨(vin l_a12 (m := 5) (by decide) (q411 i1 c10 c11)), ?_⟩
      intro x13 ex13
      refine ⟨(vin l_v1 (m := 5) (by decide) (q411 i1 c10 c11)), ?_⟩
      intro x14 ex14
      intro x15 ex15
      have i16 : vp_in w7 (hN _ a12) := (vin l_a12 (m := 5) (by decide) (q411 i1 c10 c11))
      refine ⟨i16, ?_⟩
      have hI := iv_aJ (i := w7.toNatClampNeg) (v := x15) hI o_v0 (by decide) ea12 o_a12 (by decide)
      intro x17 ex17
      exact ih9 _ _ _ _ ⟨hI, gL2, rfl, rfl, (q412 i1 c10 c11 ex17)⟩ (mu_up (q413 i1 c10 c11 ex17) (q414 i1 c10 c11 ex17))
set_option maxHeartbeats 4000000 in
set_option maxRecDepth 20000 in
theorem m_X2_allGot {v0 : Nat} {Q : Int64 → HS → Prop} {S : HS} (hI : IV S) (o_v0 : ob S v0 2)     (hq : ∀ (r : Int64) (T : HS), IV T → Gr S T → (S = T) → Q r T) : P_X2_allGot v0 Q S := by
  have g0 := gr_rf S
  refine u_X2_allGot ?_
  refine u_X2_allGot_0 ?_
  refine i_X2_allGot_4 (fun (y0 : Nat) (y1 : Int64) (y3 : Int32) (Z : HS) => ((2147483647 : Int32).toInt - y3.toInt).toNat) (fun (y0 : Nat) (y1 : Int64) (y3 : Int32) (Z : HS) => (S = Z) ∧ (v0 = y0) ∧ (0 ≤ y3)) ?_ _ _ _ _ ⟨rfl, rfl, (q43)⟩
  intro w3 w5 w6 S1 X7 ⟨eS1, q4, i1⟩ ih8
  subst q4
  subst eS1
  refine u_X2_allGot_4 ?_
  refine ⟨fun c9 => ?_, fun c9 => ?_⟩
  · exact hq _ _ hI g0 rfl
  · refine ⟨o_v0, ?_⟩
    obtain ⟨a10, ea10, o_a10, l_a10⟩ := shl 11 rfl hI o_v0
    refine ⟨a10, ea10, ?_⟩
    refine ⟨o_a10, ?_⟩
    refine ⟨(vin l_a10 (m := 5) (by decide) (q137 i1 c9)), ?_⟩
    intro x11 ex11
    intro x12 ex12
    intro x13 ex13
    exact ih8 _ _ _ _ ⟨rfl, rfl, (q138 i1 c9 ex13)⟩ (mu_up (q139 i1 c9 ex13) (q140 i1 c9 ex13))
set_option maxHeartbeats 4000000 in
set_option maxRecDepth 20000 in
theorem m_X4_fail {v0 : Nat} {v1 : Int32} {Q : Int32 → HS → Prop} {S : HS} (hI : IV S) (o_v0 : ob S v0 4)    (hT : TX S v0) (hq : ∀ (r : Int32) (T : HS), IV T → Gr S T → bl r → (TX T v0) → Q r T) : P_X4_fail v0 v1 Q S := by
  have g0 := gr_rf S
  refine u_X4_fail ?_
  refine u_X4_fail_0 ?_
  refine ⟨o_v0, ?_⟩
  have hI := iv_sI (j := 0) (v := v1) hI o_v0 (by decide) (nu_free (by decide))
  intro x1 ex1
  have hI := iv_sI (j := 1) (v := x1) hI o_v0 (by decide) (nu_free (by decide))
  exact hq _ _ hI g0 (Or.inl rfl) hT
set_option maxHeartbeats 4000000 in
set_option maxRecDepth 20000 in
theorem m_X4_sortAt {v0 : Nat} {v1 : Int32} {Q : Int32 → HS → Prop} {S : HS} (hI : IV S) (o_v0 : ob S v0 4)    (hT : TX S v0) (hq : ∀ (r : Int32) (T : HS), IV T → Gr S T → (S = T) → Q r T) : P_X4_sortAt v0 v1 Q S := by
  have g0 := gr_rf S
  refine u_X4_sortAt ?_
  refine u_X4_sortAt_0 ?_
  refine ⟨fun c1 => ?_, fun c1 => ?_⟩
  · exact hq _ _ hI g0 rfl
  · refine ⟨o_v0, ?_⟩
    intro x2 ex2
    have r_x2 : (0 : Int32) ≤ x2 ∧ x2 ≤ (900 : Int32) := by rw [ex2]; exact nu 6 rfl hI o_v0
    refine ⟨fun c3 => ?_, fun c3 => ?_⟩
    · exact hq _ _ hI g0 rfl
    · obtain ⟨a4, ea4, o_a4, l_a4⟩ := hT
      refine ⟨a4, ea4, ?_⟩
      refine ⟨o_a4, ?_⟩
      have n_a4 : nI (hN S a4) = 900 := by rw [show hN S a4 = 900 from l_a4]; decide
      refine ⟨fun c5 => ?_, fun c5 => ?_⟩
      · rw [n_a4] at c5
        obtain ⟨a6, ea6, o_a6, l_a6⟩ := hT
        refine ⟨a6, ea6, ?_⟩
        refine ⟨o_a6, ?_⟩
        refine ⟨(vin l_a6 (m := 900) (by decide) (q123 c1 r_x2 c3 c5)), ?_⟩
        intro x7 ex7
        refine ⟨fun c8 => ?_, fun c8 => ?_⟩
        · refine u_X4_sortAt_44 ?_
          refine ⟨fun c9 => ?_, fun c9 => ?_⟩
          · refine u_X4_sortAt_58 ?_
            refine ⟨fun c10 => ?_, fun c10 => ?_, fun c10 => ?_, fun c10 => ?_⟩
            · exact hq _ _ hI g0 rfl
            · exact hq _ _ hI g0 rfl
            · exact hq _ _ hI g0 rfl
            · exact hq _ _ hI g0 rfl
          · refine ⟨fun c11 => ?_, fun c11 => ?_⟩
            · refine u_X4_sortAt_58 ?_
              refine ⟨fun c12 => ?_, fun c12 => ?_, fun c12 => ?_, fun c12 => ?_⟩
              · exact hq _ _ hI g0 rfl
              · exact hq _ _ hI g0 rfl
              · exact hq _ _ hI g0 rfl
              · exact hq _ _ hI g0 rfl
            · exact hq _ _ hI g0 rfl
        · refine ⟨fun c13 => ?_, fun c13 => ?_⟩
          · refine u_X4_sortAt_44 ?_
            refine ⟨fun c14 => ?_, fun c14 => ?_⟩
            · refine u_X4_sortAt_58 ?_
              refine ⟨fun c15 => ?_, fun c15 => ?_, fun c15 => ?_, fun c15 => ?_⟩
              · exact hq _ _ hI g0 rfl
              · exact hq _ _ hI g0 rfl
              · exact hq _ _ hI g0 rfl
              · exact hq _ _ hI g0 rfl
            · refine ⟨fun c16 => ?_, fun c16 => ?_⟩
              · refine u_X4_sortAt_58 ?_
                refine ⟨fun c17 => ?_, fun c17 => ?_, fun c17 => ?_, fun c17 => ?_⟩
                · exact hq _ _ hI g0 rfl
                · exact hq _ _ hI g0 rfl
                · exact hq _ _ hI g0 rfl
                · exact hq _ _ hI g0 rfl
              · exact hq _ _ hI g0 rfl
          · exact hq _ _ hI g0 rfl
      · rw [n_a4] at c5
        exact hq _ _ hI g0 rfl
set_option maxHeartbeats 4000000 in
set_option maxRecDepth 20000 in
theorem m_X4_next {v0 : Nat} {Q : HS → Prop} {S : HS} (hI : IV S) (o_v0 : ob S v0 4)    (hT : TX S v0) (hq : ∀ (T : HS), IV T → Gr S T → (TX T v0) → Q T) : P_X4_next v0 Q S := by
  have g0 := gr_rf S
  refine u_X4_next ?_
  refine u_X4_next_0 ?_
  refine i_X4_next_2 (fun (y0 : Nat) (y1 : Int32) (Z : HS) => ((2147483647 : Int32).toInt - y1.toInt).toNat) (fun (y0 : Nat) (y1 : Int32) (Z : HS) => (IV Z) ∧ (Gr S Z) ∧ (v0 = y0) ∧ (TX Z v0) ∧ (0 ≤ y1)) ?_ _ _ _ ⟨hI, (gr_rf _), rfl, hT, (q43)⟩
  intro w3 w5 S1 X6 ⟨hI, gL2, q4, hT, i1⟩ ih7
  subst q4
  have o_v0 := gr_ob gL2 o_v0
  have g0 := gr_tr g0 gL2
  refine u_X4_next_2 ?_
  refine ⟨fun c8 => ?_, fun c8 => ?_⟩
  · refine u_X4_next_37 ?_
    refine ⟨o_v0, ?_⟩
    intro x9 ex9
    have r_x9 : (0 : Int32) ≤ x9 ∧ x9 ≤ (900 : Int32) := by rw [ex9]; exact nu 7 rfl hI o_v0
    have hI := iv_sI (j := 7) (v := x9) hI o_v0 (by decide) (nu_free (by decide))
    intro x10 ex10
    have r_x10 : (0 : Int32) ≤ x10 ∧ x10 ≤ (900 : Int32) := by rw [ex10]; exact nu 7 rfl hI o_v0
    refine m_X4_sortAt hI o_v0 hT (fun x11 S12 hI2 g13 p_x11 => ?_)
    subst p_x11
    intro _
    have hI := iv_sI (j := 6) (v := x11) hI o_v0 (by decide) (nu_free (by decide))
    have hI := iv_sJ (j := 8) (v := (0 : Int64)) hI o_v0 (by decide)
    intro x14 ex14
    refine ⟨fun c15 => ?_, fun c15 => ?_⟩
    · refine u_X4_next_78 ?_
      refine u_X4_next_83 ?_
      refine ⟨o_v0, ?_⟩
      intro x16 ex16
      refine ⟨fun c17 => ?_, fun c17 => ?_⟩
      · refine u_X4_next_98 ?_
        refine ⟨o_v0, ?_⟩
        intro x18 ex18
        refine ⟨fun c19 => ?_, fun c19 => ?_⟩
        · refine u_X4_next_114 ?_
          refine i_X4_next_118 (fun (y0 : Nat) (y1 : Int32) (y2 : Int32) (y3 : Int32) (y4 : Int32) (Z : HS) => ((2147483647 : Int32).toInt - y4.toInt).toNat) (fun (y0 : Nat) (y1 : Int32) (y2 : Int32) (y3 : Int32) (y4 : Int32) (Z : HS) => (IV Z) ∧ (Gr (sJ (sI (sI S1 v0 7 x9) v0 6 x11) v0 8 (0 : Int64)) Z) ∧ (v0 = y0) ∧ ((1 : Int32) = y1) ∧ ((3 : Int32) = y2) ∧ ((10 : Int32) = y3) ∧ (TX Z v0) ∧ (0 ≤ y4)) ?_ _ _ _ _ _ _ ⟨hI, (gr_rf _), rfl, rfl, rfl, rfl, hT, (q43)⟩
          intro w22 w24 w26 w28 w30 S20 X31 ⟨hI, gL21, q23, q25, q27, q29, hT, i1⟩ ih32
          subst q23
          subst q25
          subst q27
          subst q29
          have o_v0 := gr_ob gL21 o_v0
          have g0 := gr_tr g0 gL21
          have gL2 := gr_tr gL2 gL21
          refine u_X4_next_118 ?_
          refine ⟨fun c33 => ?_, fun c33 => ?_⟩
          · refine u_X4_next_217 ?_
            refine ⟨fun c34 => ?_, fun c34 => ?_⟩
            · refine u_X4_next_240 ?_
              refine ⟨fun c35 => ?_, fun c35 => ?_⟩
              · exact hq _ hI g0 hT
              · refine ⟨o_v0, ?_⟩
                intro x36 ex36
                refine ⟨fun c37 => ?_, fun c37 => ?_⟩
                · exact hq _ hI g0 hT
                · intro x38 ex38
                  have r_x38 : (0 : Int32) ≤ x38 ∧ x38 ≤ (900 : Int32) := by rw [ex38]; exact nu 7 rfl hI o_v0
                  intro x39 ex39
                  have hI := iv_sI (j := 4) (v := x39) hI o_v0 (by decide) (nu_one (lo := (0 : Int32)) (hi := (900 : Int32)) (by decide) (q83 c33 c34 c35 r_x38 ex39))
                  exact hq _ hI g0 hT
            · refine ⟨o_v0, ?_⟩
              intro x40 ex40
              have r_x40 : (0 : Int32) ≤ x40 ∧ x40 ≤ (900 : Int32) := by rw [ex40]; exact nu 7 rfl hI o_v0
              intro x41 ex41
              refine ⟨fun c42 => ?_, fun c42 => ?_⟩
              · refine u_X4_next_240 ?_
                refine ⟨fun c43 => ?_, fun c43 => ?_⟩
                · exact hq _ hI g0 hT
                · refine ⟨o_v0, ?_⟩
                  intro x44 ex44
                  refine ⟨fun c45 => ?_, fun c45 => ?_⟩
                  · exact hq _ hI g0 hT
                  · intro x46 ex46
                    have r_x46 : (0 : Int32) ≤ x46 ∧ x46 ≤ (900 : Int32) := by rw [ex46]; exact nu 7 rfl hI o_v0
                    intro x47 ex47
                    have hI := iv_sI (j := 4) (v := x47) hI o_v0 (by decide) (nu_one (lo := (0 : Int32)) (hi := (900 : Int32)) (by decide) (q84 c33 c34 c43 r_x46 ex47))
                    exact hq _ hI g0 hT
              · have hI := iv_sI (j := 6) (v := (6 : Int32)) hI o_v0 (by decide) (nu_free (by decide))
                refine u_X4_next_240 ?_
                refine ⟨fun c48 => ?_, fun c48 => ?_⟩
                · exact hq _ hI g0 hT
                · refine ⟨o_v0, ?_⟩
                  intro x49 ex49
                  refine ⟨fun c50 => ?_, fun c50 => ?_⟩
                  · exact hq _ hI g0 hT
                  · intro x51 ex51
                    have r_x51 : (0 : Int32) ≤ x51 ∧ x51 ≤ (900 : Int32) := by rw [ex51]; exact nu 7 rfl hI o_v0
                    intro x52 ex52
                    have hI := iv_sI (j := 4) (v := x52) hI o_v0 (by decide) (nu_one (lo := (0 : Int32)) (hi := (900 : Int32)) (by decide) (q84 c33 c34 c48 r_x51 ex52))
                    exact hq _ hI g0 hT
          · refine ⟨fun c53 => ?_, fun c53 => ?_⟩
            · refine u_X4_next_217 ?_
              refine ⟨fun c54 => ?_, fun c54 => ?_⟩
              · refine u_X4_next_240 ?_
                refine ⟨fun c55 => ?_, fun c55 => ?_⟩
                · exact hq _ hI g0 hT
                · refine ⟨o_v0, ?_⟩
                  intro x56 ex56
                  refine ⟨fun c57 => ?_, fun c57 => ?_⟩
                  · exact hq _ hI g0 hT
                  · intro x58 ex58
                    have r_x58 : (0 : Int32) ≤ x58 ∧ x58 ≤ (900 : Int32) := by rw [ex58]; exact nu 7 rfl hI o_v0
                    intro x59 ex59
                    have hI := iv_sI (j := 4) (v := x59) hI o_v0 (by decide) (nu_one (lo := (0 : Int32)) (hi := (900 : Int32)) (by decide) (q85 c33 c54 c55 r_x58 ex59))
                    exact hq _ hI g0 hT
              · refine ⟨o_v0, ?_⟩
                intro x60 ex60
                have r_x60 : (0 : Int32) ≤ x60 ∧ x60 ≤ (900 : Int32) := by rw [ex60]; exact nu 7 rfl hI o_v0
                intro x61 ex61
                refine ⟨fun c62 => ?_, fun c62 => ?_⟩
                · refine u_X4_next_240 ?_
                  refine ⟨fun c63 => ?_, fun c63 => ?_⟩
                  · exact hq _ hI g0 hT
                  · refine ⟨o_v0, ?_⟩
                    intro x64 ex64
                    refine ⟨fun c65 => ?_, fun c65 => ?_⟩
                    · exact hq _ hI g0 hT
                    · intro x66 ex66
                      have r_x66 : (0 : Int32) ≤ x66 ∧ x66 ≤ (900 : Int32) := by rw [ex66]; exact nu 7 rfl hI o_v0
                      intro x67 ex67
                      have hI := iv_sI (j := 4) (v := x67) hI o_v0 (by decide) (nu_one (lo := (0 : Int32)) (hi := (900 : Int32)) (by decide) (q86 c33 c54 c63 r_x66 ex67))
                      exact hq _ hI g0 hT
                · have hI := iv_sI (j := 6) (v := (6 : Int32)) hI o_v0 (by decide) (nu_free (by decide))
                  refine u_X4_next_240 ?_
                  refine ⟨fun c68 => ?_, fun c68 => ?_⟩
                  · exact hq _ hI g0 hT
                  · refine ⟨o_v0, ?_⟩
                    intro x69 ex69
                    refine ⟨fun c70 => ?_, fun c70 => ?_⟩
                    · exact hq _ hI g0 hT
                    · intro x71 ex71
                      have r_x71 : (0 : Int32) ≤ x71 ∧ x71 ≤ (900 : Int32) := by rw [ex71]; exact nu 7 rfl hI o_v0
                      intro x72 ex72
                      have hI := iv_sI (j := 4) (v := x72) hI o_v0 (by decide) (nu_one (lo := (0 : Int32)) (hi := (900 : Int32)) (by decide) (q86 c33 c54 c68 r_x71 ex72))
                      exact hq _ hI g0 hT
            · refine ⟨o_v0, ?_⟩
              intro x73 ex73
              have r_x73 : (0 : Int32) ≤ x73 ∧ x73 ≤ (900 : Int32) := by rw [ex73]; exact nu 7 rfl hI o_v0
              refine m_X4_sortAt hI o_v0 hT (fun x74 S75 hI2 g76 p_x74 => ?_)
              subst p_x74
              intro _
              intro x77 ex77
              refine ⟨fun c78 => ?_, fun c78 => ?_⟩
              · refine u_X4_next_217 ?_
                refine ⟨fun c79 => ?_, fun c79 => ?_⟩
                · refine u_X4_next_240 ?_
                  refine ⟨fun c80 => ?_, fun c80 => ?_⟩
                  · exact hq _ hI g0 hT
                  · refine ⟨o_v0, ?_⟩
                    intro x81 ex81
                    refine ⟨fun c82 => ?_, fun c82 => ?_⟩
                    · exact hq _ hI g0 hT
                    · intro x83 ex83
                      have r_x83 : (0 : Int32) ≤ x83 ∧ x83 ≤ (900 : Int32) := by rw [ex83]; exact nu 7 rfl hI o_v0
                      intro x84 ex84
                      have hI := iv_sI (j := 4) (v := x84) hI o_v0 (by decide) (nu_one (lo := (0 : Int32)) (hi := (900 : Int32)) (by decide) (q85 c33 c79 c80 r_x83 ex84))
                      exact hq _ hI g0 hT
                · refine ⟨o_v0, ?_⟩
                  intro x85 ex85
                  have r_x85 : (0 : Int32) ≤ x85 ∧ x85 ≤ (900 : Int32) := by rw [ex85]; exact nu 7 rfl hI o_v0
                  intro x86 ex86
                  refine ⟨fun c87 => ?_, fun c87 => ?_⟩
                  · refine u_X4_next_240 ?_
                    refine ⟨fun c88 => ?_, fun c88 => ?_⟩
                    · exact hq _ hI g0 hT
                    · refine ⟨o_v0, ?_⟩
                      intro x89 ex89
                      refine ⟨fun c90 => ?_, fun c90 => ?_⟩
                      · exact hq _ hI g0 hT
                      · intro x91 ex91
                        have r_x91 : (0 : Int32) ≤ x91 ∧ x91 ≤ (900 : Int32) := by rw [ex91]; exact nu 7 rfl hI o_v0
                        intro x92 ex92
                        have hI := iv_sI (j := 4) (v := x92) hI o_v0 (by decide) (nu_one (lo := (0 : Int32)) (hi := (900 : Int32)) (by decide) (q86 c33 c79 c88 r_x91 ex92))
                        exact hq _ hI g0 hT
                  · have hI := iv_sI (j := 6) (v := (6 : Int32)) hI o_v0 (by decide) (nu_free (by decide))
                    refine u_X4_next_240 ?_
                    refine ⟨fun c93 => ?_, fun c93 => ?_⟩
                    · exact hq _ hI g0 hT
                    · refine ⟨o_v0, ?_⟩
                      intro x94 ex94
                      refine ⟨fun c95 => ?_, fun c95 => ?_⟩
                      · exact hq _ hI g0 hT
                      · intro x96 ex96
                        have r_x96 : (0 : Int32) ≤ x96 ∧ x96 ≤ (900 : Int32) := by rw [ex96]; exact nu 7 rfl hI o_v0
                        intro x97 ex97
                        have hI := iv_sI (j := 4) (v := x97) hI o_v0 (by decide) (nu_one (lo := (0 : Int32)) (hi := (900 : Int32)) (by decide) (q86 c33 c79 c93 r_x96 ex97))
                        exact hq _ hI g0 hT
              · refine ⟨fun c98 => ?_, fun c98 => ?_⟩
                · refine u_X4_next_201 ?_
                  refine ⟨o_v0, ?_⟩
                  intro x99 ex99
                  have r_x99 : (0 : Int32) ≤ x99 ∧ x99 ≤ (900 : Int32) := by rw [ex99]; exact nu 7 rfl hI o_v0
                  intro x100 ex100
                  have hI := iv_sI (j := 4) (v := x100) hI o_v0 (by decide) (nu_one (lo := (0 : Int32)) (hi := (900 : Int32)) (by decide) (q87 c33 r_x99 ex100))
                  intro x101 ex101
                  exact ih32 _ _ _ _ _ _ ⟨hI, gL21, rfl, rfl, rfl, rfl, hT, (q88 i1 c33 c53 c98 ex101)⟩ (mu_up (q89 i1 c33 c53 c98 ex101) (q90 i1 c33 c53 c98 ex101))
                · intro x102 ex102
                  have r_x102 : (0 : Int32) ≤ x102 ∧ x102 ≤ (900 : Int32) := by rw [ex102]; exact nu 7 rfl hI o_v0
                  obtain ⟨a103, ea103, o_a103, l_a103⟩ := hT
                  refine ⟨a103, ea103, ?_⟩
                  refine ⟨o_a103, ?_⟩
                  have n_a103 : nI (hN S20 a103) = 900 := by rw [show hN S20 a103 = 900 from l_a103]; decide
                  refine ⟨fun c104 => ?_, fun c104 => ?_⟩
                  · rw [n_a103] at c104
                    refine u_X4_next_201 ?_
                    refine ⟨o_v0, ?_⟩
                    intro x105 ex105
                    have r_x105 : (0 : Int32) ≤ x105 ∧ x105 ≤ (900 : Int32) := by rw [ex105]; exact nu 7 rfl hI o_v0
                    intro x106 ex106
                    have hI := iv_sI (j := 4) (v := x106) hI o_v0 (by decide) (nu_one (lo := (0 : Int32)) (hi := (900 : Int32)) (by decide) (q87 c33 r_x105 ex106))
                    intro x107 ex107
                    exact ih32 _ _ _ _ _ _ ⟨hI, gL21, rfl, rfl, rfl, rfl, hT, (q91 i1 c33 c53 c98 ex107)⟩ (mu_up (q92 i1 c33 c53 c98 ex107) (q93 i1 c33 c53 c98 ex107))
                  · rw [n_a103] at c104
                    intro x108 ex108
                    obtain ⟨a109, ea109, o_a109, l_a109⟩ := hT
                    refine ⟨a109, ea109, ?_⟩
                    intro x110 ex110
                    have r_x110 : (0 : Int32) ≤ x110 ∧ x110 ≤ (900 : Int32) := by rw [ex110]; exact nu 7 rfl hI o_v0
                    refine ⟨o_a109, ?_⟩
                    refine ⟨(vin l_a109 (m := 900) (by decide) (q94 c33 r_x110)), ?_⟩
                    intro x111 ex111
                    intro x112 ex112
                    refine ⟨fun c113 => ?_, fun c113 => ?_⟩
                    · refine u_X4_next_195 ?_
                      refine ⟨o_v0, ?_⟩
                      intro x114 ex114
                      have hI := iv_sJ (j := 8) (v := x114) hI o_v0 (by decide)
                      refine u_X4_next_201 ?_
                      refine ⟨o_v0, ?_⟩
                      intro x115 ex115
                      have r_x115 : (0 : Int32) ≤ x115 ∧ x115 ≤ (900 : Int32) := by rw [ex115]; exact nu 7 rfl hI o_v0
                      intro x116 ex116
                      have hI := iv_sI (j := 4) (v := x116) hI o_v0 (by decide) (nu_one (lo := (0 : Int32)) (hi := (900 : Int32)) (by decide) (q87 c33 r_x115 ex116))
                      intro x117 ex117
                      exact ih32 _ _ _ _ _ _ ⟨hI, gL21, rfl, rfl, rfl, rfl, hT, (q91 i1 c33 c53 c98 ex117)⟩ (mu_up (q92 i1 c33 c53 c98 ex117) (q93 i1 c33 c53 c98 ex117))
                    · refine u_X4_next_195 ?_
                      refine ⟨o_v0, ?_⟩
                      intro x118 ex118
                      have hI := iv_sJ (j := 8) (v := x118) hI o_v0 (by decide)
                      refine u_X4_next_201 ?_
                      refine ⟨o_v0, ?_⟩
                      intro x119 ex119
                      have r_x119 : (0 : Int32) ≤ x119 ∧ x119 ≤ (900 : Int32) := by rw [ex119]; exact nu 7 rfl hI o_v0
                      intro x120 ex120
                      have hI := iv_sI (j := 4) (v := x120) hI o_v0 (by decide) (nu_one (lo := (0 : Int32)) (hi := (900 : Int32)) (by decide) (q87 c33 r_x119 ex120))
                      intro x121 ex121
                      exact ih32 _ _ _ _ _ _ ⟨hI, gL21, rfl, rfl, rfl, rfl, hT, (q91 i1 c33 c53 c98 ex121)⟩ (mu_up (q92 i1 c33 c53 c98 ex121) (q93 i1 c33 c53 c98 ex121))
        · refine u_X4_next_114 ?_
          refine i_X4_next_118 (fun (y0 : Nat) (y1 : Int32) (y2 : Int32) (y3 : Int32) (y4 : Int32) (Z : HS) => ((2147483647 : Int32).toInt - y4.toInt).toNat) (fun (y0 : Nat) (y1 : Int32) (y2 : Int32) (y3 : Int32) (y4 : Int32) (Z : HS) => (IV Z) ∧ (Gr (sJ (sI (sI S1 v0 7 x9) v0 6 x11) v0 8 (0 : Int64)) Z) ∧ (v0 = y0) ∧ ((1 : Int32) = y1) ∧ ((3 : Int32) = y2) ∧ ((32 : Int32) = y3) ∧ (TX Z v0) ∧ (0 ≤ y4)) ?_ _ _ _ _ _ _ ⟨hI, (gr_rf _), rfl, rfl, rfl, rfl, hT, (q43)⟩
          intro w124 w126 w128 w130 w132 S122 X133 ⟨hI, gL123, q125, q127, q129, q131, hT, i1⟩ ih134
          subst q125
          subst q127
          subst q129
          subst q131
          have o_v0 := gr_ob gL123 o_v0
          have g0 := gr_tr g0 gL123
          have gL2 := gr_tr gL2 gL123
          refine u_X4_next_118 ?_
          refine ⟨fun c135 => ?_, fun c135 => ?_⟩
          · refine u_X4_next_217 ?_
            refine ⟨fun c136 => ?_, fun c136 => ?_⟩
            · refine u_X4_next_240 ?_
              refine ⟨fun c137 => ?_, fun c137 => ?_⟩
              · exact hq _ hI g0 hT
              · refine ⟨o_v0, ?_⟩
                intro x138 ex138
                refine ⟨fun c139 => ?_, fun c139 => ?_⟩
                · exact hq _ hI g0 hT
                · intro x140 ex140
                  have r_x140 : (0 : Int32) ≤ x140 ∧ x140 ≤ (900 : Int32) := by rw [ex140]; exact nu 7 rfl hI o_v0
                  intro x141 ex141
                  have hI := iv_sI (j := 4) (v := x141) hI o_v0 (by decide) (nu_one (lo := (0 : Int32)) (hi := (900 : Int32)) (by decide) (q83 c135 c136 c137 r_x140 ex141))
                  exact hq _ hI g0 hT
            · refine ⟨o_v0, ?_⟩
              intro x142 ex142
              have r_x142 : (0 : Int32) ≤ x142 ∧ x142 ≤ (900 : Int32) := by rw [ex142]; exact nu 7 rfl hI o_v0
              intro x143 ex143
              refine ⟨fun c144 => ?_, fun c144 => ?_⟩
              · refine u_X4_next_240 ?_
                refine ⟨fun c145 => ?_, fun c145 => ?_⟩
                · exact hq _ hI g0 hT
                · refine ⟨o_v0, ?_⟩
                  intro x146 ex146
                  refine ⟨fun c147 => ?_, fun c147 => ?_⟩
                  · exact hq _ hI g0 hT
                  · intro x148 ex148
                    have r_x148 : (0 : Int32) ≤ x148 ∧ x148 ≤ (900 : Int32) := by rw [ex148]; exact nu 7 rfl hI o_v0
                    intro x149 ex149
                    have hI := iv_sI (j := 4) (v := x149) hI o_v0 (by decide) (nu_one (lo := (0 : Int32)) (hi := (900 : Int32)) (by decide) (q84 c135 c136 c145 r_x148 ex149))
                    exact hq _ hI g0 hT
              · have hI := iv_sI (j := 6) (v := (6 : Int32)) hI o_v0 (by decide) (nu_free (by decide))
                refine u_X4_next_240 ?_
                refine ⟨fun c150 => ?_, fun c150 => ?_⟩
                · exact hq _ hI g0 hT
                · refine ⟨o_v0, ?_⟩
                  intro x151 ex151
                  refine ⟨fun c152 => ?_, fun c152 => ?_⟩
                  · exact hq _ hI g0 hT
                  · intro x153 ex153
                    have r_x153 : (0 : Int32) ≤ x153 ∧ x153 ≤ (900 : Int32) := by rw [ex153]; exact nu 7 rfl hI o_v0
                    intro x154 ex154
                    have hI := iv_sI (j := 4) (v := x154) hI o_v0 (by decide) (nu_one (lo := (0 : Int32)) (hi := (900 : Int32)) (by decide) (q84 c135 c136 c150 r_x153 ex154))
                    exact hq _ hI g0 hT
          · refine ⟨fun c155 => ?_, fun c155 => ?_⟩
            · refine u_X4_next_217 ?_
              refine ⟨fun c156 => ?_, fun c156 => ?_⟩
              · refine u_X4_next_240 ?_
                refine ⟨fun c157 => ?_, fun c157 => ?_⟩
                · exact hq _ hI g0 hT
                · refine ⟨o_v0, ?_⟩
                  intro x158 ex158
                  refine ⟨fun c159 => ?_, fun c159 => ?_⟩
                  · exact hq _ hI g0 hT
                  · intro x160 ex160
                    have r_x160 : (0 : Int32) ≤ x160 ∧ x160 ≤ (900 : Int32) := by rw [ex160]; exact nu 7 rfl hI o_v0
                    intro x161 ex161
                    have hI := iv_sI (j := 4) (v := x161) hI o_v0 (by decide) (nu_one (lo := (0 : Int32)) (hi := (900 : Int32)) (by decide) (q85 c135 c156 c157 r_x160 ex161))
                    exact hq _ hI g0 hT
              · refine ⟨o_v0, ?_⟩
                intro x162 ex162
                have r_x162 : (0 : Int32) ≤ x162 ∧ x162 ≤ (900 : Int32) := by rw [ex162]; exact nu 7 rfl hI o_v0
                intro x163 ex163
                refine ⟨fun c164 => ?_, fun c164 => ?_⟩
                · refine u_X4_next_240 ?_
                  refine ⟨fun c165 => ?_, fun c165 => ?_⟩
                  · exact hq _ hI g0 hT
                  · refine ⟨o_v0, ?_⟩
                    intro x166 ex166
                    refine ⟨fun c167 => ?_, fun c167 => ?_⟩
                    · exact hq _ hI g0 hT
                    · intro x168 ex168
                      have r_x168 : (0 : Int32) ≤ x168 ∧ x168 ≤ (900 : Int32) := by rw [ex168]; exact nu 7 rfl hI o_v0
                      intro x169 ex169
                      have hI := iv_sI (j := 4) (v := x169) hI o_v0 (by decide) (nu_one (lo := (0 : Int32)) (hi := (900 : Int32)) (by decide) (q86 c135 c156 c165 r_x168 ex169))
                      exact hq _ hI g0 hT
                · have hI := iv_sI (j := 6) (v := (6 : Int32)) hI o_v0 (by decide) (nu_free (by decide))
                  refine u_X4_next_240 ?_
                  refine ⟨fun c170 => ?_, fun c170 => ?_⟩
                  · exact hq _ hI g0 hT
                  · refine ⟨o_v0, ?_⟩
                    intro x171 ex171
                    refine ⟨fun c172 => ?_, fun c172 => ?_⟩
                    · exact hq _ hI g0 hT
                    · intro x173 ex173
                      have r_x173 : (0 : Int32) ≤ x173 ∧ x173 ≤ (900 : Int32) := by rw [ex173]; exact nu 7 rfl hI o_v0
                      intro x174 ex174
                      have hI := iv_sI (j := 4) (v := x174) hI o_v0 (by decide) (nu_one (lo := (0 : Int32)) (hi := (900 : Int32)) (by decide) (q86 c135 c156 c170 r_x173 ex174))
                      exact hq _ hI g0 hT
            · refine ⟨o_v0, ?_⟩
              intro x175 ex175
              have r_x175 : (0 : Int32) ≤ x175 ∧ x175 ≤ (900 : Int32) := by rw [ex175]; exact nu 7 rfl hI o_v0
              refine m_X4_sortAt hI o_v0 hT (fun x176 S177 hI2 g178 p_x176 => ?_)
              subst p_x176
              intro _
              intro x179 ex179
              refine ⟨fun c180 => ?_, fun c180 => ?_⟩
              · refine u_X4_next_217 ?_
                refine ⟨fun c181 => ?_, fun c181 => ?_⟩
                · refine u_X4_next_240 ?_
                  refine ⟨fun c182 => ?_, fun c182 => ?_⟩
                  · exact hq _ hI g0 hT
                  · refine ⟨o_v0, ?_⟩
                    intro x183 ex183
                    refine ⟨fun c184 => ?_, fun c184 => ?_⟩
                    · exact hq _ hI g0 hT
                    · intro x185 ex185
                      have r_x185 : (0 : Int32) ≤ x185 ∧ x185 ≤ (900 : Int32) := by rw [ex185]; exact nu 7 rfl hI o_v0
                      intro x186 ex186
                      have hI := iv_sI (j := 4) (v := x186) hI o_v0 (by decide) (nu_one (lo := (0 : Int32)) (hi := (900 : Int32)) (by decide) (q85 c135 c181 c182 r_x185 ex186))
                      exact hq _ hI g0 hT
                · refine ⟨o_v0, ?_⟩
                  intro x187 ex187
                  have r_x187 : (0 : Int32) ≤ x187 ∧ x187 ≤ (900 : Int32) := by rw [ex187]; exact nu 7 rfl hI o_v0
                  intro x188 ex188
                  refine ⟨fun c189 => ?_, fun c189 => ?_⟩
                  · refine u_X4_next_240 ?_
                    refine ⟨fun c190 => ?_, fun c190 => ?_⟩
                    · exact hq _ hI g0 hT
                    · refine ⟨o_v0, ?_⟩
                      intro x191 ex191
                      refine ⟨fun c192 => ?_, fun c192 => ?_⟩
                      · exact hq _ hI g0 hT
                      · intro x193 ex193
                        have r_x193 : (0 : Int32) ≤ x193 ∧ x193 ≤ (900 : Int32) := by rw [ex193]; exact nu 7 rfl hI o_v0
                        intro x194 ex194
                        have hI := iv_sI (j := 4) (v := x194) hI o_v0 (by decide) (nu_one (lo := (0 : Int32)) (hi := (900 : Int32)) (by decide) (q86 c135 c181 c190 r_x193 ex194))
                        exact hq _ hI g0 hT
                  · have hI := iv_sI (j := 6) (v := (6 : Int32)) hI o_v0 (by decide) (nu_free (by decide))
                    refine u_X4_next_240 ?_
                    refine ⟨fun c195 => ?_, fun c195 => ?_⟩
                    · exact hq _ hI g0 hT
                    · refine ⟨o_v0, ?_⟩
                      intro x196 ex196
                      refine ⟨fun c197 => ?_, fun c197 => ?_⟩
                      · exact hq _ hI g0 hT
                      · intro x198 ex198
                        have r_x198 : (0 : Int32) ≤ x198 ∧ x198 ≤ (900 : Int32) := by rw [ex198]; exact nu 7 rfl hI o_v0
                        intro x199 ex199
                        have hI := iv_sI (j := 4) (v := x199) hI o_v0 (by decide) (nu_one (lo := (0 : Int32)) (hi := (900 : Int32)) (by decide) (q86 c135 c181 c195 r_x198 ex199))
                        exact hq _ hI g0 hT
              · refine ⟨fun c200 => ?_, fun c200 => ?_⟩
                · refine u_X4_next_201 ?_
                  refine ⟨o_v0, ?_⟩
                  intro x201 ex201
                  have r_x201 : (0 : Int32) ≤ x201 ∧ x201 ≤ (900 : Int32) := by rw [ex201]; exact nu 7 rfl hI o_v0
                  intro x202 ex202
                  have hI := iv_sI (j := 4) (v := x202) hI o_v0 (by decide) (nu_one (lo := (0 : Int32)) (hi := (900 : Int32)) (by decide) (q87 c135 r_x201 ex202))
                  intro x203 ex203
                  exact ih134 _ _ _ _ _ _ ⟨hI, gL123, rfl, rfl, rfl, rfl, hT, (q88 i1 c135 c155 c200 ex203)⟩ (mu_up (q89 i1 c135 c155 c200 ex203) (q90 i1 c135 c155 c200 ex203))
                · intro x204 ex204
                  have r_x204 : (0 : Int32) ≤ x204 ∧ x204 ≤ (900 : Int32) := by rw [ex204]; exact nu 7 rfl hI o_v0
                  obtain ⟨a205, ea205, o_a205, l_a205⟩ := hT
                  refine ⟨a205, ea205, ?_⟩
                  refine ⟨o_a205, ?_⟩
                  have n_a205 : nI (hN S122 a205) = 900 := by rw [show hN S122 a205 = 900 from l_a205]; decide
                  refine ⟨fun c206 => ?_, fun c206 => ?_⟩
                  · rw [n_a205] at c206
                    refine u_X4_next_201 ?_
                    refine ⟨o_v0, ?_⟩
                    intro x207 ex207
                    have r_x207 : (0 : Int32) ≤ x207 ∧ x207 ≤ (900 : Int32) := by rw [ex207]; exact nu 7 rfl hI o_v0
                    intro x208 ex208
                    have hI := iv_sI (j := 4) (v := x208) hI o_v0 (by decide) (nu_one (lo := (0 : Int32)) (hi := (900 : Int32)) (by decide) (q87 c135 r_x207 ex208))
                    intro x209 ex209
                    exact ih134 _ _ _ _ _ _ ⟨hI, gL123, rfl, rfl, rfl, rfl, hT, (q91 i1 c135 c155 c200 ex209)⟩ (mu_up (q92 i1 c135 c155 c200 ex209) (q93 i1 c135 c155 c200 ex209))
                  · rw [n_a205] at c206
                    intro x210 ex210
                    obtain ⟨a211, ea211, o_a211, l_a211⟩ := hT
                    refine ⟨a211, ea211, ?_⟩
                    intro x212 ex212
                    have r_x212 : (0 : Int32) ≤ x212 ∧ x212 ≤ (900 : Int32) := by rw [ex212]; exact nu 7 rfl hI o_v0
                    refine ⟨o_a211, ?_⟩
                    refine ⟨(vin l_a211 (m := 900) (by decide) (q94 c135 r_x212)), ?_⟩
                    intro x213 ex213
                    intro x214 ex214
                    refine ⟨fun c215 => ?_, fun c215 => ?_⟩
                    · refine u_X4_next_195 ?_
                      refine ⟨o_v0, ?_⟩
                      intro x216 ex216
                      have hI := iv_sJ (j := 8) (v := x216) hI o_v0 (by decide)
                      refine u_X4_next_201 ?_
                      refine ⟨o_v0, ?_⟩
                      intro x217 ex217
                      have r_x217 : (0 : Int32) ≤ x217 ∧ x217 ≤ (900 : Int32) := by rw [ex217]; exact nu 7 rfl hI o_v0
                      intro x218 ex218
                      have hI := iv_sI (j := 4) (v := x218) hI o_v0 (by decide) (nu_one (lo := (0 : Int32)) (hi := (900 : Int32)) (by decide) (q87 c135 r_x217 ex218))
                      intro x219 ex219
                      exact ih134 _ _ _ _ _ _ ⟨hI, gL123, rfl, rfl, rfl, rfl, hT, (q91 i1 c135 c155 c200 ex219)⟩ (mu_up (q92 i1 c135 c155 c200 ex219) (q93 i1 c135 c155 c200 ex219))
                    · refine u_X4_next_195 ?_
                      refine ⟨o_v0, ?_⟩
                      intro x220 ex220
                      have hI := iv_sJ (j := 8) (v := x220) hI o_v0 (by decide)
                      refine u_X4_next_201 ?_
                      refine ⟨o_v0, ?_⟩
                      intro x221 ex221
                      have r_x221 : (0 : Int32) ≤ x221 ∧ x221 ≤ (900 : Int32) := by rw [ex221]; exact nu 7 rfl hI o_v0
                      intro x222 ex222
                      have hI := iv_sI (j := 4) (v := x222) hI o_v0 (by decide) (nu_one (lo := (0 : Int32)) (hi := (900 : Int32)) (by decide) (q87 c135 r_x221 ex222))
                      intro x223 ex223
                      exact ih134 _ _ _ _ _ _ ⟨hI, gL123, rfl, rfl, rfl, rfl, hT, (q91 i1 c135 c155 c200 ex223)⟩ (mu_up (q92 i1 c135 c155 c200 ex223) (q93 i1 c135 c155 c200 ex223))
      · refine u_X4_next_98 ?_
        refine ⟨o_v0, ?_⟩
        intro x224 ex224
        refine ⟨fun c225 => ?_, fun c225 => ?_⟩
        · refine u_X4_next_114 ?_
          refine i_X4_next_118 (fun (y0 : Nat) (y1 : Int32) (y2 : Int32) (y3 : Int32) (y4 : Int32) (Z : HS) => ((2147483647 : Int32).toInt - y4.toInt).toNat) (fun (y0 : Nat) (y1 : Int32) (y2 : Int32) (y3 : Int32) (y4 : Int32) (Z : HS) => (IV Z) ∧ (Gr (sJ (sI (sI S1 v0 7 x9) v0 6 x11) v0 8 (0 : Int64)) Z) ∧ (v0 = y0) ∧ ((1 : Int32) = y1) ∧ ((8 : Int32) = y2) ∧ ((10 : Int32) = y3) ∧ (TX Z v0) ∧ (0 ≤ y4)) ?_ _ _ _ _ _ _ ⟨hI, (gr_rf _), rfl, rfl, rfl, rfl, hT, (q43)⟩
          intro w228 w230 w232 w234 w236 S226 X237 ⟨hI, gL227, q229, q231, q233, q235, hT, i1⟩ ih238
          subst q229
          subst q231
          subst q233
          subst q235
          have o_v0 := gr_ob gL227 o_v0
          have g0 := gr_tr g0 gL227
          have gL2 := gr_tr gL2 gL227
          refine u_X4_next_118 ?_
          refine ⟨fun c239 => ?_, fun c239 => ?_⟩
          · refine u_X4_next_217 ?_
            refine ⟨fun c240 => ?_, fun c240 => ?_⟩
            · refine u_X4_next_240 ?_
              refine ⟨fun c241 => ?_, fun c241 => ?_⟩
              · exact hq _ hI g0 hT
              · refine ⟨o_v0, ?_⟩
                intro x242 ex242
                refine ⟨fun c243 => ?_, fun c243 => ?_⟩
                · exact hq _ hI g0 hT
                · intro x244 ex244
                  have r_x244 : (0 : Int32) ≤ x244 ∧ x244 ≤ (900 : Int32) := by rw [ex244]; exact nu 7 rfl hI o_v0
                  intro x245 ex245
                  have hI := iv_sI (j := 4) (v := x245) hI o_v0 (by decide) (nu_one (lo := (0 : Int32)) (hi := (900 : Int32)) (by decide) (q83 c239 c240 c241 r_x244 ex245))
                  exact hq _ hI g0 hT
            · refine ⟨o_v0, ?_⟩
              intro x246 ex246
              have r_x246 : (0 : Int32) ≤ x246 ∧ x246 ≤ (900 : Int32) := by rw [ex246]; exact nu 7 rfl hI o_v0
              intro x247 ex247
              refine ⟨fun c248 => ?_, fun c248 => ?_⟩
              · refine u_X4_next_240 ?_
                refine ⟨fun c249 => ?_, fun c249 => ?_⟩
                · exact hq _ hI g0 hT
                · refine ⟨o_v0, ?_⟩
                  intro x250 ex250
                  refine ⟨fun c251 => ?_, fun c251 => ?_⟩
                  · exact hq _ hI g0 hT
                  · intro x252 ex252
                    have r_x252 : (0 : Int32) ≤ x252 ∧ x252 ≤ (900 : Int32) := by rw [ex252]; exact nu 7 rfl hI o_v0
                    intro x253 ex253
                    have hI := iv_sI (j := 4) (v := x253) hI o_v0 (by decide) (nu_one (lo := (0 : Int32)) (hi := (900 : Int32)) (by decide) (q84 c239 c240 c249 r_x252 ex253))
                    exact hq _ hI g0 hT
              · have hI := iv_sI (j := 6) (v := (6 : Int32)) hI o_v0 (by decide) (nu_free (by decide))
                refine u_X4_next_240 ?_
                refine ⟨fun c254 => ?_, fun c254 => ?_⟩
                · exact hq _ hI g0 hT
                · refine ⟨o_v0, ?_⟩
                  intro x255 ex255
                  refine ⟨fun c256 => ?_, fun c256 => ?_⟩
                  · exact hq _ hI g0 hT
                  · intro x257 ex257
                    have r_x257 : (0 : Int32) ≤ x257 ∧ x257 ≤ (900 : Int32) := by rw [ex257]; exact nu 7 rfl hI o_v0
                    intro x258 ex258
                    have hI := iv_sI (j := 4) (v := x258) hI o_v0 (by decide) (nu_one (lo := (0 : Int32)) (hi := (900 : Int32)) (by decide) (q84 c239 c240 c254 r_x257 ex258))
                    exact hq _ hI g0 hT
          · refine ⟨fun c259 => ?_, fun c259 => ?_⟩
            · refine u_X4_next_217 ?_
              refine ⟨fun c260 => ?_, fun c260 => ?_⟩
              · refine u_X4_next_240 ?_
                refine ⟨fun c261 => ?_, fun c261 => ?_⟩
                · exact hq _ hI g0 hT
                · refine ⟨o_v0, ?_⟩
                  intro x262 ex262
                  refine ⟨fun c263 => ?_, fun c263 => ?_⟩
                  · exact hq _ hI g0 hT
                  · intro x264 ex264
                    have r_x264 : (0 : Int32) ≤ x264 ∧ x264 ≤ (900 : Int32) := by rw [ex264]; exact nu 7 rfl hI o_v0
                    intro x265 ex265
                    have hI := iv_sI (j := 4) (v := x265) hI o_v0 (by decide) (nu_one (lo := (0 : Int32)) (hi := (900 : Int32)) (by decide) (q85 c239 c260 c261 r_x264 ex265))
                    exact hq _ hI g0 hT
              · refine ⟨o_v0, ?_⟩
                intro x266 ex266
                have r_x266 : (0 : Int32) ≤ x266 ∧ x266 ≤ (900 : Int32) := by rw [ex266]; exact nu 7 rfl hI o_v0
                intro x267 ex267
                refine ⟨fun c268 => ?_, fun c268 => ?_⟩
                · refine u_X4_next_240 ?_
                  refine ⟨fun c269 => ?_, fun c269 => ?_⟩
                  · exact hq _ hI g0 hT
                  · refine ⟨o_v0, ?_⟩
                    intro x270 ex270
                    refine ⟨fun c271 => ?_, fun c271 => ?_⟩
                    · exact hq _ hI g0 hT
                    · intro x272 ex272
                      have r_x272 : (0 : Int32) ≤ x272 ∧ x272 ≤ (900 : Int32) := by rw [ex272]; exact nu 7 rfl hI o_v0
                      intro x273 ex273
                      have hI := iv_sI (j := 4) (v := x273) hI o_v0 (by decide) (nu_one (lo := (0 : Int32)) (hi := (900 : Int32)) (by decide) (q86 c239 c260 c269 r_x272 ex273))
                      exact hq _ hI g0 hT
                · have hI := iv_sI (j := 6) (v := (6 : Int32)) hI o_v0 (by decide) (nu_free (by decide))
                  refine u_X4_next_240 ?_
                  refine ⟨fun c274 => ?_, fun c274 => ?_⟩
                  · exact hq _ hI g0 hT
                  · refine ⟨o_v0, ?_⟩
                    intro x275 ex275
                    refine ⟨fun c276 => ?_, fun c276 => ?_⟩
                    · exact hq _ hI g0 hT
                    · intro x277 ex277
                      have r_x277 : (0 : Int32) ≤ x277 ∧ x277 ≤ (900 : Int32) := by rw [ex277]; exact nu 7 rfl hI o_v0
                      intro x278 ex278
                      have hI := iv_sI (j := 4) (v := x278) hI o_v0 (by decide) (nu_one (lo := (0 : Int32)) (hi := (900 : Int32)) (by decide) (q86 c239 c260 c274 r_x277 ex278))
                      exact hq _ hI g0 hT
            · refine ⟨o_v0, ?_⟩
              intro x279 ex279
              have r_x279 : (0 : Int32) ≤ x279 ∧ x279 ≤ (900 : Int32) := by rw [ex279]; exact nu 7 rfl hI o_v0
              refine m_X4_sortAt hI o_v0 hT (fun x280 S281 hI2 g282 p_x280 => ?_)
              subst p_x280
              intro _
              intro x283 ex283
              refine ⟨fun c284 => ?_, fun c284 => ?_⟩
              · refine u_X4_next_217 ?_
                refine ⟨fun c285 => ?_, fun c285 => ?_⟩
                · refine u_X4_next_240 ?_
                  refine ⟨fun c286 => ?_, fun c286 => ?_⟩
                  · exact hq _ hI g0 hT
                  · refine ⟨o_v0, ?_⟩
                    intro x287 ex287
                    refine ⟨fun c288 => ?_, fun c288 => ?_⟩
                    · exact hq _ hI g0 hT
                    · intro x289 ex289
                      have r_x289 : (0 : Int32) ≤ x289 ∧ x289 ≤ (900 : Int32) := by rw [ex289]; exact nu 7 rfl hI o_v0
                      intro x290 ex290
                      have hI := iv_sI (j := 4) (v := x290) hI o_v0 (by decide) (nu_one (lo := (0 : Int32)) (hi := (900 : Int32)) (by decide) (q85 c239 c285 c286 r_x289 ex290))
                      exact hq _ hI g0 hT
                · refine ⟨o_v0, ?_⟩
                  intro x291 ex291
                  have r_x291 : (0 : Int32) ≤ x291 ∧ x291 ≤ (900 : Int32) := by rw [ex291]; exact nu 7 rfl hI o_v0
                  intro x292 ex292
                  refine ⟨fun c293 => ?_, fun c293 => ?_⟩
                  · refine u_X4_next_240 ?_
                    refine ⟨fun c294 => ?_, fun c294 => ?_⟩
                    · exact hq _ hI g0 hT
                    · refine ⟨o_v0, ?_⟩
                      intro x295 ex295
                      refine ⟨fun c296 => ?_, fun c296 => ?_⟩
                      · exact hq _ hI g0 hT
                      · intro x297 ex297
                        have r_x297 : (0 : Int32) ≤ x297 ∧ x297 ≤ (900 : Int32) := by rw [ex297]; exact nu 7 rfl hI o_v0
                        intro x298 ex298
                        have hI := iv_sI (j := 4) (v := x298) hI o_v0 (by decide) (nu_one (lo := (0 : Int32)) (hi := (900 : Int32)) (by decide) (q86 c239 c285 c294 r_x297 ex298))
                        exact hq _ hI g0 hT
                  · have hI := iv_sI (j := 6) (v := (6 : Int32)) hI o_v0 (by decide) (nu_free (by decide))
                    refine u_X4_next_240 ?_
                    refine ⟨fun c299 => ?_, fun c299 => ?_⟩
                    · exact hq _ hI g0 hT
                    · refine ⟨o_v0, ?_⟩
                      intro x300 ex300
                      refine ⟨fun c301 => ?_, fun c301 => ?_⟩
                      · exact hq _ hI g0 hT
                      · intro x302 ex302
                        have r_x302 : (0 : Int32) ≤ x302 ∧ x302 ≤ (900 : Int32) := by rw [ex302]; exact nu 7 rfl hI o_v0
                        intro x303 ex303
                        have hI := iv_sI (j := 4) (v := x303) hI o_v0 (by decide) (nu_one (lo := (0 : Int32)) (hi := (900 : Int32)) (by decide) (q86 c239 c285 c299 r_x302 ex303))
                        exact hq _ hI g0 hT
              · refine ⟨fun c304 => ?_, fun c304 => ?_⟩
                · refine u_X4_next_201 ?_
                  refine ⟨o_v0, ?_⟩
                  intro x305 ex305
                  have r_x305 : (0 : Int32) ≤ x305 ∧ x305 ≤ (900 : Int32) := by rw [ex305]; exact nu 7 rfl hI o_v0
                  intro x306 ex306
                  have hI := iv_sI (j := 4) (v := x306) hI o_v0 (by decide) (nu_one (lo := (0 : Int32)) (hi := (900 : Int32)) (by decide) (q87 c239 r_x305 ex306))
                  intro x307 ex307
                  exact ih238 _ _ _ _ _ _ ⟨hI, gL227, rfl, rfl, rfl, rfl, hT, (q95 i1 c239 c259 c304 ex307)⟩ (mu_up (q96 i1 c239 c259 c304 ex307) (q97 i1 c239 c259 c304 ex307))
                · intro x308 ex308
                  have r_x308 : (0 : Int32) ≤ x308 ∧ x308 ≤ (900 : Int32) := by rw [ex308]; exact nu 7 rfl hI o_v0
                  obtain ⟨a309, ea309, o_a309, l_a309⟩ := hT
                  refine ⟨a309, ea309, ?_⟩
                  refine ⟨o_a309, ?_⟩
                  have n_a309 : nI (hN S226 a309) = 900 := by rw [show hN S226 a309 = 900 from l_a309]; decide
                  refine ⟨fun c310 => ?_, fun c310 => ?_⟩
                  · rw [n_a309] at c310
                    refine u_X4_next_201 ?_
                    refine ⟨o_v0, ?_⟩
                    intro x311 ex311
                    have r_x311 : (0 : Int32) ≤ x311 ∧ x311 ≤ (900 : Int32) := by rw [ex311]; exact nu 7 rfl hI o_v0
                    intro x312 ex312
                    have hI := iv_sI (j := 4) (v := x312) hI o_v0 (by decide) (nu_one (lo := (0 : Int32)) (hi := (900 : Int32)) (by decide) (q87 c239 r_x311 ex312))
                    intro x313 ex313
                    exact ih238 _ _ _ _ _ _ ⟨hI, gL227, rfl, rfl, rfl, rfl, hT, (q98 i1 c239 c259 c304 ex313)⟩ (mu_up (q99 i1 c239 c259 c304 ex313) (q100 i1 c239 c259 c304 ex313))
                  · rw [n_a309] at c310
                    intro x314 ex314
                    obtain ⟨a315, ea315, o_a315, l_a315⟩ := hT
                    refine ⟨a315, ea315, ?_⟩
                    intro x316 ex316
                    have r_x316 : (0 : Int32) ≤ x316 ∧ x316 ≤ (900 : Int32) := by rw [ex316]; exact nu 7 rfl hI o_v0
                    refine ⟨o_a315, ?_⟩
                    refine ⟨(vin l_a315 (m := 900) (by decide) (q94 c239 r_x316)), ?_⟩
                    intro x317 ex317
                    intro x318 ex318
                    refine ⟨fun c319 => ?_, fun c319 => ?_⟩
                    · refine u_X4_next_195 ?_
                      refine ⟨o_v0, ?_⟩
                      intro x320 ex320
                      have hI := iv_sJ (j := 8) (v := x320) hI o_v0 (by decide)
                      refine u_X4_next_201 ?_
                      refine ⟨o_v0, ?_⟩
                      intro x321 ex321
                      have r_x321 : (0 : Int32) ≤ x321 ∧ x321 ≤ (900 : Int32) := by rw [ex321]; exact nu 7 rfl hI o_v0
                      intro x322 ex322
                      have hI := iv_sI (j := 4) (v := x322) hI o_v0 (by decide) (nu_one (lo := (0 : Int32)) (hi := (900 : Int32)) (by decide) (q87 c239 r_x321 ex322))
                      intro x323 ex323
                      exact ih238 _ _ _ _ _ _ ⟨hI, gL227, rfl, rfl, rfl, rfl, hT, (q98 i1 c239 c259 c304 ex323)⟩ (mu_up (q99 i1 c239 c259 c304 ex323) (q100 i1 c239 c259 c304 ex323))
                    · refine u_X4_next_195 ?_
                      refine ⟨o_v0, ?_⟩
                      intro x324 ex324
                      have hI := iv_sJ (j := 8) (v := x324) hI o_v0 (by decide)
                      refine u_X4_next_201 ?_
                      refine ⟨o_v0, ?_⟩
                      intro x325 ex325
                      have r_x325 : (0 : Int32) ≤ x325 ∧ x325 ≤ (900 : Int32) := by rw [ex325]; exact nu 7 rfl hI o_v0
                      intro x326 ex326
                      have hI := iv_sI (j := 4) (v := x326) hI o_v0 (by decide) (nu_one (lo := (0 : Int32)) (hi := (900 : Int32)) (by decide) (q87 c239 r_x325 ex326))
                      intro x327 ex327
                      exact ih238 _ _ _ _ _ _ ⟨hI, gL227, rfl, rfl, rfl, rfl, hT, (q98 i1 c239 c259 c304 ex327)⟩ (mu_up (q99 i1 c239 c259 c304 ex327) (q100 i1 c239 c259 c304 ex327))
        · refine u_X4_next_114 ?_
          refine i_X4_next_118 (fun (y0 : Nat) (y1 : Int32) (y2 : Int32) (y3 : Int32) (y4 : Int32) (Z : HS) => ((2147483647 : Int32).toInt - y4.toInt).toNat) (fun (y0 : Nat) (y1 : Int32) (y2 : Int32) (y3 : Int32) (y4 : Int32) (Z : HS) => (IV Z) ∧ (Gr (sJ (sI (sI S1 v0 7 x9) v0 6 x11) v0 8 (0 : Int64)) Z) ∧ (v0 = y0) ∧ ((1 : Int32) = y1) ∧ ((8 : Int32) = y2) ∧ ((32 : Int32) = y3) ∧ (TX Z v0) ∧ (0 ≤ y4)) ?_ _ _ _ _ _ _ ⟨hI, (gr_rf _), rfl, rfl, rfl, rfl, hT, (q43)⟩
          intro w330 w332 w334 w336 w338 S328 X339 ⟨hI, gL329, q331, q333, q335, q337, hT, i1⟩ ih340
          subst q331
          subst q333
          subst q335
          subst q337
          have o_v0 := gr_ob gL329 o_v0
          have g0 := gr_tr g0 gL329
          have gL2 := gr_tr gL2 gL329
          refine u_X4_next_118 ?_
          refine ⟨fun c341 => ?_, fun c341 => ?_⟩
          · refine u_X4_next_217 ?_
            refine ⟨fun c342 => ?_, fun c342 => ?_⟩
            · refine u_X4_next_240 ?_
              refine ⟨fun c343 => ?_, fun c343 => ?_⟩
              · exact hq _ hI g0 hT
              · refine ⟨o_v0, ?_⟩
                intro x344 ex344
                refine ⟨fun c345 => ?_, fun c345 => ?_⟩
                · exact hq _ hI g0 hT
                · intro x346 ex346
                  have r_x346 : (0 : Int32) ≤ x346 ∧ x346 ≤ (900 : Int32) := by rw [ex346]; exact nu 7 rfl hI o_v0
                  intro x347 ex347
                  have hI := iv_sI (j := 4) (v := x347) hI o_v0 (by decide) (nu_one (lo := (0 : Int32)) (hi := (900 : Int32)) (by decide) (q83 c341 c342 c343 r_x346 ex347))
                  exact hq _ hI g0 hT
            · refine ⟨o_v0, ?_⟩
              intro x348 ex348
              have r_x348 : (0 : Int32) ≤ x348 ∧ x348 ≤ (900 : Int32) := by rw [ex348]; exact nu 7 rfl hI o_v0
              intro x349 ex349
              refine ⟨fun c350 => ?_, fun c350 => ?_⟩
              · refine u_X4_next_240 ?_
                refine ⟨fun c351 => ?_, fun c351 => ?_⟩
                · exact hq _ hI g0 hT
                · refine ⟨o_v0, ?_⟩
                  intro x352 ex352
                  refine ⟨fun c353 => ?_, fun c353 => ?_⟩
                  · exact hq _ hI g0 hT
                  · intro x354 ex354
                    have r_x354 : (0 : Int32) ≤ x354 ∧ x354 ≤ (900 : Int32) := by rw [ex354]; exact nu 7 rfl hI o_v0
                    intro x355 ex355
                    have hI := iv_sI (j := 4) (v := x355) hI o_v0 (by decide) (nu_one (lo := (0 : Int32)) (hi := (900 : Int32)) (by decide) (q84 c341 c342 c351 r_x354 ex355))
                    exact hq _ hI g0 hT
              · have hI := iv_sI (j := 6) (v := (6 : Int32)) hI o_v0 (by decide) (nu_free (by decide))
                refine u_X4_next_240 ?_
                refine ⟨fun c356 => ?_, fun c356 => ?_⟩
                · exact hq _ hI g0 hT
                · refine ⟨o_v0, ?_⟩
                  intro x357 ex357
                  refine ⟨fun c358 => ?_, fun c358 => ?_⟩
                  · exact hq _ hI g0 hT
                  · intro x359 ex359
                    have r_x359 : (0 : Int32) ≤ x359 ∧ x359 ≤ (900 : Int32) := by rw [ex359]; exact nu 7 rfl hI o_v0
                    intro x360 ex360
                    have hI := iv_sI (j := 4) (v := x360) hI o_v0 (by decide) (nu_one (lo := (0 : Int32)) (hi := (900 : Int32)) (by decide) (q84 c341 c342 c356 r_x359 ex360))
                    exact hq _ hI g0 hT
          · refine ⟨fun c361 => ?_, fun c361 => ?_⟩
            · refine u_X4_next_217 ?_
              refine ⟨fun c362 => ?_, fun c362 => ?_⟩
              · refine u_X4_next_240 ?_
                refine ⟨fun c363 => ?_, fun c363 => ?_⟩
                · exact hq _ hI g0 hT
                · refine ⟨o_v0, ?_⟩
                  intro x364 ex364
                  refine ⟨fun c365 => ?_, fun c365 => ?_⟩
                  · exact hq _ hI g0 hT
                  · intro x366 ex366
                    have r_x366 : (0 : Int32) ≤ x366 ∧ x366 ≤ (900 : Int32) := by rw [ex366]; exact nu 7 rfl hI o_v0
                    intro x367 ex367
                    have hI := iv_sI (j := 4) (v := x367) hI o_v0 (by decide) (nu_one (lo := (0 : Int32)) (hi := (900 : Int32)) (by decide) (q85 c341 c362 c363 r_x366 ex367))
                    exact hq _ hI g0 hT
              · refine ⟨o_v0, ?_⟩
                intro x368 ex368
                have r_x368 : (0 : Int32) ≤ x368 ∧ x368 ≤ (900 : Int32) := by rw [ex368]; exact nu 7 rfl hI o_v0
                intro x369 ex369
                refine ⟨fun c370 => ?_, fun c370 => ?_⟩
                · refine u_X4_next_240 ?_
                  refine ⟨fun c371 => ?_, fun c371 => ?_⟩
                  · exact hq _ hI g0 hT
                  · refine ⟨o_v0, ?_⟩
                    intro x372 ex372
                    refine ⟨fun c373 => ?_, fun c373 => ?_⟩
                    · exact hq _ hI g0 hT
                    · intro x374 ex374
                      have r_x374 : (0 : Int32) ≤ x374 ∧ x374 ≤ (900 : Int32) := by rw [ex374]; exact nu 7 rfl hI o_v0
                      intro x375 ex375
                      have hI := iv_sI (j := 4) (v := x375) hI o_v0 (by decide) (nu_one (lo := (0 : Int32)) (hi := (900 : Int32)) (by decide) (q86 c341 c362 c371 r_x374 ex375))
                      exact hq _ hI g0 hT
                · have hI := iv_sI (j := 6) (v := (6 : Int32)) hI o_v0 (by decide) (nu_free (by decide))
                  refine u_X4_next_240 ?_
                  refine ⟨fun c376 => ?_, fun c376 => ?_⟩
                  · exact hq _ hI g0 hT
                  · refine ⟨o_v0, ?_⟩
                    intro x377 ex377
                    refine ⟨fun c378 => ?_, fun c378 => ?_⟩
                    · exact hq _ hI g0 hT
                    · intro x379 ex379
                      have r_x379 : (0 : Int32) ≤ x379 ∧ x379 ≤ (900 : Int32) := by rw [ex379]; exact nu 7 rfl hI o_v0
                      intro x380 ex380
                      have hI := iv_sI (j := 4) (v := x380) hI o_v0 (by decide) (nu_one (lo := (0 : Int32)) (hi := (900 : Int32)) (by decide) (q86 c341 c362 c376 r_x379 ex380))
                      exact hq _ hI g0 hT
            · refine ⟨o_v0, ?_⟩
              intro x381 ex381
              have r_x381 : (0 : Int32) ≤ x381 ∧ x381 ≤ (900 : Int32) := by rw [ex381]; exact nu 7 rfl hI o_v0
              refine m_X4_sortAt hI o_v0 hT (fun x382 S383 hI2 g384 p_x382 => ?_)
              subst p_x382
              intro _
              intro x385 ex385
              refine ⟨fun c386 => ?_, fun c386 => ?_⟩
              · refine u_X4_next_217 ?_
                refine ⟨fun c387 => ?_, fun c387 => ?_⟩
                · refine u_X4_next_240 ?_
                  refine ⟨fun c388 => ?_, fun c388 => ?_⟩
                  · exact hq _ hI g0 hT
                  · refine ⟨o_v0, ?_⟩
                    intro x389 ex389
                    refine ⟨fun c390 => ?_, fun c390 => ?_⟩
                    · exact hq _ hI g0 hT
                    · intro x391 ex391
                      have r_x391 : (0 : Int32) ≤ x391 ∧ x391 ≤ (900 : Int32) := by rw [ex391]; exact nu 7 rfl hI o_v0
                      intro x392 ex392
                      have hI := iv_sI (j := 4) (v := x392) hI o_v0 (by decide) (nu_one (lo := (0 : Int32)) (hi := (900 : Int32)) (by decide) (q85 c341 c387 c388 r_x391 ex392))
                      exact hq _ hI g0 hT
                · refine ⟨o_v0, ?_⟩
                  intro x393 ex393
                  have r_x393 : (0 : Int32) ≤ x393 ∧ x393 ≤ (900 : Int32) := by rw [ex393]; exact nu 7 rfl hI o_v0
                  intro x394 ex394
                  refine ⟨fun c395 => ?_, fun c395 => ?_⟩
                  · refine u_X4_next_240 ?_
                    refine ⟨fun c396 => ?_, fun c396 => ?_⟩
                    · exact hq _ hI g0 hT
                    · refine ⟨o_v0, ?_⟩
                      intro x397 ex397
                      refine ⟨fun c398 => ?_, fun c398 => ?_⟩
                      · exact hq _ hI g0 hT
                      · intro x399 ex399
                        have r_x399 : (0 : Int32) ≤ x399 ∧ x399 ≤ (900 : Int32) := by rw [ex399]; exact nu 7 rfl hI o_v0
                        intro x400 ex400
                        have hI := iv_sI (j := 4) (v := x400) hI o_v0 (by decide) (nu_one (lo := (0 : Int32)) (hi := (900 : Int32)) (by decide) (q86 c341 c387 c396 r_x399 ex400))
                        exact hq _ hI g0 hT
                  · have hI := iv_sI (j := 6) (v := (6 : Int32)) hI o_v0 (by decide) (nu_free (by decide))
                    refine u_X4_next_240 ?_
                    refine ⟨fun c401 => ?_, fun c401 => ?_⟩
                    · exact hq _ hI g0 hT
                    · refine ⟨o_v0, ?_⟩
                      intro x402 ex402
                      refine ⟨fun c403 => ?_, fun c403 => ?_⟩
                      · exact hq _ hI g0 hT
                      · intro x404 ex404
                        have r_x404 : (0 : Int32) ≤ x404 ∧ x404 ≤ (900 : Int32) := by rw [ex404]; exact nu 7 rfl hI o_v0
                        intro x405 ex405
                        have hI := iv_sI (j := 4) (v := x405) hI o_v0 (by decide) (nu_one (lo := (0 : Int32)) (hi := (900 : Int32)) (by decide) (q86 c341 c387 c401 r_x404 ex405))
                        exact hq _ hI g0 hT
              · refine ⟨fun c406 => ?_, fun c406 => ?_⟩
                · refine u_X4_next_201 ?_
                  refine ⟨o_v0, ?_⟩
                  intro x407 ex407
                  have r_x407 : (0 : Int32) ≤ x407 ∧ x407 ≤ (900 : Int32) := by rw [ex407]; exact nu 7 rfl hI o_v0
                  intro x408 ex408
                  have hI := iv_sI (j := 4) (v := x408) hI o_v0 (by decide) (nu_one (lo := (0 : Int32)) (hi := (900 : Int32)) (by decide) (q87 c341 r_x407 ex408))
                  intro x409 ex409
                  exact ih340 _ _ _ _ _ _ ⟨hI, gL329, rfl, rfl, rfl, rfl, hT, (q95 i1 c341 c361 c406 ex409)⟩ (mu_up (q96 i1 c341 c361 c406 ex409) (q97 i1 c341 c361 c406 ex409))
                · intro x410 ex410
                  have r_x410 : (0 : Int32) ≤ x410 ∧ x410 ≤ (900 : Int32) := by rw [ex410]; exact nu 7 rfl hI o_v0
                  obtain ⟨a411, ea411, o_a411, l_a411⟩ := hT
                  refine ⟨a411, ea411, ?_⟩
                  refine ⟨o_a411, ?_⟩
                  have n_a411 : nI (hN S328 a411) = 900 := by rw [show hN S328 a411 = 900 from l_a411]; decide
                  refine ⟨fun c412 => ?_, fun c412 => ?_⟩
                  · rw [n_a411] at c412
                    refine u_X4_next_201 ?_
                    refine ⟨o_v0, ?_⟩
                    intro x413 ex413
                    have r_x413 : (0 : Int32) ≤ x413 ∧ x413 ≤ (900 : Int32) := by rw [ex413]; exact nu 7 rfl hI o_v0
                    intro x414 ex414
                    have hI := iv_sI (j := 4) (v := x414) hI o_v0 (by decide) (nu_one (lo := (0 : Int32)) (hi := (900 : Int32)) (by decide) (q87 c341 r_x413 ex414))
                    intro x415 ex415
                    exact ih340 _ _ _ _ _ _ ⟨hI, gL329, rfl, rfl, rfl, rfl, hT, (q98 i1 c341 c361 c406 ex415)⟩ (mu_up (q99 i1 c341 c361 c406 ex415) (q100 i1 c341 c361 c406 ex415))
                  · rw [n_a411] at c412
                    intro x416 ex416
                    obtain ⟨a417, ea417, o_a417, l_a417⟩ := hT
                    refine ⟨a417, ea417, ?_⟩
                    intro x418 ex418
                    have r_x418 : (0 : Int32) ≤ x418 ∧ x418 ≤ (900 : Int32) := by rw [ex418]; exact nu 7 rfl hI o_v0
                    refine ⟨o_a417, ?_⟩
                    refine ⟨(vin l_a417 (m := 900) (by decide) (q94 c341 r_x418)), ?_⟩
                    intro x419 ex419
                    intro x420 ex420
                    refine ⟨fun c421 => ?_, fun c421 => ?_⟩
                    · refine u_X4_next_195 ?_
                      refine ⟨o_v0, ?_⟩
                      intro x422 ex422
                      have hI := iv_sJ (j := 8) (v := x422) hI o_v0 (by decide)
                      refine u_X4_next_201 ?_
                      refine ⟨o_v0, ?_⟩
                      intro x423 ex423
                      have r_x423 : (0 : Int32) ≤ x423 ∧ x423 ≤ (900 : Int32) := by rw [ex423]; exact nu 7 rfl hI o_v0
                      intro x424 ex424
                      have hI := iv_sI (j := 4) (v := x424) hI o_v0 (by decide) (nu_one (lo := (0 : Int32)) (hi := (900 : Int32)) (by decide) (q87 c341 r_x423 ex424))
                      intro x425 ex425
                      exact ih340 _ _ _ _ _ _ ⟨hI, gL329, rfl, rfl, rfl, rfl, hT, (q98 i1 c341 c361 c406 ex425)⟩ (mu_up (q99 i1 c341 c361 c406 ex425) (q100 i1 c341 c361 c406 ex425))
                    · refine u_X4_next_195 ?_
                      refine ⟨o_v0, ?_⟩
                      intro x426 ex426
                      have hI := iv_sJ (j := 8) (v := x426) hI o_v0 (by decide)
                      refine u_X4_next_201 ?_
                      refine ⟨o_v0, ?_⟩
                      intro x427 ex427
                      have r_x427 : (0 : Int32) ≤ x427 ∧ x427 ≤ (900 : Int32) := by rw [ex427]; exact nu 7 rfl hI o_v0
                      intro x428 ex428
                      have hI := iv_sI (j := 4) (v := x428) hI o_v0 (by decide) (nu_one (lo := (0 : Int32)) (hi := (900 : Int32)) (by decide) (q87 c341 r_x427 ex428))
                      intro x429 ex429
                      exact ih340 _ _ _ _ _ _ ⟨hI, gL329, rfl, rfl, rfl, rfl, hT, (q98 i1 c341 c361 c406 ex429)⟩ (mu_up (q99 i1 c341 c361 c406 ex429) (q100 i1 c341 c361 c406 ex429))
    · intro x430 ex430
      refine ⟨fun c431 => ?_, fun c431 => ?_⟩
      · refine u_X4_next_83 ?_
        refine ⟨o_v0, ?_⟩
        intro x432 ex432
        refine ⟨fun c433 => ?_, fun c433 => ?_⟩
        · refine u_X4_next_98 ?_
          refine ⟨o_v0, ?_⟩
          intro x434 ex434
          refine ⟨fun c435 => ?_, fun c435 => ?_⟩
          · refine u_X4_next_114 ?_
            refine i_X4_next_118 (fun (y0 : Nat) (y1 : Int32) (y2 : Int32) (y3 : Int32) (y4 : Int32) (Z : HS) => ((2147483647 : Int32).toInt - y4.toInt).toNat) (fun (y0 : Nat) (y1 : Int32) (y2 : Int32) (y3 : Int32) (y4 : Int32) (Z : HS) => (IV Z) ∧ (Gr (sJ (sI (sI S1 v0 7 x9) v0 6 x11) v0 8 (0 : Int64)) Z) ∧ (v0 = y0) ∧ ((0 : Int32) = y1) ∧ ((3 : Int32) = y2) ∧ ((10 : Int32) = y3) ∧ (TX Z v0) ∧ (0 ≤ y4)) ?_ _ _ _ _ _ _ ⟨hI, (gr_rf _), rfl, rfl, rfl, rfl, hT, (q43)⟩
            intro w438 w440 w442 w444 w446 S436 X447 ⟨hI, gL437, q439, q441, q443, q445, hT, i1⟩ ih448
            subst q439
            subst q441
            subst q443
            subst q445
            have o_v0 := gr_ob gL437 o_v0
            have g0 := gr_tr g0 gL437
            have gL2 := gr_tr gL2 gL437
            refine u_X4_next_118 ?_
            refine ⟨fun c449 => ?_, fun c449 => ?_⟩
            · refine u_X4_next_217 ?_
              refine ⟨fun c450 => ?_, fun c450 => ?_⟩
              · refine u_X4_next_240 ?_
                refine ⟨fun c451 => ?_, fun c451 => ?_⟩
                · exact hq _ hI g0 hT
                · refine ⟨o_v0, ?_⟩
                  intro x452 ex452
                  refine ⟨fun c453 => ?_, fun c453 => ?_⟩
                  · exact hq _ hI g0 hT
                  · intro x454 ex454
                    have r_x454 : (0 : Int32) ≤ x454 ∧ x454 ≤ (900 : Int32) := by rw [ex454]; exact nu 7 rfl hI o_v0
                    intro x455 ex455
                    have hI := iv_sI (j := 4) (v := x455) hI o_v0 (by decide) (nu_one (lo := (0 : Int32)) (hi := (900 : Int32)) (by decide) (q101 c449 c450 c451 r_x454 ex455))
                    exact hq _ hI g0 hT
              · refine ⟨o_v0, ?_⟩
                intro x456 ex456
                have r_x456 : (0 : Int32) ≤ x456 ∧ x456 ≤ (900 : Int32) := by rw [ex456]; exact nu 7 rfl hI o_v0
                intro x457 ex457
                refine ⟨fun c458 => ?_, fun c458 => ?_⟩
                · refine u_X4_next_240 ?_
                  refine ⟨fun c459 => ?_, fun c459 => ?_⟩
                  · exact hq _ hI g0 hT
                  · refine ⟨o_v0, ?_⟩
                    intro x460 ex460
                    refine ⟨fun c461 => ?_, fun c461 => ?_⟩
                    · exact hq _ hI g0 hT
                    · intro x462 ex462
                      have r_x462 : (0 : Int32) ≤ x462 ∧ x462 ≤ (900 : Int32) := by rw [ex462]; exact nu 7 rfl hI o_v0
                      intro x463 ex463
                      have hI := iv_sI (j := 4) (v := x463) hI o_v0 (by decide) (nu_one (lo := (0 : Int32)) (hi := (900 : Int32)) (by decide) (q102 c449 c450 c459 r_x462 ex463))
                      exact hq _ hI g0 hT
                · have hI := iv_sI (j := 6) (v := (6 : Int32)) hI o_v0 (by decide) (nu_free (by decide))
                  refine u_X4_next_240 ?_
                  refine ⟨fun c464 => ?_, fun c464 => ?_⟩
                  · exact hq _ hI g0 hT
                  · refine ⟨o_v0, ?_⟩
                    intro x465 ex465
                    refine ⟨fun c466 => ?_, fun c466 => ?_⟩
                    · exact hq _ hI g0 hT
                    · intro x467 ex467
                      have r_x467 : (0 : Int32) ≤ x467 ∧ x467 ≤ (900 : Int32) := by rw [ex467]; exact nu 7 rfl hI o_v0
                      intro x468 ex468
                      have hI := iv_sI (j := 4) (v := x468) hI o_v0 (by decide) (nu_one (lo := (0 : Int32)) (hi := (900 : Int32)) (by decide) (q102 c449 c450 c464 r_x467 ex468))
                      exact hq _ hI g0 hT
            · refine ⟨fun c469 => ?_, fun c469 => ?_⟩
              · refine u_X4_next_217 ?_
                refine ⟨fun c470 => ?_, fun c470 => ?_⟩
                · refine u_X4_next_240 ?_
                  refine ⟨fun c471 => ?_, fun c471 => ?_⟩
                  · exact hq _ hI g0 hT
                  · refine ⟨o_v0, ?_⟩
                    intro x472 ex472
                    refine ⟨fun c473 => ?_, fun c473 => ?_⟩
                    · exact hq _ hI g0 hT
                    · intro x474 ex474
                      have r_x474 : (0 : Int32) ≤ x474 ∧ x474 ≤ (900 : Int32) := by rw [ex474]; exact nu 7 rfl hI o_v0
                      intro x475 ex475
                      have hI := iv_sI (j := 4) (v := x475) hI o_v0 (by decide) (nu_one (lo := (0 : Int32)) (hi := (900 : Int32)) (by decide) (q103 c449 c470 c471 r_x474 ex475))
                      exact hq _ hI g0 hT
                · refine ⟨o_v0, ?_⟩
                  intro x476 ex476
                  have r_x476 : (0 : Int32) ≤ x476 ∧ x476 ≤ (900 : Int32) := by rw [ex476]; exact nu 7 rfl hI o_v0
                  intro x477 ex477
                  refine ⟨fun c478 => ?_, fun c478 => ?_⟩
                  · refine u_X4_next_240 ?_
                    refine ⟨fun c479 => ?_, fun c479 => ?_⟩
                    · exact hq _ hI g0 hT
                    · refine ⟨o_v0, ?_⟩
                      intro x480 ex480
                      refine ⟨fun c481 => ?_, fun c481 => ?_⟩
                      · exact hq _ hI g0 hT
                      · intro x482 ex482
                        have r_x482 : (0 : Int32) ≤ x482 ∧ x482 ≤ (900 : Int32) := by rw [ex482]; exact nu 7 rfl hI o_v0
                        intro x483 ex483
                        have hI := iv_sI (j := 4) (v := x483) hI o_v0 (by decide) (nu_one (lo := (0 : Int32)) (hi := (900 : Int32)) (by decide) (q104 c449 c470 c479 r_x482 ex483))
                        exact hq _ hI g0 hT
                  · have hI := iv_sI (j := 6) (v := (6 : Int32)) hI o_v0 (by decide) (nu_free (by decide))
                    refine u_X4_next_240 ?_
                    refine ⟨fun c484 => ?_, fun c484 => ?_⟩
                    · exact hq _ hI g0 hT
                    · refine ⟨o_v0, ?_⟩
                      intro x485 ex485
                      refine ⟨fun c486 => ?_, fun c486 => ?_⟩
                      · exact hq _ hI g0 hT
                      · intro x487 ex487
                        have r_x487 : (0 : Int32) ≤ x487 ∧ x487 ≤ (900 : Int32) := by rw [ex487]; exact nu 7 rfl hI o_v0
                        intro x488 ex488
                        have hI := iv_sI (j := 4) (v := x488) hI o_v0 (by decide) (nu_one (lo := (0 : Int32)) (hi := (900 : Int32)) (by decide) (q104 c449 c470 c484 r_x487 ex488))
                        exact hq _ hI g0 hT
              · refine ⟨o_v0, ?_⟩
                intro x489 ex489
                have r_x489 : (0 : Int32) ≤ x489 ∧ x489 ≤ (900 : Int32) := by rw [ex489]; exact nu 7 rfl hI o_v0
                refine m_X4_sortAt hI o_v0 hT (fun x490 S491 hI2 g492 p_x490 => ?_)
                subst p_x490
                intro _
                intro x493 ex493
                refine ⟨fun c494 => ?_, fun c494 => ?_⟩
                · refine u_X4_next_217 ?_
                  refine ⟨fun c495 => ?_, fun c495 => ?_⟩
                  · refine u_X4_next_240 ?_
                    refine ⟨fun c496 => ?_, fun c496 => ?_⟩
                    · exact hq _ hI g0 hT
                    · refine ⟨o_v0, ?_⟩
                      intro x497 ex497
                      refine ⟨fun c498 => ?_, fun c498 => ?_⟩
                      · exact hq _ hI g0 hT
                      · intro x499 ex499
                        have r_x499 : (0 : Int32) ≤ x499 ∧ x499 ≤ (900 : Int32) := by rw [ex499]; exact nu 7 rfl hI o_v0
                        intro x500 ex500
                        have hI := iv_sI (j := 4) (v := x500) hI o_v0 (by decide) (nu_one (lo := (0 : Int32)) (hi := (900 : Int32)) (by decide) (q103 c449 c495 c496 r_x499 ex500))
                        exact hq _ hI g0 hT
                  · refine ⟨o_v0, ?_⟩
                    intro x501 ex501
                    have r_x501 : (0 : Int32) ≤ x501 ∧ x501 ≤ (900 : Int32) := by rw [ex501]; exact nu 7 rfl hI o_v0
                    intro x502 ex502
                    refine ⟨fun c503 => ?_, fun c503 => ?_⟩
                    · refine u_X4_next_240 ?_
                      refine ⟨fun c504 => ?_, fun c504 => ?_⟩
                      · exact hq _ hI g0 hT
                      · refine ⟨o_v0, ?_⟩
                        intro x505 ex505
                        refine ⟨fun c506 => ?_, fun c506 => ?_⟩
                        · exact hq _ hI g0 hT
                        · intro x507 ex507
                          have r_x507 : (0 : Int32) ≤ x507 ∧ x507 ≤ (900 : Int32) := by rw [ex507]; exact nu 7 rfl hI o_v0
                          intro x508 ex508
                          have hI := iv_sI (j := 4) (v := x508) hI o_v0 (by decide) (nu_one (lo := (0 : Int32)) (hi := (900 : Int32)) (by decide) (q104 c449 c495 c504 r_x507 ex508))
                          exact hq _ hI g0 hT
                    · have hI := iv_sI (j := 6) (v := (6 : Int32)) hI o_v0 (by decide) (nu_free (by decide))
                      refine u_X4_next_240 ?_
                      refine ⟨fun c509 => ?_, fun c509 => ?_⟩
                      · exact hq _ hI g0 hT
                      · refine ⟨o_v0, ?_⟩
                        intro x510 ex510
                        refine ⟨fun c511 => ?_, fun c511 => ?_⟩
                        · exact hq _ hI g0 hT
                        · intro x512 ex512
                          have r_x512 : (0 : Int32) ≤ x512 ∧ x512 ≤ (900 : Int32) := by rw [ex512]; exact nu 7 rfl hI o_v0
                          intro x513 ex513
                          have hI := iv_sI (j := 4) (v := x513) hI o_v0 (by decide) (nu_one (lo := (0 : Int32)) (hi := (900 : Int32)) (by decide) (q104 c449 c495 c509 r_x512 ex513))
                          exact hq _ hI g0 hT
                · refine ⟨fun c514 => ?_, fun c514 => ?_⟩
                  · refine u_X4_next_201 ?_
                    refine ⟨o_v0, ?_⟩
                    intro x515 ex515
                    have r_x515 : (0 : Int32) ≤ x515 ∧ x515 ≤ (900 : Int32) := by rw [ex515]; exact nu 7 rfl hI o_v0
                    intro x516 ex516
                    have hI := iv_sI (j := 4) (v := x516) hI o_v0 (by decide) (nu_one (lo := (0 : Int32)) (hi := (900 : Int32)) (by decide) (q105 c449 r_x515 ex516))
                    intro x517 ex517
                    exact ih448 _ _ _ _ _ _ ⟨hI, gL437, rfl, rfl, rfl, rfl, hT, (q106 i1 c449 c469 c514 ex517)⟩ (mu_up (q107 i1 c449 c469 c514 ex517) (q108 i1 c449 c469 c514 ex517))
                  · intro x518 ex518
                    have r_x518 : (0 : Int32) ≤ x518 ∧ x518 ≤ (900 : Int32) := by rw [ex518]; exact nu 7 rfl hI o_v0
                    obtain ⟨a519, ea519, o_a519, l_a519⟩ := hT
                    refine ⟨a519, ea519, ?_⟩
                    refine ⟨o_a519, ?_⟩
                    have n_a519 : nI (hN S436 a519) = 900 := by rw [show hN S436 a519 = 900 from l_a519]; decide
                    refine ⟨fun c520 => ?_, fun c520 => ?_⟩
                    · rw [n_a519] at c520
                      refine u_X4_next_201 ?_
                      refine ⟨o_v0, ?_⟩
                      intro x521 ex521
                      have r_x521 : (0 : Int32) ≤ x521 ∧ x521 ≤ (900 : Int32) := by rw [ex521]; exact nu 7 rfl hI o_v0
                      intro x522 ex522
                      have hI := iv_sI (j := 4) (v := x522) hI o_v0 (by decide) (nu_one (lo := (0 : Int32)) (hi := (900 : Int32)) (by decide) (q105 c449 r_x521 ex522))
                      intro x523 ex523
                      exact ih448 _ _ _ _ _ _ ⟨hI, gL437, rfl, rfl, rfl, rfl, hT, (q109 i1 c449 c469 c514 ex523)⟩ (mu_up (q110 i1 c449 c469 c514 ex523) (q111 i1 c449 c469 c514 ex523))
                    · rw [n_a519] at c520
                      intro x524 ex524
                      obtain ⟨a525, ea525, o_a525, l_a525⟩ := hT
                      refine ⟨a525, ea525, ?_⟩
                      intro x526 ex526
                      have r_x526 : (0 : Int32) ≤ x526 ∧ x526 ≤ (900 : Int32) := by rw [ex526]; exact nu 7 rfl hI o_v0
                      refine ⟨o_a525, ?_⟩
                      refine ⟨(vin l_a525 (m := 900) (by decide) (q112 c449 r_x526)), ?_⟩
                      intro x527 ex527
                      intro x528 ex528
                      refine ⟨fun c529 => ?_, fun c529 => ?_⟩
                      · refine u_X4_next_195 ?_
                        refine ⟨o_v0, ?_⟩
                        intro x530 ex530
                        have hI := iv_sJ (j := 8) (v := x530) hI o_v0 (by decide)
                        refine u_X4_next_201 ?_
                        refine ⟨o_v0, ?_⟩
                        intro x531 ex531
                        have r_x531 : (0 : Int32) ≤ x531 ∧ x531 ≤ (900 : Int32) := by rw [ex531]; exact nu 7 rfl hI o_v0
                        intro x532 ex532
                        have hI := iv_sI (j := 4) (v := x532) hI o_v0 (by decide) (nu_one (lo := (0 : Int32)) (hi := (900 : Int32)) (by decide) (q105 c449 r_x531 ex532))
                        intro x533 ex533
                        exact ih448 _ _ _ _ _ _ ⟨hI, gL437, rfl, rfl, rfl, rfl, hT, (q109 i1 c449 c469 c514 ex533)⟩ (mu_up (q110 i1 c449 c469 c514 ex533) (q111 i1 c449 c469 c514 ex533))
                      · refine u_X4_next_195 ?_
                        refine ⟨o_v0, ?_⟩
                        intro x534 ex534
                        have hI := iv_sJ (j := 8) (v := x534) hI o_v0 (by decide)
                        refine u_X4_next_201 ?_
                        refine ⟨o_v0, ?_⟩
                        intro x535 ex535
                        have r_x535 : (0 : Int32) ≤ x535 ∧ x535 ≤ (900 : Int32) := by rw [ex535]; exact nu 7 rfl hI o_v0
                        intro x536 ex536
                        have hI := iv_sI (j := 4) (v := x536) hI o_v0 (by decide) (nu_one (lo := (0 : Int32)) (hi := (900 : Int32)) (by decide) (q105 c449 r_x535 ex536))
                        intro x537 ex537
                        exact ih448 _ _ _ _ _ _ ⟨hI, gL437, rfl, rfl, rfl, rfl, hT, (q109 i1 c449 c469 c514 ex537)⟩ (mu_up (q110 i1 c449 c469 c514 ex537) (q111 i1 c449 c469 c514 ex537))
          · refine u_X4_next_114 ?_
            refine i_X4_next_118 (fun (y0 : Nat) (y1 : Int32) (y2 : Int32) (y3 : Int32) (y4 : Int32) (Z : HS) => ((2147483647 : Int32).toInt - y4.toInt).toNat) (fun (y0 : Nat) (y1 : Int32) (y2 : Int32) (y3 : Int32) (y4 : Int32) (Z : HS) => (IV Z) ∧ (Gr (sJ (sI (sI S1 v0 7 x9) v0 6 x11) v0 8 (0 : Int64)) Z) ∧ (v0 = y0) ∧ ((0 : Int32) = y1) ∧ ((3 : Int32) = y2) ∧ ((32 : Int32) = y3) ∧ (TX Z v0) ∧ (0 ≤ y4)) ?_ _ _ _ _ _ _ ⟨hI, (gr_rf _), rfl, rfl, rfl, rfl, hT, (q43)⟩
            intro w540 w542 w544 w546 w548 S538 X549 ⟨hI, gL539, q541, q543, q545, q547, hT, i1⟩ ih550
            subst q541
            subst q543
            subst q545
            subst q547
            have o_v0 := gr_ob gL539 o_v0
            have g0 := gr_tr g0 gL539
            have gL2 := gr_tr gL2 gL539
            refine u_X4_next_118 ?_
            refine ⟨fun c551 => ?_, fun c551 => ?_⟩
            · refine u_X4_next_217 ?_
              refine ⟨fun c552 => ?_, fun c552 => ?_⟩
              · refine u_X4_next_240 ?_
                refine ⟨fun c553 => ?_, fun c553 => ?_⟩
                · exact hq _ hI g0 hT
                · refine ⟨o_v0, ?_⟩
                  intro x554 ex554
                  refine ⟨fun c555 => ?_, fun c555 => ?_⟩
                  · exact hq _ hI g0 hT
                  · intro x556 ex556
                    have r_x556 : (0 : Int32) ≤ x556 ∧ x556 ≤ (900 : Int32) := by rw [ex556]; exact nu 7 rfl hI o_v0
                    intro x557 ex557
                    have hI := iv_sI (j := 4) (v := x557) hI o_v0 (by decide) (nu_one (lo := (0 : Int32)) (hi := (900 : Int32)) (by decide) (q101 c551 c552 c553 r_x556 ex557))
                    exact hq _ hI g0 hT
              · refine ⟨o_v0, ?_⟩
                intro x558 ex558
                have r_x558 : (0 : Int32) ≤ x558 ∧ x558 ≤ (900 : Int32) := by rw [ex558]; exact nu 7 rfl hI o_v0
                intro x559 ex559
                refine ⟨fun c560 => ?_, fun c560 => ?_⟩
                · refine u_X4_next_240 ?_
                  refine ⟨fun c561 => ?_, fun c561 => ?_⟩
                  · exact hq _ hI g0 hT
                  · refine ⟨o_v0, ?_⟩
                    intro x562 ex562
                    refine ⟨fun c563 => ?_, fun c563 => ?_⟩
                    · exact hq _ hI g0 hT
                    · intro x564 ex564
                      have r_x564 : (0 : Int32) ≤ x564 ∧ x564 ≤ (900 : Int32) := by rw [ex564]; exact nu 7 rfl hI o_v0
                      intro x565 ex565
                      have hI := iv_sI (j := 4) (v := x565) hI o_v0 (by decide) (nu_one (lo := (0 : Int32)) (hi := (900 : Int32)) (by decide) (q102 c551 c552 c561 r_x564 ex565))
                      exact hq _ hI g0 hT
                · have hI := iv_sI (j := 6) (v := (6 : Int32)) hI o_v0 (by decide) (nu_free (by decide))
                  refine u_X4_next_240 ?_
                  refine ⟨fun c566 => ?_, fun c566 => ?_⟩
                  · exact hq _ hI g0 hT
                  · refine ⟨o_v0, ?_⟩
                    intro x567 ex567
                    refine ⟨fun c568 => ?_, fun c568 => ?_⟩
                    · exact hq _ hI g0 hT
                    · intro x569 ex569
                      have r_x569 : (0 : Int32) ≤ x569 ∧ x569 ≤ (900 : Int32) := by rw [ex569]; exact nu 7 rfl hI o_v0
                      intro x570 ex570
                      have hI := iv_sI (j := 4) (v := x570) hI o_v0 (by decide) (nu_one (lo := (0 : Int32)) (hi := (900 : Int32)) (by decide) (q102 c551 c552 c566 r_x569 ex570))
                      exact hq _ hI g0 hT
            · refine ⟨fun c571 => ?_, fun c571 => ?_⟩
              · refine u_X4_next_217 ?_
                refine ⟨fun c572 => ?_, fun c572 => ?_⟩
                · refine u_X4_next_240 ?_
                  refine ⟨fun c573 => ?_, fun c573 => ?_⟩
                  · exact hq _ hI g0 hT
                  · refine ⟨o_v0, ?_⟩
                    intro x574 ex574
                    refine ⟨fun c575 => ?_, fun c575 => ?_⟩
                    · exact hq _ hI g0 hT
                    · intro x576 ex576
                      have r_x576 : (0 : Int32) ≤ x576 ∧ x576 ≤ (900 : Int32) := by rw [ex576]; exact nu 7 rfl hI o_v0
                      intro x577 ex577
                      have hI := iv_sI (j := 4) (v := x577) hI o_v0 (by decide) (nu_one (lo := (0 : Int32)) (hi := (900 : Int32)) (by decide) (q103 c551 c572 c573 r_x576 ex577))
                      exact hq _ hI g0 hT
                · refine ⟨o_v0, ?_⟩
                  intro x578 ex578
                  have r_x578 : (0 : Int32) ≤ x578 ∧ x578 ≤ (900 : Int32) := by rw [ex578]; exact nu 7 rfl hI o_v0
                  intro x579 ex579
                  refine ⟨fun c580 => ?_, fun c580 => ?_⟩
                  · refine u_X4_next_240 ?_
                    refine ⟨fun c581 => ?_, fun c581 => ?_⟩
                    · exact hq _ hI g0 hT
                    · refine ⟨o_v0, ?_⟩
                      intro x582 ex582
                      refine ⟨fun c583 => ?_, fun c583 => ?_⟩
                      · exact hq _ hI g0 hT
                      · intro x584 ex584
                        have r_x584 : (0 : Int32) ≤ x584 ∧ x584 ≤ (900 : Int32) := by rw [ex584]; exact nu 7 rfl hI o_v0
                        intro x585 ex585
                        have hI := iv_sI (j := 4) (v := x585) hI o_v0 (by decide) (nu_one (lo := (0 : Int32)) (hi := (900 : Int32)) (by decide) (q104 c551 c572 c581 r_x584 ex585))
                        exact hq _ hI g0 hT
                  · have hI := iv_sI (j := 6) (v := (6 : Int32)) hI o_v0 (by decide) (nu_free (by decide))
                    refine u_X4_next_240 ?_
                    refine ⟨fun c586 => ?_, fun c586 => ?_⟩
                    · exact hq _ hI g0 hT
                    · refine ⟨o_v0, ?_⟩
                      intro x587 ex587
                      refine ⟨fun c588 => ?_, fun c588 => ?_⟩
                      · exact hq _ hI g0 hT
                      · intro x589 ex589
                        have r_x589 : (0 : Int32) ≤ x589 ∧ x589 ≤ (900 : Int32) := by rw [ex589]; exact nu 7 rfl hI o_v0
                        intro x590 ex590
                        have hI := iv_sI (j := 4) (v := x590) hI o_v0 (by decide) (nu_one (lo := (0 : Int32)) (hi := (900 : Int32)) (by decide) (q104 c551 c572 c586 r_x589 ex590))
                        exact hq _ hI g0 hT
              · refine ⟨o_v0, ?_⟩
                intro x591 ex591
                have r_x591 : (0 : Int32) ≤ x591 ∧ x591 ≤ (900 : Int32) := by rw [ex591]; exact nu 7 rfl hI o_v0
                refine m_X4_sortAt hI o_v0 hT (fun x592 S593 hI2 g594 p_x592 => ?_)
                subst p_x592
                intro _
                intro x595 ex595
                refine ⟨fun c596 => ?_, fun c596 => ?_⟩
                · refine u_X4_next_217 ?_
                  refine ⟨fun c597 => ?_, fun c597 => ?_⟩
                  · refine u_X4_next_240 ?_
                    refine ⟨fun c598 => ?_, fun c598 => ?_⟩
                    · exact hq _ hI g0 hT
                    · refine ⟨o_v0, ?_⟩
                      intro x599 ex599
                      refine ⟨fun c600 => ?_, fun c600 => ?_⟩
                      · exact hq _ hI g0 hT
                      · intro x601 ex601
                        have r_x601 : (0 : Int32) ≤ x601 ∧ x601 ≤ (900 : Int32) := by rw [ex601]; exact nu 7 rfl hI o_v0
                        intro x602 ex602
                        have hI := iv_sI (j := 4) (v := x602) hI o_v0 (by decide) (nu_one (lo := (0 : Int32)) (hi := (900 : Int32)) (by decide) (q103 c551 c597 c598 r_x601 ex602))
                        exact hq _ hI g0 hT
                  · refine ⟨o_v0, ?_⟩
                    intro x603 ex603
                    have r_x603 : (0 : Int32) ≤ x603 ∧ x603 ≤ (900 : Int32) := by rw [ex603]; exact nu 7 rfl hI o_v0
                    intro x604 ex604
                    refine ⟨fun c605 => ?_, fun c605 => ?_⟩
                    · refine u_X4_next_240 ?_
                      refine ⟨fun c606 => ?_, fun c606 => ?_⟩
                      · exact hq _ hI g0 hT
                      · refine ⟨o_v0, ?_⟩
                        intro x607 ex607
                        refine ⟨fun c608 => ?_, fun c608 => ?_⟩
                        · exact hq _ hI g0 hT
                        · intro x609 ex609
                          have r_x609 : (0 : Int32) ≤ x609 ∧ x609 ≤ (900 : Int32) := by rw [ex609]; exact nu 7 rfl hI o_v0
                          intro x610 ex610
                          have hI := iv_sI (j := 4) (v := x610) hI o_v0 (by decide) (nu_one (lo := (0 : Int32)) (hi := (900 : Int32)) (by decide) (q104 c551 c597 c606 r_x609 ex610))
                          exact hq _ hI g0 hT
                    · have hI := iv_sI (j := 6) (v := (6 : Int32)) hI o_v0 (by decide) (nu_free (by decide))
                      refine u_X4_next_240 ?_
                      refine ⟨fun c611 => ?_, fun c611 => ?_⟩
                      · exact hq _ hI g0 hT
                      · refine ⟨o_v0, ?_⟩
                        intro x612 ex612
                        refine ⟨fun c613 => ?_, fun c613 => ?_⟩
                        · exact hq _ hI g0 hT
                        · intro x614 ex614
                          have r_x614 : (0 : Int32) ≤ x614 ∧ x614 ≤ (900 : Int32) := by rw [ex614]; exact nu 7 rfl hI o_v0
                          intro x615 ex615
                          have hI := iv_sI (j := 4) (v := x615) hI o_v0 (by decide) (nu_one (lo := (0 : Int32)) (hi := (900 : Int32)) (by decide) (q104 c551 c597 c611 r_x614 ex615))
                          exact hq _ hI g0 hT
                · refine ⟨fun c616 => ?_, fun c616 => ?_⟩
                  · refine u_X4_next_201 ?_
                    refine ⟨o_v0, ?_⟩
                    intro x617 ex617
                    have r_x617 : (0 : Int32) ≤ x617 ∧ x617 ≤ (900 : Int32) := by rw [ex617]; exact nu 7 rfl hI o_v0
                    intro x618 ex618
                    have hI := iv_sI (j := 4) (v := x618) hI o_v0 (by decide) (nu_one (lo := (0 : Int32)) (hi := (900 : Int32)) (by decide) (q105 c551 r_x617 ex618))
                    intro x619 ex619
                    exact ih550 _ _ _ _ _ _ ⟨hI, gL539, rfl, rfl, rfl, rfl, hT, (q106 i1 c551 c571 c616 ex619)⟩ (mu_up (q107 i1 c551 c571 c616 ex619) (q108 i1 c551 c571 c616 ex619))
                  · intro x620 ex620
                    have r_x620 : (0 : Int32) ≤ x620 ∧ x620 ≤ (900 : Int32) := by rw [ex620]; exact nu 7 rfl hI o_v0
                    obtain ⟨a621, ea621, o_a621, l_a621⟩ := hT
                    refine ⟨a621, ea621, ?_⟩
                    refine ⟨o_a621, ?_⟩
                    have n_a621 : nI (hN S538 a621) = 900 := by rw [show hN S538 a621 = 900 from l_a621]; decide
                    refine ⟨fun c622 => ?_, fun c622 => ?_⟩
                    · rw [n_a621] at c622
                      refine u_X4_next_201 ?_
                      refine ⟨o_v0, ?_⟩
                      intro x623 ex623
                      have r_x623 : (0 : Int32) ≤ x623 ∧ x623 ≤ (900 : Int32) := by rw [ex623]; exact nu 7 rfl hI o_v0
                      intro x624 ex624
                      have hI := iv_sI (j := 4) (v := x624) hI o_v0 (by decide) (nu_one (lo := (0 : Int32)) (hi := (900 : Int32)) (by decide) (q105 c551 r_x623 ex624))
                      intro x625 ex625
                      exact ih550 _ _ _ _ _ _ ⟨hI, gL539, rfl, rfl, rfl, rfl, hT, (q109 i1 c551 c571 c616 ex625)⟩ (mu_up (q110 i1 c551 c571 c616 ex625) (q111 i1 c551 c571 c616 ex625))
                    · rw [n_a621] at c622
                      intro x626 ex626
                      obtain ⟨a627, ea627, o_a627, l_a627⟩ := hT
                      refine ⟨a627, ea627, ?_⟩
                      intro x628 ex628
                      have r_x628 : (0 : Int32) ≤ x628 ∧ x628 ≤ (900 : Int32) := by rw [ex628]; exact nu 7 rfl hI o_v0
                      refine ⟨o_a627, ?_⟩
                      refine ⟨(vin l_a627 (m := 900) (by decide) (q112 c551 r_x628)), ?_⟩
                      intro x629 ex629
                      intro x630 ex630
                      refine ⟨fun c631 => ?_, fun c631 => ?_⟩
                      · refine u_X4_next_195 ?_
                        refine ⟨o_v0, ?_⟩
                        intro x632 ex632
                        have hI := iv_sJ (j := 8) (v := x632) hI o_v0 (by decide)
                        refine u_X4_next_201 ?_
                        refine ⟨o_v0, ?_⟩
                        intro x633 ex633
                        have r_x633 : (0 : Int32) ≤ x633 ∧ x633 ≤ (900 : Int32) := by rw [ex633]; exact nu 7 rfl hI o_v0
                        intro x634 ex634
                        have hI := iv_sI (j := 4) (v := x634) hI o_v0 (by decide) (nu_one (lo := (0 : Int32)) (hi := (900 : Int32)) (by decide) (q105 c551 r_x633 ex634))
                        intro x635 ex635
                        exact ih550 _ _ _ _ _ _ ⟨hI, gL539, rfl, rfl, rfl, rfl, hT, (q109 i1 c551 c571 c616 ex635)⟩ (mu_up (q110 i1 c551 c571 c616 ex635) (q111 i1 c551 c571 c616 ex635))
                      · refine u_X4_next_195 ?_
                        refine ⟨o_v0, ?_⟩
                        intro x636 ex636
                        have hI := iv_sJ (j := 8) (v := x636) hI o_v0 (by decide)
                        refine u_X4_next_201 ?_
                        refine ⟨o_v0, ?_⟩
                        intro x637 ex637
                        have r_x637 : (0 : Int32) ≤ x637 ∧ x637 ≤ (900 : Int32) := by rw [ex637]; exact nu 7 rfl hI o_v0
                        intro x638 ex638
                        have hI := iv_sI (j := 4) (v := x638) hI o_v0 (by decide) (nu_one (lo := (0 : Int32)) (hi := (900 : Int32)) (by decide) (q105 c551 r_x637 ex638))
                        intro x639 ex639
                        exact ih550 _ _ _ _ _ _ ⟨hI, gL539, rfl, rfl, rfl, rfl, hT, (q109 i1 c551 c571 c616 ex639)⟩ (mu_up (q110 i1 c551 c571 c616 ex639) (q111 i1 c551 c571 c616 ex639))
        · refine u_X4_next_98 ?_
          refine ⟨o_v0, ?_⟩
          intro x640 ex640
          refine ⟨fun c641 => ?_, fun c641 => ?_⟩
          · refine u_X4_next_114 ?_
            refine i_X4_next_118 (fun (y0 : Nat) (y1 : Int32) (y2 : Int32) (y3 : Int32) (y4 : Int32) (Z : HS) => ((2147483647 : Int32).toInt - y4.toInt).toNat) (fun (y0 : Nat) (y1 : Int32) (y2 : Int32) (y3 : Int32) (y4 : Int32) (Z : HS) => (IV Z) ∧ (Gr (sJ (sI (sI S1 v0 7 x9) v0 6 x11) v0 8 (0 : Int64)) Z) ∧ (v0 = y0) ∧ ((0 : Int32) = y1) ∧ ((8 : Int32) = y2) ∧ ((10 : Int32) = y3) ∧ (TX Z v0) ∧ (0 ≤ y4)) ?_ _ _ _ _ _ _ ⟨hI, (gr_rf _), rfl, rfl, rfl, rfl, hT, (q43)⟩
            intro w644 w646 w648 w650 w652 S642 X653 ⟨hI, gL643, q645, q647, q649, q651, hT, i1⟩ ih654
            subst q645
            subst q647
            subst q649
            subst q651
            have o_v0 := gr_ob gL643 o_v0
            have g0 := gr_tr g0 gL643
            have gL2 := gr_tr gL2 gL643
            refine u_X4_next_118 ?_
            refine ⟨fun c655 => ?_, fun c655 => ?_⟩
            · refine u_X4_next_217 ?_
              refine ⟨fun c656 => ?_, fun c656 => ?_⟩
              · refine u_X4_next_240 ?_
                refine ⟨fun c657 => ?_, fun c657 => ?_⟩
                · exact hq _ hI g0 hT
                · refine ⟨o_v0, ?_⟩
                  intro x658 ex658
                  refine ⟨fun c659 => ?_, fun c659 => ?_⟩
                  · exact hq _ hI g0 hT
                  · intro x660 ex660
                    have r_x660 : (0 : Int32) ≤ x660 ∧ x660 ≤ (900 : Int32) := by rw [ex660]; exact nu 7 rfl hI o_v0
                    intro x661 ex661
                    have hI := iv_sI (j := 4) (v := x661) hI o_v0 (by decide) (nu_one (lo := (0 : Int32)) (hi := (900 : Int32)) (by decide) (q101 c655 c656 c657 r_x660 ex661))
                    exact hq _ hI g0 hT
              · refine ⟨o_v0, ?_⟩
                intro x662 ex662
                have r_x662 : (0 : Int32) ≤ x662 ∧ x662 ≤ (900 : Int32) := by rw [ex662]; exact nu 7 rfl hI o_v0
                intro x663 ex663
                refine ⟨fun c664 => ?_, fun c664 => ?_⟩
                · refine u_X4_next_240 ?_
                  refine ⟨fun c665 => ?_, fun c665 => ?_⟩
                  · exact hq _ hI g0 hT
                  · refine ⟨o_v0, ?_⟩
                    intro x666 ex666
                    refine ⟨fun c667 => ?_, fun c667 => ?_⟩
                    · exact hq _ hI g0 hT
                    · intro x668 ex668
                      have r_x668 : (0 : Int32) ≤ x668 ∧ x668 ≤ (900 : Int32) := by rw [ex668]; exact nu 7 rfl hI o_v0
                      intro x669 ex669
                      have hI := iv_sI (j := 4) (v := x669) hI o_v0 (by decide) (nu_one (lo := (0 : Int32)) (hi := (900 : Int32)) (by decide) (q102 c655 c656 c665 r_x668 ex669))
                      exact hq _ hI g0 hT
                · have hI := iv_sI (j := 6) (v := (6 : Int32)) hI o_v0 (by decide) (nu_free (by decide))
                  refine u_X4_next_240 ?_
                  refine ⟨fun c670 => ?_, fun c670 => ?_⟩
                  · exact hq _ hI g0 hT
                  · refine ⟨o_v0, ?_⟩
                    intro x671 ex671
                    refine ⟨fun c672 => ?_, fun c672 => ?_⟩
                    · exact hq _ hI g0 hT
                    · intro x673 ex673
                      have r_x673 : (0 : Int32) ≤ x673 ∧ x673 ≤ (900 : Int32) := by rw [ex673]; exact nu 7 rfl hI o_v0
                      intro x674 ex674
                      have hI := iv_sI (j := 4) (v := x674) hI o_v0 (by decide) (nu_one (lo := (0 : Int32)) (hi := (900 : Int32)) (by decide) (q102 c655 c656 c670 r_x673 ex674))
                      exact hq _ hI g0 hT
            · refine ⟨fun c675 => ?_, fun c675 => ?_⟩
              · refine u_X4_next_217 ?_
                refine ⟨fun c676 => ?_, fun c676 => ?_⟩
                · refine u_X4_next_240 ?_
                  refine ⟨fun c677 => ?_, fun c677 => ?_⟩
                  · exact hq _ hI g0 hT
                  · refine ⟨o_v0, ?_⟩
                    intro x678 ex678
                    refine ⟨fun c679 => ?_, fun c679 => ?_⟩
                    · exact hq _ hI g0 hT
                    · intro x680 ex680
                      have r_x680 : (0 : Int32) ≤ x680 ∧ x680 ≤ (900 : Int32) := by rw [ex680]; exact nu 7 rfl hI o_v0
                      intro x681 ex681
                      have hI := iv_sI (j := 4) (v := x681) hI o_v0 (by decide) (nu_one (lo := (0 : Int32)) (hi := (900 : Int32)) (by decide) (q103 c655 c676 c677 r_x680 ex681))
                      exact hq _ hI g0 hT
                · refine ⟨o_v0, ?_⟩
                  intro x682 ex682
                  have r_x682 : (0 : Int32) ≤ x682 ∧ x682 ≤ (900 : Int32) := by rw [ex682]; exact nu 7 rfl hI o_v0
                  intro x683 ex683
                  refine ⟨fun c684 => ?_, fun c684 => ?_⟩
                  · refine u_X4_next_240 ?_
                    refine ⟨fun c685 => ?_, fun c685 => ?_⟩
                    · exact hq _ hI g0 hT
                    · refine ⟨o_v0, ?_⟩
                      intro x686 ex686
                      refine ⟨fun c687 => ?_, fun c687 => ?_⟩
                      · exact hq _ hI g0 hT
                      · intro x688 ex688
                        have r_x688 : (0 : Int32) ≤ x688 ∧ x688 ≤ (900 : Int32) := by rw [ex688]; exact nu 7 rfl hI o_v0
                        intro x689 ex689
                        have hI := iv_sI (j := 4) (v := x689) hI o_v0 (by decide) (nu_one (lo := (0 : Int32)) (hi := (900 : Int32)) (by decide) (q104 c655 c676 c685 r_x688 ex689))
                        exact hq _ hI g0 hT
                  · have hI := iv_sI (j := 6) (v := (6 : Int32)) hI o_v0 (by decide) (nu_free (by decide))
                    refine u_X4_next_240 ?_
                    refine ⟨fun c690 => ?_, fun c690 => ?_⟩
                    · exact hq _ hI g0 hT
                    · refine ⟨o_v0, ?_⟩
                      intro x691 ex691
                      refine ⟨fun c692 => ?_, fun c692 => ?_⟩
                      · exact hq _ hI g0 hT
                      · intro x693 ex693
                        have r_x693 : (0 : Int32) ≤ x693 ∧ x693 ≤ (900 : Int32) := by rw [ex693]; exact nu 7 rfl hI o_v0
                        intro x694 ex694
                        have hI := iv_sI (j := 4) (v := x694) hI o_v0 (by decide) (nu_one (lo := (0 : Int32)) (hi := (900 : Int32)) (by decide) (q104 c655 c676 c690 r_x693 ex694))
                        exact hq _ hI g0 hT
              · refine ⟨o_v0, ?_⟩
                intro x695 ex695
                have r_x695 : (0 : Int32) ≤ x695 ∧ x695 ≤ (900 : Int32) := by rw [ex695]; exact nu 7 rfl hI o_v0
                refine m_X4_sortAt hI o_v0 hT (fun x696 S697 hI2 g698 p_x696 => ?_)
                subst p_x696
                intro _
                intro x699 ex699
                refine ⟨fun c700 => ?_, fun c700 => ?_⟩
                · refine u_X4_next_217 ?_
                  refine ⟨fun c701 => ?_, fun c701 => ?_⟩
                  · refine u_X4_next_240 ?_
                    refine ⟨fun c702 => ?_, fun c702 => ?_⟩
                    · exact hq _ hI g0 hT
                    · refine ⟨o_v0, ?_⟩
                      intro x703 ex703
                      refine ⟨fun c704 => ?_, fun c704 => ?_⟩
                      · exact hq _ hI g0 hT
                      · intro x705 ex705
                        have r_x705 : (0 : Int32) ≤ x705 ∧ x705 ≤ (900 : Int32) := by rw [ex705]; exact nu 7 rfl hI o_v0
                        intro x706 ex706
                        have hI := iv_sI (j := 4) (v := x706) hI o_v0 (by decide) (nu_one (lo := (0 : Int32)) (hi := (900 : Int32)) (by decide) (q103 c655 c701 c702 r_x705 ex706))
                        exact hq _ hI g0 hT
                  · refine ⟨o_v0, ?_⟩
                    intro x707 ex707
                    have r_x707 : (0 : Int32) ≤ x707 ∧ x707 ≤ (900 : Int32) := by rw [ex707]; exact nu 7 rfl hI o_v0
                    intro x708 ex708
                    refine ⟨fun c709 => ?_, fun c709 => ?_⟩
                    · refine u_X4_next_240 ?_
                      refine ⟨fun c710 => ?_, fun c710 => ?_⟩
                      · exact hq _ hI g0 hT
                      · refine ⟨o_v0, ?_⟩
                        intro x711 ex711
                        refine ⟨fun c712 => ?_, fun c712 => ?_⟩
                        · exact hq _ hI g0 hT
                        · intro x713 ex713
                          have r_x713 : (0 : Int32) ≤ x713 ∧ x713 ≤ (900 : Int32) := by rw [ex713]; exact nu 7 rfl hI o_v0
                          intro x714 ex714
                          have hI := iv_sI (j := 4) (v := x714) hI o_v0 (by decide) (nu_one (lo := (0 : Int32)) (hi := (900 : Int32)) (by decide) (q104 c655 c701 c710 r_x713 ex714))
                          exact hq _ hI g0 hT
                    · have hI := iv_sI (j := 6) (v := (6 : Int32)) hI o_v0 (by decide) (nu_free (by decide))
                      refine u_X4_next_240 ?_
                      refine ⟨fun c715 => ?_, fun c715 => ?_⟩
                      · exact hq _ hI g0 hT
                      · refine ⟨o_v0, ?_⟩
                        intro x716 ex716
                        refine ⟨fun c717 => ?_, fun c717 => ?_⟩
                        · exact hq _ hI g0 hT
                        · intro x718 ex718
                          have r_x718 : (0 : Int32) ≤ x718 ∧ x718 ≤ (900 : Int32) := by rw [ex718]; exact nu 7 rfl hI o_v0
                          intro x719 ex719
                          have hI := iv_sI (j := 4) (v := x719) hI o_v0 (by decide) (nu_one (lo := (0 : Int32)) (hi := (900 : Int32)) (by decide) (q104 c655 c701 c715 r_x718 ex719))
                          exact hq _ hI g0 hT
                · refine ⟨fun c720 => ?_, fun c720 => ?_⟩
                  · refine u_X4_next_201 ?_
                    refine ⟨o_v0, ?_⟩
                    intro x721 ex721
                    have r_x721 : (0 : Int32) ≤ x721 ∧ x721 ≤ (900 : Int32) := by rw [ex721]; exact nu 7 rfl hI o_v0
                    intro x722 ex722
                    have hI := iv_sI (j := 4) (v := x722) hI o_v0 (by decide) (nu_one (lo := (0 : Int32)) (hi := (900 : Int32)) (by decide) (q105 c655 r_x721 ex722))
                    intro x723 ex723
                    exact ih654 _ _ _ _ _ _ ⟨hI, gL643, rfl, rfl, rfl, rfl, hT, (q113 i1 c655 c675 c720 ex723)⟩ (mu_up (q114 i1 c655 c675 c720 ex723) (q115 i1 c655 c675 c720 ex723))
                  · intro x724 ex724
                    have r_x724 : (0 : Int32) ≤ x724 ∧ x724 ≤ (900 : Int32) := by rw [ex724]; exact nu 7 rfl hI o_v0
                    obtain ⟨a725, ea725, o_a725, l_a725⟩ := hT
                    refine ⟨a725, ea725, ?_⟩
                    refine ⟨o_a725, ?_⟩
                    have n_a725 : nI (hN S642 a725) = 900 := by rw [show hN S642 a725 = 900 from l_a725]; decide
                    refine ⟨fun c726 => ?_, fun c726 => ?_⟩
                    · rw [n_a725] at c726
                      refine u_X4_next_201 ?_
                      refine ⟨o_v0, ?_⟩
                      intro x727 ex727
                      have r_x727 : (0 : Int32) ≤ x727 ∧ x727 ≤ (900 : Int32) := by rw [ex727]; exact nu 7 rfl hI o_v0
                      intro x728 ex728
                      have hI := iv_sI (j := 4) (v := x728) hI o_v0 (by decide) (nu_one (lo := (0 : Int32)) (hi := (900 : Int32)) (by decide) (q105 c655 r_x727 ex728))
                      intro x729 ex729
                      exact ih654 _ _ _ _ _ _ ⟨hI, gL643, rfl, rfl, rfl, rfl, hT, (q116 i1 c655 c675 c720 ex729)⟩ (mu_up (q117 i1 c655 c675 c720 ex729) (q118 i1 c655 c675 c720 ex729))
                    · rw [n_a725] at c726
                      intro x730 ex730
                      obtain ⟨a731, ea731, o_a731, l_a731⟩ := hT
                      refine ⟨a731, ea731, ?_⟩
                      intro x732 ex732
                      have r_x732 : (0 : Int32) ≤ x732 ∧ x732 ≤ (900 : Int32) := by rw [ex732]; exact nu 7 rfl hI o_v0
                      refine ⟨o_a731, ?_⟩
                      refine ⟨(vin l_a731 (m := 900) (by decide) (q112 c655 r_x732)), ?_⟩
                      intro x733 ex733
                      intro x734 ex734
                      refine ⟨fun c735 => ?_, fun c735 => ?_⟩
                      · refine u_X4_next_195 ?_
                        refine ⟨o_v0, ?_⟩
                        intro x736 ex736
                        have hI := iv_sJ (j := 8) (v := x736) hI o_v0 (by decide)
                        refine u_X4_next_201 ?_
                        refine ⟨o_v0, ?_⟩
                        intro x737 ex737
                        have r_x737 : (0 : Int32) ≤ x737 ∧ x737 ≤ (900 : Int32) := by rw [ex737]; exact nu 7 rfl hI o_v0
                        intro x738 ex738
                        have hI := iv_sI (j := 4) (v := x738) hI o_v0 (by decide) (nu_one (lo := (0 : Int32)) (hi := (900 : Int32)) (by decide) (q105 c655 r_x737 ex738))
                        intro x739 ex739
                        exact ih654 _ _ _ _ _ _ ⟨hI, gL643, rfl, rfl, rfl, rfl, hT, (q116 i1 c655 c675 c720 ex739)⟩ (mu_up (q117 i1 c655 c675 c720 ex739) (q118 i1 c655 c675 c720 ex739))
                      · refine u_X4_next_195 ?_
                        refine ⟨o_v0, ?_⟩
                        intro x740 ex740
                        have hI := iv_sJ (j := 8) (v := x740) hI o_v0 (by decide)
                        refine u_X4_next_201 ?_
                        refine ⟨o_v0, ?_⟩
                        intro x741 ex741
                        have r_x741 : (0 : Int32) ≤ x741 ∧ x741 ≤ (900 : Int32) := by rw [ex741]; exact nu 7 rfl hI o_v0
                        intro x742 ex742
                        have hI := iv_sI (j := 4) (v := x742) hI o_v0 (by decide) (nu_one (lo := (0 : Int32)) (hi := (900 : Int32)) (by decide) (q105 c655 r_x741 ex742))
                        intro x743 ex743
                        exact ih654 _ _ _ _ _ _ ⟨hI, gL643, rfl, rfl, rfl, rfl, hT, (q116 i1 c655 c675 c720 ex743)⟩ (mu_up (q117 i1 c655 c675 c720 ex743) (q118 i1 c655 c675 c720 ex743))
          · refine u_X4_next_114 ?_
            refine i_X4_next_118 (fun (y0 : Nat) (y1 : Int32) (y2 : Int32) (y3 : Int32) (y4 : Int32) (Z : HS) => ((2147483647 : Int32).toInt - y4.toInt).toNat) (fun (y0 : Nat) (y1 : Int32) (y2 : Int32) (y3 : Int32) (y4 : Int32) (Z : HS) => (IV Z) ∧ (Gr (sJ (sI (sI S1 v0 7 x9) v0 6 x11) v0 8 (0 : Int64)) Z) ∧ (v0 = y0) ∧ ((0 : Int32) = y1) ∧ ((8 : Int32) = y2) ∧ ((32 : Int32) = y3) ∧ (TX Z v0) ∧ (0 ≤ y4)) ?_ _ _ _ _ _ _ ⟨hI, (gr_rf _), rfl, rfl, rfl, rfl, hT, (q43)⟩
            intro w746 w748 w750 w752 w754 S744 X755 ⟨hI, gL745, q747, q749, q751, q753, hT, i1⟩ ih756
            subst q747
            subst q749
            subst q751
            subst q753
            have o_v0 := gr_ob gL745 o_v0
            have g0 := gr_tr g0 gL745
            have gL2 := gr_tr gL2 gL745
            refine u_X4_next_118 ?_
            refine ⟨fun c757 => ?_, fun c757 => ?_⟩
            · refine u_X4_next_217 ?_
              refine ⟨fun c758 => ?_, fun c758 => ?_⟩
              · refine u_X4_next_240 ?_
                refine ⟨fun c759 => ?_, fun c759 => ?_⟩
                · exact hq _ hI g0 hT
                · refine ⟨o_v0, ?_⟩
                  intro x760 ex760
                  refine ⟨fun c761 => ?_, fun c761 => ?_⟩
                  · exact hq _ hI g0 hT
                  · intro x762 ex762
                    have r_x762 : (0 : Int32) ≤ x762 ∧ x762 ≤ (900 : Int32) := by rw [ex762]; exact nu 7 rfl hI o_v0
                    intro x763 ex763
                    have hI := iv_sI (j := 4) (v := x763) hI o_v0 (by decide) (nu_one (lo := (0 : Int32)) (hi := (900 : Int32)) (by decide) (q101 c757 c758 c759 r_x762 ex763))
                    exact hq _ hI g0 hT
              · refine ⟨o_v0, ?_⟩
                intro x764 ex764
                have r_x764 : (0 : Int32) ≤ x764 ∧ x764 ≤ (900 : Int32) := by rw [ex764]; exact nu 7 rfl hI o_v0
                intro x765 ex765
                refine ⟨fun c766 => ?_, fun c766 => ?_⟩
                · refine u_X4_next_240 ?_
                  refine ⟨fun c767 => ?_, fun c767 => ?_⟩
                  · exact hq _ hI g0 hT
                  · refine ⟨o_v0, ?_⟩
                    intro x768 ex768
                    refine ⟨fun c769 => ?_, fun c769 => ?_⟩
                    · exact hq _ hI g0 hT
                    · intro x770 ex770
                      have r_x770 : (0 : Int32) ≤ x770 ∧ x770 ≤ (900 : Int32) := by rw [ex770]; exact nu 7 rfl hI o_v0
                      intro x771 ex771
                      have hI := iv_sI (j := 4) (v := x771) hI o_v0 (by decide) (nu_one (lo := (0 : Int32)) (hi := (900 : Int32)) (by decide) (q102 c757 c758 c767 r_x770 ex771))
                      exact hq _ hI g0 hT
                · have hI := iv_sI (j := 6) (v := (6 : Int32)) hI o_v0 (by decide) (nu_free (by decide))
                  refine u_X4_next_240 ?_
                  refine ⟨fun c772 => ?_, fun c772 => ?_⟩
                  · exact hq _ hI g0 hT
                  · refine ⟨o_v0, ?_⟩
                    intro x773 ex773
                    refine ⟨fun c774 => ?_, fun c774 => ?_⟩
                    · exact hq _ hI g0 hT
                    · intro x775 ex775
                      have r_x775 : (0 : Int32) ≤ x775 ∧ x775 ≤ (900 : Int32) := by rw [ex775]; exact nu 7 rfl hI o_v0
                      intro x776 ex776
                      have hI := iv_sI (j := 4) (v := x776) hI o_v0 (by decide) (nu_one (lo := (0 : Int32)) (hi := (900 : Int32)) (by decide) (q102 c757 c758 c772 r_x775 ex776))
                      exact hq _ hI g0 hT
            · refine ⟨fun c777 => ?_, fun c777 => ?_⟩
              · refine u_X4_next_217 ?_
                refine ⟨fun c778 => ?_, fun c778 => ?_⟩
                · refine u_X4_next_240 ?_
                  refine ⟨fun c779 => ?_, fun c779 => ?_⟩
                  · exact hq _ hI g0 hT
                  · refine ⟨o_v0, ?_⟩
                    intro x780 ex780
                    refine ⟨fun c781 => ?_, fun c781 => ?_⟩
                    · exact hq _ hI g0 hT
                    · intro x782 ex782
                      have r_x782 : (0 : Int32) ≤ x782 ∧ x782 ≤ (900 : Int32) := by rw [ex782]; exact nu 7 rfl hI o_v0
                      intro x783 ex783
                      have hI := iv_sI (j := 4) (v := x783) hI o_v0 (by decide) (nu_one (lo := (0 : Int32)) (hi := (900 : Int32)) (by decide) (q103 c757 c778 c779 r_x782 ex783))
                      exact hq _ hI g0 hT
                · refine ⟨o_v0, ?_⟩
                  intro x784 ex784
                  have r_x784 : (0 : Int32) ≤ x784 ∧ x784 ≤ (900 : Int32) := by rw [ex784]; exact nu 7 rfl hI o_v0
                  intro x785 ex785
                  refine ⟨fun c786 => ?_, fun c786 => ?_⟩
                  · refine u_X4_next_240 ?_
                    refine ⟨fun c787 => ?_, fun c787 => ?_⟩
                    · exact hq _ hI g0 hT
                    · refine ⟨o_v0, ?_⟩
                      intro x788 ex788
                      refine ⟨fun c789 => ?_, fun c789 => ?_⟩
                      · exact hq _ hI g0 hT
                      · intro x790 ex790
                        have r_x790 : (0 : Int32) ≤ x790 ∧ x790 ≤ (900 : Int32) := by rw [ex790]; exact nu 7 rfl hI o_v0
                        intro x791 ex791
                        have hI := iv_sI (j := 4) (v := x791) hI o_v0 (by decide) (nu_one (lo := (0 : Int32)) (hi := (900 : Int32)) (by decide) (q104 c757 c778 c787 r_x790 ex791))
                        exact hq _ hI g0 hT
                  · have hI := iv_sI (j := 6) (v := (6 : Int32)) hI o_v0 (by decide) (nu_free (by decide))
                    refine u_X4_next_240 ?_
                    refine ⟨fun c792 => ?_, fun c792 => ?_⟩
                    · exact hq _ hI g0 hT
                    · refine ⟨o_v0, ?_⟩
                      intro x793 ex793
                      refine ⟨fun c794 => ?_, fun c794 => ?_⟩
                      · exact hq _ hI g0 hT
                      · intro x795 ex795
                        have r_x795 : (0 : Int32) ≤ x795 ∧ x795 ≤ (900 : Int32) := by rw [ex795]; exact nu 7 rfl hI o_v0
                        intro x796 ex796
                        have hI := iv_sI (j := 4) (v := x796) hI o_v0 (by decide) (nu_one (lo := (0 : Int32)) (hi := (900 : Int32)) (by decide) (q104 c757 c778 c792 r_x795 ex796))
                        exact hq _ hI g0 hT
              · refine ⟨o_v0, ?_⟩
                intro x797 ex797
                have r_x797 : (0 : Int32) ≤ x797 ∧ x797 ≤ (900 : Int32) := by rw [ex797]; exact nu 7 rfl hI o_v0
                refine m_X4_sortAt hI o_v0 hT (fun x798 S799 hI2 g800 p_x798 => ?_)
                subst p_x798
                intro _
                intro x801 ex801
                refine ⟨fun c802 => ?_, fun c802 => ?_⟩
                · refine u_X4_next_217 ?_
                  refine ⟨fun c803 => ?_, fun c803 => ?_⟩
                  · refine u_X4_next_240 ?_
                    refine ⟨fun c804 => ?_, fun c804 => ?_⟩
                    · exact hq _ hI g0 hT
                    · refine ⟨o_v0, ?_⟩
                      intro x805 ex805
                      refine ⟨fun c806 => ?_, fun c806 => ?_⟩
                      · exact hq _ hI g0 hT
                      · intro x807 ex807
                        have r_x807 : (0 : Int32) ≤ x807 ∧ x807 ≤ (900 : Int32) := by rw [ex807]; exact nu 7 rfl hI o_v0
                        intro x808 ex808
                        have hI := iv_sI (j := 4) (v := x808) hI o_v0 (by decide) (nu_one (lo := (0 : Int32)) (hi := (900 : Int32)) (by decide) (q103 c757 c803 c804 r_x807 ex808))
                        exact hq _ hI g0 hT
                  · refine ⟨o_v0, ?_⟩
                    intro x809 ex809
                    have r_x809 : (0 : Int32) ≤ x809 ∧ x809 ≤ (900 : Int32) := by rw [ex809]; exact nu 7 rfl hI o_v0
                    intro x810 ex810
                    refine ⟨fun c811 => ?_, fun c811 => ?_⟩
                    · refine u_X4_next_240 ?_
                      refine ⟨fun c812 => ?_, fun c812 => ?_⟩
                      · exact hq _ hI g0 hT
                      · refine ⟨o_v0, ?_⟩
                        intro x813 ex813
                        refine ⟨fun c814 => ?_, fun c814 => ?_⟩
                        · exact hq _ hI g0 hT
                        · intro x815 ex815
                          have r_x815 : (0 : Int32) ≤ x815 ∧ x815 ≤ (900 : Int32) := by rw [ex815]; exact nu 7 rfl hI o_v0
                          intro x816 ex816
                          have hI := iv_sI (j := 4) (v := x816) hI o_v0 (by decide) (nu_one (lo := (0 : Int32)) (hi := (900 : Int32)) (by decide) (q104 c757 c803 c812 r_x815 ex816))
                          exact hq _ hI g0 hT
                    · have hI := iv_sI (j := 6) (v := (6 : Int32)) hI o_v0 (by decide) (nu_free (by decide))
                      refine u_X4_next_240 ?_
                      refine ⟨fun c817 => ?_, fun c817 => ?_⟩
                      · exact hq _ hI g0 hT
                      · refine ⟨o_v0, ?_⟩
                        intro x818 ex818
                        refine ⟨fun c819 => ?_, fun c819 => ?_⟩
                        · exact hq _ hI g0 hT
                        · intro x820 ex820
                          have r_x820 : (0 : Int32) ≤ x820 ∧ x820 ≤ (900 : Int32) := by rw [ex820]; exact nu 7 rfl hI o_v0
                          intro x821 ex821
                          have hI := iv_sI (j := 4) (v := x821) hI o_v0 (by decide) (nu_one (lo := (0 : Int32)) (hi := (900 : Int32)) (by decide) (q104 c757 c803 c817 r_x820 ex821))
                          exact hq _ hI g0 hT
                · refine ⟨fun c822 => ?_, fun c822 => ?_⟩
                  · refine u_X4_next_201 ?_
                    refine ⟨o_v0, ?_⟩
                    intro x823 ex823
                    have r_x823 : (0 : Int32) ≤ x823 ∧ x823 ≤ (900 : Int32) := by rw [ex823]; exact nu 7 rfl hI o_v0
                    intro x824 ex824
                    have hI := iv_sI (j := 4) (v := x824) hI o_v0 (by decide) (nu_one (lo := (0 : Int32)) (hi := (900 : Int32)) (by decide) (q105 c757 r_x823 ex824))
                    intro x825 ex825
                    exact ih756 _ _ _ _ _ _ ⟨hI, gL745, rfl, rfl, rfl, rfl, hT, (q113 i1 c757 c777 c822 ex825)⟩ (mu_up (q114 i1 c757 c777 c822 ex825) (q115 i1 c757 c777 c822 ex825))
                  · intro x826 ex826
                    have r_x826 : (0 : Int32) ≤ x826 ∧ x826 ≤ (900 : Int32) := by rw [ex826]; exact nu 7 rfl hI o_v0
                    obtain ⟨a827, ea827, o_a827, l_a827⟩ := hT
                    refine ⟨a827, ea827, ?_⟩
                    refine ⟨o_a827, ?_⟩
                    have n_a827 : nI (hN S744 a827) = 900 := by rw [show hN S744 a827 = 900 from l_a827]; decide
                    refine ⟨fun c828 => ?_, fun c828 => ?_⟩
                    · rw [n_a827] at c828
                      refine u_X4_next_201 ?_
                      refine ⟨o_v0, ?_⟩
                      intro x829 ex829
                      have r_x829 : (0 : Int32) ≤ x829 ∧ x829 ≤ (900 : Int32) := by rw [ex829]; exact nu 7 rfl hI o_v0
                      intro x830 ex830
                      have hI := iv_sI (j := 4) (v := x830) hI o_v0 (by decide) (nu_one (lo := (0 : Int32)) (hi := (900 : Int32)) (by decide) (q105 c757 r_x829 ex830))
                      intro x831 ex831
                      exact ih756 _ _ _ _ _ _ ⟨hI, gL745, rfl, rfl, rfl, rfl, hT, (q116 i1 c757 c777 c822 ex831)⟩ (mu_up (q117 i1 c757 c777 c822 ex831) (q118 i1 c757 c777 c822 ex831))
                    · rw [n_a827] at c828
                      intro x832 ex832
                      obtain ⟨a833, ea833, o_a833, l_a833⟩ := hT
                      refine ⟨a833, ea833, ?_⟩
                      intro x834 ex834
                      have r_x834 : (0 : Int32) ≤ x834 ∧ x834 ≤ (900 : Int32) := by rw [ex834]; exact nu 7 rfl hI o_v0
                      refine ⟨o_a833, ?_⟩
                      refine ⟨(vin l_a833 (m := 900) (by decide) (q112 c757 r_x834)), ?_⟩
                      intro x835 ex835
                      intro x836 ex836
                      refine ⟨fun c837 => ?_, fun c837 => ?_⟩
                      · refine u_X4_next_195 ?_
                        refine ⟨o_v0, ?_⟩
                        intro x838 ex838
                        have hI := iv_sJ (j := 8) (v := x838) hI o_v0 (by decide)
                        refine u_X4_next_201 ?_
                        refine ⟨o_v0, ?_⟩
                        intro x839 ex839
                        have r_x839 : (0 : Int32) ≤ x839 ∧ x839 ≤ (900 : Int32) := by rw [ex839]; exact nu 7 rfl hI o_v0
                        intro x840 ex840
                        have hI := iv_sI (j := 4) (v := x840) hI o_v0 (by decide) (nu_one (lo := (0 : Int32)) (hi := (900 : Int32)) (by decide) (q105 c757 r_x839 ex840))
                        intro x841 ex841
                        exact ih756 _ _ _ _ _ _ ⟨hI, gL745, rfl, rfl, rfl, rfl, hT, (q116 i1 c757 c777 c822 ex841)⟩ (mu_up (q117 i1 c757 c777 c822 ex841) (q118 i1 c757 c777 c822 ex841))
                      · refine u_X4_next_195 ?_
                        refine ⟨o_v0, ?_⟩
                        intro x842 ex842
                        have hI := iv_sJ (j := 8) (v := x842) hI o_v0 (by decide)
                        refine u_X4_next_201 ?_
                        refine ⟨o_v0, ?_⟩
                        intro x843 ex843
                        have r_x843 : (0 : Int32) ≤ x843 ∧ x843 ≤ (900 : Int32) := by rw [ex843]; exact nu 7 rfl hI o_v0
                        intro x844 ex844
                        have hI := iv_sI (j := 4) (v := x844) hI o_v0 (by decide) (nu_one (lo := (0 : Int32)) (hi := (900 : Int32)) (by decide) (q105 c757 r_x843 ex844))
                        intro x845 ex845
                        exact ih756 _ _ _ _ _ _ ⟨hI, gL745, rfl, rfl, rfl, rfl, hT, (q116 i1 c757 c777 c822 ex845)⟩ (mu_up (q117 i1 c757 c777 c822 ex845) (q118 i1 c757 c777 c822 ex845))
      · refine u_X4_next_78 ?_
        refine u_X4_next_83 ?_
        refine ⟨o_v0, ?_⟩
        intro x846 ex846
        refine ⟨fun c847 => ?_, fun c847 => ?_⟩
        · refine u_X4_next_98 ?_
          refine ⟨o_v0, ?_⟩
          intro x848 ex848
          refine ⟨fun c849 => ?_, fun c849 => ?_⟩
          · refine u_X4_next_114 ?_
            refine i_X4_next_118 (fun (y0 : Nat) (y1 : Int32) (y2 : Int32) (y3 : Int32) (y4 : Int32) (Z : HS) => ((2147483647 : Int32).toInt - y4.toInt).toNat) (fun (y0 : Nat) (y1 : Int32) (y2 : Int32) (y3 : Int32) (y4 : Int32) (Z : HS) => (IV Z) ∧ (Gr (sJ (sI (sI S1 v0 7 x9) v0 6 x11) v0 8 (0 : Int64)) Z) ∧ (v0 = y0) ∧ ((1 : Int32) = y1) ∧ ((3 : Int32) = y2) ∧ ((10 : Int32) = y3) ∧ (TX Z v0) ∧ (0 ≤ y4)) ?_ _ _ _ _ _ _ ⟨hI, (gr_rf _), rfl, rfl, rfl, rfl, hT, (q43)⟩
            intro w852 w854 w856 w858 w860 S850 X861 ⟨hI, gL851, q853, q855, q857, q859, hT, i1⟩ ih862
            subst q853
            subst q855
            subst q857
            subst q859
            have o_v0 := gr_ob gL851 o_v0
            have g0 := gr_tr g0 gL851
            have gL2 := gr_tr gL2 gL851
            refine u_X4_next_118 ?_
            refine ⟨fun c863 => ?_, fun c863 => ?_⟩
            · refine u_X4_next_217 ?_
              refine ⟨fun c864 => ?_, fun c864 => ?_⟩
              · refine u_X4_next_240 ?_
                refine ⟨fun c865 => ?_, fun c865 => ?_⟩
                · exact hq _ hI g0 hT
                · refine ⟨o_v0, ?_⟩
                  intro x866 ex866
                  refine ⟨fun c867 => ?_, fun c867 => ?_⟩
                  · exact hq _ hI g0 hT
                  · intro x868 ex868
                    have r_x868 : (0 : Int32) ≤ x868 ∧ x868 ≤ (900 : Int32) := by rw [ex868]; exact nu 7 rfl hI o_v0
                    intro x869 ex869
                    have hI := iv_sI (j := 4) (v := x869) hI o_v0 (by decide) (nu_one (lo := (0 : Int32)) (hi := (900 : Int32)) (by decide) (q83 c863 c864 c865 r_x868 ex869))
                    exact hq _ hI g0 hT
              · refine ⟨o_v0, ?_⟩
                intro x870 ex870
                have r_x870 : (0 : Int32) ≤ x870 ∧ x870 ≤ (900 : Int32) := by rw [ex870]; exact nu 7 rfl hI o_v0
                intro x871 ex871
                refine ⟨fun c872 => ?_, fun c872 => ?_⟩
                · refine u_X4_next_240 ?_
                  refine ⟨fun c873 => ?_, fun c873 => ?_⟩
                  · exact hq _ hI g0 hT
                  · refine ⟨o_v0, ?_⟩
                    intro x874 ex874
                    refine ⟨fun c875 => ?_, fun c875 => ?_⟩
                    · exact hq _ hI g0 hT
                    · intro x876 ex876
                      have r_x876 : (0 : Int32) ≤ x876 ∧ x876 ≤ (900 : Int32) := by rw [ex876]; exact nu 7 rfl hI o_v0
                      intro x877 ex877
                      have hI := iv_sI (j := 4) (v := x877) hI o_v0 (by decide) (nu_one (lo := (0 : Int32)) (hi := (900 : Int32)) (by decide) (q84 c863 c864 c873 r_x876 ex877))
                      exact hq _ hI g0 hT
                · have hI := iv_sI (j := 6) (v := (6 : Int32)) hI o_v0 (by decide) (nu_free (by decide))
                  refine u_X4_next_240 ?_
                  refine ⟨fun c878 => ?_, fun c878 => ?_⟩
                  · exact hq _ hI g0 hT
                  · refine ⟨o_v0, ?_⟩
                    intro x879 ex879
                    refine ⟨fun c880 => ?_, fun c880 => ?_⟩
                    · exact hq _ hI g0 hT
                    · intro x881 ex881
                      have r_x881 : (0 : Int32) ≤ x881 ∧ x881 ≤ (900 : Int32) := by rw [ex881]; exact nu 7 rfl hI o_v0
                      intro x882 ex882
                      have hI := iv_sI (j := 4) (v := x882) hI o_v0 (by decide) (nu_one (lo := (0 : Int32)) (hi := (900 : Int32)) (by decide) (q84 c863 c864 c878 r_x881 ex882))
                      exact hq _ hI g0 hT
            · refine ⟨fun c883 => ?_, fun c883 => ?_⟩
              · refine u_X4_next_217 ?_
                refine ⟨fun c884 => ?_, fun c884 => ?_⟩
                · refine u_X4_next_240 ?_
                  refine ⟨fun c885 => ?_, fun c885 => ?_⟩
                  · exact hq _ hI g0 hT
                  · refine ⟨o_v0, ?_⟩
                    intro x886 ex886
                    refine ⟨fun c887 => ?_, fun c887 => ?_⟩
                    · exact hq _ hI g0 hT
                    · intro x888 ex888
                      have r_x888 : (0 : Int32) ≤ x888 ∧ x888 ≤ (900 : Int32) := by rw [ex888]; exact nu 7 rfl hI o_v0
                      intro x889 ex889
                      have hI := iv_sI (j := 4) (v := x889) hI o_v0 (by decide) (nu_one (lo := (0 : Int32)) (hi := (900 : Int32)) (by decide) (q85 c863 c884 c885 r_x888 ex889))
                      exact hq _ hI g0 hT
                · refine ⟨o_v0, ?_⟩
                  intro x890 ex890
                  have r_x890 : (0 : Int32) ≤ x890 ∧ x890 ≤ (900 : Int32) := by rw [ex890]; exact nu 7 rfl hI o_v0
                  intro x891 ex891
                  refine ⟨fun c892 => ?_, fun c892 => ?_⟩
                  · refine u_X4_next_240 ?_
                    refine ⟨fun c893 => ?_, fun c893 => ?_⟩
                    · exact hq _ hI g0 hT
                    · refine ⟨o_v0, ?_⟩
                      intro x894 ex894
                      refine ⟨fun c895 => ?_, fun c895 => ?_⟩
                      · exact hq _ hI g0 hT
                      · intro x896 ex896
                        have r_x896 : (0 : Int32) ≤ x896 ∧ x896 ≤ (900 : Int32) := by rw [ex896]; exact nu 7 rfl hI o_v0
                        intro x897 ex897
                        have hI := iv_sI (j := 4) (v := x897) hI o_v0 (by decide) (nu_one (lo := (0 : Int32)) (hi := (900 : Int32)) (by decide) (q86 c863 c884 c893 r_x896 ex897))
                        exact hq _ hI g0 hT
                  · have hI := iv_sI (j := 6) (v := (6 : Int32)) hI o_v0 (by decide) (nu_free (by decide))
                    refine u_X4_next_240 ?_
                    refine ⟨fun c898 => ?_, fun c898 => ?_⟩
                    · exact hq _ hI g0 hT
                    · refine ⟨o_v0, ?_⟩
                      intro x899 ex899
                      refine ⟨fun c900 => ?_, fun c900 => ?_⟩
                      · exact hq _ hI g0 hT
                      · intro x901 ex901
                        have r_x901 : (0 : Int32) ≤ x901 ∧ x901 ≤ (900 : Int32) := by rw [ex901]; exact nu 7 rfl hI o_v0
                        intro x902 ex902
                        have hI := iv_sI (j := 4) (v := x902) hI o_v0 (by decide) (nu_one (lo := (0 : Int32)) (hi := (900 : Int32)) (by decide) (q86 c863 c884 c898 r_x901 ex902))
                        exact hq _ hI g0 hT
              · refine ⟨o_v0, ?_⟩
                intro x903 ex903
                have r_x903 : (0 : Int32) ≤ x903 ∧ x903 ≤ (900 : Int32) := by rw [ex903]; exact nu 7 rfl hI o_v0
                refine m_X4_sortAt hI o_v0 hT (fun x904 S905 hI2 g906 p_x904 => ?_)
                subst p_x904
                intro _
                intro x907 ex907
                refine ⟨fun c908 => ?_, fun c908 => ?_⟩
                · refine u_X4_next_217 ?_
                  refine ⟨fun c909 => ?_, fun c909 => ?_⟩
                  · refine u_X4_next_240 ?_
                    refine ⟨fun c910 => ?_, fun c910 => ?_⟩
                    · exact hq _ hI g0 hT
                    · refine ⟨o_v0, ?_⟩
                      intro x911 ex911
                      refine ⟨fun c912 => ?_, fun c912 => ?_⟩
                      · exact hq _ hI g0 hT
                      · intro x913 ex913
                        have r_x913 : (0 : Int32) ≤ x913 ∧ x913 ≤ (900 : Int32) := by rw [ex913]; exact nu 7 rfl hI o_v0
                        intro x914 ex914
                        have hI := iv_sI (j := 4) (v := x914) hI o_v0 (by decide) (nu_one (lo := (0 : Int32)) (hi := (900 : Int32)) (by decide) (q85 c863 c909 c910 r_x913 ex914))
                        exact hq _ hI g0 hT
                  · refine ⟨o_v0, ?_⟩
                    intro x915 ex915
                    have r_x915 : (0 : Int32) ≤ x915 ∧ x915 ≤ (900 : Int32) := by rw [ex915]; exact nu 7 rfl hI o_v0
                    intro x916 ex916
                    refine ⟨fun c917 => ?_, fun c917 => ?_⟩
                    · refine u_X4_next_240 ?_
                      refine ⟨fun c918 => ?_, fun c918 => ?_⟩
                      · exact hq _ hI g0 hT
                      · refine ⟨o_v0, ?_⟩
                        intro x919 ex919
                        refine ⟨fun c920 => ?_, fun c920 => ?_⟩
                        · exact hq _ hI g0 hT
                        · intro x921 ex921
                          have r_x921 : (0 : Int32) ≤ x921 ∧ x921 ≤ (900 : Int32) := by rw [ex921]; exact nu 7 rfl hI o_v0
                          intro x922 ex922
                          have hI := iv_sI (j := 4) (v := x922) hI o_v0 (by decide) (nu_one (lo := (0 : Int32)) (hi := (900 : Int32)) (by decide) (q86 c863 c909 c918 r_x921 ex922))
                          exact hq _ hI g0 hT
                    · have hI := iv_sI (j := 6) (v := (6 : Int32)) hI o_v0 (by decide) (nu_free (by decide))
                      refine u_X4_next_240 ?_
                      refine ⟨fun c923 => ?_, fun c923 => ?_⟩
                      · exact hq _ hI g0 hT
                      · refine ⟨o_v0, ?_⟩
                        intro x924 ex924
                        refine ⟨fun c925 => ?_, fun c925 => ?_⟩
                        · exact hq _ hI g0 hT
                        · intro x926 ex926
                          have r_x926 : (0 : Int32) ≤ x926 ∧ x926 ≤ (900 : Int32) := by rw [ex926]; exact nu 7 rfl hI o_v0
                          intro x927 ex927
                          have hI := iv_sI (j := 4) (v := x927) hI o_v0 (by decide) (nu_one (lo := (0 : Int32)) (hi := (900 : Int32)) (by decide) (q86 c863 c909 c923 r_x926 ex927))
                          exact hq _ hI g0 hT
                · refine ⟨fun c928 => ?_, fun c928 => ?_⟩
                  · refine u_X4_next_201 ?_
                    refine ⟨o_v0, ?_⟩
                    intro x929 ex929
                    have r_x929 : (0 : Int32) ≤ x929 ∧ x929 ≤ (900 : Int32) := by rw [ex929]; exact nu 7 rfl hI o_v0
                    intro x930 ex930
                    have hI := iv_sI (j := 4) (v := x930) hI o_v0 (by decide) (nu_one (lo := (0 : Int32)) (hi := (900 : Int32)) (by decide) (q87 c863 r_x929 ex930))
                    intro x931 ex931
                    exact ih862 _ _ _ _ _ _ ⟨hI, gL851, rfl, rfl, rfl, rfl, hT, (q88 i1 c863 c883 c928 ex931)⟩ (mu_up (q89 i1 c863 c883 c928 ex931) (q90 i1 c863 c883 c928 ex931))
                  · intro x932 ex932
                    have r_x932 : (0 : Int32) ≤ x932 ∧ x932 ≤ (900 : Int32) := by rw [ex932]; exact nu 7 rfl hI o_v0
                    obtain ⟨a933, ea933, o_a933, l_a933⟩ := hT
                    refine ⟨a933, ea933, ?_⟩
                    refine ⟨o_a933, ?_⟩
                    have n_a933 : nI (hN S850 a933) = 900 := by rw [show hN S850 a933 = 900 from l_a933]; decide
                    refine ⟨fun c934 => ?_, fun c934 => ?_⟩
                    · rw [n_a933] at c934
                      refine u_X4_next_201 ?_
                      refine ⟨o_v0, ?_⟩
                      intro x935 ex935
                      have r_x935 : (0 : Int32) ≤ x935 ∧ x935 ≤ (900 : Int32) := by rw [ex935]; exact nu 7 rfl hI o_v0
                      intro x936 ex936
                      have hI := iv_sI (j := 4) (v := x936) hI o_v0 (by decide) (nu_one (lo := (0 : Int32)) (hi := (900 : Int32)) (by decide) (q87 c863 r_x935 ex936))
                      intro x937 ex937
                      exact ih862 _ _ _ _ _ _ ⟨hI, gL851, rfl, rfl, rfl, rfl, hT, (q91 i1 c863 c883 c928 ex937)⟩ (mu_up (q92 i1 c863 c883 c928 ex937) (q93 i1 c863 c883 c928 ex937))
                    · rw [n_a933] at c934
                      intro x938 ex938
                      obtain ⟨a939, ea939, o_a939, l_a939⟩ := hT
                      refine ⟨a939, ea939, ?_⟩
                      intro x940 ex940
                      have r_x940 : (0 : Int32) ≤ x940 ∧ x940 ≤ (900 : Int32) := by rw [ex940]; exact nu 7 rfl hI o_v0
                      refine ⟨o_a939, ?_⟩
                      refine ⟨(vin l_a939 (m := 900) (by decide) (q94 c863 r_x940)), ?_⟩
                      intro x941 ex941
                      intro x942 ex942
                      refine ⟨fun c943 => ?_, fun c943 => ?_⟩
                      · refine u_X4_next_195 ?_
                        refine ⟨o_v0, ?_⟩
                        intro x944 ex944
                        have hI := iv_sJ (j := 8) (v := x944) hI o_v0 (by decide)
                        refine u_X4_next_201 ?_
                        refine ⟨o_v0, ?_⟩
                        intro x945 ex945
                        have r_x945 : (0 : Int32) ≤ x945 ∧ x945 ≤ (900 : Int32) := by rw [ex945]; exact nu 7 rfl hI o_v0
                        intro x946 ex946
                        have hI := iv_sI (j := 4) (v := x946) hI o_v0 (by decide) (nu_one (lo := (0 : Int32)) (hi := (900 : Int32)) (by decide) (q87 c863 r_x945 ex946))
                        intro x947 ex947
                        exact ih862 _ _ _ _ _ _ ⟨hI, gL851, rfl, rfl, rfl, rfl, hT, (q91 i1 c863 c883 c928 ex947)⟩ (mu_up (q92 i1 c863 c883 c928 ex947) (q93 i1 c863 c883 c928 ex947))
                      · refine u_X4_next_195 ?_
                        refine ⟨o_v0, ?_⟩
                        intro x948 ex948
                        have hI := iv_sJ (j := 8) (v := x948) hI o_v0 (by decide)
                        refine u_X4_next_201 ?_
                        refine ⟨o_v0, ?_⟩
                        intro x949 ex949
                        have r_x949 : (0 : Int32) ≤ x949 ∧ x949 ≤ (900 : Int32) := by rw [ex949]; exact nu 7 rfl hI o_v0
                        intro x950 ex950
                        have hI := iv_sI (j := 4) (v := x950) hI o_v0 (by decide) (nu_one (lo := (0 : Int32)) (hi := (900 : Int32)) (by decide) (q87 c863 r_x949 ex950))
                        intro x951 ex951
                        exact ih862 _ _ _ _ _ _ ⟨hI, gL851, rfl, rfl, rfl, rfl, hT, (q91 i1 c863 c883 c928 ex951)⟩ (mu_up (q92 i1 c863 c883 c928 ex951) (q93 i1 c863 c883 c928 ex951))
          · refine u_X4_next_114 ?_
            refine i_X4_next_118 (fun (y0 : Nat) (y1 : Int32) (y2 : Int32) (y3 : Int32) (y4 : Int32) (Z : HS) => ((2147483647 : Int32).toInt - y4.toInt).toNat) (fun (y0 : Nat) (y1 : Int32) (y2 : Int32) (y3 : Int32) (y4 : Int32) (Z : HS) => (IV Z) ∧ (Gr (sJ (sI (sI S1 v0 7 x9) v0 6 x11) v0 8 (0 : Int64)) Z) ∧ (v0 = y0) ∧ ((1 : Int32) = y1) ∧ ((3 : Int32) = y2) ∧ ((32 : Int32) = y3) ∧ (TX Z v0) ∧ (0 ≤ y4)) ?_ _ _ _ _ _ _ ⟨hI, (gr_rf _), rfl, rfl, rfl, rfl, hT, (q43)⟩
            intro w954 w956 w958 w960 w962 S952 X963 ⟨hI, gL953, q955, q957, q959, q961, hT, i1⟩ ih964
            subst q955
            subst q957
            subst q959
            subst q961
            have o_v0 := gr_ob gL953 o_v0
            have g0 := gr_tr g0 gL953
            have gL2 := gr_tr gL2 gL953
            refine u_X4_next_118 ?_
            refine ⟨fun c965 => ?_, fun c965 => ?_⟩
            · refine u_X4_next_217 ?_
              refine ⟨fun c966 => ?_, fun c966 => ?_⟩
              · refine u_X4_next_240 ?_
                refine ⟨fun c967 => ?_, fun c967 => ?_⟩
                · exact hq _ hI g0 hT
                · refine ⟨o_v0, ?_⟩
                  intro x968 ex968
                  refine ⟨fun c969 => ?_, fun c969 => ?_⟩
                  · exact hq _ hI g0 hT
                  · intro x970 ex970
                    have r_x970 : (0 : Int32) ≤ x970 ∧ x970 ≤ (900 : Int32) := by rw [ex970]; exact nu 7 rfl hI o_v0
                    intro x971 ex971
                    have hI := iv_sI (j := 4) (v := x971) hI o_v0 (by decide) (nu_one (lo := (0 : Int32)) (hi := (900 : Int32)) (by decide) (q83 c965 c966 c967 r_x970 ex971))
                    exact hq _ hI g0 hT
              · refine ⟨o_v0, ?_⟩
                intro x972 ex972
                have r_x972 : (0 : Int32) ≤ x972 ∧ x972 ≤ (900 : Int32) := by rw [ex972]; exact nu 7 rfl hI o_v0
                intro x973 ex973
                refine ⟨fun c974 => ?_, fun c974 => ?_⟩
                · refine u_X4_next_240 ?_
                  refine ⟨fun c975 => ?_, fun c975 => ?_⟩
                  · exact hq _ hI g0 hT
                  · refine ⟨o_v0, ?_⟩
                    intro x976 ex976
                    refine ⟨fun c977 => ?_, fun c977 => ?_⟩
                    · exact hq _ hI g0 hT
                    · intro x978 ex978
                      have r_x978 : (0 : Int32) ≤ x978 ∧ x978 ≤ (900 : Int32) := by rw [ex978]; exact nu 7 rfl hI o_v0
                      intro x979 ex979
                      have hI := iv_sI (j := 4) (v := x979) hI o_v0 (by decide) (nu_one (lo := (0 : Int32)) (hi := (900 : Int32)) (by decide) (q84 c965 c966 c975 r_x978 ex979))
                      exact hq _ hI g0 hT
                · have hI := iv_sI (j := 6) (v := (6 : Int32)) hI o_v0 (by decide) (nu_free (by decide))
                  refine u_X4_next_240 ?_
                  refine ⟨fun c980 => ?_, fun c980 => ?_⟩
                  · exact hq _ hI g0 hT
                  · refine ⟨o_v0, ?_⟩
                    intro x981 ex981
                    refine ⟨fun c982 => ?_, fun c982 => ?_⟩
                    · exact hq _ hI g0 hT
                    · intro x983 ex983
                      have r_x983 : (0 : Int32) ≤ x983 ∧ x983 ≤ (900 : Int32) := by rw [ex983]; exact nu 7 rfl hI o_v0
                      intro x984 ex984
                      have hI := iv_sI (j := 4) (v := x984) hI o_v0 (by decide) (nu_one (lo := (0 : Int32)) (hi := (900 : Int32)) (by decide) (q84 c965 c966 c980 r_x983 ex984))
                      exact hq _ hI g0 hT
            · refine ⟨fun c985 => ?_, fun c985 => ?_⟩
              · refine u_X4_next_217 ?_
                refine ⟨fun c986 => ?_, fun c986 => ?_⟩
                · refine u_X4_next_240 ?_
                  refine ⟨fun c987 => ?_, fun c987 => ?_⟩
                  · exact hq _ hI g0 hT
                  · refine ⟨o_v0, ?_⟩
                    intro x988 ex988
                    refine ⟨fun c989 => ?_, fun c989 => ?_⟩
                    · exact hq _ hI g0 hT
                    · intro x990 ex990
                      have r_x990 : (0 : Int32) ≤ x990 ∧ x990 ≤ (900 : Int32) := by rw [ex990]; exact nu 7 rfl hI o_v0
                      intro x991 ex991
                      have hI := iv_sI (j := 4) (v := x991) hI o_v0 (by decide) (nu_one (lo := (0 : Int32)) (hi := (900 : Int32)) (by decide) (q85 c965 c986 c987 r_x990 ex991))
                      exact hq _ hI g0 hT
                · refine ⟨o_v0, ?_⟩
                  intro x992 ex992
                  have r_x992 : (0 : Int32) ≤ x992 ∧ x992 ≤ (900 : Int32) := by rw [ex992]; exact nu 7 rfl hI o_v0
                  intro x993 ex993
                  refine ⟨fun c994 => ?_, fun c994 => ?_⟩
                  · refine u_X4_next_240 ?_
                    refine ⟨fun c995 => ?_, fun c995 => ?_⟩
                    · exact hq _ hI g0 hT
                    · refine ⟨o_v0, ?_⟩
                      intro x996 ex996
                      refine ⟨fun c997 => ?_, fun c997 => ?_⟩
                      · exact hq _ hI g0 hT
                      · intro x998 ex998
                        have r_x998 : (0 : Int32) ≤ x998 ∧ x998 ≤ (900 : Int32) := by rw [ex998]; exact nu 7 rfl hI o_v0
                        intro x999 ex999
                        have hI := iv_sI (j := 4) (v := x999) hI o_v0 (by decide) (nu_one (lo := (0 : Int32)) (hi := (900 : Int32)) (by decide) (q86 c965 c986 c995 r_x998 ex999))
                        exact hq _ hI g0 hT
                  · have hI := iv_sI (j := 6) (v := (6 : Int32)) hI o_v0 (by decide) (nu_free (by decide))
                    refine u_X4_next_240 ?_
                    refine ⟨fun c1000 => ?_, fun c1000 => ?_⟩
                    · exact hq _ hI g0 hT
                    · refine ⟨o_v0, ?_⟩
                      intro x1001 ex1001
                      refine ⟨fun c1002 => ?_, fun c1002 => ?_⟩
                      · exact hq _ hI g0 hT
                      · intro x1003 ex1003
                        have r_x1003 : (0 : Int32) ≤ x1003 ∧ x1003 ≤ (900 : Int32) := by rw [ex1003]; exact nu 7 rfl hI o_v0
                        intro x1004 ex1004
                        have hI := iv_sI (j := 4) (v := x1004) hI o_v0 (by decide) (nu_one (lo := (0 : Int32)) (hi := (900 : Int32)) (by decide) (q86 c965 c986 c1000 r_x1003 ex1004))
                        exact hq _ hI g0 hT
              · refine ⟨o_v0, ?_⟩
                intro x1005 ex1005
                have r_x1005 : (0 : Int32) ≤ x1005 ∧ x1005 ≤ (900 : Int32) := by rw [ex1005]; exact nu 7 rfl hI o_v0
                refine m_X4_sortAt hI o_v0 hT (fun x1006 S1007 hI2 g1008 p_x1006 => ?_)
                subst p_x1006
                intro _
                intro x1009 ex1009
                refine ⟨fun c1010 => ?_, fun c1010 => ?_⟩
                · refine u_X4_next_217 ?_
                  refine ⟨fun c1011 => ?_, fun c1011 => ?_⟩
                  · refine u_X4_next_240 ?_
                    refine ⟨fun c1012 => ?_, fun c1012 => ?_⟩
                    · exact hq _ hI g0 hT
                    · refine ⟨o_v0, ?_⟩
                      intro x1013 ex1013
                      refine ⟨fun c1014 => ?_, fun c1014 => ?_⟩
                      · exact hq _ hI g0 hT
                      · intro x1015 ex1015
                        have r_x1015 : (0 : Int32) ≤ x1015 ∧ x1015 ≤ (900 : Int32) := by rw [ex1015]; exact nu 7 rfl hI o_v0
                        intro x1016 ex1016
                        have hI := iv_sI (j := 4) (v := x1016) hI o_v0 (by decide) (nu_one (lo := (0 : Int32)) (hi := (900 : Int32)) (by decide) (q85 c965 c1011 c1012 r_x1015 ex1016))
                        exact hq _ hI g0 hT
                  · refine ⟨o_v0, ?_⟩
                    intro x1017 ex1017
                    have r_x1017 : (0 : Int32) ≤ x1017 ∧ x1017 ≤ (900 : Int32) := by rw [ex1017]; exact nu 7 rfl hI o_v0
                    intro x1018 ex1018
                    refine ⟨fun c1019 => ?_, fun c1019 => ?_⟩
                    · refine u_X4_next_240 ?_
                      refine ⟨fun c1020 => ?_, fun c1020 => ?_⟩
                      · exact hq _ hI g0 hT
                      · refine ⟨o_v0, ?_⟩
                        intro x1021 ex1021
                        refine ⟨fun c1022 => ?_, fun c1022 => ?_⟩
                        · exact hq _ hI g0 hT
                        · intro x1023 ex1023
                          have r_x1023 : (0 : Int32) ≤ x1023 ∧ x1023 ≤ (900 : Int32) := by rw [ex1023]; exact nu 7 rfl hI o_v0
                          intro x1024 ex1024
                          have hI := iv_sI (j := 4) (v := x1024) hI o_v0 (by decide) (nu_one (lo := (0 : Int32)) (hi := (900 : Int32)) (by decide) (q86 c965 c1011 c1020 r_x1023 ex1024))
                          exact hq _ hI g0 hT
                    · have hI := iv_sI (j := 6) (v := (6 : Int32)) hI o_v0 (by decide) (nu_free (by decide))
                      refine u_X4_next_240 ?_
                      refine ⟨fun c1025 => ?_, fun c1025 => ?_⟩
                      · exact hq _ hI g0 hT
                      · refine ⟨o_v0, ?_⟩
                        intro x1026 ex1026
                        refine ⟨fun c1027 => ?_, fun c1027 => ?_⟩
                        · exact hq _ hI g0 hT
                        · intro x1028 ex1028
                          have r_x1028 : (0 : Int32) ≤ x1028 ∧ x1028 ≤ (900 : Int32) := by rw [ex1028]; exact nu 7 rfl hI o_v0
                          intro x1029 ex1029
                          have hI := iv_sI (j := 4) (v := x1029) hI o_v0 (by decide) (nu_one (lo := (0 : Int32)) (hi := (900 : Int32)) (by decide) (q86 c965 c1011 c1025 r_x1028 ex1029))
                          exact hq _ hI g0 hT
                · refine ⟨fun c1030 => ?_, fun c1030 => ?_⟩
                  · refine u_X4_next_201 ?_
                    refine ⟨o_v0, ?_⟩
                    intro x1031 ex1031
                    have r_x1031 : (0 : Int32) ≤ x1031 ∧ x1031 ≤ (900 : Int32) := by rw [ex1031]; exact nu 7 rfl hI o_v0
                    intro x1032 ex1032
                    have hI := iv_sI (j := 4) (v := x1032) hI o_v0 (by decide) (nu_one (lo := (0 : Int32)) (hi := (900 : Int32)) (by decide) (q87 c965 r_x1031 ex1032))
                    intro x1033 ex1033
                    exact ih964 _ _ _ _ _ _ ⟨hI, gL953, rfl, rfl, rfl, rfl, hT, (q88 i1 c965 c985 c1030 ex1033)⟩ (mu_up (q89 i1 c965 c985 c1030 ex1033) (q90 i1 c965 c985 c1030 ex1033))
                  · intro x1034 ex1034
                    have r_x1034 : (0 : Int32) ≤ x1034 ∧ x1034 ≤ (900 : Int32) := by rw [ex1034]; exact nu 7 rfl hI o_v0
                    obtain ⟨a1035, ea1035, o_a1035, l_a1035⟩ := hT
                    refine ⟨a1035, ea1035, ?_⟩
                    refine ⟨o_a1035, ?_⟩
                    have n_a1035 : nI (hN S952 a1035) = 900 := by rw [show hN S952 a1035 = 900 from l_a1035]; decide
                    refine ⟨fun c1036 => ?_, fun c1036 => ?_⟩
                    · rw [n_a1035] at c1036
                      refine u_X4_next_201 ?_
                      refine ⟨o_v0, ?_⟩
                      intro x1037 ex1037
                      have r_x1037 : (0 : Int32) ≤ x1037 ∧ x1037 ≤ (900 : Int32) := by rw [ex1037]; exact nu 7 rfl hI o_v0
                      intro x1038 ex1038
                      have hI := iv_sI (j := 4) (v := x1038) hI o_v0 (by decide) (nu_one (lo := (0 : Int32)) (hi := (900 : Int32)) (by decide) (q87 c965 r_x1037 ex1038))
                      intro x1039 ex1039
                      exact ih964 _ _ _ _ _ _ ⟨hI, gL953, rfl, rfl, rfl, rfl, hT, (q91 i1 c965 c985 c1030 ex1039)⟩ (mu_up (q92 i1 c965 c985 c1030 ex1039) (q93 i1 c965 c985 c1030 ex1039))
                    · rw [n_a1035] at c1036
                      intro x1040 ex1040
                      obtain ⟨a1041, ea1041, o_a1041, l_a1041⟩ := hT
                      refine ⟨a1041, ea1041, ?_⟩
                      intro x1042 ex1042
                      have r_x1042 : (0 : Int32) ≤ x1042 ∧ x1042 ≤ (900 : Int32) := by rw [ex1042]; exact nu 7 rfl hI o_v0
                      refine ⟨o_a1041, ?_⟩
                      refine ⟨(vin l_a1041 (m := 900) (by decide) (q94 c965 r_x1042)), ?_⟩
                      intro x1043 ex1043
                      intro x1044 ex1044
                      refine ⟨fun c1045 => ?_, fun c1045 => ?_⟩
                      · refine u_X4_next_195 ?_
                        refine ⟨o_v0, ?_⟩
                        intro x1046 ex1046
                        have hI := iv_sJ (j := 8) (v := x1046) hI o_v0 (by decide)
                        refine u_X4_next_201 ?_
                        refine ⟨o_v0, ?_⟩
                        intro x1047 ex1047
                        have r_x1047 : (0 : Int32) ≤ x1047 ∧ x1047 ≤ (900 : Int32) := by rw [ex1047]; exact nu 7 rfl hI o_v0
                        intro x1048 ex1048
                        have hI := iv_sI (j := 4) (v := x1048) hI o_v0 (by decide) (nu_one (lo := (0 : Int32)) (hi := (900 : Int32)) (by decide) (q87 c965 r_x1047 ex1048))
                        intro x1049 ex1049
                        exact ih964 _ _ _ _ _ _ ⟨hI, gL953, rfl, rfl, rfl, rfl, hT, (q91 i1 c965 c985 c1030 ex1049)⟩ (mu_up (q92 i1 c965 c985 c1030 ex1049) (q93 i1 c965 c985 c1030 ex1049))
                      · refine u_X4_next_195 ?_
                        refine ⟨o_v0, ?_⟩
                        intro x1050 ex1050
                        have hI := iv_sJ (j := 8) (v := x1050) hI o_v0 (by decide)
                        refine u_X4_next_201 ?_
                        refine ⟨o_v0, ?_⟩
                        intro x1051 ex1051
                        have r_x1051 : (0 : Int32) ≤ x1051 ∧ x1051 ≤ (900 : Int32) := by rw [ex1051]; exact nu 7 rfl hI o_v0
                        intro x1052 ex1052
                        have hI := iv_sI (j := 4) (v := x1052) hI o_v0 (by decide) (nu_one (lo := (0 : Int32)) (hi := (900 : Int32)) (by decide) (q87 c965 r_x1051 ex1052))
                        intro x1053 ex1053
                        exact ih964 _ _ _ _ _ _ ⟨hI, gL953, rfl, rfl, rfl, rfl, hT, (q91 i1 c965 c985 c1030 ex1053)⟩ (mu_up (q92 i1 c965 c985 c1030 ex1053) (q93 i1 c965 c985 c1030 ex1053))
        · refine u_X4_next_98 ?_
          refine ⟨o_v0, ?_⟩
          intro x1054 ex1054
          refine ⟨fun c1055 => ?_, fun c1055 => ?_⟩
          · refine u_X4_next_114 ?_
            refine i_X4_next_118 (fun (y0 : Nat) (y1 : Int32) (y2 : Int32) (y3 : Int32) (y4 : Int32) (Z : HS) => ((2147483647 : Int32).toInt - y4.toInt).toNat) (fun (y0 : Nat) (y1 : Int32) (y2 : Int32) (y3 : Int32) (y4 : Int32) (Z : HS) => (IV Z) ∧ (Gr (sJ (sI (sI S1 v0 7 x9) v0 6 x11) v0 8 (0 : Int64)) Z) ∧ (v0 = y0) ∧ ((1 : Int32) = y1) ∧ ((8 : Int32) = y2) ∧ ((10 : Int32) = y3) ∧ (TX Z v0) ∧ (0 ≤ y4)) ?_ _ _ _ _ _ _ ⟨hI, (gr_rf _), rfl, rfl, rfl, rfl, hT, (q43)⟩
            intro w1058 w1060 w1062 w1064 w1066 S1056 X1067 ⟨hI, gL1057, q1059, q1061, q1063, q1065, hT, i1⟩ ih1068
            subst q1059
            subst q1061
            subst q1063
            subst q1065
            have o_v0 := gr_ob gL1057 o_v0
            have g0 := gr_tr g0 gL1057
            have gL2 := gr_tr gL2 gL1057
            refine u_X4_next_118 ?_
            refine ⟨fun c1069 => ?_, fun c1069 => ?_⟩
            · refine u_X4_next_217 ?_
              refine ⟨fun c1070 => ?_, fun c1070 => ?_⟩
              · refine u_X4_next_240 ?_
                refine ⟨fun c1071 => ?_, fun c1071 => ?_⟩
                · exact hq _ hI g0 hT
                · refine ⟨o_v0, ?_⟩
                  intro x1072 ex1072
                  refine ⟨fun c1073 => ?_, fun c1073 => ?_⟩
                  · exact hq _ hI g0 hT
                  · intro x1074 ex1074
                    have r_x1074 : (0 : Int32) ≤ x1074 ∧ x1074 ≤ (900 : Int32) := by rw [ex1074]; exact nu 7 rfl hI o_v0
                    intro x1075 ex1075
                    have hI := iv_sI (j := 4) (v := x1075) hI o_v0 (by decide) (nu_one (lo := (0 : Int32)) (hi := (900 : Int32)) (by decide) (q83 c1069 c1070 c1071 r_x1074 ex1075))
                    exact hq _ hI g0 hT
              · refine ⟨o_v0, ?_⟩
                intro x1076 ex1076
                have r_x1076 : (0 : Int32) ≤ x1076 ∧ x1076 ≤ (900 : Int32) := by rw [ex1076]; exact nu 7 rfl hI o_v0
                intro x1077 ex1077
                refine ⟨fun c1078 => ?_, fun c1078 => ?_⟩
                · refine u_X4_next_240 ?_
                  refine ⟨fun c1079 => ?_, fun c1079 => ?_⟩
                  · exact hq _ hI g0 hT
                  · refine ⟨o_v0, ?_⟩
                    intro x1080 ex1080
                    refine ⟨fun c1081 => ?_, fun c1081 => ?_⟩
                    · exact hq _ hI g0 hT
                    · intro x1082 ex1082
                      have r_x1082 : (0 : Int32) ≤ x1082 ∧ x1082 ≤ (900 : Int32) := by rw [ex1082]; exact nu 7 rfl hI o_v0
                      intro x1083 ex1083
                      have hI := iv_sI (j := 4) (v := x1083) hI o_v0 (by decide) (nu_one (lo := (0 : Int32)) (hi := (900 : Int32)) (by decide) (q84 c1069 c1070 c1079 r_x1082 ex1083))
                      exact hq _ hI g0 hT
                · have hI := iv_sI (j := 6) (v := (6 : Int32)) hI o_v0 (by decide) (nu_free (by decide))
                  refine u_X4_next_240 ?_
                  refine ⟨fun c1084 => ?_, fun c1084 => ?_⟩
                  · exact hq _ hI g0 hT
                  · refine ⟨o_v0, ?_⟩
                    intro x1085 ex1085
                    refine ⟨fun c1086 => ?_, fun c1086 => ?_⟩
                    · exact hq _ hI g0 hT
                    · intro x1087 ex1087
                      have r_x1087 : (0 : Int32) ≤ x1087 ∧ x1087 ≤ (900 : Int32) := by rw [ex1087]; exact nu 7 rfl hI o_v0
                      intro x1088 ex1088
                      have hI := iv_sI (j := 4) (v := x1088) hI o_v0 (by decide) (nu_one (lo := (0 : Int32)) (hi := (900 : Int32)) (by decide) (q84 c1069 c1070 c1084 r_x1087 ex1088))
                      exact hq _ hI g0 hT
            · refine ⟨fun c1089 => ?_, fun c1089 => ?_⟩
              · refine u_X4_next_217 ?_
                refine ⟨fun c1090 => ?_, fun c1090 => ?_⟩
                · refine u_X4_next_240 ?_
                  refine ⟨fun c1091 => ?_, fun c1091 => ?_⟩
                  · exact hq _ hI g0 hT
                  · refine ⟨o_v0, ?_⟩
                    intro x1092 ex1092
                    refine ⟨fun c1093 => ?_, fun c1093 => ?_⟩
                    · exact hq _ hI g0 hT
                    · intro x1094 ex1094
                      have r_x1094 : (0 : Int32) ≤ x1094 ∧ x1094 ≤ (900 : Int32) := by rw [ex1094]; exact nu 7 rfl hI o_v0
                      intro x1095 ex1095
                      have hI := iv_sI (j := 4) (v := x1095) hI o_v0 (by decide) (nu_one (lo := (0 : Int32)) (hi := (900 : Int32)) (by decide) (q85 c1069 c1090 c1091 r_x1094 ex1095))
                      exact hq _ hI g0 hT
                · refine ⟨o_v0, ?_⟩
                  intro x1096 ex1096
                  have r_x1096 : (0 : Int32) ≤ x1096 ∧ x1096 ≤ (900 : Int32) := by rw [ex1096]; exact nu 7 rfl hI o_v0
                  intro x1097 ex1097
                  refine ⟨fun c1098 => ?_, fun c1098 => ?_⟩
                  · refine u_X4_next_240 ?_
                    refine ⟨fun c1099 => ?_, fun c1099 => ?_⟩
                    · exact hq _ hI g0 hT
                    · refine ⟨o_v0, ?_⟩
                      intro x1100 ex1100
                      refine ⟨fun c1101 => ?_, fun c1101 => ?_⟩
                      · exact hq _ hI g0 hT
                      · intro x1102 ex1102
                        have r_x1102 : (0 : Int32) ≤ x1102 ∧ x1102 ≤ (900 : Int32) := by rw [ex1102]; exact nu 7 rfl hI o_v0
                        intro x1103 ex1103
                        have hI := iv_sI (j := 4) (v := x1103) hI o_v0 (by decide) (nu_one (lo := (0 : Int32)) (hi := (900 : Int32)) (by decide) (q86 c1069 c1090 c1099 r_x1102 ex1103))
                        exact hq _ hI g0 hT
                  · have hI := iv_sI (j := 6) (v := (6 : Int32)) hI o_v0 (by decide) (nu_free (by decide))
                    refine u_X4_next_240 ?_
                    refine ⟨fun c1104 => ?_, fun c1104 => ?_⟩
                    · exact hq _ hI g0 hT
                    · refine ⟨o_v0, ?_⟩
                      intro x1105 ex1105
                      refine ⟨fun c1106 => ?_, fun c1106 => ?_⟩
                      · exact hq _ hI g0 hT
                      · intro x1107 ex1107
                        have r_x1107 : (0 : Int32) ≤ x1107 ∧ x1107 ≤ (900 : Int32) := by rw [ex1107]; exact nu 7 rfl hI o_v0
                        intro x1108 ex1108
                        have hI := iv_sI (j := 4) (v := x1108) hI o_v0 (by decide) (nu_one (lo := (0 : Int32)) (hi := (900 : Int32)) (by decide) (q86 c1069 c1090 c1104 r_x1107 ex1108))
                        exact hq _ hI g0 hT
              · refine ⟨o_v0, ?_⟩
                intro x1109 ex1109
                have r_x1109 : (0 : Int32) ≤ x1109 ∧ x1109 ≤ (900 : Int32) := by rw [ex1109]; exact nu 7 rfl hI o_v0
                refine m_X4_sortAt hI o_v0 hT (fun x1110 S1111 hI2 g1112 p_x1110 => ?_)
                subst p_x1110
                intro _
                intro x1113 ex1113
                refine ⟨fun c1114 => ?_, fun c1114 => ?_⟩
                · refine u_X4_next_217 ?_
                  refine ⟨fun c1115 => ?_, fun c1115 => ?_⟩
                  · refine u_X4_next_240 ?_
                    refine ⟨fun c1116 => ?_, fun c1116 => ?_⟩
                    · exact hq _ hI g0 hT
                    · refine ⟨o_v0, ?_⟩
                      intro x1117 ex1117
                      refine ⟨fun c1118 => ?_, fun c1118 => ?_⟩
                      · exact hq _ hI g0 hT
                      · intro x1119 ex1119
                        have r_x1119 : (0 : Int32) ≤ x1119 ∧ x1119 ≤ (900 : Int32) := by rw [ex1119]; exact nu 7 rfl hI o_v0
                        intro x1120 ex1120
                        have hI := iv_sI (j := 4) (v := x1120) hI o_v0 (by decide) (nu_one (lo := (0 : Int32)) (hi := (900 : Int32)) (by decide) (q85 c1069 c1115 c1116 r_x1119 ex1120))
                        exact hq _ hI g0 hT
                  · refine ⟨o_v0, ?_⟩
                    intro x1121 ex1121
                    have r_x1121 : (0 : Int32) ≤ x1121 ∧ x1121 ≤ (900 : Int32) := by rw [ex1121]; exact nu 7 rfl hI o_v0
                    intro x1122 ex1122
                    refine ⟨fun c1123 => ?_, fun c1123 => ?_⟩
                    · refine u_X4_next_240 ?_
                      refine ⟨fun c1124 => ?_, fun c1124 => ?_⟩
                      · exact hq _ hI g0 hT
                      · refine ⟨o_v0, ?_⟩
                        intro x1125 ex1125
                        refine ⟨fun c1126 => ?_, fun c1126 => ?_⟩
                        · exact hq _ hI g0 hT
                        · intro x1127 ex1127
                          have r_x1127 : (0 : Int32) ≤ x1127 ∧ x1127 ≤ (900 : Int32) := by rw [ex1127]; exact nu 7 rfl hI o_v0
                          intro x1128 ex1128
                          have hI := iv_sI (j := 4) (v := x1128) hI o_v0 (by decide) (nu_one (lo := (0 : Int32)) (hi := (900 : Int32)) (by decide) (q86 c1069 c1115 c1124 r_x1127 ex1128))
                          exact hq _ hI g0 hT
                    · have hI := iv_sI (j := 6) (v := (6 : Int32)) hI o_v0 (by decide) (nu_free (by decide))
                      refine u_X4_next_240 ?_
                      refine ⟨fun c1129 => ?_, fun c1129 => ?_⟩
                      · exact hq _ hI g0 hT
                      · refine ⟨o_v0, ?_⟩
                        intro x1130 ex1130
                        refine ⟨fun c1131 => ?_, fun c1131 => ?_⟩
                        · exact hq _ hI g0 hT
                        · intro x1132 ex1132
                          have r_x1132 : (0 : Int32) ≤ x1132 ∧ x1132 ≤ (900 : Int32) := by rw [ex1132]; exact nu 7 rfl hI o_v0
                          intro x1133 ex1133
                          have hI := iv_sI (j := 4) (v := x1133) hI o_v0 (by decide) (nu_one (lo := (0 : Int32)) (hi := (900 : Int32)) (by decide) (q86 c1069 c1115 c1129 r_x1132 ex1133))
                          exact hq _ hI g0 hT
                · refine ⟨fun c1134 => ?_, fun c1134 => ?_⟩
                  · refine u_X4_next_201 ?_
                    refine ⟨o_v0, ?_⟩
                    intro x1135 ex1135
                    have r_x1135 : (0 : Int32) ≤ x1135 ∧ x1135 ≤ (900 : Int32) := by rw [ex1135]; exact nu 7 rfl hI o_v0
                    intro x1136 ex1136
                    have hI := iv_sI (j := 4) (v := x1136) hI o_v0 (by decide) (nu_one (lo := (0 : Int32)) (hi := (900 : Int32)) (by decide) (q87 c1069 r_x1135 ex1136))
                    intro x1137 ex1137
                    exact ih1068 _ _ _ _ _ _ ⟨hI, gL1057, rfl, rfl, rfl, rfl, hT, (q95 i1 c1069 c1089 c1134 ex1137)⟩ (mu_up (q96 i1 c1069 c1089 c1134 ex1137) (q97 i1 c1069 c1089 c1134 ex1137))
                  · intro x1138 ex1138
                    have r_x1138 : (0 : Int32) ≤ x1138 ∧ x1138 ≤ (900 : Int32) := by rw [ex1138]; exact nu 7 rfl hI o_v0
                    obtain ⟨a1139, ea1139, o_a1139, l_a1139⟩ := hT
                    refine ⟨a1139, ea1139, ?_⟩
                    refine ⟨o_a1139, ?_⟩
                    have n_a1139 : nI (hN S1056 a1139) = 900 := by rw [show hN S1056 a1139 = 900 from l_a1139]; decide
                    refine ⟨fun c1140 => ?_, fun c1140 => ?_⟩
                    · rw [n_a1139] at c1140
                      refine u_X4_next_201 ?_
                      refine ⟨o_v0, ?_⟩
                      intro x1141 ex1141
                      have r_x1141 : (0 : Int32) ≤ x1141 ∧ x1141 ≤ (900 : Int32) := by rw [ex1141]; exact nu 7 rfl hI o_v0
                      intro x1142 ex1142
                      have hI := iv_sI (j := 4) (v := x1142) hI o_v0 (by decide) (nu_one (lo := (0 : Int32)) (hi := (900 : Int32)) (by decide) (q87 c1069 r_x1141 ex1142))
                      intro x1143 ex1143
                      exact ih1068 _ _ _ _ _ _ ⟨hI, gL1057, rfl, rfl, rfl, rfl, hT, (q98 i1 c1069 c1089 c1134 ex1143)⟩ (mu_up (q99 i1 c1069 c1089 c1134 ex1143) (q100 i1 c1069 c1089 c1134 ex1143))
                    · rw [n_a1139] at c1140
                      intro x1144 ex1144
                      obtain ⟨a1145, ea1145, o_a1145, l_a1145⟩ := hT
                      refine ⟨a1145, ea1145, ?_⟩
                      intro x1146 ex1146
                      have r_x1146 : (0 : Int32) ≤ x1146 ∧ x1146 ≤ (900 : Int32) := by rw [ex1146]; exact nu 7 rfl hI o_v0
                      refine ⟨o_a1145, ?_⟩
                      refine ⟨(vin l_a1145 (m := 900) (by decide) (q94 c1069 r_x1146)), ?_⟩
                      intro x1147 ex1147
                      intro x1148 ex1148
                      refine ⟨fun c1149 => ?_, fun c1149 => ?_⟩
                      · refine u_X4_next_195 ?_
                        refine ⟨o_v0, ?_⟩
                        intro x1150 ex1150
                        have hI := iv_sJ (j := 8) (v := x1150) hI o_v0 (by decide)
                        refine u_X4_next_201 ?_
                        refine ⟨o_v0, ?_⟩
                        intro x1151 ex1151
                        have r_x1151 : (0 : Int32) ≤ x1151 ∧ x1151 ≤ (900 : Int32) := by rw [ex1151]; exact nu 7 rfl hI o_v0
                        intro x1152 ex1152
                        have hI := iv_sI (j := 4) (v := x1152) hI o_v0 (by decide) (nu_one (lo := (0 : Int32)) (hi := (900 : Int32)) (by decide) (q87 c1069 r_x1151 ex1152))
                        intro x1153 ex1153
                        exact ih1068 _ _ _ _ _ _ ⟨hI, gL1057, rfl, rfl, rfl, rfl, hT, (q98 i1 c1069 c1089 c1134 ex1153)⟩ (mu_up (q99 i1 c1069 c1089 c1134 ex1153) (q100 i1 c1069 c1089 c1134 ex1153))
                      · refine u_X4_next_195 ?_
                        refine ⟨o_v0, ?_⟩
                        intro x1154 ex1154
                        have hI := iv_sJ (j := 8) (v := x1154) hI o_v0 (by decide)
                        refine u_X4_next_201 ?_
                        refine ⟨o_v0, ?_⟩
                        intro x1155 ex1155
                        have r_x1155 : (0 : Int32) ≤ x1155 ∧ x1155 ≤ (900 : Int32) := by rw [ex1155]; exact nu 7 rfl hI o_v0
                        intro x1156 ex1156
                        have hI := iv_sI (j := 4) (v := x1156) hI o_v0 (by decide) (nu_one (lo := (0 : Int32)) (hi := (900 : Int32)) (by decide) (q87 c1069 r_x1155 ex1156))
                        intro x1157 ex1157
                        exact ih1068 _ _ _ _ _ _ ⟨hI, gL1057, rfl, rfl, rfl, rfl, hT, (q98 i1 c1069 c1089 c1134 ex1157)⟩ (mu_up (q99 i1 c1069 c1089 c1134 ex1157) (q100 i1 c1069 c1089 c1134 ex1157))
          · refine u_X4_next_114 ?_
            refine i_X4_next_118 (fun (y0 : Nat) (y1 : Int32) (y2 : Int32) (y3 : Int32) (y4 : Int32) (Z : HS) => ((2147483647 : Int32).toInt - y4.toInt).toNat) (fun (y0 : Nat) (y1 : Int32) (y2 : Int32) (y3 : Int32) (y4 : Int32) (Z : HS) => (IV Z) ∧ (Gr (sJ (sI (sI S1 v0 7 x9) v0 6 x11) v0 8 (0 : Int64)) Z) ∧ (v0 = y0) ∧ ((1 : Int32) = y1) ∧ ((8 : Int32) = y2) ∧ ((32 : Int32) = y3) ∧ (TX Z v0) ∧ (0 ≤ y4)) ?_ _ _ _ _ _ _ ⟨hI, (gr_rf _), rfl, rfl, rfl, rfl, hT, (q43)⟩
            intro w1160 w1162 w1164 w1166 w1168 S1158 X1169 ⟨hI, gL1159, q1161, q1163, q1165, q1167, hT, i1⟩ ih1170
            subst q1161
            subst q1163
            subst q1165
            subst q1167
            have o_v0 := gr_ob gL1159 o_v0
            have g0 := gr_tr g0 gL1159
            have gL2 := gr_tr gL2 gL1159
            refine u_X4_next_118 ?_
            refine ⟨fun c1171 => ?_, fun c1171 => ?_⟩
            · refine u_X4_next_217 ?_
              refine ⟨fun c1172 => ?_, fun c1172 => ?_⟩
              · refine u_X4_next_240 ?_
                refine ⟨fun c1173 => ?_, fun c1173 => ?_⟩
                · exact hq _ hI g0 hT
                · refine ⟨o_v0, ?_⟩
                  intro x1174 ex1174
                  refine ⟨fun c1175 => ?_, fun c1175 => ?_⟩
                  · exact hq _ hI g0 hT
                  · intro x1176 ex1176
                    have r_x1176 : (0 : Int32) ≤ x1176 ∧ x1176 ≤ (900 : Int32) := by rw [ex1176]; exact nu 7 rfl hI o_v0
                    intro x1177 ex1177
                    have hI := iv_sI (j := 4) (v := x1177) hI o_v0 (by decide) (nu_one (lo := (0 : Int32)) (hi := (900 : Int32)) (by decide) (q83 c1171 c1172 c1173 r_x1176 ex1177))
                    exact hq _ hI g0 hT
              · refine ⟨o_v0, ?_⟩
                intro x1178 ex1178
                have r_x1178 : (0 : Int32) ≤ x1178 ∧ x1178 ≤ (900 : Int32) := by rw [ex1178]; exact nu 7 rfl hI o_v0
                intro x1179 ex1179
                refine ⟨fun c1180 => ?_, fun c1180 => ?_⟩
                · refine u_X4_next_240 ?_
                  refine ⟨fun c1181 => ?_, fun c1181 => ?_⟩
                  · exact hq _ hI g0 hT
                  · refine ⟨o_v0, ?_⟩
                    intro x1182 ex1182
                    refine ⟨fun c1183 => ?_, fun c1183 => ?_⟩
                    · exact hq _ hI g0 hT
                    · intro x1184 ex1184
                      have r_x1184 : (0 : Int32) ≤ x1184 ∧ x1184 ≤ (900 : Int32) := by rw [ex1184]; exact nu 7 rfl hI o_v0
                      intro x1185 ex1185
                      have hI := iv_sI (j := 4) (v := x1185) hI o_v0 (by decide) (nu_one (lo := (0 : Int32)) (hi := (900 : Int32)) (by decide) (q84 c1171 c1172 c1181 r_x1184 ex1185))
                      exact hq _ hI g0 hT
                · have hI := iv_sI (j := 6) (v := (6 : Int32)) hI o_v0 (by decide) (nu_free (by decide))
                  refine u_X4_next_240 ?_
                  refine ⟨fun c1186 => ?_, fun c1186 => ?_⟩
                  · exact hq _ hI g0 hT
                  · refine ⟨o_v0, ?_⟩
                    intro x1187 ex1187
                    refine ⟨fun c1188 => ?_, fun c1188 => ?_⟩
                    · exact hq _ hI g0 hT
                    · intro x1189 ex1189
                      have r_x1189 : (0 : Int32) ≤ x1189 ∧ x1189 ≤ (900 : Int32) := by rw [ex1189]; exact nu 7 rfl hI o_v0
                      intro x1190 ex1190
                      have hI := iv_sI (j := 4) (v := x1190) hI o_v0 (by decide) (nu_one (lo := (0 : Int32)) (hi := (900 : Int32)) (by decide) (q84 c1171 c1172 c1186 r_x1189 ex1190))
                      exact hq _ hI g0 hT
            · refine ⟨fun c1191 => ?_, fun c1191 => ?_⟩
              · refine u_X4_next_217 ?_
                refine ⟨fun c1192 => ?_, fun c1192 => ?_⟩
                · refine u_X4_next_240 ?_
                  refine ⟨fun c1193 => ?_, fun c1193 => ?_⟩
                  · exact hq _ hI g0 hT
                  · refine ⟨o_v0, ?_⟩
                    intro x1194 ex1194
                    refine ⟨fun c1195 => ?_, fun c1195 => ?_⟩
                    · exact hq _ hI g0 hT
                    · intro x1196 ex1196
                      have r_x1196 : (0 : Int32) ≤ x1196 ∧ x1196 ≤ (900 : Int32) := by rw [ex1196]; exact nu 7 rfl hI o_v0
                      intro x1197 ex1197
                      have hI := iv_sI (j := 4) (v := x1197) hI o_v0 (by decide) (nu_one (lo := (0 : Int32)) (hi := (900 : Int32)) (by decide) (q85 c1171 c1192 c1193 r_x1196 ex1197))
                      exact hq _ hI g0 hT
                · refine ⟨o_v0, ?_⟩
                  intro x1198 ex1198
                  have r_x1198 : (0 : Int32) ≤ x1198 ∧ x1198 ≤ (900 : Int32) := by rw [ex1198]; exact nu 7 rfl hI o_v0
                  intro x1199 ex1199
                  refine ⟨fun c1200 => ?_, fun c1200 => ?_⟩
                  · refine u_X4_next_240 ?_
                    refine ⟨fun c1201 => ?_, fun c1201 => ?_⟩
                    · exact hq _ hI g0 hT
                    · refine ⟨o_v0, ?_⟩
                      intro x1202 ex1202
                      refine ⟨fun c1203 => ?_, fun c1203 => ?_⟩
                      · exact hq _ hI g0 hT
                      · intro x1204 ex1204
                        have r_x1204 : (0 : Int32) ≤ x1204 ∧ x1204 ≤ (900 : Int32) := by rw [ex1204]; exact nu 7 rfl hI o_v0
                        intro x1205 ex1205
                        have hI := iv_sI (j := 4) (v := x1205) hI o_v0 (by decide) (nu_one (lo := (0 : Int32)) (hi := (900 : Int32)) (by decide) (q86 c1171 c1192 c1201 r_x1204 ex1205))
                        exact hq _ hI g0 hT
                  · have hI := iv_sI (j := 6) (v := (6 : Int32)) hI o_v0 (by decide) (nu_free (by decide))
                    refine u_X4_next_240 ?_
                    refine ⟨fun c1206 => ?_, fun c1206 => ?_⟩
                    · exact hq _ hI g0 hT
                    · refine ⟨o_v0, ?_⟩
                      intro x1207 ex1207
                      refine ⟨fun c1208 => ?_, fun c1208 => ?_⟩
                      · exact hq _ hI g0 hT
                      · intro x1209 ex1209
                        have r_x1209 : (0 : Int32) ≤ x1209 ∧ x1209 ≤ (900 : Int32) := by rw [ex1209]; exact nu 7 rfl hI o_v0
                        intro x1210 ex1210
                        have hI := iv_sI (j := 4) (v := x1210) hI o_v0 (by decide) (nu_one (lo := (0 : Int32)) (hi := (900 : Int32)) (by decide) (q86 c1171 c1192 c1206 r_x1209 ex1210))
                        exact hq _ hI g0 hT
              · refine ⟨o_v0, ?_⟩
                intro x1211 ex1211
                have r_x1211 : (0 : Int32) ≤ x1211 ∧ x1211 ≤ (900 : Int32) := by rw [ex1211]; exact nu 7 rfl hI o_v0
                refine m_X4_sortAt hI o_v0 hT (fun x1212 S1213 hI2 g1214 p_x1212 => ?_)
                subst p_x1212
                intro _
                intro x1215 ex1215
                refine ⟨fun c1216 => ?_, fun c1216 => ?_⟩
                · refine u_X4_next_217 ?_
                  refine ⟨fun c1217 => ?_, fun c1217 => ?_⟩
                  · refine u_X4_next_240 ?_
                    refine ⟨fun c1218 => ?_, fun c1218 => ?_⟩
                    · exact hq _ hI g0 hT
                    · refine ⟨o_v0, ?_⟩
                      intro x1219 ex1219
                      refine ⟨fun c1220 => ?_, fun c1220 => ?_⟩
                      · exact hq _ hI g0 hT
                      · intro x1221 ex1221
                        have r_x1221 : (0 : Int32) ≤ x1221 ∧ x1221 ≤ (900 : Int32) := by rw [ex1221]; exact nu 7 rfl hI o_v0
                        intro x1222 ex1222
                        have hI := iv_sI (j := 4) (v := x1222) hI o_v0 (by decide) (nu_one (lo := (0 : Int32)) (hi := (900 : Int32)) (by decide) (q85 c1171 c1217 c1218 r_x1221 ex1222))
                        exact hq _ hI g0 hT
                  · refine ⟨o_v0, ?_⟩
                    intro x1223 ex1223
                    have r_x1223 : (0 : Int32) ≤ x1223 ∧ x1223 ≤ (900 : Int32) := by rw [ex1223]; exact nu 7 rfl hI o_v0
                    intro x1224 ex1224
                    refine ⟨fun c1225 => ?_, fun c1225 => ?_⟩
                    · refine u_X4_next_240 ?_
                      refine ⟨fun c1226 => ?_, fun c1226 => ?_⟩
                      · exact hq _ hI g0 hT
                      · refine ⟨o_v0, ?_⟩
                        intro x1227 ex1227
                        refine ⟨fun c1228 => ?_, fun c1228 => ?_⟩
                        · exact hq _ hI g0 hT
                        · intro x1229 ex1229
                          have r_x1229 : (0 : Int32) ≤ x1229 ∧ x1229 ≤ (900 : Int32) := by rw [ex1229]; exact nu 7 rfl hI o_v0
                          intro x1230 ex1230
                          have hI := iv_sI (j := 4) (v := x1230) hI o_v0 (by decide) (nu_one (lo := (0 : Int32)) (hi := (900 : Int32)) (by decide) (q86 c1171 c1217 c1226 r_x1229 ex1230))
                          exact hq _ hI g0 hT
                    · have hI := iv_sI (j := 6) (v := (6 : Int32)) hI o_v0 (by decide) (nu_free (by decide))
                      refine u_X4_next_240 ?_
                      refine ⟨fun c1231 => ?_, fun c1231 => ?_⟩
                      · exact hq _ hI g0 hT
                      · refine ⟨o_v0, ?_⟩
                        intro x1232 ex1232
                        refine ⟨fun c1233 => ?_, fun c1233 => ?_⟩
                        · exact hq _ hI g0 hT
                        · intro x1234 ex1234
                          have r_x1234 : (0 : Int32) ≤ x1234 ∧ x1234 ≤ (900 : Int32) := by rw [ex1234]; exact nu 7 rfl hI o_v0
                          intro x1235 ex1235
                          have hI := iv_sI (j := 4) (v := x1235) hI o_v0 (by decide) (nu_one (lo := (0 : Int32)) (hi := (900 : Int32)) (by decide) (q86 c1171 c1217 c1231 r_x1234 ex1235))
                          exact hq _ hI g0 hT
                · refine ⟨fun c1236 => ?_, fun c1236 => ?_⟩
                  · refine u_X4_next_201 ?_
                    refine ⟨o_v0, ?_⟩
                    intro x1237 ex1237
                    have r_x1237 : (0 : Int32) ≤ x1237 ∧ x1237 ≤ (900 : Int32) := by rw [ex1237]; exact nu 7 rfl hI o_v0
                    intro x1238 ex1238
                    have hI := iv_sI (j := 4) (v := x1238) hI o_v0 (by decide) (nu_one (lo := (0 : Int32)) (hi := (900 : Int32)) (by decide) (q87 c1171 r_x1237 ex1238))
                    intro x1239 ex1239
                    exact ih1170 _ _ _ _ _ _ ⟨hI, gL1159, rfl, rfl, rfl, rfl, hT, (q95 i1 c1171 c1191 c1236 ex1239)⟩ (mu_up (q96 i1 c1171 c1191 c1236 ex1239) (q97 i1 c1171 c1191 c1236 ex1239))
                  · intro x1240 ex1240
                    have r_x1240 : (0 : Int32) ≤ x1240 ∧ x1240 ≤ (900 : Int32) := by rw [ex1240]; exact nu 7 rfl hI o_v0
                    obtain ⟨a1241, ea1241, o_a1241, l_a1241⟩ := hT
                    refine ⟨a1241, ea1241, ?_⟩
                    refine ⟨o_a1241, ?_⟩
                    have n_a1241 : nI (hN S1158 a1241) = 900 := by rw [show hN S1158 a1241 = 900 from l_a1241]; decide
                    refine ⟨fun c1242 => ?_, fun c1242 => ?_⟩
                    · rw [n_a1241] at c1242
                      refine u_X4_next_201 ?_
                      refine ⟨o_v0, ?_⟩
                      intro x1243 ex1243
                      have r_x1243 : (0 : Int32) ≤ x1243 ∧ x1243 ≤ (900 : Int32) := by rw [ex1243]; exact nu 7 rfl hI o_v0
                      intro x1244 ex1244
                      have hI := iv_sI (j := 4) (v := x1244) hI o_v0 (by decide) (nu_one (lo := (0 : Int32)) (hi := (900 : Int32)) (by decide) (q87 c1171 r_x1243 ex1244))
                      intro x1245 ex1245
                      exact ih1170 _ _ _ _ _ _ ⟨hI, gL1159, rfl, rfl, rfl, rfl, hT, (q98 i1 c1171 c1191 c1236 ex1245)⟩ (mu_up (q99 i1 c1171 c1191 c1236 ex1245) (q100 i1 c1171 c1191 c1236 ex1245))
                    · rw [n_a1241] at c1242
                      intro x1246 ex1246
                      obtain ⟨a1247, ea1247, o_a1247, l_a1247⟩ := hT
                      refine ⟨a1247, ea1247, ?_⟩
                      intro x1248 ex1248
                      have r_x1248 : (0 : Int32) ≤ x1248 ∧ x1248 ≤ (900 : Int32) := by rw [ex1248]; exact nu 7 rfl hI o_v0
                      refine ⟨o_a1247, ?_⟩
                      refine ⟨(vin l_a1247 (m := 900) (by decide) (q94 c1171 r_x1248)), ?_⟩
                      intro x1249 ex1249
                      intro x1250 ex1250
                      refine ⟨fun c1251 => ?_, fun c1251 => ?_⟩
                      · refine u_X4_next_195 ?_
                        refine ⟨o_v0, ?_⟩
                        intro x1252 ex1252
                        have hI := iv_sJ (j := 8) (v := x1252) hI o_v0 (by decide)
                        refine u_X4_next_201 ?_
                        refine ⟨o_v0, ?_⟩
                        intro x1253 ex1253
                        have r_x1253 : (0 : Int32) ≤ x1253 ∧ x1253 ≤ (900 : Int32) := by rw [ex1253]; exact nu 7 rfl hI o_v0
                        intro x1254 ex1254
                        have hI := iv_sI (j := 4) (v := x1254) hI o_v0 (by decide) (nu_one (lo := (0 : Int32)) (hi := (900 : Int32)) (by decide) (q87 c1171 r_x1253 ex1254))
                        intro x1255 ex1255
                        exact ih1170 _ _ _ _ _ _ ⟨hI, gL1159, rfl, rfl, rfl, rfl, hT, (q98 i1 c1171 c1191 c1236 ex1255)⟩ (mu_up (q99 i1 c1171 c1191 c1236 ex1255) (q100 i1 c1171 c1191 c1236 ex1255))
                      · refine u_X4_next_195 ?_
                        refine ⟨o_v0, ?_⟩
                        intro x1256 ex1256
                        have hI := iv_sJ (j := 8) (v := x1256) hI o_v0 (by decide)
                        refine u_X4_next_201 ?_
                        refine ⟨o_v0, ?_⟩
                        intro x1257 ex1257
                        have r_x1257 : (0 : Int32) ≤ x1257 ∧ x1257 ≤ (900 : Int32) := by rw [ex1257]; exact nu 7 rfl hI o_v0
                        intro x1258 ex1258
                        have hI := iv_sI (j := 4) (v := x1258) hI o_v0 (by decide) (nu_one (lo := (0 : Int32)) (hi := (900 : Int32)) (by decide) (q87 c1171 r_x1257 ex1258))
                        intro x1259 ex1259
                        exact ih1170 _ _ _ _ _ _ ⟨hI, gL1159, rfl, rfl, rfl, rfl, hT, (q98 i1 c1171 c1191 c1236 ex1259)⟩ (mu_up (q99 i1 c1171 c1191 c1236 ex1259) (q100 i1 c1171 c1191 c1236 ex1259))
  · refine ⟨o_v0, ?_⟩
    intro x1260 ex1260
    have r_x1260 : (0 : Int32) ≤ x1260 ∧ x1260 ≤ (900 : Int32) := by rw [ex1260]; exact nu 7 rfl hI o_v0
    refine m_X4_sortAt hI o_v0 hT (fun x1261 S1262 hI2 g1263 p_x1261 => ?_)
    subst p_x1261
    intro _
    refine ⟨fun c1264 => ?_, fun c1264 => ?_⟩
    · refine u_X4_next_37 ?_
      refine ⟨o_v0, ?_⟩
      intro x1265 ex1265
      have r_x1265 : (0 : Int32) ≤ x1265 ∧ x1265 ≤ (900 : Int32) := by rw [ex1265]; exact nu 7 rfl hI o_v0
      have hI := iv_sI (j := 7) (v := x1265) hI o_v0 (by decide) (nu_free (by decide))
      intro x1266 ex1266
      have r_x1266 : (0 : Int32) ≤ x1266 ∧ x1266 ≤ (900 : Int32) := by rw [ex1266]; exact nu 7 rfl hI o_v0
      refine m_X4_sortAt hI o_v0 hT (fun x1267 S1268 hI2 g1269 p_x1267 => ?_)
      subst p_x1267
      intro _
      have hI := iv_sI (j := 6) (v := x1267) hI o_v0 (by decide) (nu_free (by decide))
      have hI := iv_sJ (j := 8) (v := (0 : Int64)) hI o_v0 (by decide)
      intro x1270 ex1270
      refine ⟨fun c1271 => ?_, fun c1271 => ?_⟩
      · refine u_X4_next_78 ?_
        refine u_X4_next_83 ?_
        refine ⟨o_v0, ?_⟩
        intro x1272 ex1272
        refine ⟨fun c1273 => ?_, fun c1273 => ?_⟩
        · refine u_X4_next_98 ?_
          refine ⟨o_v0, ?_⟩
          intro x1274 ex1274
          refine ⟨fun c1275 => ?_, fun c1275 => ?_⟩
          · refine u_X4_next_114 ?_
            refine i_X4_next_118 (fun (y0 : Nat) (y1 : Int32) (y2 : Int32) (y3 : Int32) (y4 : Int32) (Z : HS) => ((2147483647 : Int32).toInt - y4.toInt).toNat) (fun (y0 : Nat) (y1 : Int32) (y2 : Int32) (y3 : Int32) (y4 : Int32) (Z : HS) => (IV Z) ∧ (Gr (sJ (sI (sI S1 v0 7 x1265) v0 6 x1267) v0 8 (0 : Int64)) Z) ∧ (v0 = y0) ∧ ((1 : Int32) = y1) ∧ ((3 : Int32) = y2) ∧ ((10 : Int32) = y3) ∧ (TX Z v0) ∧ (0 ≤ y4)) ?_ _ _ _ _ _ _ ⟨hI, (gr_rf _), rfl, rfl, rfl, rfl, hT, (q43)⟩
            intro w1278 w1280 w1282 w1284 w1286 S1276 X1287 ⟨hI, gL1277, q1279, q1281, q1283, q1285, hT, i1⟩ ih1288
            subst q1279
            subst q1281
            subst q1283
            subst q1285
            have o_v0 := gr_ob gL1277 o_v0
            have g0 := gr_tr g0 gL1277
            have gL2 := gr_tr gL2 gL1277
            refine u_X4_next_118 ?_
            refine ⟨fun c1289 => ?_, fun c1289 => ?_⟩
            · refine u_X4_next_217 ?_
              refine ⟨fun c1290 => ?_, fun c1290 => ?_⟩
              · refine u_X4_next_240 ?_
                refine ⟨fun c1291 => ?_, fun c1291 => ?_⟩
                · exact hq _ hI g0 hT
                · refine ⟨o_v0, ?_⟩
                  intro x1292 ex1292
                  refine ⟨fun c1293 => ?_, fun c1293 => ?_⟩
                  · exact hq _ hI g0 hT
                  · intro x1294 ex1294
                    have r_x1294 : (0 : Int32) ≤ x1294 ∧ x1294 ≤ (900 : Int32) := by rw [ex1294]; exact nu 7 rfl hI o_v0
                    intro x1295 ex1295
                    have hI := iv_sI (j := 4) (v := x1295) hI o_v0 (by decide) (nu_one (lo := (0 : Int32)) (hi := (900 : Int32)) (by decide) (q83 c1289 c1290 c1291 r_x1294 ex1295))
                    exact hq _ hI g0 hT
              · refine ⟨o_v0, ?_⟩
                intro x1296 ex1296
                have r_x1296 : (0 : Int32) ≤ x1296 ∧ x1296 ≤ (900 : Int32) := by rw [ex1296]; exact nu 7 rfl hI o_v0
                intro x1297 ex1297
                refine ⟨fun c1298 => ?_, fun c1298 => ?_⟩
                · refine u_X4_next_240 ?_
                  refine ⟨fun c1299 => ?_, fun c1299 => ?_⟩
                  · exact hq _ hI g0 hT
                  · refine ⟨o_v0, ?_⟩
                    intro x1300 ex1300
                    refine ⟨fun c1301 => ?_, fun c1301 => ?_⟩
                    · exact hq _ hI g0 hT
                    · intro x1302 ex1302
                      have r_x1302 : (0 : Int32) ≤ x1302 ∧ x1302 ≤ (900 : Int32) := by rw [ex1302]; exact nu 7 rfl hI o_v0
                      intro x1303 ex1303
                      have hI := iv_sI (j := 4) (v := x1303) hI o_v0 (by decide) (nu_one (lo := (0 : Int32)) (hi := (900 : Int32)) (by decide) (q84 c1289 c1290 c1299 r_x1302 ex1303))
                      exact hq _ hI g0 hT
                · have hI := iv_sI (j := 6) (v := (6 : Int32)) hI o_v0 (by decide) (nu_free (by decide))
                  refine u_X4_next_240 ?_
                  refine ⟨fun c1304 => ?_, fun c1304 => ?_⟩
                  · exact hq _ hI g0 hT
                  · refine ⟨o_v0, ?_⟩
                    intro x1305 ex1305
                    refine ⟨fun c1306 => ?_, fun c1306 => ?_⟩
                    · exact hq _ hI g0 hT
                    · intro x1307 ex1307
                      have r_x1307 : (0 : Int32) ≤ x1307 ∧ x1307 ≤ (900 : Int32) := by rw [ex1307]; exact nu 7 rfl hI o_v0
                      intro x1308 ex1308
                      have hI := iv_sI (j := 4) (v := x1308) hI o_v0 (by decide) (nu_one (lo := (0 : Int32)) (hi := (900 : Int32)) (by decide) (q84 c1289 c1290 c1304 r_x1307 ex1308))
                      exact hq _ hI g0 hT
            · refine ⟨fun c1309 => ?_, fun c1309 => ?_⟩
              · refine u_X4_next_217 ?_
                refine ⟨fun c1310 => ?_, fun c1310 => ?_⟩
                · refine u_X4_next_240 ?_
                  refine ⟨fun c1311 => ?_, fun c1311 => ?_⟩
                  · exact hq _ hI g0 hT
                  · refine ⟨o_v0, ?_⟩
                    intro x1312 ex1312
                    refine ⟨fun c1313 => ?_, fun c1313 => ?_⟩
                    · exact hq _ hI g0 hT
                    · intro x1314 ex1314
                      have r_x1314 : (0 : Int32) ≤ x1314 ∧ x1314 ≤ (900 : Int32) := by rw [ex1314]; exact nu 7 rfl hI o_v0
                      intro x1315 ex1315
                      have hI := iv_sI (j := 4) (v := x1315) hI o_v0 (by decide) (nu_one (lo := (0 : Int32)) (hi := (900 : Int32)) (by decide) (q85 c1289 c1310 c1311 r_x1314 ex1315))
                      exact hq _ hI g0 hT
                · refine ⟨o_v0, ?_⟩
                  intro x1316 ex1316
                  have r_x1316 : (0 : Int32) ≤ x1316 ∧ x1316 ≤ (900 : Int32) := by rw [ex1316]; exact nu 7 rfl hI o_v0
                  intro x1317 ex1317
                  refine ⟨fun c1318 => ?_, fun c1318 => ?_⟩
                  · refine u_X4_next_240 ?_
                    refine ⟨fun c1319 => ?_, fun c1319 => ?_⟩
                    · exact hq _ hI g0 hT
                    · refine ⟨o_v0, ?_⟩
                      intro x1320 ex1320
                      refine ⟨fun c1321 => ?_, fun c1321 => ?_⟩
                      · exact hq _ hI g0 hT
                      · intro x1322 ex1322
                        have r_x1322 : (0 : Int32) ≤ x1322 ∧ x1322 ≤ (900 : Int32) := by rw [ex1322]; exact nu 7 rfl hI o_v0
                        intro x1323 ex1323
                        have hI := iv_sI (j := 4) (v := x1323) hI o_v0 (by decide) (nu_one (lo := (0 : Int32)) (hi := (900 : Int32)) (by decide) (q86 c1289 c1310 c1319 r_x1322 ex1323))
                        exact hq _ hI g0 hT
                  · have hI := iv_sI (j := 6) (v := (6 : Int32)) hI o_v0 (by decide) (nu_free (by decide))
                    refine u_X4_next_240 ?_
                    refine ⟨fun c1324 => ?_, fun c1324 => ?_⟩
                    · exact hq _ hI g0 hT
                    · refine ⟨o_v0, ?_⟩
                      intro x1325 ex1325
                      refine ⟨fun c1326 => ?_, fun c1326 => ?_⟩
                      · exact hq _ hI g0 hT
                      · intro x1327 ex1327
                        have r_x1327 : (0 : Int32) ≤ x1327 ∧ x1327 ≤ (900 : Int32) := by rw [ex1327]; exact nu 7 rfl hI o_v0
                        intro x1328 ex1328
                        have hI := iv_sI (j := 4) (v := x1328) hI o_v0 (by decide) (nu_one (lo := (0 : Int32)) (hi := (900 : Int32)) (by decide) (q86 c1289 c1310 c1324 r_x1327 ex1328))
                        exact hq _ hI g0 hT
              · refine ⟨o_v0, ?_⟩
                intro x1329 ex1329
                have r_x1329 : (0 : Int32) ≤ x1329 ∧ x1329 ≤ (900 : Int32) := by rw [ex1329]; exact nu 7 rfl hI o_v0
                refine m_X4_sortAt hI o_v0 hT (fun x1330 S1331 hI2 g1332 p_x1330 => ?_)
                subst p_x1330
                intro _
                intro x1333 ex1333
                refine ⟨fun c1334 => ?_, fun c1334 => ?_⟩
                · refine u_X4_next_217 ?_
                  refine ⟨fun c1335 => ?_, fun c1335 => ?_⟩
                  · refine u_X4_next_240 ?_
                    refine ⟨fun c1336 => ?_, fun c1336 => ?_⟩
                    · exact hq _ hI g0 hT
                    · refine ⟨o_v0, ?_⟩
                      intro x1337 ex1337
                      refine ⟨fun c1338 => ?_, fun c1338 => ?_⟩
                      · exact hq _ hI g0 hT
                      · intro x1339 ex1339
                        have r_x1339 : (0 : Int32) ≤ x1339 ∧ x1339 ≤ (900 : Int32) := by rw [ex1339]; exact nu 7 rfl hI o_v0
                        intro x1340 ex1340
                        have hI := iv_sI (j := 4) (v := x1340) hI o_v0 (by decide) (nu_one (lo := (0 : Int32)) (hi := (900 : Int32)) (by decide) (q85 c1289 c1335 c1336 r_x1339 ex1340))
                        exact hq _ hI g0 hT
                  · refine ⟨o_v0, ?_⟩
                    intro x1341 ex1341
                    have r_x1341 : (0 : Int32) ≤ x1341 ∧ x1341 ≤ (900 : Int32) := by rw [ex1341]; exact nu 7 rfl hI o_v0
                    intro x1342 ex1342
                    refine ⟨fun c1343 => ?_, fun c1343 => ?_⟩
                    · refine u_X4_next_240 ?_
                      refine ⟨fun c1344 => ?_, fun c1344 => ?_⟩
                      · exact hq _ hI g0 hT
                      · refine ⟨o_v0, ?_⟩
                        intro x1345 ex1345
                        refine ⟨fun c1346 => ?_, fun c1346 => ?_⟩
                        · exact hq _ hI g0 hT
                        · intro x1347 ex1347
                          have r_x1347 : (0 : Int32) ≤ x1347 ∧ x1347 ≤ (900 : Int32) := by rw [ex1347]; exact nu 7 rfl hI o_v0
                          intro x1348 ex1348
                          have hI := iv_sI (j := 4) (v := x1348) hI o_v0 (by decide) (nu_one (lo := (0 : Int32)) (hi := (900 : Int32)) (by decide) (q86 c1289 c1335 c1344 r_x1347 ex1348))
                          exact hq _ hI g0 hT
                    · have hI := iv_sI (j := 6) (v := (6 : Int32)) hI o_v0 (by decide) (nu_free (by decide))
                      refine u_X4_next_240 ?_
                      refine ⟨fun c1349 => ?_, fun c1349 => ?_⟩
                      · exact hq _ hI g0 hT
                      · refine ⟨o_v0, ?_⟩
                        intro x1350 ex1350
                        refine ⟨fun c1351 => ?_, fun c1351 => ?_⟩
                        · exact hq _ hI g0 hT
                        · intro x1352 ex1352
                          have r_x1352 : (0 : Int32) ≤ x1352 ∧ x1352 ≤ (900 : Int32) := by rw [ex1352]; exact nu 7 rfl hI o_v0
                          intro x1353 ex1353
                          have hI := iv_sI (j := 4) (v := x1353) hI o_v0 (by decide) (nu_one (lo := (0 : Int32)) (hi := (900 : Int32)) (by decide) (q86 c1289 c1335 c1349 r_x1352 ex1353))
                          exact hq _ hI g0 hT
                · refine ⟨fun c1354 => ?_, fun c1354 => ?_⟩
                  · refine u_X4_next_201 ?_
                    refine ⟨o_v0, ?_⟩
                    intro x1355 ex1355
                    have r_x1355 : (0 : Int32) ≤ x1355 ∧ x1355 ≤ (900 : Int32) := by rw [ex1355]; exact nu 7 rfl hI o_v0
                    intro x1356 ex1356
                    have hI := iv_sI (j := 4) (v := x1356) hI o_v0 (by decide) (nu_one (lo := (0 : Int32)) (hi := (900 : Int32)) (by decide) (q87 c1289 r_x1355 ex1356))
                    intro x1357 ex1357
                    exact ih1288 _ _ _ _ _ _ ⟨hI, gL1277, rfl, rfl, rfl, rfl, hT, (q88 i1 c1289 c1309 c1354 ex1357)⟩ (mu_up (q89 i1 c1289 c1309 c1354 ex1357) (q90 i1 c1289 c1309 c1354 ex1357))
                  · intro x1358 ex1358
                    have r_x1358 : (0 : Int32) ≤ x1358 ∧ x1358 ≤ (900 : Int32) := by rw [ex1358]; exact nu 7 rfl hI o_v0
                    obtain ⟨a1359, ea1359, o_a1359, l_a1359⟩ := hT
                    refine ⟨a1359, ea1359, ?_⟩
                    refine ⟨o_a1359, ?_⟩
                    have n_a1359 : nI (hN S1276 a1359) = 900 := by rw [show hN S1276 a1359 = 900 from l_a1359]; decide
                    refine ⟨fun c1360 => ?_, fun c1360 => ?_⟩
                    · rw [n_a1359] at c1360
                      refine u_X4_next_201 ?_
                      refine ⟨o_v0, ?_⟩
                      intro x1361 ex1361
                      have r_x1361 : (0 : Int32) ≤ x1361 ∧ x1361 ≤ (900 : Int32) := by rw [ex1361]; exact nu 7 rfl hI o_v0
                      intro x1362 ex1362
                      have hI := iv_sI (j := 4) (v := x1362) hI o_v0 (by decide) (nu_one (lo := (0 : Int32)) (hi := (900 : Int32)) (by decide) (q87 c1289 r_x1361 ex1362))
                      intro x1363 ex1363
                      exact ih1288 _ _ _ _ _ _ ⟨hI, gL1277, rfl, rfl, rfl, rfl, hT, (q91 i1 c1289 c1309 c1354 ex1363)⟩ (mu_up (q92 i1 c1289 c1309 c1354 ex1363) (q93 i1 c1289 c1309 c1354 ex1363))
                    · rw [n_a1359] at c1360
                      intro x1364 ex1364
                      obtain ⟨a1365, ea1365, o_a1365, l_a1365⟩ := hT
                      refine ⟨a1365, ea1365, ?_⟩
                      intro x1366 ex1366
                      have r_x1366 : (0 : Int32) ≤ x1366 ∧ x1366 ≤ (900 : Int32) := by rw [ex1366]; exact nu 7 rfl hI o_v0
                      refine ⟨o_a1365, ?_⟩
                      refine ⟨(vin l_a1365 (m := 900) (by decide) (q94 c1289 r_x1366)), ?_⟩
                      intro x1367 ex1367
                      intro x1368 ex1368
                      refine ⟨fun c1369 => ?_, fun c1369 => ?_⟩
                      · refine u_X4_next_195 ?_
                        refine ⟨o_v0, ?_⟩
                        intro x1370 ex1370
                        have hI := iv_sJ (j := 8) (v := x1370) hI o_v0 (by decide)
                        refine u_X4_next_201 ?_
                        refine ⟨o_v0, ?_⟩
                        intro x1371 ex1371
                        have r_x1371 : (0 : Int32) ≤ x1371 ∧ x1371 ≤ (900 : Int32) := by rw [ex1371]; exact nu 7 rfl hI o_v0
                        intro x1372 ex1372
                        have hI := iv_sI (j := 4) (v := x1372) hI o_v0 (by decide) (nu_one (lo := (0 : Int32)) (hi := (900 : Int32)) (by decide) (q87 c1289 r_x1371 ex1372))
                        intro x1373 ex1373
                        exact ih1288 _ _ _ _ _ _ ⟨hI, gL1277, rfl, rfl, rfl, rfl, hT, (q91 i1 c1289 c1309 c1354 ex1373)⟩ (mu_up (q92 i1 c1289 c1309 c1354 ex1373) (q93 i1 c1289 c1309 c1354 ex1373))
                      · refine u_X4_next_195 ?_
                        refine ⟨o_v0, ?_⟩
                        intro x1374 ex1374
                        have hI := iv_sJ (j := 8) (v := x1374) hI o_v0 (by decide)
                        refine u_X4_next_201 ?_
                        refine ⟨o_v0, ?_⟩
                        intro x1375 ex1375
                        have r_x1375 : (0 : Int32) ≤ x1375 ∧ x1375 ≤ (900 : Int32) := by rw [ex1375]; exact nu 7 rfl hI o_v0
                        intro x1376 ex1376
                        have hI := iv_sI (j := 4) (v := x1376) hI o_v0 (by decide) (nu_one (lo := (0 : Int32)) (hi := (900 : Int32)) (by decide) (q87 c1289 r_x1375 ex1376))
                        intro x1377 ex1377
                        exact ih1288 _ _ _ _ _ _ ⟨hI, gL1277, rfl, rfl, rfl, rfl, hT, (q91 i1 c1289 c1309 c1354 ex1377)⟩ (mu_up (q92 i1 c1289 c1309 c1354 ex1377) (q93 i1 c1289 c1309 c1354 ex1377))
          · refine u_X4_next_114 ?_
            refine i_X4_next_118 (fun (y0 : Nat) (y1 : Int32) (y2 : Int32) (y3 : Int32) (y4 : Int32) (Z : HS) => ((2147483647 : Int32).toInt - y4.toInt).toNat) (fun (y0 : Nat) (y1 : Int32) (y2 : Int32) (y3 : Int32) (y4 : Int32) (Z : HS) => (IV Z) ∧ (Gr (sJ (sI (sI S1 v0 7 x1265) v0 6 x1267) v0 8 (0 : Int64)) Z) ∧ (v0 = y0) ∧ ((1 : Int32) = y1) ∧ ((3 : Int32) = y2) ∧ ((32 : Int32) = y3) ∧ (TX Z v0) ∧ (0 ≤ y4)) ?_ _ _ _ _ _ _ ⟨hI, (gr_rf _), rfl, rfl, rfl, rfl, hT, (q43)⟩
            intro w1380 w1382 w1384 w1386 w1388 S1378 X1389 ⟨hI, gL1379, q1381, q1383, q1385, q1387, hT, i1⟩ ih1390
            subst q1381
            subst q1383
            subst q1385
            subst q1387
            have o_v0 := gr_ob gL1379 o_v0
            have g0 := gr_tr g0 gL1379
            have gL2 := gr_tr gL2 gL1379
            refine u_X4_next_118 ?_
            refine ⟨fun c1391 => ?_, fun c1391 => ?_⟩
            · refine u_X4_next_217 ?_
              refine ⟨fun c1392 => ?_, fun c1392 => ?_⟩
              · refine u_X4_next_240 ?_
                refine ⟨fun c1393 => ?_, fun c1393 => ?_⟩
                · exact hq _ hI g0 hT
                · refine ⟨o_v0, ?_⟩
                  intro x1394 ex1394
                  refine ⟨fun c1395 => ?_, fun c1395 => ?_⟩
                  · exact hq _ hI g0 hT
                  · intro x1396 ex1396
                    have r_x1396 : (0 : Int32) ≤ x1396 ∧ x1396 ≤ (900 : Int32) := by rw [ex1396]; exact nu 7 rfl hI o_v0
                    intro x1397 ex1397
                    have hI := iv_sI (j := 4) (v := x1397) hI o_v0 (by decide) (nu_one (lo := (0 : Int32)) (hi := (900 : Int32)) (by decide) (q83 c1391 c1392 c1393 r_x1396 ex1397))
                    exact hq _ hI g0 hT
              · refine ⟨o_v0, ?_⟩
                intro x1398 ex1398
                have r_x1398 : (0 : Int32) ≤ x1398 ∧ x1398 ≤ (900 : Int32) := by rw [ex1398]; exact nu 7 rfl hI o_v0
                intro x1399 ex1399
                refine ⟨fun c1400 => ?_, fun c1400 => ?_⟩
                · refine u_X4_next_240 ?_
                  refine ⟨fun c1401 => ?_, fun c1401 => ?_⟩
                  · exact hq _ hI g0 hT
                  · refine ⟨o_v0, ?_⟩
                    intro x1402 ex1402
                    refine ⟨fun c1403 => ?_, fun c1403 => ?_⟩
                    · exact hq _ hI g0 hT
                    · intro x1404 ex1404
                      have r_x1404 : (0 : Int32) ≤ x1404 ∧ x1404 ≤ (900 : Int32) := by rw [ex1404]; exact nu 7 rfl hI o_v0
                      intro x1405 ex1405
                      have hI := iv_sI (j := 4) (v := x1405) hI o_v0 (by decide) (nu_one (lo := (0 : Int32)) (hi := (900 : Int32)) (by decide) (q84 c1391 c1392 c1401 r_x1404 ex1405))
                      exact hq _ hI g0 hT
                · have hI := iv_sI (j := 6) (v := (6 : Int32)) hI o_v0 (by decide) (nu_free (by decide))
                  refine u_X4_next_240 ?_
                  refine ⟨fun c1406 => ?_, fun c1406 => ?_⟩
                  · exact hq _ hI g0 hT
                  · refine ⟨o_v0, ?_⟩
                    intro x1407 ex1407
                    refine ⟨fun c1408 => ?_, fun c1408 => ?_⟩
                    · exact hq _ hI g0 hT
                    · intro x1409 ex1409
                      have r_x1409 : (0 : Int32) ≤ x1409 ∧ x1409 ≤ (900 : Int32) := by rw [ex1409]; exact nu 7 rfl hI o_v0
                      intro x1410 ex1410
                      have hI := iv_sI (j := 4) (v := x1410) hI o_v0 (by decide) (nu_one (lo := (0 : Int32)) (hi := (900 : Int32)) (by decide) (q84 c1391 c1392 c1406 r_x1409 ex1410))
                      exact hq _ hI g0 hT
            · refine ⟨fun c1411 => ?_, fun c1411 => ?_⟩
              · refine u_X4_next_217 ?_
                refine ⟨fun c1412 => ?_, fun c1412 => ?_⟩
                · refine u_X4_next_240 ?_
                  refine ⟨fun c1413 => ?_, fun c1413 => ?_⟩
                  · exact hq _ hI g0 hT
                  · refine ⟨o_v0, ?_⟩
                    intro x1414 ex1414
                    refine ⟨fun c1415 => ?_, fun c1415 => ?_⟩
                    · exact hq _ hI g0 hT
                    · intro x1416 ex1416
                      have r_x1416 : (0 : Int32) ≤ x1416 ∧ x1416 ≤ (900 : Int32) := by rw [ex1416]; exact nu 7 rfl hI o_v0
                      intro x1417 ex1417
                      have hI := iv_sI (j := 4) (v := x1417) hI o_v0 (by decide) (nu_one (lo := (0 : Int32)) (hi := (900 : Int32)) (by decide) (q85 c1391 c1412 c1413 r_x1416 ex1417))
                      exact hq _ hI g0 hT
                · refine ⟨o_v0, ?_⟩
                  intro x1418 ex1418
                  have r_x1418 : (0 : Int32) ≤ x1418 ∧ x1418 ≤ (900 : Int32) := by rw [ex1418]; exact nu 7 rfl hI o_v0
                  intro x1419 ex1419
                  refine ⟨fun c1420 => ?_, fun c1420 => ?_⟩
                  · refine u_X4_next_240 ?_
                    refine ⟨fun c1421 => ?_, fun c1421 => ?_⟩
                    · exact hq _ hI g0 hT
                    · refine ⟨o_v0, ?_⟩
                      intro x1422 ex1422
                      refine ⟨fun c1423 => ?_, fun c1423 => ?_⟩
                      · exact hq _ hI g0 hT
                      · intro x1424 ex1424
                        have r_x1424 : (0 : Int32) ≤ x1424 ∧ x1424 ≤ (900 : Int32) := by rw [ex1424]; exact nu 7 rfl hI o_v0
                        intro x1425 ex1425
                        have hI := iv_sI (j := 4) (v := x1425) hI o_v0 (by decide) (nu_one (lo := (0 : Int32)) (hi := (900 : Int32)) (by decide) (q86 c1391 c1412 c1421 r_x1424 ex1425))
                        exact hq _ hI g0 hT
                  · have hI := iv_sI (j := 6) (v := (6 : Int32)) hI o_v0 (by decide) (nu_free (by decide))
                    refine u_X4_next_240 ?_
                    refine ⟨fun c1426 => ?_, fun c1426 => ?_⟩
                    · exact hq _ hI g0 hT
                    · refine ⟨o_v0, ?_⟩
                      intro x1427 ex1427
                      refine ⟨fun c1428 => ?_, fun c1428 => ?_⟩
                      · exact hq _ hI g0 hT
                      · intro x1429 ex1429
                        have r_x1429 : (0 : Int32) ≤ x1429 ∧ x1429 ≤ (900 : Int32) := by rw [ex1429]; exact nu 7 rfl hI o_v0
                        intro x1430 ex1430
                        have hI := iv_sI (j := 4) (v := x1430) hI o_v0 (by decide) (nu_one (lo := (0 : Int32)) (hi := (900 : Int32)) (by decide) (q86 c1391 c1412 c1426 r_x1429 ex1430))
                        exact hq _ hI g0 hT
              · refine ⟨o_v0, ?_⟩
                intro x1431 ex1431
                have r_x1431 : (0 : Int32) ≤ x1431 ∧ x1431 ≤ (900 : Int32) := by rw [ex1431]; exact nu 7 rfl hI o_v0
                refine m_X4_sortAt hI o_v0 hT (fun x1432 S1433 hI2 g1434 p_x1432 => ?_)
                subst p_x1432
                intro _
                intro x1435 ex1435
                refine ⟨fun c1436 => ?_, fun c1436 => ?_⟩
                · refine u_X4_next_217 ?_
                  refine ⟨fun c1437 => ?_, fun c1437 => ?_⟩
                  · refine u_X4_next_240 ?_
                    refine ⟨fun c1438 => ?_, fun c1438 => ?_⟩
                    · exact hq _ hI g0 hT
                    · refine ⟨o_v0, ?_⟩
                      intro x1439 ex1439
                      refine ⟨fun c1440 => ?_, fun c1440 => ?_⟩
                      · exact hq _ hI g0 hT
                      · intro x1441 ex1441
                        have r_x1441 : (0 : Int32) ≤ x1441 ∧ x1441 ≤ (900 : Int32) := by rw [ex1441]; exact nu 7 rfl hI o_v0
                        intro x1442 ex1442
                        have hI := iv_sI (j := 4) (v := x1442) hI o_v0 (by decide) (nu_one (lo := (0 : Int32)) (hi := (900 : Int32)) (by decide) (q85 c1391 c1437 c1438 r_x1441 ex1442))
                        exact hq _ hI g0 hT
                  · refine ⟨o_v0, ?_⟩
                    intro x1443 ex1443
                    have r_x1443 : (0 : Int32) ≤ x1443 ∧ x1443 ≤ (900 : Int32) := by rw [ex1443]; exact nu 7 rfl hI o_v0
                    intro x1444 ex1444
                    refine ⟨fun c1445 => ?_, fun c1445 => ?_⟩
                    · refine u_X4_next_240 ?_
                      refine ⟨fun c1446 => ?_, fun c1446 => ?_⟩
                      · exact hq _ hI g0 hT
                      · refine ⟨o_v0, ?_⟩
                        intro x1447 ex1447
                        refine ⟨fun c1448 => ?_, fun c1448 => ?_⟩
                        · exact hq _ hI g0 hT
                        · intro x1449 ex1449
                          have r_x1449 : (0 : Int32) ≤ x1449 ∧ x1449 ≤ (900 : Int32) := by rw [ex1449]; exact nu 7 rfl hI o_v0
                          intro x1450 ex1450
                          have hI := iv_sI (j := 4) (v := x1450) hI o_v0 (by decide) (nu_one (lo := (0 : Int32)) (hi := (900 : Int32)) (by decide) (q86 c1391 c1437 c1446 r_x1449 ex1450))
                          exact hq _ hI g0 hT
                    · have hI := iv_sI (j := 6) (v := (6 : Int32)) hI o_v0 (by decide) (nu_free (by decide))
                      refine u_X4_next_240 ?_
                      refine ⟨fun c1451 => ?_, fun c1451 => ?_⟩
                      · exact hq _ hI g0 hT
                      · refine ⟨o_v0, ?_⟩
                        intro x1452 ex1452
                        refine ⟨fun c1453 => ?_, fun c1453 => ?_⟩
                        · exact hq _ hI g0 hT
                        · intro x1454 ex1454
                          have r_x1454 : (0 : Int32) ≤ x1454 ∧ x1454 ≤ (900 : Int32) := by rw [ex1454]; exact nu 7 rfl hI o_v0
                          intro x1455 ex1455
                          have hI := iv_sI (j := 4) (v := x1455) hI o_v0 (by decide) (nu_one (lo := (0 : Int32)) (hi := (900 : Int32)) (by decide) (q86 c1391 c1437 c1451 r_x1454 ex1455))
                          exact hq _ hI g0 hT
                · refine ⟨fun c1456 => ?_, fun c1456 => ?_⟩
                  · refine u_X4_next_201 ?_
                    refine ⟨o_v0, ?_⟩
                    intro x1457 ex1457
                    have r_x1457 : (0 : Int32) ≤ x1457 ∧ x1457 ≤ (900 : Int32) := by rw [ex1457]; exact nu 7 rfl hI o_v0
                    intro x1458 ex1458
                    have hI := iv_sI (j := 4) (v := x1458) hI o_v0 (by decide) (nu_one (lo := (0 : Int32)) (hi := (900 : Int32)) (by decide) (q87 c1391 r_x1457 ex1458))
                    intro x1459 ex1459
                    exact ih1390 _ _ _ _ _ _ ⟨hI, gL1379, rfl, rfl, rfl, rfl, hT, (q88 i1 c1391 c1411 c1456 ex1459)⟩ (mu_up (q89 i1 c1391 c1411 c1456 ex1459) (q90 i1 c1391 c1411 c1456 ex1459))
                  · intro x1460 ex1460
                    have r_x1460 : (0 : Int32) ≤ x1460 ∧ x1460 ≤ (900 : Int32) := by rw [ex1460]; exact nu 7 rfl hI o_v0
                    obtain ⟨a1461, ea1461, o_a1461, l_a1461⟩ := hT
                    refine ⟨a1461, ea1461, ?_⟩
                    refine ⟨o_a1461, ?_⟩
                    have n_a1461 : nI (hN S1378 a1461) = 900 := by rw [show hN S1378 a1461 = 900 from l_a1461]; decide
                    refine ⟨fun c1462 => ?_, fun c1462 => ?_⟩
                    · rw [n_a1461] at c1462
                      refine u_X4_next_201 ?_
                      refine ⟨o_v0, ?_⟩
                      intro x1463 ex1463
                      have r_x1463 : (0 : Int32) ≤ x1463 ∧ x1463 ≤ (900 : Int32) := by rw [ex1463]; exact nu 7 rfl hI o_v0
                      intro x1464 ex1464
                      have hI := iv_sI (j := 4) (v := x1464) hI o_v0 (by decide) (nu_one (lo := (0 : Int32)) (hi := (900 : Int32)) (by decide) (q87 c1391 r_x1463 ex1464))
                      intro x1465 ex1465
                      exact ih1390 _ _ _ _ _ _ ⟨hI, gL1379, rfl, rfl, rfl, rfl, hT, (q91 i1 c1391 c1411 c1456 ex1465)⟩ (mu_up (q92 i1 c1391 c1411 c1456 ex1465) (q93 i1 c1391 c1411 c1456 ex1465))
                    · rw [n_a1461] at c1462
                      intro x1466 ex1466
                      obtain ⟨a1467, ea1467, o_a1467, l_a1467⟩ := hT
                      refine ⟨a1467, ea1467, ?_⟩
                      intro x1468 ex1468
                      have r_x1468 : (0 : Int32) ≤ x1468 ∧ x1468 ≤ (900 : Int32) := by rw [ex1468]; exact nu 7 rfl hI o_v0
                      refine ⟨o_a1467, ?_⟩
                      refine ⟨(vin l_a1467 (m := 900) (by decide) (q94 c1391 r_x1468)), ?_⟩
                      intro x1469 ex1469
                      intro x1470 ex1470
                      refine ⟨fun c1471 => ?_, fun c1471 => ?_⟩
                      · refine u_X4_next_195 ?_
                        refine ⟨o_v0, ?_⟩
                        intro x1472 ex1472
                        have hI := iv_sJ (j := 8) (v := x1472) hI o_v0 (by decide)
                        refine u_X4_next_201 ?_
                        refine ⟨o_v0, ?_⟩
                        intro x1473 ex1473
                        have r_x1473 : (0 : Int32) ≤ x1473 ∧ x1473 ≤ (900 : Int32) := by rw [ex1473]; exact nu 7 rfl hI o_v0
                        intro x1474 ex1474
                        have hI := iv_sI (j := 4) (v := x1474) hI o_v0 (by decide) (nu_one (lo := (0 : Int32)) (hi := (900 : Int32)) (by decide) (q87 c1391 r_x1473 ex1474))
                        intro x1475 ex1475
                        exact ih1390 _ _ _ _ _ _ ⟨hI, gL1379, rfl, rfl, rfl, rfl, hT, (q91 i1 c1391 c1411 c1456 ex1475)⟩ (mu_up (q92 i1 c1391 c1411 c1456 ex1475) (q93 i1 c1391 c1411 c1456 ex1475))
                      · refine u_X4_next_195 ?_
                        refine ⟨o_v0, ?_⟩
                        intro x1476 ex1476
                        have hI := iv_sJ (j := 8) (v := x1476) hI o_v0 (by decide)
                        refine u_X4_next_201 ?_
                        refine ⟨o_v0, ?_⟩
                        intro x1477 ex1477
                        have r_x1477 : (0 : Int32) ≤ x1477 ∧ x1477 ≤ (900 : Int32) := by rw [ex1477]; exact nu 7 rfl hI o_v0
                        intro x1478 ex1478
                        have hI := iv_sI (j := 4) (v := x1478) hI o_v0 (by decide) (nu_one (lo := (0 : Int32)) (hi := (900 : Int32)) (by decide) (q87 c1391 r_x1477 ex1478))
                        intro x1479 ex1479
                        exact ih1390 _ _ _ _ _ _ ⟨hI, gL1379, rfl, rfl, rfl, rfl, hT, (q91 i1 c1391 c1411 c1456 ex1479)⟩ (mu_up (q92 i1 c1391 c1411 c1456 ex1479) (q93 i1 c1391 c1411 c1456 ex1479))
        · refine u_X4_next_98 ?_
          refine ⟨o_v0, ?_⟩
          intro x1480 ex1480
          refine ⟨fun c1481 => ?_, fun c1481 => ?_⟩
          · refine u_X4_next_114 ?_
            refine i_X4_next_118 (fun (y0 : Nat) (y1 : Int32) (y2 : Int32) (y3 : Int32) (y4 : Int32) (Z : HS) => ((2147483647 : Int32).toInt - y4.toInt).toNat) (fun (y0 : Nat) (y1 : Int32) (y2 : Int32) (y3 : Int32) (y4 : Int32) (Z : HS) => (IV Z) ∧ (Gr (sJ (sI (sI S1 v0 7 x1265) v0 6 x1267) v0 8 (0 : Int64)) Z) ∧ (v0 = y0) ∧ ((1 : Int32) = y1) ∧ ((8 : Int32) = y2) ∧ ((10 : Int32) = y3) ∧ (TX Z v0) ∧ (0 ≤ y4)) ?_ _ _ _ _ _ _ ⟨hI, (gr_rf _), rfl, rfl, rfl, rfl, hT, (q43)⟩
            intro w1484 w1486 w1488 w1490 w1492 S1482 X1493 ⟨hI, gL1483, q1485, q1487, q1489, q1491, hT, i1⟩ ih1494
            subst q1485
            subst q1487
            subst q1489
            subst q1491
            have o_v0 := gr_ob gL1483 o_v0
            have g0 := gr_tr g0 gL1483
            have gL2 := gr_tr gL2 gL1483
            refine u_X4_next_118 ?_
            refine ⟨fun c1495 => ?_, fun c1495 => ?_⟩
            · refine u_X4_next_217 ?_
              refine ⟨fun c1496 => ?_, fun c1496 => ?_⟩
              · refine u_X4_next_240 ?_
                refine ⟨fun c1497 => ?_, fun c1497 => ?_⟩
                · exact hq _ hI g0 hT
                · refine ⟨o_v0, ?_⟩
                  intro x1498 ex1498
                  refine ⟨fun c1499 => ?_, fun c1499 => ?_⟩
                  · exact hq _ hI g0 hT
                  · intro x1500 ex1500
                    have r_x1500 : (0 : Int32) ≤ x1500 ∧ x1500 ≤ (900 : Int32) := by rw [ex1500]; exact nu 7 rfl hI o_v0
                    intro x1501 ex1501
                    have hI := iv_sI (j := 4) (v := x1501) hI o_v0 (by decide) (nu_one (lo := (0 : Int32)) (hi := (900 : Int32)) (by decide) (q83 c1495 c1496 c1497 r_x1500 ex1501))
                    exact hq _ hI g0 hT
              · refine ⟨o_v0, ?_⟩
                intro x1502 ex1502
                have r_x1502 : (0 : Int32) ≤ x1502 ∧ x1502 ≤ (900 : Int32) := by rw [ex1502]; exact nu 7 rfl hI o_v0
                intro x1503 ex1503
                refine ⟨fun c1504 => ?_, fun c1504 => ?_⟩
                · refine u_X4_next_240 ?_
                  refine ⟨fun c1505 => ?_, fun c1505 => ?_⟩
                  · exact hq _ hI g0 hT
                  · refine ⟨o_v0, ?_⟩
                    intro x1506 ex1506
                    refine ⟨fun c1507 => ?_, fun c1507 => ?_⟩
                    · exact hq _ hI g0 hT
                    · intro x1508 ex1508
                      have r_x1508 : (0 : Int32) ≤ x1508 ∧ x1508 ≤ (900 : Int32) := by rw [ex1508]; exact nu 7 rfl hI o_v0
                      intro x1509 ex1509
                      have hI := iv_sI (j := 4) (v := x1509) hI o_v0 (by decide) (nu_one (lo := (0 : Int32)) (hi := (900 : Int32)) (by decide) (q84 c1495 c1496 c1505 r_x1508 ex1509))
                      exact hq _ hI g0 hT
                · have hI := iv_sI (j := 6) (v := (6 : Int32)) hI o_v0 (by decide) (nu_free (by decide))
                  refine u_X4_next_240 ?_
                  refine ⟨fun c1510 => ?_, fun c1510 => ?_⟩
                  · exact hq _ hI g0 hT
                  · refine ⟨o_v0, ?_⟩
                    intro x1511 ex1511
                    refine ⟨fun c1512 => ?_, fun c1512 => ?_⟩
                    · exact hq _ hI g0 hT
                    · intro x1513 ex1513
                      have r_x1513 : (0 : Int32) ≤ x1513 ∧ x1513 ≤ (900 : Int32) := by rw [ex1513]; exact nu 7 rfl hI o_v0
                      intro x1514 ex1514
                      have hI := iv_sI (j := 4) (v := x1514) hI o_v0 (by decide) (nu_one (lo := (0 : Int32)) (hi := (900 : Int32)) (by decide) (q84 c1495 c1496 c1510 r_x1513 ex1514))
                      exact hq _ hI g0 hT
            · refine ⟨fun c1515 => ?_, fun c1515 => ?_⟩
              · refine u_X4_next_217 ?_
                refine ⟨fun c1516 => ?_, fun c1516 => ?_⟩
                · refine u_X4_next_240 ?_
                  refine ⟨fun c1517 => ?_, fun c1517 => ?_⟩
                  · exact hq _ hI g0 hT
                  · refine ⟨o_v0, ?_⟩
                    intro x1518 ex1518
                    refine ⟨fun c1519 => ?_, fun c1519 => ?_⟩
                    · exact hq _ hI g0 hT
                    · intro x1520 ex1520
                      have r_x1520 : (0 : Int32) ≤ x1520 ∧ x1520 ≤ (900 : Int32) := by rw [ex1520]; exact nu 7 rfl hI o_v0
                      intro x1521 ex1521
                      have hI := iv_sI (j := 4) (v := x1521) hI o_v0 (by decide) (nu_one (lo := (0 : Int32)) (hi := (900 : Int32)) (by decide) (q85 c1495 c1516 c1517 r_x1520 ex1521))
                      exact hq _ hI g0 hT
                · refine ⟨o_v0, ?_⟩
                  intro x1522 ex1522
                  have r_x1522 : (0 : Int32) ≤ x1522 ∧ x1522 ≤ (900 : Int32) := by rw [ex1522]; exact nu 7 rfl hI o_v0
                  intro x1523 ex1523
                  refine ⟨fun c1524 => ?_, fun c1524 => ?_⟩
                  · refine u_X4_next_240 ?_
                    refine ⟨fun c1525 => ?_, fun c1525 => ?_⟩
                    · exact hq _ hI g0 hT
                    · refine ⟨o_v0, ?_⟩
                      intro x1526 ex1526
                      refine ⟨fun c1527 => ?_, fun c1527 => ?_⟩
                      · exact hq _ hI g0 hT
                      · intro x1528 ex1528
                        have r_x1528 : (0 : Int32) ≤ x1528 ∧ x1528 ≤ (900 : Int32) := by rw [ex1528]; exact nu 7 rfl hI o_v0
                        intro x1529 ex1529
                        have hI := iv_sI (j := 4) (v := x1529) hI o_v0 (by decide) (nu_one (lo := (0 : Int32)) (hi := (900 : Int32)) (by decide) (q86 c1495 c1516 c1525 r_x1528 ex1529))
                        exact hq _ hI g0 hT
                  · have hI := iv_sI (j := 6) (v := (6 : Int32)) hI o_v0 (by decide) (nu_free (by decide))
                    refine u_X4_next_240 ?_
                    refine ⟨fun c1530 => ?_, fun c1530 => ?_⟩
                    · exact hq _ hI g0 hT
                    · refine ⟨o_v0, ?_⟩
                      intro x1531 ex1531
                      refine ⟨fun c1532 => ?_, fun c1532 => ?_⟩
                      · exact hq _ hI g0 hT
                      · intro x1533 ex1533
                        have r_x1533 : (0 : Int32) ≤ x1533 ∧ x1533 ≤ (900 : Int32) := by rw [ex1533]; exact nu 7 rfl hI o_v0
                        intro x1534 ex1534
                        have hI := iv_sI (j := 4) (v := x1534) hI o_v0 (by decide) (nu_one (lo := (0 : Int32)) (hi := (900 : Int32)) (by decide) (q86 c1495 c1516 c1530 r_x1533 ex1534))
                        exact hq _ hI g0 hT
              · refine ⟨o_v0, ?_⟩
                intro x1535 ex1535
                have r_x1535 : (0 : Int32) ≤ x1535 ∧ x1535 ≤ (900 : Int32) := by rw [ex1535]; exact nu 7 rfl hI o_v0
                refine m_X4_sortAt hI o_v0 hT (fun x1536 S1537 hI2 g1538 p_x1536 => ?_)
                subst p_x1536
                intro _
                intro x1539 ex1539
                refine ⟨fun c1540 => ?_, fun c1540 => ?_⟩
                · refine u_X4_next_217 ?_
                  refine ⟨fun c1541 => ?_, fun c1541 => ?_⟩
                  · refine u_X4_next_240 ?_
                    refine ⟨fun c1542 => ?_, fun c1542 => ?_⟩
                    · exact hq _ hI g0 hT
                    · refine ⟨o_v0, ?_⟩
                      intro x1543 ex1543
                      refine ⟨fun c1544 => ?_, fun c1544 => ?_⟩
                      · exact hq _ hI g0 hT
                      · intro x1545 ex1545
                        have r_x1545 : (0 : Int32) ≤ x1545 ∧ x1545 ≤ (900 : Int32) := by rw [ex1545]; exact nu 7 rfl hI o_v0
                        intro x1546 ex1546
                        have hI := iv_sI (j := 4) (v := x1546) hI o_v0 (by decide) (nu_one (lo := (0 : Int32)) (hi := (900 : Int32)) (by decide) (q85 c1495 c1541 c1542 r_x1545 ex1546))
                        exact hq _ hI g0 hT
                  · refine ⟨o_v0, ?_⟩
                    intro x1547 ex1547
                    have r_x1547 : (0 : Int32) ≤ x1547 ∧ x1547 ≤ (900 : Int32) := by rw [ex1547]; exact nu 7 rfl hI o_v0
                    intro x1548 ex1548
                    refine ⟨fun c1549 => ?_, fun c1549 => ?_⟩
                    · refine u_X4_next_240 ?_
                      refine ⟨fun c1550 => ?_, fun c1550 => ?_⟩
                      · exact hq _ hI g0 hT
                      · refine ⟨o_v0, ?_⟩
                        intro x1551 ex1551
                        refine ⟨fun c1552 => ?_, fun c1552 => ?_⟩
                        · exact hq _ hI g0 hT
                        · intro x1553 ex1553
                          have r_x1553 : (0 : Int32) ≤ x1553 ∧ x1553 ≤ (900 : Int32) := by rw [ex1553]; exact nu 7 rfl hI o_v0
                          intro x1554 ex1554
                          have hI := iv_sI (j := 4) (v := x1554) hI o_v0 (by decide) (nu_one (lo := (0 : Int32)) (hi := (900 : Int32)) (by decide) (q86 c1495 c1541 c1550 r_x1553 ex1554))
                          exact hq _ hI g0 hT
                    · have hI := iv_sI (j := 6) (v := (6 : Int32)) hI o_v0 (by decide) (nu_free (by decide))
                      refine u_X4_next_240 ?_
                      refine ⟨fun c1555 => ?_, fun c1555 => ?_⟩
                      · exact hq _ hI g0 hT
                      · refine ⟨o_v0, ?_⟩
                        intro x1556 ex1556
                        refine ⟨fun c1557 => ?_, fun c1557 => ?_⟩
                        · exact hq _ hI g0 hT
                        · intro x1558 ex1558
                          have r_x1558 : (0 : Int32) ≤ x1558 ∧ x1558 ≤ (900 : Int32) := by rw [ex1558]; exact nu 7 rfl hI o_v0
                          intro x1559 ex1559
                          have hI := iv_sI (j := 4) (v := x1559) hI o_v0 (by decide) (nu_one (lo := (0 : Int32)) (hi := (900 : Int32)) (by decide) (q86 c1495 c1541 c1555 r_x1558 ex1559))
                          exact hq _ hI g0 hT
                · refine ⟨fun c1560 => ?_, fun c1560 => ?_⟩
                  · refine u_X4_next_201 ?_
                    refine ⟨o_v0, ?_⟩
                    intro x1561 ex1561
                    have r_x1561 : (0 : Int32) ≤ x1561 ∧ x1561 ≤ (900 : Int32) := by rw [ex1561]; exact nu 7 rfl hI o_v0
                    intro x1562 ex1562
                    have hI := iv_sI (j := 4) (v := x1562) hI o_v0 (by decide) (nu_one (lo := (0 : Int32)) (hi := (900 : Int32)) (by decide) (q87 c1495 r_x1561 ex1562))
                    intro x1563 ex1563
                    exact ih1494 _ _ _ _ _ _ ⟨hI, gL1483, rfl, rfl, rfl, rfl, hT, (q95 i1 c1495 c1515 c1560 ex1563)⟩ (mu_up (q96 i1 c1495 c1515 c1560 ex1563) (q97 i1 c1495 c1515 c1560 ex1563))
                  · intro x1564 ex1564
                    have r_x1564 : (0 : Int32) ≤ x1564 ∧ x1564 ≤ (900 : Int32) := by rw [ex1564]; exact nu 7 rfl hI o_v0
                    obtain ⟨a1565, ea1565, o_a1565, l_a1565⟩ := hT
                    refine ⟨a1565, ea1565, ?_⟩
                    refine ⟨o_a1565, ?_⟩
                    have n_a1565 : nI (hN S1482 a1565) = 900 := by rw [show hN S1482 a1565 = 900 from l_a1565]; decide
                    refine ⟨fun c1566 => ?_, fun c1566 => ?_⟩
                    · rw [n_a1565] at c1566
                      refine u_X4_next_201 ?_
                      refine ⟨o_v0, ?_⟩
                      intro x1567 ex1567
                      have r_x1567 : (0 : Int32) ≤ x1567 ∧ x1567 ≤ (900 : Int32) := by rw [ex1567]; exact nu 7 rfl hI o_v0
                      intro x1568 ex1568
                      have hI := iv_sI (j := 4) (v := x1568) hI o_v0 (by decide) (nu_one (lo := (0 : Int32)) (hi := (900 : Int32)) (by decide) (q87 c1495 r_x1567 ex1568))
                      intro x1569 ex1569
                      exact ih1494 _ _ _ _ _ _ ⟨hI, gL1483, rfl, rfl, rfl, rfl, hT, (q98 i1 c1495 c1515 c1560 ex1569)⟩ (mu_up (q99 i1 c1495 c1515 c1560 ex1569) (q100 i1 c1495 c1515 c1560 ex1569))
                    · rw [n_a1565] at c1566
                      intro x1570 ex1570
                      obtain ⟨a1571, ea1571, o_a1571, l_a1571⟩ := hT
                      refine ⟨a1571, ea1571, ?_⟩
                      intro x1572 ex1572
                      have r_x1572 : (0 : Int32) ≤ x1572 ∧ x1572 ≤ (900 : Int32) := by rw [ex1572]; exact nu 7 rfl hI o_v0
                      refine ⟨o_a1571, ?_⟩
                      refine ⟨(vin l_a1571 (m := 900) (by decide) (q94 c1495 r_x1572)), ?_⟩
                      intro x1573 ex1573
                      intro x1574 ex1574
                      refine ⟨fun c1575 => ?_, fun c1575 => ?_⟩
                      · refine u_X4_next_195 ?_
                        refine ⟨o_v0, ?_⟩
                        intro x1576 ex1576
                        have hI := iv_sJ (j := 8) (v := x1576) hI o_v0 (by decide)
                        refine u_X4_next_201 ?_
                        refine ⟨o_v0, ?_⟩
                        intro x1577 ex1577
                        have r_x1577 : (0 : Int32) ≤ x1577 ∧ x1577 ≤ (900 : Int32) := by rw [ex1577]; exact nu 7 rfl hI o_v0
                        intro x1578 ex1578
                        have hI := iv_sI (j := 4) (v := x1578) hI o_v0 (by decide) (nu_one (lo := (0 : Int32)) (hi := (900 : Int32)) (by decide) (q87 c1495 r_x1577 ex1578))
                        intro x1579 ex1579
                        exact ih1494 _ _ _ _ _ _ ⟨hI, gL1483, rfl, rfl, rfl, rfl, hT, (q98 i1 c1495 c1515 c1560 ex1579)⟩ (mu_up (q99 i1 c1495 c1515 c1560 ex1579) (q100 i1 c1495 c1515 c1560 ex1579))
                      · refine u_X4_next_195 ?_
                        refine ⟨o_v0, ?_⟩
                        intro x1580 ex1580
                        have hI := iv_sJ (j := 8) (v := x1580) hI o_v0 (by decide)
                        refine u_X4_next_201 ?_
                        refine ⟨o_v0, ?_⟩
                        intro x1581 ex1581
                        have r_x1581 : (0 : Int32) ≤ x1581 ∧ x1581 ≤ (900 : Int32) := by rw [ex1581]; exact nu 7 rfl hI o_v0
                        intro x1582 ex1582
                        have hI := iv_sI (j := 4) (v := x1582) hI o_v0 (by decide) (nu_one (lo := (0 : Int32)) (hi := (900 : Int32)) (by decide) (q87 c1495 r_x1581 ex1582))
                        intro x1583 ex1583
                        exact ih1494 _ _ _ _ _ _ ⟨hI, gL1483, rfl, rfl, rfl, rfl, hT, (q98 i1 c1495 c1515 c1560 ex1583)⟩ (mu_up (q99 i1 c1495 c1515 c1560 ex1583) (q100 i1 c1495 c1515 c1560 ex1583))
          · refine u_X4_next_114 ?_
            refine i_X4_next_118 (fun (y0 : Nat) (y1 : Int32) (y2 : Int32) (y3 : Int32) (y4 : Int32) (Z : HS) => ((2147483647 : Int32).toInt - y4.toInt).toNat) (fun (y0 : Nat) (y1 : Int32) (y2 : Int32) (y3 : Int32) (y4 : Int32) (Z : HS) => (IV Z) ∧ (Gr (sJ (sI (sI S1 v0 7 x1265) v0 6 x1267) v0 8 (0 : Int64)) Z) ∧ (v0 = y0) ∧ ((1 : Int32) = y1) ∧ ((8 : Int32) = y2) ∧ ((32 : Int32) = y3) ∧ (TX Z v0) ∧ (0 ≤ y4)) ?_ _ _ _ _ _ _ ⟨hI, (gr_rf _), rfl, rfl, rfl, rfl, hT, (q43)⟩
            intro w1586 w1588 w1590 w1592 w1594 S1584 X1595 ⟨hI, gL1585, q1587, q1589, q1591, q1593, hT, i1⟩ ih1596
            subst q1587
            subst q1589
            subst q1591
            subst q1593
            have o_v0 := gr_ob gL1585 o_v0
            have g0 := gr_tr g0 gL1585
            have gL2 := gr_tr gL2 gL1585
            refine u_X4_next_118 ?_
            refine ⟨fun c1597 => ?_, fun c1597 => ?_⟩
            · refine u_X4_next_217 ?_
              refine ⟨fun c1598 => ?_, fun c1598 => ?_⟩
              · refine u_X4_next_240 ?_
                refine ⟨fun c1599 => ?_, fun c1599 => ?_⟩
                · exact hq _ hI g0 hT
                · refine ⟨o_v0, ?_⟩
                  intro x1600 ex1600
                  refine ⟨fun c1601 => ?_, fun c1601 => ?_⟩
                  · exact hq _ hI g0 hT
                  · intro x1602 ex1602
                    have r_x1602 : (0 : Int32) ≤ x1602 ∧ x1602 ≤ (900 : Int32) := by rw [ex1602]; exact nu 7 rfl hI o_v0
                    intro x1603 ex1603
                    have hI := iv_sI (j := 4) (v := x1603) hI o_v0 (by decide) (nu_one (lo := (0 : Int32)) (hi := (900 : Int32)) (by decide) (q83 c1597 c1598 c1599 r_x1602 ex1603))
                    exact hq _ hI g0 hT
              · refine ⟨o_v0, ?_⟩
                intro x1604 ex1604
                have r_x1604 : (0 : Int32) ≤ x1604 ∧ x1604 ≤ (900 : Int32) := by rw [ex1604]; exact nu 7 rfl hI o_v0
                intro x1605 ex1605
                refine ⟨fun c1606 => ?_, fun c1606 => ?_⟩
                · refine u_X4_next_240 ?_
                  refine ⟨fun c1607 => ?_, fun c1607 => ?_⟩
                  · exact hq _ hI g0 hT
                  · refine ⟨o_v0, ?_⟩
                    intro x1608 ex1608
                    refine ⟨fun c1609 => ?_, fun c1609 => ?_⟩
                    · exact hq _ hI g0 hT
                    · intro x1610 ex1610
                      have r_x1610 : (0 : Int32) ≤ x1610 ∧ x1610 ≤ (900 : Int32) := by rw [ex1610]; exact nu 7 rfl hI o_v0
                      intro x1611 ex1611
                      have hI := iv_sI (j := 4) (v := x1611) hI o_v0 (by decide) (nu_one (lo := (0 : Int32)) (hi := (900 : Int32)) (by decide) (q84 c1597 c1598 c1607 r_x1610 ex1611))
                      exact hq _ hI g0 hT
                · have hI := iv_sI (j := 6) (v := (6 : Int32)) hI o_v0 (by decide) (nu_free (by decide))
                  refine u_X4_next_240 ?_
                  refine ⟨fun c1612 => ?_, fun c1612 => ?_⟩
                  · exact hq _ hI g0 hT
                  · refine ⟨o_v0, ?_⟩
                    intro x1613 ex1613
                    refine ⟨fun c1614 => ?_, fun c1614 => ?_⟩
                    · exact hq _ hI g0 hT
                    · intro x1615 ex1615
                      have r_x1615 : (0 : Int32) ≤ x1615 ∧ x1615 ≤ (900 : Int32) := by rw [ex1615]; exact nu 7 rfl hI o_v0
                      intro x1616 ex1616
                      have hI := iv_sI (j := 4) (v := x1616) hI o_v0 (by decide) (nu_one (lo := (0 : Int32)) (hi := (900 : Int32)) (by decide) (q84 c1597 c1598 c1612 r_x1615 ex1616))
                      exact hq _ hI g0 hT
            · refine ⟨fun c1617 => ?_, fun c1617 => ?_⟩
              · refine u_X4_next_217 ?_
                refine ⟨fun c1618 => ?_, fun c1618 => ?_⟩
                · refine u_X4_next_240 ?_
                  refine ⟨fun c1619 => ?_, fun c1619 => ?_⟩
                  · exact hq _ hI g0 hT
                  · refine ⟨o_v0, ?_⟩
                    intro x1620 ex1620
                    refine ⟨fun c1621 => ?_, fun c1621 => ?_⟩
                    · exact hq _ hI g0 hT
                    · intro x1622 ex1622
                      have r_x1622 : (0 : Int32) ≤ x1622 ∧ x1622 ≤ (900 : Int32) := by rw [ex1622]; exact nu 7 rfl hI o_v0
                      intro x1623 ex1623
                      have hI := iv_sI (j := 4) (v := x1623) hI o_v0 (by decide) (nu_one (lo := (0 : Int32)) (hi := (900 : Int32)) (by decide) (q85 c1597 c1618 c1619 r_x1622 ex1623))
                      exact hq _ hI g0 hT
                · refine ⟨o_v0, ?_⟩
                  intro x1624 ex1624
                  have r_x1624 : (0 : Int32) ≤ x1624 ∧ x1624 ≤ (900 : Int32) := by rw [ex1624]; exact nu 7 rfl hI o_v0
                  intro x1625 ex1625
                  refine ⟨fun c1626 => ?_, fun c1626 => ?_⟩
                  · refine u_X4_next_240 ?_
                    refine ⟨fun c1627 => ?_, fun c1627 => ?_⟩
                    · exact hq _ hI g0 hT
                    · refine ⟨o_v0, ?_⟩
                      intro x1628 ex1628
                      refine ⟨fun c1629 => ?_, fun c1629 => ?_⟩
                      · exact hq _ hI g0 hT
                      · intro x1630 ex1630
                        have r_x1630 : (0 : Int32) ≤ x1630 ∧ x1630 ≤ (900 : Int32) := by rw [ex1630]; exact nu 7 rfl hI o_v0
                        intro x1631 ex1631
                        have hI := iv_sI (j := 4) (v := x1631) hI o_v0 (by decide) (nu_one (lo := (0 : Int32)) (hi := (900 : Int32)) (by decide) (q86 c1597 c1618 c1627 r_x1630 ex1631))
                        exact hq _ hI g0 hT
                  · have hI := iv_sI (j := 6) (v := (6 : Int32)) hI o_v0 (by decide) (nu_free (by decide))
                    refine u_X4_next_240 ?_
                    refine ⟨fun c1632 => ?_, fun c1632 => ?_⟩
                    · exact hq _ hI g0 hT
                    · refine ⟨o_v0, ?_⟩
                      intro x1633 ex1633
                      refine ⟨fun c1634 => ?_, fun c1634 => ?_⟩
                      · exact hq _ hI g0 hT
                      · intro x1635 ex1635
                        have r_x1635 : (0 : Int32) ≤ x1635 ∧ x1635 ≤ (900 : Int32) := by rw [ex1635]; exact nu 7 rfl hI o_v0
                        intro x1636 ex1636
                        have hI := iv_sI (j := 4) (v := x1636) hI o_v0 (by decide) (nu_one (lo := (0 : Int32)) (hi := (900 : Int32)) (by decide) (q86 c1597 c1618 c1632 r_x1635 ex1636))
                        exact hq _ hI g0 hT
              · refine ⟨o_v0, ?_⟩
                intro x1637 ex1637
                have r_x1637 : (0 : Int32) ≤ x1637 ∧ x1637 ≤ (900 : Int32) := by rw [ex1637]; exact nu 7 rfl hI o_v0
                refine m_X4_sortAt hI o_v0 hT (fun x1638 S1639 hI2 g1640 p_x1638 => ?_)
                subst p_x1638
                intro _
                intro x1641 ex1641
                refine ⟨fun c1642 => ?_, fun c1642 => ?_⟩
                · refine u_X4_next_217 ?_
                  refine ⟨fun c1643 => ?_, fun c1643 => ?_⟩
                  · refine u_X4_next_240 ?_
                    refine ⟨fun c1644 => ?_, fun c1644 => ?_⟩
                    · exact hq _ hI g0 hT
                    · refine ⟨o_v0, ?_⟩
                      intro x1645 ex1645
                      refine ⟨fun c1646 => ?_, fun c1646 => ?_⟩
                      · exact hq _ hI g0 hT
                      · intro x1647 ex1647
                        have r_x1647 : (0 : Int32) ≤ x1647 ∧ x1647 ≤ (900 : Int32) := by rw [ex1647]; exact nu 7 rfl hI o_v0
                        intro x1648 ex1648
                        have hI := iv_sI (j := 4) (v := x1648) hI o_v0 (by decide) (nu_one (lo := (0 : Int32)) (hi := (900 : Int32)) (by decide) (q85 c1597 c1643 c1644 r_x1647 ex1648))
                        exact hq _ hI g0 hT
                  · refine ⟨o_v0, ?_⟩
                    intro x1649 ex1649
                    have r_x1649 : (0 : Int32) ≤ x1649 ∧ x1649 ≤ (900 : Int32) := by rw [ex1649]; exact nu 7 rfl hI o_v0
                    intro x1650 ex1650
                    refine ⟨fun c1651 => ?_, fun c1651 => ?_⟩
                    · refine u_X4_next_240 ?_
                      refine ⟨fun c1652 => ?_, fun c1652 => ?_⟩
                      · exact hq _ hI g0 hT
                      · refine ⟨o_v0, ?_⟩
                        intro x1653 ex1653
                        refine ⟨fun c1654 => ?_, fun c1654 => ?_⟩
                        · exact hq _ hI g0 hT
                        · intro x1655 ex1655
                          have r_x1655 : (0 : Int32) ≤ x1655 ∧ x1655 ≤ (900 : Int32) := by rw [ex1655]; exact nu 7 rfl hI o_v0
                          intro x1656 ex1656
                          have hI := iv_sI (j := 4) (v := x1656) hI o_v0 (by decide) (nu_one (lo := (0 : Int32)) (hi := (900 : Int32)) (by decide) (q86 c1597 c1643 c1652 r_x1655 ex1656))
                          exact hq _ hI g0 hT
                    · have hI := iv_sI (j := 6) (v := (6 : Int32)) hI o_v0 (by decide) (nu_free (by decide))
                      refine u_X4_next_240 ?_
                      refine ⟨fun c1657 => ?_, fun c1657 => ?_⟩
                      · exact hq _ hI g0 hT
                      · refine ⟨o_v0, ?_⟩
                        intro x1658 ex1658
                        refine ⟨fun c1659 => ?_, fun c1659 => ?_⟩
                        · exact hq _ hI g0 hT
                        · intro x1660 ex1660
                          have r_x1660 : (0 : Int32) ≤ x1660 ∧ x1660 ≤ (900 : Int32) := by rw [ex1660]; exact nu 7 rfl hI o_v0
                          intro x1661 ex1661
                          have hI := iv_sI (j := 4) (v := x1661) hI o_v0 (by decide) (nu_one (lo := (0 : Int32)) (hi := (900 : Int32)) (by decide) (q86 c1597 c1643 c1657 r_x1660 ex1661))
                          exact hq _ hI g0 hT
                · refine ⟨fun c1662 => ?_, fun c1662 => ?_⟩
                  · refine u_X4_next_201 ?_
                    refine ⟨o_v0, ?_⟩
                    intro x1663 ex1663
                    have r_x1663 : (0 : Int32) ≤ x1663 ∧ x1663 ≤ (900 : Int32) := by rw [ex1663]; exact nu 7 rfl hI o_v0
                    intro x1664 ex1664
                    have hI := iv_sI (j := 4) (v := x1664) hI o_v0 (by decide) (nu_one (lo := (0 : Int32)) (hi := (900 : Int32)) (by decide) (q87 c1597 r_x1663 ex1664))
                    intro x1665 ex1665
                    exact ih1596 _ _ _ _ _ _ ⟨hI, gL1585, rfl, rfl, rfl, rfl, hT, (q95 i1 c1597 c1617 c1662 ex1665)⟩ (mu_up (q96 i1 c1597 c1617 c1662 ex1665) (q97 i1 c1597 c1617 c1662 ex1665))
                  · intro x1666 ex1666
                    have r_x1666 : (0 : Int32) ≤ x1666 ∧ x1666 ≤ (900 : Int32) := by rw [ex1666]; exact nu 7 rfl hI o_v0
                    obtain ⟨a1667, ea1667, o_a1667, l_a1667⟩ := hT
                    refine ⟨a1667, ea1667, ?_⟩
                    refine ⟨o_a1667, ?_⟩
                    have n_a1667 : nI (hN S1584 a1667) = 900 := by rw [show hN S1584 a1667 = 900 from l_a1667]; decide
                    refine ⟨fun c1668 => ?_, fun c1668 => ?_⟩
                    · rw [n_a1667] at c1668
                      refine u_X4_next_201 ?_
                      refine ⟨o_v0, ?_⟩
                      intro x1669 ex1669
                      have r_x1669 : (0 : Int32) ≤ x1669 ∧ x1669 ≤ (900 : Int32) := by rw [ex1669]; exact nu 7 rfl hI o_v0
                      intro x1670 ex1670
                      have hI := iv_sI (j := 4) (v := x1670) hI o_v0 (by decide) (nu_one (lo := (0 : Int32)) (hi := (900 : Int32)) (by decide) (q87 c1597 r_x1669 ex1670))
                      intro x1671 ex1671
                      exact ih1596 _ _ _ _ _ _ ⟨hI, gL1585, rfl, rfl, rfl, rfl, hT, (q98 i1 c1597 c1617 c1662 ex1671)⟩ (mu_up (q99 i1 c1597 c1617 c1662 ex1671) (q100 i1 c1597 c1617 c1662 ex1671))
                    · rw [n_a1667] at c1668
                      intro x1672 ex1672
                      obtain ⟨a1673, ea1673, o_a1673, l_a1673⟩ := hT
                      refine ⟨a1673, ea1673, ?_⟩
                      intro x1674 ex1674
                      have r_x1674 : (0 : Int32) ≤ x1674 ∧ x1674 ≤ (900 : Int32) := by rw [ex1674]; exact nu 7 rfl hI o_v0
                      refine ⟨o_a1673, ?_⟩
                      refine ⟨(vin l_a1673 (m := 900) (by decide) (q94 c1597 r_x1674)), ?_⟩
                      intro x1675 ex1675
                      intro x1676 ex1676
                      refine ⟨fun c1677 => ?_, fun c1677 => ?_⟩
                      · refine u_X4_next_195 ?_
                        refine ⟨o_v0, ?_⟩
                        intro x1678 ex1678
                        have hI := iv_sJ (j := 8) (v := x1678) hI o_v0 (by decide)
                        refine u_X4_next_201 ?_
                        refine ⟨o_v0, ?_⟩
                        intro x1679 ex1679
                        have r_x1679 : (0 : Int32) ≤ x1679 ∧ x1679 ≤ (900 : Int32) := by rw [ex1679]; exact nu 7 rfl hI o_v0
                        intro x1680 ex1680
                        have hI := iv_sI (j := 4) (v := x1680) hI o_v0 (by decide) (nu_one (lo := (0 : Int32)) (hi := (900 : Int32)) (by decide) (q87 c1597 r_x1679 ex1680))
                        intro x1681 ex1681
                        exact ih1596 _ _ _ _ _ _ ⟨hI, gL1585, rfl, rfl, rfl, rfl, hT, (q98 i1 c1597 c1617 c1662 ex1681)⟩ (mu_up (q99 i1 c1597 c1617 c1662 ex1681) (q100 i1 c1597 c1617 c1662 ex1681))
                      · refine u_X4_next_195 ?_
                        refine ⟨o_v0, ?_⟩
                        intro x1682 ex1682
                        have hI := iv_sJ (j := 8) (v := x1682) hI o_v0 (by decide)
                        refine u_X4_next_201 ?_
                        refine ⟨o_v0, ?_⟩
                        intro x1683 ex1683
                        have r_x1683 : (0 : Int32) ≤ x1683 ∧ x1683 ≤ (900 : Int32) := by rw [ex1683]; exact nu 7 rfl hI o_v0
                        intro x1684 ex1684
                        have hI := iv_sI (j := 4) (v := x1684) hI o_v0 (by decide) (nu_one (lo := (0 : Int32)) (hi := (900 : Int32)) (by decide) (q87 c1597 r_x1683 ex1684))
                        intro x1685 ex1685
                        exact ih1596 _ _ _ _ _ _ ⟨hI, gL1585, rfl, rfl, rfl, rfl, hT, (q98 i1 c1597 c1617 c1662 ex1685)⟩ (mu_up (q99 i1 c1597 c1617 c1662 ex1685) (q100 i1 c1597 c1617 c1662 ex1685))
      · intro x1686 ex1686
        refine ⟨fun c1687 => ?_, fun c1687 => ?_⟩
        · refine u_X4_next_83 ?_
          refine ⟨o_v0, ?_⟩
          intro x1688 ex1688
          refine ⟨fun c1689 => ?_, fun c1689 => ?_⟩
          · refine u_X4_next_98 ?_
            refine ⟨o_v0, ?_⟩
            intro x1690 ex1690
            refine ⟨fun c1691 => ?_, fun c1691 => ?_⟩
            · refine u_X4_next_114 ?_
              refine i_X4_next_118 (fun (y0 : Nat) (y1 : Int32) (y2 : Int32) (y3 : Int32) (y4 : Int32) (Z : HS) => ((2147483647 : Int32).toInt - y4.toInt).toNat) (fun (y0 : Nat) (y1 : Int32) (y2 : Int32) (y3 : Int32) (y4 : Int32) (Z : HS) => (IV Z) ∧ (Gr (sJ (sI (sI S1 v0 7 x1265) v0 6 x1267) v0 8 (0 : Int64)) Z) ∧ (v0 = y0) ∧ ((0 : Int32) = y1) ∧ ((3 : Int32) = y2) ∧ ((10 : Int32) = y3) ∧ (TX Z v0) ∧ (0 ≤ y4)) ?_ _ _ _ _ _ _ ⟨hI, (gr_rf _), rfl, rfl, rfl, rfl, hT, (q43)⟩
              intro w1694 w1696 w1698 w1700 w1702 S1692 X1703 ⟨hI, gL1693, q1695, q1697, q1699, q1701, hT, i1⟩ ih1704
              subst q1695
              subst q1697
              subst q1699
              subst q1701
              have o_v0 := gr_ob gL1693 o_v0
              have g0 := gr_tr g0 gL1693
              have gL2 := gr_tr gL2 gL1693
              refine u_X4_next_118 ?_
              refine ⟨fun c1705 => ?_, fun c1705 => ?_⟩
              · refine u_X4_next_217 ?_
                refine ⟨fun c1706 => ?_, fun c1706 => ?_⟩
                · refine u_X4_next_240 ?_
                  refine ⟨fun c1707 => ?_, fun c1707 => ?_⟩
                  · exact hq _ hI g0 hT
                  · refine ⟨o_v0, ?_⟩
                    intro x1708 ex1708
                    refine ⟨fun c1709 => ?_, fun c1709 => ?_⟩
                    · exact hq _ hI g0 hT
                    · intro x1710 ex1710
                      have r_x1710 : (0 : Int32) ≤ x1710 ∧ x1710 ≤ (900 : Int32) := by rw [ex1710]; exact nu 7 rfl hI o_v0
                      intro x1711 ex1711
                      have hI := iv_sI (j := 4) (v := x1711) hI o_v0 (by decide) (nu_one (lo := (0 : Int32)) (hi := (900 : Int32)) (by decide) (q101 c1705 c1706 c1707 r_x1710 ex1711))
                      exact hq _ hI g0 hT
                · refine ⟨o_v0, ?_⟩
                  intro x1712 ex1712
                  have r_x1712 : (0 : Int32) ≤ x1712 ∧ x1712 ≤ (900 : Int32) := by rw [ex1712]; exact nu 7 rfl hI o_v0
                  intro x1713 ex1713
                  refine ⟨fun c1714 => ?_, fun c1714 => ?_⟩
                  · refine u_X4_next_240 ?_
                    refine ⟨fun c1715 => ?_, fun c1715 => ?_⟩
                    · exact hq _ hI g0 hT
                    · refine ⟨o_v0, ?_⟩
                      intro x1716 ex1716
                      refine ⟨fun c1717 => ?_, fun c1717 => ?_⟩
                      · exact hq _ hI g0 hT
                      · intro x1718 ex1718
                        have r_x1718 : (0 : Int32) ≤ x1718 ∧ x1718 ≤ (900 : Int32) := by rw [ex1718]; exact nu 7 rfl hI o_v0
                        intro x1719 ex1719
                        have hI := iv_sI (j := 4) (v := x1719) hI o_v0 (by decide) (nu_one (lo := (0 : Int32)) (hi := (900 : Int32)) (by decide) (q102 c1705 c1706 c1715 r_x1718 ex1719))
                        exact hq _ hI g0 hT
                  · have hI := iv_sI (j := 6) (v := (6 : Int32)) hI o_v0 (by decide) (nu_free (by decide))
                    refine u_X4_next_240 ?_
                    refine ⟨fun c1720 => ?_, fun c1720 => ?_⟩
                    · exact hq _ hI g0 hT
                    · refine ⟨o_v0, ?_⟩
                      intro x1721 ex1721
                      refine ⟨fun c1722 => ?_, fun c1722 => ?_⟩
                      · exact hq _ hI g0 hT
                      · intro x1723 ex1723
                        have r_x1723 : (0 : Int32) ≤ x1723 ∧ x1723 ≤ (900 : Int32) := by rw [ex1723]; exact nu 7 rfl hI o_v0
                        intro x1724 ex1724
                        have hI := iv_sI (j := 4) (v := x1724) hI o_v0 (by decide) (nu_one (lo := (0 : Int32)) (hi := (900 : Int32)) (by decide) (q102 c1705 c1706 c1720 r_x1723 ex1724))
                        exact hq _ hI g0 hT
              · refine ⟨fun c1725 => ?_, fun c1725 => ?_⟩
                · refine u_X4_next_217 ?_
                  refine ⟨fun c1726 => ?_, fun c1726 => ?_⟩
                  · refine u_X4_next_240 ?_
                    refine ⟨fun c1727 => ?_, fun c1727 => ?_⟩
                    · exact hq _ hI g0 hT
                    · refine ⟨o_v0, ?_⟩
                      intro x1728 ex1728
                      refine ⟨fun c1729 => ?_, fun c1729 => ?_⟩
                      · exact hq _ hI g0 hT
                      · intro x1730 ex1730
                        have r_x1730 : (0 : Int32) ≤ x1730 ∧ x1730 ≤ (900 : Int32) := by rw [ex1730]; exact nu 7 rfl hI o_v0
                        intro x1731 ex1731
                        have hI := iv_sI (j := 4) (v := x1731) hI o_v0 (by decide) (nu_one (lo := (0 : Int32)) (hi := (900 : Int32)) (by decide) (q103 c1705 c1726 c1727 r_x1730 ex1731))
                        exact hq _ hI g0 hT
                  · refine ⟨o_v0, ?_⟩
                    intro x1732 ex1732
                    have r_x1732 : (0 : Int32) ≤ x1732 ∧ x1732 ≤ (900 : Int32) := by rw [ex1732]; exact nu 7 rfl hI o_v0
                    intro x1733 ex1733
                    refine ⟨fun c1734 => ?_, fun c1734 => ?_⟩
                    · refine u_X4_next_240 ?_
                      refine ⟨fun c1735 => ?_, fun c1735 => ?_⟩
                      · exact hq _ hI g0 hT
                      · refine ⟨o_v0, ?_⟩
                        intro x1736 ex1736
                        refine ⟨fun c1737 => ?_, fun c1737 => ?_⟩
                        · exact hq _ hI g0 hT
                        · intro x1738 ex1738
                          have r_x1738 : (0 : Int32) ≤ x1738 ∧ x1738 ≤ (900 : Int32) := by rw [ex1738]; exact nu 7 rfl hI o_v0
                          intro x1739 ex1739
                          have hI := iv_sI (j := 4) (v := x1739) hI o_v0 (by decide) (nu_one (lo := (0 : Int32)) (hi := (900 : Int32)) (by decide) (q104 c1705 c1726 c1735 r_x1738 ex1739))
                          exact hq _ hI g0 hT
                    · have hI := iv_sI (j := 6) (v := (6 : Int32)) hI o_v0 (by decide) (nu_free (by decide))
                      refine u_X4_next_240 ?_
                      refine ⟨fun c1740 => ?_, fun c1740 => ?_⟩
                      · exact hq _ hI g0 hT
                      · refine ⟨o_v0, ?_⟩
                        intro x1741 ex1741
                        refine ⟨fun c1742 => ?_, fun c1742 => ?_⟩
                        · exact hq _ hI g0 hT
                        · intro x1743 ex1743
                          have r_x1743 : (0 : Int32) ≤ x1743 ∧ x1743 ≤ (900 : Int32) := by rw [ex1743]; exact nu 7 rfl hI o_v0
                          intro x1744 ex1744
                          have hI := iv_sI (j := 4) (v := x1744) hI o_v0 (by decide) (nu_one (lo := (0 : Int32)) (hi := (900 : Int32)) (by decide) (q104 c1705 c1726 c1740 r_x1743 ex1744))
                          exact hq _ hI g0 hT
                · refine ⟨o_v0, ?_⟩
                  intro x1745 ex1745
                  have r_x1745 : (0 : Int32) ≤ x1745 ∧ x1745 ≤ (900 : Int32) := by rw [ex1745]; exact nu 7 rfl hI o_v0
                  refine m_X4_sortAt hI o_v0 hT (fun x1746 S1747 hI2 g1748 p_x1746 => ?_)
                  subst p_x1746
                  intro _
                  intro x1749 ex1749
                  refine ⟨fun c1750 => ?_, fun c1750 => ?_⟩
                  · refine u_X4_next_217 ?_
                    refine ⟨fun c1751 => ?_, fun c1751 => ?_⟩
                    · refine u_X4_next_240 ?_
                      refine ⟨fun c1752 => ?_, fun c1752 => ?_⟩
                      · exact hq _ hI g0 hT
                      · refine ⟨o_v0, ?_⟩
                        intro x1753 ex1753
                        refine ⟨fun c1754 => ?_, fun c1754 => ?_⟩
                        · exact hq _ hI g0 hT
                        · intro x1755 ex1755
                          have r_x1755 : (0 : Int32) ≤ x1755 ∧ x1755 ≤ (900 : Int32) := by rw [ex1755]; exact nu 7 rfl hI o_v0
                          intro x1756 ex1756
                          have hI := iv_sI (j := 4) (v := x1756) hI o_v0 (by decide) (nu_one (lo := (0 : Int32)) (hi := (900 : Int32)) (by decide) (q103 c1705 c1751 c1752 r_x1755 ex1756))
                          exact hq _ hI g0 hT
                    · refine ⟨o_v0, ?_⟩
                      intro x1757 ex1757
                      have r_x1757 : (0 : Int32) ≤ x1757 ∧ x1757 ≤ (900 : Int32) := by rw [ex1757]; exact nu 7 rfl hI o_v0
                      intro x1758 ex1758
                      refine ⟨fun c1759 => ?_, fun c1759 => ?_⟩
                      · refine u_X4_next_240 ?_
                        refine ⟨fun c1760 => ?_, fun c1760 => ?_⟩
                        · exact hq _ hI g0 hT
                        · refine ⟨o_v0, ?_⟩
                          intro x1761 ex1761
                          refine ⟨fun c1762 => ?_, fun c1762 => ?_⟩
                          · exact hq _ hI g0 hT
                          · intro x1763 ex1763
                            have r_x1763 : (0 : Int32) ≤ x1763 ∧ x1763 ≤ (900 : Int32) := by rw [ex1763]; exact nu 7 rfl hI o_v0
                            intro x1764 ex1764
                            have hI := iv_sI (j := 4) (v := x1764) hI o_v0 (by decide) (nu_one (lo := (0 : Int32)) (hi := (900 : Int32)) (by decide) (q104 c1705 c1751 c1760 r_x1763 ex1764))
                            exact hq _ hI g0 hT
                      · have hI := iv_sI (j := 6) (v := (6 : Int32)) hI o_v0 (by decide) (nu_free (by decide))
                        refine u_X4_next_240 ?_
                        refine ⟨fun c1765 => ?_, fun c1765 => ?_⟩
                        · exact hq _ hI g0 hT
                        · refine ⟨o_v0, ?_⟩
                          intro x1766 ex1766
                          refine ⟨fun c1767 => ?_, fun c1767 => ?_⟩
                          · exact hq _ hI g0 hT
                          · intro x1768 ex1768
                            have r_x1768 : (0 : Int32) ≤ x1768 ∧ x1768 ≤ (900 : Int32) := by rw [ex1768]; exact nu 7 rfl hI o_v0
                            intro x1769 ex1769
                            have hI := iv_sI (j := 4) (v := x1769) hI o_v0 (by decide) (nu_one (lo := (0 : Int32)) (hi := (900 : Int32)) (by decide) (q104 c1705 c1751 c1765 r_x1768 ex1769))
                            exact hq _ hI g0 hT
                  · refine ⟨fun c1770 => ?_, fun c1770 => ?_⟩
                    · refine u_X4_next_201 ?_
                      refine ⟨o_v0, ?_⟩
                      intro x1771 ex1771
                      have r_x1771 : (0 : Int32) ≤ x1771 ∧ x1771 ≤ (900 : Int32) := by rw [ex1771]; exact nu 7 rfl hI o_v0
                      intro x1772 ex1772
                      have hI := iv_sI (j := 4) (v := x1772) hI o_v0 (by decide) (nu_one (lo := (0 : Int32)) (hi := (900 : Int32)) (by decide) (q105 c1705 r_x1771 ex1772))
                      intro x1773 ex1773
                      exact ih1704 _ _ _ _ _ _ ⟨hI, gL1693, rfl, rfl, rfl, rfl, hT, (q106 i1 c1705 c1725 c1770 ex1773)⟩ (mu_up (q107 i1 c1705 c1725 c1770 ex1773) (q108 i1 c1705 c1725 c1770 ex1773))
                    · intro x1774 ex1774
                      have r_x1774 : (0 : Int32) ≤ x1774 ∧ x1774 ≤ (900 : Int32) := by rw [ex1774]; exact nu 7 rfl hI o_v0
                      obtain ⟨a1775, ea1775, o_a1775, l_a1775⟩ := hT
                      refine ⟨a1775, ea1775, ?_⟩
                      refine ⟨o_a1775, ?_⟩
                      have n_a1775 : nI (hN S1692 a1775) = 900 := by rw [show hN S1692 a1775 = 900 from l_a1775]; decide
                      refine ⟨fun c1776 => ?_, fun c1776 => ?_⟩
                      · rw [n_a1775] at c1776
                        refine u_X4_next_201 ?_
                        refine ⟨o_v0, ?_⟩
                        intro x1777 ex1777
                        have r_x1777 : (0 : Int32) ≤ x1777 ∧ x1777 ≤ (900 : Int32) := by rw [ex1777]; exact nu 7 rfl hI o_v0
                        intro x1778 ex1778
                        have hI := iv_sI (j := 4) (v := x1778) hI o_v0 (by decide) (nu_one (lo := (0 : Int32)) (hi := (900 : Int32)) (by decide) (q105 c1705 r_x1777 ex1778))
                        intro x1779 ex1779
                        exact ih1704 _ _ _ _ _ _ ⟨hI, gL1693, rfl, rfl, rfl, rfl, hT, (q109 i1 c1705 c1725 c1770 ex1779)⟩ (mu_up (q110 i1 c1705 c1725 c1770 ex1779) (q111 i1 c1705 c1725 c1770 ex1779))
                      · rw [n_a1775] at c1776
                        intro x1780 ex1780
                        obtain ⟨a1781, ea1781, o_a1781, l_a1781⟩ := hT
                        refine ⟨a1781, ea1781, ?_⟩
                        intro x1782 ex1782
                        have r_x1782 : (0 : Int32) ≤ x1782 ∧ x1782 ≤ (900 : Int32) := by rw [ex1782]; exact nu 7 rfl hI o_v0
                        refine ⟨o_a1781, ?_⟩
                        refine ⟨(vin l_a1781 (m := 900) (by decide) (q112 c1705 r_x1782)), ?_⟩
                        intro x1783 ex1783
                        intro x1784 ex1784
                        refine ⟨fun c1785 => ?_, fun c1785 => ?_⟩
                        · refine u_X4_next_195 ?_
                          refine ⟨o_v0, ?_⟩
                          intro x1786 ex1786
                          have hI := iv_sJ (j := 8) (v := x1786) hI o_v0 (by decide)
                          refine u_X4_next_201 ?_
                          refine ⟨o_v0, ?_⟩
                          intro x1787 ex1787
                          have r_x1787 : (0 : Int32) ≤ x1787 ∧ x1787 ≤ (900 : Int32) := by rw [ex1787]; exact nu 7 rfl hI o_v0
                          intro x1788 ex1788
                          have hI := iv_sI (j := 4) (v := x1788) hI o_v0 (by decide) (nu_one (lo := (0 : Int32)) (hi := (900 : Int32)) (by decide) (q105 c1705 r_x1787 ex1788))
                          intro x1789 ex1789
                          exact ih1704 _ _ _ _ _ _ ⟨hI, gL1693, rfl, rfl, rfl, rfl, hT, (q109 i1 c1705 c1725 c1770 ex1789)⟩ (mu_up (q110 i1 c1705 c1725 c1770 ex1789) (q111 i1 c1705 c1725 c1770 ex1789))
                        · refine u_X4_next_195 ?_
                          refine ⟨o_v0, ?_⟩
                          intro x1790 ex1790
                          have hI := iv_sJ (j := 8) (v := x1790) hI o_v0 (by decide)
                          refine u_X4_next_201 ?_
                          refine ⟨o_v0, ?_⟩
                          intro x1791 ex1791
                          have r_x1791 : (0 : Int32) ≤ x1791 ∧ x1791 ≤ (900 : Int32) := by rw [ex1791]; exact nu 7 rfl hI o_v0
                          intro x1792 ex1792
                          have hI := iv_sI (j := 4) (v := x1792) hI o_v0 (by decide) (nu_one (lo := (0 : Int32)) (hi := (900 : Int32)) (by decide) (q105 c1705 r_x1791 ex1792))
                          intro x1793 ex1793
                          exact ih1704 _ _ _ _ _ _ ⟨hI, gL1693, rfl, rfl, rfl, rfl, hT, (q109 i1 c1705 c1725 c1770 ex1793)⟩ (mu_up (q110 i1 c1705 c1725 c1770 ex1793) (q111 i1 c1705 c1725 c1770 ex1793))
            · refine u_X4_next_114 ?_
              refine i_X4_next_118 (fun (y0 : Nat) (y1 : Int32) (y2 : Int32) (y3 : Int32) (y4 : Int32) (Z : HS) => ((2147483647 : Int32).toInt - y4.toInt).toNat) (fun (y0 : Nat) (y1 : Int32) (y2 : Int32) (y3 : Int32) (y4 : Int32) (Z : HS) => (IV Z) ∧ (Gr (sJ (sI (sI S1 v0 7 x1265) v0 6 x1267) v0 8 (0 : Int64)) Z) ∧ (v0 = y0) ∧ ((0 : Int32) = y1) ∧ ((3 : Int32) = y2) ∧ ((32 : Int32) = y3) ∧ (TX Z v0) ∧ (0 ≤ y4)) ?_ _ _ _ _ _ _ ⟨hI, (gr_rf _), rfl, rfl, rfl, rfl, hT, (q43)⟩
              intro w1796 w1798 w1800 w1802 w1804 S1794 X1805 ⟨hI, gL1795, q1797, q1799, q1801, q1803, hT, i1⟩ ih1806
              subst q1797
              subst q1799
              subst q1801
              subst q1803
              have o_v0 := gr_ob gL1795 o_v0
              have g0 := gr_tr g0 gL1795
              have gL2 := gr_tr gL2 gL1795
              refine u_X4_next_118 ?_
              refine ⟨fun c1807 => ?_, fun c1807 => ?_⟩
              · refine u_X4_next_217 ?_
                refine ⟨fun c1808 => ?_, fun c1808 => ?_⟩
                · refine u_X4_next_240 ?_
                  refine ⟨fun c1809 => ?_, fun c1809 => ?_⟩
                  · exact hq _ hI g0 hT
                  · refine ⟨o_v0, ?_⟩
                    intro x1810 ex1810
                    refine ⟨fun c1811 => ?_, fun c1811 => ?_⟩
                    · exact hq _ hI g0 hT
                    · intro x1812 ex1812
                      have r_x1812 : (0 : Int32) ≤ x1812 ∧ x1812 ≤ (900 : Int32) := by rw [ex1812]; exact nu 7 rfl hI o_v0
                      intro x1813 ex1813
                      have hI := iv_sI (j := 4) (v := x1813) hI o_v0 (by decide) (nu_one (lo := (0 : Int32)) (hi := (900 : Int32)) (by decide) (q101 c1807 c1808 c1809 r_x1812 ex1813))
                      exact hq _ hI g0 hT
                · refine ⟨o_v0, ?_⟩
                  intro x1814 ex1814
                  have r_x1814 : (0 : Int32) ≤ x1814 ∧ x1814 ≤ (900 : Int32) := by rw [ex1814]; exact nu 7 rfl hI o_v0
                  intro x1815 ex1815
                  refine ⟨fun c1816 => ?_, fun c1816 => ?_⟩
                  · refine u_X4_next_240 ?_
                    refine ⟨fun c1817 => ?_, fun c1817 => ?_⟩
                    · exact hq _ hI g0 hT
                    · refine ⟨o_v0, ?_⟩
                      intro x1818 ex1818
                      refine ⟨fun c1819 => ?_, fun c1819 => ?_⟩
                      · exact hq _ hI g0 hT
                      · intro x1820 ex1820
                        have r_x1820 : (0 : Int32) ≤ x1820 ∧ x1820 ≤ (900 : Int32) := by rw [ex1820]; exact nu 7 rfl hI o_v0
                        intro x1821 ex1821
                        have hI := iv_sI (j := 4) (v := x1821) hI o_v0 (by decide) (nu_one (lo := (0 : Int32)) (hi := (900 : Int32)) (by decide) (q102 c1807 c1808 c1817 r_x1820 ex1821))
                        exact hq _ hI g0 hT
                  · have hI := iv_sI (j := 6) (v := (6 : Int32)) hI o_v0 (by decide) (nu_free (by decide))
                    refine u_X4_next_240 ?_
                    refine ⟨fun c1822 => ?_, fun c1822 => ?_⟩
                    · exact hq _ hI g0 hT
                    · refine ⟨o_v0, ?_⟩
                      intro x1823 ex1823
                      refine ⟨fun c1824 => ?_, fun c1824 => ?_⟩
                      · exact hq _ hI g0 hT
                      · intro x1825 ex1825
                        have r_x1825 : (0 : Int32) ≤ x1825 ∧ x1825 ≤ (900 : Int32) := by rw [ex1825]; exact nu 7 rfl hI o_v0
                        intro x1826 ex1826
                        have hI := iv_sI (j := 4) (v := x1826) hI o_v0 (by decide) (nu_one (lo := (0 : Int32)) (hi := (900 : Int32)) (by decide) (q102 c1807 c1808 c1822 r_x1825 ex1826))
                        exact hq _ hI g0 hT
              · refine ⟨fun c1827 => ?_, fun c1827 => ?_⟩
                · refine u_X4_next_217 ?_
                  refine ⟨fun c1828 => ?_, fun c1828 => ?_⟩
                  · refine u_X4_next_240 ?_
                    refine ⟨fun c1829 => ?_, fun c1829 => ?_⟩
                    · exact hq _ hI g0 hT
                    · refine ⟨o_v0, ?_⟩
                      intro x1830 ex1830
                      refine ⟨fun c1831 => ?_, fun c1831 => ?_⟩
                      · exact hq _ hI g0 hT
                      · intro x1832 ex1832
                        have r_x1832 : (0 : Int32) ≤ x1832 ∧ x1832 ≤ (900 : Int32) := by rw [ex1832]; exact nu 7 rfl hI o_v0
                        intro x1833 ex1833
                        have hI := iv_sI (j := 4) (v := x1833) hI o_v0 (by decide) (nu_one (lo := (0 : Int32)) (hi := (900 : Int32)) (by decide) (q103 c1807 c1828 c1829 r_x1832 ex1833))
                        exact hq _ hI g0 hT
                  · refine ⟨o_v0, ?_⟩
                    intro x1834 ex1834
                    have r_x1834 : (0 : Int32) ≤ x1834 ∧ x1834 ≤ (900 : Int32) := by rw [ex1834]; exact nu 7 rfl hI o_v0
                    intro x1835 ex1835
                    refine ⟨fun c1836 => ?_, fun c1836 => ?_⟩
                    · refine u_X4_next_240 ?_
                      refine ⟨fun c1837 => ?_, fun c1837 => ?_⟩
                      · exact hq _ hI g0 hT
                      · refine ⟨o_v0, ?_⟩
                        intro x1838 ex1838
                        refine ⟨fun c1839 => ?_, fun c1839 => ?_⟩
                        · exact hq _ hI g0 hT
                        · intro x1840 ex1840
                          have r_x1840 : (0 : Int32) ≤ x1840 ∧ x1840 ≤ (900 : Int32) := by rw [ex1840]; exact nu 7 rfl hI o_v0
                          intro x1841 ex1841
                          have hI := iv_sI (j := 4) (v := x1841) hI o_v0 (by decide) (nu_one (lo := (0 : Int32)) (hi := (900 : Int32)) (by decide) (q104 c1807 c1828 c1837 r_x1840 ex1841))
                          exact hq _ hI g0 hT
                    · have hI := iv_sI (j := 6) (v := (6 : Int32)) hI o_v0 (by decide) (nu_free (by decide))
                      refine u_X4_next_240 ?_
                      refine ⟨fun c1842 => ?_, fun c1842 => ?_⟩
                      · exact hq _ hI g0 hT
                      · refine ⟨o_v0, ?_⟩
                        intro x1843 ex1843
                        refine ⟨fun c1844 => ?_, fun c1844 => ?_⟩
                        · exact hq _ hI g0 hT
                        · intro x1845 ex1845
                          have r_x1845 : (0 : Int32) ≤ x1845 ∧ x1845 ≤ (900 : Int32) := by rw [ex1845]; exact nu 7 rfl hI o_v0
                          intro x1846 ex1846
                          have hI := iv_sI (j := 4) (v := x1846) hI o_v0 (by decide) (nu_one (lo := (0 : Int32)) (hi := (900 : Int32)) (by decide) (q104 c1807 c1828 c1842 r_x1845 ex1846))
                          exact hq _ hI g0 hT
                · refine ⟨o_v0, ?_⟩
                  intro x1847 ex1847
                  have r_x1847 : (0 : Int32) ≤ x1847 ∧ x1847 ≤ (900 : Int32) := by rw [ex1847]; exact nu 7 rfl hI o_v0
                  refine m_X4_sortAt hI o_v0 hT (fun x1848 S1849 hI2 g1850 p_x1848 => ?_)
                  subst p_x1848
                  intro _
                  intro x1851 ex1851
                  refine ⟨fun c1852 => ?_, fun c1852 => ?_⟩
                  · refine u_X4_next_217 ?_
                    refine ⟨fun c1853 => ?_, fun c1853 => ?_⟩
                    · refine u_X4_next_240 ?_
                      refine ⟨fun c1854 => ?_, fun c1854 => ?_⟩
                      · exact hq _ hI g0 hT
                      · refine ⟨o_v0, ?_⟩
                        intro x1855 ex1855
                        refine ⟨fun c1856 => ?_, fun c1856 => ?_⟩
                        · exact hq _ hI g0 hT
                        · intro x1857 ex1857
                          have r_x1857 : (0 : Int32) ≤ x1857 ∧ x1857 ≤ (900 : Int32) := by rw [ex1857]; exact nu 7 rfl hI o_v0
                          intro x1858 ex1858
                          have hI := iv_sI (j := 4) (v := x1858) hI o_v0 (by decide) (nu_one (lo := (0 : Int32)) (hi := (900 : Int32)) (by decide) (q103 c1807 c1853 c1854 r_x1857 ex1858))
                          exact hq _ hI g0 hT
                    · refine ⟨o_v0, ?_⟩
                      intro x1859 ex1859
                      have r_x1859 : (0 : Int32) ≤ x1859 ∧ x1859 ≤ (900 : Int32) := by rw [ex1859]; exact nu 7 rfl hI o_v0
                      intro x1860 ex1860
                      refine ⟨fun c1861 => ?_, fun c1861 => ?_⟩
                      · refine u_X4_next_240 ?_
                        refine ⟨fun c1862 => ?_, fun c1862 => ?_⟩
                        · exact hq _ hI g0 hT
                        · refine ⟨o_v0, ?_⟩
                          intro x1863 ex1863
                          refine ⟨fun c1864 => ?_, fun c1864 => ?_⟩
                          · exact hq _ hI g0 hT
                          · intro x1865 ex1865
                            have r_x1865 : (0 : Int32) ≤ x1865 ∧ x1865 ≤ (900 : Int32) := by rw [ex1865]; exact nu 7 rfl hI o_v0
                            intro x1866 ex1866
                            have hI := iv_sI (j := 4) (v := x1866) hI o_v0 (by decide) (nu_one (lo := (0 : Int32)) (hi := (900 : Int32)) (by decide) (q104 c1807 c1853 c1862 r_x1865 ex1866))
                            exact hq _ hI g0 hT
                      · have hI := iv_sI (j := 6) (v := (6 : Int32)) hI o_v0 (by decide) (nu_free (by decide))
                        refine u_X4_next_240 ?_
                        refine ⟨fun c1867 => ?_, fun c1867 => ?_⟩
                        · exact hq _ hI g0 hT
                        · refine ⟨o_v0, ?_⟩
                          intro x1868 ex1868
                          refine ⟨fun c1869 => ?_, fun c1869 => ?_⟩
                          · exact hq _ hI g0 hT
                          · intro x1870 ex1870
                            have r_x1870 : (0 : Int32) ≤ x1870 ∧ x1870 ≤ (900 : Int32) := by rw [ex1870]; exact nu 7 rfl hI o_v0
                            intro x1871 ex1871
                            have hI := iv_sI (j := 4) (v := x1871) hI o_v0 (by decide) (nu_one (lo := (0 : Int32)) (hi := (900 : Int32)) (by decide) (q104 c1807 c1853 c1867 r_x1870 ex1871))
                            exact hq _ hI g0 hT
                  · refine ⟨fun c1872 => ?_, fun c1872 => ?_⟩
                    · refine u_X4_next_201 ?_
                      refine ⟨o_v0, ?_⟩
                      intro x1873 ex1873
                      have r_x1873 : (0 : Int32) ≤ x1873 ∧ x1873 ≤ (900 : Int32) := by rw [ex1873]; exact nu 7 rfl hI o_v0
                      intro x1874 ex1874
                      have hI := iv_sI (j := 4) (v := x1874) hI o_v0 (by decide) (nu_one (lo := (0 : Int32)) (hi := (900 : Int32)) (by decide) (q105 c1807 r_x1873 ex1874))
                      intro x1875 ex1875
                      exact ih1806 _ _ _ _ _ _ ⟨hI, gL1795, rfl, rfl, rfl, rfl, hT, (q106 i1 c1807 c1827 c1872 ex1875)⟩ (mu_up (q107 i1 c1807 c1827 c1872 ex1875) (q108 i1 c1807 c1827 c1872 ex1875))
                    · intro x1876 ex1876
                      have r_x1876 : (0 : Int32) ≤ x1876 ∧ x1876 ≤ (900 : Int32) := by rw [ex1876]; exact nu 7 rfl hI o_v0
                      obtain ⟨a1877, ea1877, o_a1877, l_a1877⟩ := hT
                      refine ⟨a1877, ea1877, ?_⟩
                      refine ⟨o_a1877, ?_⟩
                      have n_a1877 : nI (hN S1794 a1877) = 900 := by rw [show hN S1794 a1877 = 900 from l_a1877]; decide
                      refine ⟨fun c1878 => ?_, fun c1878 => ?_⟩
                      · rw [n_a1877] at c1878
                        refine u_X4_next_201 ?_
                        refine ⟨o_v0, ?_⟩
                        intro x1879 ex1879
                        have r_x1879 : (0 : Int32) ≤ x1879 ∧ x1879 ≤ (900 : Int32) := by rw [ex1879]; exact nu 7 rfl hI o_v0
                        intro x1880 ex1880
                        have hI := iv_sI (j := 4) (v := x1880) hI o_v0 (by decide) (nu_one (lo := (0 : Int32)) (hi := (900 : Int32)) (by decide) (q105 c1807 r_x1879 ex1880))
                        intro x1881 ex1881
                        exact ih1806 _ _ _ _ _ _ ⟨hI, gL1795, rfl, rfl, rfl, rfl, hT, (q109 i1 c1807 c1827 c1872 ex1881)⟩ (mu_up (q110 i1 c1807 c1827 c1872 ex1881) (q111 i1 c1807 c1827 c1872 ex1881))
                      · rw [n_a1877] at c1878
                        intro x1882 ex1882
                        obtain ⟨a1883, ea1883, o_a1883, l_a1883⟩ := hT
                        refine ⟨a1883, ea1883, ?_⟩
                        intro x1884 ex1884
                        have r_x1884 : (0 : Int32) ≤ x1884 ∧ x1884 ≤ (900 : Int32) := by rw [ex1884]; exact nu 7 rfl hI o_v0
                        refine ⟨o_a1883, ?_⟩
                        refine ⟨(vin l_a1883 (m := 900) (by decide) (q112 c1807 r_x1884)), ?_⟩
                        intro x1885 ex1885
                        intro x1886 ex1886
                        refine ⟨fun c1887 => ?_, fun c1887 => ?_⟩
                        · refine u_X4_next_195 ?_
                          refine ⟨o_v0, ?_⟩
                          intro x1888 ex1888
                          have hI := iv_sJ (j := 8) (v := x1888) hI o_v0 (by decide)
                          refine u_X4_next_201 ?_
                          refine ⟨o_v0, ?_⟩
                          intro x1889 ex1889
                          have r_x1889 : (0 : Int32) ≤ x1889 ∧ x1889 ≤ (900 : Int32) := by rw [ex1889]; exact nu 7 rfl hI o_v0
                          intro x1890 ex1890
                          have hI := iv_sI (j := 4) (v := x1890) hI o_v0 (by decide) (nu_one (lo := (0 : Int32)) (hi := (900 : Int32)) (by decide) (q105 c1807 r_x1889 ex1890))
                          intro x1891 ex1891
                          exact ih1806 _ _ _ _ _ _ ⟨hI, gL1795, rfl, rfl, rfl, rfl, hT, (q109 i1 c1807 c1827 c1872 ex1891)⟩ (mu_up (q110 i1 c1807 c1827 c1872 ex1891) (q111 i1 c1807 c1827 c1872 ex1891))
                        · refine u_X4_next_195 ?_
                          refine ⟨o_v0, ?_⟩
                          intro x1892 ex1892
                          have hI := iv_sJ (j := 8) (v := x1892) hI o_v0 (by decide)
                          refine u_X4_next_201 ?_
                          refine ⟨o_v0, ?_⟩
                          intro x1893 ex1893
                          have r_x1893 : (0 : Int32) ≤ x1893 ∧ x1893 ≤ (900 : Int32) := by rw [ex1893]; exact nu 7 rfl hI o_v0
                          intro x1894 ex1894
                          have hI := iv_sI (j := 4) (v := x1894) hI o_v0 (by decide) (nu_one (lo := (0 : Int32)) (hi := (900 : Int32)) (by decide) (q105 c1807 r_x1893 ex1894))
                          intro x1895 ex1895
                          exact ih1806 _ _ _ _ _ _ ⟨hI, gL1795, rfl, rfl, rfl, rfl, hT, (q109 i1 c1807 c1827 c1872 ex1895)⟩ (mu_up (q110 i1 c1807 c1827 c1872 ex1895) (q111 i1 c1807 c1827 c1872 ex1895))
          · refine u_X4_next_98 ?_
            refine ⟨o_v0, ?_⟩
            intro x1896 ex1896
            refine ⟨fun c1897 => ?_, fun c1897 => ?_⟩
            · refine u_X4_next_114 ?_
              refine i_X4_next_118 (fun (y0 : Nat) (y1 : Int32) (y2 : Int32) (y3 : Int32) (y4 : Int32) (Z : HS) => ((2147483647 : Int32).toInt - y4.toInt).toNat) (fun (y0 : Nat) (y1 : Int32) (y2 : Int32) (y3 : Int32) (y4 : Int32) (Z : HS) => (IV Z) ∧ (Gr (sJ (sI (sI S1 v0 7 x1265) v0 6 x1267) v0 8 (0 : Int64)) Z) ∧ (v0 = y0) ∧ ((0 : Int32) = y1) ∧ ((8 : Int32) = y2) ∧ ((10 : Int32) = y3) ∧ (TX Z v0) ∧ (0 ≤ y4)) ?_ _ _ _ _ _ _ ⟨hI, (gr_rf _), rfl, rfl, rfl, rfl, hT, (q43)⟩
              intro w1900 w1902 w1904 w1906 w1908 S1898 X1909 ⟨hI, gL1899, q1901, q1903, q1905, q1907, hT, i1⟩ ih1910
              subst q1901
              subst q1903
              subst q1905
              subst q1907
              have o_v0 := gr_ob gL1899 o_v0
              have g0 := gr_tr g0 gL1899
              have gL2 := gr_tr gL2 gL1899
              refine u_X4_next_118 ?_
              refine ⟨fun c1911 => ?_, fun c1911 => ?_⟩
              · refine u_X4_next_217 ?_
                refine ⟨fun c1912 => ?_, fun c1912 => ?_⟩
                · refine u_X4_next_240 ?_
                  refine ⟨fun c1913 => ?_, fun c1913 => ?_⟩
                  · exact hq _ hI g0 hT
                  · refine ⟨o_v0, ?_⟩
                    intro x1914 ex1914
                    refine ⟨fun c1915 => ?_, fun c1915 => ?_⟩
                    · exact hq _ hI g0 hT
                    · intro x1916 ex1916
                      have r_x1916 : (0 : Int32) ≤ x1916 ∧ x1916 ≤ (900 : Int32) := by rw [ex1916]; exact nu 7 rfl hI o_v0
                      intro x1917 ex1917
                      have hI := iv_sI (j := 4) (v := x1917) hI o_v0 (by decide) (nu_one (lo := (0 : Int32)) (hi := (900 : Int32)) (by decide) (q101 c1911 c1912 c1913 r_x1916 ex1917))
                      exact hq _ hI g0 hT
                · refine ⟨o_v0, ?_⟩
                  intro x1918 ex1918
                  have r_x1918 : (0 : Int32) ≤ x1918 ∧ x1918 ≤ (900 : Int32) := by rw [ex1918]; exact nu 7 rfl hI o_v0
                  intro x1919 ex1919
                  refine ⟨fun c1920 => ?_, fun c1920 => ?_⟩
                  · refine u_X4_next_240 ?_
                    refine ⟨fun c1921 => ?_, fun c1921 => ?_⟩
                    · exact hq _ hI g0 hT
                    · refine ⟨o_v0, ?_⟩
                      intro x1922 ex1922
                      refine ⟨fun c1923 => ?_, fun c1923 => ?_⟩
                      · exact hq _ hI g0 hT
                      · intro x1924 ex1924
                        have r_x1924 : (0 : Int32) ≤ x1924 ∧ x1924 ≤ (900 : Int32) := by rw [ex1924]; exact nu 7 rfl hI o_v0
                        intro x1925 ex1925
                        have hI := iv_sI (j := 4) (v := x1925) hI o_v0 (by decide) (nu_one (lo := (0 : Int32)) (hi := (900 : Int32)) (by decide) (q102 c1911 c1912 c1921 r_x1924 ex1925))
                        exact hq _ hI g0 hT
                  · have hI := iv_sI (j := 6) (v := (6 : Int32)) hI o_v0 (by decide) (nu_free (by decide))
                    refine u_X4_next_240 ?_
                    refine ⟨fun c1926 => ?_, fun c1926 => ?_⟩
                    · exact hq _ hI g0 hT
                    · refine ⟨o_v0, ?_⟩
                      intro x1927 ex1927
                      refine ⟨fun c1928 => ?_, fun c1928 => ?_⟩
                      · exact hq _ hI g0 hT
                      · intro x1929 ex1929
                        have r_x1929 : (0 : Int32) ≤ x1929 ∧ x1929 ≤ (900 : Int32) := by rw [ex1929]; exact nu 7 rfl hI o_v0
                        intro x1930 ex1930
                        have hI := iv_sI (j := 4) (v := x1930) hI o_v0 (by decide) (nu_one (lo := (0 : Int32)) (hi := (900 : Int32)) (by decide) (q102 c1911 c1912 c1926 r_x1929 ex1930))
                        exact hq _ hI g0 hT
              · refine ⟨fun c1931 => ?_, fun c1931 => ?_⟩
                · refine u_X4_next_217 ?_
                  refine ⟨fun c1932 => ?_, fun c1932 => ?_⟩
                  · refine u_X4_next_240 ?_
                    refine ⟨fun c1933 => ?_, fun c1933 => ?_⟩
                    · exact hq _ hI g0 hT
                    · refine ⟨o_v0, ?_⟩
                      intro x1934 ex1934
                      refine ⟨fun c1935 => ?_, fun c1935 => ?_⟩
                      · exact hq _ hI g0 hT
                      · intro x1936 ex1936
                        have r_x1936 : (0 : Int32) ≤ x1936 ∧ x1936 ≤ (900 : Int32) := by rw [ex1936]; exact nu 7 rfl hI o_v0
                        intro x1937 ex1937
                        have hI := iv_sI (j := 4) (v := x1937) hI o_v0 (by decide) (nu_one (lo := (0 : Int32)) (hi := (900 : Int32)) (by decide) (q103 c1911 c1932 c1933 r_x1936 ex1937))
                        exact hq _ hI g0 hT
                  · refine ⟨o_v0, ?_⟩
                    intro x1938 ex1938
                    have r_x1938 : (0 : Int32) ≤ x1938 ∧ x1938 ≤ (900 : Int32) := by rw [ex1938]; exact nu 7 rfl hI o_v0
                    intro x1939 ex1939
                    refine ⟨fun c1940 => ?_, fun c1940 => ?_⟩
                    · refine u_X4_next_240 ?_
                      refine ⟨fun c1941 => ?_, fun c1941 => ?_⟩
                      · exact hq _ hI g0 hT
                      · refine ⟨o_v0, ?_⟩
                        intro x1942 ex1942
                        refine ⟨fun c1943 => ?_, fun c1943 => ?_⟩
                        · exact hq _ hI g0 hT
                        · intro x1944 ex1944
                          have r_x1944 : (0 : Int32) ≤ x1944 ∧ x1944 ≤ (900 : Int32) := by rw [ex1944]; exact nu 7 rfl hI o_v0
                          intro x1945 ex1945
                          have hI := iv_sI (j := 4) (v := x1945) hI o_v0 (by decide) (nu_one (lo := (0 : Int32)) (hi := (900 : Int32)) (by decide) (q104 c1911 c1932 c1941 r_x1944 ex1945))
                          exact hq _ hI g0 hT
                    · have hI := iv_sI (j := 6) (v := (6 : Int32)) hI o_v0 (by decide) (nu_free (by decide))
                      refine u_X4_next_240 ?_
                      refine ⟨fun c1946 => ?_, fun c1946 => ?_⟩
                      · exact hq _ hI g0 hT
                      · refine ⟨o_v0, ?_⟩
                        intro x1947 ex1947
                        refine ⟨fun c1948 => ?_, fun c1948 => ?_⟩
                        · exact hq _ hI g0 hT
                        · intro x1949 ex1949
                          have r_x1949 : (0 : Int32) ≤ x1949 ∧ x1949 ≤ (900 : Int32) := by rw [ex1949]; exact nu 7 rfl hI o_v0
                          intro x1950 ex1950
                          have hI := iv_sI (j := 4) (v := x1950) hI o_v0 (by decide) (nu_one (lo := (0 : Int32)) (hi := (900 : Int32)) (by decide) (q104 c1911 c1932 c1946 r_x1949 ex1950))
                          exact hq _ hI g0 hT
                · refine ⟨o_v0, ?_⟩
                  intro x1951 ex1951
                  have r_x1951 : (0 : Int32) ≤ x1951 ∧ x1951 ≤ (900 : Int32) := by rw [ex1951]; exact nu 7 rfl hI o_v0
                  refine m_X4_sortAt hI o_v0 hT (fun x1952 S1953 hI2 g1954 p_x1952 => ?_)
                  subst p_x1952
                  intro _
                  intro x1955 ex1955
                  refine ⟨fun c1956 => ?_, fun c1956 => ?_⟩
                  · refine u_X4_next_217 ?_
                    refine ⟨fun c1957 => ?_, fun c1957 => ?_⟩
                    · refine u_X4_next_240 ?_
                      refine ⟨fun c1958 => ?_, fun c1958 => ?_⟩
                      · exact hq _ hI g0 hT
                      · refine ⟨o_v0, ?_⟩
                        intro x1959 ex1959
                        refine ⟨fun c1960 => ?_, fun c1960 => ?_⟩
                        · exact hq _ hI g0 hT
                        · intro x1961 ex1961
                          have r_x1961 : (0 : Int32) ≤ x1961 ∧ x1961 ≤ (900 : Int32) := by rw [ex1961]; exact nu 7 rfl hI o_v0
                          intro x1962 ex1962
                          have hI := iv_sI (j := 4) (v := x1962) hI o_v0 (by decide) (nu_one (lo := (0 : Int32)) (hi := (900 : Int32)) (by decide) (q103 c1911 c1957 c1958 r_x1961 ex1962))
                          exact hq _ hI g0 hT
                    · refine ⟨o_v0, ?_⟩
                      intro x1963 ex1963
                      have r_x1963 : (0 : Int32) ≤ x1963 ∧ x1963 ≤ (900 : Int32) := by rw [ex1963]; exact nu 7 rfl hI o_v0
                      intro x1964 ex1964
                      refine ⟨fun c1965 => ?_, fun c1965 => ?_⟩
                      · refine u_X4_next_240 ?_
                        refine ⟨fun c1966 => ?_, fun c1966 => ?_⟩
                        · exact hq _ hI g0 hT
                        · refine ⟨o_v0, ?_⟩
                          intro x1967 ex1967
                          refine ⟨fun c1968 => ?_, fun c1968 => ?_⟩
                          · exact hq _ hI g0 hT
                          · intro x1969 ex1969
                            have r_x1969 : (0 : Int32) ≤ x1969 ∧ x1969 ≤ (900 : Int32) := by rw [ex1969]; exact nu 7 rfl hI o_v0
                            intro x1970 ex1970
                            have hI := iv_sI (j := 4) (v := x1970) hI o_v0 (by decide) (nu_one (lo := (0 : Int32)) (hi := (900 : Int32)) (by decide) (q104 c1911 c1957 c1966 r_x1969 ex1970))
                            exact hq _ hI g0 hT
                      · have hI := iv_sI (j := 6) (v := (6 : Int32)) hI o_v0 (by decide) (nu_free (by decide))
                        refine u_X4_next_240 ?_
                        refine ⟨fun c1971 => ?_, fun c1971 => ?_⟩
                        · exact hq _ hI g0 hT
                        · refine ⟨o_v0, ?_⟩
                          intro x1972 ex1972
                          refine ⟨fun c1973 => ?_, fun c1973 => ?_⟩
                          · exact hq _ hI g0 hT
                          · intro x1974 ex1974
                            have r_x1974 : (0 : Int32) ≤ x1974 ∧ x1974 ≤ (900 : Int32) := by rw [ex1974]; exact nu 7 rfl hI o_v0
                            intro x1975 ex1975
                            have hI := iv_sI (j := 4) (v := x1975) hI o_v0 (by decide) (nu_one (lo := (0 : Int32)) (hi := (900 : Int32)) (by decide) (q104 c1911 c1957 c1971 r_x1974 ex1975))
                            exact hq _ hI g0 hT
                  · refine ⟨fun c1976 => ?_, fun c1976 => ?_⟩
                    · refine u_X4_next_201 ?_
                      refine ⟨o_v0, ?_⟩
                      intro x1977 ex1977
                      have r_x1977 : (0 : Int32) ≤ x1977 ∧ x1977 ≤ (900 : Int32) := by rw [ex1977]; exact nu 7 rfl hI o_v0
                      intro x1978 ex1978
                      have hI := iv_sI (j := 4) (v := x1978) hI o_v0 (by decide) (nu_one (lo := (0 : Int32)) (hi := (900 : Int32)) (by decide) (q105 c1911 r_x1977 ex1978))
                      intro x1979 ex1979
                      exact ih1910 _ _ _ _ _ _ ⟨hI, gL1899, rfl, rfl, rfl, rfl, hT, (q113 i1 c1911 c1931 c1976 ex1979)⟩ (mu_up (q114 i1 c1911 c1931 c1976 ex1979) (q115 i1 c1911 c1931 c1976 ex1979))
                    · intro x1980 ex1980
                      have r_x1980 : (0 : Int32) ≤ x1980 ∧ x1980 ≤ (900 : Int32) := by rw [ex1980]; exact nu 7 rfl hI o_v0
                      obtain ⟨a1981, ea1981, o_a1981, l_a1981⟩ := hT
                      refine ⟨a1981, ea1981, ?_⟩
                      refine ⟨o_a1981, ?_⟩
                      have n_a1981 : nI (hN S1898 a1981) = 900 := by rw [show hN S1898 a1981 = 900 from l_a1981]; decide
                      refine ⟨fun c1982 => ?_, fun c1982 => ?_⟩
                      · rw [n_a1981] at c1982
                        refine u_X4_next_201 ?_
                        refine ⟨o_v0, ?_⟩
                        intro x1983 ex1983
                        have r_x1983 : (0 : Int32) ≤ x1983 ∧ x1983 ≤ (900 : Int32) := by rw [ex1983]; exact nu 7 rfl hI o_v0
                        intro x1984 ex1984
                        have hI := iv_sI (j := 4) (v := x1984) hI o_v0 (by decide) (nu_one (lo := (0 : Int32)) (hi := (900 : Int32)) (by decide) (q105 c1911 r_x1983 ex1984))
                        intro x1985 ex1985
                        exact ih1910 _ _ _ _ _ _ ⟨hI, gL1899, rfl, rfl, rfl, rfl, hT, (q116 i1 c1911 c1931 c1976 ex1985)⟩ (mu_up (q117 i1 c1911 c1931 c1976 ex1985) (q118 i1 c1911 c1931 c1976 ex1985))
                      · rw [n_a1981] at c1982
                        intro x1986 ex1986
                        obtain ⟨a1987, ea1987, o_a1987, l_a1987⟩ := hT
                        refine ⟨a1987, ea1987, ?_⟩
                        intro x1988 ex1988
                        have r_x1988 : (0 : Int32) ≤ x1988 ∧ x1988 ≤ (900 : Int32) := by rw [ex1988]; exact nu 7 rfl hI o_v0
                        refine ⟨o_a1987, ?_⟩
                        refine ⟨(vin l_a1987 (m := 900) (by decide) (q112 c1911 r_x1988)), ?_⟩
                        intro x1989 ex1989
                        intro x1990 ex1990
                        refine ⟨fun c1991 => ?_, fun c1991 => ?_⟩
                        · refine u_X4_next_195 ?_
                          refine ⟨o_v0, ?_⟩
                          intro x1992 ex1992
                          have hI := iv_sJ (j := 8) (v := x1992) hI o_v0 (by decide)
                          refine u_X4_next_201 ?_
                          refine ⟨o_v0, ?_⟩
                          intro x1993 ex1993
                          have r_x1993 : (0 : Int32) ≤ x1993 ∧ x1993 ≤ (900 : Int32) := by rw [ex1993]; exact nu 7 rfl hI o_v0
                          intro x1994 ex1994
                          have hI := iv_sI (j := 4) (v := x1994) hI o_v0 (by decide) (nu_one (lo := (0 : Int32)) (hi := (900 : Int32)) (by decide) (q105 c1911 r_x1993 ex1994))
                          intro x1995 ex1995
                          exact ih1910 _ _ _ _ _ _ ⟨hI, gL1899, rfl, rfl, rfl, rfl, hT, (q116 i1 c1911 c1931 c1976 ex1995)⟩ (mu_up (q117 i1 c1911 c1931 c1976 ex1995) (q118 i1 c1911 c1931 c1976 ex1995))
                        · refine u_X4_next_195 ?_
                          refine ⟨o_v0, ?_⟩
                          intro x1996 ex1996
                          have hI := iv_sJ (j := 8) (v := x1996) hI o_v0 (by decide)
                          refine u_X4_next_201 ?_
                          refine ⟨o_v0, ?_⟩
                          intro x1997 ex1997
                          have r_x1997 : (0 : Int32) ≤ x1997 ∧ x1997 ≤ (900 : Int32) := by rw [ex1997]; exact nu 7 rfl hI o_v0
                          intro x1998 ex1998
                          have hI := iv_sI (j := 4) (v := x1998) hI o_v0 (by decide) (nu_one (lo := (0 : Int32)) (hi := (900 : Int32)) (by decide) (q105 c1911 r_x1997 ex1998))
                          intro x1999 ex1999
                          exact ih1910 _ _ _ _ _ _ ⟨hI, gL1899, rfl, rfl, rfl, rfl, hT, (q116 i1 c1911 c1931 c1976 ex1999)⟩ (mu_up (q117 i1 c1911 c1931 c1976 ex1999) (q118 i1 c1911 c1931 c1976 ex1999))
            · refine u_X4_next_114 ?_
              refine i_X4_next_118 (fun (y0 : Nat) (y1 : Int32) (y2 : Int32) (y3 : Int32) (y4 : Int32) (Z : HS) => ((2147483647 : Int32).toInt - y4.toInt).toNat) (fun (y0 : Nat) (y1 : Int32) (y2 : Int32) (y3 : Int32) (y4 : Int32) (Z : HS) => (IV Z) ∧ (Gr (sJ (sI (sI S1 v0 7 x1265) v0 6 x1267) v0 8 (0 : Int64)) Z) ∧ (v0 = y0) ∧ ((0 : Int32) = y1) ∧ ((8 : Int32) = y2) ∧ ((32 : Int32) = y3) ∧ (TX Z v0) ∧ (0 ≤ y4)) ?_ _ _ _ _ _ _ ⟨hI, (gr_rf _), rfl, rfl, rfl, rfl, hT, (q43)⟩
              intro w2002 w2004 w2006 w2008 w2010 S2000 X2011 ⟨hI, gL2001, q2003, q2005, q2007, q2009, hT, i1⟩ ih2012
              subst q2003
              subst q2005
              subst q2007
              subst q2009
              have o_v0 := gr_ob gL2001 o_v0
              have g0 := gr_tr g0 gL2001
              have gL2 := gr_tr gL2 gL2001
              refine u_X4_next_118 ?_
              refine ⟨fun c2013 => ?_, fun c2013 => ?_⟩
              · refine u_X4_next_217 ?_
                refine ⟨fun c2014 => ?_, fun c2014 => ?_⟩
                · refine u_X4_next_240 ?_
                  refine ⟨fun c2015 => ?_, fun c2015 => ?_⟩
                  · exact hq _ hI g0 hT
                  · refine ⟨o_v0, ?_⟩
                    intro x2016 ex2016
                    refine ⟨fun c2017 => ?_, fun c2017 => ?_⟩
                    · exact hq _ hI g0 hT
                    · intro x2018 ex2018
                      have r_x2018 : (0 : Int32) ≤ x2018 ∧ x2018 ≤ (900 : Int32) := by rw [ex2018]; exact nu 7 rfl hI o_v0
                      intro x2019 ex2019
                      have hI := iv_sI (j := 4) (v := x2019) hI o_v0 (by decide) (nu_one (lo := (0 : Int32)) (hi := (900 : Int32)) (by decide) (q101 c2013 c2014 c2015 r_x2018 ex2019))
                      exact hq _ hI g0 hT
                · refine ⟨o_v0, ?_⟩
                  intro x2020 ex2020
                  have r_x2020 : (0 : Int32) ≤ x2020 ∧ x2020 ≤ (900 : Int32) := by rw [ex2020]; exact nu 7 rfl hI o_v0
                  intro x2021 ex2021
                  refine ⟨fun c2022 => ?_, fun c2022 => ?_⟩
                  · refine u_X4_next_240 ?_
                    refine ⟨fun c2023 => ?_, fun c2023 => ?_⟩
                    · exact hq _ hI g0 hT
                    · refine ⟨o_v0, ?_⟩
                      intro x2024 ex2024
                      refine ⟨fun c2025 => ?_, fun c2025 => ?_⟩
                      · exact hq _ hI g0 hT
                      · intro x2026 ex2026
                        have r_x2026 : (0 : Int32) ≤ x2026 ∧ x2026 ≤ (900 : Int32) := by rw [ex2026]; exact nu 7 rfl hI o_v0
                        intro x2027 ex2027
                        have hI := iv_sI (j := 4) (v := x2027) hI o_v0 (by decide) (nu_one (lo := (0 : Int32)) (hi := (900 : Int32)) (by decide) (q102 c2013 c2014 c2023 r_x2026 ex2027))
                        exact hq _ hI g0 hT
                  · have hI := iv_sI (j := 6) (v := (6 : Int32)) hI o_v0 (by decide) (nu_free (by decide))
                    refine u_X4_next_240 ?_
                    refine ⟨fun c2028 => ?_, fun c2028 => ?_⟩
                    · exact hq _ hI g0 hT
                    · refine ⟨o_v0, ?_⟩
                      intro x2029 ex2029
                      refine ⟨fun c2030 => ?_, fun c2030 => ?_⟩
                      · exact hq _ hI g0 hT
                      · intro x2031 ex2031
                        have r_x2031 : (0 : Int32) ≤ x2031 ∧ x2031 ≤ (900 : Int32) := by rw [ex2031]; exact nu 7 rfl hI o_v0
                        intro x2032 ex2032
                        have hI := iv_sI (j := 4) (v := x2032) hI o_v0 (by decide) (nu_one (lo := (0 : Int32)) (hi := (900 : Int32)) (by decide) (q102 c2013 c2014 c2028 r_x2031 ex2032))
                        exact hq _ hI g0 hT
              · refine ⟨fun c2033 => ?_, fun c2033 => ?_⟩
                · refine u_X4_next_217 ?_
                  refine ⟨fun c2034 => ?_, fun c2034 => ?_⟩
                  · refine u_X4_next_240 ?_
                    refine ⟨fun c2035 => ?_, fun c2035 => ?_⟩
                    · exact hq _ hI g0 hT
                    · refine ⟨o_v0, ?_⟩
                      intro x2036 ex2036
                      refine ⟨fun c2037 => ?_, fun c2037 => ?_⟩
                      · exact hq _ hI g0 hT
                      · intro x2038 ex2038
                        have r_x2038 : (0 : Int32) ≤ x2038 ∧ x2038 ≤ (900 : Int32) := by rw [ex2038]; exact nu 7 rfl hI o_v0
                        intro x2039 ex2039
                        have hI := iv_sI (j := 4) (v := x2039) hI o_v0 (by decide) (nu_one (lo := (0 : Int32)) (hi := (900 : Int32)) (by decide) (q103 c2013 c2034 c2035 r_x2038 ex2039))
                        exact hq _ hI g0 hT
                  · refine ⟨o_v0, ?_⟩
                    intro x2040 ex2040
                    have r_x2040 : (0 : Int32) ≤ x2040 ∧ x2040 ≤ (900 : Int32) := by rw [ex2040]; exact nu 7 rfl hI o_v0
                    intro x2041 ex2041
                    refine ⟨fun c2042 => ?_, fun c2042 => ?_⟩
                    · refine u_X4_next_240 ?_
                      refine ⟨fun c2043 => ?_, fun c2043 => ?_⟩
                      · exact hq _ hI g0 hT
                      · refine ⟨o_v0, ?_⟩
                        intro x2044 ex2044
                        refine ⟨fun c2045 => ?_, fun c2045 => ?_⟩
                        · exact hq _ hI g0 hT
                        · intro x2046 ex2046
                          have r_x2046 : (0 : Int32) ≤ x2046 ∧ x2046 ≤ (900 : Int32) := by rw [ex2046]; exact nu 7 rfl hI o_v0
                          intro x2047 ex2047
                          have hI := iv_sI (j := 4) (v := x2047) hI o_v0 (by decide) (nu_one (lo := (0 : Int32)) (hi := (900 : Int32)) (by decide) (q104 c2013 c2034 c2043 r_x2046 ex2047))
                          exact hq _ hI g0 hT
                    · have hI := iv_sI (j := 6) (v := (6 : Int32)) hI o_v0 (by decide) (nu_free (by decide))
                      refine u_X4_next_240 ?_
                      refine ⟨fun c2048 => ?_, fun c2048 => ?_⟩
                      · exact hq _ hI g0 hT
                      · refine ⟨o_v0, ?_⟩
                        intro x2049 ex2049
                        refine ⟨fun c2050 => ?_, fun c2050 => ?_⟩
                        · exact hq _ hI g0 hT
                        · intro x2051 ex2051
                          have r_x2051 : (0 : Int32) ≤ x2051 ∧ x2051 ≤ (900 : Int32) := by rw [ex2051]; exact nu 7 rfl hI o_v0
                          intro x2052 ex2052
                          have hI := iv_sI (j := 4) (v := x2052) hI o_v0 (by decide) (nu_one (lo := (0 : Int32)) (hi := (900 : Int32)) (by decide) (q104 c2013 c2034 c2048 r_x2051 ex2052))
                          exact hq _ hI g0 hT
                · refine ⟨o_v0, ?_⟩
                  intro x2053 ex2053
                  have r_x2053 : (0 : Int32) ≤ x2053 ∧ x2053 ≤ (900 : Int32) := by rw [ex2053]; exact nu 7 rfl hI o_v0
                  refine m_X4_sortAt hI o_v0 hT (fun x2054 S2055 hI2 g2056 p_x2054 => ?_)
                  subst p_x2054
                  intro _
                  intro x2057 ex2057
                  refine ⟨fun c2058 => ?_, fun c2058 => ?_⟩
                  · refine u_X4_next_217 ?_
                    refine ⟨fun c2059 => ?_, fun c2059 => ?_⟩
                    · refine u_X4_next_240 ?_
                      refine ⟨fun c2060 => ?_, fun c2060 => ?_⟩
                      · exact hq _ hI g0 hT
                      · refine ⟨o_v0, ?_⟩
                        intro x2061 ex2061
                        refine ⟨fun c2062 => ?_, fun c2062 => ?_⟩
                        · exact hq _ hI g0 hT
                        · intro x2063 ex2063
                          have r_x2063 : (0 : Int32) ≤ x2063 ∧ x2063 ≤ (900 : Int32) := by rw [ex2063]; exact nu 7 rfl hI o_v0
                          intro x2064 ex2064
                          have hI := iv_sI (j := 4) (v := x2064) hI o_v0 (by decide) (nu_one (lo := (0 : Int32)) (hi := (900 : Int32)) (by decide) (q103 c2013 c2059 c2060 r_x2063 ex2064))
                          exact hq _ hI g0 hT
                    · refine ⟨o_v0, ?_⟩
                      intro x2065 ex2065
                      have r_x2065 : (0 : Int32) ≤ x2065 ∧ x2065 ≤ (900 : Int32) := by rw [ex2065]; exact nu 7 rfl hI o_v0
                      intro x2066 ex2066
                      refine ⟨fun c2067 => ?_, fun c2067 => ?_⟩
                      · refine u_X4_next_240 ?_
                        refine ⟨fun c2068 => ?_, fun c2068 => ?_⟩
                        · exact hq _ hI g0 hT
                        · refine ⟨o_v0, ?_⟩
                          intro x2069 ex2069
                          refine ⟨fun c2070 => ?_, fun c2070 => ?_⟩
                          · exact hq _ hI g0 hT
                          · intro x2071 ex2071
                            have r_x2071 : (0 : Int32) ≤ x2071 ∧ x2071 ≤ (900 : Int32) := by rw [ex2071]; exact nu 7 rfl hI o_v0
                            intro x2072 ex2072
                            have hI := iv_sI (j := 4) (v := x2072) hI o_v0 (by decide) (nu_one (lo := (0 : Int32)) (hi := (900 : Int32)) (by decide) (q104 c2013 c2059 c2068 r_x2071 ex2072))
                            exact hq _ hI g0 hT
                      · have hI := iv_sI (j := 6) (v := (6 : Int32)) hI o_v0 (by decide) (nu_free (by decide))
                        refine u_X4_next_240 ?_
                        refine ⟨fun c2073 => ?_, fun c2073 => ?_⟩
                        · exact hq _ hI g0 hT
                        · refine ⟨o_v0, ?_⟩
                          intro x2074 ex2074
                          refine ⟨fun c2075 => ?_, fun c2075 => ?_⟩
                          · exact hq _ hI g0 hT
                          · intro x2076 ex2076
                            have r_x2076 : (0 : Int32) ≤ x2076 ∧ x2076 ≤ (900 : Int32) := by rw [ex2076]; exact nu 7 rfl hI o_v0
                            intro x2077 ex2077
                            have hI := iv_sI (j := 4) (v := x2077) hI o_v0 (by decide) (nu_one (lo := (0 : Int32)) (hi := (900 : Int32)) (by decide) (q104 c2013 c2059 c2073 r_x2076 ex2077))
                            exact hq _ hI g0 hT
                  · refine ⟨fun c2078 => ?_, fun c2078 => ?_⟩
                    · refine u_X4_next_201 ?_
                      refine ⟨o_v0, ?_⟩
                      intro x2079 ex2079
                      have r_x2079 : (0 : Int32) ≤ x2079 ∧ x2079 ≤ (900 : Int32) := by rw [ex2079]; exact nu 7 rfl hI o_v0
                      intro x2080 ex2080
                      have hI := iv_sI (j := 4) (v := x2080) hI o_v0 (by decide) (nu_one (lo := (0 : Int32)) (hi := (900 : Int32)) (by decide) (q105 c2013 r_x2079 ex2080))
                      intro x2081 ex2081
                      exact ih2012 _ _ _ _ _ _ ⟨hI, gL2001, rfl, rfl, rfl, rfl, hT, (q113 i1 c2013 c2033 c2078 ex2081)⟩ (mu_up (q114 i1 c2013 c2033 c2078 ex2081) (q115 i1 c2013 c2033 c2078 ex2081))
                    · intro x2082 ex2082
                      have r_x2082 : (0 : Int32) ≤ x2082 ∧ x2082 ≤ (900 : Int32) := by rw [ex2082]; exact nu 7 rfl hI o_v0
                      obtain ⟨a2083, ea2083, o_a2083, l_a2083⟩ := hT
                      refine ⟨a2083, ea2083, ?_⟩
                      refine ⟨o_a2083, ?_⟩
                      have n_a2083 : nI (hN S2000 a2083) = 900 := by rw [show hN S2000 a2083 = 900 from l_a2083]; decide
                      refine ⟨fun c2084 => ?_, fun c2084 => ?_⟩
                      · rw [n_a2083] at c2084
                        refine u_X4_next_201 ?_
                        refine ⟨o_v0, ?_⟩
                        intro x2085 ex2085
                        have r_x2085 : (0 : Int32) ≤ x2085 ∧ x2085 ≤ (900 : Int32) := by rw [ex2085]; exact nu 7 rfl hI o_v0
                        intro x2086 ex2086
                        have hI := iv_sI (j := 4) (v := x2086) hI o_v0 (by decide) (nu_one (lo := (0 : Int32)) (hi := (900 : Int32)) (by decide) (q105 c2013 r_x2085 ex2086))
                        intro x2087 ex2087
                        exact ih2012 _ _ _ _ _ _ ⟨hI, gL2001, rfl, rfl, rfl, rfl, hT, (q116 i1 c2013 c2033 c2078 ex2087)⟩ (mu_up (q117 i1 c2013 c2033 c2078 ex2087) (q118 i1 c2013 c2033 c2078 ex2087))
                      · rw [n_a2083] at c2084
                        intro x2088 ex2088
                        obtain ⟨a2089, ea2089, o_a2089, l_a2089⟩ := hT
                        refine ⟨a2089, ea2089, ?_⟩
                        intro x2090 ex2090
                        have r_x2090 : (0 : Int32) ≤ x2090 ∧ x2090 ≤ (900 : Int32) := by rw [ex2090]; exact nu 7 rfl hI o_v0
                        refine ⟨o_a2089, ?_⟩
                        refine ⟨(vin l_a2089 (m := 900) (by decide) (q112 c2013 r_x2090)), ?_⟩
                        intro x2091 ex2091
                        intro x2092 ex2092
                        refine ⟨fun c2093 => ?_, fun c2093 => ?_⟩
                        · refine u_X4_next_195 ?_
                          refine ⟨o_v0, ?_⟩
                          intro x2094 ex2094
                          have hI := iv_sJ (j := 8) (v := x2094) hI o_v0 (by decide)
                          refine u_X4_next_201 ?_
                          refine ⟨o_v0, ?_⟩
                          intro x2095 ex2095
                          have r_x2095 : (0 : Int32) ≤ x2095 ∧ x2095 ≤ (900 : Int32) := by rw [ex2095]; exact nu 7 rfl hI o_v0
                          intro x2096 ex2096
                          have hI := iv_sI (j := 4) (v := x2096) hI o_v0 (by decide) (nu_one (lo := (0 : Int32)) (hi := (900 : Int32)) (by decide) (q105 c2013 r_x2095 ex2096))
                          intro x2097 ex2097
                          exact ih2012 _ _ _ _ _ _ ⟨hI, gL2001, rfl, rfl, rfl, rfl, hT, (q116 i1 c2013 c2033 c2078 ex2097)⟩ (mu_up (q117 i1 c2013 c2033 c2078 ex2097) (q118 i1 c2013 c2033 c2078 ex2097))
                        · refine u_X4_next_195 ?_
                          refine ⟨o_v0, ?_⟩
                          intro x2098 ex2098
                          have hI := iv_sJ (j := 8) (v := x2098) hI o_v0 (by decide)
                          refine u_X4_next_201 ?_
                          refine ⟨o_v0, ?_⟩
                          intro x2099 ex2099
                          have r_x2099 : (0 : Int32) ≤ x2099 ∧ x2099 ≤ (900 : Int32) := by rw [ex2099]; exact nu 7 rfl hI o_v0
                          intro x2100 ex2100
                          have hI := iv_sI (j := 4) (v := x2100) hI o_v0 (by decide) (nu_one (lo := (0 : Int32)) (hi := (900 : Int32)) (by decide) (q105 c2013 r_x2099 ex2100))
                          intro x2101 ex2101
                          exact ih2012 _ _ _ _ _ _ ⟨hI, gL2001, rfl, rfl, rfl, rfl, hT, (q116 i1 c2013 c2033 c2078 ex2101)⟩ (mu_up (q117 i1 c2013 c2033 c2078 ex2101) (q118 i1 c2013 c2033 c2078 ex2101))
        · refine u_X4_next_78 ?_
          refine u_X4_next_83 ?_
          refine ⟨o_v0, ?_⟩
          intro x2102 ex2102
          refine ⟨fun c2103 => ?_, fun c2103 => ?_⟩
          · refine u_X4_next_98 ?_
            refine ⟨o_v0, ?_⟩
            intro x2104 ex2104
            refine ⟨fun c2105 => ?_, fun c2105 => ?_⟩
            · refine u_X4_next_114 ?_
              refine i_X4_next_118 (fun (y0 : Nat) (y1 : Int32) (y2 : Int32) (y3 : Int32) (y4 : Int32) (Z : HS) => ((2147483647 : Int32).toInt - y4.toInt).toNat) (fun (y0 : Nat) (y1 : Int32) (y2 : Int32) (y3 : Int32) (y4 : Int32) (Z : HS) => (IV Z) ∧ (Gr (sJ (sI (sI S1 v0 7 x1265) v0 6 x1267) v0 8 (0 : Int64)) Z) ∧ (v0 = y0) ∧ ((1 : Int32) = y1) ∧ ((3 : Int32) = y2) ∧ ((10 : Int32) = y3) ∧ (TX Z v0) ∧ (0 ≤ y4)) ?_ _ _ _ _ _ _ ⟨hI, (gr_rf _), rfl, rfl, rfl, rfl, hT, (q43)⟩
              intro w2108 w2110 w2112 w2114 w2116 S2106 X2117 ⟨hI, gL2107, q2109, q2111, q2113, q2115, hT, i1⟩ ih2118
              subst q2109
              subst q2111
              subst q2113
              subst q2115
              have o_v0 := gr_ob gL2107 o_v0
              have g0 := gr_tr g0 gL2107
              have gL2 := gr_tr gL2 gL2107
              refine u_X4_next_118 ?_
              refine ⟨fun c2119 => ?_, fun c2119 => ?_⟩
              · refine u_X4_next_217 ?_
                refine ⟨fun c2120 => ?_, fun c2120 => ?_⟩
                · refine u_X4_next_240 ?_
                  refine ⟨fun c2121 => ?_, fun c2121 => ?_⟩
                  · exact hq _ hI g0 hT
                  · refine ⟨o_v0, ?_⟩
                    intro x2122 ex2122
                    refine ⟨fun c2123 => ?_, fun c2123 => ?_⟩
                    · exact hq _ hI g0 hT
                    · intro x2124 ex2124
                      have r_x2124 : (0 : Int32) ≤ x2124 ∧ x2124 ≤ (900 : Int32) := by rw [ex2124]; exact nu 7 rfl hI o_v0
                      intro x2125 ex2125
                      have hI := iv_sI (j := 4) (v := x2125) hI o_v0 (by decide) (nu_one (lo := (0 : Int32)) (hi := (900 : Int32)) (by decide) (q83 c2119 c2120 c2121 r_x2124 ex2125))
                      exact hq _ hI g0 hT
                · refine ⟨o_v0, ?_⟩
                  intro x2126 ex2126
                  have r_x2126 : (0 : Int32) ≤ x2126 ∧ x2126 ≤ (900 : Int32) := by rw [ex2126]; exact nu 7 rfl hI o_v0
                  intro x2127 ex2127
                  refine ⟨fun c2128 => ?_, fun c2128 => ?_⟩
                  · refine u_X4_next_240 ?_
                    refine ⟨fun c2129 => ?_, fun c2129 => ?_⟩
                    · exact hq _ hI g0 hT
                    · refine ⟨o_v0, ?_⟩
                      intro x2130 ex2130
                      refine ⟨fun c2131 => ?_, fun c2131 => ?_⟩
                      · exact hq _ hI g0 hT
                      · intro x2132 ex2132
                        have r_x2132 : (0 : Int32) ≤ x2132 ∧ x2132 ≤ (900 : Int32) := by rw [ex2132]; exact nu 7 rfl hI o_v0
                        intro x2133 ex2133
                        have hI := iv_sI (j := 4) (v := x2133) hI o_v0 (by decide) (nu_one (lo := (0 : Int32)) (hi := (900 : Int32)) (by decide) (q84 c2119 c2120 c2129 r_x2132 ex2133))
                        exact hq _ hI g0 hT
                  · have hI := iv_sI (j := 6) (v := (6 : Int32)) hI o_v0 (by decide) (nu_free (by decide))
                    refine u_X4_next_240 ?_
                    refine ⟨fun c2134 => ?_, fun c2134 => ?_⟩
                    · exact hq _ hI g0 hT
                    · refine ⟨o_v0, ?_⟩
                      intro x2135 ex2135
                      refine ⟨fun c2136 => ?_, fun c2136 => ?_⟩
                      · exact hq _ hI g0 hT
                      · intro x2137 ex2137
                        have r_x2137 : (0 : Int32) ≤ x2137 ∧ x2137 ≤ (900 : Int32) := by rw [ex2137]; exact nu 7 rfl hI o_v0
                        intro x2138 ex2138
                        have hI := iv_sI (j := 4) (v := x2138) hI o_v0 (by decide) (nu_one (lo := (0 : Int32)) (hi := (900 : Int32)) (by decide) (q84 c2119 c2120 c2134 r_x2137 ex2138))
                        exact hq _ hI g0 hT
              · refine ⟨fun c2139 => ?_, fun c2139 => ?_⟩
                · refine u_X4_next_217 ?_
                  refine ⟨fun c2140 => ?_, fun c2140 => ?_⟩
                  · refine u_X4_next_240 ?_
                    refine ⟨fun c2141 => ?_, fun c2141 => ?_⟩
                    · exact hq _ hI g0 hT
                    · refine ⟨o_v0, ?_⟩
                      intro x2142 ex2142
                      refine ⟨fun c2143 => ?_, fun c2143 => ?_⟩
                      · exact hq _ hI g0 hT
                      · intro x2144 ex2144
                        have r_x2144 : (0 : Int32) ≤ x2144 ∧ x2144 ≤ (900 : Int32) := by rw [ex2144]; exact nu 7 rfl hI o_v0
                        intro x2145 ex2145
                        have hI := iv_sI (j := 4) (v := x2145) hI o_v0 (by decide) (nu_one (lo := (0 : Int32)) (hi := (900 : Int32)) (by decide) (q85 c2119 c2140 c2141 r_x2144 ex2145))
                        exact hq _ hI g0 hT
                  · refine ⟨o_v0, ?_⟩
                    intro x2146 ex2146
                    have r_x2146 : (0 : Int32) ≤ x2146 ∧ x2146 ≤ (900 : Int32) := by rw [ex2146]; exact nu 7 rfl hI o_v0
                    intro x2147 ex2147
                    refine ⟨fun c2148 => ?_, fun c2148 => ?_⟩
                    · refine u_X4_next_240 ?_
                      refine ⟨fun c2149 => ?_, fun c2149 => ?_⟩
                      · exact hq _ hI g0 hT
                      · refine ⟨o_v0, ?_⟩
                        intro x2150 ex2150
                        refine ⟨fun c2151 => ?_, fun c2151 => ?_⟩
                        · exact hq _ hI g0 hT
                        · intro x2152 ex2152
                          have r_x2152 : (0 : Int32) ≤ x2152 ∧ x2152 ≤ (900 : Int32) := by rw [ex2152]; exact nu 7 rfl hI o_v0
                          intro x2153 ex2153
                          have hI := iv_sI (j := 4) (v := x2153) hI o_v0 (by decide) (nu_one (lo := (0 : Int32)) (hi := (900 : Int32)) (by decide) (q86 c2119 c2140 c2149 r_x2152 ex2153))
                          exact hq _ hI g0 hT
                    · have hI := iv_sI (j := 6) (v := (6 : Int32)) hI o_v0 (by decide) (nu_free (by decide))
                      refine u_X4_next_240 ?_
                      refine ⟨fun c2154 => ?_, fun c2154 => ?_⟩
                      · exact hq _ hI g0 hT
                      · refine ⟨o_v0, ?_⟩
                        intro x2155 ex2155
                        refine ⟨fun c2156 => ?_, fun c2156 => ?_⟩
                        · exact hq _ hI g0 hT
                        · intro x2157 ex2157
                          have r_x2157 : (0 : Int32) ≤ x2157 ∧ x2157 ≤ (900 : Int32) := by rw [ex2157]; exact nu 7 rfl hI o_v0
                          intro x2158 ex2158
                          have hI := iv_sI (j := 4) (v := x2158) hI o_v0 (by decide) (nu_one (lo := (0 : Int32)) (hi := (900 : Int32)) (by decide) (q86 c2119 c2140 c2154 r_x2157 ex2158))
                          exact hq _ hI g0 hT
                · refine ⟨o_v0, ?_⟩
                  intro x2159 ex2159
                  have r_x2159 : (0 : Int32) ≤ x2159 ∧ x2159 ≤ (900 : Int32) := by rw [ex2159]; exact nu 7 rfl hI o_v0
                  refine m_X4_sortAt hI o_v0 hT (fun x2160 S2161 hI2 g2162 p_x2160 => ?_)
                  subst p_x2160
                  intro _
                  intro x2163 ex2163
                  refine ⟨fun c2164 => ?_, fun c2164 => ?_⟩
                  · refine u_X4_next_217 ?_
                    refine ⟨fun c2165 => ?_, fun c2165 => ?_⟩
                    · refine u_X4_next_240 ?_
                      refine ⟨fun c2166 => ?_, fun c2166 => ?_⟩
                      · exact hq _ hI g0 hT
                      · refine ⟨o_v0, ?_⟩
                        intro x2167 ex2167
                        refine ⟨fun c2168 => ?_, fun c2168 => ?_⟩
                        · exact hq _ hI g0 hT
                        · intro x2169 ex2169
                          have r_x2169 : (0 : Int32) ≤ x2169 ∧ x2169 ≤ (900 : Int32) := by rw [ex2169]; exact nu 7 rfl hI o_v0
                          intro x2170 ex2170
                          have hI := iv_sI (j := 4) (v := x2170) hI o_v0 (by decide) (nu_one (lo := (0 : Int32)) (hi := (900 : Int32)) (by decide) (q85 c2119 c2165 c2166 r_x2169 ex2170))
                          exact hq _ hI g0 hT
                    · refine ⟨o_v0, ?_⟩
                      intro x2171 ex2171
                      have r_x2171 : (0 : Int32) ≤ x2171 ∧ x2171 ≤ (900 : Int32) := by rw [ex2171]; exact nu 7 rfl hI o_v0
                      intro x2172 ex2172
                      refine ⟨fun c2173 => ?_, fun c2173 => ?_⟩
                      · refine u_X4_next_240 ?_
                        refine ⟨fun c2174 => ?_, fun c2174 => ?_⟩
                        · exact hq _ hI g0 hT
                        · refine ⟨o_v0, ?_⟩
                          intro x2175 ex2175
                          refine ⟨fun c2176 => ?_, fun c2176 => ?_⟩
                          · exact hq _ hI g0 hT
                          · intro x2177 ex2177
                            have r_x2177 : (0 : Int32) ≤ x2177 ∧ x2177 ≤ (900 : Int32) := by rw [ex2177]; exact nu 7 rfl hI o_v0
                            intro x2178 ex2178
                            have hI := iv_sI (j := 4) (v := x2178) hI o_v0 (by decide) (nu_one (lo := (0 : Int32)) (hi := (900 : Int32)) (by decide) (q86 c2119 c2165 c2174 r_x2177 ex2178))
                            exact hq _ hI g0 hT
                      · have hI := iv_sI (j := 6) (v := (6 : Int32)) hI o_v0 (by decide) (nu_free (by decide))
                        refine u_X4_next_240 ?_
                        refine ⟨fun c2179 => ?_, fun c2179 => ?_⟩
                        · exact hq _ hI g0 hT
                        · refine ⟨o_v0, ?_⟩
                          intro x2180 ex2180
                          refine ⟨fun c2181 => ?_, fun c2181 => ?_⟩
                          · exact hq _ hI g0 hT
                          · intro x2182 ex2182
                            have r_x2182 : (0 : Int32) ≤ x2182 ∧ x2182 ≤ (900 : Int32) := by rw [ex2182]; exact nu 7 rfl hI o_v0
                            intro x2183 ex2183
                            have hI := iv_sI (j := 4) (v := x2183) hI o_v0 (by decide) (nu_one (lo := (0 : Int32)) (hi := (900 : Int32)) (by decide) (q86 c2119 c2165 c2179 r_x2182 ex2183))
                            exact hq _ hI g0 hT
                  · refine ⟨fun c2184 => ?_, fun c2184 => ?_⟩
                    · refine u_X4_next_201 ?_
                      refine ⟨o_v0, ?_⟩
                      intro x2185 ex2185
                      have r_x2185 : (0 : Int32) ≤ x2185 ∧ x2185 ≤ (900 : Int32) := by rw [ex2185]; exact nu 7 rfl hI o_v0
                      intro x2186 ex2186
                      have hI := iv_sI (j := 4) (v := x2186) hI o_v0 (by decide) (nu_one (lo := (0 : Int32)) (hi := (900 : Int32)) (by decide) (q87 c2119 r_x2185 ex2186))
                      intro x2187 ex2187
                      exact ih2118 _ _ _ _ _ _ ⟨hI, gL2107, rfl, rfl, rfl, rfl, hT, (q88 i1 c2119 c2139 c2184 ex2187)⟩ (mu_up (q89 i1 c2119 c2139 c2184 ex2187) (q90 i1 c2119 c2139 c2184 ex2187))
                    · intro x2188 ex2188
                      have r_x2188 : (0 : Int32) ≤ x2188 ∧ x2188 ≤ (900 : Int32) := by rw [ex2188]; exact nu 7 rfl hI o_v0
                      obtain ⟨a2189, ea2189, o_a2189, l_a2189⟩ := hT
                      refine ⟨a2189, ea2189, ?_⟩
                      refine ⟨o_a2189, ?_⟩
                      have n_a2189 : nI (hN S2106 a2189) = 900 := by rw [show hN S2106 a2189 = 900 from l_a2189]; decide
                      refine ⟨fun c2190 => ?_, fun c2190 => ?_⟩
                      · rw [n_a2189] at c2190
                        refine u_X4_next_201 ?_
                        refine ⟨o_v0, ?_⟩
                        intro x2191 ex2191
                        have r_x2191 : (0 : Int32) ≤ x2191 ∧ x2191 ≤ (900 : Int32) := by rw [ex2191]; exact nu 7 rfl hI o_v0
                        intro x2192 ex2192
                        have hI := iv_sI (j := 4) (v := x2192) hI o_v0 (by decide) (nu_one (lo := (0 : Int32)) (hi := (900 : Int32)) (by decide) (q87 c2119 r_x2191 ex2192))
                        intro x2193 ex2193
                        exact ih2118 _ _ _ _ _ _ ⟨hI, gL2107, rfl, rfl, rfl, rfl, hT, (q91 i1 c2119 c2139 c2184 ex2193)⟩ (mu_up (q92 i1 c2119 c2139 c2184 ex2193) (q93 i1 c2119 c2139 c2184 ex2193))
                      · rw [n_a2189] at c2190
                        intro x2194 ex2194
                        obtain ⟨a2195, ea2195, o_a2195, l_a2195⟩ := hT
                        refine ⟨a2195, ea2195, ?_⟩
                        intro x2196 ex2196
                        have r_x2196 : (0 : Int32) ≤ x2196 ∧ x2196 ≤ (900 : Int32) := by rw [ex2196]; exact nu 7 rfl hI o_v0
                        refine ⟨o_a2195, ?_⟩
                        refine ⟨(vin l_a2195 (m := 900) (by decide) (q94 c2119 r_x2196)), ?_⟩
                        intro x2197 ex2197
                        intro x2198 ex2198
                        refine ⟨fun c2199 => ?_, fun c2199 => ?_⟩
                        · refine u_X4_next_195 ?_
                          refine ⟨o_v0, ?_⟩
                          intro x2200 ex2200
                          have hI := iv_sJ (j := 8) (v := x2200) hI o_v0 (by decide)
                          refine u_X4_next_201 ?_
                          refine ⟨o_v0, ?_⟩
                          intro x2201 ex2201
                          have r_x2201 : (0 : Int32) ≤ x2201 ∧ x2201 ≤ (900 : Int32) := by rw [ex2201]; exact nu 7 rfl hI o_v0
                          intro x2202 ex2202
                          have hI := iv_sI (j := 4) (v := x2202) hI o_v0 (by decide) (nu_one (lo := (0 : Int32)) (hi := (900 : Int32)) (by decide) (q87 c2119 r_x2201 ex2202))
                          intro x2203 ex2203
                          exact ih2118 _ _ _ _ _ _ ⟨hI, gL2107, rfl, rfl, rfl, rfl, hT, (q91 i1 c2119 c2139 c2184 ex2203)⟩ (mu_up (q92 i1 c2119 c2139 c2184 ex2203) (q93 i1 c2119 c2139 c2184 ex2203))
                        · refine u_X4_next_195 ?_
                          refine ⟨o_v0, ?_⟩
                          intro x2204 ex2204
                          have hI := iv_sJ (j := 8) (v := x2204) hI o_v0 (by decide)
                          refine u_X4_next_201 ?_
                          refine ⟨o_v0, ?_⟩
                          intro x2205 ex2205
                          have r_x2205 : (0 : Int32) ≤ x2205 ∧ x2205 ≤ (900 : Int32) := by rw [ex2205]; exact nu 7 rfl hI o_v0
                          intro x2206 ex2206
                          have hI := iv_sI (j := 4) (v := x2206) hI o_v0 (by decide) (nu_one (lo := (0 : Int32)) (hi := (900 : Int32)) (by decide) (q87 c2119 r_x2205 ex2206))
                          intro x2207 ex2207
                          exact ih2118 _ _ _ _ _ _ ⟨hI, gL2107, rfl, rfl, rfl, rfl, hT, (q91 i1 c2119 c2139 c2184 ex2207)⟩ (mu_up (q92 i1 c2119 c2139 c2184 ex2207) (q93 i1 c2119 c2139 c2184 ex2207))
            · refine u_X4_next_114 ?_
              refine i_X4_next_118 (fun (y0 : Nat) (y1 : Int32) (y2 : Int32) (y3 : Int32) (y4 : Int32) (Z : HS) => ((2147483647 : Int32).toInt - y4.toInt).toNat) (fun (y0 : Nat) (y1 : Int32) (y2 : Int32) (y3 : Int32) (y4 : Int32) (Z : HS) => (IV Z) ∧ (Gr (sJ (sI (sI S1 v0 7 x1265) v0 6 x1267) v0 8 (0 : Int64)) Z) ∧ (v0 = y0) ∧ ((1 : Int32) = y1) ∧ ((3 : Int32) = y2) ∧ ((32 : Int32) = y3) ∧ (TX Z v0) ∧ (0 ≤ y4)) ?_ _ _ _ _ _ _ ⟨hI, (gr_rf _), rfl, rfl, rfl, rfl, hT, (q43)⟩
              intro w2210 w2212 w2214 w2216 w2218 S2208 X2219 ⟨hI, gL2209, q2211, q2213, q2215, q2217, hT, i1⟩ ih2220
              subst q2211
              subst q2213
              subst q2215
              subst q2217
              have o_v0 := gr_ob gL2209 o_v0
              have g0 := gr_tr g0 gL2209
              have gL2 := gr_tr gL2 gL2209
              refine u_X4_next_118 ?_
              refine ⟨fun c2221 => ?_, fun c2221 => ?_⟩
              · refine u_X4_next_217 ?_
                refine ⟨fun c2222 => ?_, fun c2222 => ?_⟩
                · refine u_X4_next_240 ?_
                  refine ⟨fun c2223 => ?_, fun c2223 => ?_⟩
                  · exact hq _ hI g0 hT
                  · refine ⟨o_v0, ?_⟩
                    intro x2224 ex2224
                    refine ⟨fun c2225 => ?_, fun c2225 => ?_⟩
                    · exact hq _ hI g0 hT
                    · intro x2226 ex2226
                      have r_x2226 : (0 : Int32) ≤ x2226 ∧ x2226 ≤ (900 : Int32) := by rw [ex2226]; exact nu 7 rfl hI o_v0
                      intro x2227 ex2227
                      have hI := iv_sI (j := 4) (v := x2227) hI o_v0 (by decide) (nu_one (lo := (0 : Int32)) (hi := (900 : Int32)) (by decide) (q83 c2221 c2222 c2223 r_x2226 ex2227))
                      exact hq _ hI g0 hT
                · refine ⟨o_v0, ?_⟩
                  intro x2228 ex2228
                  have r_x2228 : (0 : Int32) ≤ x2228 ∧ x2228 ≤ (900 : Int32) := by rw [ex2228]; exact nu 7 rfl hI o_v0
                  intro x2229 ex2229
                  refine ⟨fun c2230 => ?_, fun c2230 => ?_⟩
                  · refine u_X4_next_240 ?_
                    refine ⟨fun c2231 => ?_, fun c2231 => ?_⟩
                    · exact hq _ hI g0 hT
                    · refine ⟨o_v0, ?_⟩
                      intro x2232 ex2232
                      refine ⟨fun c2233 => ?_, fun c2233 => ?_⟩
                      · exact hq _ hI g0 hT
                      · intro x2234 ex2234
                        have r_x2234 : (0 : Int32) ≤ x2234 ∧ x2234 ≤ (900 : Int32) := by rw [ex2234]; exact nu 7 rfl hI o_v0
                        intro x2235 ex2235
                        have hI := iv_sI (j := 4) (v := x2235) hI o_v0 (by decide) (nu_one (lo := (0 : Int32)) (hi := (900 : Int32)) (by decide) (q84 c2221 c2222 c2231 r_x2234 ex2235))
                        exact hq _ hI g0 hT
                  · have hI := iv_sI (j := 6) (v := (6 : Int32)) hI o_v0 (by decide) (nu_free (by decide))
                    refine u_X4_next_240 ?_
                    refine ⟨fun c2236 => ?_, fun c2236 => ?_⟩
                    · exact hq _ hI g0 hT
                    · refine ⟨o_v0, ?_⟩
                      intro x2237 ex2237
                      refine ⟨fun c2238 => ?_, fun c2238 => ?_⟩
                      · exact hq _ hI g0 hT
                      · intro x2239 ex2239
                        have r_x2239 : (0 : Int32) ≤ x2239 ∧ x2239 ≤ (900 : Int32) := by rw [ex2239]; exact nu 7 rfl hI o_v0
                        intro x2240 ex2240
                        have hI := iv_sI (j := 4) (v := x2240) hI o_v0 (by decide) (nu_one (lo := (0 : Int32)) (hi := (900 : Int32)) (by decide) (q84 c2221 c2222 c2236 r_x2239 ex2240))
                        exact hq _ hI g0 hT
              · refine ⟨fun c2241 => ?_, fun c2241 => ?_⟩
                · refine u_X4_next_217 ?_
                  refine ⟨fun c2242 => ?_, fun c2242 => ?_⟩
                  · refine u_X4_next_240 ?_
                    refine ⟨fun c2243 => ?_, fun c2243 => ?_⟩
                    · exact hq _ hI g0 hT
                    · refine ⟨o_v0, ?_⟩
                      intro x2244 ex2244
                      refine ⟨fun c2245 => ?_, fun c2245 => ?_⟩
                      · exact hq _ hI g0 hT
                      · intro x2246 ex2246
                        have r_x2246 : (0 : Int32) ≤ x2246 ∧ x2246 ≤ (900 : Int32) := by rw [ex2246]; exact nu 7 rfl hI o_v0
                        intro x2247 ex2247
                        have hI := iv_sI (j := 4) (v := x2247) hI o_v0 (by decide) (nu_one (lo := (0 : Int32)) (hi := (900 : Int32)) (by decide) (q85 c2221 c2242 c2243 r_x2246 ex2247))
                        exact hq _ hI g0 hT
                  · refine ⟨o_v0, ?_⟩
                    intro x2248 ex2248
                    have r_x2248 : (0 : Int32) ≤ x2248 ∧ x2248 ≤ (900 : Int32) := by rw [ex2248]; exact nu 7 rfl hI o_v0
                    intro x2249 ex2249
                    refine ⟨fun c2250 => ?_, fun c2250 => ?_⟩
                    · refine u_X4_next_240 ?_
                      refine ⟨fun c2251 => ?_, fun c2251 => ?_⟩
                      · exact hq _ hI g0 hT
                      · refine ⟨o_v0, ?_⟩
                        intro x2252 ex2252
                        refine ⟨fun c2253 => ?_, fun c2253 => ?_⟩
                        · exact hq _ hI g0 hT
                        · intro x2254 ex2254
                          have r_x2254 : (0 : Int32) ≤ x2254 ∧ x2254 ≤ (900 : Int32) := by rw [ex2254]; exact nu 7 rfl hI o_v0
                          intro x2255 ex2255
                          have hI := iv_sI (j := 4) (v := x2255) hI o_v0 (by decide) (nu_one (lo := (0 : Int32)) (hi := (900 : Int32)) (by decide) (q86 c2221 c2242 c2251 r_x2254 ex2255))
                          exact hq _ hI g0 hT
                    · have hI := iv_sI (j := 6) (v := (6 : Int32)) hI o_v0 (by decide) (nu_free (by decide))
                      refine u_X4_next_240 ?_
                      refine ⟨fun c2256 => ?_, fun c2256 => ?_⟩
                      · exact hq _ hI g0 hT
                      · refine ⟨o_v0, ?_⟩
                        intro x2257 ex2257
                        refine ⟨fun c2258 => ?_, fun c2258 => ?_⟩
                        · exact hq _ hI g0 hT
                        · intro x2259 ex2259
                          have r_x2259 : (0 : Int32) ≤ x2259 ∧ x2259 ≤ (900 : Int32) := by rw [ex2259]; exact nu 7 rfl hI o_v0
                          intro x2260 ex2260
                          have hI := iv_sI (j := 4) (v := x2260) hI o_v0 (by decide) (nu_one (lo := (0 : Int32)) (hi := (900 : Int32)) (by decide) (q86 c2221 c2242 c2256 r_x2259 ex2260))
                          exact hq _ hI g0 hT
                · refine ⟨o_v0, ?_⟩
                  intro x2261 ex2261
                  have r_x2261 : (0 : Int32) ≤ x2261 ∧ x2261 ≤ (900 : Int32) := by rw [ex2261]; exact nu 7 rfl hI o_v0
                  refine m_X4_sortAt hI o_v0 hT (fun x2262 S2263 hI2 g2264 p_x2262 => ?_)
                  subst p_x2262
                  intro _
                  intro x2265 ex2265
                  refine ⟨fun c2266 => ?_, fun c2266 => ?_⟩
                  · refine u_X4_next_217 ?_
                    refine ⟨fun c2267 => ?_, fun c2267 => ?_⟩
                    · refine u_X4_next_240 ?_
                      refine ⟨fun c2268 => ?_, fun c2268 => ?_⟩
                      · exact hq _ hI g0 hT
                      · refine ⟨o_v0, ?_⟩
                        intro x2269 ex2269
                        refine ⟨fun c2270 => ?_, fun c2270 => ?_⟩
                        · exact hq _ hI g0 hT
                        · intro x2271 ex2271
                          have r_x2271 : (0 : Int32) ≤ x2271 ∧ x2271 ≤ (900 : Int32) := by rw [ex2271]; exact nu 7 rfl hI o_v0
                          intro x2272 ex2272
                          have hI := iv_sI (j := 4) (v := x2272) hI o_v0 (by decide) (nu_one (lo := (0 : Int32)) (hi := (900 : Int32)) (by decide) (q85 c2221 c2267 c2268 r_x2271 ex2272))
                          exact hq _ hI g0 hT
                    · refine ⟨o_v0, ?_⟩
                      intro x2273 ex2273
                      have r_x2273 : (0 : Int32) ≤ x2273 ∧ x2273 ≤ (900 : Int32) := by rw [ex2273]; exact nu 7 rfl hI o_v0
                      intro x2274 ex2274
                      refine ⟨fun c2275 => ?_, fun c2275 => ?_⟩
                      · refine u_X4_next_240 ?_
                        refine ⟨fun c2276 => ?_, fun c2276 => ?_⟩
                        · exact hq _ hI g0 hT
                        · refine ⟨o_v0, ?_⟩
                          intro x2277 ex2277
                          refine ⟨fun c2278 => ?_, fun c2278 => ?_⟩
                          · exact hq _ hI g0 hT
                          · intro x2279 ex2279
                            have r_x2279 : (0 : Int32) ≤ x2279 ∧ x2279 ≤ (900 : Int32) := by rw [ex2279]; exact nu 7 rfl hI o_v0
                            intro x2280 ex2280
                            have hI := iv_sI (j := 4) (v := x2280) hI o_v0 (by decide) (nu_one (lo := (0 : Int32)) (hi := (900 : Int32)) (by decide) (q86 c2221 c2267 c2276 r_x2279 ex2280))
                            exact hq _ hI g0 hT
                      · have hI := iv_sI (j := 6) (v := (6 : Int32)) hI o_v0 (by decide) (nu_free (by decide))
                        refine u_X4_next_240 ?_
                        refine ⟨fun c2281 => ?_, fun c2281 => ?_⟩
                        · exact hq _ hI g0 hT
                        · refine ⟨o_v0, ?_⟩
                          intro x2282 ex2282
                          refine ⟨fun c2283 => ?_, fun c2283 => ?_⟩
                          · exact hq _ hI g0 hT
                          · intro x2284 ex2284
                            have r_x2284 : (0 : Int32) ≤ x2284 ∧ x2284 ≤ (900 : Int32) := by rw [ex2284]; exact nu 7 rfl hI o_v0
                            intro x2285 ex2285
                            have hI := iv_sI (j := 4) (v := x2285) hI o_v0 (by decide) (nu_one (lo := (0 : Int32)) (hi := (900 : Int32)) (by decide) (q86 c2221 c2267 c2281 r_x2284 ex2285))
                            exact hq _ hI g0 hT
                  · refine ⟨fun c2286 => ?_, fun c2286 => ?_⟩
                    · refine u_X4_next_201 ?_
                      refine ⟨o_v0, ?_⟩
                      intro x2287 ex2287
                      have r_x2287 : (0 : Int32) ≤ x2287 ∧ x2287 ≤ (900 : Int32) := by rw [ex2287]; exact nu 7 rfl hI o_v0
                      intro x2288 ex2288
                      have hI := iv_sI (j := 4) (v := x2288) hI o_v0 (by decide) (nu_one (lo := (0 : Int32)) (hi := (900 : Int32)) (by decide) (q87 c2221 r_x2287 ex2288))
                      intro x2289 ex2289
                      exact ih2220 _ _ _ _ _ _ ⟨hI, gL2209, rfl, rfl, rfl, rfl, hT, (q88 i1 c2221 c2241 c2286 ex2289)⟩ (mu_up (q89 i1 c2221 c2241 c2286 ex2289) (q90 i1 c2221 c2241 c2286 ex2289))
                    · intro x2290 ex2290
                      have r_x2290 : (0 : Int32) ≤ x2290 ∧ x2290 ≤ (900 : Int32) := by rw [ex2290]; exact nu 7 rfl hI o_v0
                      obtain ⟨a2291, ea2291, o_a2291, l_a2291⟩ := hT
                      refine ⟨a2291, ea2291, ?_⟩
                      refine ⟨o_a2291, ?_⟩
                      have n_a2291 : nI (hN S2208 a2291) = 900 := by rw [show hN S2208 a2291 = 900 from l_a2291]; decide
                      refine ⟨fun c2292 => ?_, fun c2292 => ?_⟩
                      · rw [n_a2291] at c2292
                        refine u_X4_next_201 ?_
                        refine ⟨o_v0, ?_⟩
                        intro x2293 ex2293
                        have r_x2293 : (0 : Int32) ≤ x2293 ∧ x2293 ≤ (900 : Int32) := by rw [ex2293]; exact nu 7 rfl hI o_v0
                        intro x2294 ex2294
                        have hI := iv_sI (j := 4) (v := x2294) hI o_v0 (by decide) (nu_one (lo := (0 : Int32)) (hi := (900 : Int32)) (by decide) (q87 c2221 r_x2293 ex2294))
                        intro x2295 ex2295
                        exact ih2220 _ _ _ _ _ _ ⟨hI, gL2209, rfl, rfl, rfl, rfl, hT, (q91 i1 c2221 c2241 c2286 ex2295)⟩ (mu_up (q92 i1 c2221 c2241 c2286 ex2295) (q93 i1 c2221 c2241 c2286 ex2295))
                      · rw [n_a2291] at c2292
                        intro x2296 ex2296
                        obtain ⟨a2297, ea2297, o_a2297, l_a2297⟩ := hT
                        refine ⟨a2297, ea2297, ?_⟩
                        intro x2298 ex2298
                        have r_x2298 : (0 : Int32) ≤ x2298 ∧ x2298 ≤ (900 : Int32) := by rw [ex2298]; exact nu 7 rfl hI o_v0
                        refine ⟨o_a2297, ?_⟩
                        refine ⟨(vin l_a2297 (m := 900) (by decide) (q94 c2221 r_x2298)), ?_⟩
                        intro x2299 ex2299
                        intro x2300 ex2300
                        refine ⟨fun c2301 => ?_, fun c2301 => ?_⟩
                        · refine u_X4_next_195 ?_
                          refine ⟨o_v0, ?_⟩
                          intro x2302 ex2302
                          have hI := iv_sJ (j := 8) (v := x2302) hI o_v0 (by decide)
                          refine u_X4_next_201 ?_
                          refine ⟨o_v0, ?_⟩
                          intro x2303 ex2303
                          have r_x2303 : (0 : Int32) ≤ x2303 ∧ x2303 ≤ (900 : Int32) := by rw [ex2303]; exact nu 7 rfl hI o_v0
                          intro x2304 ex2304
                          have hI := iv_sI (j := 4) (v := x2304) hI o_v0 (by decide) (nu_one (lo := (0 : Int32)) (hi := (900 : Int32)) (by decide) (q87 c2221 r_x2303 ex2304))
                          intro x2305 ex2305
                          exact ih2220 _ _ _ _ _ _ ⟨hI, gL2209, rfl, rfl, rfl, rfl, hT, (q91 i1 c2221 c2241 c2286 ex2305)⟩ (mu_up (q92 i1 c2221 c2241 c2286 ex2305) (q93 i1 c2221 c2241 c2286 ex2305))
                        · refine u_X4_next_195 ?_
                          refine ⟨o_v0, ?_⟩
                          intro x2306 ex2306
                          have hI := iv_sJ (j := 8) (v := x2306) hI o_v0 (by decide)
                          refine u_X4_next_201 ?_
                          refine ⟨o_v0, ?_⟩
                          intro x2307 ex2307
                          have r_x2307 : (0 : Int32) ≤ x2307 ∧ x2307 ≤ (900 : Int32) := by rw [ex2307]; exact nu 7 rfl hI o_v0
                          intro x2308 ex2308
                          have hI := iv_sI (j := 4) (v := x2308) hI o_v0 (by decide) (nu_one (lo := (0 : Int32)) (hi := (900 : Int32)) (by decide) (q87 c2221 r_x2307 ex2308))
                          intro x2309 ex2309
                          exact ih2220 _ _ _ _ _ _ ⟨hI, gL2209, rfl, rfl, rfl, rfl, hT, (q91 i1 c2221 c2241 c2286 ex2309)⟩ (mu_up (q92 i1 c2221 c2241 c2286 ex2309) (q93 i1 c2221 c2241 c2286 ex2309))
          · refine u_X4_next_98 ?_
            refine ⟨o_v0, ?_⟩
            intro x2310 ex2310
            refine ⟨fun c2311 => ?_, fun c2311 => ?_⟩
            · refine u_X4_next_114 ?_
              refine i_X4_next_118 (fun (y0 : Nat) (y1 : Int32) (y2 : Int32) (y3 : Int32) (y4 : Int32) (Z : HS) => ((2147483647 : Int32).toInt - y4.toInt).toNat) (fun (y0 : Nat) (y1 : Int32) (y2 : Int32) (y3 : Int32) (y4 : Int32) (Z : HS) => (IV Z) ∧ (Gr (sJ (sI (sI S1 v0 7 x1265) v0 6 x1267) v0 8 (0 : Int64)) Z) ∧ (v0 = y0) ∧ ((1 : Int32) = y1) ∧ ((8 : Int32) = y2) ∧ ((10 : Int32) = y3) ∧ (TX Z v0) ∧ (0 ≤ y4)) ?_ _ _ _ _ _ _ ⟨hI, (gr_rf _), rfl, rfl, rfl, rfl, hT, (q43)⟩
              intro w2314 w2316 w2318 w2320 w2322 S2312 X2323 ⟨hI, gL2313, q2315, q2317, q2319, q2321, hT, i1⟩ ih2324
              subst q2315
              subst q2317
              subst q2319
              subst q2321
              have o_v0 := gr_ob gL2313 o_v0
              have g0 := gr_tr g0 gL2313
              have gL2 := gr_tr gL2 gL2313
              refine u_X4_next_118 ?_
              refine ⟨fun c2325 => ?_, fun c2325 => ?_⟩
              · refine u_X4_next_217 ?_
                refine ⟨fun c2326 => ?_, fun c2326 => ?_⟩
                · refine u_X4_next_240 ?_
                  refine ⟨fun c2327 => ?_, fun c2327 => ?_⟩
                  · exact hq _ hI g0 hT
                  · refine ⟨o_v0, ?_⟩
                    intro x2328 ex2328
                    refine ⟨fun c2329 => ?_, fun c2329 => ?_⟩
                    · exact hq _ hI g0 hT
                    · intro x2330 ex2330
                      have r_x2330 : (0 : Int32) ≤ x2330 ∧ x2330 ≤ (900 : Int32) := by rw [ex2330]; exact nu 7 rfl hI o_v0
                      intro x2331 ex2331
                      have hI := iv_sI (j := 4) (v := x2331) hI o_v0 (by decide) (nu_one (lo := (0 : Int32)) (hi := (900 : Int32)) (by decide) (q83 c2325 c2326 c2327 r_x2330 ex2331))
                      exact hq _ hI g0 hT
                · refine ⟨o_v0, ?_⟩
                  intro x2332 ex2332
                  have r_x2332 : (0 : Int32) ≤ x2332 ∧ x2332 ≤ (900 : Int32) := by rw [ex2332]; exact nu 7 rfl hI o_v0
                  intro x2333 ex2333
                  refine ⟨fun c2334 => ?_, fun c2334 => ?_⟩
                  · refine u_X4_next_240 ?_
                    refine ⟨fun c2335 => ?_, fun c2335 => ?_⟩
                    · exact hq _ hI g0 hT
                    · refine ⟨o_v0, ?_⟩
                      intro x2336 ex2336
                      refine ⟨fun c2337 => ?_, fun c2337 => ?_⟩
                      · exact hq _ hI g0 hT
                      · intro x2338 ex2338
                        have r_x2338 : (0 : Int32) ≤ x2338 ∧ x2338 ≤ (900 : Int32) := by rw [ex2338]; exact nu 7 rfl hI o_v0
                        intro x2339 ex2339
                        have hI := iv_sI (j := 4) (v := x2339) hI o_v0 (by decide) (nu_one (lo := (0 : Int32)) (hi := (900 : Int32)) (by decide) (q84 c2325 c2326 c2335 r_x2338 ex2339))
                        exact hq _ hI g0 hT
                  · have hI := iv_sI (j := 6) (v := (6 : Int32)) hI o_v0 (by decide) (nu_free (by decide))
                    refine u_X4_next_240 ?_
                    refine ⟨fun c2340 => ?_, fun c2340 => ?_⟩
                    · exact hq _ hI g0 hT
                    · refine ⟨o_v0, ?_⟩
                      intro x2341 ex2341
                      refine ⟨fun c2342 => ?_, fun c2342 => ?_⟩
                      · exact hq _ hI g0 hT
                      · intro x2343 ex2343
                        have r_x2343 : (0 : Int32) ≤ x2343 ∧ x2343 ≤ (900 : Int32) := by rw [ex2343]; exact nu 7 rfl hI o_v0
                        intro x2344 ex2344
                        have hI := iv_sI (j := 4) (v := x2344) hI o_v0 (by decide) (nu_one (lo := (0 : Int32)) (hi := (900 : Int32)) (by decide) (q84 c2325 c2326 c2340 r_x2343 ex2344))
                        exact hq _ hI g0 hT
              · refine ⟨fun c2345 => ?_, fun c2345 => ?_⟩
                · refine u_X4_next_217 ?_
                  refine ⟨fun c2346 => ?_, fun c2346 => ?_⟩
                  · refine u_X4_next_240 ?_
                    refine ⟨fun c2347 => ?_, fun c2347 => ?_⟩
                    · exact hq _ hI g0 hT
                    · refine ⟨o_v0, ?_⟩
                      intro x2348 ex2348
                      refine ⟨fun c2349 => ?_, fun c2349 => ?_⟩
                      · exact hq _ hI g0 hT
                      · intro x2350 ex2350
                        have r_x2350 : (0 : Int32) ≤ x2350 ∧ x2350 ≤ (900 : Int32) := by rw [ex2350]; exact nu 7 rfl hI o_v0
                        intro x2351 ex2351
                        have hI := iv_sI (j := 4) (v := x2351) hI o_v0 (by decide) (nu_one (lo := (0 : Int32)) (hi := (900 : Int32)) (by decide) (q85 c2325 c2346 c2347 r_x2350 ex2351))
                        exact hq _ hI g0 hT
                  · refine ⟨o_v0, ?_⟩
                    intro x2352 ex2352
                    have r_x2352 : (0 : Int32) ≤ x2352 ∧ x2352 ≤ (900 : Int32) := by rw [ex2352]; exact nu 7 rfl hI o_v0
                    intro x2353 ex2353
                    refine ⟨fun c2354 => ?_, fun c2354 => ?_⟩
                    · refine u_X4_next_240 ?_
                      refine ⟨fun c2355 => ?_, fun c2355 => ?_⟩
                      · exact hq _ hI g0 hT
                      · refine ⟨o_v0, ?_⟩
                        intro x2356 ex2356
                        refine ⟨fun c2357 => ?_, fun c2357 => ?_⟩
                        · exact hq _ hI g0 hT
                        · intro x2358 ex2358
                          have r_x2358 : (0 : Int32) ≤ x2358 ∧ x2358 ≤ (900 : Int32) := by rw [ex2358]; exact nu 7 rfl hI o_v0
                          intro x2359 ex2359
                          have hI := iv_sI (j := 4) (v := x2359) hI o_v0 (by decide) (nu_one (lo := (0 : Int32)) (hi := (900 : Int32)) (by decide) (q86 c2325 c2346 c2355 r_x2358 ex2359))
                          exact hq _ hI g0 hT
                    · have hI := iv_sI (j := 6) (v := (6 : Int32)) hI o_v0 (by decide) (nu_free (by decide))
                      refine u_X4_next_240 ?_
                      refine ⟨fun c2360 => ?_, fun c2360 => ?_⟩
                      · exact hq _ hI g0 hT
                      · refine ⟨o_v0, ?_⟩
                        intro x2361 ex2361
                        refine ⟨fun c2362 => ?_, fun c2362 => ?_⟩
                        · exact hq _ hI g0 hT
                        · intro x2363 ex2363
                          have r_x2363 : (0 : Int32) ≤ x2363 ∧ x2363 ≤ (900 : Int32) := by rw [ex2363]; exact nu 7 rfl hI o_v0
                          intro x2364 ex2364
                          have hI := iv_sI (j := 4) (v := x2364) hI o_v0 (by decide) (nu_one (lo := (0 : Int32)) (hi := (900 : Int32)) (by decide) (q86 c2325 c2346 c2360 r_x2363 ex2364))
                          exact hq _ hI g0 hT
                · refine ⟨o_v0, ?_⟩
                  intro x2365 ex2365
                  have r_x2365 : (0 : Int32) ≤ x2365 ∧ x2365 ≤ (900 : Int32) := by rw [ex2365]; exact nu 7 rfl hI o_v0
                  refine m_X4_sortAt hI o_v0 hT (fun x2366 S2367 hI2 g2368 p_x2366 => ?_)
                  subst p_x2366
                  intro _
                  intro x2369 ex2369
                  refine ⟨fun c2370 => ?_, fun c2370 => ?_⟩
                  · refine u_X4_next_217 ?_
                    refine ⟨fun c2371 => ?_, fun c2371 => ?_⟩
                    · refine u_X4_next_240 ?_
                      refine ⟨fun c2372 => ?_, fun c2372 => ?_⟩
                      · exact hq _ hI g0 hT
                      · refine ⟨o_v0, ?_⟩
                        intro x2373 ex2373
                        refine ⟨fun c2374 => ?_, fun c2374 => ?_⟩
                        · exact hq _ hI g0 hT
                        · intro x2375 ex2375
                          have r_x2375 : (0 : Int32) ≤ x2375 ∧ x2375 ≤ (900 : Int32) := by rw [ex2375]; exact nu 7 rfl hI o_v0
                          intro x2376 ex2376
                          have hI := iv_sI (j := 4) (v := x2376) hI o_v0 (by decide) (nu_one (lo := (0 : Int32)) (hi := (900 : Int32)) (by decide) (q85 c2325 c2371 c2372 r_x2375 ex2376))
                          exact hq _ hI g0 hT
                    · refine ⟨o_v0, ?_⟩
                      intro x2377 ex2377
                      have r_x2377 : (0 : Int32) ≤ x2377 ∧ x2377 ≤ (900 : Int32) := by rw [ex2377]; exact nu 7 rfl hI o_v0
                      intro x2378 ex2378
                      refine ⟨fun c2379 => ?_, fun c2379 => ?_⟩
                      · refine u_X4_next_240 ?_
                        refine ⟨fun c2380 => ?_, fun c2380 => ?_⟩
                        · exact hq _ hI g0 hT
                        · refine ⟨o_v0, ?_⟩
                          intro x2381 ex2381
                          refine ⟨fun c2382 => ?_, fun c2382 => ?_⟩
                          · exact hq _ hI g0 hT
                          · intro x2383 ex2383
                            have r_x2383 : (0 : Int32) ≤ x2383 ∧ x2383 ≤ (900 : Int32) := by rw [ex2383]; exact nu 7 rfl hI o_v0
                            intro x2384 ex2384
                            have hI := iv_sI (j := 4) (v := x2384) hI o_v0 (by decide) (nu_one (lo := (0 : Int32)) (hi := (900 : Int32)) (by decide) (q86 c2325 c2371 c2380 r_x2383 ex2384))
                            exact hq _ hI g0 hT
                      · have hI := iv_sI (j := 6) (v := (6 : Int32)) hI o_v0 (by decide) (nu_free (by decide))
                        refine u_X4_next_240 ?_
                        refine ⟨fun c2385 => ?_, fun c2385 => ?_⟩
                        · exact hq _ hI g0 hT
                        · refine ⟨o_v0, ?_⟩
                          intro x2386 ex2386
                          refine ⟨fun c2387 => ?_, fun c2387 => ?_⟩
                          · exact hq _ hI g0 hT
                          · intro x2388 ex2388
                            have r_x2388 : (0 : Int32) ≤ x2388 ∧ x2388 ≤ (900 : Int32) := by rw [ex2388]; exact nu 7 rfl hI o_v0
                            intro x2389 ex2389
                            have hI := iv_sI (j := 4) (v := x2389) hI o_v0 (by decide) (nu_one (lo := (0 : Int32)) (hi := (900 : Int32)) (by decide) (q86 c2325 c2371 c2385 r_x2388 ex2389))
                            exact hq _ hI g0 hT
                  · refine ⟨fun c2390 => ?_, fun c2390 => ?_⟩
                    · refine u_X4_next_201 ?_
                      refine ⟨o_v0, ?_⟩
                      intro x2391 ex2391
                      have r_x2391 : (0 : Int32) ≤ x2391 ∧ x2391 ≤ (900 : Int32) := by rw [ex2391]; exact nu 7 rfl hI o_v0
                      intro x2392 ex2392
                      have hI := iv_sI (j := 4) (v := x2392) hI o_v0 (by decide) (nu_one (lo := (0 : Int32)) (hi := (900 : Int32)) (by decide) (q87 c2325 r_x2391 ex2392))
                      intro x2393 ex2393
                      exact ih2324 _ _ _ _ _ _ ⟨hI, gL2313, rfl, rfl, rfl, rfl, hT, (q95 i1 c2325 c2345 c2390 ex2393)⟩ (mu_up (q96 i1 c2325 c2345 c2390 ex2393) (q97 i1 c2325 c2345 c2390 ex2393))
                    · intro x2394 ex2394
                      have r_x2394 : (0 : Int32) ≤ x2394 ∧ x2394 ≤ (900 : Int32) := by rw [ex2394]; exact nu 7 rfl hI o_v0
                      obtain ⟨a2395, ea2395, o_a2395, l_a2395⟩ := hT
                      refine ⟨a2395, ea2395, ?_⟩
                      refine ⟨o_a2395, ?_⟩
                      have n_a2395 : nI (hN S2312 a2395) = 900 := by rw [show hN S2312 a2395 = 900 from l_a2395]; decide
                      refine ⟨fun c2396 => ?_, fun c2396 => ?_⟩
                      · rw [n_a2395] at c2396
                        refine u_X4_next_201 ?_
                        refine ⟨o_v0, ?_⟩
                        intro x2397 ex2397
                        have r_x2397 : (0 : Int32) ≤ x2397 ∧ x2397 ≤ (900 : Int32) := by rw [ex2397]; exact nu 7 rfl hI o_v0
                        intro x2398 ex2398
                        have hI := iv_sI (j := 4) (v := x2398) hI o_v0 (by decide) (nu_one (lo := (0 : Int32)) (hi := (900 : Int32)) (by decide) (q87 c2325 r_x2397 ex2398))
                        intro x2399 ex2399
                        exact ih2324 _ _ _ _ _ _ ⟨hI, gL2313, rfl, rfl, rfl, rfl, hT, (q98 i1 c2325 c2345 c2390 ex2399)⟩ (mu_up (q99 i1 c2325 c2345 c2390 ex2399) (q100 i1 c2325 c2345 c2390 ex2399))
                      · rw [n_a2395] at c2396
                        intro x2400 ex2400
                        obtain ⟨a2401, ea2401, o_a2401, l_a2401⟩ := hT
                        refine ⟨a2401, ea2401, ?_⟩
                        intro x2402 ex2402
                        have r_x2402 : (0 : Int32) ≤ x2402 ∧ x2402 ≤ (900 : Int32) := by rw [ex2402]; exact nu 7 rfl hI o_v0
                        refine ⟨o_a2401, ?_⟩
                        refine ⟨(vin l_a2401 (m := 900) (by decide) (q94 c2325 r_x2402)), ?_⟩
                        intro x2403 ex2403
                        intro x2404 ex2404
                        refine ⟨fun c2405 => ?_, fun c2405 => ?_⟩
                        · refine u_X4_next_195 ?_
                          refine ⟨o_v0, ?_⟩
                          intro x2406 ex2406
                          have hI := iv_sJ (j := 8) (v := x2406) hI o_v0 (by decide)
                          refine u_X4_next_201 ?_
                          refine ⟨o_v0, ?_⟩
                          intro x2407 ex2407
                          have r_x2407 : (0 : Int32) ≤ x2407 ∧ x2407 ≤ (900 : Int32) := by rw [ex2407]; exact nu 7 rfl hI o_v0
                          intro x2408 ex2408
                          have hI := iv_sI (j := 4) (v := x2408) hI o_v0 (by decide) (nu_one (lo := (0 : Int32)) (hi := (900 : Int32)) (by decide) (q87 c2325 r_x2407 ex2408))
                          intro x2409 ex2409
                          exact ih2324 _ _ _ _ _ _ ⟨hI, gL2313, rfl, rfl, rfl, rfl, hT, (q98 i1 c2325 c2345 c2390 ex2409)⟩ (mu_up (q99 i1 c2325 c2345 c2390 ex2409) (q100 i1 c2325 c2345 c2390 ex2409))
                        · refine u_X4_next_195 ?_
                          refine ⟨o_v0, ?_⟩
                          intro x2410 ex2410
                          have hI := iv_sJ (j := 8) (v := x2410) hI o_v0 (by decide)
                          refine u_X4_next_201 ?_
                          refine ⟨o_v0, ?_⟩
                          intro x2411 ex2411
                          have r_x2411 : (0 : Int32) ≤ x2411 ∧ x2411 ≤ (900 : Int32) := by rw [ex2411]; exact nu 7 rfl hI o_v0
                          intro x2412 ex2412
                          have hI := iv_sI (j := 4) (v := x2412) hI o_v0 (by decide) (nu_one (lo := (0 : Int32)) (hi := (900 : Int32)) (by decide) (q87 c2325 r_x2411 ex2412))
                          intro x2413 ex2413
                          exact ih2324 _ _ _ _ _ _ ⟨hI, gL2313, rfl, rfl, rfl, rfl, hT, (q98 i1 c2325 c2345 c2390 ex2413)⟩ (mu_up (q99 i1 c2325 c2345 c2390 ex2413) (q100 i1 c2325 c2345 c2390 ex2413))
            · refine u_X4_next_114 ?_
              refine i_X4_next_118 (fun (y0 : Nat) (y1 : Int32) (y2 : Int32) (y3 : Int32) (y4 : Int32) (Z : HS) => ((2147483647 : Int32).toInt - y4.toInt).toNat) (fun (y0 : Nat) (y1 : Int32) (y2 : Int32) (y3 : Int32) (y4 : Int32) (Z : HS) => (IV Z) ∧ (Gr (sJ (sI (sI S1 v0 7 x1265) v0 6 x1267) v0 8 (0 : Int64)) Z) ∧ (v0 = y0) ∧ ((1 : Int32) = y1) ∧ ((8 : Int32) = y2) ∧ ((32 : Int32) = y3) ∧ (TX Z v0) ∧ (0 ≤ y4)) ?_ _ _ _ _ _ _ ⟨hI, (gr_rf _), rfl, rfl, rfl, rfl, hT, (q43)⟩
              intro w2416 w2418 w2420 w2422 w2424 S2414 X2425 ⟨hI, gL2415, q2417, q2419, q2421, q2423, hT, i1⟩ ih2426
              subst q2417
              subst q2419
              subst q2421
              subst q2423
              have o_v0 := gr_ob gL2415 o_v0
              have g0 := gr_tr g0 gL2415
              have gL2 := gr_tr gL2 gL2415
              refine u_X4_next_118 ?_
              refine ⟨fun c2427 => ?_, fun c2427 => ?_⟩
              · refine u_X4_next_217 ?_
                refine ⟨fun c2428 => ?_, fun c2428 => ?_⟩
                · refine u_X4_next_240 ?_
                  refine ⟨fun c2429 => ?_, fun c2429 => ?_⟩
                  · exact hq _ hI g0 hT
                  · refine ⟨o_v0, ?_⟩
                    intro x2430 ex2430
                    refine ⟨fun c2431 => ?_, fun c2431 => ?_⟩
                    · exact hq _ hI g0 hT
                    · intro x2432 ex2432
                      have r_x2432 : (0 : Int32) ≤ x2432 ∧ x2432 ≤ (900 : Int32) := by rw [ex2432]; exact nu 7 rfl hI o_v0
                      intro x2433 ex2433
                      have hI := iv_sI (j := 4) (v := x2433) hI o_v0 (by decide) (nu_one (lo := (0 : Int32)) (hi := (900 : Int32)) (by decide) (q83 c2427 c2428 c2429 r_x2432 ex2433))
                      exact hq _ hI g0 hT
                · refine ⟨o_v0, ?_⟩
                  intro x2434 ex2434
                  have r_x2434 : (0 : Int32) ≤ x2434 ∧ x2434 ≤ (900 : Int32) := by rw [ex2434]; exact nu 7 rfl hI o_v0
                  intro x2435 ex2435
                  refine ⟨fun c2436 => ?_, fun c2436 => ?_⟩
                  · refine u_X4_next_240 ?_
                    refine ⟨fun c2437 => ?_, fun c2437 => ?_⟩
                    · exact hq _ hI g0 hT
                    · refine ⟨o_v0, ?_⟩
                      intro x2438 ex2438
                      refine ⟨fun c2439 => ?_, fun c2439 => ?_⟩
                      · exact hq _ hI g0 hT
                      · intro x2440 ex2440
                        have r_x2440 : (0 : Int32) ≤ x2440 ∧ x2440 ≤ (900 : Int32) := by rw [ex2440]; exact nu 7 rfl hI o_v0
                        intro x2441 ex2441
                        have hI := iv_sI (j := 4) (v := x2441) hI o_v0 (by decide) (nu_one (lo := (0 : Int32)) (hi := (900 : Int32)) (by decide) (q84 c2427 c2428 c2437 r_x2440 ex2441))
                        exact hq _ hI g0 hT
                  · have hI := iv_sI (j := 6) (v := (6 : Int32)) hI o_v0 (by decide) (nu_free (by decide))
                    refine u_X4_next_240 ?_
                    refine ⟨fun c2442 => ?_, fun c2442 => ?_⟩
                    · exact hq _ hI g0 hT
                    · refine ⟨o_v0, ?_⟩
                      intro x2443 ex2443
                      refine ⟨fun c2444 => ?_, fun c2444 => ?_⟩
                      · exact hq _ hI g0 hT
                      · intro x2445 ex2445
                        have r_x2445 : (0 : Int32) ≤ x2445 ∧ x2445 ≤ (900 : Int32) := by rw [ex2445]; exact nu 7 rfl hI o_v0
                        intro x2446 ex2446
                        have hI := iv_sI (j := 4) (v := x2446) hI o_v0 (by decide) (nu_one (lo := (0 : Int32)) (hi := (900 : Int32)) (by decide) (q84 c2427 c2428 c2442 r_x2445 ex2446))
                        exact hq _ hI g0 hT
              · refine ⟨fun c2447 => ?_, fun c2447 => ?_⟩
                · refine u_X4_next_217 ?_
                  refine ⟨fun c2448 => ?_, fun c2448 => ?_⟩
                  · refine u_X4_next_240 ?_
                    refine ⟨fun c2449 => ?_, fun c2449 => ?_⟩
                    · exact hq _ hI g0 hT
                    · refine ⟨o_v0, ?_⟩
                      intro x2450 ex2450
                      refine ⟨fun c2451 => ?_, fun c2451 => ?_⟩
                      · exact hq _ hI g0 hT
                      · intro x2452 ex2452
                        have r_x2452 : (0 : Int32) ≤ x2452 ∧ x2452 ≤ (900 : Int32) := by rw [ex2452]; exact nu 7 rfl hI o_v0
                        intro x2453 ex2453
                        have hI := iv_sI (j := 4) (v := x2453) hI o_v0 (by decide) (nu_one (lo := (0 : Int32)) (hi := (900 : Int32)) (by decide) (q85 c2427 c2448 c2449 r_x2452 ex2453))
                        exact hq _ hI g0 hT
                  · refine ⟨o_v0, ?_⟩
                    intro x2454 ex2454
                    have r_x2454 : (0 : Int32) ≤ x2454 ∧ x2454 ≤ (900 : Int32) := by rw [ex2454]; exact nu 7 rfl hI o_v0
                    intro x2455 ex2455
                    refine ⟨fun c2456 => ?_, fun c2456 => ?_⟩
                    · refine u_X4_next_240 ?_
                      refine ⟨fun c2457 => ?_, fun c2457 => ?_⟩
                      · exact hq _ hI g0 hT
                      · refine ⟨o_v0, ?_⟩
                        intro x2458 ex2458
                        refine ⟨fun c2459 => ?_, fun c2459 => ?_⟩
                        · exact hq _ hI g0 hT
                        · intro x2460 ex2460
                          have r_x2460 : (0 : Int32) ≤ x2460 ∧ x2460 ≤ (900 : Int32) := by rw [ex2460]; exact nu 7 rfl hI o_v0
                          intro x2461 ex2461
                          have hI := iv_sI (j := 4) (v := x2461) hI o_v0 (by decide) (nu_one (lo := (0 : Int32)) (hi := (900 : Int32)) (by decide) (q86 c2427 c2448 c2457 r_x2460 ex2461))
                          exact hq _ hI g0 hT
                    · have hI := iv_sI (j := 6) (v := (6 : Int32)) hI o_v0 (by decide) (nu_free (by decide))
                      refine u_X4_next_240 ?_
                      refine ⟨fun c2462 => ?_, fun c2462 => ?_⟩
                      · exact hq _ hI g0 hT
                      · refine ⟨o_v0, ?_⟩
                        intro x2463 ex2463
                        refine ⟨fun c2464 => ?_, fun c2464 => ?_⟩
                        · exact hq _ hI g0 hT
                        · intro x2465 ex2465
                          have r_x2465 : (0 : Int32) ≤ x2465 ∧ x2465 ≤ (900 : Int32) := by rw [ex2465]; exact nu 7 rfl hI o_v0
                          intro x2466 ex2466
                          have hI := iv_sI (j := 4) (v := x2466) hI o_v0 (by decide) (nu_one (lo := (0 : Int32)) (hi := (900 : Int32)) (by decide) (q86 c2427 c2448 c2462 r_x2465 ex2466))
                          exact hq _ hI g0 hT
                · refine ⟨o_v0, ?_⟩
                  intro x2467 ex2467
                  have r_x2467 : (0 : Int32) ≤ x2467 ∧ x2467 ≤ (900 : Int32) := by rw [ex2467]; exact nu 7 rfl hI o_v0
                  refine m_X4_sortAt hI o_v0 hT (fun x2468 S2469 hI2 g2470 p_x2468 => ?_)
                  subst p_x2468
                  intro _
                  intro x2471 ex2471
                  refine ⟨fun c2472 => ?_, fun c2472 => ?_⟩
                  · refine u_X4_next_217 ?_
                    refine ⟨fun c2473 => ?_, fun c2473 => ?_⟩
                    · refine u_X4_next_240 ?_
                      refine ⟨fun c2474 => ?_, fun c2474 => ?_⟩
                      · exact hq _ hI g0 hT
                      · refine ⟨o_v0, ?_⟩
                        intro x2475 ex2475
                        refine ⟨fun c2476 => ?_, fun c2476 => ?_⟩
                        · exact hq _ hI g0 hT
                        · intro x2477 ex2477
                          have r_x2477 : (0 : Int32) ≤ x2477 ∧ x2477 ≤ (900 : Int32) := by rw [ex2477]; exact nu 7 rfl hI o_v0
                          intro x2478 ex2478
                          have hI := iv_sI (j := 4) (v := x2478) hI o_v0 (by decide) (nu_one (lo := (0 : Int32)) (hi := (900 : Int32)) (by decide) (q85 c2427 c2473 c2474 r_x2477 ex2478))
                          exact hq _ hI g0 hT
                    · refine ⟨o_v0, ?_⟩
                      intro x2479 ex2479
                      have r_x2479 : (0 : Int32) ≤ x2479 ∧ x2479 ≤ (900 : Int32) := by rw [ex2479]; exact nu 7 rfl hI o_v0
                      intro x2480 ex2480
                      refine ⟨fun c2481 => ?_, fun c2481 => ?_⟩
                      · refine u_X4_next_240 ?_
                        refine ⟨fun c2482 => ?_, fun c2482 => ?_⟩
                        · exact hq _ hI g0 hT
                        · refine ⟨o_v0, ?_⟩
                          intro x2483 ex2483
                          refine ⟨fun c2484 => ?_, fun c2484 => ?_⟩
                          · exact hq _ hI g0 hT
                          · intro x2485 ex2485
                            have r_x2485 : (0 : Int32) ≤ x2485 ∧ x2485 ≤ (900 : Int32) := by rw [ex2485]; exact nu 7 rfl hI o_v0
                            intro x2486 ex2486
                            have hI := iv_sI (j := 4) (v := x2486) hI o_v0 (by decide) (nu_one (lo := (0 : Int32)) (hi := (900 : Int32)) (by decide) (q86 c2427 c2473 c2482 r_x2485 ex2486))
                            exact hq _ hI g0 hT
                      · have hI := iv_sI (j := 6) (v := (6 : Int32)) hI o_v0 (by decide) (nu_free (by decide))
                        refine u_X4_next_240 ?_
                        refine ⟨fun c2487 => ?_, fun c2487 => ?_⟩
                        · exact hq _ hI g0 hT
                        · refine ⟨o_v0, ?_⟩
                          intro x2488 ex2488
                          refine ⟨fun c2489 => ?_, fun c2489 => ?_⟩
                          · exact hq _ hI g0 hT
                          · intro x2490 ex2490
                            have r_x2490 : (0 : Int32) ≤ x2490 ∧ x2490 ≤ (900 : Int32) := by rw [ex2490]; exact nu 7 rfl hI o_v0
                            intro x2491 ex2491
                            have hI := iv_sI (j := 4) (v := x2491) hI o_v0 (by decide) (nu_one (lo := (0 : Int32)) (hi := (900 : Int32)) (by decide) (q86 c2427 c2473 c2487 r_x2490 ex2491))
                            exact hq _ hI g0 hT
                  · refine ⟨fun c2492 => ?_, fun c2492 => ?_⟩
                    · refine u_X4_next_201 ?_
                      refine ⟨o_v0, ?_⟩
                      intro x2493 ex2493
                      have r_x2493 : (0 : Int32) ≤ x2493 ∧ x2493 ≤ (900 : Int32) := by rw [ex2493]; exact nu 7 rfl hI o_v0
                      intro x2494 ex2494
                      have hI := iv_sI (j := 4) (v := x2494) hI o_v0 (by decide) (nu_one (lo := (0 : Int32)) (hi := (900 : Int32)) (by decide) (q87 c2427 r_x2493 ex2494))
                      intro x2495 ex2495
                      exact ih2426 _ _ _ _ _ _ ⟨hI, gL2415, rfl, rfl, rfl, rfl, hT, (q95 i1 c2427 c2447 c2492 ex2495)⟩ (mu_up (q96 i1 c2427 c2447 c2492 ex2495) (q97 i1 c2427 c2447 c2492 ex2495))
                    · intro x2496 ex2496
                      have r_x2496 : (0 : Int32) ≤ x2496 ∧ x2496 ≤ (900 : Int32) := by rw [ex2496]; exact nu 7 rfl hI o_v0
                      obtain ⟨a2497, ea2497, o_a2497, l_a2497⟩ := hT
                      refine ⟨a2497, ea2497, ?_⟩
                      refine ⟨o_a2497, ?_⟩
                      have n_a2497 : nI (hN S2414 a2497) = 900 := by rw [show hN S2414 a2497 = 900 from l_a2497]; decide
                      refine ⟨fun c2498 => ?_, fun c2498 => ?_⟩
                      · rw [n_a2497] at c2498
                        refine u_X4_next_201 ?_
                        refine ⟨o_v0, ?_⟩
                        intro x2499 ex2499
                        have r_x2499 : (0 : Int32) ≤ x2499 ∧ x2499 ≤ (900 : Int32) := by rw [ex2499]; exact nu 7 rfl hI o_v0
                        intro x2500 ex2500
                        have hI := iv_sI (j := 4) (v := x2500) hI o_v0 (by decide) (nu_one (lo := (0 : Int32)) (hi := (900 : Int32)) (by decide) (q87 c2427 r_x2499 ex2500))
                        intro x2501 ex2501
                        exact ih2426 _ _ _ _ _ _ ⟨hI, gL2415, rfl, rfl, rfl, rfl, hT, (q98 i1 c2427 c2447 c2492 ex2501)⟩ (mu_up (q99 i1 c2427 c2447 c2492 ex2501) (q100 i1 c2427 c2447 c2492 ex2501))
                      · rw [n_a2497] at c2498
                        intro x2502 ex2502
                        obtain ⟨a2503, ea2503, o_a2503, l_a2503⟩ := hT
                        refine ⟨a2503, ea2503, ?_⟩
                        intro x2504 ex2504
                        have r_x2504 : (0 : Int32) ≤ x2504 ∧ x2504 ≤ (900 : Int32) := by rw [ex2504]; exact nu 7 rfl hI o_v0
                        refine ⟨o_a2503, ?_⟩
                        refine ⟨(vin l_a2503 (m := 900) (by decide) (q94 c2427 r_x2504)), ?_⟩
                        intro x2505 ex2505
                        intro x2506 ex2506
                        refine ⟨fun c2507 => ?_, fun c2507 => ?_⟩
                        · refine u_X4_next_195 ?_
                          refine ⟨o_v0, ?_⟩
                          intro x2508 ex2508
                          have hI := iv_sJ (j := 8) (v := x2508) hI o_v0 (by decide)
                          refine u_X4_next_201 ?_
                          refine ⟨o_v0, ?_⟩
                          intro x2509 ex2509
                          have r_x2509 : (0 : Int32) ≤ x2509 ∧ x2509 ≤ (900 : Int32) := by rw [ex2509]; exact nu 7 rfl hI o_v0
                          intro x2510 ex2510
                          have hI := iv_sI (j := 4) (v := x2510) hI o_v0 (by decide) (nu_one (lo := (0 : Int32)) (hi := (900 : Int32)) (by decide) (q87 c2427 r_x2509 ex2510))
                          intro x2511 ex2511
                          exact ih2426 _ _ _ _ _ _ ⟨hI, gL2415, rfl, rfl, rfl, rfl, hT, (q98 i1 c2427 c2447 c2492 ex2511)⟩ (mu_up (q99 i1 c2427 c2447 c2492 ex2511) (q100 i1 c2427 c2447 c2492 ex2511))
                        · refine u_X4_next_195 ?_
                          refine ⟨o_v0, ?_⟩
                          intro x2512 ex2512
                          have hI := iv_sJ (j := 8) (v := x2512) hI o_v0 (by decide)
                          refine u_X4_next_201 ?_
                          refine ⟨o_v0, ?_⟩
                          intro x2513 ex2513
                          have r_x2513 : (0 : Int32) ≤ x2513 ∧ x2513 ≤ (900 : Int32) := by rw [ex2513]; exact nu 7 rfl hI o_v0
                          intro x2514 ex2514
                          have hI := iv_sI (j := 4) (v := x2514) hI o_v0 (by decide) (nu_one (lo := (0 : Int32)) (hi := (900 : Int32)) (by decide) (q87 c2427 r_x2513 ex2514))
                          intro x2515 ex2515
                          exact ih2426 _ _ _ _ _ _ ⟨hI, gL2415, rfl, rfl, rfl, rfl, hT, (q98 i1 c2427 c2447 c2492 ex2515)⟩ (mu_up (q99 i1 c2427 c2447 c2492 ex2515) (q100 i1 c2427 c2447 c2492 ex2515))
    · intro x2516 ex2516
      have r_x2516 : (0 : Int32) ≤ x2516 ∧ x2516 ≤ (900 : Int32) := by rw [ex2516]; exact nu 7 rfl hI o_v0
      intro x2517 ex2517
      have hI := iv_sI (j := 4) (v := x2517) hI o_v0 (by decide) (nu_one (lo := (0 : Int32)) (hi := (900 : Int32)) (by decide) (q119 r_x2516 ex2517))
      intro x2518 ex2518
      exact ih7 _ _ _ ⟨hI, gL2, rfl, hT, (q120 i1 c8 ex2518)⟩ (mu_up (q121 i1 c8 ex2518) (q122 i1 c8 ex2518))
