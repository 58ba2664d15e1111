set_option maxHeartbeats 4000000 in
set_option maxRecDepth 20000 in
theorem m_X2_copy {v0 : Nat} {v1 : Nat} {Q : HS → Prop} {S : HS} (hI : IV S) (o_v0 : ob S v0 2) (o_v1 : ob S v1 2)    (hq : ∀ (T : HS), IV T → Gr S T → Q T) : P_X2_copy v0 v1 Q S := by
  have g0 := gr_rf S
  refine u_X2_copy ?_
  refine u_X2_copy_0 ?_
  refine ⟨o_v1, ?_⟩
  intro x1 ex1
  refine ⟨o_v0, ?_⟩
  have hI := iv_sI (j := 0) (v := x1) hI o_v0 (by decide) (nu_free (by decide))
  intro x2 ex2
  have hI := iv_sI (j := 1) (v := x2) hI o_v0 (by decide) (nu_free (by decide))
  refine i_X2_copy_18 (fun (y0 : Nat) (y1 : Nat) (y2 : Int32) (Z : HS) => ((5 : Int32).toInt - y2.toInt).toNat) (fun (y0 : Nat) (y1 : Nat) (y2 : Int32) (Z : HS) => (IV Z) ∧ (Gr (sI (sI S v0 0 x1) v0 1 x2) Z) ∧ (v0 = y0) ∧ (v1 = y1) ∧ (0 ≤ y2 ∧ y2 ≤ 5)) ?_ _ _ _ _ ⟨hI, (gr_rf _), rfl, rfl, (by lia)⟩
  intro w5 w7 w9 S3 X10 ⟨hI, gL4, q6, q8, i1⟩ ih11
  subst q6
  subst q8
  have o_v0 := gr_ob gL4 o_v0
  have o_v1 := gr_ob gL4 o_v1
  have g0 := gr_tr g0 gL4
  refine u_X2_copy_18 ?_
  refine ⟨fun c12 => ?_, fun c12 => ?_⟩
  · exact hq _ hI g0
  · refine ⟨o_v0, ?_⟩
    obtain ⟨a13, ea13, o_a13, l_a13⟩ := shl 11 rfl hI o_v0
    refine ⟨a13, ea13, ?_⟩
    refine ⟨o_v1, ?_⟩
    obtain ⟨a14, ea14, o_a14, l_a14⟩ := shl 11 rfl hI o_v1
    refine ⟨a14, ea14, ?_⟩
    refine ⟨o_a14, ?_⟩
    refine ⟨(vin l_a14 (m := 5) (by decide) (by lia)), ?_⟩
    intro x15 ex15
    refine ⟨o_a13, ?_⟩
    have i16 : vp_in w9 (hN _ a13) := (vin l_a13 (m := 5) (by decide) (by lia))
    refine ⟨i16, ?_⟩
    have hI := iv_aJ (i := w9.toNatClampNeg) (v := x15) hI o_v0 (by decide) ea13 o_a13 (by decide)
    intro x17 ex17
    exact ih11 _ _ _ _ ⟨hI, gL4, rfl, rfl, (by lia)⟩ (mu_up (by lia) (by lia))
set_option maxHeartbeats 4000000 in
set_option maxRecDepth 20000 in
theorem m_X2_addFaces {v0 : Nat} {v1 : Nat} {Q : HS → Prop} {S : HS} (hI : IV S) (o_v0 : ob S v0 2) (o_v1 : ob S v1 14) (l_v1 : hN S v1 = 5)   (hq : ∀ (T : HS), IV T → Gr S T → Q T) : P_X2_addFaces v0 v1 Q S := by
  have g0 := gr_rf S
  refine u_X2_addFaces ?_
  refine u_X2_addFaces_0 ?_
  refine i_X2_addFaces_2 (fun (y0 : Nat) (y1 : Nat) (y2 : Int32) (Z : HS) => ((5 : Int32).toInt - y2.toInt).toNat) (fun (y0 : Nat) (y1 : Nat) (y2 : Int32) (Z : HS) => (IV Z) ∧ (Gr S Z) ∧ (v0 = y0) ∧ (v1 = y1) ∧ (0 ≤ y2 ∧ y2 ≤ 5)) ?_ _ _ _ _ ⟨hI, (gr_rf _), rfl, rfl, (by lia)⟩
  intro w3 w5 w7 S1 X8 ⟨hI, gL2, q4, q6, i1⟩ ih9
  subst q4
  subst q6
  have l_v1 := (gr_len gL2 o_v1).trans l_v1
  have o_v0 := gr_ob gL2 o_v0
  have o_v1 := gr_ob gL2 o_v1
  have g0 := gr_tr g0 gL2
  refine u_X2_addFaces_2 ?_
  refine ⟨fun c10 => ?_, fun c10 => ?_⟩
  · exact hq _ hI g0
  · refine ⟨o_v1, ?_⟩
    have n_v1 : nI (hN S1 v1) = 5 := by rw [show hN S1 v1 = 5 from l_v1]; decide
    refine ⟨fun c11 => ?_, fun c11 => ?_⟩
    · exact hq _ hI g0
    · refine ⟨o_v0, ?_⟩
      obtain ⟨a12, ea12, o_a12, l_a12⟩ := shl 11 rfl hI o_v0
      refine ⟨a12, ea12, ?_⟩
      refine ⟨o_a12, ?_⟩
      refine ⟨(vin l_a12 (m := 5) (by decide) (by lia)), ?_⟩
      intro x13 ex13
      refine ⟨(vin l_v1 (m := 5) (by decide) (by lia)), ?_⟩
      intro x14 ex14
      intro x15 ex15
      have i16 : vp_in w7 (hN _ a12) := (vin l_a12 (m := 5) (by decide) (by lia))
      refine ⟨i16, ?_⟩
      have hI := iv_aJ (i := w7.toNatClampNeg) (v := x15) hI o_v0 (by decide) ea12 o_a12 (by decide)
      intro x17 ex17
      exact ih9 _ _ _ _ ⟨hI, gL2, rfl, rfl, (by lia)⟩ (mu_up (by lia) (by lia))
set_option maxHeartbeats 4000000 in
set_option maxRecDepth 20000 in
theorem m_X2_allGot {v0 : Nat} {Q : Int64 → HS → Prop} {S : HS} (hI : IV S) (o_v0 : ob S v0 2)    (hq : ∀ (r : Int64) (T : HS), IV T → Gr S T → (S = T) → Q r T) : P_X2_allGot v0 Q S := by
  have g0 := gr_rf S
  refine u_X2_allGot ?_
  refine u_X2_allGot_0 ?_
  refine i_X2_allGot_4 (fun (y0 : Nat) (y1 : Int64) (y3 : Int32) (Z : HS) => ((5 : Int32).toInt - y3.toInt).toNat) (fun (y0 : Nat) (y1 : Int64) (y3 : Int32) (Z : HS) => (S = Z) ∧ (v0 = y0) ∧ (0 ≤ y3 ∧ y3 ≤ 5)) ?_ _ _ _ _ ⟨rfl, rfl, (by lia)⟩
  intro w3 w5 w6 S1 X7 ⟨eS1, q4, i1⟩ ih8
  subst q4
  subst eS1
  refine u_X2_allGot_4 ?_
  refine ⟨fun c9 => ?_, fun c9 => ?_⟩
  · exact hq _ _ hI g0 rfl
  · refine ⟨o_v0, ?_⟩
    obtain ⟨a10, ea10, o_a10, l_a10⟩ := shl 11 rfl hI o_v0
    refine ⟨a10, ea10, ?_⟩
    refine ⟨o_a10, ?_⟩
    refine ⟨(vin l_a10 (m := 5) (by decide) (by lia)), ?_⟩
    intro x11 ex11
    intro x12 ex12
    intro x13 ex13
    exact ih8 _ _ _ _ ⟨rfl, rfl, (by lia)⟩ (mu_up (by lia) (by lia))
