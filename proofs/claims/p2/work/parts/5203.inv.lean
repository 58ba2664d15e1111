set_option maxHeartbeats 4000000 in
set_option maxRecDepth 20000 in
theorem m_X4_canBeName {v0 : Nat} {Q : Int32 → HS → Prop} {S : HS} (hI : IV S) (o_v0 : ob S v0 4)    (hT : TX S v0) (hq : ∀ (r : Int32) (T : HS), IV T → Gr S T → bl r → (S = T) → Q r T) : P_X4_canBeName v0 Q S := by
  have g0 := gr_rf S
  refine u_X4_canBeName ?_
  refine u_X4_canBeName_0 ?_
  refine ⟨o_v0, ?_⟩
  refine m_X4_is hI o_v0 (by decide) hT (fun x1 S2 hI2 g3 b_x1 p_x1 => ?_)
  subst p_x1
  intro _ _
  have bb_x1 : x1 = 0 ∨ x1 = 1 := b_x1
  refine ⟨fun c5 => ?_, fun c5 => ?_⟩
  · refine u_X4_canBeName_81 ?_
    refine u_X4_canBeName_86 ?_
    refine ⟨o_v0, ?_⟩
    intro x6 ex6
    have d_x6 := ex6
    refine ⟨fun c7 => ?_, fun c7 => ?_⟩
    · exact hq _ _ hI g0 (Or.inl rfl) rfl
    · refine ⟨fun c8 => ?_, fun c8 => ?_⟩
      · exact hq _ _ hI g0 (Or.inl rfl) rfl
      · exact hq _ _ hI g0 (Or.inr rfl) rfl
  · refine m_X4_is hI o_v0 (by decide) hT (fun x9 S10 hI2 g11 b_x9 p_x9 => ?_)
    subst p_x9
    intro _ _
    have bb_x9 : x9 = 0 ∨ x9 = 1 := b_x9
    refine ⟨fun c13 => ?_, fun c13 => ?_⟩
    · refine u_X4_canBeName_81 ?_
      refine u_X4_canBeName_86 ?_
      refine ⟨o_v0, ?_⟩
      intro x14 ex14
      have d_x14 := ex14
      refine ⟨fun c15 => ?_, fun c15 => ?_⟩
      · exact hq _ _ hI g0 (Or.inl rfl) rfl
      · refine ⟨fun c16 => ?_, fun c16 => ?_⟩
        · exact hq _ _ hI g0 (Or.inl rfl) rfl
        · exact hq _ _ hI g0 (Or.inr rfl) rfl
    · refine m_X4_is hI o_v0 (by decide) hT (fun x17 S18 hI2 g19 b_x17 p_x17 => ?_)
      subst p_x17
      intro _ _
      have bb_x17 : x17 = 0 ∨ x17 = 1 := b_x17
      refine ⟨fun c21 => ?_, fun c21 => ?_⟩
      · refine u_X4_canBeName_81 ?_
        refine u_X4_canBeName_86 ?_
        refine ⟨o_v0, ?_⟩
        intro x22 ex22
        have d_x22 := ex22
        refine ⟨fun c23 => ?_, fun c23 => ?_⟩
        · exact hq _ _ hI g0 (Or.inl rfl) rfl
        · refine ⟨fun c24 => ?_, fun c24 => ?_⟩
          · exact hq _ _ hI g0 (Or.inl rfl) rfl
          · exact hq _ _ hI g0 (Or.inr rfl) rfl
      · refine m_X4_is hI o_v0 (by decide) hT (fun x25 S26 hI2 g27 b_x25 p_x25 => ?_)
        subst p_x25
        intro _ _
        have bb_x25 : x25 = 0 ∨ x25 = 1 := b_x25
        refine ⟨fun c29 => ?_, fun c29 => ?_⟩
        · refine u_X4_canBeName_81 ?_
          refine u_X4_canBeName_86 ?_
          refine ⟨o_v0, ?_⟩
          intro x30 ex30
          have d_x30 := ex30
          refine ⟨fun c31 => ?_, fun c31 => ?_⟩
          · exact hq _ _ hI g0 (Or.inl rfl) rfl
          · refine ⟨fun c32 => ?_, fun c32 => ?_⟩
            · exact hq _ _ hI g0 (Or.inl rfl) rfl
            · exact hq _ _ hI g0 (Or.inr rfl) rfl
        · refine m_X4_is hI o_v0 (by decide) hT (fun x33 S34 hI2 g35 b_x33 p_x33 => ?_)
          subst p_x33
          intro _ _
          have bb_x33 : x33 = 0 ∨ x33 = 1 := b_x33
          refine ⟨fun c37 => ?_, fun c37 => ?_⟩
          · refine u_X4_canBeName_81 ?_
            refine u_X4_canBeName_86 ?_
            refine ⟨o_v0, ?_⟩
            intro x38 ex38
            have d_x38 := ex38
            refine ⟨fun c39 => ?_, fun c39 => ?_⟩
            · exact hq _ _ hI g0 (Or.inl rfl) rfl
            · refine ⟨fun c40 => ?_, fun c40 => ?_⟩
              · exact hq _ _ hI g0 (Or.inl rfl) rfl
              · exact hq _ _ hI g0 (Or.inr rfl) rfl
          · refine m_X4_is hI o_v0 (by decide) hT (fun x41 S42 hI2 g43 b_x41 p_x41 => ?_)
            subst p_x41
            intro _ _
            have bb_x41 : x41 = 0 ∨ x41 = 1 := b_x41
            refine ⟨fun c45 => ?_, fun c45 => ?_⟩
            · refine u_X4_canBeName_81 ?_
              refine u_X4_canBeName_86 ?_
              refine ⟨o_v0, ?_⟩
              intro x46 ex46
              have d_x46 := ex46
              refine ⟨fun c47 => ?_, fun c47 => ?_⟩
              · exact hq _ _ hI g0 (Or.inl rfl) rfl
              · refine ⟨fun c48 => ?_, fun c48 => ?_⟩
                · exact hq _ _ hI g0 (Or.inl rfl) rfl
                · exact hq _ _ hI g0 (Or.inr rfl) rfl
            · refine m_X4_is hI o_v0 (by decide) hT (fun x49 S50 hI2 g51 b_x49 p_x49 => ?_)
              subst p_x49
              intro _ _
              have bb_x49 : x49 = 0 ∨ x49 = 1 := b_x49
              refine ⟨fun c53 => ?_, fun c53 => ?_⟩
              · refine u_X4_canBeName_81 ?_
                refine u_X4_canBeName_86 ?_
                refine ⟨o_v0, ?_⟩
                intro x54 ex54
                have d_x54 := ex54
                refine ⟨fun c55 => ?_, fun c55 => ?_⟩
                · exact hq _ _ hI g0 (Or.inl rfl) rfl
                · refine ⟨fun c56 => ?_, fun c56 => ?_⟩
                  · exact hq _ _ hI g0 (Or.inl rfl) rfl
                  · exact hq _ _ hI g0 (Or.inr rfl) rfl
              · refine m_X4_is hI o_v0 (by decide) hT (fun x57 S58 hI2 g59 b_x57 p_x57 => ?_)
                subst p_x57
                intro _ _
                have bb_x57 : x57 = 0 ∨ x57 = 1 := b_x57
                refine ⟨fun c61 => ?_, fun c61 => ?_⟩
                · refine u_X4_canBeName_81 ?_
                  refine u_X4_canBeName_86 ?_
                  refine ⟨o_v0, ?_⟩
                  intro x62 ex62
                  have d_x62 := ex62
                  refine ⟨fun c63 => ?_, fun c63 => ?_⟩
                  · exact hq _ _ hI g0 (Or.inl rfl) rfl
                  · refine ⟨fun c64 => ?_, fun c64 => ?_⟩
                    · exact hq _ _ hI g0 (Or.inl rfl) rfl
                    · exact hq _ _ hI g0 (Or.inr rfl) rfl
                · refine m_X4_is hI o_v0 (by decide) hT (fun x65 S66 hI2 g67 b_x65 p_x65 => ?_)
                  subst p_x65
                  intro _ _
                  have bb_x65 : x65 = 0 ∨ x65 = 1 := b_x65
                  refine ⟨fun c69 => ?_, fun c69 => ?_⟩
                  · refine u_X4_canBeName_86 ?_
                    refine ⟨o_v0, ?_⟩
                    intro x70 ex70
                    have d_x70 := ex70
                    refine ⟨fun c71 => ?_, fun c71 => ?_⟩
                    · exact hq _ _ hI g0 (Or.inl rfl) rfl
                    · refine ⟨fun c72 => ?_, fun c72 => ?_⟩
                      · exact hq _ _ hI g0 (Or.inl rfl) rfl
                      · exact hq _ _ hI g0 (Or.inr rfl) rfl
                  · refine u_X4_canBeName_81 ?_
                    refine u_X4_canBeName_86 ?_
                    refine ⟨o_v0, ?_⟩
                    intro x73 ex73
                    have d_x73 := ex73
                    refine ⟨fun c74 => ?_, fun c74 => ?_⟩
                    · exact hq _ _ hI g0 (Or.inl rfl) rfl
                    · refine ⟨fun c75 => ?_, fun c75 => ?_⟩
                      · exact hq _ _ hI g0 (Or.inl rfl) rfl
                      · exact hq _ _ hI g0 (Or.inr rfl) rfl
set_option maxHeartbeats 4000000 in
set_option maxRecDepth 20000 in
theorem m_X4_exchange {v0 : Nat} {v1 : Nat} {Q : Nat → HS → Prop} {S : HS} (hI : IV S) (o_v0 : ob S v0 4) (o_v1 : ob S v1 8)     (hq : ∀ (r : Nat) (T : HS), IV T → Gr S T → FRI [] [(4, 5)] S T → ob T r 8 → Q r T) : P_X4_exchange v0 v1 Q S := by
  have g0 := gr_rf S
  have f0 := fri_rf [] [(4, 5)] S
  refine u_X4_exchange ?_
  refine u_X4_exchange_0 ?_
  refine ⟨o_v0, ?_⟩
  obtain ⟨a1, ea1, o_a1, -⟩ := sh 12 rfl hI o_v0
  refine ⟨a1, ea1, ?_⟩
  have hI := iv_sR (j := 5) (v := v1) hI o_v0 (by decide) (by decide) (sh_one (by decide) ⟨o_v1, Or.inl rfl⟩)
  have f0 : FRI _ _ _ (sR S v0 5 (some v1)) := fri_sR (S := S) g0 f0 o_v0 (by decide)
  exact hq _ _ hI g0 f0 o_a1
set_option maxHeartbeats 4000000 in
set_option maxRecDepth 20000 in
theorem m_X4_findName {v0 : Nat} {Q : Int32 → HS → Prop} {S : HS} (hI : IV S) (o_v0 : ob S v0 4)    (hT : TX S v0) (hq : ∀ (r : Int32) (T : HS), IV T → Gr S T → (S = T) → Q r T) : P_X4_findName v0 Q S := by
  have g0 := gr_rf S
  refine u_X4_findName ?_
  refine u_X4_findName_0 ?_
  refine i_X4_findName_2 (fun (y0 : Nat) (y1 : Int32) (Z : HS) => ((2147483647 : Int32).toInt - y1.toInt).toNat) (fun (y0 : Nat) (y1 : Int32) (Z : HS) => (S = Z) ∧ (v0 = y0) ∧ (0 ≤ y1)) ?_ _ _ _ ⟨rfl, rfl, (q82)⟩
  intro w4 w6 S1 X7 ⟨eS1, q5, i1⟩ ih8
  subst q5
  subst eS1
  refine u_X4_findName_2 ?_
  refine ⟨o_v0, ?_⟩
  intro x9 ex9
  have r_x9 : (0 : Int32) ≤ x9 ∧ x9 ≤ (12 : Int32) := by rw [ex9]; exact nu 7 rfl hI o_v0
  have d_x9 := ex9
  refine ⟨fun c10 => ?_, fun c10 => ?_⟩
  · exact hq _ _ hI g0 rfl
  · refine ⟨fun c11 => ?_, fun c11 => ?_⟩
    · exact hq _ _ hI g0 rfl
    · obtain ⟨a12, ea12, o_a12, l_a12⟩ := shl 13 rfl hI o_v0
      refine ⟨a12, ea12, ?_⟩
      refine ⟨o_a12, ?_⟩
      refine ⟨(vin l_a12 (m := 12) (by decide) (q800 i1 r_x9 c10 c11)), ?_⟩
      intro x13 ex13
      intro x14 ex14
      have dj_x14 := ex14
      refine ⟨fun c15 => ?_, fun c15 => ?_⟩
      · intro x16 ex16
        exact ih8 _ _ _ ⟨rfl, rfl, (q801 i1 r_x9 c10 c11 c15 ex16)⟩ (mu_up (q802 i1 r_x9 c10 c11 c15 ex16) (q803 i1 r_x9 c10 c11 c15 ex16))
      · obtain ⟨a17, ea17, o_a17, l_a17⟩ := shl 14 rfl hI o_v0
        refine ⟨a17, ea17, ?_⟩
        refine ⟨o_a17, ?_⟩
        refine ⟨(vin l_a17 (m := 12) (by decide) (q804 i1 r_x9 c10 c11 c15)), ?_⟩
        intro x18 ex18
        exact hq _ _ hI g0 rfl
set_option maxHeartbeats 4000000 in
set_option maxRecDepth 20000 in
theorem m_X8_isTold {v0 : Nat} {Q : Int32 → HS → Prop} {S : HS} (hI : IV S) (o_v0 : ob S v0 8)     (hq : ∀ (r : Int32) (T : HS), IV T → Gr S T → bl r → (S = T) → Q r T) : P_X8_isTold v0 Q S := by
  have g0 := gr_rf S
  refine u_X8_isTold ?_
  refine u_X8_isTold_0 ?_
  refine ⟨o_v0, ?_⟩
  intro x1 ex1
  have r_x1 : (0 : Int32) ≤ x1 ∧ x1 ≤ (60 : Int32) := by rw [ex1]; exact nu 10 rfl hI o_v0
  have d_x1 := ex1
  refine ⟨fun c2 => ?_, fun c2 => ?_⟩
  · exact hq _ _ hI g0 (Or.inl rfl) rfl
  · exact hq _ _ hI g0 (Or.inr rfl) rfl
set_option maxHeartbeats 4000000 in
set_option maxRecDepth 20000 in
theorem m_X4_hasRoom {v0 : Nat} {v1 : Int32} {v2 : Int32} {Q : Int32 → HS → Prop} {S : HS} (hI : IV S) (o_v0 : ob S v0 4)    (hT : TX S v0) (hq : ∀ (r : Int32) (T : HS), IV T → Gr S T → FRI [(4, 0), (4, 1), (4, 4), (4, 6), (4, 7)] [] S T → bl r → (TX T v0) ∧ (r = 1 → v1 < v2) → Q r T) : P_X4_hasRoom v0 v1 v2 Q S := by
  have g0 := gr_rf S
  have f0 := fri_rf [(4, 0), (4, 1), (4, 4), (4, 6), (4, 7)] [] S
  refine u_X4_hasRoom ?_
  refine u_X4_hasRoom_0 ?_
  refine ⟨o_v0, ?_⟩
  obtain ⟨a1, ea1, o_a1, -⟩ := sh 12 rfl hI o_v0
  refine ⟨a1, ea1, ?_⟩
  refine ⟨o_a1, ?_⟩
  refine m_X8_isTold hI o_a1 (fun x2 S3 hI2 g4 b_x2 p_x2 => ?_)
  subst p_x2
  intro _ _
  have bb_x2 : x2 = 0 ∨ x2 = 1 := b_x2
  refine ⟨fun c6 => ?_, fun c6 => ?_⟩
  · refine ⟨fun c7 => ?_, fun c7 => ?_⟩
    · refine m_X4_next hI o_v0 hT (fun S9 hI g10 fc11 p_S9 => ?_)
      obtain hT := p_S9
      have ea1 := (frr_at fc11 (by decide) (by decide) o_v0).trans ea1
      have f0 := fri_tr (S := S) g0 f0 fc11 (by decide) (by decide)
      have o_a1 := gr_ob g10 o_a1
      have o_v0 := gr_ob g10 o_v0
      have g0 := gr_tr (T := S) g0 g10
      intro _
      exact hq _ _ hI g0 f0 (Or.inr rfl) ⟨hT, (q850 bb_x2 c6 c7)⟩
    · refine u_X4_fail ?_
      refine u_X4_fail_0 ?_
      refine ⟨o_v0, ?_⟩
      have hI := iv_sI (j := 0) (v := (5 : Int32)) hI o_v0 (by decide) (nu_free (by decide))
      have f0 : FRI _ _ _ (sI S v0 0 (5 : Int32)) := fri_sI (S := S) g0 f0 o_v0 (by decide)
      obtain ⟨y12, hy12⟩ : ∃ z : Int32, z = (5 : Int32) := ⟨_, rfl⟩
      have d_y12 : y12 = fI (sI S v0 0 (5 : Int32)) v0 0 := hy12.trans (u2_self _ _ _ _).symm
      intro x13 ex13
      have d_x13 := ex13
      have hI := iv_sI (j := 1) (v := x13) hI o_v0 (by decide) (nu_free (by decide))
      have f0 : FRI _ _ _ (sI (sI S v0 0 (5 : Int32)) v0 1 x13) := fri_sI (S := sI S v0 0 (5 : Int32)) g0 f0 o_v0 (by decide)
      have d_y12 : y12 = fI (sI (sI S v0 0 (5 : Int32)) v0 1 x13) v0 0 := d_y12.trans (rd_j (by decide)).symm
      have d_x13 : x13 = fI (sI (sI S v0 0 (5 : Int32)) v0 1 x13) v0 7 := d_x13.trans (rd_j (by decide)).symm
      have d_x13 : x13 = fI (sI (sI S v0 0 (5 : Int32)) v0 1 x13) v0 1 := (u2_self _ _ _ _).symm
      intro _ _
      exact hq _ _ hI g0 f0 (Or.inl rfl) ⟨hT, (q851 bb_x2 c6 c7)⟩
  · refine u_X4_fail ?_
    refine u_X4_fail_0 ?_
    refine ⟨o_v0, ?_⟩
    have hI := iv_sI (j := 0) (v := (6 : Int32)) hI o_v0 (by decide) (nu_free (by decide))
    have f0 : FRI _ _ _ (sI S v0 0 (6 : Int32)) := fri_sI (S := S) g0 f0 o_v0 (by decide)
    obtain ⟨y14, hy14⟩ : ∃ z : Int32, z = (6 : Int32) := ⟨_, rfl⟩
    have d_y14 : y14 = fI (sI S v0 0 (6 : Int32)) v0 0 := hy14.trans (u2_self _ _ _ _).symm
    intro x15 ex15
    have d_x15 := ex15
    have hI := iv_sI (j := 1) (v := x15) hI o_v0 (by decide) (nu_free (by decide))
    have f0 : FRI _ _ _ (sI (sI S v0 0 (6 : Int32)) v0 1 x15) := fri_sI (S := sI S v0 0 (6 : Int32)) g0 f0 o_v0 (by decide)
    have d_y14 : y14 = fI (sI (sI S v0 0 (6 : Int32)) v0 1 x15) v0 0 := d_y14.trans (rd_j (by decide)).symm
    have d_x15 : x15 = fI (sI (sI S v0 0 (6 : Int32)) v0 1 x15) v0 7 := d_x15.trans (rd_j (by decide)).symm
    have d_x15 : x15 = fI (sI (sI S v0 0 (6 : Int32)) v0 1 x15) v0 1 := (u2_self _ _ _ _).symm
    intro _ _
    exact hq _ _ hI g0 f0 (Or.inl rfl) ⟨hT, (q852 bb_x2 c6)⟩
set_option maxHeartbeats 4000000 in
set_option maxRecDepth 20000 in
theorem m_X4_kindOf {v0 : Nat} {v1 : Nat} {Q : Int32 → HS → Prop} {S : HS} (hI : IV S) (o_v0 : ob S v0 4) (o_v1 : ob S v1 6)    (hT : TX S v0) (hq : ∀ (r : Int32) (T : HS), IV T → Gr S T → FRI [(4, 0), (4, 1), (4, 4), (4, 6), (4, 7), (4, 9), (6, 0), (6, 1)] [] S T → bl r → (TX T v0) → Q r T) : P_X4_kindOf v0 v1 Q S := by
  have g0 := gr_rf S
  have f0 := fri_rf [(4, 0), (4, 1), (4, 4), (4, 6), (4, 7), (4, 9), (6, 0), (6, 1)] [] S
  refine u_X4_kindOf ?_
  refine u_X4_kindOf_0 ?_
  refine ⟨o_v0, ?_⟩
  have hI := iv_sI (j := 9) (v := (0 : Int32)) hI o_v0 (by decide) (nu_free (by decide))
  have f0 : FRI _ _ _ (sI S v0 9 (0 : Int32)) := fri_sI (S := S) g0 f0 o_v0 (by decide)
  obtain ⟨y1, hy1⟩ : ∃ z : Int32, z = (0 : Int32) := ⟨_, rfl⟩
  have d_y1 : y1 = fI (sI S v0 9 (0 : Int32)) v0 9 := hy1.trans (u2_self _ _ _ _).symm
  refine m_X4_is hI o_v0 (by decide) hT (fun x2 S3 hI2 g4 b_x2 p_x2 => ?_)
  subst p_x2
  intro _ _
  have bb_x2 : x2 = 0 ∨ x2 = 1 := b_x2
  refine ⟨fun c6 => ?_, fun c6 => ?_⟩
  · refine m_X4_is hI o_v0 (by decide) hT (fun x7 S8 hI2 g9 b_x7 p_x7 => ?_)
    subst p_x7
    intro _ _
    have bb_x7 : x7 = 0 ∨ x7 = 1 := b_x7
    refine ⟨fun c11 => ?_, fun c11 => ?_⟩
    · refine m_X4_is hI o_v0 (by decide) hT (fun x12 S13 hI2 g14 b_x12 p_x12 => ?_)
      subst p_x12
      intro _ _
      have bb_x12 : x12 = 0 ∨ x12 = 1 := b_x12
      refine ⟨fun c16 => ?_, fun c16 => ?_⟩
      · refine ⟨o_v1, ?_⟩
        have hI := iv_sI (j := 0) (v := (0 : Int32)) hI o_v1 (by decide) (nu_free (by decide))
        have f0 : FRI _ _ _ (sI (sI S v0 9 (0 : Int32)) v1 0 (0 : Int32)) := fri_sI (S := sI S v0 9 (0 : Int32)) g0 f0 o_v1 (by decide)
        have d_y1 : y1 = fI (sI (sI S v0 9 (0 : Int32)) v1 0 (0 : Int32)) v0 9 := d_y1.trans (sI_ne (S := sI S v0 9 (0 : Int32)) o_v1 o_v0 (by decide) 9).symm
        obtain ⟨y17, hy17⟩ : ∃ z : Int32, z = (0 : Int32) := ⟨_, rfl⟩
        have d_y17 : y17 = fI (sI (sI S v0 9 (0 : Int32)) v1 0 (0 : Int32)) v1 0 := hy17.trans (u2_self _ _ _ _).symm
        refine m_X4_word hI o_v0 (by decide) hT (fun x18 S19 hI g20 fc21 b_x18 p_x18 => ?_)
        obtain hT := p_x18
        have d_y1 := d_y1.trans (fri_at fc21 (by decide) (by decide) o_v0).symm
        have d_y17 := d_y17.trans (fri_at fc21 (by decide) (by decide) o_v1).symm
        have f0 := fri_tr (S := sI (sI S v0 9 (0 : Int32)) v1 0 (0 : Int32)) g0 f0 fc21 (by decide) (by decide)
        have o_v0 := gr_ob g20 o_v0
        have o_v1 := gr_ob g20 o_v1
        have g0 := gr_tr (T := sI (sI S v0 9 (0 : Int32)) v1 0 (0 : Int32)) g0 g20
        intro _ _
        have bb_x18 : x18 = 0 ∨ x18 = 1 := b_x18
        intro x22 ex22
        have q_x22 : x22 = y1 := ex22.trans d_y1.symm
        have d_x22 := ex22
        have hI := iv_sI (j := 1) (v := x22) hI o_v1 (by decide) (nu_free (by decide))
        have f0 : FRI _ _ _ (sI S19 v1 1 x22) := fri_sI (S := S19) g0 f0 o_v1 (by decide)
        have d_x22 : x22 = fI (sI S19 v1 1 x22) v0 9 := d_x22.trans (sI_ne (S := S19) o_v1 o_v0 (by decide) 9).symm
        have d_y17 : y17 = fI (sI S19 v1 1 x22) v1 0 := d_y17.trans (rd_j (by decide)).symm
        have d_x22 : x22 = fI (sI S19 v1 1 x22) v1 1 := (u2_self _ _ _ _).symm
        refine ⟨b_x18, ?_⟩
        exact hq _ _ hI g0 f0 b_x18 hT
      · refine ⟨o_v1, ?_⟩
        have hI := iv_sI (j := 0) (v := (3 : Int32)) hI o_v1 (by decide) (nu_free (by decide))
        have f0 : FRI _ _ _ (sI (sI S v0 9 (0 : Int32)) v1 0 (3 : Int32)) := fri_sI (S := sI S v0 9 (0 : Int32)) g0 f0 o_v1 (by decide)
        have d_y1 : y1 = fI (sI (sI S v0 9 (0 : Int32)) v1 0 (3 : Int32)) v0 9 := d_y1.trans (sI_ne (S := sI S v0 9 (0 : Int32)) o_v1 o_v0 (by decide) 9).symm
        obtain ⟨y23, hy23⟩ : ∃ z : Int32, z = (3 : Int32) := ⟨_, rfl⟩
        have d_y23 : y23 = fI (sI (sI S v0 9 (0 : Int32)) v1 0 (3 : Int32)) v1 0 := hy23.trans (u2_self _ _ _ _).symm
        refine m_X4_wordAndWhole hI o_v0 (by decide) hT (fun x24 S25 hI g26 fc27 b_x24 p_x24 => ?_)
        obtain ⟨hT, pf9_S25⟩ := p_x24
        have d_y23 := d_y23.trans (fri_at fc27 (by decide) (by decide) o_v1).symm
        have f0 := fri_tr (S := sI (sI S v0 9 (0 : Int32)) v1 0 (3 : Int32)) g0 f0 fc27 (by decide) (by decide)
        have o_v0 := gr_ob g26 o_v0
        have o_v1 := gr_ob g26 o_v1
        have g0 := gr_tr (T := sI (sI S v0 9 (0 : Int32)) v1 0 (3 : Int32)) g0 g26
        obtain ⟨y28, d_y28⟩ : ∃ z : Int32, z = fI S25 v0 9 := ⟨_, rfl⟩
        have p_y28 : x24 = 1 → (1 : Int32) ≤ y28 ∧ y28 ≤ (99 : Int32) := by rw [d_y28]; exact pf9_S25
        intro _ _
        have bb_x24 : x24 = 0 ∨ x24 = 1 := b_x24
        intro x29 ex29
        have q_x29 : x29 = y28 := ex29.trans d_y28.symm
        have d_x29 := ex29
        have hI := iv_sI (j := 1) (v := x29) hI o_v1 (by decide) (nu_free (by decide))
        have f0 : FRI _ _ _ (sI S25 v1 1 x29) := fri_sI (S := S25) g0 f0 o_v1 (by decide)
        have d_y23 : y23 = fI (sI S25 v1 1 x29) v1 0 := d_y23.trans (rd_j (by decide)).symm
        have d_x29 : x29 = fI (sI S25 v1 1 x29) v0 9 := d_x29.trans (sI_ne (S := S25) o_v1 o_v0 (by decide) 9).symm
        have d_x29 : x29 = fI (sI S25 v1 1 x29) v1 1 := (u2_self _ _ _ _).symm
        refine ⟨b_x24, ?_⟩
        exact hq _ _ hI g0 f0 b_x24 hT
    · refine ⟨o_v1, ?_⟩
      have hI := iv_sI (j := 0) (v := (2 : Int32)) hI o_v1 (by decide) (nu_free (by decide))
      have f0 : FRI _ _ _ (sI (sI S v0 9 (0 : Int32)) v1 0 (2 : Int32)) := fri_sI (S := sI S v0 9 (0 : Int32)) g0 f0 o_v1 (by decide)
      have d_y1 : y1 = fI (sI (sI S v0 9 (0 : Int32)) v1 0 (2 : Int32)) v0 9 := d_y1.trans (sI_ne (S := sI S v0 9 (0 : Int32)) o_v1 o_v0 (by decide) 9).symm
      obtain ⟨y30, hy30⟩ : ∃ z : Int32, z = (2 : Int32) := ⟨_, rfl⟩
      have d_y30 : y30 = fI (sI (sI S v0 9 (0 : Int32)) v1 0 (2 : Int32)) v1 0 := hy30.trans (u2_self _ _ _ _).symm
      refine m_X4_wordAndWhole hI o_v0 (by decide) hT (fun x31 S32 hI g33 fc34 b_x31 p_x31 => ?_)
      obtain ⟨hT, pf9_S32⟩ := p_x31
      have d_y30 := d_y30.trans (fri_at fc34 (by decide) (by decide) o_v1).symm
      have f0 := fri_tr (S := sI (sI S v0 9 (0 : Int32)) v1 0 (2 : Int32)) g0 f0 fc34 (by decide) (by decide)
      have o_v0 := gr_ob g33 o_v0
      have o_v1 := gr_ob g33 o_v1
      have g0 := gr_tr (T := sI (sI S v0 9 (0 : Int32)) v1 0 (2 : Int32)) g0 g33
      obtain ⟨y35, d_y35⟩ : ∃ z : Int32, z = fI S32 v0 9 := ⟨_, rfl⟩
      have p_y35 : x31 = 1 → (0 : Int32) ≤ y35 ∧ y35 ≤ (999 : Int32) := by rw [d_y35]; exact pf9_S32
      intro _ _
      have bb_x31 : x31 = 0 ∨ x31 = 1 := b_x31
      intro x36 ex36
      have q_x36 : x36 = y35 := ex36.trans d_y35.symm
      have d_x36 := ex36
      have hI := iv_sI (j := 1) (v := x36) hI o_v1 (by decide) (nu_free (by decide))
      have f0 : FRI _ _ _ (sI S32 v1 1 x36) := fri_sI (S := S32) g0 f0 o_v1 (by decide)
      have d_y30 : y30 = fI (sI S32 v1 1 x36) v1 0 := d_y30.trans (rd_j (by decide)).symm
      have d_x36 : x36 = fI (sI S32 v1 1 x36) v0 9 := d_x36.trans (sI_ne (S := S32) o_v1 o_v0 (by decide) 9).symm
      have d_x36 : x36 = fI (sI S32 v1 1 x36) v1 1 := (u2_self _ _ _ _).symm
      refine ⟨b_x31, ?_⟩
      exact hq _ _ hI g0 f0 b_x31 hT
  · refine ⟨o_v1, ?_⟩
    have hI := iv_sI (j := 0) (v := (1 : Int32)) hI o_v1 (by decide) (nu_free (by decide))
    have f0 : FRI _ _ _ (sI (sI S v0 9 (0 : Int32)) v1 0 (1 : Int32)) := fri_sI (S := sI S v0 9 (0 : Int32)) g0 f0 o_v1 (by decide)
    have d_y1 : y1 = fI (sI (sI S v0 9 (0 : Int32)) v1 0 (1 : Int32)) v0 9 := d_y1.trans (sI_ne (S := sI S v0 9 (0 : Int32)) o_v1 o_v0 (by decide) 9).symm
    obtain ⟨y37, hy37⟩ : ∃ z : Int32, z = (1 : Int32) := ⟨_, rfl⟩
    have d_y37 : y37 = fI (sI (sI S v0 9 (0 : Int32)) v1 0 (1 : Int32)) v1 0 := hy37.trans (u2_self _ _ _ _).symm
    refine m_X4_wordAndWhole hI o_v0 (by decide) hT (fun x38 S39 hI g40 fc41 b_x38 p_x38 => ?_)
    obtain ⟨hT, pf9_S39⟩ := p_x38
    have d_y37 := d_y37.trans (fri_at fc41 (by decide) (by decide) o_v1).symm
    have f0 := fri_tr (S := sI (sI S v0 9 (0 : Int32)) v1 0 (1 : Int32)) g0 f0 fc41 (by decide) (by decide)
    have o_v0 := gr_ob g40 o_v0
    have o_v1 := gr_ob g40 o_v1
    have g0 := gr_tr (T := sI (sI S v0 9 (0 : Int32)) v1 0 (1 : Int32)) g0 g40
    obtain ⟨y42, d_y42⟩ : ∃ z : Int32, z = fI S39 v0 9 := ⟨_, rfl⟩
    have p_y42 : x38 = 1 → (1 : Int32) ≤ y42 ∧ y42 ≤ (8 : Int32) := by rw [d_y42]; exact pf9_S39
    intro _ _
    have bb_x38 : x38 = 0 ∨ x38 = 1 := b_x38
    intro x43 ex43
    have q_x43 : x43 = y42 := ex43.trans d_y42.symm
    have d_x43 := ex43
    have hI := iv_sI (j := 1) (v := x43) hI o_v1 (by decide) (nu_free (by decide))
    have f0 : FRI _ _ _ (sI S39 v1 1 x43) := fri_sI (S := S39) g0 f0 o_v1 (by decide)
    have d_y37 : y37 = fI (sI S39 v1 1 x43) v1 0 := d_y37.trans (rd_j (by decide)).symm
    have d_x43 : x43 = fI (sI S39 v1 1 x43) v0 9 := d_x43.trans (sI_ne (S := S39) o_v1 o_v0 (by decide) 9).symm
    have d_x43 : x43 = fI (sI S39 v1 1 x43) v1 1 := (u2_self _ _ _ _).symm
    refine ⟨b_x38, ?_⟩
    exact hq _ _ hI g0 f0 b_x38 hT
set_option maxHeartbeats 4000000 in
set_option maxRecDepth 20000 in
theorem m_X4_newName {v0 : Nat} {v1 : Int32} {Q : Int32 → HS → Prop} {S : HS} (hI : IV S) (o_v0 : ob S v0 4)    (hT : TX S v0) (hq : ∀ (r : Int32) (T : HS), IV T → Gr S T → FRI [(4, 0), (4, 1), (4, 4), (4, 6), (4, 7), (4, 10)] [] S T → bl r → (TX T v0) → Q r T) : P_X4_newName v0 v1 Q S := by
  have g0 := gr_rf S
  have f0 := fri_rf [(4, 0), (4, 1), (4, 4), (4, 6), (4, 7), (4, 10)] [] S
  refine u_X4_newName ?_
  refine u_X4_newName_0 ?_
  refine ⟨o_v0, ?_⟩
  refine m_X4_canBeName hI o_v0 hT (fun x1 S2 hI2 g3 b_x1 p_x1 => ?_)
  subst p_x1
  intro _ _
  have bb_x1 : x1 = 0 ∨ x1 = 1 := b_x1
  refine ⟨fun c5 => ?_, fun c5 => ?_⟩
  · refine m_X4_findName hI o_v0 hT (fun x6 S7 hI2 g8 p_x6 => ?_)
    subst p_x6
    intro _
    refine ⟨fun c10 => ?_, fun c10 => ?_⟩
    · intro x11 ex11
      have r_x11 : (0 : Int32) ≤ x11 ∧ x11 ≤ (12 : Int32) := by rw [ex11]; exact nu 7 rfl hI o_v0
      have d_x11 := ex11
      refine ⟨fun c12 => ?_, fun c12 => ?_⟩
      · refine u_X4_newName_69 ?_
        refine ⟨o_v0, ?_⟩
        refine m_X4_next hI o_v0 hT (fun S14 hI g15 fc16 p_S14 => ?_)
        obtain hT := p_S14
        have d_x11 := d_x11.trans (fri_at fc16 (by decide) (by decide) o_v0).symm
        have f0 := fri_tr (S := S) g0 f0 fc16 (by decide) (by decide)
        have o_v0 := gr_ob g15 o_v0
        have g0 := gr_tr (T := S) g0 g15
        intro _
        exact hq _ _ hI g0 f0 (Or.inr rfl) hT
      · obtain ⟨a17, ea17, o_a17, l_a17⟩ := shl 13 rfl hI o_v0
        refine ⟨a17, ea17, ?_⟩
        intro x18 ex18
        have r_x18 : (0 : Int32) ≤ x18 ∧ x18 ≤ (12 : Int32) := by rw [ex18]; exact nu 7 rfl hI o_v0
        have q_x18 : x18 = x11 := ex18.trans d_x11.symm
        have d_x18 := ex18
        intro x19 ex19
        have dj_x19 := ex19
        refine ⟨o_a17, ?_⟩
        have i20 : vp_in x18 (hN _ a17) := (vin l_a17 (m := 12) (by decide) (q797 bb_x1 c5 c10 r_x11 c12 r_x18 q_x18))
        refine ⟨i20, ?_⟩
        have hI := iv_aJ (i := x18.toNatClampNeg) (v := x19) hI o_v0 (by decide) ea17 o_a17 (by decide)
        obtain ⟨a21, ea21, o_a21, l_a21⟩ := shl 14 rfl hI o_v0
        refine ⟨a21, ea21, ?_⟩
        intro x22 ex22
        have r_x22 : (0 : Int32) ≤ x22 ∧ x22 ≤ (12 : Int32) := by rw [ex22]; exact nu 7 rfl hI o_v0
        have q_x22 : x22 = x18 := ex22.trans d_x18.symm
        have d_x22 := ex22
        refine ⟨o_a21, ?_⟩
        have i23 : vp_in x22 (hN _ a21) := (vin l_a21 (m := 12) (by decide) (q798 bb_x1 c5 c10 r_x11 c12 r_x18 q_x18 r_x22 q_x22))
        refine ⟨i23, ?_⟩
        have hI := iv_aI (i := x22.toNatClampNeg) (v := v1) hI o_v0 (by decide) ea21 o_a21 (by decide)
        have f0 : FRI _ _ _ (sI (sJ S a17 x18.toNatClampNeg x19) a21 x22.toNatClampNeg v1) := fri_aI (S := sJ S a17 x18.toNatClampNeg x19) g0 f0 o_a21 (by decide)
        have d_x22 : x22 = fI (sI (sJ S a17 x18.toNatClampNeg x19) a21 x22.toNatClampNeg v1) v0 10 := d_x22.trans (sI_ne (S := sJ S a17 x18.toNatClampNeg x19) o_a21 o_v0 (by decide) 10).symm
        intro x24 ex24
        have r_x24 : (0 : Int32) ≤ x24 ∧ x24 ≤ (12 : Int32) := by rw [ex24]; exact nu 7 rfl hI o_v0
        have q_x24 : x24 = x22 := ex24.trans d_x22.symm
        have d_x24 := ex24
        intro x25 ex25
        have hI := iv_sI (j := 10) (v := x25) hI o_v0 (by decide) (nu_one (lo := (0 : Int32)) (hi := (12 : Int32)) (by decide) (q799 bb_x1 c5 c10 r_x11 c12 r_x18 q_x18 r_x22 q_x22 r_x24 q_x24 ex25))
        have f0 : FRI _ _ _ (sI (sI (sJ S a17 x18.toNatClampNeg x19) a21 x22.toNatClampNeg v1) v0 10 x25) := fri_sI (S := sI (sJ S a17 x18.toNatClampNeg x19) a21 x22.toNatClampNeg v1) g0 f0 o_v0 (by decide)
        have d_x25 : x25 = fI (sI (sI (sJ S a17 x18.toNatClampNeg x19) a21 x22.toNatClampNeg v1) v0 10 x25) v0 10 := (u2_self _ _ _ _).symm
        refine u_X4_newName_69 ?_
        refine ⟨o_v0, ?_⟩
        refine m_X4_next hI o_v0 hT (fun S27 hI g28 fc29 p_S27 => ?_)
        obtain hT := p_S27
        have l_a17 := (gr_len g28 o_a17).trans l_a17
        have l_a21 := (gr_len g28 o_a21).trans l_a21
        have d_x25 := d_x25.trans (fri_at fc29 (by decide) (by decide) o_v0).symm
        have ea17 := (frr_at fc29 (by decide) (by decide) o_v0).trans ea17
        have ea21 := (frr_at fc29 (by decide) (by decide) o_v0).trans ea21
        have f0 := fri_tr (S := sI (sI (sJ S a17 x18.toNatClampNeg x19) a21 x22.toNatClampNeg v1) v0 10 x25) g0 f0 fc29 (by decide) (by decide)
        have o_a17 := gr_ob g28 o_a17
        have o_a21 := gr_ob g28 o_a21
        have o_v0 := gr_ob g28 o_v0
        have g0 := gr_tr (T := sI (sI (sJ S a17 x18.toNatClampNeg x19) a21 x22.toNatClampNeg v1) v0 10 x25) g0 g28
        intro _
        exact hq _ _ hI g0 f0 (Or.inr rfl) hT
    · refine u_X4_fail ?_
      refine u_X4_fail_0 ?_
      refine ⟨o_v0, ?_⟩
      have hI := iv_sI (j := 0) (v := (3 : Int32)) hI o_v0 (by decide) (nu_free (by decide))
      have f0 : FRI _ _ _ (sI S v0 0 (3 : Int32)) := fri_sI (S := S) g0 f0 o_v0 (by decide)
      obtain ⟨y30, hy30⟩ : ∃ z : Int32, z = (3 : Int32) := ⟨_, rfl⟩
      have d_y30 : y30 = fI (sI S v0 0 (3 : Int32)) v0 0 := hy30.trans (u2_self _ _ _ _).symm
      intro x31 ex31
      have d_x31 := ex31
      have hI := iv_sI (j := 1) (v := x31) hI o_v0 (by decide) (nu_free (by decide))
      have f0 : FRI _ _ _ (sI (sI S v0 0 (3 : Int32)) v0 1 x31) := fri_sI (S := sI S v0 0 (3 : Int32)) g0 f0 o_v0 (by decide)
      have d_y30 : y30 = fI (sI (sI S v0 0 (3 : Int32)) v0 1 x31) v0 0 := d_y30.trans (rd_j (by decide)).symm
      have d_x31 : x31 = fI (sI (sI S v0 0 (3 : Int32)) v0 1 x31) v0 7 := d_x31.trans (rd_j (by decide)).symm
      have d_x31 : x31 = fI (sI (sI S v0 0 (3 : Int32)) v0 1 x31) v0 1 := (u2_self _ _ _ _).symm
      intro _ _
      exact hq _ _ hI g0 f0 (Or.inl rfl) hT
  · refine u_X4_fail ?_
    refine u_X4_fail_0 ?_
    refine ⟨o_v0, ?_⟩
    have hI := iv_sI (j := 0) (v := (1 : Int32)) hI o_v0 (by decide) (nu_free (by decide))
    have f0 : FRI _ _ _ (sI S v0 0 (1 : Int32)) := fri_sI (S := S) g0 f0 o_v0 (by decide)
    obtain ⟨y32, hy32⟩ : ∃ z : Int32, z = (1 : Int32) := ⟨_, rfl⟩
    have d_y32 : y32 = fI (sI S v0 0 (1 : Int32)) v0 0 := hy32.trans (u2_self _ _ _ _).symm
    intro x33 ex33
    have d_x33 := ex33
    have hI := iv_sI (j := 1) (v := x33) hI o_v0 (by decide) (nu_free (by decide))
    have f0 : FRI _ _ _ (sI (sI S v0 0 (1 : Int32)) v0 1 x33) := fri_sI (S := sI S v0 0 (1 : Int32)) g0 f0 o_v0 (by decide)
    have d_y32 : y32 = fI (sI (sI S v0 0 (1 : Int32)) v0 1 x33) v0 0 := d_y32.trans (rd_j (by decide)).symm
    have d_x33 : x33 = fI (sI (sI S v0 0 (1 : Int32)) v0 1 x33) v0 7 := d_x33.trans (rd_j (by decide)).symm
    have d_x33 : x33 = fI (sI (sI S v0 0 (1 : Int32)) v0 1 x33) v0 1 := (u2_self _ _ _ _).symm
    intro _ _
    exact hq _ _ hI g0 f0 (Or.inl rfl) hT
set_option maxHeartbeats 4000000 in
set_option maxRecDepth 20000 in
theorem m_X8_clear {v0 : Nat} {Q : HS → Prop} {S : HS} (hI : IV S) (o_v0 : ob S v0 8)     (hq : ∀ (T : HS), IV T → Gr S T → FRI [(8, 0), (8, 1), (8, 2), (8, 3), (8, 4), (8, 5)] [] S T → Q T) : P_X8_clear v0 Q S := by
  have g0 := gr_rf S
  have f0 := fri_rf [(8, 0), (8, 1), (8, 2), (8, 3), (8, 4), (8, 5)] [] S
  refine u_X8_clear ?_
  refine u_X8_clear_0 ?_
  refine ⟨o_v0, ?_⟩
  have hI := iv_sI (j := 0) (v := (0 : Int32)) hI o_v0 (by decide) (nu_one (lo := (0 : Int32)) (hi := (60 : Int32)) (by decide) (q777))
  have f0 : FRI _ _ _ (sI S v0 0 (0 : Int32)) := fri_sI (S := S) g0 f0 o_v0 (by decide)
  obtain ⟨y1, hy1⟩ : ∃ z : Int32, z = (0 : Int32) := ⟨_, rfl⟩
  have d_y1 : y1 = fI (sI S v0 0 (0 : Int32)) v0 0 := hy1.trans (u2_self _ _ _ _).symm
  have hI := iv_sI (j := 1) (v := (0 : Int32)) hI o_v0 (by decide) (nu_one (lo := (0 : Int32)) (hi := (6 : Int32)) (by decide) (q778))
  have f0 : FRI _ _ _ (sI (sI S v0 0 (0 : Int32)) v0 1 (0 : Int32)) := fri_sI (S := sI S v0 0 (0 : Int32)) g0 f0 o_v0 (by decide)
  have d_y1 : y1 = fI (sI (sI S v0 0 (0 : Int32)) v0 1 (0 : Int32)) v0 0 := d_y1.trans (rd_j (by decide)).symm
  obtain ⟨y2, hy2⟩ : ∃ z : Int32, z = (0 : Int32) := ⟨_, rfl⟩
  have d_y2 : y2 = fI (sI (sI S v0 0 (0 : Int32)) v0 1 (0 : Int32)) v0 1 := hy2.trans (u2_self _ _ _ _).symm
  have hI := iv_sI (j := 2) (v := (0 : Int32)) hI o_v0 (by decide) (nu_one (lo := (0 : Int32)) (hi := (8 : Int32)) (by decide) (q779))
  have f0 : FRI _ _ _ (sI (sI (sI S v0 0 (0 : Int32)) v0 1 (0 : Int32)) v0 2 (0 : Int32)) := fri_sI (S := sI (sI S v0 0 (0 : Int32)) v0 1 (0 : Int32)) g0 f0 o_v0 (by decide)
  have d_y1 : y1 = fI (sI (sI (sI S v0 0 (0 : Int32)) v0 1 (0 : Int32)) v0 2 (0 : Int32)) v0 0 := d_y1.trans (rd_j (by decide)).symm
  have d_y2 : y2 = fI (sI (sI (sI S v0 0 (0 : Int32)) v0 1 (0 : Int32)) v0 2 (0 : Int32)) v0 1 := d_y2.trans (rd_j (by decide)).symm
  obtain ⟨y3, hy3⟩ : ∃ z : Int32, z = (0 : Int32) := ⟨_, rfl⟩
  have d_y3 : y3 = fI (sI (sI (sI S v0 0 (0 : Int32)) v0 1 (0 : Int32)) v0 2 (0 : Int32)) v0 2 := hy3.trans (u2_self _ _ _ _).symm
  have hI := iv_sI (j := 3) (v := (0 : Int32)) hI o_v0 (by decide) (nu_one (lo := (0 : Int32)) (hi := (12 : Int32)) (by decide) (q780))
  have f0 : FRI _ _ _ (sI (sI (sI (sI S v0 0 (0 : Int32)) v0 1 (0 : Int32)) v0 2 (0 : Int32)) v0 3 (0 : Int32)) := fri_sI (S := sI (sI (sI S v0 0 (0 : Int32)) v0 1 (0 : Int32)) v0 2 (0 : Int32)) g0 f0 o_v0 (by decide)
  have d_y1 : y1 = fI (sI (sI (sI (sI S v0 0 (0 : Int32)) v0 1 (0 : Int32)) v0 2 (0 : Int32)) v0 3 (0 : Int32)) v0 0 := d_y1.trans (rd_j (by decide)).symm
  have d_y2 : y2 = fI (sI (sI (sI (sI S v0 0 (0 : Int32)) v0 1 (0 : Int32)) v0 2 (0 : Int32)) v0 3 (0 : Int32)) v0 1 := d_y2.trans (rd_j (by decide)).symm
  have d_y3 : y3 = fI (sI (sI (sI (sI S v0 0 (0 : Int32)) v0 1 (0 : Int32)) v0 2 (0 : Int32)) v0 3 (0 : Int32)) v0 2 := d_y3.trans (rd_j (by decide)).symm
  obtain ⟨y4, hy4⟩ : ∃ z : Int32, z = (0 : Int32) := ⟨_, rfl⟩
  have d_y4 : y4 = fI (sI (sI (sI (sI S v0 0 (0 : Int32)) v0 1 (0 : Int32)) v0 2 (0 : Int32)) v0 3 (0 : Int32)) v0 3 := hy4.trans (u2_self _ _ _ _).symm
  have hI := iv_sI (j := 4) (v := (0 : Int32)) hI o_v0 (by decide) (nu_one (lo := (0 : Int32)) (hi := (4 : Int32)) (by decide) (q781))
  have f0 : FRI _ _ _ (sI (sI (sI (sI (sI S v0 0 (0 : Int32)) v0 1 (0 : Int32)) v0 2 (0 : Int32)) v0 3 (0 : Int32)) v0 4 (0 : Int32)) := fri_sI (S := sI (sI (sI (sI S v0 0 (0 : Int32)) v0 1 (0 : Int32)) v0 2 (0 : Int32)) v0 3 (0 : Int32)) g0 f0 o_v0 (by decide)
  have d_y1 : y1 = fI (sI (sI (sI (sI (sI S v0 0 (0 : Int32)) v0 1 (0 : Int32)) v0 2 (0 : Int32)) v0 3 (0 : Int32)) v0 4 (0 : Int32)) v0 0 := d_y1.trans (rd_j (by decide)).symm
  have d_y2 : y2 = fI (sI (sI (sI (sI (sI S v0 0 (0 : Int32)) v0 1 (0 : Int32)) v0 2 (0 : Int32)) v0 3 (0 : Int32)) v0 4 (0 : Int32)) v0 1 := d_y2.trans (rd_j (by decide)).symm
  have d_y3 : y3 = fI (sI (sI (sI (sI (sI S v0 0 (0 : Int32)) v0 1 (0 : Int32)) v0 2 (0 : Int32)) v0 3 (0 : Int32)) v0 4 (0 : Int32)) v0 2 := d_y3.trans (rd_j (by decide)).symm
  have d_y4 : y4 = fI (sI (sI (sI (sI (sI S v0 0 (0 : Int32)) v0 1 (0 : Int32)) v0 2 (0 : Int32)) v0 3 (0 : Int32)) v0 4 (0 : Int32)) v0 3 := d_y4.trans (rd_j (by decide)).symm
  obtain ⟨y5, hy5⟩ : ∃ z : Int32, z = (0 : Int32) := ⟨_, rfl⟩
  have d_y5 : y5 = fI (sI (sI (sI (sI (sI S v0 0 (0 : Int32)) v0 1 (0 : Int32)) v0 2 (0 : Int32)) v0 3 (0 : Int32)) v0 4 (0 : Int32)) v0 4 := hy5.trans (u2_self _ _ _ _).symm
  have hI := iv_sI (j := 5) (v := (0 : Int32)) hI o_v0 (by decide) (nu_one (lo := (0 : Int32)) (hi := (4 : Int32)) (by decide) (q781))
  have f0 : FRI _ _ _ (sI (sI (sI (sI (sI (sI S v0 0 (0 : Int32)) v0 1 (0 : Int32)) v0 2 (0 : Int32)) v0 3 (0 : Int32)) v0 4 (0 : Int32)) v0 5 (0 : Int32)) := fri_sI (S := sI (sI (sI (sI (sI S v0 0 (0 : Int32)) v0 1 (0 : Int32)) v0 2 (0 : Int32)) v0 3 (0 : Int32)) v0 4 (0 : Int32)) g0 f0 o_v0 (by decide)
  have d_y1 : y1 = fI (sI (sI (sI (sI (sI (sI S v0 0 (0 : Int32)) v0 1 (0 : Int32)) v0 2 (0 : Int32)) v0 3 (0 : Int32)) v0 4 (0 : Int32)) v0 5 (0 : Int32)) v0 0 := d_y1.trans (rd_j (by decide)).symm
  have d_y2 : y2 = fI (sI (sI (sI (sI (sI (sI S v0 0 (0 : Int32)) v0 1 (0 : Int32)) v0 2 (0 : Int32)) v0 3 (0 : Int32)) v0 4 (0 : Int32)) v0 5 (0 : Int32)) v0 1 := d_y2.trans (rd_j (by decide)).symm
  have d_y3 : y3 = fI (sI (sI (sI (sI (sI (sI S v0 0 (0 : Int32)) v0 1 (0 : Int32)) v0 2 (0 : Int32)) v0 3 (0 : Int32)) v0 4 (0 : Int32)) v0 5 (0 : Int32)) v0 2 := d_y3.trans (rd_j (by decide)).symm
  have d_y4 : y4 = fI (sI (sI (sI (sI (sI (sI S v0 0 (0 : Int32)) v0 1 (0 : Int32)) v0 2 (0 : Int32)) v0 3 (0 : Int32)) v0 4 (0 : Int32)) v0 5 (0 : Int32)) v0 3 := d_y4.trans (rd_j (by decide)).symm
  have d_y5 : y5 = fI (sI (sI (sI (sI (sI (sI S v0 0 (0 : Int32)) v0 1 (0 : Int32)) v0 2 (0 : Int32)) v0 3 (0 : Int32)) v0 4 (0 : Int32)) v0 5 (0 : Int32)) v0 4 := d_y5.trans (rd_j (by decide)).symm
  obtain ⟨y6, hy6⟩ : ∃ z : Int32, z = (0 : Int32) := ⟨_, rfl⟩
  have d_y6 : y6 = fI (sI (sI (sI (sI (sI (sI S v0 0 (0 : Int32)) v0 1 (0 : Int32)) v0 2 (0 : Int32)) v0 3 (0 : Int32)) v0 4 (0 : Int32)) v0 5 (0 : Int32)) v0 5 := hy6.trans (u2_self _ _ _ _).symm
  exact hq _ hI g0 f0
set_option maxHeartbeats 4000000 in
set_option maxRecDepth 20000 in
theorem m_X4_open {v0 : Nat} {v1 : Nat} {v2 : Int32} {Q : HS → Prop} {S : HS} (hI : IV S) (o_v0 : ob S v0 4) (o_v1 : ob S v1 12) (l_v1 : hN S v1 = 900)  (h2 : 0 ≤ v2)  (hq : ∀ (T : HS), IV T → Gr S T → FRI [(4, 0), (4, 1), (4, 3), (4, 4), (4, 6), (4, 7), (4, 10), (8, 0), (8, 1), (8, 2), (8, 3), (8, 4), (8, 5)] [(4, 2)] S T → (TX T v0) → Q T) : P_X4_open v0 v1 v2 Q S := by
  have g0 := gr_rf S
  have f0 := fri_rf [(4, 0), (4, 1), (4, 3), (4, 4), (4, 6), (4, 7), (4, 10), (8, 0), (8, 1), (8, 2), (8, 3), (8, 4), (8, 5)] [(4, 2)] S
  refine u_X4_open ?_
  refine u_X4_open_0 ?_
  refine ⟨o_v0, ?_⟩
  have hI := iv_sR (j := 2) (v := v1) hI o_v0 (by decide) (by decide) (sh_free (by decide))
  have hT : TX (sR S v0 2 (some v1)) v0 := ⟨v1, u2_self _ _ _ _, o_v1, l_v1⟩
  have f0 : FRI _ _ _ (sR S v0 2 (some v1)) := fri_sR (S := S) g0 f0 o_v0 (by decide)
  refine ⟨o_v1, ?_⟩
  have n_v1 : nI (hN (sR S v0 2 (some v1)) v1) = 900 := by rw [show hN (sR S v0 2 (some v1)) v1 = 900 from l_v1]; decide
  intro x1 ex1
  rw [n_v1] at ex1
  have hI := iv_sI (j := 3) (v := x1) hI o_v0 (by decide) (nu_one (lo := (0 : Int32)) (hi := (900 : Int32)) (by decide) (q849 h2 ex1))
  have f0 : FRI _ _ _ (sI (sR S v0 2 (some v1)) v0 3 x1) := fri_sI (S := sR S v0 2 (some v1)) g0 f0 o_v0 (by decide)
  have d_x1 : x1 = fI (sI (sR S v0 2 (some v1)) v0 3 x1) v0 3 := (u2_self _ _ _ _).symm
  have hI := iv_sI (j := 4) (v := (0 : Int32)) hI o_v0 (by decide) (nu_free (by decide))
  have f0 : FRI _ _ _ (sI (sI (sR S v0 2 (some v1)) v0 3 x1) v0 4 (0 : Int32)) := fri_sI (S := sI (sR S v0 2 (some v1)) v0 3 x1) g0 f0 o_v0 (by decide)
  have d_x1 : x1 = fI (sI (sI (sR S v0 2 (some v1)) v0 3 x1) v0 4 (0 : Int32)) v0 3 := d_x1.trans (rd_j (by decide)).symm
  obtain ⟨y2, hy2⟩ : ∃ z : Int32, z = (0 : Int32) := ⟨_, rfl⟩
  have d_y2 : y2 = fI (sI (sI (sR S v0 2 (some v1)) v0 3 x1) v0 4 (0 : Int32)) v0 4 := hy2.trans (u2_self _ _ _ _).symm
  have hI := iv_sI (j := 0) (v := (0 : Int32)) hI o_v0 (by decide) (nu_free (by decide))
  have f0 : FRI _ _ _ (sI (sI (sI (sR S v0 2 (some v1)) v0 3 x1) v0 4 (0 : Int32)) v0 0 (0 : Int32)) := fri_sI (S := sI (sI (sR S v0 2 (some v1)) v0 3 x1) v0 4 (0 : Int32)) g0 f0 o_v0 (by decide)
  have d_x1 : x1 = fI (sI (sI (sI (sR S v0 2 (some v1)) v0 3 x1) v0 4 (0 : Int32)) v0 0 (0 : Int32)) v0 3 := d_x1.trans (rd_j (by decide)).symm
  have d_y2 : y2 = fI (sI (sI (sI (sR S v0 2 (some v1)) v0 3 x1) v0 4 (0 : Int32)) v0 0 (0 : Int32)) v0 4 := d_y2.trans (rd_j (by decide)).symm
  obtain ⟨y3, hy3⟩ : ∃ z : Int32, z = (0 : Int32) := ⟨_, rfl⟩
  have d_y3 : y3 = fI (sI (sI (sI (sR S v0 2 (some v1)) v0 3 x1) v0 4 (0 : Int32)) v0 0 (0 : Int32)) v0 0 := hy3.trans (u2_self _ _ _ _).symm
  have hI := iv_sI (j := 1) (v := (0 : Int32)) hI o_v0 (by decide) (nu_free (by decide))
  have f0 : FRI _ _ _ (sI (sI (sI (sI (sR S v0 2 (some v1)) v0 3 x1) v0 4 (0 : Int32)) v0 0 (0 : Int32)) v0 1 (0 : Int32)) := fri_sI (S := sI (sI (sI (sR S v0 2 (some v1)) v0 3 x1) v0 4 (0 : Int32)) v0 0 (0 : Int32)) g0 f0 o_v0 (by decide)
  have d_x1 : x1 = fI (sI (sI (sI (sI (sR S v0 2 (some v1)) v0 3 x1) v0 4 (0 : Int32)) v0 0 (0 : Int32)) v0 1 (0 : Int32)) v0 3 := d_x1.trans (rd_j (by decide)).symm
  have d_y2 : y2 = fI (sI (sI (sI (sI (sR S v0 2 (some v1)) v0 3 x1) v0 4 (0 : Int32)) v0 0 (0 : Int32)) v0 1 (0 : Int32)) v0 4 := d_y2.trans (rd_j (by decide)).symm
  have d_y3 : y3 = fI (sI (sI (sI (sI (sR S v0 2 (some v1)) v0 3 x1) v0 4 (0 : Int32)) v0 0 (0 : Int32)) v0 1 (0 : Int32)) v0 0 := d_y3.trans (rd_j (by decide)).symm
  obtain ⟨y4, hy4⟩ : ∃ z : Int32, z = (0 : Int32) := ⟨_, rfl⟩
  have d_y4 : y4 = fI (sI (sI (sI (sI (sR S v0 2 (some v1)) v0 3 x1) v0 4 (0 : Int32)) v0 0 (0 : Int32)) v0 1 (0 : Int32)) v0 1 := hy4.trans (u2_self _ _ _ _).symm
  have hI := iv_sI (j := 10) (v := (0 : Int32)) hI o_v0 (by decide) (nu_one (lo := (0 : Int32)) (hi := (12 : Int32)) (by decide) (q780))
  have f0 : FRI _ _ _ (sI (sI (sI (sI (sI (sR S v0 2 (some v1)) v0 3 x1) v0 4 (0 : Int32)) v0 0 (0 : Int32)) v0 1 (0 : Int32)) v0 10 (0 : Int32)) := fri_sI (S := sI (sI (sI (sI (sR S v0 2 (some v1)) v0 3 x1) v0 4 (0 : Int32)) v0 0 (0 : Int32)) v0 1 (0 : Int32)) g0 f0 o_v0 (by decide)
  have d_x1 : x1 = fI (sI (sI (sI (sI (sI (sR S v0 2 (some v1)) v0 3 x1) v0 4 (0 : Int32)) v0 0 (0 : Int32)) v0 1 (0 : Int32)) v0 10 (0 : Int32)) v0 3 := d_x1.trans (rd_j (by decide)).symm
  have d_y2 : y2 = fI (sI (sI (sI (sI (sI (sR S v0 2 (some v1)) v0 3 x1) v0 4 (0 : Int32)) v0 0 (0 : Int32)) v0 1 (0 : Int32)) v0 10 (0 : Int32)) v0 4 := d_y2.trans (rd_j (by decide)).symm
  have d_y3 : y3 = fI (sI (sI (sI (sI (sI (sR S v0 2 (some v1)) v0 3 x1) v0 4 (0 : Int32)) v0 0 (0 : Int32)) v0 1 (0 : Int32)) v0 10 (0 : Int32)) v0 0 := d_y3.trans (rd_j (by decide)).symm
  have d_y4 : y4 = fI (sI (sI (sI (sI (sI (sR S v0 2 (some v1)) v0 3 x1) v0 4 (0 : Int32)) v0 0 (0 : Int32)) v0 1 (0 : Int32)) v0 10 (0 : Int32)) v0 1 := d_y4.trans (rd_j (by decide)).symm
  obtain ⟨y5, hy5⟩ : ∃ z : Int32, z = (0 : Int32) := ⟨_, rfl⟩
  have d_y5 : y5 = fI (sI (sI (sI (sI (sI (sR S v0 2 (some v1)) v0 3 x1) v0 4 (0 : Int32)) v0 0 (0 : Int32)) v0 1 (0 : Int32)) v0 10 (0 : Int32)) v0 10 := hy5.trans (u2_self _ _ _ _).symm
  obtain ⟨a6, ea6, o_a6, -⟩ := sh 12 rfl hI o_v0
  refine ⟨a6, ea6, ?_⟩
  refine ⟨o_a6, ?_⟩
  refine u_X8_clear ?_
  refine u_X8_clear_0 ?_
  refine ⟨o_a6, ?_⟩
  have hI := iv_sI (j := 0) (v := (0 : Int32)) hI o_a6 (by decide) (nu_one (lo := (0 : Int32)) (hi := (60 : Int32)) (by decide) (q777))
  have f0 : FRI _ _ _ (sI (sI (sI (sI (sI (sI (sR S v0 2 (some v1)) v0 3 x1) v0 4 (0 : Int32)) v0 0 (0 : Int32)) v0 1 (0 : Int32)) v0 10 (0 : Int32)) a6 0 (0 : Int32)) := fri_sI (S := sI (sI (sI (sI (sI (sR S v0 2 (some v1)) v0 3 x1) v0 4 (0 : Int32)) v0 0 (0 : Int32)) v0 1 (0 : Int32)) v0 10 (0 : Int32)) g0 f0 o_a6 (by decide)
  have d_x1 : x1 = fI (sI (sI (sI (sI (sI (sI (sR S v0 2 (some v1)) v0 3 x1) v0 4 (0 : Int32)) v0 0 (0 : Int32)) v0 1 (0 : Int32)) v0 10 (0 : Int32)) a6 0 (0 : Int32)) v0 3 := d_x1.trans (sI_ne (S := sI (sI (sI (sI (sI (sR S v0 2 (some v1)) v0 3 x1) v0 4 (0 : Int32)) v0 0 (0 : Int32)) v0 1 (0 : Int32)) v0 10 (0 : Int32)) o_a6 o_v0 (by decide) 3).symm
  have d_y2 : y2 = fI (sI (sI (sI (sI (sI (sI (sR S v0 2 (some v1)) v0 3 x1) v0 4 (0 : Int32)) v0 0 (0 : Int32)) v0 1 (0 : Int32)) v0 10 (0 : Int32)) a6 0 (0 : Int32)) v0 4 := d_y2.trans (sI_ne (S := sI (sI (sI (sI (sI (sR S v0 2 (some v1)) v0 3 x1) v0 4 (0 : Int32)) v0 0 (0 : Int32)) v0 1 (0 : Int32)) v0 10 (0 : Int32)) o_a6 o_v0 (by decide) 4).symm
  have d_y3 : y3 = fI (sI (sI (sI (sI (sI (sI (sR S v0 2 (some v1)) v0 3 x1) v0 4 (0 : Int32)) v0 0 (0 : Int32)) v0 1 (0 : Int32)) v0 10 (0 : Int32)) a6 0 (0 : Int32)) v0 0 := d_y3.trans (sI_ne (S := sI (sI (sI (sI (sI (sR S v0 2 (some v1)) v0 3 x1) v0 4 (0 : Int32)) v0 0 (0 : Int32)) v0 1 (0 : Int32)) v0 10 (0 : Int32)) o_a6 o_v0 (by decide) 0).symm
  have d_y4 : y4 = fI (sI (sI (sI (sI (sI (sI (sR S v0 2 (some v1)) v0 3 x1) v0 4 (0 : Int32)) v0 0 (0 : Int32)) v0 1 (0 : Int32)) v0 10 (0 : Int32)) a6 0 (0 : Int32)) v0 1 := d_y4.trans (sI_ne (S := sI (sI (sI (sI (sI (sR S v0 2 (some v1)) v0 3 x1) v0 4 (0 : Int32)) v0 0 (0 : Int32)) v0 1 (0 : Int32)) v0 10 (0 : Int32)) o_a6 o_v0 (by decide) 1).symm
  have d_y5 : y5 = fI (sI (sI (sI (sI (sI (sI (sR S v0 2 (some v1)) v0 3 x1) v0 4 (0 : Int32)) v0 0 (0 : Int32)) v0 1 (0 : Int32)) v0 10 (0 : Int32)) a6 0 (0 : Int32)) v0 10 := d_y5.trans (sI_ne (S := sI (sI (sI (sI (sI (sR S v0 2 (some v1)) v0 3 x1) v0 4 (0 : Int32)) v0 0 (0 : Int32)) v0 1 (0 : Int32)) v0 10 (0 : Int32)) o_a6 o_v0 (by decide) 10).symm
  obtain ⟨y7, hy7⟩ : ∃ z : Int32, z = (0 : Int32) := ⟨_, rfl⟩
  have d_y7 : y7 = fI (sI (sI (sI (sI (sI (sI (sR S v0 2 (some v1)) v0 3 x1) v0 4 (0 : Int32)) v0 0 (0 : Int32)) v0 1 (0 : Int32)) v0 10 (0 : Int32)) a6 0 (0 : Int32)) a6 0 := hy7.trans (u2_self _ _ _ _).symm
  have hI := iv_sI (j := 1) (v := (0 : Int32)) hI o_a6 (by decide) (nu_one (lo := (0 : Int32)) (hi := (6 : Int32)) (by decide) (q778))
  have f0 : FRI _ _ _ (sI (sI (sI (sI (sI (sI (sI (sR S v0 2 (some v1)) v0 3 x1) v0 4 (0 : Int32)) v0 0 (0 : Int32)) v0 1 (0 : Int32)) v0 10 (0 : Int32)) a6 0 (0 : Int32)) a6 1 (0 : Int32)) := fri_sI (S := sI (sI (sI (sI (sI (sI (sR S v0 2 (some v1)) v0 3 x1) v0 4 (0 : Int32)) v0 0 (0 : Int32)) v0 1 (0 : Int32)) v0 10 (0 : Int32)) a6 0 (0 : Int32)) g0 f0 o_a6 (by decide)
  have d_x1 : x1 = fI (sI (sI (sI (sI (sI (sI (sI (sR S v0 2 (some v1)) v0 3 x1) v0 4 (0 : Int32)) v0 0 (0 : Int32)) v0 1 (0 : Int32)) v0 10 (0 : Int32)) a6 0 (0 : Int32)) a6 1 (0 : Int32)) v0 3 := d_x1.trans (sI_ne (S := sI (sI (sI (sI (sI (sI (sR S v0 2 (some v1)) v0 3 x1) v0 4 (0 : Int32)) v0 0 (0 : Int32)) v0 1 (0 : Int32)) v0 10 (0 : Int32)) a6 0 (0 : Int32)) o_a6 o_v0 (by decide) 3).symm
  have d_y2 : y2 = fI (sI (sI (sI (sI (sI (sI (sI (sR S v0 2 (some v1)) v0 3 x1) v0 4 (0 : Int32)) v0 0 (0 : Int32)) v0 1 (0 : Int32)) v0 10 (0 : Int32)) a6 0 (0 : Int32)) a6 1 (0 : Int32)) v0 4 := d_y2.trans (sI_ne (S := sI (sI (sI (sI (sI (sI (sR S v0 2 (some v1)) v0 3 x1) v0 4 (0 : Int32)) v0 0 (0 : Int32)) v0 1 (0 : Int32)) v0 10 (0 : Int32)) a6 0 (0 : Int32)) o_a6 o_v0 (by decide) 4).symm
  have d_y3 : y3 = fI (sI (sI (sI (sI (sI (sI (sI (sR S v0 2 (some v1)) v0 3 x1) v0 4 (0 : Int32)) v0 0 (0 : Int32)) v0 1 (0 : Int32)) v0 10 (0 : Int32)) a6 0 (0 : Int32)) a6 1 (0 : Int32)) v0 0 := d_y3.trans (sI_ne (S := sI (sI (sI (sI (sI (sI (sR S v0 2 (some v1)) v0 3 x1) v0 4 (0 : Int32)) v0 0 (0 : Int32)) v0 1 (0 : Int32)) v0 10 (0 : Int32)) a6 0 (0 : Int32)) o_a6 o_v0 (by decide) 0).symm
  have d_y4 : y4 = fI (sI (sI (sI (sI (sI (sI (sI (sR S v0 2 (some v1)) v0 3 x1) v0 4 (0 : Int32)) v0 0 (0 : Int32)) v0 1 (0 : Int32)) v0 10 (0 : Int32)) a6 0 (0 : Int32)) a6 1 (0 : Int32)) v0 1 := d_y4.trans (sI_ne (S := sI (sI (sI (sI (sI (sI (sR S v0 2 (some v1)) v0 3 x1) v0 4 (0 : Int32)) v0 0 (0 : Int32)) v0 1 (0 : Int32)) v0 10 (0 : Int32)) a6 0 (0 : Int32)) o_a6 o_v0 (by decide) 1).symm
  have d_y5 : y5 = fI (sI (sI (sI (sI (sI (sI (sI (sR S v0 2 (some v1)) v0 3 x1) v0 4 (0 : Int32)) v0 0 (0 : Int32)) v0 1 (0 : Int32)) v0 10 (0 : Int32)) a6 0 (0 : Int32)) a6 1 (0 : Int32)) v0 10 := d_y5.trans (sI_ne (S := sI (sI (sI (sI (sI (sI (sR S v0 2 (some v1)) v0 3 x1) v0 4 (0 : Int32)) v0 0 (0 : Int32)) v0 1 (0 : Int32)) v0 10 (0 : Int32)) a6 0 (0 : Int32)) o_a6 o_v0 (by decide) 10).symm
  have d_y7 : y7 = fI (sI (sI (sI (sI (sI (sI (sI (sR S v0 2 (some v1)) v0 3 x1) v0 4 (0 : Int32)) v0 0 (0 : Int32)) v0 1 (0 : Int32)) v0 10 (0 : Int32)) a6 0 (0 : Int32)) a6 1 (0 : Int32)) a6 0 := d_y7.trans (rd_j (by decide)).symm
  obtain ⟨y8, hy8⟩ : ∃ z : Int32, z = (0 : Int32) := ⟨_, rfl⟩
  have d_y8 : y8 = fI (sI (sI (sI (sI (sI (sI (sI (sR S v0 2 (some v1)) v0 3 x1) v0 4 (0 : Int32)) v0 0 (0 : Int32)) v0 1 (0 : Int32)) v0 10 (0 : Int32)) a6 0 (0 : Int32)) a6 1 (0 : Int32)) a6 1 := hy8.trans (u2_self _ _ _ _).symm
  have hI := iv_sI (j := 2) (v := (0 : Int32)) hI o_a6 (by decide) (nu_one (lo := (0 : Int32)) (hi := (8 : Int32)) (by decide) (q779))
  have f0 : FRI _ _ _ (sI (sI (sI (sI (sI (sI (sI (sI (sR S v0 2 (some v1)) v0 3 x1) v0 4 (0 : Int32)) v0 0 (0 : Int32)) v0 1 (0 : Int32)) v0 10 (0 : Int32)) a6 0 (0 : Int32)) a6 1 (0 : Int32)) a6 2 (0 : Int32)) := fri_sI (S := sI (sI (sI (sI (sI (sI (sI (sR S v0 2 (some v1)) v0 3 x1) v0 4 (0 : Int32)) v0 0 (0 : Int32)) v0 1 (0 : Int32)) v0 10 (0 : Int32)) a6 0 (0 : Int32)) a6 1 (0 : Int32)) g0 f0 o_a6 (by decide)
  have d_x1 : x1 = fI (sI (sI (sI (sI (sI (sI (sI (sI (sR S v0 2 (some v1)) v0 3 x1) v0 4 (0 : Int32)) v0 0 (0 : Int32)) v0 1 (0 : Int32)) v0 10 (0 : Int32)) a6 0 (0 : Int32)) a6 1 (0 : Int32)) a6 2 (0 : Int32)) v0 3 := d_x1.trans (sI_ne (S := sI (sI (sI (sI (sI (sI (sI (sR S v0 2 (some v1)) v0 3 x1) v0 4 (0 : Int32)) v0 0 (0 : Int32)) v0 1 (0 : Int32)) v0 10 (0 : Int32)) a6 0 (0 : Int32)) a6 1 (0 : Int32)) o_a6 o_v0 (by decide) 3).symm
  have d_y2 : y2 = fI (sI (sI (sI (sI (sI (sI (sI (sI (sR S v0 2 (some v1)) v0 3 x1) v0 4 (0 : Int32)) v0 0 (0 : Int32)) v0 1 (0 : Int32)) v0 10 (0 : Int32)) a6 0 (0 : Int32)) a6 1 (0 : Int32)) a6 2 (0 : Int32)) v0 4 := d_y2.trans (sI_ne (S := sI (sI (sI (sI (sI (sI (sI (sR S v0 2 (some v1)) v0 3 x1) v0 4 (0 : Int32)) v0 0 (0 : Int32)) v0 1 (0 : Int32)) v0 10 (0 : Int32)) a6 0 (0 : Int32)) a6 1 (0 : Int32)) o_a6 o_v0 (by decide) 4).symm
  have d_y3 : y3 = fI (sI (sI (sI (sI (sI (sI (sI (sI (sR S v0 2 (some v1)) v0 3 x1) v0 4 (0 : Int32)) v0 0 (0 : Int32)) v0 1 (0 : Int32)) v0 10 (0 : Int32)) a6 0 (0 : Int32)) a6 1 (0 : Int32)) a6 2 (0 : Int32)) v0 0 := d_y3.trans (sI_ne (S := sI (sI (sI (sI (sI (sI (sI (sR S v0 2 (some v1)) v0 3 x1) v0 4 (0 : Int32)) v0 0 (0 : Int32)) v0 1 (0 : Int32)) v0 10 (0 : Int32)) a6 0 (0 : Int32)) a6 1 (0 : Int32)) o_a6 o_v0 (by decide) 0).symm
  have d_y4 : y4 = fI (sI (sI (sI (sI (sI (sI (sI (sI (sR S v0 2 (some v1)) v0 3 x1) v0 4 (0 : Int32)) v0 0 (0 : Int32)) v0 1 (0 : Int32)) v0 10 (0 : Int32)) a6 0 (0 : Int32)) a6 1 (0 : Int32)) a6 2 (0 : Int32)) v0 1 := d_y4.trans (sI_ne (S := sI (sI (sI (sI (sI (sI (sI (sR S v0 2 (some v1)) v0 3 x1) v0 4 (0 : Int32)) v0 0 (0 : Int32)) v0 1 (0 : Int32)) v0 10 (0 : Int32)) a6 0 (0 : Int32)) a6 1 (0 : Int32)) o_a6 o_v0 (by decide) 1).symm
  have d_y5 : y5 = fI (sI (sI (sI (sI (sI (sI (sI (sI (sR S v0 2 (some v1)) v0 3 x1) v0 4 (0 : Int32)) v0 0 (0 : Int32)) v0 1 (0 : Int32)) v0 10 (0 : Int32)) a6 0 (0 : Int32)) a6 1 (0 : Int32)) a6 2 (0 : Int32)) v0 10 := d_y5.trans (sI_ne (S := sI (sI (sI (sI (sI (sI (sI (sR S v0 2 (some v1)) v0 3 x1) v0 4 (0 : Int32)) v0 0 (0 : Int32)) v0 1 (0 : Int32)) v0 10 (0 : Int32)) a6 0 (0 : Int32)) a6 1 (0 : Int32)) o_a6 o_v0 (by decide) 10).symm
  have d_y7 : y7 = fI (sI (sI (sI (sI (sI (sI (sI (sI (sR S v0 2 (some v1)) v0 3 x1) v0 4 (0 : Int32)) v0 0 (0 : Int32)) v0 1 (0 : Int32)) v0 10 (0 : Int32)) a6 0 (0 : Int32)) a6 1 (0 : Int32)) a6 2 (0 : Int32)) a6 0 := d_y7.trans (rd_j (by decide)).symm
  have d_y8 : y8 = fI (sI (sI (sI (sI (sI (sI (sI (sI (sR S v0 2 (some v1)) v0 3 x1) v0 4 (0 : Int32)) v0 0 (0 : Int32)) v0 1 (0 : Int32)) v0 10 (0 : Int32)) a6 0 (0 : Int32)) a6 1 (0 : Int32)) a6 2 (0 : Int32)) a6 1 := d_y8.trans (rd_j (by decide)).symm
  obtain ⟨y9, hy9⟩ : ∃ z : Int32, z = (0 : Int32) := ⟨_, rfl⟩
  have d_y9 : y9 = fI (sI (sI (sI (sI (sI (sI (sI (sI (sR S v0 2 (some v1)) v0 3 x1) v0 4 (0 : Int32)) v0 0 (0 : Int32)) v0 1 (0 : Int32)) v0 10 (0 : Int32)) a6 0 (0 : Int32)) a6 1 (0 : Int32)) a6 2 (0 : Int32)) a6 2 := hy9.trans (u2_self _ _ _ _).symm
  have hI := iv_sI (j := 3) (v := (0 : Int32)) hI o_a6 (by decide) (nu_one (lo := (0 : Int32)) (hi := (12 : Int32)) (by decide) (q780))
  have f0 : FRI _ _ _ (sI (sI (sI (sI (sI (sI (sI (sI (sI (sR S v0 2 (some v1)) v0 3 x1) v0 4 (0 : Int32)) v0 0 (0 : Int32)) v0 1 (0 : Int32)) v0 10 (0 : Int32)) a6 0 (0 : Int32)) a6 1 (0 : Int32)) a6 2 (0 : Int32)) a6 3 (0 : Int32)) := fri_sI (S := sI (sI (sI (sI (sI (sI (sI (sI (sR S v0 2 (some v1)) v0 3 x1) v0 4 (0 : Int32)) v0 0 (0 : Int32)) v0 1 (0 : Int32)) v0 10 (0 : Int32)) a6 0 (0 : Int32)) a6 1 (0 : Int32)) a6 2 (0 : Int32)) g0 f0 o_a6 (by decide)
  have d_x1 : x1 = fI (sI (sI (sI (sI (sI (sI (sI (sI (sI (sR S v0 2 (some v1)) v0 3 x1) v0 4 (0 : Int32)) v0 0 (0 : Int32)) v0 1 (0 : Int32)) v0 10 (0 : Int32)) a6 0 (0 : Int32)) a6 1 (0 : Int32)) a6 2 (0 : Int32)) a6 3 (0 : Int32)) v0 3 := d_x1.trans (sI_ne (S := sI (sI (sI (sI (sI (sI (sI (sI (sR S v0 2 (some v1)) v0 3 x1) v0 4 (0 : Int32)) v0 0 (0 : Int32)) v0 1 (0 : Int32)) v0 10 (0 : Int32)) a6 0 (0 : Int32)) a6 1 (0 : Int32)) a6 2 (0 : Int32)) o_a6 o_v0 (by decide) 3).symm
  have d_y2 : y2 = fI (sI (sI (sI (sI (sI (sI (sI (sI (sI (sR S v0 2 (some v1)) v0 3 x1) v0 4 (0 : Int32)) v0 0 (0 : Int32)) v0 1 (0 : Int32)) v0 10 (0 : Int32)) a6 0 (0 : Int32)) a6 1 (0 : Int32)) a6 2 (0 : Int32)) a6 3 (0 : Int32)) v0 4 := d_y2.trans (sI_ne (S := sI (sI (sI (sI (sI (sI (sI (sI (sR S v0 2 (some v1)) v0 3 x1) v0 4 (0 : Int32)) v0 0 (0 : Int32)) v0 1 (0 : Int32)) v0 10 (0 : Int32)) a6 0 (0 : Int32)) a6 1 (0 : Int32)) a6 2 (0 : Int32)) o_a6 o_v0 (by decide) 4).symm
  have d_y3 : y3 = fI (sI (sI (sI (sI (sI (sI (sI (sI (sI (sR S v0 2 (some v1)) v0 3 x1) v0 4 (0 : Int32)) v0 0 (0 : Int32)) v0 1 (0 : Int32)) v0 10 (0 : Int32)) a6 0 (0 : Int32)) a6 1 (0 : Int32)) a6 2 (0 : Int32)) a6 3 (0 : Int32)) v0 0 := d_y3.trans (sI_ne (S := sI (sI (sI (sI (sI (sI (sI (sI (sR S v0 2 (some v1)) v0 3 x1) v0 4 (0 : Int32)) v0 0 (0 : Int32)) v0 1 (0 : Int32)) v0 10 (0 : Int32)) a6 0 (0 : Int32)) a6 1 (0 : Int32)) a6 2 (0 : Int32)) o_a6 o_v0 (by decide) 0).symm
  have d_y4 : y4 = fI (sI (sI (sI (sI (sI (sI (sI (sI (sI (sR S v0 2 (some v1)) v0 3 x1) v0 4 (0 : Int32)) v0 0 (0 : Int32)) v0 1 (0 : Int32)) v0 10 (0 : Int32)) a6 0 (0 : Int32)) a6 1 (0 : Int32)) a6 2 (0 : Int32)) a6 3 (0 : Int32)) v0 1 := d_y4.trans (sI_ne (S := sI (sI (sI (sI (sI (sI (sI (sI (sR S v0 2 (some v1)) v0 3 x1) v0 4 (0 : Int32)) v0 0 (0 : Int32)) v0 1 (0 : Int32)) v0 10 (0 : Int32)) a6 0 (0 : Int32)) a6 1 (0 : Int32)) a6 2 (0 : Int32)) o_a6 o_v0 (by decide) 1).symm
  have d_y5 : y5 = fI (sI (sI (sI (sI (sI (sI (sI (sI (sI (sR S v0 2 (some v1)) v0 3 x1) v0 4 (0 : Int32)) v0 0 (0 : Int32)) v0 1 (0 : Int32)) v0 10 (0 : Int32)) a6 0 (0 : Int32)) a6 1 (0 : Int32)) a6 2 (0 : Int32)) a6 3 (0 : Int32)) v0 10 := d_y5.trans (sI_ne (S := sI (sI (sI (sI (sI (sI (sI (sI (sR S v0 2 (some v1)) v0 3 x1) v0 4 (0 : Int32)) v0 0 (0 : Int32)) v0 1 (0 : Int32)) v0 10 (0 : Int32)) a6 0 (0 : Int32)) a6 1 (0 : Int32)) a6 2 (0 : Int32)) o_a6 o_v0 (by decide) 10).symm
  have d_y7 : y7 = fI (sI (sI (sI (sI (sI (sI (sI (sI (sI (sR S v0 2 (some v1)) v0 3 x1) v0 4 (0 : Int32)) v0 0 (0 : Int32)) v0 1 (0 : Int32)) v0 10 (0 : Int32)) a6 0 (0 : Int32)) a6 1 (0 : Int32)) a6 2 (0 : Int32)) a6 3 (0 : Int32)) a6 0 := d_y7.trans (rd_j (by decide)).symm
  have d_y8 : y8 = fI (sI (sI (sI (sI (sI (sI (sI (sI (sI (sR S v0 2 (some v1)) v0 3 x1) v0 4 (0 : Int32)) v0 0 (0 : Int32)) v0 1 (0 : Int32)) v0 10 (0 : Int32)) a6 0 (0 : Int32)) a6 1 (0 : Int32)) a6 2 (0 : Int32)) a6 3 (0 : Int32)) a6 1 := d_y8.trans (rd_j (by decide)).symm
  have d_y9 : y9 = fI (sI (sI (sI (sI (sI (sI (sI (sI (sI (sR S v0 2 (some v1)) v0 3 x1) v0 4 (0 : Int32)) v0 0 (0 : Int32)) v0 1 (0 : Int32)) v0 10 (0 : Int32)) a6 0 (0 : Int32)) a6 1 (0 : Int32)) a6 2 (0 : Int32)) a6 3 (0 : Int32)) a6 2 := d_y9.trans (rd_j (by decide)).symm
  obtain ⟨y10, hy10⟩ : ∃ z : Int32, z = (0 : Int32) := ⟨_, rfl⟩
  have d_y10 : y10 = fI (sI (sI (sI (sI (sI (sI (sI (sI (sI (sR S v0 2 (some v1)) v0 3 x1) v0 4 (0 : Int32)) v0 0 (0 : Int32)) v0 1 (0 : Int32)) v0 10 (0 : Int32)) a6 0 (0 : Int32)) a6 1 (0 : Int32)) a6 2 (0 : Int32)) a6 3 (0 : Int32)) a6 3 := hy10.trans (u2_self _ _ _ _).symm
  have hI := iv_sI (j := 4) (v := (0 : Int32)) hI o_a6 (by decide) (nu_one (lo := (0 : Int32)) (hi := (4 : Int32)) (by decide) (q781))
  have f0 : FRI _ _ _ (sI (sI (sI (sI (sI (sI (sI (sI (sI (sI (sR S v0 2 (some v1)) v0 3 x1) v0 4 (0 : Int32)) v0 0 (0 : Int32)) v0 1 (0 : Int32)) v0 10 (0 : Int32)) a6 0 (0 : Int32)) a6 1 (0 : Int32)) a6 2 (0 : Int32)) a6 3 (0 : Int32)) a6 4 (0 : Int32)) := fri_sI (S := sI (sI (sI (sI (sI (sI (sI (sI (sI (sR S v0 2 (some v1)) v0 3 x1) v0 4 (0 : Int32)) v0 0 (0 : Int32)) v0 1 (0 : Int32)) v0 10 (0 : Int32)) a6 0 (0 : Int32)) a6 1 (0 : Int32)) a6 2 (0 : Int32)) a6 3 (0 : Int32)) g0 f0 o_a6 (by decide)
  have d_x1 : x1 = fI (sI (sI (sI (sI (sI (sI (sI (sI (sI (sI (sR S v0 2 (some v1)) v0 3 x1) v0 4 (0 : Int32)) v0 0 (0 : Int32)) v0 1 (0 : Int32)) v0 10 (0 : Int32)) a6 0 (0 : Int32)) a6 1 (0 : Int32)) a6 2 (0 : Int32)) a6 3 (0 : Int32)) a6 4 (0 : Int32)) v0 3 := d_x1.trans (sI_ne (S := sI (sI (sI (sI (sI (sI (sI (sI (sI (sR S v0 2 (some v1)) v0 3 x1) v0 4 (0 : Int32)) v0 0 (0 : Int32)) v0 1 (0 : Int32)) v0 10 (0 : Int32)) a6 0 (0 : Int32)) a6 1 (0 : Int32)) a6 2 (0 : Int32)) a6 3 (0 : Int32)) o_a6 o_v0 (by decide) 3).symm
  have d_y2 : y2 = fI (sI (sI (sI (sI (sI (sI (sI (sI (sI (sI (sR S v0 2 (some v1)) v0 3 x1) v0 4 (0 : Int32)) v0 0 (0 : Int32)) v0 1 (0 : Int32)) v0 10 (0 : Int32)) a6 0 (0 : Int32)) a6 1 (0 : Int32)) a6 2 (0 : Int32)) a6 3 (0 : Int32)) a6 4 (0 : Int32)) v0 4 := d_y2.trans (sI_ne (S := sI (sI (sI (sI (sI (sI (sI (sI (sI (sR S v0 2 (some v1)) v0 3 x1) v0 4 (0 : Int32)) v0 0 (0 : Int32)) v0 1 (0 : Int32)) v0 10 (0 : Int32)) a6 0 (0 : Int32)) a6 1 (0 : Int32)) a6 2 (0 : Int32)) a6 3 (0 : Int32)) o_a6 o_v0 (by decide) 4).symm
  have d_y3 : y3 = fI (sI (sI (sI (sI (sI (sI (sI (sI (sI (sI (sR S v0 2 (some v1)) v0 3 x1) v0 4 (0 : Int32)) v0 0 (0 : Int32)) v0 1 (0 : Int32)) v0 10 (0 : Int32)) a6 0 (0 : Int32)) a6 1 (0 : Int32)) a6 2 (0 : Int32)) a6 3 (0 : Int32)) a6 4 (0 : Int32)) v0 0 := d_y3.trans (sI_ne (S := sI (sI (sI (sI (sI (sI (sI (sI (sI (sR S v0 2 (some v1)) v0 3 x1) v0 4 (0 : Int32)) v0 0 (0 : Int32)) v0 1 (0 : Int32)) v0 10 (0 : Int32)) a6 0 (0 : Int32)) a6 1 (0 : Int32)) a6 2 (0 : Int32)) a6 3 (0 : Int32)) o_a6 o_v0 (by decide) 0).symm
  have d_y4 : y4 = fI (sI (sI (sI (sI (sI (sI (sI (sI (sI (sI (sR S v0 2 (some v1)) v0 3 x1) v0 4 (0 : Int32)) v0 0 (0 : Int32)) v0 1 (0 : Int32)) v0 10 (0 : Int32)) a6 0 (0 : Int32)) a6 1 (0 : Int32)) a6 2 (0 : Int32)) a6 3 (0 : Int32)) a6 4 (0 : Int32)) v0 1 := d_y4.trans (sI_ne (S := sI (sI (sI (sI (sI (sI (sI (sI (sI (sR S v0 2 (some v1)) v0 3 x1) v0 4 (0 : Int32)) v0 0 (0 : Int32)) v0 1 (0 : Int32)) v0 10 (0 : Int32)) a6 0 (0 : Int32)) a6 1 (0 : Int32)) a6 2 (0 : Int32)) a6 3 (0 : Int32)) o_a6 o_v0 (by decide) 1).symm
  have d_y5 : y5 = fI (sI (sI (sI (sI (sI (sI (sI (sI (sI (sI (sR S v0 2 (some v1)) v0 3 x1) v0 4 (0 : Int32)) v0 0 (0 : Int32)) v0 1 (0 : Int32)) v0 10 (0 : Int32)) a6 0 (0 : Int32)) a6 1 (0 : Int32)) a6 2 (0 : Int32)) a6 3 (0 : Int32)) a6 4 (0 : Int32)) v0 10 := d_y5.trans (sI_ne (S := sI (sI (sI (sI (sI (sI (sI (sI (sI (sR S v0 2 (some v1)) v0 3 x1) v0 4 (0 : Int32)) v0 0 (0 : Int32)) v0 1 (0 : Int32)) v0 10 (0 : Int32)) a6 0 (0 : Int32)) a6 1 (0 : Int32)) a6 2 (0 : Int32)) a6 3 (0 : Int32)) o_a6 o_v0 (by decide) 10).symm
  have d_y7 : y7 = fI (sI (sI (sI (sI (sI (sI (sI (sI (sI (sI (sR S v0 2 (some v1)) v0 3 x1) v0 4 (0 : Int32)) v0 0 (0 : Int32)) v0 1 (0 : Int32)) v0 10 (0 : Int32)) a6 0 (0 : Int32)) a6 1 (0 : Int32)) a6 2 (0 : Int32)) a6 3 (0 : Int32)) a6 4 (0 : Int32)) a6 0 := d_y7.trans (rd_j (by decide)).symm
  have d_y8 : y8 = fI (sI (sI (sI (sI (sI (sI (sI (sI (sI (sI (sR S v0 2 (some v1)) v0 3 x1) v0 4 (0 : Int32)) v0 0 (0 : Int32)) v0 1 (0 : Int32)) v0 10 (0 : Int32)) a6 0 (0 : Int32)) a6 1 (0 : Int32)) a6 2 (0 : Int32)) a6 3 (0 : Int32)) a6 4 (0 : Int32)) a6 1 := d_y8.trans (rd_j (by decide)).symm
  have d_y9 : y9 = fI (sI (sI (sI (sI (sI (sI (sI (sI (sI (sI (sR S v0 2 (some v1)) v0 3 x1) v0 4 (0 : Int32)) v0 0 (0 : Int32)) v0 1 (0 : Int32)) v0 10 (0 : Int32)) a6 0 (0 : Int32)) a6 1 (0 : Int32)) a6 2 (0 : Int32)) a6 3 (0 : Int32)) a6 4 (0 : Int32)) a6 2 := d_y9.trans (rd_j (by decide)).symm
  have d_y10 : y10 = fI (sI (sI (sI (sI (sI (sI (sI (sI (sI (sI (sR S v0 2 (some v1)) v0 3 x1) v0 4 (0 : Int32)) v0 0 (0 : Int32)) v0 1 (0 : Int32)) v0 10 (0 : Int32)) a6 0 (0 : Int32)) a6 1 (0 : Int32)) a6 2 (0 : Int32)) a6 3 (0 : Int32)) a6 4 (0 : Int32)) a6 3 := d_y10.trans (rd_j (by decide)).symm
  obtain ⟨y11, hy11⟩ : ∃ z : Int32, z = (0 : Int32) := ⟨_, rfl⟩
  have d_y11 : y11 = fI (sI (sI (sI (sI (sI (sI (sI (sI (sI (sI (sR S v0 2 (some v1)) v0 3 x1) v0 4 (0 : Int32)) v0 0 (0 : Int32)) v0 1 (0 : Int32)) v0 10 (0 : Int32)) a6 0 (0 : Int32)) a6 1 (0 : Int32)) a6 2 (0 : Int32)) a6 3 (0 : Int32)) a6 4 (0 : Int32)) a6 4 := hy11.trans (u2_self _ _ _ _).symm
  have hI := iv_sI (j := 5) (v := (0 : Int32)) hI o_a6 (by decide) (nu_one (lo := (0 : Int32)) (hi := (4 : Int32)) (by decide) (q781))
  have f0 : FRI _ _ _ (sI (sI (sI (sI (sI (sI (sI (sI (sI (sI (sI (sR S v0 2 (some v1)) v0 3 x1) v0 4 (0 : Int32)) v0 0 (0 : Int32)) v0 1 (0 : Int32)) v0 10 (0 : Int32)) a6 0 (0 : Int32)) a6 1 (0 : Int32)) a6 2 (0 : Int32)) a6 3 (0 : Int32)) a6 4 (0 : Int32)) a6 5 (0 : Int32)) := fri_sI (S := sI (sI (sI (sI (sI (sI (sI (sI (sI (sI (sR S v0 2 (some v1)) v0 3 x1) v0 4 (0 : Int32)) v0 0 (0 : Int32)) v0 1 (0 : Int32)) v0 10 (0 : Int32)) a6 0 (0 : Int32)) a6 1 (0 : Int32)) a6 2 (0 : Int32)) a6 3 (0 : Int32)) a6 4 (0 : Int32)) g0 f0 o_a6 (by decide)
  have d_x1 : x1 = fI (sI (sI (sI (sI (sI (sI (sI (sI (sI (sI (sI (sR S v0 2 (some v1)) v0 3 x1) v0 4 (0 : Int32)) v0 0 (0 : Int32)) v0 1 (0 : Int32)) v0 10 (0 : Int32)) a6 0 (0 : Int32)) a6 1 (0 : Int32)) a6 2 (0 : Int32)) a6 3 (0 : Int32)) a6 4 (0 : Int32)) a6 5 (0 : Int32)) v0 3 := d_x1.trans (sI_ne (S := sI (sI (sI (sI (sI (sI (sI (sI (sI (sI (sR S v0 2 (some v1)) v0 3 x1) v0 4 (0 : Int32)) v0 0 (0 : Int32)) v0 1 (0 : Int32)) v0 10 (0 : Int32)) a6 0 (0 : Int32)) a6 1 (0 : Int32)) a6 2 (0 : Int32)) a6 3 (0 : Int32)) a6 4 (0 : Int32)) o_a6 o_v0 (by decide) 3).symm
  have d_y2 : y2 = fI (sI (sI (sI (sI (sI (sI (sI (sI (sI (sI (sI (sR S v0 2 (some v1)) v0 3 x1) v0 4 (0 : Int32)) v0 0 (0 : Int32)) v0 1 (0 : Int32)) v0 10 (0 : Int32)) a6 0 (0 : Int32)) a6 1 (0 : Int32)) a6 2 (0 : Int32)) a6 3 (0 : Int32)) a6 4 (0 : Int32)) a6 5 (0 : Int32)) v0 4 := d_y2.trans (sI_ne (S := sI (sI (sI (sI (sI (sI (sI (sI (sI (sI (sR S v0 2 (some v1)) v0 3 x1) v0 4 (0 : Int32)) v0 0 (0 : Int32)) v0 1 (0 : Int32)) v0 10 (0 : Int32)) a6 0 (0 : Int32)) a6 1 (0 : Int32)) a6 2 (0 : Int32)) a6 3 (0 : Int32)) a6 4 (0 : Int32)) o_a6 o_v0 (by decide) 4).symm
  have d_y3 : y3 = fI (sI (sI (sI (sI (sI (sI (sI (sI (sI (sI (sI (sR S v0 2 (some v1)) v0 3 x1) v0 4 (0 : Int32)) v0 0 (0 : Int32)) v0 1 (0 : Int32)) v0 10 (0 : Int32)) a6 0 (0 : Int32)) a6 1 (0 : Int32)) a6 2 (0 : Int32)) a6 3 (0 : Int32)) a6 4 (0 : Int32)) a6 5 (0 : Int32)) v0 0 := d_y3.trans (sI_ne (S := sI (sI (sI (sI (sI (sI (sI (sI (sI (sI (sR S v0 2 (some v1)) v0 3 x1) v0 4 (0 : Int32)) v0 0 (0 : Int32)) v0 1 (0 : Int32)) v0 10 (0 : Int32)) a6 0 (0 : Int32)) a6 1 (0 : Int32)) a6 2 (0 : Int32)) a6 3 (0 : Int32)) a6 4 (0 : Int32)) o_a6 o_v0 (by decide) 0).symm
  have d_y4 : y4 = fI (sI (sI (sI (sI (sI (sI (sI (sI (sI (sI (sI (sR S v0 2 (some v1)) v0 3 x1) v0 4 (0 : Int32)) v0 0 (0 : Int32)) v0 1 (0 : Int32)) v0 10 (0 : Int32)) a6 0 (0 : Int32)) a6 1 (0 : Int32)) a6 2 (0 : Int32)) a6 3 (0 : Int32)) a6 4 (0 : Int32)) a6 5 (0 : Int32)) v0 1 := d_y4.trans (sI_ne (S := sI (sI (sI (sI (sI (sI (sI (sI (sI (sI (sR S v0 2 (some v1)) v0 3 x1) v0 4 (0 : Int32)) v0 0 (0 : Int32)) v0 1 (0 : Int32)) v0 10 (0 : Int32)) a6 0 (0 : Int32)) a6 1 (0 : Int32)) a6 2 (0 : Int32)) a6 3 (0 : Int32)) a6 4 (0 : Int32)) o_a6 o_v0 (by decide) 1).symm
  have d_y5 : y5 = fI (sI (sI (sI (sI (sI (sI (sI (sI (sI (sI (sI (sR S v0 2 (some v1)) v0 3 x1) v0 4 (0 : Int32)) v0 0 (0 : Int32)) v0 1 (0 : Int32)) v0 10 (0 : Int32)) a6 0 (0 : Int32)) a6 1 (0 : Int32)) a6 2 (0 : Int32)) a6 3 (0 : Int32)) a6 4 (0 : Int32)) a6 5 (0 : Int32)) v0 10 := d_y5.trans (sI_ne (S := sI (sI (sI (sI (sI (sI (sI (sI (sI (sI (sR S v0 2 (some v1)) v0 3 x1) v0 4 (0 : Int32)) v0 0 (0 : Int32)) v0 1 (0 : Int32)) v0 10 (0 : Int32)) a6 0 (0 : Int32)) a6 1 (0 : Int32)) a6 2 (0 : Int32)) a6 3 (0 : Int32)) a6 4 (0 : Int32)) o_a6 o_v0 (by decide) 10).symm
  have d_y7 : y7 = fI (sI (sI (sI (sI (sI (sI (sI (sI (sI (sI (sI (sR S v0 2 (some v1)) v0 3 x1) v0 4 (0 : Int32)) v0 0 (0 : Int32)) v0 1 (0 : Int32)) v0 10 (0 : Int32)) a6 0 (0 : Int32)) a6 1 (0 : Int32)) a6 2 (0 : Int32)) a6 3 (0 : Int32)) a6 4 (0 : Int32)) a6 5 (0 : Int32)) a6 0 := d_y7.trans (rd_j (by decide)).symm
  have d_y8 : y8 = fI (sI (sI (sI (sI (sI (sI (sI (sI (sI (sI (sI (sR S v0 2 (some v1)) v0 3 x1) v0 4 (0 : Int32)) v0 0 (0 : Int32)) v0 1 (0 : Int32)) v0 10 (0 : Int32)) a6 0 (0 : Int32)) a6 1 (0 : Int32)) a6 2 (0 : Int32)) a6 3 (0 : Int32)) a6 4 (0 : Int32)) a6 5 (0 : Int32)) a6 1 := d_y8.trans (rd_j (by decide)).symm
  have d_y9 : y9 = fI (sI (sI (sI (sI (sI (sI (sI (sI (sI (sI (sI (sR S v0 2 (some v1)) v0 3 x1) v0 4 (0 : Int32)) v0 0 (0 : Int32)) v0 1 (0 : Int32)) v0 10 (0 : Int32)) a6 0 (0 : Int32)) a6 1 (0 : Int32)) a6 2 (0 : Int32)) a6 3 (0 : Int32)) a6 4 (0 : Int32)) a6 5 (0 : Int32)) a6 2 := d_y9.trans (rd_j (by decide)).symm
  have d_y10 : y10 = fI (sI (sI (sI (sI (sI (sI (sI (sI (sI (sI (sI (sR S v0 2 (some v1)) v0 3 x1) v0 4 (0 : Int32)) v0 0 (0 : Int32)) v0 1 (0 : Int32)) v0 10 (0 : Int32)) a6 0 (0 : Int32)) a6 1 (0 : Int32)) a6 2 (0 : Int32)) a6 3 (0 : Int32)) a6 4 (0 : Int32)) a6 5 (0 : Int32)) a6 3 := d_y10.trans (rd_j (by decide)).symm
  have d_y11 : y11 = fI (sI (sI (sI (sI (sI (sI (sI (sI (sI (sI (sI (sR S v0 2 (some v1)) v0 3 x1) v0 4 (0 : Int32)) v0 0 (0 : Int32)) v0 1 (0 : Int32)) v0 10 (0 : Int32)) a6 0 (0 : Int32)) a6 1 (0 : Int32)) a6 2 (0 : Int32)) a6 3 (0 : Int32)) a6 4 (0 : Int32)) a6 5 (0 : Int32)) a6 4 := d_y11.trans (rd_j (by decide)).symm
  obtain ⟨y12, hy12⟩ : ∃ z : Int32, z = (0 : Int32) := ⟨_, rfl⟩
  have d_y12 : y12 = fI (sI (sI (sI (sI (sI (sI (sI (sI (sI (sI (sI (sR S v0 2 (some v1)) v0 3 x1) v0 4 (0 : Int32)) v0 0 (0 : Int32)) v0 1 (0 : Int32)) v0 10 (0 : Int32)) a6 0 (0 : Int32)) a6 1 (0 : Int32)) a6 2 (0 : Int32)) a6 3 (0 : Int32)) a6 4 (0 : Int32)) a6 5 (0 : Int32)) a6 5 := hy12.trans (u2_self _ _ _ _).symm
  intro _
  refine m_X4_next hI o_v0 hT (fun S14 hI g15 fc16 p_S14 => ?_)
  obtain hT := p_S14
  have l_v1 := (gr_len g15 o_v1).trans l_v1
  have d_x1 := d_x1.trans (fri_at fc16 (by decide) (by decide) o_v0).symm
  have d_y3 := d_y3.trans (fri_at fc16 (by decide) (by decide) o_v0).symm
  have d_y4 := d_y4.trans (fri_at fc16 (by decide) (by decide) o_v0).symm
  have d_y5 := d_y5.trans (fri_at fc16 (by decide) (by decide) o_v0).symm
  have d_y7 := d_y7.trans (fri_at fc16 (by decide) (by decide) o_a6).symm
  have d_y8 := d_y8.trans (fri_at fc16 (by decide) (by decide) o_a6).symm
  have d_y9 := d_y9.trans (fri_at fc16 (by decide) (by decide) o_a6).symm
  have d_y10 := d_y10.trans (fri_at fc16 (by decide) (by decide) o_a6).symm
  have d_y11 := d_y11.trans (fri_at fc16 (by decide) (by decide) o_a6).symm
  have d_y12 := d_y12.trans (fri_at fc16 (by decide) (by decide) o_a6).symm
  have ea6 := (frr_at fc16 (by decide) (by decide) o_v0).trans ea6
  have f0 := fri_tr (S := sI (sI (sI (sI (sI (sI (sI (sI (sI (sI (sI (sR S v0 2 (some v1)) v0 3 x1) v0 4 (0 : Int32)) v0 0 (0 : Int32)) v0 1 (0 : Int32)) v0 10 (0 : Int32)) a6 0 (0 : Int32)) a6 1 (0 : Int32)) a6 2 (0 : Int32)) a6 3 (0 : Int32)) a6 4 (0 : Int32)) a6 5 (0 : Int32)) g0 f0 fc16 (by decide) (by decide)
  have o_a6 := gr_ob g15 o_a6
  have o_v0 := gr_ob g15 o_v0
  have o_v1 := gr_ob g15 o_v1
  have g0 := gr_tr (T := sI (sI (sI (sI (sI (sI (sI (sI (sI (sI (sI (sR S v0 2 (some v1)) v0 3 x1) v0 4 (0 : Int32)) v0 0 (0 : Int32)) v0 1 (0 : Int32)) v0 10 (0 : Int32)) a6 0 (0 : Int32)) a6 1 (0 : Int32)) a6 2 (0 : Int32)) a6 3 (0 : Int32)) a6 4 (0 : Int32)) a6 5 (0 : Int32)) g0 g15
  intro _
  exact hq _ hI g0 f0 hT
