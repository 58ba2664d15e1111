set_option maxHeartbeats 4000000 in
set_option maxRecDepth 20000 in
theorem m_X4_whole {v0 : Nat} {v1 : Int32} {v2 : Int32} {Q : Int32 → HS → Prop} {S : HS} (hI : IV S) (o_v0 : ob S v0 4)    (hT : TX S v0) (hq : ∀ (r : Int32) (T : HS), IV T → Gr S T → FRI [(4, 0), (4, 1), (4, 4), (4, 6), (4, 7), (4, 9)] [] S T → bl r → (TX T v0) ∧ (r = 1 → v1 ≤ fI T v0 9 ∧ fI T v0 9 ≤ v2) → Q r T) : P_X4_whole v0 v1 v2 Q S := by
  have g0 := gr_rf S
  have f0 := fri_rf [(4, 0), (4, 1), (4, 4), (4, 6), (4, 7), (4, 9)] [] S
  refine u_X4_whole ?_
  refine u_X4_whole_0 ?_
  refine ⟨o_v0, ?_⟩
  intro x1 ex1
  have d_x1 := ex1
  refine ⟨fun c2 => ?_, fun c2 => ?_⟩
  · intro x3 ex3
    have dj_x3 := ex3
    refine ⟨fun c4 => ?_, fun c4 => ?_⟩
    · refine u_X4_whole_34 ?_
      refine ⟨o_v0, ?_⟩
      refine u_X4_fail ?_
      refine u_X4_fail_0 ?_
      refine ⟨o_v0, ?_⟩
      intro S5 eS5
      have hI : IV S5 := by rw [eS5]; exact iv_sI hI o_v0 (by decide) (nu_free (by decide))
      have f0 := fr_I eS5 g0 f0 o_v0 (by decide)
      have d_x1 := rd_Ij eS5 (by decide) d_x1
      obtain ⟨y6, hy6⟩ : ∃ z : Int32, z = (4 : Int32) := ⟨_, rfl⟩
      have d_y6 := rd_Is eS5 hy6
      have dj_x3 : x3 = fJ S5 v0 8 := by rw [eS5]; exact dj_x3
      have hT := tx_I eS5 hT
      have g0 := gr_I eS5 g0
      have o_v0 := ob_I eS5 o_v0
      intro x7 ex7
      have d_x7 := ex7
      intro S8 eS8
      have hI : IV S8 := by rw [eS8]; exact iv_sI hI o_v0 (by decide) (nu_free (by decide))
      have f0 := fr_I eS8 g0 f0 o_v0 (by decide)
      have d_x1 := rd_Ij eS8 (by decide) d_x1
      have d_y6 := rd_Ij eS8 (by decide) d_y6
      have d_x7 := rd_Ij eS8 (by decide) d_x7
      obtain ⟨y9, hy9⟩ : ∃ z : Int32, z = x7 := ⟨_, rfl⟩
      have d_y9 := rd_Is eS8 hy9
      have dj_x3 : x3 = fJ S8 v0 8 := by rw [eS8]; exact dj_x3
      have hT := tx_I eS8 hT
      have g0 := gr_I eS8 g0
      have o_v0 := ob_I eS8 o_v0
      intro _ _
      refine ⟨(Or.inl rfl), ?_⟩
      obtain ⟨y11, d_y11⟩ : ∃ z : Int32, z = fI S8 v0 9 := ⟨_, rfl⟩
      exact hq _ _ hI g0 f0 (Or.inl rfl) ⟨hT, (by rw [← d_y11]; exact (q194 c2 c4))⟩
    · intro x12 ex12
      have q_x12 : x12 = x3 := ex12.trans dj_x3.symm
      have dj_x12 := ex12
      refine ⟨fun c13 => ?_, fun c13 => ?_⟩
      · intro x14 ex14
        have q_x14 : x14 = x12 := ex14.trans dj_x12.symm
        have dj_x14 := ex14
        intro x15 ex15
        intro S16 eS16
        have hI : IV S16 := by rw [eS16]; exact iv_sI hI o_v0 (by decide) (nu_free (by decide))
        have f0 := fr_I eS16 g0 f0 o_v0 (by decide)
        have d_x1 := rd_Ij eS16 (by decide) d_x1
        have d_x15 := rd_Is eS16 (rfl : x15 = x15)
        have dj_x14 : x14 = fJ S16 v0 8 := by rw [eS16]; exact dj_x14
        have hT := tx_I eS16 hT
        have g0 := gr_I eS16 g0
        have o_v0 := ob_I eS16 o_v0
        refine m_X4_next hI o_v0 hT (fun S18 hJ g19 fc20 p_S18 => ?_)
        have hT := p_S18
        have hI := hJ
        have d_x15 := d_x15.trans (fri_at fc20 (by decide) (by decide) o_v0).symm
        have f0 := fri_tr (S := S16) g0 f0 fc20 (by decide) (by decide)
        have o_v0 := gr_ob g19 o_v0
        have g0 := gr_tr (T := S16) g0 g19
        intro _
        exact hq _ _ hI g0 f0 (Or.inr rfl) ⟨hT, (by rw [← d_x15]; exact (fun _ => by have a := lc_ge c4; have b := lc_le c13; simp only [q_x12, q_x14, ex15] at *; exact i64_rng a b))⟩
      · refine u_X4_whole_34 ?_
        refine ⟨o_v0, ?_⟩
        refine u_X4_fail ?_
        refine u_X4_fail_0 ?_
        refine ⟨o_v0, ?_⟩
        intro S21 eS21
        have hI : IV S21 := by rw [eS21]; exact iv_sI hI o_v0 (by decide) (nu_free (by decide))
        have f0 := fr_I eS21 g0 f0 o_v0 (by decide)
        have d_x1 := rd_Ij eS21 (by decide) d_x1
        obtain ⟨y22, hy22⟩ : ∃ z : Int32, z = (4 : Int32) := ⟨_, rfl⟩
        have d_y22 := rd_Is eS21 hy22
        have dj_x12 : x12 = fJ S21 v0 8 := by rw [eS21]; exact dj_x12
        have hT := tx_I eS21 hT
        have g0 := gr_I eS21 g0
        have o_v0 := ob_I eS21 o_v0
        intro x23 ex23
        have d_x23 := ex23
        intro S24 eS24
        have hI : IV S24 := by rw [eS24]; exact iv_sI hI o_v0 (by decide) (nu_free (by decide))
        have f0 := fr_I eS24 g0 f0 o_v0 (by decide)
        have d_x1 := rd_Ij eS24 (by decide) d_x1
        have d_y22 := rd_Ij eS24 (by decide) d_y22
        have d_x23 := rd_Ij eS24 (by decide) d_x23
        obtain ⟨y25, hy25⟩ : ∃ z : Int32, z = x23 := ⟨_, rfl⟩
        have d_y25 := rd_Is eS24 hy25
        have dj_x12 : x12 = fJ S24 v0 8 := by rw [eS24]; exact dj_x12
        have hT := tx_I eS24 hT
        have g0 := gr_I eS24 g0
        have o_v0 := ob_I eS24 o_v0
        intro _ _
        refine ⟨(Or.inl rfl), ?_⟩
        obtain ⟨y27, d_y27⟩ : ∃ z : Int32, z = fI S24 v0 9 := ⟨_, rfl⟩
        exact hq _ _ hI g0 f0 (Or.inl rfl) ⟨hT, (by rw [← d_y27]; exact (q195 c2 c4 q_x12 c13))⟩
  · refine u_X4_fail ?_
    refine u_X4_fail_0 ?_
    refine ⟨o_v0, ?_⟩
    intro S28 eS28
    have hI : IV S28 := by rw [eS28]; exact iv_sI hI o_v0 (by decide) (nu_free (by decide))
    have f0 := fr_I eS28 g0 f0 o_v0 (by decide)
    have d_x1 := rd_Ij eS28 (by decide) d_x1
    obtain ⟨y29, hy29⟩ : ∃ z : Int32, z = (1 : Int32) := ⟨_, rfl⟩
    have d_y29 := rd_Is eS28 hy29
    have hT := tx_I eS28 hT
    have g0 := gr_I eS28 g0
    have o_v0 := ob_I eS28 o_v0
    intro x30 ex30
    have d_x30 := ex30
    intro S31 eS31
    have hI : IV S31 := by rw [eS31]; exact iv_sI hI o_v0 (by decide) (nu_free (by decide))
    have f0 := fr_I eS31 g0 f0 o_v0 (by decide)
    have d_x1 := rd_Ij eS31 (by decide) d_x1
    have d_y29 := rd_Ij eS31 (by decide) d_y29
    have d_x30 := rd_Ij eS31 (by decide) d_x30
    obtain ⟨y32, hy32⟩ : ∃ z : Int32, z = x30 := ⟨_, rfl⟩
    have d_y32 := rd_Is eS31 hy32
    have hT := tx_I eS31 hT
    have g0 := gr_I eS31 g0
    have o_v0 := ob_I eS31 o_v0
    intro _ _
    refine ⟨(Or.inl rfl), ?_⟩
    obtain ⟨y34, d_y34⟩ : ∃ z : Int32, z = fI S31 v0 9 := ⟨_, rfl⟩
    exact hq _ _ hI g0 f0 (Or.inl rfl) ⟨hT, (by rw [← d_y34]; exact (q196 c2))⟩
set_option maxHeartbeats 4000000 in
set_option maxRecDepth 20000 in
theorem m_X4_is {v0 : Nat} {v1 : Nat} {Q : Int32 → HS → Prop} {S : HS} (hI : IV S) (o_v0 : ob S v0 4)  (hw_v1 : v1 < 54)  (hT : TX S v0) (hq : ∀ (r : Int32) (T : HS), IV T → Gr S T → bl r → (S = T) → Q r T) : P_X4_is v0 v1 Q S := by
  have g0 := gr_rf S
  refine u_X4_is ?_
  refine u_X4_is_0 ?_
  refine ⟨o_v0, ?_⟩
  intro x1 ex1
  have d_x1 := ex1
  refine ⟨fun c2 => ?_, fun c2 => ?_⟩
  · refine i_X4_is_15 (fun (y0 : Nat) (y1 : Nat) (y2 : Int64) (y4 : Int32) (Z : HS) => ((2147483647 : Int32).toInt - y4.toInt).toNat) (fun (y0 : Nat) (y1 : Nat) (y2 : Int64) (y4 : Int32) (Z : HS) => (S = Z) ∧ (v0 = y0) ∧ (v1 = y1) ∧ (0 ≤ y4)) ?_ _ _ _ _ _ ⟨rfl, rfl, rfl, (q714 c2)⟩
    intro w7 w9 w11 w12 S4 X13 ⟨eS4, q8, q10, i1u3⟩ ih14
    subst q8
    subst q10
    subst eS4
    refine u_X4_is_15 ?_
    refine ⟨hw_v1, ?_⟩
    intro x15 ex15
    refine ⟨fun c16 => ?_, fun c16 => ?_⟩
    · refine ⟨o_v0, ?_⟩
      intro x17 ex17
      have dj_x17 := ex17
      refine ⟨fun c18 => ?_, fun c18 => ?_⟩
      · exact hq _ _ hI g0 (Or.inl rfl) rfl
      · exact hq _ _ hI g0 (Or.inr rfl) rfl
    · refine ⟨hw_v1, (vinL (sl_lt v1) (by rw [← ex15]; exact (q715 c2 i1u3 c16))), ?_⟩
      intro x19 ex19
      intro x20 ex20
      intro x21 ex21
      exact ih14 _ _ _ _ _ ⟨rfl, rfl, rfl, (q716 c2 i1u3 c16 ex21)⟩ (mu_up (q717 c2 i1u3 c16 ex21) (q718 c2 i1u3 c16 ex21))
  · exact hq _ _ hI g0 (Or.inl rfl) rfl
set_option maxHeartbeats 4000000 in
set_option maxRecDepth 20000 in
theorem m_X4_word {v0 : Nat} {v1 : Nat} {Q : Int32 → HS → Prop} {S : HS} (hI : IV S) (o_v0 : ob S v0 4)  (hw_v1 : v1 < 54)  (hT : TX S v0) (hq : ∀ (r : Int32) (T : HS), IV T → Gr S T → FRI [(4, 0), (4, 1), (4, 4), (4, 6), (4, 7)] [] S T → bl r → (TX T v0) → Q r T) : P_X4_word v0 v1 Q S := by
  have g0 := gr_rf S
  have f0 := fri_rf [(4, 0), (4, 1), (4, 4), (4, 6), (4, 7)] [] S
  refine u_X4_word ?_
  refine u_X4_word_0 ?_
  refine ⟨o_v0, ?_⟩
  refine m_X4_is hI o_v0 hw_v1 hT (fun x1 S2 hI2 g3 b_x1 p_x1 => ?_)
  subst p_x1
  intro _ _
  have bb_x1 : x1 = 0 ∨ x1 = 1 := b_x1
  refine ⟨fun c5 => ?_, fun c5 => ?_⟩
  · refine m_X4_next hI o_v0 hT (fun S7 hJ g8 fc9 p_S7 => ?_)
    have hT := p_S7
    have hI := hJ
    have f0 := fri_tr (S := S) g0 f0 fc9 (by decide) (by decide)
    have o_v0 := gr_ob g8 o_v0
    have g0 := gr_tr (T := S) g0 g8
    intro _
    exact hq _ _ hI g0 f0 (Or.inr rfl) hT
  · refine u_X4_fail ?_
    refine u_X4_fail_0 ?_
    refine ⟨o_v0, ?_⟩
    intro S10 eS10
    have hI : IV S10 := by rw [eS10]; exact iv_sI hI o_v0 (by decide) (nu_free (by decide))
    have f0 := fr_I eS10 g0 f0 o_v0 (by decide)
    obtain ⟨y11, hy11⟩ : ∃ z : Int32, z = (1 : Int32) := ⟨_, rfl⟩
    have d_y11 := rd_Is eS10 hy11
    have hT := tx_I eS10 hT
    have g0 := gr_I eS10 g0
    have o_v0 := ob_I eS10 o_v0
    intro x12 ex12
    have d_x12 := ex12
    intro S13 eS13
    have hI : IV S13 := by rw [eS13]; exact iv_sI hI o_v0 (by decide) (nu_free (by decide))
    have f0 := fr_I eS13 g0 f0 o_v0 (by decide)
    have d_y11 := rd_Ij eS13 (by decide) d_y11
    have d_x12 := rd_Ij eS13 (by decide) d_x12
    obtain ⟨y14, hy14⟩ : ∃ z : Int32, z = x12 := ⟨_, rfl⟩
    have d_y14 := rd_Is eS13 hy14
    have hT := tx_I eS13 hT
    have g0 := gr_I eS13 g0
    have o_v0 := ob_I eS13 o_v0
    intro _ _
    refine ⟨(Or.inl rfl), ?_⟩
    exact hq _ _ hI g0 f0 (Or.inl rfl) hT
set_option maxHeartbeats 4000000 in
set_option maxRecDepth 20000 in
theorem m_X4_wordAndWhole {v0 : Nat} {v1 : Nat} {v2 : Int32} {v3 : Int32} {Q : Int32 → HS → Prop} {S : HS} (hI : IV S) (o_v0 : ob S v0 4)  (hw_v1 : v1 < 54)  (hT : TX S v0) (hq : ∀ (r : Int32) (T : HS), IV T → Gr S T → FRI [(4, 0), (4, 1), (4, 4), (4, 6), (4, 7), (4, 9)] [] S T → bl r → (TX T v0) ∧ (r = 1 → v2 ≤ fI T v0 9 ∧ fI T v0 9 ≤ v3) → Q r T) : P_X4_wordAndWhole v0 v1 v2 v3 Q S := by
  have g0 := gr_rf S
  have f0 := fri_rf [(4, 0), (4, 1), (4, 4), (4, 6), (4, 7), (4, 9)] [] S
  refine u_X4_wordAndWhole ?_
  refine u_X4_wordAndWhole_0 ?_
  refine ⟨o_v0, ?_⟩
  refine m_X4_word hI o_v0 hw_v1 hT (fun x1 S2 hJ g3 fc4 b_x1 p_x1 => ?_)
  have hT := p_x1
  have hI := hJ
  have f0 := fri_tr (S := S) g0 f0 fc4 (by decide) (by decide)
  have o_v0 := gr_ob g3 o_v0
  have g0 := gr_tr (T := S) g0 g3
  intro _ _
  have bb_x1 : x1 = 0 ∨ x1 = 1 := b_x1
  refine ⟨fun c5 => ?_, fun c5 => ?_⟩
  · obtain ⟨y6, d_y6⟩ : ∃ z : Int32, z = fI S2 v0 9 := ⟨_, rfl⟩
    exact hq _ _ hI g0 f0 (Or.inl rfl) ⟨hT, (by rw [← d_y6]; exact (q191 bb_x1 c5))⟩
  · refine m_X4_whole hI o_v0 hT (fun x7 S8 hJ g9 fc10 b_x7 p_x7 => ?_)
    obtain ⟨hT, pf9_S8⟩ := p_x7
    have hI := hJ
    have f0 := fri_tr (S := S2) g0 f0 fc10 (by decide) (by decide)
    have o_v0 := gr_ob g9 o_v0
    have g0 := gr_tr (T := S2) g0 g9
    obtain ⟨y11, d_y11⟩ : ∃ z : Int32, z = fI S8 v0 9 := ⟨_, rfl⟩
    have p_y11 : x7 = 1 → v2 ≤ y11 ∧ y11 ≤ v3 := by rw [d_y11]; exact pf9_S8
    intro _ _
    have bb_x7 : x7 = 0 ∨ x7 = 1 := b_x7
    refine ⟨fun c12 => ?_, fun c12 => ?_⟩
    · exact hq _ _ hI g0 f0 (Or.inl rfl) ⟨hT, (by rw [← d_y11]; exact (q192 bb_x1 c5 p_y11 bb_x7 c12))⟩
    · exact hq _ _ hI g0 f0 (Or.inr rfl) ⟨hT, (by rw [← d_y11]; exact (q193 bb_x1 c5 p_y11 bb_x7 c12))⟩
set_option maxHeartbeats 4000000 in
set_option maxRecDepth 20000 in
theorem m_X6_shape {v0 : Nat} {v1 : Int32} {v2 : Int32} {v3 : Int32} {Q : HS → Prop} {S : HS} (hI : IV S) (o_v0 : ob S v0 6)     (hq : ∀ (T : HS), IV T → Gr S T → FRI [(6, 2), (6, 3), (6, 4)] [] S T → Q T) : P_X6_shape v0 v1 v2 v3 Q S := by
  have g0 := gr_rf S
  have f0 := fri_rf [(6, 2), (6, 3), (6, 4)] [] S
  refine u_X6_shape ?_
  refine u_X6_shape_0 ?_
  refine ⟨o_v0, ?_⟩
  intro x1 ex1
  have d_x1 := ex1
  refine ⟨fun c2 => ?_, fun c2 => ?_⟩
  · refine u_X6_shape_16 ?_
    refine ⟨o_v0, ?_⟩
    intro x3 ex3
    intro S4 eS4
    have hI : IV S4 := by rw [eS4]; exact iv_sI hI o_v0 (by decide) (nu_free (by decide))
    have f0 := fr_I eS4 g0 f0 o_v0 (by decide)
    have d_x1 := rd_Ij eS4 (by decide) d_x1
    have d_x3 := rd_Is eS4 (rfl : x3 = x3)
    have g0 := gr_I eS4 g0
    have o_v0 := ob_I eS4 o_v0
    intro x5 ex5
    intro S6 eS6
    have hI : IV S6 := by rw [eS6]; exact iv_sI hI o_v0 (by decide) (nu_free (by decide))
    have f0 := fr_I eS6 g0 f0 o_v0 (by decide)
    have d_x1 := rd_Ij eS6 (by decide) d_x1
    have d_x3 := rd_Ij eS6 (by decide) d_x3
    have d_x5 := rd_Is eS6 (rfl : x5 = x5)
    have g0 := gr_I eS6 g0
    have o_v0 := ob_I eS6 o_v0
    intro x7 ex7
    intro S8 eS8
    have hI : IV S8 := by rw [eS8]; exact iv_sI hI o_v0 (by decide) (nu_free (by decide))
    have f0 := fr_I eS8 g0 f0 o_v0 (by decide)
    have d_x1 := rd_Ij eS8 (by decide) d_x1
    have d_x3 := rd_Ij eS8 (by decide) d_x3
    have d_x5 := rd_Ij eS8 (by decide) d_x5
    have d_x7 := rd_Is eS8 (rfl : x7 = x7)
    have g0 := gr_I eS8 g0
    have o_v0 := ob_I eS8 o_v0
    exact hq _ hI g0 f0
  · intro x9 ex9
    have d_x9 := ex9
    refine u_X6_shape_16 ?_
    refine ⟨o_v0, ?_⟩
    intro x10 ex10
    intro S11 eS11
    have hI : IV S11 := by rw [eS11]; exact iv_sI hI o_v0 (by decide) (nu_free (by decide))
    have f0 := fr_I eS11 g0 f0 o_v0 (by decide)
    have d_x1 := rd_Ij eS11 (by decide) d_x1
    have d_x9 := rd_Ij eS11 (by decide) d_x9
    have d_x10 := rd_Is eS11 (rfl : x10 = x10)
    have g0 := gr_I eS11 g0
    have o_v0 := ob_I eS11 o_v0
    intro x12 ex12
    intro S13 eS13
    have hI : IV S13 := by rw [eS13]; exact iv_sI hI o_v0 (by decide) (nu_free (by decide))
    have f0 := fr_I eS13 g0 f0 o_v0 (by decide)
    have d_x1 := rd_Ij eS13 (by decide) d_x1
    have d_x9 := rd_Ij eS13 (by decide) d_x9
    have d_x10 := rd_Ij eS13 (by decide) d_x10
    have d_x12 := rd_Is eS13 (rfl : x12 = x12)
    have g0 := gr_I eS13 g0
    have o_v0 := ob_I eS13 o_v0
    intro x14 ex14
    intro S15 eS15
    have hI : IV S15 := by rw [eS15]; exact iv_sI hI o_v0 (by decide) (nu_free (by decide))
    have f0 := fr_I eS15 g0 f0 o_v0 (by decide)
    have d_x1 := rd_Ij eS15 (by decide) d_x1
    have d_x9 := rd_Ij eS15 (by decide) d_x9
    have d_x10 := rd_Ij eS15 (by decide) d_x10
    have d_x12 := rd_Ij eS15 (by decide) d_x12
    have d_x14 := rd_Is eS15 (rfl : x14 = x14)
    have g0 := gr_I eS15 g0
    have o_v0 := ob_I eS15 o_v0
    exact hq _ hI g0 f0
set_option maxHeartbeats 4000000 in
set_option maxRecDepth 20000 in
theorem m_X4_bodyOf {v0 : Nat} {v1 : Nat} {Q : Int32 → HS → Prop} {S : HS} (hI : IV S) (o_v0 : ob S v0 4) (o_v1 : ob S v1 6)    (hT : TX S v0) (hq : ∀ (r : Int32) (T : HS), IV T → Gr S T → FRI [(4, 0), (4, 1), (4, 4), (4, 6), (4, 7), (4, 9), (6, 2), (6, 3), (6, 4)] [] S T → bl r → (TX T v0) → Q r T) : P_X4_bodyOf v0 v1 Q S := by
  have g0 := gr_rf S
  have f0 := fri_rf [(4, 0), (4, 1), (4, 4), (4, 6), (4, 7), (4, 9), (6, 2), (6, 3), (6, 4)] [] S
  refine u_X4_bodyOf ?_
  refine u_X4_bodyOf_0 ?_
  refine ⟨o_v0, ?_⟩
  refine m_X4_wordAndWhole hI o_v0 (by decide) hT (fun x1 S2 hJ g3 fc4 b_x1 p_x1 => ?_)
  obtain ⟨hT, pf9_S2⟩ := p_x1
  have hI := hJ
  have f0 := fri_tr (S := S) g0 f0 fc4 (by decide) (by decide)
  have o_v0 := gr_ob g3 o_v0
  have o_v1 := gr_ob g3 o_v1
  have g0 := gr_tr (T := S) g0 g3
  obtain ⟨y5, d_y5⟩ : ∃ z : Int32, z = fI S2 v0 9 := ⟨_, rfl⟩
  have p_y5 : x1 = 1 → (1 : Int32) ≤ y5 ∧ y5 ≤ (9 : Int32) := by rw [d_y5]; exact pf9_S2
  intro _ _
  have bb_x1 : x1 = 0 ∨ x1 = 1 := b_x1
  refine ⟨fun c6 => ?_, fun c6 => ?_⟩
  · intro x7 ex7
    have q_x7 : x7 = y5 := ex7.trans d_y5.symm
    have d_x7 := ex7
    refine m_X4_wordAndWhole hI o_v0 (by decide) hT (fun x8 S9 hJ g10 fc11 b_x8 p_x8 => ?_)
    obtain ⟨hT, pf9_S9⟩ := p_x8
    have hI := hJ
    have f0 := fri_tr (S := S2) g0 f0 fc11 (by decide) (by decide)
    have o_v0 := gr_ob g10 o_v0
    have o_v1 := gr_ob g10 o_v1
    have g0 := gr_tr (T := S2) g0 g10
    obtain ⟨y12, d_y12⟩ : ∃ z : Int32, z = fI S9 v0 9 := ⟨_, rfl⟩
    have p_y12 : x8 = 1 → (1 : Int32) ≤ y12 ∧ y12 ≤ (9 : Int32) := by rw [d_y12]; exact pf9_S9
    intro _ _
    have bb_x8 : x8 = 0 ∨ x8 = 1 := b_x8
    refine ⟨fun c13 => ?_, fun c13 => ?_⟩
    · intro x14 ex14
      have q_x14 : x14 = y12 := ex14.trans d_y12.symm
      have d_x14 := ex14
      refine ⟨o_v1, ?_⟩
      intro x15 ex15
      have d_x15 := ex15
      refine ⟨fun c16 => ?_, fun c16 => ?_⟩
      · refine u_X4_bodyOf_58 ?_
        refine ⟨o_v0, ?_⟩
        refine m_X4_wordAndWhole hI o_v0 (by decide) hT (fun x17 S18 hJ g19 fc20 b_x17 p_x17 => ?_)
        obtain ⟨hT, pf9_S18⟩ := p_x17
        have hI := hJ
        have d_x15 := d_x15.trans (fri_at fc20 (by decide) (by decide) o_v1).symm
        have f0 := fri_tr (S := S9) g0 f0 fc20 (by decide) (by decide)
        have o_v0 := gr_ob g19 o_v0
        have o_v1 := gr_ob g19 o_v1
        have g0 := gr_tr (T := S9) g0 g19
        obtain ⟨y21, d_y21⟩ : ∃ z : Int32, z = fI S18 v0 9 := ⟨_, rfl⟩
        have p_y21 : x17 = 1 → (1 : Int32) ≤ y21 ∧ y21 ≤ (9 : Int32) := by rw [d_y21]; exact pf9_S18
        intro _ _
        have bb_x17 : x17 = 0 ∨ x17 = 1 := b_x17
        refine ⟨fun c22 => ?_, fun c22 => ?_⟩
        · intro x23 ex23
          have q_x23 : x23 = y21 := ex23.trans d_y21.symm
          have d_x23 := ex23
          refine ⟨o_v1, ?_⟩
          refine u_X6_shape ?_
          refine u_X6_shape_0 ?_
          refine ⟨o_v1, ?_⟩
          intro x24 ex24
          have q_x24 : x24 = x15 := ex24.trans d_x15.symm
          have d_x24 := ex24
          refine ⟨fun c25 => ?_, fun c25 => ?_⟩
          · refine u_X6_shape_16 ?_
            refine ⟨o_v1, ?_⟩
            intro x26 ex26
            intro S27 eS27
            have hI : IV S27 := by rw [eS27]; exact iv_sI hI o_v1 (by decide) (nu_free (by decide))
            have f0 := fr_I eS27 g0 f0 o_v1 (by decide)
            have d_x24 := rd_Ij eS27 (by decide) d_x24
            have d_x23 := rd_Ik eS27 o_v1 o_v0 (by decide) d_x23
            have d_x26 := rd_Is eS27 (rfl : x26 = x26)
            have hT := tx_I eS27 hT
            have g0 := gr_I eS27 g0
            have o_v0 := ob_I eS27 o_v0
            have o_v1 := ob_I eS27 o_v1
            intro x28 ex28
            intro S29 eS29
            have hI : IV S29 := by rw [eS29]; exact iv_sI hI o_v1 (by decide) (nu_free (by decide))
            have f0 := fr_I eS29 g0 f0 o_v1 (by decide)
            have d_x24 := rd_Ij eS29 (by decide) d_x24
            have d_x23 := rd_Ik eS29 o_v1 o_v0 (by decide) d_x23
            have d_x26 := rd_Ij eS29 (by decide) d_x26
            have d_x28 := rd_Is eS29 (rfl : x28 = x28)
            have hT := tx_I eS29 hT
            have g0 := gr_I eS29 g0
            have o_v0 := ob_I eS29 o_v0
            have o_v1 := ob_I eS29 o_v1
            intro x30 ex30
            intro S31 eS31
            have hI : IV S31 := by rw [eS31]; exact iv_sI hI o_v1 (by decide) (nu_free (by decide))
            have f0 := fr_I eS31 g0 f0 o_v1 (by decide)
            have d_x24 := rd_Ij eS31 (by decide) d_x24
            have d_x23 := rd_Ik eS31 o_v1 o_v0 (by decide) d_x23
            have d_x26 := rd_Ij eS31 (by decide) d_x26
            have d_x28 := rd_Ij eS31 (by decide) d_x28
            have d_x30 := rd_Is eS31 (rfl : x30 = x30)
            have hT := tx_I eS31 hT
            have g0 := gr_I eS31 g0
            have o_v0 := ob_I eS31 o_v0
            have o_v1 := ob_I eS31 o_v1
            intro _
            exact hq _ _ hI g0 f0 (Or.inr rfl) hT
          · intro x32 ex32
            have d_x32 := ex32
            refine u_X6_shape_16 ?_
            refine ⟨o_v1, ?_⟩
            intro x33 ex33
            intro S34 eS34
            have hI : IV S34 := by rw [eS34]; exact iv_sI hI o_v1 (by decide) (nu_free (by decide))
            have f0 := fr_I eS34 g0 f0 o_v1 (by decide)
            have d_x24 := rd_Ij eS34 (by decide) d_x24
            have d_x23 := rd_Ik eS34 o_v1 o_v0 (by decide) d_x23
            have d_x32 := rd_Ij eS34 (by decide) d_x32
            have d_x33 := rd_Is eS34 (rfl : x33 = x33)
            have hT := tx_I eS34 hT
            have g0 := gr_I eS34 g0
            have o_v0 := ob_I eS34 o_v0
            have o_v1 := ob_I eS34 o_v1
            intro x35 ex35
            intro S36 eS36
            have hI : IV S36 := by rw [eS36]; exact iv_sI hI o_v1 (by decide) (nu_free (by decide))
            have f0 := fr_I eS36 g0 f0 o_v1 (by decide)
            have d_x24 := rd_Ij eS36 (by decide) d_x24
            have d_x23 := rd_Ik eS36 o_v1 o_v0 (by decide) d_x23
            have d_x32 := rd_Ij eS36 (by decide) d_x32
            have d_x33 := rd_Ij eS36 (by decide) d_x33
            have d_x35 := rd_Is eS36 (rfl : x35 = x35)
            have hT := tx_I eS36 hT
            have g0 := gr_I eS36 g0
            have o_v0 := ob_I eS36 o_v0
            have o_v1 := ob_I eS36 o_v1
            intro x37 ex37
            intro S38 eS38
            have hI : IV S38 := by rw [eS38]; exact iv_sI hI o_v1 (by decide) (nu_free (by decide))
            have f0 := fr_I eS38 g0 f0 o_v1 (by decide)
            have d_x24 := rd_Ij eS38 (by decide) d_x24
            have d_x23 := rd_Ik eS38 o_v1 o_v0 (by decide) d_x23
            have d_x32 := rd_Ij eS38 (by decide) d_x32
            have d_x33 := rd_Ij eS38 (by decide) d_x33
            have d_x35 := rd_Ij eS38 (by decide) d_x35
            have d_x37 := rd_Is eS38 (rfl : x37 = x37)
            have hT := tx_I eS38 hT
            have g0 := gr_I eS38 g0
            have o_v0 := ob_I eS38 o_v0
            have o_v1 := ob_I eS38 o_v1
            intro _
            exact hq _ _ hI g0 f0 (Or.inr rfl) hT
        · exact hq _ _ hI g0 f0 (Or.inl rfl) hT
      · intro x39 ex39
        have d_x39 := ex39
        refine u_X4_bodyOf_58 ?_
        refine ⟨o_v0, ?_⟩
        refine m_X4_wordAndWhole hI o_v0 (by decide) hT (fun x40 S41 hJ g42 fc43 b_x40 p_x40 => ?_)
        obtain ⟨hT, pf9_S41⟩ := p_x40
        have hI := hJ
        have d_x15 := d_x15.trans (fri_at fc43 (by decide) (by decide) o_v1).symm
        have d_x39 := d_x39.trans (fri_at fc43 (by decide) (by decide) o_v1).symm
        have f0 := fri_tr (S := S9) g0 f0 fc43 (by decide) (by decide)
        have o_v0 := gr_ob g42 o_v0
        have o_v1 := gr_ob g42 o_v1
        have g0 := gr_tr (T := S9) g0 g42
        obtain ⟨y44, d_y44⟩ : ∃ z : Int32, z = fI S41 v0 9 := ⟨_, rfl⟩
        have p_y44 : x40 = 1 → (x39 + (1 : Int32)) ≤ y44 ∧ y44 ≤ (9 : Int32) := by rw [d_y44]; exact pf9_S41
        intro _ _
        have bb_x40 : x40 = 0 ∨ x40 = 1 := b_x40
        refine ⟨fun c45 => ?_, fun c45 => ?_⟩
        · intro x46 ex46
          have q_x46 : x46 = y44 := ex46.trans d_y44.symm
          have d_x46 := ex46
          refine ⟨o_v1, ?_⟩
          refine u_X6_shape ?_
          refine u_X6_shape_0 ?_
          refine ⟨o_v1, ?_⟩
          intro x47 ex47
          have q_x47 : x47 = x15 := ex47.trans d_x15.symm
          have d_x47 := ex47
          refine ⟨fun c48 => ?_, fun c48 => ?_⟩
          · refine u_X6_shape_16 ?_
            refine ⟨o_v1, ?_⟩
            intro x49 ex49
            intro S50 eS50
            have hI : IV S50 := by rw [eS50]; exact iv_sI hI o_v1 (by decide) (nu_free (by decide))
            have f0 := fr_I eS50 g0 f0 o_v1 (by decide)
            have d_x47 := rd_Ij eS50 (by decide) d_x47
            have d_x39 := rd_Ij eS50 (by decide) d_x39
            have d_x46 := rd_Ik eS50 o_v1 o_v0 (by decide) d_x46
            have d_x49 := rd_Is eS50 (rfl : x49 = x49)
            have hT := tx_I eS50 hT
            have g0 := gr_I eS50 g0
            have o_v0 := ob_I eS50 o_v0
            have o_v1 := ob_I eS50 o_v1
            intro x51 ex51
            intro S52 eS52
            have hI : IV S52 := by rw [eS52]; exact iv_sI hI o_v1 (by decide) (nu_free (by decide))
            have f0 := fr_I eS52 g0 f0 o_v1 (by decide)
            have d_x47 := rd_Ij eS52 (by decide) d_x47
            have d_x39 := rd_Ij eS52 (by decide) d_x39
            have d_x46 := rd_Ik eS52 o_v1 o_v0 (by decide) d_x46
            have d_x49 := rd_Ij eS52 (by decide) d_x49
            have d_x51 := rd_Is eS52 (rfl : x51 = x51)
            have hT := tx_I eS52 hT
            have g0 := gr_I eS52 g0
            have o_v0 := ob_I eS52 o_v0
            have o_v1 := ob_I eS52 o_v1
            intro x53 ex53
            intro S54 eS54
            have hI : IV S54 := by rw [eS54]; exact iv_sI hI o_v1 (by decide) (nu_free (by decide))
            have f0 := fr_I eS54 g0 f0 o_v1 (by decide)
            have d_x47 := rd_Ij eS54 (by decide) d_x47
            have d_x39 := rd_Ij eS54 (by decide) d_x39
            have d_x46 := rd_Ik eS54 o_v1 o_v0 (by decide) d_x46
            have d_x49 := rd_Ij eS54 (by decide) d_x49
            have d_x51 := rd_Ij eS54 (by decide) d_x51
            have d_x53 := rd_Is eS54 (rfl : x53 = x53)
            have hT := tx_I eS54 hT
            have g0 := gr_I eS54 g0
            have o_v0 := ob_I eS54 o_v0
            have o_v1 := ob_I eS54 o_v1
            intro _
            exact hq _ _ hI g0 f0 (Or.inr rfl) hT
          · intro x55 ex55
            have q_x55 : x55 = x39 := ex55.trans d_x39.symm
            have d_x55 := ex55
            refine u_X6_shape_16 ?_
            refine ⟨o_v1, ?_⟩
            intro x56 ex56
            intro S57 eS57
            have hI : IV S57 := by rw [eS57]; exact iv_sI hI o_v1 (by decide) (nu_free (by decide))
            have f0 := fr_I eS57 g0 f0 o_v1 (by decide)
            have d_x47 := rd_Ij eS57 (by decide) d_x47
            have d_x55 := rd_Ij eS57 (by decide) d_x55
            have d_x46 := rd_Ik eS57 o_v1 o_v0 (by decide) d_x46
            have d_x56 := rd_Is eS57 (rfl : x56 = x56)
            have hT := tx_I eS57 hT
            have g0 := gr_I eS57 g0
            have o_v0 := ob_I eS57 o_v0
            have o_v1 := ob_I eS57 o_v1
            intro x58 ex58
            intro S59 eS59
            have hI : IV S59 := by rw [eS59]; exact iv_sI hI o_v1 (by decide) (nu_free (by decide))
            have f0 := fr_I eS59 g0 f0 o_v1 (by decide)
            have d_x47 := rd_Ij eS59 (by decide) d_x47
            have d_x55 := rd_Ij eS59 (by decide) d_x55
            have d_x46 := rd_Ik eS59 o_v1 o_v0 (by decide) d_x46
            have d_x56 := rd_Ij eS59 (by decide) d_x56
            have d_x58 := rd_Is eS59 (rfl : x58 = x58)
            have hT := tx_I eS59 hT
            have g0 := gr_I eS59 g0
            have o_v0 := ob_I eS59 o_v0
            have o_v1 := ob_I eS59 o_v1
            intro x60 ex60
            intro S61 eS61
            have hI : IV S61 := by rw [eS61]; exact iv_sI hI o_v1 (by decide) (nu_free (by decide))
            have f0 := fr_I eS61 g0 f0 o_v1 (by decide)
            have d_x47 := rd_Ij eS61 (by decide) d_x47
            have d_x55 := rd_Ij eS61 (by decide) d_x55
            have d_x46 := rd_Ik eS61 o_v1 o_v0 (by decide) d_x46
            have d_x56 := rd_Ij eS61 (by decide) d_x56
            have d_x58 := rd_Ij eS61 (by decide) d_x58
            have d_x60 := rd_Is eS61 (rfl : x60 = x60)
            have hT := tx_I eS61 hT
            have g0 := gr_I eS61 g0
            have o_v0 := ob_I eS61 o_v0
            have o_v1 := ob_I eS61 o_v1
            intro _
            exact hq _ _ hI g0 f0 (Or.inr rfl) hT
        · exact hq _ _ hI g0 f0 (Or.inl rfl) hT
    · exact hq _ _ hI g0 f0 (Or.inl rfl) hT
  · exact hq _ _ hI g0 f0 (Or.inl rfl) hT
set_option maxHeartbeats 4000000 in
set_option maxRecDepth 20000 in
theorem m_X4_canBeName {v0 : Nat} {Q : Int32 → HS → Prop} {S : HS} (hI : IV S) (o_v0 : ob S v0 4)    (hT : TX S v0) (hq : ∀ (r : Int32) (T : HS), IV T → Gr S T → bl r → (S = T) → Q r T) : P_X4_canBeName v0 Q S := by
  have g0 := gr_rf S
  refine u_X4_canBeName ?_
  refine u_X4_canBeName_0 ?_
  refine ⟨o_v0, ?_⟩
  refine m_X4_is hI o_v0 (by decide) hT (fun x1 S2 hI2 g3 b_x1 p_x1 => ?_)
  subst p_x1
  intro _ _
  have bb_x1 : x1 = 0 ∨ x1 = 1 := b_x1
  refine ⟨fun c5 => ?_, fun c5 => ?_⟩
  · refine u_X4_canBeName_81 ?_
    refine u_X4_canBeName_86 ?_
    refine ⟨o_v0, ?_⟩
    intro x6 ex6
    have d_x6 := ex6
    refine ⟨fun c7 => ?_, fun c7 => ?_⟩
    · exact hq _ _ hI g0 (Or.inl rfl) rfl
    · refine ⟨fun c8 => ?_, fun c8 => ?_⟩
      · exact hq _ _ hI g0 (Or.inl rfl) rfl
      · exact hq _ _ hI g0 (Or.inr rfl) rfl
  · refine m_X4_is hI o_v0 (by decide) hT (fun x9 S10 hI2 g11 b_x9 p_x9 => ?_)
    subst p_x9
    intro _ _
    have bb_x9 : x9 = 0 ∨ x9 = 1 := b_x9
    refine ⟨fun c13 => ?_, fun c13 => ?_⟩
    · refine u_X4_canBeName_81 ?_
      refine u_X4_canBeName_86 ?_
      refine ⟨o_v0, ?_⟩
      intro x14 ex14
      have d_x14 := ex14
      refine ⟨fun c15 => ?_, fun c15 => ?_⟩
      · exact hq _ _ hI g0 (Or.inl rfl) rfl
      · refine ⟨fun c16 => ?_, fun c16 => ?_⟩
        · exact hq _ _ hI g0 (Or.inl rfl) rfl
        · exact hq _ _ hI g0 (Or.inr rfl) rfl
    · refine m_X4_is hI o_v0 (by decide) hT (fun x17 S18 hI2 g19 b_x17 p_x17 => ?_)
      subst p_x17
      intro _ _
      have bb_x17 : x17 = 0 ∨ x17 = 1 := b_x17
      refine ⟨fun c21 => ?_, fun c21 => ?_⟩
      · refine u_X4_canBeName_81 ?_
        refine u_X4_canBeName_86 ?_
        refine ⟨o_v0, ?_⟩
        intro x22 ex22
        have d_x22 := ex22
        refine ⟨fun c23 => ?_, fun c23 => ?_⟩
        · exact hq _ _ hI g0 (Or.inl rfl) rfl
        · refine ⟨fun c24 => ?_, fun c24 => ?_⟩
          · exact hq _ _ hI g0 (Or.inl rfl) rfl
          · exact hq _ _ hI g0 (Or.inr rfl) rfl
      · refine m_X4_is hI o_v0 (by decide) hT (fun x25 S26 hI2 g27 b_x25 p_x25 => ?_)
        subst p_x25
        intro _ _
        have bb_x25 : x25 = 0 ∨ x25 = 1 := b_x25
        refine ⟨fun c29 => ?_, fun c29 => ?_⟩
        · refine u_X4_canBeName_81 ?_
          refine u_X4_canBeName_86 ?_
          refine ⟨o_v0, ?_⟩
          intro x30 ex30
          have d_x30 := ex30
          refine ⟨fun c31 => ?_, fun c31 => ?_⟩
          · exact hq _ _ hI g0 (Or.inl rfl) rfl
          · refine ⟨fun c32 => ?_, fun c32 => ?_⟩
            · exact hq _ _ hI g0 (Or.inl rfl) rfl
            · exact hq _ _ hI g0 (Or.inr rfl) rfl
        · refine m_X4_is hI o_v0 (by decide) hT (fun x33 S34 hI2 g35 b_x33 p_x33 => ?_)
          subst p_x33
          intro _ _
          have bb_x33 : x33 = 0 ∨ x33 = 1 := b_x33
          refine ⟨fun c37 => ?_, fun c37 => ?_⟩
          · refine u_X4_canBeName_81 ?_
            refine u_X4_canBeName_86 ?_
            refine ⟨o_v0, ?_⟩
            intro x38 ex38
            have d_x38 := ex38
            refine ⟨fun c39 => ?_, fun c39 => ?_⟩
            · exact hq _ _ hI g0 (Or.inl rfl) rfl
            · refine ⟨fun c40 => ?_, fun c40 => ?_⟩
              · exact hq _ _ hI g0 (Or.inl rfl) rfl
              · exact hq _ _ hI g0 (Or.inr rfl) rfl
          · refine m_X4_is hI o_v0 (by decide) hT (fun x41 S42 hI2 g43 b_x41 p_x41 => ?_)
            subst p_x41
            intro _ _
            have bb_x41 : x41 = 0 ∨ x41 = 1 := b_x41
            refine ⟨fun c45 => ?_, fun c45 => ?_⟩
            · refine u_X4_canBeName_81 ?_
              refine u_X4_canBeName_86 ?_
              refine ⟨o_v0, ?_⟩
              intro x46 ex46
              have d_x46 := ex46
              refine ⟨fun c47 => ?_, fun c47 => ?_⟩
              · exact hq _ _ hI g0 (Or.inl rfl) rfl
              · refine ⟨fun c48 => ?_, fun c48 => ?_⟩
                · exact hq _ _ hI g0 (Or.inl rfl) rfl
                · exact hq _ _ hI g0 (Or.inr rfl) rfl
            · refine m_X4_is hI o_v0 (by decide) hT (fun x49 S50 hI2 g51 b_x49 p_x49 => ?_)
              subst p_x49
              intro _ _
              have bb_x49 : x49 = 0 ∨ x49 = 1 := b_x49
              refine ⟨fun c53 => ?_, fun c53 => ?_⟩
              · refine u_X4_canBeName_81 ?_
                refine u_X4_canBeName_86 ?_
                refine ⟨o_v0, ?_⟩
                intro x54 ex54
                have d_x54 := ex54
                refine ⟨fun c55 => ?_, fun c55 => ?_⟩
                · exact hq _ _ hI g0 (Or.inl rfl) rfl
                · refine ⟨fun c56 => ?_, fun c56 => ?_⟩
                  · exact hq _ _ hI g0 (Or.inl rfl) rfl
                  · exact hq _ _ hI g0 (Or.inr rfl) rfl
              · refine m_X4_is hI o_v0 (by decide) hT (fun x57 S58 hI2 g59 b_x57 p_x57 => ?_)
                subst p_x57
                intro _ _
                have bb_x57 : x57 = 0 ∨ x57 = 1 := b_x57
                refine ⟨fun c61 => ?_, fun c61 => ?_⟩
                · refine u_X4_canBeName_81 ?_
                  refine u_X4_canBeName_86 ?_
                  refine ⟨o_v0, ?_⟩
                  intro x62 ex62
                  have d_x62 := ex62
                  refine ⟨fun c63 => ?_, fun c63 => ?_⟩
                  · exact hq _ _ hI g0 (Or.inl rfl) rfl
                  · refine ⟨fun c64 => ?_, fun c64 => ?_⟩
                    · exact hq _ _ hI g0 (Or.inl rfl) rfl
                    · exact hq _ _ hI g0 (Or.inr rfl) rfl
                · refine m_X4_is hI o_v0 (by decide) hT (fun x65 S66 hI2 g67 b_x65 p_x65 => ?_)
                  subst p_x65
                  intro _ _
                  have bb_x65 : x65 = 0 ∨ x65 = 1 := b_x65
                  refine ⟨fun c69 => ?_, fun c69 => ?_⟩
                  · refine u_X4_canBeName_86 ?_
                    refine ⟨o_v0, ?_⟩
                    intro x70 ex70
                    have d_x70 := ex70
                    refine ⟨fun c71 => ?_, fun c71 => ?_⟩
                    · exact hq _ _ hI g0 (Or.inl rfl) rfl
                    · refine ⟨fun c72 => ?_, fun c72 => ?_⟩
                      · exact hq _ _ hI g0 (Or.inl rfl) rfl
                      · exact hq _ _ hI g0 (Or.inr rfl) rfl
                  · refine u_X4_canBeName_81 ?_
                    refine u_X4_canBeName_86 ?_
                    refine ⟨o_v0, ?_⟩
                    intro x73 ex73
                    have d_x73 := ex73
                    refine ⟨fun c74 => ?_, fun c74 => ?_⟩
                    · exact hq _ _ hI g0 (Or.inl rfl) rfl
                    · refine ⟨fun c75 => ?_, fun c75 => ?_⟩
                      · exact hq _ _ hI g0 (Or.inl rfl) rfl
                      · exact hq _ _ hI g0 (Or.inr rfl) rfl
set_option maxHeartbeats 4000000 in
set_option maxRecDepth 20000 in
theorem m_X4_exchange {v0 : Nat} {v1 : Nat} {Q : Nat → HS → Prop} {S : HS} (hI : IV S) (o_v0 : ob S v0 4) (o_v1 : ob S v1 8)     (hq : ∀ (r : Nat) (T : HS), IV T → Gr S T → FRI [] [(4, 5)] S T → ob T r 8 → Q r T) : P_X4_exchange v0 v1 Q S := by
  have g0 := gr_rf S
  have f0 := fri_rf [] [(4, 5)] S
  refine u_X4_exchange ?_
  refine u_X4_exchange_0 ?_
  refine ⟨o_v0, ?_⟩
  obtain ⟨a1, ea1, o_a1, -⟩ := sh 12 rfl hI o_v0
  refine ⟨a1, ea1, ?_⟩
  intro S2 eS2
  have hI : IV S2 := by rw [eS2]; exact iv_sR (j := 5) (v := v1) hI o_v0 (by decide) (by decide) (npr hI.1 o_v1 (by decide)) o_v1.1 (sh_one (by decide) ⟨o_v1, Or.inl rfl⟩)
  have f0 := fr_R eS2 g0 f0 o_v0 (by decide)
  have g0 := gr_R eS2 g0
  have o_a1 := ob_R eS2 o_a1
  have o_v0 := ob_R eS2 o_v0
  have o_v1 := ob_R eS2 o_v1
  exact hq _ _ hI g0 f0 o_a1
set_option maxHeartbeats 4000000 in
set_option maxRecDepth 20000 in
theorem m_X4_findName {v0 : Nat} {Q : Int32 → HS → Prop} {S : HS} (hI : IV S) (o_v0 : ob S v0 4)    (hT : TX S v0) (hq : ∀ (r : Int32) (T : HS), IV T → Gr S T → (S = T) → Q r T) : P_X4_findName v0 Q S := by
  have g0 := gr_rf S
  refine u_X4_findName ?_
  refine u_X4_findName_0 ?_
  refine i_X4_findName_2 (fun (y0 : Nat) (y1 : Int32) (Z : HS) => ((2147483647 : Int32).toInt - y1.toInt).toNat) (fun (y0 : Nat) (y1 : Int32) (Z : HS) => (S = Z) ∧ (v0 = y0) ∧ (0 ≤ y1)) ?_ _ _ _ ⟨rfl, rfl, (q82)⟩
  intro w5 w7 S2 X8 ⟨eS2, q6, i1u1⟩ ih9
  subst q6
  subst eS2
  refine u_X4_findName_2 ?_
  refine ⟨o_v0, ?_⟩
  intro x10 ex10
  have r_x10 : (0 : Int32) ≤ x10 ∧ x10 ≤ (12 : Int32) := by rw [ex10]; exact nu 7 rfl hI o_v0
  have d_x10 := ex10
  refine ⟨fun c11 => ?_, fun c11 => ?_⟩
  · exact hq _ _ hI g0 rfl
  · refine ⟨fun c12 => ?_, fun c12 => ?_⟩
    · exact hq _ _ hI g0 rfl
    · obtain ⟨a13, ea13, o_a13, l_a13⟩ := shl 13 rfl hI o_v0
      refine ⟨a13, ea13, ?_⟩
      refine ⟨o_a13, ?_⟩
      refine ⟨(vin l_a13 (m := 12) (by decide) (q722 i1u1 r_x10 c11 c12)), ?_⟩
      intro x14 ex14
      intro x15 ex15
      have dj_x15 := ex15
      refine ⟨fun c16 => ?_, fun c16 => ?_⟩
      · intro x17 ex17
        exact ih9 _ _ _ ⟨rfl, rfl, (q723 i1u1 r_x10 c11 c12 c16 ex17)⟩ (mu_up (q724 i1u1 r_x10 c11 c12 c16 ex17) (q725 i1u1 r_x10 c11 c12 c16 ex17))
      · obtain ⟨a18, ea18, o_a18, l_a18⟩ := shl 14 rfl hI o_v0
        refine ⟨a18, ea18, ?_⟩
        refine ⟨o_a18, ?_⟩
        refine ⟨(vin l_a18 (m := 12) (by decide) (q726 i1u1 r_x10 c11 c12 c16)), ?_⟩
        intro x19 ex19
        exact hq _ _ hI g0 rfl
set_option maxHeartbeats 4000000 in
set_option maxRecDepth 20000 in
theorem m_X8_isTold {v0 : Nat} {Q : Int32 → HS → Prop} {S : HS} (hI : IV S) (o_v0 : ob S v0 8)     (hq : ∀ (r : Int32) (T : HS), IV T → Gr S T → bl r → (S = T) → Q r T) : P_X8_isTold v0 Q S := by
  have g0 := gr_rf S
  refine u_X8_isTold ?_
  refine u_X8_isTold_0 ?_
  refine ⟨o_v0, ?_⟩
  intro x1 ex1
  have r_x1 : (0 : Int32) ≤ x1 ∧ x1 ≤ (60 : Int32) := by rw [ex1]; exact nu 10 rfl hI o_v0
  have d_x1 := ex1
  refine ⟨fun c2 => ?_, fun c2 => ?_⟩
  · exact hq _ _ hI g0 (Or.inl rfl) rfl
  · exact hq _ _ hI g0 (Or.inr rfl) rfl
set_option maxHeartbeats 4000000 in
set_option maxRecDepth 20000 in
theorem m_X4_hasRoom {v0 : Nat} {v1 : Int32} {v2 : Int32} {Q : Int32 → HS → Prop} {S : HS} (hI : IV S) (o_v0 : ob S v0 4)    (hT : TX S v0) (hq : ∀ (r : Int32) (T : HS), IV T → Gr S T → FRI [(4, 0), (4, 1), (4, 4), (4, 6), (4, 7)] [] S T → bl r → (TX T v0) ∧ (r = 1 → v1 < v2) → Q r T) : P_X4_hasRoom v0 v1 v2 Q S := by
  have g0 := gr_rf S
  have f0 := fri_rf [(4, 0), (4, 1), (4, 4), (4, 6), (4, 7)] [] S
  refine u_X4_hasRoom ?_
  refine u_X4_hasRoom_0 ?_
  refine ⟨o_v0, ?_⟩
  obtain ⟨a1, ea1, o_a1, -⟩ := sh 12 rfl hI o_v0
  refine ⟨a1, ea1, ?_⟩
  refine ⟨o_a1, ?_⟩
  refine m_X8_isTold hI o_a1 (fun x2 S3 hI2 g4 b_x2 p_x2 => ?_)
  subst p_x2
  intro _ _
  have bb_x2 : x2 = 0 ∨ x2 = 1 := b_x2
  refine ⟨fun c6 => ?_, fun c6 => ?_⟩
  · refine ⟨fun c7 => ?_, fun c7 => ?_⟩
    · refine m_X4_next hI o_v0 hT (fun S9 hJ g10 fc11 p_S9 => ?_)
      have hT := p_S9
      have hI := hJ
      have ea1 := (frr_at fc11 (by decide) (by decide) o_v0).trans ea1
      have f0 := fri_tr (S := S) g0 f0 fc11 (by decide) (by decide)
      have o_a1 := gr_ob g10 o_a1
      have o_v0 := gr_ob g10 o_v0
      have g0 := gr_tr (T := S) g0 g10
      intro _
      exact hq _ _ hI g0 f0 (Or.inr rfl) ⟨hT, (q719 bb_x2 c6 c7)⟩
    · refine u_X4_fail ?_
      refine u_X4_fail_0 ?_
      refine ⟨o_v0, ?_⟩
      intro S12 eS12
      have hI : IV S12 := by rw [eS12]; exact iv_sI hI o_v0 (by decide) (nu_free (by decide))
      have f0 := fr_I eS12 g0 f0 o_v0 (by decide)
      obtain ⟨y13, hy13⟩ : ∃ z : Int32, z = (5 : Int32) := ⟨_, rfl⟩
      have d_y13 := rd_Is eS12 hy13
      have ea1 := rf_I eS12 ea1
      have hT := tx_I eS12 hT
      have g0 := gr_I eS12 g0
      have o_a1 := ob_I eS12 o_a1
      have o_v0 := ob_I eS12 o_v0
      intro x14 ex14
      have d_x14 := ex14
      intro S15 eS15
      have hI : IV S15 := by rw [eS15]; exact iv_sI hI o_v0 (by decide) (nu_free (by decide))
      have f0 := fr_I eS15 g0 f0 o_v0 (by decide)
      have d_y13 := rd_Ij eS15 (by decide) d_y13
      have d_x14 := rd_Ij eS15 (by decide) d_x14
      obtain ⟨y16, hy16⟩ : ∃ z : Int32, z = x14 := ⟨_, rfl⟩
      have d_y16 := rd_Is eS15 hy16
      have ea1 := rf_I eS15 ea1
      have hT := tx_I eS15 hT
      have g0 := gr_I eS15 g0
      have o_a1 := ob_I eS15 o_a1
      have o_v0 := ob_I eS15 o_v0
      intro _ _
      refine ⟨(Or.inl rfl), ?_⟩
      exact hq _ _ hI g0 f0 (Or.inl rfl) ⟨hT, (q720 bb_x2 c6 c7)⟩
  · refine u_X4_fail ?_
    refine u_X4_fail_0 ?_
    refine ⟨o_v0, ?_⟩
    intro S18 eS18
    have hI : IV S18 := by rw [eS18]; exact iv_sI hI o_v0 (by decide) (nu_free (by decide))
    have f0 := fr_I eS18 g0 f0 o_v0 (by decide)
    obtain ⟨y19, hy19⟩ : ∃ z : Int32, z = (6 : Int32) := ⟨_, rfl⟩
    have d_y19 := rd_Is eS18 hy19
    have ea1 := rf_I eS18 ea1
    have hT := tx_I eS18 hT
    have g0 := gr_I eS18 g0
    have o_a1 := ob_I eS18 o_a1
    have o_v0 := ob_I eS18 o_v0
    intro x20 ex20
    have d_x20 := ex20
    intro S21 eS21
    have hI : IV S21 := by rw [eS21]; exact iv_sI hI o_v0 (by decide) (nu_free (by decide))
    have f0 := fr_I eS21 g0 f0 o_v0 (by decide)
    have d_y19 := rd_Ij eS21 (by decide) d_y19
    have d_x20 := rd_Ij eS21 (by decide) d_x20
    obtain ⟨y22, hy22⟩ : ∃ z : Int32, z = x20 := ⟨_, rfl⟩
    have d_y22 := rd_Is eS21 hy22
    have ea1 := rf_I eS21 ea1
    have hT := tx_I eS21 hT
    have g0 := gr_I eS21 g0
    have o_a1 := ob_I eS21 o_a1
    have o_v0 := ob_I eS21 o_v0
    intro _ _
    refine ⟨(Or.inl rfl), ?_⟩
    exact hq _ _ hI g0 f0 (Or.inl rfl) ⟨hT, (q721 bb_x2 c6)⟩
