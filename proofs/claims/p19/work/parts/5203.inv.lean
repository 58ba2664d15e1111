section
set_option maxHeartbeats 4000000 in
set_option maxRecDepth 20000 in
theorem m_X4_whole {v0 : Nat} {v1 : Int32} {v2 : Int32} {Q : Int32 → HS → Prop} {S : HS} (hI : IV S) (o_v0 : ob S v0 4)    (hT : TX S v0) (hq : ∀ (r : Int32) (T : HS), IV T → Gr S T → FRI [(4, 0), (4, 1), (4, 4), (4, 6), (4, 7), (4, 9)] [] S T → bl r → (TX T v0) ∧ (r = 1 → v1 ≤ fI T v0 9 ∧ fI T v0 9 ≤ v2) → Q r T) : P_X4_whole v0 v1 v2 Q S := by
  have g0 := gr_rf S
  have f0 := fri_rf [(4, 0), (4, 1), (4, 4), (4, 6), (4, 7), (4, 9)] [] S
  refine u_X4_whole ?_
  refine u_X4_whole_0 ?_
  refine ⟨o_v0, ?_⟩
  intro x1 ex1
  have d_x1 := ex1
  refine ⟨fun c2 => ?_, fun c2 => ?_⟩
  · intro x3 ex3
    have dj_x3 := ex3
    refine ⟨fun c4 => ?_, fun c4 => ?_⟩
    · refine u_X4_whole_34 ?_
      refine ⟨o_v0, ?_⟩
      refine u_X4_fail ?_
      refine u_X4_fail_0 ?_
      refine ⟨o_v0, ?_⟩
      intro S5 eS5
      have hI : IV S5 := by rw [eS5]; exact iv_sI hI o_v0 (by decide) (nu_free (by decide))
      have f0 := fr_I eS5 g0 f0 o_v0 (by decide)
      have d_x1 := rd_Ij eS5 (by decide) d_x1
      obtain ⟨y6, hy6⟩ : ∃ z : Int32, z = (4 : Int32) := ⟨_, rfl⟩
      have d_y6 := rd_Is eS5 hy6
      have dj_x3 : x3 = fJ S5 v0 8 := by rw [eS5]; exact dj_x3
      have hT := tx_I eS5 hT
      have g0 := gr_I eS5 g0
      have o_v0 := ob_I eS5 o_v0
      intro x7 ex7
      have d_x7 := ex7
      intro S8 eS8
      have hI : IV S8 := by rw [eS8]; exact iv_sI hI o_v0 (by decide) (nu_free (by decide))
      have f0 := fr_I eS8 g0 f0 o_v0 (by decide)
      have d_x1 := rd_Ij eS8 (by decide) d_x1
      have d_y6 := rd_Ij eS8 (by decide) d_y6
      have d_x7 := rd_Ij eS8 (by decide) d_x7
      obtain ⟨y9, hy9⟩ : ∃ z : Int32, z = x7 := ⟨_, rfl⟩
      have d_y9 := rd_Is eS8 hy9
      have dj_x3 : x3 = fJ S8 v0 8 := by rw [eS8]; exact dj_x3
      have hT := tx_I eS8 hT
      have g0 := gr_I eS8 g0
      have o_v0 := ob_I eS8 o_v0
      intro _ _
      refine ⟨(Or.inl rfl), ?_⟩
      obtain ⟨y11, d_y11⟩ : ∃ z : Int32, z = fI S8 v0 9 := ⟨_, rfl⟩
      exact hq _ _ hI g0 f0 (Or.inl rfl) ⟨hT, (by rw [← d_y11]; exact (q194 c2 c4))⟩
    · intro x12 ex12
      have q_x12 : x12 = x3 := ex12.trans dj_x3.symm
      have dj_x12 := ex12
      refine ⟨fun c13 => ?_, fun c13 => ?_⟩
      · intro x14 ex14
        have q_x14 : x14 = x12 := ex14.trans dj_x12.symm
        have dj_x14 := ex14
        intro x15 ex15
        intro S16 eS16
        have hI : IV S16 := by rw [eS16]; exact iv_sI hI o_v0 (by decide) (nu_free (by decide))
        have f0 := fr_I eS16 g0 f0 o_v0 (by decide)
        have d_x1 := rd_Ij eS16 (by decide) d_x1
        have d_x15 := rd_Is eS16 (rfl : x15 = x15)
        have dj_x14 : x14 = fJ S16 v0 8 := by rw [eS16]; exact dj_x14
        have hT := tx_I eS16 hT
        have g0 := gr_I eS16 g0
        have o_v0 := ob_I eS16 o_v0
        refine m_X4_next hI o_v0 hT (fun S18 hJ g19 fc20 p_S18 => ?_)
        have hT := p_S18
        have hI := hJ
        have d_x15 := d_x15.trans (fri_at fc20 (by decide) (by decide) o_v0).symm
        have f0 := fri_tr (S := S16) g0 f0 fc20 (by decide) (by decide)
        have o_v0 := gr_ob g19 o_v0
        have g0 := gr_tr (T := S16) g0 g19
        intro _
        exact hq _ _ hI g0 f0 (Or.inr rfl) ⟨hT, (by rw [← d_x15]; exact (fun _ => by have a := lc_ge c4; have b := lc_le c13; simp only [q_x12, q_x14, ex15] at *; exact i64_rng a b))⟩
      · refine u_X4_whole_34 ?_
        refine ⟨o_v0, ?_⟩
        refine u_X4_fail ?_
        refine u_X4_fail_0 ?_
        refine ⟨o_v0, ?_⟩
        intro S21 eS21
        have hI : IV S21 := by rw [eS21]; exact iv_sI hI o_v0 (by decide) (nu_free (by decide))
        have f0 := fr_I eS21 g0 f0 o_v0 (by decide)
        have d_x1 := rd_Ij eS21 (by decide) d_x1
        obtain ⟨y22, hy22⟩ : ∃ z : Int32, z = (4 : Int32) := ⟨_, rfl⟩
        have d_y22 := rd_Is eS21 hy22
        have dj_x12 : x12 = fJ S21 v0 8 := by rw [eS21]; exact dj_x12
        have hT := tx_I eS21 hT
        have g0 := gr_I eS21 g0
        have o_v0 := ob_I eS21 o_v0
        intro x23 ex23
        have d_x23 := ex23
        intro S24 eS24
        have hI : IV S24 := by rw [eS24]; exact iv_sI hI o_v0 (by decide) (nu_free (by decide))
        have f0 := fr_I eS24 g0 f0 o_v0 (by decide)
        have d_x1 := rd_Ij eS24 (by decide) d_x1
        have d_y22 := rd_Ij eS24 (by decide) d_y22
        have d_x23 := rd_Ij eS24 (by decide) d_x23
        obtain ⟨y25, hy25⟩ : ∃ z : Int32, z = x23 := ⟨_, rfl⟩
        have d_y25 := rd_Is eS24 hy25
        have dj_x12 : x12 = fJ S24 v0 8 := by rw [eS24]; exact dj_x12
        have hT := tx_I eS24 hT
        have g0 := gr_I eS24 g0
        have o_v0 := ob_I eS24 o_v0
        intro _ _
        refine ⟨(Or.inl rfl), ?_⟩
        obtain ⟨y27, d_y27⟩ : ∃ z : Int32, z = fI S24 v0 9 := ⟨_, rfl⟩
        exact hq _ _ hI g0 f0 (Or.inl rfl) ⟨hT, (by rw [← d_y27]; exact (q195 c2 c4 q_x12 c13))⟩
  · refine u_X4_fail ?_
    refine u_X4_fail_0 ?_
    refine ⟨o_v0, ?_⟩
    intro S28 eS28
    have hI : IV S28 := by rw [eS28]; exact iv_sI hI o_v0 (by decide) (nu_free (by decide))
    have f0 := fr_I eS28 g0 f0 o_v0 (by decide)
    have d_x1 := rd_Ij eS28 (by decide) d_x1
    obtain ⟨y29, hy29⟩ : ∃ z : Int32, z = (1 : Int32) := ⟨_, rfl⟩
    have d_y29 := rd_Is eS28 hy29
    have hT := tx_I eS28 hT
    have g0 := gr_I eS28 g0
    have o_v0 := ob_I eS28 o_v0
    intro x30 ex30
    have d_x30 := ex30
    intro S31 eS31
    have hI : IV S31 := by rw [eS31]; exact iv_sI hI o_v0 (by decide) (nu_free (by decide))
    have f0 := fr_I eS31 g0 f0 o_v0 (by decide)
    have d_x1 := rd_Ij eS31 (by decide) d_x1
    have d_y29 := rd_Ij eS31 (by decide) d_y29
    have d_x30 := rd_Ij eS31 (by decide) d_x30
    obtain ⟨y32, hy32⟩ : ∃ z : Int32, z = x30 := ⟨_, rfl⟩
    have d_y32 := rd_Is eS31 hy32
    have hT := tx_I eS31 hT
    have g0 := gr_I eS31 g0
    have o_v0 := ob_I eS31 o_v0
    intro _ _
    refine ⟨(Or.inl rfl), ?_⟩
    obtain ⟨y34, d_y34⟩ : ∃ z : Int32, z = fI S31 v0 9 := ⟨_, rfl⟩
    exact hq _ _ hI g0 f0 (Or.inl rfl) ⟨hT, (by rw [← d_y34]; exact (q196 c2))⟩
set_option maxHeartbeats 4000000 in
set_option maxRecDepth 20000 in
theorem m_X4_is {v0 : Nat} {v1 : Nat} {Q : Int32 → HS → Prop} {S : HS} (hI : IV S) (o_v0 : ob S v0 4)  (hw_v1 : v1 < 54)  (hT : TX S v0) (hq : ∀ (r : Int32) (T : HS), IV T → Gr S T → bl r → (S = T) → Q r T) : P_X4_is v0 v1 Q S := by
  have g0 := gr_rf S
  refine u_X4_is ?_
  refine u_X4_is_0 ?_
  refine ⟨o_v0, ?_⟩
  intro x1 ex1
  have d_x1 := ex1
  refine ⟨fun c2 => ?_, fun c2 => ?_⟩
  · refine i_X4_is_15 (fun (y0 : Nat) (y1 : Nat) (y2 : Int64) (y4 : Int32) (Z : HS) => ((2147483647 : Int32).toInt - y4.toInt).toNat) (fun (y0 : Nat) (y1 : Nat) (y2 : Int64) (y4 : Int32) (Z : HS) => (S = Z) ∧ (v0 = y0) ∧ (v1 = y1) ∧ (0 ≤ y4)) ?_ _ _ _ _ _ ⟨rfl, rfl, rfl, (q714 c2)⟩
    intro w7 w9 w11 w12 S4 X13 ⟨eS4, q8, q10, i1u3⟩ ih14
    subst q8
    subst q10
    subst eS4
    refine u_X4_is_15 ?_
    refine ⟨hw_v1, ?_⟩
    intro x15 ex15
    refine ⟨fun c16 => ?_, fun c16 => ?_⟩
    · refine ⟨o_v0, ?_⟩
      intro x17 ex17
      have dj_x17 := ex17
      refine ⟨fun c18 => ?_, fun c18 => ?_⟩
      · exact hq _ _ hI g0 (Or.inl rfl) rfl
      · exact hq _ _ hI g0 (Or.inr rfl) rfl
    · refine ⟨hw_v1, (vinL (sl_lt v1) (by rw [← ex15]; exact (q715 c2 i1u3 c16))), ?_⟩
      intro x19 ex19
      intro x20 ex20
      intro x21 ex21
      exact ih14 _ _ _ _ _ ⟨rfl, rfl, rfl, (q716 c2 i1u3 c16 ex21)⟩ (mu_up (q717 c2 i1u3 c16 ex21) (q718 c2 i1u3 c16 ex21))
  · exact hq _ _ hI g0 (Or.inl rfl) rfl
set_option maxHeartbeats 4000000 in
set_option maxRecDepth 20000 in
theorem m_X4_word {v0 : Nat} {v1 : Nat} {Q : Int32 → HS → Prop} {S : HS} (hI : IV S) (o_v0 : ob S v0 4)  (hw_v1 : v1 < 54)  (hT : TX S v0) (hq : ∀ (r : Int32) (T : HS), IV T → Gr S T → FRI [(4, 0), (4, 1), (4, 4), (4, 6), (4, 7)] [] S T → bl r → (TX T v0) → Q r T) : P_X4_word v0 v1 Q S := by
  have g0 := gr_rf S
  have f0 := fri_rf [(4, 0), (4, 1), (4, 4), (4, 6), (4, 7)] [] S
  refine u_X4_word ?_
  refine u_X4_word_0 ?_
  refine ⟨o_v0, ?_⟩
  refine m_X4_is hI o_v0 hw_v1 hT (fun x1 S2 hI2 g3 b_x1 p_x1 => ?_)
  subst p_x1
  intro _ _
  have bb_x1 : x1 = 0 ∨ x1 = 1 := b_x1
  refine ⟨fun c5 => ?_, fun c5 => ?_⟩
  · refine m_X4_next hI o_v0 hT (fun S7 hJ g8 fc9 p_S7 => ?_)
    have hT := p_S7
    have hI := hJ
    have f0 := fri_tr (S := S) g0 f0 fc9 (by decide) (by decide)
    have o_v0 := gr_ob g8 o_v0
    have g0 := gr_tr (T := S) g0 g8
    intro _
    exact hq _ _ hI g0 f0 (Or.inr rfl) hT
  · refine u_X4_fail ?_
    refine u_X4_fail_0 ?_
    refine ⟨o_v0, ?_⟩
    intro S10 eS10
    have hI : IV S10 := by rw [eS10]; exact iv_sI hI o_v0 (by decide) (nu_free (by decide))
    have f0 := fr_I eS10 g0 f0 o_v0 (by decide)
    obtain ⟨y11, hy11⟩ : ∃ z : Int32, z = (1 : Int32) := ⟨_, rfl⟩
    have d_y11 := rd_Is eS10 hy11
    have hT := tx_I eS10 hT
    have g0 := gr_I eS10 g0
    have o_v0 := ob_I eS10 o_v0
    intro x12 ex12
    have d_x12 := ex12
    intro S13 eS13
    have hI : IV S13 := by rw [eS13]; exact iv_sI hI o_v0 (by decide) (nu_free (by decide))
    have f0 := fr_I eS13 g0 f0 o_v0 (by decide)
    have d_y11 := rd_Ij eS13 (by decide) d_y11
    have d_x12 := rd_Ij eS13 (by decide) d_x12
    obtain ⟨y14, hy14⟩ : ∃ z : Int32, z = x12 := ⟨_, rfl⟩
    have d_y14 := rd_Is eS13 hy14
    have hT := tx_I eS13 hT
    have g0 := gr_I eS13 g0
    have o_v0 := ob_I eS13 o_v0
    intro _ _
    refine ⟨(Or.inl rfl), ?_⟩
    exact hq _ _ hI g0 f0 (Or.inl rfl) hT
set_option maxHeartbeats 4000000 in
set_option maxRecDepth 20000 in
theorem m_X4_wordAndWhole {v0 : Nat} {v1 : Nat} {v2 : Int32} {v3 : Int32} {Q : Int32 → HS → Prop} {S : HS} (hI : IV S) (o_v0 : ob S v0 4)  (hw_v1 : v1 < 54)  (hT : TX S v0) (hq : ∀ (r : Int32) (T : HS), IV T → Gr S T → FRI [(4, 0), (4, 1), (4, 4), (4, 6), (4, 7), (4, 9)] [] S T → bl r → (TX T v0) ∧ (r = 1 → v2 ≤ fI T v0 9 ∧ fI T v0 9 ≤ v3) → Q r T) : P_X4_wordAndWhole v0 v1 v2 v3 Q S := by
  have g0 := gr_rf S
  have f0 := fri_rf [(4, 0), (4, 1), (4, 4), (4, 6), (4, 7), (4, 9)] [] S
  refine u_X4_wordAndWhole ?_
  refine u_X4_wordAndWhole_0 ?_
  refine ⟨o_v0, ?_⟩
  refine m_X4_word hI o_v0 hw_v1 hT (fun x1 S2 hJ g3 fc4 b_x1 p_x1 => ?_)
  have hT := p_x1
  have hI := hJ
  have f0 := fri_tr (S := S) g0 f0 fc4 (by decide) (by decide)
  have o_v0 := gr_ob g3 o_v0
  have g0 := gr_tr (T := S) g0 g3
  intro _ _
  have bb_x1 : x1 = 0 ∨ x1 = 1 := b_x1
  refine ⟨fun c5 => ?_, fun c5 => ?_⟩
  · obtain ⟨y6, d_y6⟩ : ∃ z : Int32, z = fI S2 v0 9 := ⟨_, rfl⟩
    exact hq _ _ hI g0 f0 (Or.inl rfl) ⟨hT, (by rw [← d_y6]; exact (q191 bb_x1 c5))⟩
  · refine m_X4_whole hI o_v0 hT (fun x7 S8 hJ g9 fc10 b_x7 p_x7 => ?_)
    obtain ⟨hT, pf9_S8⟩ := p_x7
    have hI := hJ
    have f0 := fri_tr (S := S2) g0 f0 fc10 (by decide) (by decide)
    have o_v0 := gr_ob g9 o_v0
    have g0 := gr_tr (T := S2) g0 g9
    obtain ⟨y11, d_y11⟩ : ∃ z : Int32, z = fI S8 v0 9 := ⟨_, rfl⟩
    have p_y11 : x7 = 1 → v2 ≤ y11 ∧ y11 ≤ v3 := by rw [d_y11]; exact pf9_S8
    intro _ _
    have bb_x7 : x7 = 0 ∨ x7 = 1 := b_x7
    refine ⟨fun c12 => ?_, fun c12 => ?_⟩
    · exact hq _ _ hI g0 f0 (Or.inl rfl) ⟨hT, (by rw [← d_y11]; exact (q192 bb_x1 c5 p_y11 bb_x7 c12))⟩
    · exact hq _ _ hI g0 f0 (Or.inr rfl) ⟨hT, (by rw [← d_y11]; exact (q193 bb_x1 c5 p_y11 bb_x7 c12))⟩
set_option maxHeartbeats 4000000 in
set_option maxRecDepth 20000 in
theorem m_X4_bodyOf {v0 : Nat} {v1 : Nat} {Q : Int32 → HS → Prop} {S : HS} (hI : IV S) (o_v0 : ob S v0 4) (o_v1 : ob S v1 6)    (hT : TX S v0) (hq : ∀ (r : Int32) (T : HS), IV T → Gr S T → FRI [(4, 0), (4, 1), (4, 4), (4, 6), (4, 7), (4, 9), (6, 2), (6, 3), (6, 4)] [] S T → bl r → (TX T v0) → Q r T) : P_X4_bodyOf v0 v1 Q S := by
  have g0 := gr_rf S
  have f0 := fri_rf [(4, 0), (4, 1), (4, 4), (4, 6), (4, 7), (4, 9), (6, 2), (6, 3), (6, 4)] [] S
  refine u_X4_bodyOf ?_
  refine u_X4_bodyOf_0 ?_
  refine ⟨o_v0, ?_⟩
  refine m_X4_wordAndWhole hI o_v0 (by decide) hT (fun x1 S2 hJ g3 fc4 b_x1 p_x1 => ?_)
  obtain ⟨hT, pf9_S2⟩ := p_x1
  have hI := hJ
  have f0 := fri_tr (S := S) g0 f0 fc4 (by decide) (by decide)
  have o_v0 := gr_ob g3 o_v0
  have o_v1 := gr_ob g3 o_v1
  have g0 := gr_tr (T := S) g0 g3
  obtain ⟨y5, d_y5⟩ : ∃ z : Int32, z = fI S2 v0 9 := ⟨_, rfl⟩
  have p_y5 : x1 = 1 → (1 : Int32) ≤ y5 ∧ y5 ≤ (9 : Int32) := by rw [d_y5]; exact pf9_S2
  intro _ _
  have bb_x1 : x1 = 0 ∨ x1 = 1 := b_x1
  refine ⟨fun c6 => ?_, fun c6 => ?_⟩
  · intro x7 ex7
    have q_x7 : x7 = y5 := ex7.trans d_y5.symm
    have d_x7 := ex7
    refine m_X4_wordAndWhole hI o_v0 (by decide) hT (fun x8 S9 hJ g10 fc11 b_x8 p_x8 => ?_)
    obtain ⟨hT, pf9_S9⟩ := p_x8
    have hI := hJ
    have f0 := fri_tr (S := S2) g0 f0 fc11 (by decide) (by decide)
    have o_v0 := gr_ob g10 o_v0
    have o_v1 := gr_ob g10 o_v1
    have g0 := gr_tr (T := S2) g0 g10
    obtain ⟨y12, d_y12⟩ : ∃ z : Int32, z = fI S9 v0 9 := ⟨_, rfl⟩
    have p_y12 : x8 = 1 → (1 : Int32) ≤ y12 ∧ y12 ≤ (9 : Int32) := by rw [d_y12]; exact pf9_S9
    intro _ _
    have bb_x8 : x8 = 0 ∨ x8 = 1 := b_x8
    refine ⟨fun c13 => ?_, fun c13 => ?_⟩
    · intro x14 ex14
      have q_x14 : x14 = y12 := ex14.trans d_y12.symm
      have d_x14 := ex14
      refine ⟨o_v1, ?_⟩
      intro x15 ex15
      have d_x15 := ex15
      refine ⟨fun c16 => ?_, fun c16 => ?_⟩
      · refine u_X4_bodyOf_58 ?_
        refine ⟨o_v0, ?_⟩
        refine m_X4_wordAndWhole hI o_v0 (by decide) hT (fun x17 S18 hJ g19 fc20 b_x17 p_x17 => ?_)
        obtain ⟨hT, pf9_S18⟩ := p_x17
        have hI := hJ
        have d_x15 := d_x15.trans (fri_at fc20 (by decide) (by decide) o_v1).symm
        have f0 := fri_tr (S := S9) g0 f0 fc20 (by decide) (by decide)
        have o_v0 := gr_ob g19 o_v0
        have o_v1 := gr_ob g19 o_v1
        have g0 := gr_tr (T := S9) g0 g19
        obtain ⟨y21, d_y21⟩ : ∃ z : Int32, z = fI S18 v0 9 := ⟨_, rfl⟩
        have p_y21 : x17 = 1 → (1 : Int32) ≤ y21 ∧ y21 ≤ (9 : Int32) := by rw [d_y21]; exact pf9_S18
        intro _ _
        have bb_x17 : x17 = 0 ∨ x17 = 1 := b_x17
        refine ⟨fun c22 => ?_, fun c22 => ?_⟩
        · intro x23 ex23
          have q_x23 : x23 = y21 := ex23.trans d_y21.symm
          have d_x23 := ex23
          refine ⟨o_v1, ?_⟩
          refine u_X6_shape ?_
          refine u_X6_shape_0 ?_
          refine ⟨o_v1, ?_⟩
          intro x24 ex24
          have q_x24 : x24 = x15 := ex24.trans d_x15.symm
          have d_x24 := ex24
          refine ⟨fun c25 => ?_, fun c25 => ?_⟩
          · refine u_X6_shape_16 ?_
            refine ⟨o_v1, ?_⟩
            intro x26 ex26
            intro S27 eS27
            have hI : IV S27 := by rw [eS27]; exact iv_sI hI o_v1 (by decide) (nu_free (by decide))
            have f0 := fr_I eS27 g0 f0 o_v1 (by decide)
            have d_x24 := rd_Ij eS27 (by decide) d_x24
            have d_x23 := rd_Ik eS27 o_v1 o_v0 (by decide) d_x23
            have d_x26 := rd_Is eS27 (rfl : x26 = x26)
            have hT := tx_I eS27 hT
            have g0 := gr_I eS27 g0
            have o_v0 := ob_I eS27 o_v0
            have o_v1 := ob_I eS27 o_v1
            intro x28 ex28
            intro S29 eS29
            have hI : IV S29 := by rw [eS29]; exact iv_sI hI o_v1 (by decide) (nu_free (by decide))
            have f0 := fr_I eS29 g0 f0 o_v1 (by decide)
            have d_x24 := rd_Ij eS29 (by decide) d_x24
            have d_x23 := rd_Ik eS29 o_v1 o_v0 (by decide) d_x23
            have d_x26 := rd_Ij eS29 (by decide) d_x26
            have d_x28 := rd_Is eS29 (rfl : x28 = x28)
            have hT := tx_I eS29 hT
            have g0 := gr_I eS29 g0
            have o_v0 := ob_I eS29 o_v0
            have o_v1 := ob_I eS29 o_v1
            intro x30 ex30
            intro S31 eS31
            have hI : IV S31 := by rw [eS31]; exact iv_sI hI o_v1 (by decide) (nu_free (by decide))
            have f0 := fr_I eS31 g0 f0 o_v1 (by decide)
            have d_x24 := rd_Ij eS31 (by decide) d_x24
            have d_x23 := rd_Ik eS31 o_v1 o_v0 (by decide) d_x23
            have d_x26 := rd_Ij eS31 (by decide) d_x26
            have d_x28 := rd_Ij eS31 (by decide) d_x28
            have d_x30 := rd_Is eS31 (rfl : x30 = x30)
            have hT := tx_I eS31 hT
            have g0 := gr_I eS31 g0
            have o_v0 := ob_I eS31 o_v0
            have o_v1 := ob_I eS31 o_v1
            intro _
            exact hq _ _ hI g0 f0 (Or.inr rfl) hT
          · intro x32 ex32
            have d_x32 := ex32
            refine u_X6_shape_16 ?_
            refine ⟨o_v1, ?_⟩
            intro x33 ex33
            intro S34 eS34
            have hI : IV S34 := by rw [eS34]; exact iv_sI hI o_v1 (by decide) (nu_free (by decide))
            have f0 := fr_I eS34 g0 f0 o_v1 (by decide)
            have d_x24 := rd_Ij eS34 (by decide) d_x24
            have d_x23 := rd_Ik eS34 o_v1 o_v0 (by decide) d_x23
            have d_x32 := rd_Ij eS34 (by decide) d_x32
            have d_x33 := rd_Is eS34 (rfl : x33 = x33)
            have hT := tx_I eS34 hT
            have g0 := gr_I eS34 g0
            have o_v0 := ob_I eS34 o_v0
            have o_v1 := ob_I eS34 o_v1
            intro x35 ex35
            intro S36 eS36
            have hI : IV S36 := by rw [eS36]; exact iv_sI hI o_v1 (by decide) (nu_free (by decide))
            have f0 := fr_I eS36 g0 f0 o_v1 (by decide)
            have d_x24 := rd_Ij eS36 (by decide) d_x24
            have d_x23 := rd_Ik eS36 o_v1 o_v0 (by decide) d_x23
            have d_x32 := rd_Ij eS36 (by decide) d_x32
            have d_x33 := rd_Ij eS36 (by decide) d_x33
            have d_x35 := rd_Is eS36 (rfl : x35 = x35)
            have hT := tx_I eS36 hT
            have g0 := gr_I eS36 g0
            have o_v0 := ob_I eS36 o_v0
            have o_v1 := ob_I eS36 o_v1
            intro x37 ex37
            intro S38 eS38
            have hI : IV S38 := by rw [eS38]; exact iv_sI hI o_v1 (by decide) (nu_free (by decide))
            have f0 := fr_I eS38 g0 f0 o_v1 (by decide)
            have d_x24 := rd_Ij eS38 (by decide) d_x24
            have d_x23 := rd_Ik eS38 o_v1 o_v0 (by decide) d_x23
            have d_x32 := rd_Ij eS38 (by decide) d_x32
            have d_x33 := rd_Ij eS38 (by decide) d_x33
            have d_x35 := rd_Ij eS38 (by decide) d_x35
            have d_x37 := rd_Is eS38 (rfl : x37 = x37)
            have hT := tx_I eS38 hT
            have g0 := gr_I eS38 g0
            have o_v0 := ob_I eS38 o_v0
            have o_v1 := ob_I eS38 o_v1
            intro _
            exact hq _ _ hI g0 f0 (Or.inr rfl) hT
        · exact hq _ _ hI g0 f0 (Or.inl rfl) hT
      · intro x39 ex39
        have d_x39 := ex39
        refine u_X4_bodyOf_58 ?_
        refine ⟨o_v0, ?_⟩
        refine m_X4_wordAndWhole hI o_v0 (by decide) hT (fun x40 S41 hJ g42 fc43 b_x40 p_x40 => ?_)
        obtain ⟨hT, pf9_S41⟩ := p_x40
        have hI := hJ
        have d_x15 := d_x15.trans (fri_at fc43 (by decide) (by decide) o_v1).symm
        have d_x39 := d_x39.trans (fri_at fc43 (by decide) (by decide) o_v1).symm
        have f0 := fri_tr (S := S9) g0 f0 fc43 (by decide) (by decide)
        have o_v0 := gr_ob g42 o_v0
        have o_v1 := gr_ob g42 o_v1
        have g0 := gr_tr (T := S9) g0 g42
        obtain ⟨y44, d_y44⟩ : ∃ z : Int32, z = fI S41 v0 9 := ⟨_, rfl⟩
        have p_y44 : x40 = 1 → (x39 + (1 : Int32)) ≤ y44 ∧ y44 ≤ (9 : Int32) := by rw [d_y44]; exact pf9_S41
        intro _ _
        have bb_x40 : x40 = 0 ∨ x40 = 1 := b_x40
        refine ⟨fun c45 => ?_, fun c45 => ?_⟩
        · intro x46 ex46
          have q_x46 : x46 = y44 := ex46.trans d_y44.symm
          have d_x46 := ex46
          refine ⟨o_v1, ?_⟩
          refine u_X6_shape ?_
          refine u_X6_shape_0 ?_
          refine ⟨o_v1, ?_⟩
          intro x47 ex47
          have q_x47 : x47 = x15 := ex47.trans d_x15.symm
          have d_x47 := ex47
          refine ⟨fun c48 => ?_, fun c48 => ?_⟩
          · refine u_X6_shape_16 ?_
            refine ⟨o_v1, ?_⟩
            intro x49 ex49
            intro S50 eS50
            have hI : IV S50 := by rw [eS50]; exact iv_sI hI o_v1 (by decide) (nu_free (by decide))
            have f0 := fr_I eS50 g0 f0 o_v1 (by decide)
            have d_x47 := rd_Ij eS50 (by decide) d_x47
            have d_x39 := rd_Ij eS50 (by decide) d_x39
            have d_x46 := rd_Ik eS50 o_v1 o_v0 (by decide) d_x46
            have d_x49 := rd_Is eS50 (rfl : x49 = x49)
            have hT := tx_I eS50 hT
            have g0 := gr_I eS50 g0
            have o_v0 := ob_I eS50 o_v0
            have o_v1 := ob_I eS50 o_v1
            intro x51 ex51
            intro S52 eS52
            have hI : IV S52 := by rw [eS52]; exact iv_sI hI o_v1 (by decide) (nu_free (by decide))
            have f0 := fr_I eS52 g0 f0 o_v1 (by decide)
            have d_x47 := rd_Ij eS52 (by decide) d_x47
            have d_x39 := rd_Ij eS52 (by decide) d_x39
            have d_x46 := rd_Ik eS52 o_v1 o_v0 (by decide) d_x46
            have d_x49 := rd_Ij eS52 (by decide) d_x49
            have d_x51 := rd_Is eS52 (rfl : x51 = x51)
            have hT := tx_I eS52 hT
            have g0 := gr_I eS52 g0
            have o_v0 := ob_I eS52 o_v0
            have o_v1 := ob_I eS52 o_v1
            intro x53 ex53
            intro S54 eS54
            have hI : IV S54 := by rw [eS54]; exact iv_sI hI o_v1 (by decide) (nu_free (by decide))
            have f0 := fr_I eS54 g0 f0 o_v1 (by decide)
            have d_x47 := rd_Ij eS54 (by decide) d_x47
            have d_x39 := rd_Ij eS54 (by decide) d_x39
            have d_x46 := rd_Ik eS54 o_v1 o_v0 (by decide) d_x46
            have d_x49 := rd_Ij eS54 (by decide) d_x49
            have d_x51 := rd_Ij eS54 (by decide) d_x51
            have d_x53 := rd_Is eS54 (rfl : x53 = x53)
            have hT := tx_I eS54 hT
            have g0 := gr_I eS54 g0
            have o_v0 := ob_I eS54 o_v0
            have o_v1 := ob_I eS54 o_v1
            intro _
            exact hq _ _ hI g0 f0 (Or.inr rfl) hT
          · intro x55 ex55
            have q_x55 : x55 = x39 := ex55.trans d_x39.symm
            have d_x55 := ex55
            refine u_X6_shape_16 ?_
            refine ⟨o_v1, ?_⟩
            intro x56 ex56
            intro S57 eS57
            have hI : IV S57 := by rw [eS57]; exact iv_sI hI o_v1 (by decide) (nu_free (by decide))
            have f0 := fr_I eS57 g0 f0 o_v1 (by decide)
            have d_x47 := rd_Ij eS57 (by decide) d_x47
            have d_x55 := rd_Ij eS57 (by decide) d_x55
            have d_x46 := rd_Ik eS57 o_v1 o_v0 (by decide) d_x46
            have d_x56 := rd_Is eS57 (rfl : x56 = x56)
            have hT := tx_I eS57 hT
            have g0 := gr_I eS57 g0
            have o_v0 := ob_I eS57 o_v0
            have o_v1 := ob_I eS57 o_v1
            intro x58 ex58
            intro S59 eS59
            have hI : IV S59 := by rw [eS59]; exact iv_sI hI o_v1 (by decide) (nu_free (by decide))
            have f0 := fr_I eS59 g0 f0 o_v1 (by decide)
            have d_x47 := rd_Ij eS59 (by decide) d_x47
            have d_x55 := rd_Ij eS59 (by decide) d_x55
            have d_x46 := rd_Ik eS59 o_v1 o_v0 (by decide) d_x46
            have d_x56 := rd_Ij eS59 (by decide) d_x56
            have d_x58 := rd_Is eS59 (rfl : x58 = x58)
            have hT := tx_I eS59 hT
            have g0 := gr_I eS59 g0
            have o_v0 := ob_I eS59 o_v0
            have o_v1 := ob_I eS59 o_v1
            intro x60 ex60
            intro S61 eS61
            have hI : IV S61 := by rw [eS61]; exact iv_sI hI o_v1 (by decide) (nu_free (by decide))
            have f0 := fr_I eS61 g0 f0 o_v1 (by decide)
            have d_x47 := rd_Ij eS61 (by decide) d_x47
            have d_x55 := rd_Ij eS61 (by decide) d_x55
            have d_x46 := rd_Ik eS61 o_v1 o_v0 (by decide) d_x46
            have d_x56 := rd_Ij eS61 (by decide) d_x56
            have d_x58 := rd_Ij eS61 (by decide) d_x58
            have d_x60 := rd_Is eS61 (rfl : x60 = x60)
            have hT := tx_I eS61 hT
            have g0 := gr_I eS61 g0
            have o_v0 := ob_I eS61 o_v0
            have o_v1 := ob_I eS61 o_v1
            intro _
            exact hq _ _ hI g0 f0 (Or.inr rfl) hT
        · exact hq _ _ hI g0 f0 (Or.inl rfl) hT
    · exact hq _ _ hI g0 f0 (Or.inl rfl) hT
  · exact hq _ _ hI g0 f0 (Or.inl rfl) hT
set_option maxHeartbeats 4000000 in
set_option maxRecDepth 20000 in
theorem m_X4_canBeName {v0 : Nat} {Q : Int32 → HS → Prop} {S : HS} (hI : IV S) (o_v0 : ob S v0 4)    (hT : TX S v0) (hq : ∀ (r : Int32) (T : HS), IV T → Gr S T → bl r → (S = T) → Q r T) : P_X4_canBeName v0 Q S := by
  have g0 := gr_rf S
  refine u_X4_canBeName ?_
  refine u_X4_canBeName_0 ?_
  refine ⟨o_v0, ?_⟩
  refine m_X4_is hI o_v0 (by decide) hT (fun x1 S2 hI2 g3 b_x1 p_x1 => ?_)
  subst p_x1
  intro _ _
  have bb_x1 : x1 = 0 ∨ x1 = 1 := b_x1
  refine ⟨fun c5 => ?_, fun c5 => ?_⟩
  · refine u_X4_canBeName_81 ?_
    refine u_X4_canBeName_86 ?_
    refine ⟨o_v0, ?_⟩
    intro x6 ex6
    have d_x6 := ex6
    refine ⟨fun c7 => ?_, fun c7 => ?_⟩
    · exact hq _ _ hI g0 (Or.inl rfl) rfl
    · refine ⟨fun c8 => ?_, fun c8 => ?_⟩
      · exact hq _ _ hI g0 (Or.inl rfl) rfl
      · exact hq _ _ hI g0 (Or.inr rfl) rfl
  · refine m_X4_is hI o_v0 (by decide) hT (fun x9 S10 hI2 g11 b_x9 p_x9 => ?_)
    subst p_x9
    intro _ _
    have bb_x9 : x9 = 0 ∨ x9 = 1 := b_x9
    refine ⟨fun c13 => ?_, fun c13 => ?_⟩
    · refine u_X4_canBeName_81 ?_
      refine u_X4_canBeName_86 ?_
      refine ⟨o_v0, ?_⟩
      intro x14 ex14
      have d_x14 := ex14
      refine ⟨fun c15 => ?_, fun c15 => ?_⟩
      · exact hq _ _ hI g0 (Or.inl rfl) rfl
      · refine ⟨fun c16 => ?_, fun c16 => ?_⟩
        · exact hq _ _ hI g0 (Or.inl rfl) rfl
        · exact hq _ _ hI g0 (Or.inr rfl) rfl
    · refine m_X4_is hI o_v0 (by decide) hT (fun x17 S18 hI2 g19 b_x17 p_x17 => ?_)
      subst p_x17
      intro _ _
      have bb_x17 : x17 = 0 ∨ x17 = 1 := b_x17
      refine ⟨fun c21 => ?_, fun c21 => ?_⟩
      · refine u_X4_canBeName_81 ?_
        refine u_X4_canBeName_86 ?_
        refine ⟨o_v0, ?_⟩
        intro x22 ex22
        have d_x22 := ex22
        refine ⟨fun c23 => ?_, fun c23 => ?_⟩
        · exact hq _ _ hI g0 (Or.inl rfl) rfl
        · refine ⟨fun c24 => ?_, fun c24 => ?_⟩
          · exact hq _ _ hI g0 (Or.inl rfl) rfl
          · exact hq _ _ hI g0 (Or.inr rfl) rfl
      · refine m_X4_is hI o_v0 (by decide) hT (fun x25 S26 hI2 g27 b_x25 p_x25 => ?_)
        subst p_x25
        intro _ _
        have bb_x25 : x25 = 0 ∨ x25 = 1 := b_x25
        refine ⟨fun c29 => ?_, fun c29 => ?_⟩
        · refine u_X4_canBeName_81 ?_
          refine u_X4_canBeName_86 ?_
          refine ⟨o_v0, ?_⟩
          intro x30 ex30
          have d_x30 := ex30
          refine ⟨fun c31 => ?_, fun c31 => ?_⟩
          · exact hq _ _ hI g0 (Or.inl rfl) rfl
          · refine ⟨fun c32 => ?_, fun c32 => ?_⟩
            · exact hq _ _ hI g0 (Or.inl rfl) rfl
            · exact hq _ _ hI g0 (Or.inr rfl) rfl
        · refine m_X4_is hI o_v0 (by decide) hT (fun x33 S34 hI2 g35 b_x33 p_x33 => ?_)
          subst p_x33
          intro _ _
          have bb_x33 : x33 = 0 ∨ x33 = 1 := b_x33
          refine ⟨fun c37 => ?_, fun c37 => ?_⟩
          · refine u_X4_canBeName_81 ?_
            refine u_X4_canBeName_86 ?_
            refine ⟨o_v0, ?_⟩
            intro x38 ex38
            have d_x38 := ex38
            refine ⟨fun c39 => ?_, fun c39 => ?_⟩
            · exact hq _ _ hI g0 (Or.inl rfl) rfl
            · refine ⟨fun c40 => ?_, fun c40 => ?_⟩
              · exact hq _ _ hI g0 (Or.inl rfl) rfl
              · exact hq _ _ hI g0 (Or.inr rfl) rfl
          · refine m_X4_is hI o_v0 (by decide) hT (fun x41 S42 hI2 g43 b_x41 p_x41 => ?_)
            subst p_x41
            intro _ _
            have bb_x41 : x41 = 0 ∨ x41 = 1 := b_x41
            refine ⟨fun c45 => ?_, fun c45 => ?_⟩
            · refine u_X4_canBeName_81 ?_
              refine u_X4_canBeName_86 ?_
              refine ⟨o_v0, ?_⟩
              intro x46 ex46
              have d_x46 := ex46
              refine ⟨fun c47 => ?_, fun c47 => ?_⟩
              · exact hq _ _ hI g0 (Or.inl rfl) rfl
              · refine ⟨fun c48 => ?_, fun c48 => ?_⟩
                · exact hq _ _ hI g0 (Or.inl rfl) rfl
                · exact hq _ _ hI g0 (Or.inr rfl) rfl
            · refine m_X4_is hI o_v0 (by decide) hT (fun x49 S50 hI2 g51 b_x49 p_x49 => ?_)
              subst p_x49
              intro _ _
              have bb_x49 : x49 = 0 ∨ x49 = 1 := b_x49
              refine ⟨fun c53 => ?_, fun c53 => ?_⟩
              · refine u_X4_canBeName_81 ?_
                refine u_X4_canBeName_86 ?_
                refine ⟨o_v0, ?_⟩
                intro x54 ex54
                have d_x54 := ex54
                refine ⟨fun c55 => ?_, fun c55 => ?_⟩
                · exact hq _ _ hI g0 (Or.inl rfl) rfl
                · refine ⟨fun c56 => ?_, fun c56 => ?_⟩
                  · exact hq _ _ hI g0 (Or.inl rfl) rfl
                  · exact hq _ _ hI g0 (Or.inr rfl) rfl
              · refine m_X4_is hI o_v0 (by decide) hT (fun x57 S58 hI2 g59 b_x57 p_x57 => ?_)
                subst p_x57
                intro _ _
                have bb_x57 : x57 = 0 ∨ x57 = 1 := b_x57
                refine ⟨fun c61 => ?_, fun c61 => ?_⟩
                · refine u_X4_canBeName_81 ?_
                  refine u_X4_canBeName_86 ?_
                  refine ⟨o_v0, ?_⟩
                  intro x62 ex62
                  have d_x62 := ex62
                  refine ⟨fun c63 => ?_, fun c63 => ?_⟩
                  · exact hq _ _ hI g0 (Or.inl rfl) rfl
                  · refine ⟨fun c64 => ?_, fun c64 => ?_⟩
                    · exact hq _ _ hI g0 (Or.inl rfl) rfl
                    · exact hq _ _ hI g0 (Or.inr rfl) rfl
                · refine m_X4_is hI o_v0 (by decide) hT (fun x65 S66 hI2 g67 b_x65 p_x65 => ?_)
                  subst p_x65
                  intro _ _
                  have bb_x65 : x65 = 0 ∨ x65 = 1 := b_x65
                  refine ⟨fun c69 => ?_, fun c69 => ?_⟩
                  · refine u_X4_canBeName_86 ?_
                    refine ⟨o_v0, ?_⟩
                    intro x70 ex70
                    have d_x70 := ex70
                    refine ⟨fun c71 => ?_, fun c71 => ?_⟩
                    · exact hq _ _ hI g0 (Or.inl rfl) rfl
                    · refine ⟨fun c72 => ?_, fun c72 => ?_⟩
                      · exact hq _ _ hI g0 (Or.inl rfl) rfl
                      · exact hq _ _ hI g0 (Or.inr rfl) rfl
                  · refine u_X4_canBeName_81 ?_
                    refine u_X4_canBeName_86 ?_
                    refine ⟨o_v0, ?_⟩
                    intro x73 ex73
                    have d_x73 := ex73
                    refine ⟨fun c74 => ?_, fun c74 => ?_⟩
                    · exact hq _ _ hI g0 (Or.inl rfl) rfl
                    · refine ⟨fun c75 => ?_, fun c75 => ?_⟩
                      · exact hq _ _ hI g0 (Or.inl rfl) rfl
                      · exact hq _ _ hI g0 (Or.inr rfl) rfl
set_option maxHeartbeats 4000000 in
set_option maxRecDepth 20000 in
theorem m_X4_findName {v0 : Nat} {Q : Int32 → HS → Prop} {S : HS} (hI : IV S) (o_v0 : ob S v0 4)    (hT : TX S v0) (hq : ∀ (r : Int32) (T : HS), IV T → Gr S T → (S = T) → Q r T) : P_X4_findName v0 Q S := by
  have g0 := gr_rf S
  refine u_X4_findName ?_
  refine u_X4_findName_0 ?_
  refine i_X4_findName_2 (fun (y0 : Nat) (y1 : Int32) (Z : HS) => ((2147483647 : Int32).toInt - y1.toInt).toNat) (fun (y0 : Nat) (y1 : Int32) (Z : HS) => (S = Z) ∧ (v0 = y0) ∧ (0 ≤ y1)) ?_ _ _ _ ⟨rfl, rfl, (q82)⟩
  intro w5 w7 S2 X8 ⟨eS2, q6, i1u1⟩ ih9
  subst q6
  subst eS2
  refine u_X4_findName_2 ?_
  refine ⟨o_v0, ?_⟩
  intro x10 ex10
  have r_x10 : (0 : Int32) ≤ x10 ∧ x10 ≤ (12 : Int32) := by rw [ex10]; exact nu 7 rfl hI o_v0
  have d_x10 := ex10
  refine ⟨fun c11 => ?_, fun c11 => ?_⟩
  · exact hq _ _ hI g0 rfl
  · refine ⟨fun c12 => ?_, fun c12 => ?_⟩
    · exact hq _ _ hI g0 rfl
    · obtain ⟨a13, ea13, o_a13, l_a13⟩ := shl 13 rfl hI o_v0
      refine ⟨a13, ea13, ?_⟩
      refine ⟨o_a13, ?_⟩
      refine ⟨(vin l_a13 (m := 12) (by decide) (q722 i1u1 r_x10 c11 c12)), ?_⟩
      intro x14 ex14
      intro x15 ex15
      have dj_x15 := ex15
      refine ⟨fun c16 => ?_, fun c16 => ?_⟩
      · intro x17 ex17
        exact ih9 _ _ _ ⟨rfl, rfl, (q723 i1u1 r_x10 c11 c12 c16 ex17)⟩ (mu_up (q724 i1u1 r_x10 c11 c12 c16 ex17) (q725 i1u1 r_x10 c11 c12 c16 ex17))
      · obtain ⟨a18, ea18, o_a18, l_a18⟩ := shl 14 rfl hI o_v0
        refine ⟨a18, ea18, ?_⟩
        refine ⟨o_a18, ?_⟩
        refine ⟨(vin l_a18 (m := 12) (by decide) (q726 i1u1 r_x10 c11 c12 c16)), ?_⟩
        intro x19 ex19
        exact hq _ _ hI g0 rfl
set_option maxHeartbeats 4000000 in
set_option maxRecDepth 20000 in
theorem m_X8_isTold {v0 : Nat} {Q : Int32 → HS → Prop} {S : HS} (hI : IV S) (o_v0 : ob S v0 8)     (hq : ∀ (r : Int32) (T : HS), IV T → Gr S T → bl r → (S = T) → Q r T) : P_X8_isTold v0 Q S := by
  have g0 := gr_rf S
  refine u_X8_isTold ?_
  refine u_X8_isTold_0 ?_
  refine ⟨o_v0, ?_⟩
  intro x1 ex1
  have r_x1 : (0 : Int32) ≤ x1 ∧ x1 ≤ (60 : Int32) := by rw [ex1]; exact nu 10 rfl hI o_v0
  have d_x1 := ex1
  refine ⟨fun c2 => ?_, fun c2 => ?_⟩
  · exact hq _ _ hI g0 (Or.inl rfl) rfl
  · exact hq _ _ hI g0 (Or.inr rfl) rfl
set_option maxHeartbeats 4000000 in
set_option maxRecDepth 20000 in
theorem m_X4_hasRoom {v0 : Nat} {v1 : Int32} {v2 : Int32} {Q : Int32 → HS → Prop} {S : HS} (hI : IV S) (o_v0 : ob S v0 4)    (hT : TX S v0) (hq : ∀ (r : Int32) (T : HS), IV T → Gr S T → FRI [(4, 0), (4, 1), (4, 4), (4, 6), (4, 7)] [] S T → bl r → (TX T v0) ∧ (r = 1 → v1 < v2) → Q r T) : P_X4_hasRoom v0 v1 v2 Q S := by
  have g0 := gr_rf S
  have f0 := fri_rf [(4, 0), (4, 1), (4, 4), (4, 6), (4, 7)] [] S
  refine u_X4_hasRoom ?_
  refine u_X4_hasRoom_0 ?_
  refine ⟨o_v0, ?_⟩
  obtain ⟨a1, ea1, o_a1, -⟩ := sh 12 rfl hI o_v0
  refine ⟨a1, ea1, ?_⟩
  refine ⟨o_a1, ?_⟩
  refine m_X8_isTold hI o_a1 (fun x2 S3 hI2 g4 b_x2 p_x2 => ?_)
  subst p_x2
  intro _ _
  have bb_x2 : x2 = 0 ∨ x2 = 1 := b_x2
  refine ⟨fun c6 => ?_, fun c6 => ?_⟩
  · refine ⟨fun c7 => ?_, fun c7 => ?_⟩
    · refine m_X4_next hI o_v0 hT (fun S9 hJ g10 fc11 p_S9 => ?_)
      have hT := p_S9
      have hI := hJ
      have ea1 := (frr_at fc11 (by decide) (by decide) o_v0).trans ea1
      have f0 := fri_tr (S := S) g0 f0 fc11 (by decide) (by decide)
      have o_a1 := gr_ob g10 o_a1
      have o_v0 := gr_ob g10 o_v0
      have g0 := gr_tr (T := S) g0 g10
      intro _
      exact hq _ _ hI g0 f0 (Or.inr rfl) ⟨hT, (q719 bb_x2 c6 c7)⟩
    · refine u_X4_fail ?_
      refine u_X4_fail_0 ?_
      refine ⟨o_v0, ?_⟩
      intro S12 eS12
      have hI : IV S12 := by rw [eS12]; exact iv_sI hI o_v0 (by decide) (nu_free (by decide))
      have f0 := fr_I eS12 g0 f0 o_v0 (by decide)
      obtain ⟨y13, hy13⟩ : ∃ z : Int32, z = (5 : Int32) := ⟨_, rfl⟩
      have d_y13 := rd_Is eS12 hy13
      have ea1 := rf_I eS12 ea1
      have hT := tx_I eS12 hT
      have g0 := gr_I eS12 g0
      have o_a1 := ob_I eS12 o_a1
      have o_v0 := ob_I eS12 o_v0
      intro x14 ex14
      have d_x14 := ex14
      intro S15 eS15
      have hI : IV S15 := by rw [eS15]; exact iv_sI hI o_v0 (by decide) (nu_free (by decide))
      have f0 := fr_I eS15 g0 f0 o_v0 (by decide)
      have d_y13 := rd_Ij eS15 (by decide) d_y13
      have d_x14 := rd_Ij eS15 (by decide) d_x14
      obtain ⟨y16, hy16⟩ : ∃ z : Int32, z = x14 := ⟨_, rfl⟩
      have d_y16 := rd_Is eS15 hy16
      have ea1 := rf_I eS15 ea1
      have hT := tx_I eS15 hT
      have g0 := gr_I eS15 g0
      have o_a1 := ob_I eS15 o_a1
      have o_v0 := ob_I eS15 o_v0
      intro _ _
      refine ⟨(Or.inl rfl), ?_⟩
      exact hq _ _ hI g0 f0 (Or.inl rfl) ⟨hT, (q720 bb_x2 c6 c7)⟩
  · refine u_X4_fail ?_
    refine u_X4_fail_0 ?_
    refine ⟨o_v0, ?_⟩
    intro S18 eS18
    have hI : IV S18 := by rw [eS18]; exact iv_sI hI o_v0 (by decide) (nu_free (by decide))
    have f0 := fr_I eS18 g0 f0 o_v0 (by decide)
    obtain ⟨y19, hy19⟩ : ∃ z : Int32, z = (6 : Int32) := ⟨_, rfl⟩
    have d_y19 := rd_Is eS18 hy19
    have ea1 := rf_I eS18 ea1
    have hT := tx_I eS18 hT
    have g0 := gr_I eS18 g0
    have o_a1 := ob_I eS18 o_a1
    have o_v0 := ob_I eS18 o_v0
    intro x20 ex20
    have d_x20 := ex20
    intro S21 eS21
    have hI : IV S21 := by rw [eS21]; exact iv_sI hI o_v0 (by decide) (nu_free (by decide))
    have f0 := fr_I eS21 g0 f0 o_v0 (by decide)
    have d_y19 := rd_Ij eS21 (by decide) d_y19
    have d_x20 := rd_Ij eS21 (by decide) d_x20
    obtain ⟨y22, hy22⟩ : ∃ z : Int32, z = x20 := ⟨_, rfl⟩
    have d_y22 := rd_Is eS21 hy22
    have ea1 := rf_I eS21 ea1
    have hT := tx_I eS21 hT
    have g0 := gr_I eS21 g0
    have o_a1 := ob_I eS21 o_a1
    have o_v0 := ob_I eS21 o_v0
    intro _ _
    refine ⟨(Or.inl rfl), ?_⟩
    exact hq _ _ hI g0 f0 (Or.inl rfl) ⟨hT, (q721 bb_x2 c6)⟩
end
section
set_option maxHeartbeats 4000000 in
set_option maxRecDepth 20000 in
theorem m_X4_kindOf {v0 : Nat} {v1 : Nat} {Q : Int32 → HS → Prop} {S : HS} (hI : IV S) (o_v0 : ob S v0 4) (o_v1 : ob S v1 6)    (hT : TX S v0) (hq : ∀ (r : Int32) (T : HS), IV T → Gr S T → FRI [(4, 0), (4, 1), (4, 4), (4, 6), (4, 7), (4, 9), (6, 0), (6, 1)] [] S T → bl r → (TX T v0) → Q r T) : P_X4_kindOf v0 v1 Q S := by
  have g0 := gr_rf S
  have f0 := fri_rf [(4, 0), (4, 1), (4, 4), (4, 6), (4, 7), (4, 9), (6, 0), (6, 1)] [] S
  refine u_X4_kindOf ?_
  refine u_X4_kindOf_0 ?_
  refine ⟨o_v0, ?_⟩
  intro S1 eS1
  have hI : IV S1 := by rw [eS1]; exact iv_sI hI o_v0 (by decide) (nu_free (by decide))
  have f0 := fr_I eS1 g0 f0 o_v0 (by decide)
  obtain ⟨y2, hy2⟩ : ∃ z : Int32, z = (0 : Int32) := ⟨_, rfl⟩
  have d_y2 := rd_Is eS1 hy2
  have hT := tx_I eS1 hT
  have g0 := gr_I eS1 g0
  have o_v0 := ob_I eS1 o_v0
  have o_v1 := ob_I eS1 o_v1
  refine m_X4_is hI o_v0 (by decide) hT (fun x3 S4 hI2 g5 b_x3 p_x3 => ?_)
  subst p_x3
  intro _ _
  have bb_x3 : x3 = 0 ∨ x3 = 1 := b_x3
  refine ⟨fun c7 => ?_, fun c7 => ?_⟩
  · refine m_X4_is hI o_v0 (by decide) hT (fun x8 S9 hI2 g10 b_x8 p_x8 => ?_)
    subst p_x8
    intro _ _
    have bb_x8 : x8 = 0 ∨ x8 = 1 := b_x8
    refine ⟨fun c12 => ?_, fun c12 => ?_⟩
    · refine m_X4_is hI o_v0 (by decide) hT (fun x13 S14 hI2 g15 b_x13 p_x13 => ?_)
      subst p_x13
      intro _ _
      have bb_x13 : x13 = 0 ∨ x13 = 1 := b_x13
      refine ⟨fun c17 => ?_, fun c17 => ?_⟩
      · refine ⟨o_v1, ?_⟩
        intro S18 eS18
        have hI : IV S18 := by rw [eS18]; exact iv_sI hI o_v1 (by decide) (nu_free (by decide))
        have f0 := fr_I eS18 g0 f0 o_v1 (by decide)
        have d_y2 := rd_Ik eS18 o_v1 o_v0 (by decide) d_y2
        obtain ⟨y19, hy19⟩ : ∃ z : Int32, z = (0 : Int32) := ⟨_, rfl⟩
        have d_y19 := rd_Is eS18 hy19
        have hT := tx_I eS18 hT
        have g0 := gr_I eS18 g0
        have o_v0 := ob_I eS18 o_v0
        have o_v1 := ob_I eS18 o_v1
        refine m_X4_word hI o_v0 (by decide) hT (fun x20 S21 hJ g22 fc23 b_x20 p_x20 => ?_)
        have hT := p_x20
        have hI := hJ
        have d_y2 := d_y2.trans (fri_at fc23 (by decide) (by decide) o_v0).symm
        have d_y19 := d_y19.trans (fri_at fc23 (by decide) (by decide) o_v1).symm
        have f0 := fri_tr (S := S18) g0 f0 fc23 (by decide) (by decide)
        have o_v0 := gr_ob g22 o_v0
        have o_v1 := gr_ob g22 o_v1
        have g0 := gr_tr (T := S18) g0 g22
        intro _ _
        have bb_x20 : x20 = 0 ∨ x20 = 1 := b_x20
        intro x24 ex24
        have q_x24 : x24 = y2 := ex24.trans d_y2.symm
        have d_x24 := ex24
        intro S25 eS25
        have hI : IV S25 := by rw [eS25]; exact iv_sI hI o_v1 (by decide) (nu_free (by decide))
        have f0 := fr_I eS25 g0 f0 o_v1 (by decide)
        have d_x24 := rd_Ik eS25 o_v1 o_v0 (by decide) d_x24
        have d_y19 := rd_Ij eS25 (by decide) d_y19
        obtain ⟨y26, hy26⟩ : ∃ z : Int32, z = x24 := ⟨_, rfl⟩
        have d_y26 := rd_Is eS25 hy26
        have hT := tx_I eS25 hT
        have g0 := gr_I eS25 g0
        have o_v0 := ob_I eS25 o_v0
        have o_v1 := ob_I eS25 o_v1
        refine ⟨b_x20, ?_⟩
        exact hq _ _ hI g0 f0 b_x20 hT
      · refine ⟨o_v1, ?_⟩
        intro S27 eS27
        have hI : IV S27 := by rw [eS27]; exact iv_sI hI o_v1 (by decide) (nu_free (by decide))
        have f0 := fr_I eS27 g0 f0 o_v1 (by decide)
        have d_y2 := rd_Ik eS27 o_v1 o_v0 (by decide) d_y2
        obtain ⟨y28, hy28⟩ : ∃ z : Int32, z = (3 : Int32) := ⟨_, rfl⟩
        have d_y28 := rd_Is eS27 hy28
        have hT := tx_I eS27 hT
        have g0 := gr_I eS27 g0
        have o_v0 := ob_I eS27 o_v0
        have o_v1 := ob_I eS27 o_v1
        refine m_X4_wordAndWhole hI o_v0 (by decide) hT (fun x29 S30 hJ g31 fc32 b_x29 p_x29 => ?_)
        obtain ⟨hT, pf9_S30⟩ := p_x29
        have hI := hJ
        have d_y28 := d_y28.trans (fri_at fc32 (by decide) (by decide) o_v1).symm
        have f0 := fri_tr (S := S27) g0 f0 fc32 (by decide) (by decide)
        have o_v0 := gr_ob g31 o_v0
        have o_v1 := gr_ob g31 o_v1
        have g0 := gr_tr (T := S27) g0 g31
        obtain ⟨y33, d_y33⟩ : ∃ z : Int32, z = fI S30 v0 9 := ⟨_, rfl⟩
        have p_y33 : x29 = 1 → (1 : Int32) ≤ y33 ∧ y33 ≤ (99 : Int32) := by rw [d_y33]; exact pf9_S30
        intro _ _
        have bb_x29 : x29 = 0 ∨ x29 = 1 := b_x29
        intro x34 ex34
        have q_x34 : x34 = y33 := ex34.trans d_y33.symm
        have d_x34 := ex34
        intro S35 eS35
        have hI : IV S35 := by rw [eS35]; exact iv_sI hI o_v1 (by decide) (nu_free (by decide))
        have f0 := fr_I eS35 g0 f0 o_v1 (by decide)
        have d_y28 := rd_Ij eS35 (by decide) d_y28
        have d_x34 := rd_Ik eS35 o_v1 o_v0 (by decide) d_x34
        obtain ⟨y36, hy36⟩ : ∃ z : Int32, z = x34 := ⟨_, rfl⟩
        have d_y36 := rd_Is eS35 hy36
        have hT := tx_I eS35 hT
        have g0 := gr_I eS35 g0
        have o_v0 := ob_I eS35 o_v0
        have o_v1 := ob_I eS35 o_v1
        refine ⟨b_x29, ?_⟩
        exact hq _ _ hI g0 f0 b_x29 hT
    · refine ⟨o_v1, ?_⟩
      intro S37 eS37
      have hI : IV S37 := by rw [eS37]; exact iv_sI hI o_v1 (by decide) (nu_free (by decide))
      have f0 := fr_I eS37 g0 f0 o_v1 (by decide)
      have d_y2 := rd_Ik eS37 o_v1 o_v0 (by decide) d_y2
      obtain ⟨y38, hy38⟩ : ∃ z : Int32, z = (2 : Int32) := ⟨_, rfl⟩
      have d_y38 := rd_Is eS37 hy38
      have hT := tx_I eS37 hT
      have g0 := gr_I eS37 g0
      have o_v0 := ob_I eS37 o_v0
      have o_v1 := ob_I eS37 o_v1
      refine m_X4_wordAndWhole hI o_v0 (by decide) hT (fun x39 S40 hJ g41 fc42 b_x39 p_x39 => ?_)
      obtain ⟨hT, pf9_S40⟩ := p_x39
      have hI := hJ
      have d_y38 := d_y38.trans (fri_at fc42 (by decide) (by decide) o_v1).symm
      have f0 := fri_tr (S := S37) g0 f0 fc42 (by decide) (by decide)
      have o_v0 := gr_ob g41 o_v0
      have o_v1 := gr_ob g41 o_v1
      have g0 := gr_tr (T := S37) g0 g41
      obtain ⟨y43, d_y43⟩ : ∃ z : Int32, z = fI S40 v0 9 := ⟨_, rfl⟩
      have p_y43 : x39 = 1 → (0 : Int32) ≤ y43 ∧ y43 ≤ (999 : Int32) := by rw [d_y43]; exact pf9_S40
      intro _ _
      have bb_x39 : x39 = 0 ∨ x39 = 1 := b_x39
      intro x44 ex44
      have q_x44 : x44 = y43 := ex44.trans d_y43.symm
      have d_x44 := ex44
      intro S45 eS45
      have hI : IV S45 := by rw [eS45]; exact iv_sI hI o_v1 (by decide) (nu_free (by decide))
      have f0 := fr_I eS45 g0 f0 o_v1 (by decide)
      have d_y38 := rd_Ij eS45 (by decide) d_y38
      have d_x44 := rd_Ik eS45 o_v1 o_v0 (by decide) d_x44
      obtain ⟨y46, hy46⟩ : ∃ z : Int32, z = x44 := ⟨_, rfl⟩
      have d_y46 := rd_Is eS45 hy46
      have hT := tx_I eS45 hT
      have g0 := gr_I eS45 g0
      have o_v0 := ob_I eS45 o_v0
      have o_v1 := ob_I eS45 o_v1
      refine ⟨b_x39, ?_⟩
      exact hq _ _ hI g0 f0 b_x39 hT
  · refine ⟨o_v1, ?_⟩
    intro S47 eS47
    have hI : IV S47 := by rw [eS47]; exact iv_sI hI o_v1 (by decide) (nu_free (by decide))
    have f0 := fr_I eS47 g0 f0 o_v1 (by decide)
    have d_y2 := rd_Ik eS47 o_v1 o_v0 (by decide) d_y2
    obtain ⟨y48, hy48⟩ : ∃ z : Int32, z = (1 : Int32) := ⟨_, rfl⟩
    have d_y48 := rd_Is eS47 hy48
    have hT := tx_I eS47 hT
    have g0 := gr_I eS47 g0
    have o_v0 := ob_I eS47 o_v0
    have o_v1 := ob_I eS47 o_v1
    refine m_X4_wordAndWhole hI o_v0 (by decide) hT (fun x49 S50 hJ g51 fc52 b_x49 p_x49 => ?_)
    obtain ⟨hT, pf9_S50⟩ := p_x49
    have hI := hJ
    have d_y48 := d_y48.trans (fri_at fc52 (by decide) (by decide) o_v1).symm
    have f0 := fri_tr (S := S47) g0 f0 fc52 (by decide) (by decide)
    have o_v0 := gr_ob g51 o_v0
    have o_v1 := gr_ob g51 o_v1
    have g0 := gr_tr (T := S47) g0 g51
    obtain ⟨y53, d_y53⟩ : ∃ z : Int32, z = fI S50 v0 9 := ⟨_, rfl⟩
    have p_y53 : x49 = 1 → (1 : Int32) ≤ y53 ∧ y53 ≤ (8 : Int32) := by rw [d_y53]; exact pf9_S50
    intro _ _
    have bb_x49 : x49 = 0 ∨ x49 = 1 := b_x49
    intro x54 ex54
    have q_x54 : x54 = y53 := ex54.trans d_y53.symm
    have d_x54 := ex54
    intro S55 eS55
    have hI : IV S55 := by rw [eS55]; exact iv_sI hI o_v1 (by decide) (nu_free (by decide))
    have f0 := fr_I eS55 g0 f0 o_v1 (by decide)
    have d_y48 := rd_Ij eS55 (by decide) d_y48
    have d_x54 := rd_Ik eS55 o_v1 o_v0 (by decide) d_x54
    obtain ⟨y56, hy56⟩ : ∃ z : Int32, z = x54 := ⟨_, rfl⟩
    have d_y56 := rd_Is eS55 hy56
    have hT := tx_I eS55 hT
    have g0 := gr_I eS55 g0
    have o_v0 := ob_I eS55 o_v0
    have o_v1 := ob_I eS55 o_v1
    refine ⟨b_x49, ?_⟩
    exact hq _ _ hI g0 f0 b_x49 hT
set_option maxHeartbeats 4000000 in
set_option maxRecDepth 20000 in
theorem m_X4_newName {v0 : Nat} {v1 : Int32} {Q : Int32 → HS → Prop} {S : HS} (hI : IV S) (o_v0 : ob S v0 4)    (hT : TX S v0) (hq : ∀ (r : Int32) (T : HS), IV T → Gr S T → FRI [(4, 0), (4, 1), (4, 4), (4, 6), (4, 7), (4, 10)] [] S T → bl r → (TX T v0) → Q r T) : P_X4_newName v0 v1 Q S := by
  have g0 := gr_rf S
  have f0 := fri_rf [(4, 0), (4, 1), (4, 4), (4, 6), (4, 7), (4, 10)] [] S
  refine u_X4_newName ?_
  refine u_X4_newName_0 ?_
  refine ⟨o_v0, ?_⟩
  refine m_X4_canBeName hI o_v0 hT (fun x1 S2 hI2 g3 b_x1 p_x1 => ?_)
  subst p_x1
  intro _ _
  have bb_x1 : x1 = 0 ∨ x1 = 1 := b_x1
  refine ⟨fun c5 => ?_, fun c5 => ?_⟩
  · refine m_X4_findName hI o_v0 hT (fun x6 S7 hI2 g8 p_x6 => ?_)
    subst p_x6
    intro _
    refine ⟨fun c10 => ?_, fun c10 => ?_⟩
    · intro x11 ex11
      have r_x11 : (0 : Int32) ≤ x11 ∧ x11 ≤ (12 : Int32) := by rw [ex11]; exact nu 7 rfl hI o_v0
      have d_x11 := ex11
      refine ⟨fun c12 => ?_, fun c12 => ?_⟩
      · refine u_X4_newName_69 ?_
        refine ⟨o_v0, ?_⟩
        refine m_X4_next hI o_v0 hT (fun S14 hJ g15 fc16 p_S14 => ?_)
        have hT := p_S14
        have hI := hJ
        have d_x11 := d_x11.trans (fri_at fc16 (by decide) (by decide) o_v0).symm
        have f0 := fri_tr (S := S) g0 f0 fc16 (by decide) (by decide)
        have o_v0 := gr_ob g15 o_v0
        have g0 := gr_tr (T := S) g0 g15
        intro _
        exact hq _ _ hI g0 f0 (Or.inr rfl) hT
      · obtain ⟨a17, ea17, o_a17, l_a17⟩ := shl 13 rfl hI o_v0
        refine ⟨a17, ea17, ?_⟩
        intro x18 ex18
        have r_x18 : (0 : Int32) ≤ x18 ∧ x18 ≤ (12 : Int32) := by rw [ex18]; exact nu 7 rfl hI o_v0
        have q_x18 : x18 = x11 := ex18.trans d_x11.symm
        have d_x18 := ex18
        intro x19 ex19
        have dj_x19 := ex19
        refine ⟨o_a17, ?_⟩
        have i20 : vp_in x18 (hN _ a17) := (vin l_a17 (m := 12) (by decide) (q711 bb_x1 c5 c10 r_x11 c12 r_x18 q_x18))
        refine ⟨i20, ?_⟩
        intro S21 eS21
        have hI : IV S21 := by rw [eS21]; exact iv_aJ hI o_v0 (by decide) ea17 o_a17 (by decide)
        have f0 := fr_J eS21 f0
        have d_x18 := rd_J eS21 d_x18
        have ea17 := rf_J eS21 ea17
        have hT := tx_J eS21 hT
        have l_a17 := ln_J eS21 l_a17
        have g0 := gr_J eS21 g0
        have o_a17 := ob_J eS21 o_a17
        have o_v0 := ob_J eS21 o_v0
        obtain ⟨a22, ea22, o_a22, l_a22⟩ := shl 14 rfl hI o_v0
        refine ⟨a22, ea22, ?_⟩
        intro x23 ex23
        have r_x23 : (0 : Int32) ≤ x23 ∧ x23 ≤ (12 : Int32) := by rw [ex23]; exact nu 7 rfl hI o_v0
        have q_x23 : x23 = x18 := ex23.trans d_x18.symm
        have d_x23 := ex23
        refine ⟨o_a22, ?_⟩
        have i24 : vp_in x23 (hN _ a22) := (vin l_a22 (m := 12) (by decide) (q712 bb_x1 c5 c10 r_x11 c12 r_x18 q_x18 r_x23 q_x23))
        refine ⟨i24, ?_⟩
        intro S25 eS25
        have hI : IV S25 := by rw [eS25]; exact iv_aI hI o_v0 (by decide) ea22 o_a22 (by decide)
        have f0 := fr_A eS25 g0 f0 o_a22 (by decide)
        have d_x23 := rd_Ik eS25 o_a22 o_v0 (by decide) d_x23
        have ea17 := rf_I eS25 ea17
        have ea22 := rf_I eS25 ea22
        have hT := tx_I eS25 hT
        have l_a17 := ln_I eS25 l_a17
        have l_a22 := ln_I eS25 l_a22
        have g0 := gr_I eS25 g0
        have o_a17 := ob_I eS25 o_a17
        have o_a22 := ob_I eS25 o_a22
        have o_v0 := ob_I eS25 o_v0
        intro x26 ex26
        have r_x26 : (0 : Int32) ≤ x26 ∧ x26 ≤ (12 : Int32) := by rw [ex26]; exact nu 7 rfl hI o_v0
        have q_x26 : x26 = x23 := ex26.trans d_x23.symm
        have d_x26 := ex26
        intro x27 ex27
        intro S28 eS28
        have hI : IV S28 := by rw [eS28]; exact iv_sI hI o_v0 (by decide) (nu_one (lo := (0 : Int32)) (hi := (12 : Int32)) (by decide) (q713 bb_x1 c5 c10 r_x11 c12 r_x18 q_x18 r_x23 q_x23 r_x26 q_x26 ex27))
        have f0 := fr_I eS28 g0 f0 o_v0 (by decide)
        have d_x27 := rd_Is eS28 (rfl : x27 = x27)
        have ea17 := rf_I eS28 ea17
        have ea22 := rf_I eS28 ea22
        have hT := tx_I eS28 hT
        have l_a17 := ln_I eS28 l_a17
        have l_a22 := ln_I eS28 l_a22
        have g0 := gr_I eS28 g0
        have o_a17 := ob_I eS28 o_a17
        have o_a22 := ob_I eS28 o_a22
        have o_v0 := ob_I eS28 o_v0
        refine u_X4_newName_69 ?_
        refine ⟨o_v0, ?_⟩
        refine m_X4_next hI o_v0 hT (fun S30 hJ g31 fc32 p_S30 => ?_)
        have hT := p_S30
        have hI := hJ
        have l_a17 := (gr_len g31 o_a17).trans l_a17
        have l_a22 := (gr_len g31 o_a22).trans l_a22
        have d_x27 := d_x27.trans (fri_at fc32 (by decide) (by decide) o_v0).symm
        have ea17 := (frr_at fc32 (by decide) (by decide) o_v0).trans ea17
        have ea22 := (frr_at fc32 (by decide) (by decide) o_v0).trans ea22
        have f0 := fri_tr (S := S28) g0 f0 fc32 (by decide) (by decide)
        have o_a17 := gr_ob g31 o_a17
        have o_a22 := gr_ob g31 o_a22
        have o_v0 := gr_ob g31 o_v0
        have g0 := gr_tr (T := S28) g0 g31
        intro _
        exact hq _ _ hI g0 f0 (Or.inr rfl) hT
    · refine u_X4_fail ?_
      refine u_X4_fail_0 ?_
      refine ⟨o_v0, ?_⟩
      intro S33 eS33
      have hI : IV S33 := by rw [eS33]; exact iv_sI hI o_v0 (by decide) (nu_free (by decide))
      have f0 := fr_I eS33 g0 f0 o_v0 (by decide)
      obtain ⟨y34, hy34⟩ : ∃ z : Int32, z = (3 : Int32) := ⟨_, rfl⟩
      have d_y34 := rd_Is eS33 hy34
      have hT := tx_I eS33 hT
      have g0 := gr_I eS33 g0
      have o_v0 := ob_I eS33 o_v0
      intro x35 ex35
      have d_x35 := ex35
      intro S36 eS36
      have hI : IV S36 := by rw [eS36]; exact iv_sI hI o_v0 (by decide) (nu_free (by decide))
      have f0 := fr_I eS36 g0 f0 o_v0 (by decide)
      have d_y34 := rd_Ij eS36 (by decide) d_y34
      have d_x35 := rd_Ij eS36 (by decide) d_x35
      obtain ⟨y37, hy37⟩ : ∃ z : Int32, z = x35 := ⟨_, rfl⟩
      have d_y37 := rd_Is eS36 hy37
      have hT := tx_I eS36 hT
      have g0 := gr_I eS36 g0
      have o_v0 := ob_I eS36 o_v0
      intro _ _
      refine ⟨(Or.inl rfl), ?_⟩
      exact hq _ _ hI g0 f0 (Or.inl rfl) hT
  · refine u_X4_fail ?_
    refine u_X4_fail_0 ?_
    refine ⟨o_v0, ?_⟩
    intro S39 eS39
    have hI : IV S39 := by rw [eS39]; exact iv_sI hI o_v0 (by decide) (nu_free (by decide))
    have f0 := fr_I eS39 g0 f0 o_v0 (by decide)
    obtain ⟨y40, hy40⟩ : ∃ z : Int32, z = (1 : Int32) := ⟨_, rfl⟩
    have d_y40 := rd_Is eS39 hy40
    have hT := tx_I eS39 hT
    have g0 := gr_I eS39 g0
    have o_v0 := ob_I eS39 o_v0
    intro x41 ex41
    have d_x41 := ex41
    intro S42 eS42
    have hI : IV S42 := by rw [eS42]; exact iv_sI hI o_v0 (by decide) (nu_free (by decide))
    have f0 := fr_I eS42 g0 f0 o_v0 (by decide)
    have d_y40 := rd_Ij eS42 (by decide) d_y40
    have d_x41 := rd_Ij eS42 (by decide) d_x41
    obtain ⟨y43, hy43⟩ : ∃ z : Int32, z = x41 := ⟨_, rfl⟩
    have d_y43 := rd_Is eS42 hy43
    have hT := tx_I eS42 hT
    have g0 := gr_I eS42 g0
    have o_v0 := ob_I eS42 o_v0
    intro _ _
    refine ⟨(Or.inl rfl), ?_⟩
    exact hq _ _ hI g0 f0 (Or.inl rfl) hT
set_option maxHeartbeats 4000000 in
set_option maxRecDepth 20000 in
theorem m_X4_open {v0 : Nat} {v1 : Nat} {v2 : Int32} {Q : HS → Prop} {S : HS} (hI : IV S) (o_v0 : ob S v0 4) (o_v1 : ob S v1 12) (l_v1 : hN S v1 = 900)  (h2 : 0 ≤ v2)  (hq : ∀ (T : HS), IV T → Gr S T → FRI [(4, 0), (4, 1), (4, 3), (4, 4), (4, 6), (4, 7), (4, 10), (8, 0), (8, 1), (8, 2), (8, 3), (8, 4), (8, 5)] [(4, 2)] S T → (TX T v0) → Q T) : P_X4_open v0 v1 v2 Q S := by
  have g0 := gr_rf S
  have f0 := fri_rf [(4, 0), (4, 1), (4, 3), (4, 4), (4, 6), (4, 7), (4, 10), (8, 0), (8, 1), (8, 2), (8, 3), (8, 4), (8, 5)] [(4, 2)] S
  refine u_X4_open ?_
  refine u_X4_open_0 ?_
  refine ⟨o_v0, ?_⟩
  intro S1 eS1
  have hI : IV S1 := by rw [eS1]; exact iv_sR (j := 2) (v := v1) hI o_v0 (by decide) (by decide) (npr hI.1 o_v1 (by decide)) o_v1.1 (sh_free (by decide))
  have f0 := fr_R eS1 g0 f0 o_v0 (by decide)
  have l_v1 := ln_R eS1 l_v1
  have g0 := gr_R eS1 g0
  have o_v0 := ob_R eS1 o_v0
  have o_v1 := ob_R eS1 o_v1
  have hT : TX S1 v0 := ⟨v1, by rw [eS1]; exact u2_self _ _ _ _, o_v1, l_v1⟩
  refine ⟨o_v1, ?_⟩
  have n_v1 : nI (hN S1 v1) = 900 := by rw [show hN S1 v1 = 900 from l_v1]; decide
  intro x2 ex2
  rw [n_v1] at ex2
  intro S3 eS3
  have hI : IV S3 := by rw [eS3]; exact iv_sI hI o_v0 (by decide) (nu_one (lo := (0 : Int32)) (hi := (900 : Int32)) (by decide) (q223 h2 ex2))
  have f0 := fr_I eS3 g0 f0 o_v0 (by decide)
  have d_x2 := rd_Is eS3 (rfl : x2 = x2)
  have hT := tx_I eS3 hT
  have l_v1 := ln_I eS3 l_v1
  have g0 := gr_I eS3 g0
  have o_v0 := ob_I eS3 o_v0
  have o_v1 := ob_I eS3 o_v1
  intro S4 eS4
  have hI : IV S4 := by rw [eS4]; exact iv_sI hI o_v0 (by decide) (nu_free (by decide))
  have f0 := fr_I eS4 g0 f0 o_v0 (by decide)
  have d_x2 := rd_Ij eS4 (by decide) d_x2
  obtain ⟨y5, hy5⟩ : ∃ z : Int32, z = (0 : Int32) := ⟨_, rfl⟩
  have d_y5 := rd_Is eS4 hy5
  have hT := tx_I eS4 hT
  have l_v1 := ln_I eS4 l_v1
  have g0 := gr_I eS4 g0
  have o_v0 := ob_I eS4 o_v0
  have o_v1 := ob_I eS4 o_v1
  intro S6 eS6
  have hI : IV S6 := by rw [eS6]; exact iv_sI hI o_v0 (by decide) (nu_free (by decide))
  have f0 := fr_I eS6 g0 f0 o_v0 (by decide)
  have d_x2 := rd_Ij eS6 (by decide) d_x2
  have d_y5 := rd_Ij eS6 (by decide) d_y5
  obtain ⟨y7, hy7⟩ : ∃ z : Int32, z = (0 : Int32) := ⟨_, rfl⟩
  have d_y7 := rd_Is eS6 hy7
  have hT := tx_I eS6 hT
  have l_v1 := ln_I eS6 l_v1
  have g0 := gr_I eS6 g0
  have o_v0 := ob_I eS6 o_v0
  have o_v1 := ob_I eS6 o_v1
  intro S8 eS8
  have hI : IV S8 := by rw [eS8]; exact iv_sI hI o_v0 (by decide) (nu_free (by decide))
  have f0 := fr_I eS8 g0 f0 o_v0 (by decide)
  have d_x2 := rd_Ij eS8 (by decide) d_x2
  have d_y5 := rd_Ij eS8 (by decide) d_y5
  have d_y7 := rd_Ij eS8 (by decide) d_y7
  obtain ⟨y9, hy9⟩ : ∃ z : Int32, z = (0 : Int32) := ⟨_, rfl⟩
  have d_y9 := rd_Is eS8 hy9
  have hT := tx_I eS8 hT
  have l_v1 := ln_I eS8 l_v1
  have g0 := gr_I eS8 g0
  have o_v0 := ob_I eS8 o_v0
  have o_v1 := ob_I eS8 o_v1
  intro S10 eS10
  have hI : IV S10 := by rw [eS10]; exact iv_sI hI o_v0 (by decide) (nu_one (lo := (0 : Int32)) (hi := (12 : Int32)) (by decide) (q224))
  have f0 := fr_I eS10 g0 f0 o_v0 (by decide)
  have d_x2 := rd_Ij eS10 (by decide) d_x2
  have d_y5 := rd_Ij eS10 (by decide) d_y5
  have d_y7 := rd_Ij eS10 (by decide) d_y7
  have d_y9 := rd_Ij eS10 (by decide) d_y9
  obtain ⟨y11, hy11⟩ : ∃ z : Int32, z = (0 : Int32) := ⟨_, rfl⟩
  have d_y11 := rd_Is eS10 hy11
  have hT := tx_I eS10 hT
  have l_v1 := ln_I eS10 l_v1
  have g0 := gr_I eS10 g0
  have o_v0 := ob_I eS10 o_v0
  have o_v1 := ob_I eS10 o_v1
  obtain ⟨a12, ea12, o_a12, -⟩ := sh 12 rfl hI o_v0
  refine ⟨a12, ea12, ?_⟩
  refine ⟨o_a12, ?_⟩
  refine u_X8_clear ?_
  refine u_X8_clear_0 ?_
  refine ⟨o_a12, ?_⟩
  intro S13 eS13
  have hI : IV S13 := by rw [eS13]; exact iv_sI hI o_a12 (by decide) (nu_one (lo := (0 : Int32)) (hi := (60 : Int32)) (by decide) (q225))
  have f0 := fr_I eS13 g0 f0 o_a12 (by decide)
  have d_x2 := rd_Ik eS13 o_a12 o_v0 (by decide) d_x2
  have d_y5 := rd_Ik eS13 o_a12 o_v0 (by decide) d_y5
  have d_y7 := rd_Ik eS13 o_a12 o_v0 (by decide) d_y7
  have d_y9 := rd_Ik eS13 o_a12 o_v0 (by decide) d_y9
  have d_y11 := rd_Ik eS13 o_a12 o_v0 (by decide) d_y11
  obtain ⟨y14, hy14⟩ : ∃ z : Int32, z = (0 : Int32) := ⟨_, rfl⟩
  have d_y14 := rd_Is eS13 hy14
  have ea12 := rf_I eS13 ea12
  have hT := tx_I eS13 hT
  have l_v1 := ln_I eS13 l_v1
  have g0 := gr_I eS13 g0
  have o_a12 := ob_I eS13 o_a12
  have o_v0 := ob_I eS13 o_v0
  have o_v1 := ob_I eS13 o_v1
  intro S15 eS15
  have hI : IV S15 := by rw [eS15]; exact iv_sI hI o_a12 (by decide) (nu_one (lo := (0 : Int32)) (hi := (6 : Int32)) (by decide) (q226))
  have f0 := fr_I eS15 g0 f0 o_a12 (by decide)
  have d_x2 := rd_Ik eS15 o_a12 o_v0 (by decide) d_x2
  have d_y5 := rd_Ik eS15 o_a12 o_v0 (by decide) d_y5
  have d_y7 := rd_Ik eS15 o_a12 o_v0 (by decide) d_y7
  have d_y9 := rd_Ik eS15 o_a12 o_v0 (by decide) d_y9
  have d_y11 := rd_Ik eS15 o_a12 o_v0 (by decide) d_y11
  have d_y14 := rd_Ij eS15 (by decide) d_y14
  obtain ⟨y16, hy16⟩ : ∃ z : Int32, z = (0 : Int32) := ⟨_, rfl⟩
  have d_y16 := rd_Is eS15 hy16
  have ea12 := rf_I eS15 ea12
  have hT := tx_I eS15 hT
  have l_v1 := ln_I eS15 l_v1
  have g0 := gr_I eS15 g0
  have o_a12 := ob_I eS15 o_a12
  have o_v0 := ob_I eS15 o_v0
  have o_v1 := ob_I eS15 o_v1
  intro S17 eS17
  have hI : IV S17 := by rw [eS17]; exact iv_sI hI o_a12 (by decide) (nu_one (lo := (0 : Int32)) (hi := (8 : Int32)) (by decide) (q227))
  have f0 := fr_I eS17 g0 f0 o_a12 (by decide)
  have d_x2 := rd_Ik eS17 o_a12 o_v0 (by decide) d_x2
  have d_y5 := rd_Ik eS17 o_a12 o_v0 (by decide) d_y5
  have d_y7 := rd_Ik eS17 o_a12 o_v0 (by decide) d_y7
  have d_y9 := rd_Ik eS17 o_a12 o_v0 (by decide) d_y9
  have d_y11 := rd_Ik eS17 o_a12 o_v0 (by decide) d_y11
  have d_y14 := rd_Ij eS17 (by decide) d_y14
  have d_y16 := rd_Ij eS17 (by decide) d_y16
  obtain ⟨y18, hy18⟩ : ∃ z : Int32, z = (0 : Int32) := ⟨_, rfl⟩
  have d_y18 := rd_Is eS17 hy18
  have ea12 := rf_I eS17 ea12
  have hT := tx_I eS17 hT
  have l_v1 := ln_I eS17 l_v1
  have g0 := gr_I eS17 g0
  have o_a12 := ob_I eS17 o_a12
  have o_v0 := ob_I eS17 o_v0
  have o_v1 := ob_I eS17 o_v1
  intro S19 eS19
  have hI : IV S19 := by rw [eS19]; exact iv_sI hI o_a12 (by decide) (nu_one (lo := (0 : Int32)) (hi := (12 : Int32)) (by decide) (q224))
  have f0 := fr_I eS19 g0 f0 o_a12 (by decide)
  have d_x2 := rd_Ik eS19 o_a12 o_v0 (by decide) d_x2
  have d_y5 := rd_Ik eS19 o_a12 o_v0 (by decide) d_y5
  have d_y7 := rd_Ik eS19 o_a12 o_v0 (by decide) d_y7
  have d_y9 := rd_Ik eS19 o_a12 o_v0 (by decide) d_y9
  have d_y11 := rd_Ik eS19 o_a12 o_v0 (by decide) d_y11
  have d_y14 := rd_Ij eS19 (by decide) d_y14
  have d_y16 := rd_Ij eS19 (by decide) d_y16
  have d_y18 := rd_Ij eS19 (by decide) d_y18
  obtain ⟨y20, hy20⟩ : ∃ z : Int32, z = (0 : Int32) := ⟨_, rfl⟩
  have d_y20 := rd_Is eS19 hy20
  have ea12 := rf_I eS19 ea12
  have hT := tx_I eS19 hT
  have l_v1 := ln_I eS19 l_v1
  have g0 := gr_I eS19 g0
  have o_a12 := ob_I eS19 o_a12
  have o_v0 := ob_I eS19 o_v0
  have o_v1 := ob_I eS19 o_v1
  intro S21 eS21
  have hI : IV S21 := by rw [eS21]; exact iv_sI hI o_a12 (by decide) (nu_one (lo := (0 : Int32)) (hi := (4 : Int32)) (by decide) (q228))
  have f0 := fr_I eS21 g0 f0 o_a12 (by decide)
  have d_x2 := rd_Ik eS21 o_a12 o_v0 (by decide) d_x2
  have d_y5 := rd_Ik eS21 o_a12 o_v0 (by decide) d_y5
  have d_y7 := rd_Ik eS21 o_a12 o_v0 (by decide) d_y7
  have d_y9 := rd_Ik eS21 o_a12 o_v0 (by decide) d_y9
  have d_y11 := rd_Ik eS21 o_a12 o_v0 (by decide) d_y11
  have d_y14 := rd_Ij eS21 (by decide) d_y14
  have d_y16 := rd_Ij eS21 (by decide) d_y16
  have d_y18 := rd_Ij eS21 (by decide) d_y18
  have d_y20 := rd_Ij eS21 (by decide) d_y20
  obtain ⟨y22, hy22⟩ : ∃ z : Int32, z = (0 : Int32) := ⟨_, rfl⟩
  have d_y22 := rd_Is eS21 hy22
  have ea12 := rf_I eS21 ea12
  have hT := tx_I eS21 hT
  have l_v1 := ln_I eS21 l_v1
  have g0 := gr_I eS21 g0
  have o_a12 := ob_I eS21 o_a12
  have o_v0 := ob_I eS21 o_v0
  have o_v1 := ob_I eS21 o_v1
  intro S23 eS23
  have hI : IV S23 := by rw [eS23]; exact iv_sI hI o_a12 (by decide) (nu_one (lo := (0 : Int32)) (hi := (4 : Int32)) (by decide) (q228))
  have f0 := fr_I eS23 g0 f0 o_a12 (by decide)
  have d_x2 := rd_Ik eS23 o_a12 o_v0 (by decide) d_x2
  have d_y5 := rd_Ik eS23 o_a12 o_v0 (by decide) d_y5
  have d_y7 := rd_Ik eS23 o_a12 o_v0 (by decide) d_y7
  have d_y9 := rd_Ik eS23 o_a12 o_v0 (by decide) d_y9
  have d_y11 := rd_Ik eS23 o_a12 o_v0 (by decide) d_y11
  have d_y14 := rd_Ij eS23 (by decide) d_y14
  have d_y16 := rd_Ij eS23 (by decide) d_y16
  have d_y18 := rd_Ij eS23 (by decide) d_y18
  have d_y20 := rd_Ij eS23 (by decide) d_y20
  have d_y22 := rd_Ij eS23 (by decide) d_y22
  obtain ⟨y24, hy24⟩ : ∃ z : Int32, z = (0 : Int32) := ⟨_, rfl⟩
  have d_y24 := rd_Is eS23 hy24
  have ea12 := rf_I eS23 ea12
  have hT := tx_I eS23 hT
  have l_v1 := ln_I eS23 l_v1
  have g0 := gr_I eS23 g0
  have o_a12 := ob_I eS23 o_a12
  have o_v0 := ob_I eS23 o_v0
  have o_v1 := ob_I eS23 o_v1
  intro _
  refine m_X4_next hI o_v0 hT (fun S26 hJ g27 fc28 p_S26 => ?_)
  have hT := p_S26
  have hI := hJ
  have l_v1 := (gr_len g27 o_v1).trans l_v1
  have d_x2 := d_x2.trans (fri_at fc28 (by decide) (by decide) o_v0).symm
  have d_y7 := d_y7.trans (fri_at fc28 (by decide) (by decide) o_v0).symm
  have d_y9 := d_y9.trans (fri_at fc28 (by decide) (by decide) o_v0).symm
  have d_y11 := d_y11.trans (fri_at fc28 (by decide) (by decide) o_v0).symm
  have d_y14 := d_y14.trans (fri_at fc28 (by decide) (by decide) o_a12).symm
  have d_y16 := d_y16.trans (fri_at fc28 (by decide) (by decide) o_a12).symm
  have d_y18 := d_y18.trans (fri_at fc28 (by decide) (by decide) o_a12).symm
  have d_y20 := d_y20.trans (fri_at fc28 (by decide) (by decide) o_a12).symm
  have d_y22 := d_y22.trans (fri_at fc28 (by decide) (by decide) o_a12).symm
  have d_y24 := d_y24.trans (fri_at fc28 (by decide) (by decide) o_a12).symm
  have ea12 := (frr_at fc28 (by decide) (by decide) o_v0).trans ea12
  have f0 := fri_tr (S := S23) g0 f0 fc28 (by decide) (by decide)
  have o_a12 := gr_ob g27 o_a12
  have o_v0 := gr_ob g27 o_v0
  have o_v1 := gr_ob g27 o_v1
  have g0 := gr_tr (T := S23) g0 g27
  intro _
  exact hq _ hI g0 f0 hT
set_option maxHeartbeats 4000000 in
set_option maxRecDepth 20000 in
theorem m_X4_placeBut {v0 : Nat} {v1 : Int32} {Q : Int32 → HS → Prop} {S : HS} (hI : IV S) (o_v0 : ob S v0 4)    (hT : TX S v0) (hq : ∀ (r : Int32) (T : HS), IV T → Gr S T → FRI [(4, 0), (4, 1), (4, 4), (4, 6), (4, 7), (4, 9)] [] S T → bl r → (TX T v0) → Q r T) : P_X4_placeBut v0 v1 Q S := by
  have g0 := gr_rf S
  have f0 := fri_rf [(4, 0), (4, 1), (4, 4), (4, 6), (4, 7), (4, 9)] [] S
  refine u_X4_placeBut ?_
  refine u_X4_placeBut_0 ?_
  refine ⟨o_v0, ?_⟩
  refine m_X4_canBeName hI o_v0 hT (fun x1 S2 hI2 g3 b_x1 p_x1 => ?_)
  subst p_x1
  intro _ _
  have bb_x1 : x1 = 0 ∨ x1 = 1 := b_x1
  refine ⟨fun c5 => ?_, fun c5 => ?_⟩
  · refine m_X4_findName hI o_v0 hT (fun x6 S7 hI2 g8 p_x6 => ?_)
    subst p_x6
    intro _
    refine ⟨fun c10 => ?_, fun c10 => ?_⟩
    · refine u_X4_placeBut_29 ?_
      refine ⟨o_v0, ?_⟩
      refine u_X4_fail ?_
      refine u_X4_fail_0 ?_
      refine ⟨o_v0, ?_⟩
      intro S11 eS11
      have hI : IV S11 := by rw [eS11]; exact iv_sI hI o_v0 (by decide) (nu_free (by decide))
      have f0 := fr_I eS11 g0 f0 o_v0 (by decide)
      obtain ⟨y12, hy12⟩ : ∃ z : Int32, z = (2 : Int32) := ⟨_, rfl⟩
      have d_y12 := rd_Is eS11 hy12
      have hT := tx_I eS11 hT
      have g0 := gr_I eS11 g0
      have o_v0 := ob_I eS11 o_v0
      intro x13 ex13
      have d_x13 := ex13
      intro S14 eS14
      have hI : IV S14 := by rw [eS14]; exact iv_sI hI o_v0 (by decide) (nu_free (by decide))
      have f0 := fr_I eS14 g0 f0 o_v0 (by decide)
      have d_y12 := rd_Ij eS14 (by decide) d_y12
      have d_x13 := rd_Ij eS14 (by decide) d_x13
      obtain ⟨y15, hy15⟩ : ∃ z : Int32, z = x13 := ⟨_, rfl⟩
      have d_y15 := rd_Is eS14 hy15
      have hT := tx_I eS14 hT
      have g0 := gr_I eS14 g0
      have o_v0 := ob_I eS14 o_v0
      intro _ _
      refine ⟨(Or.inl rfl), ?_⟩
      exact hq _ _ hI g0 f0 (Or.inl rfl) hT
    · refine ⟨fun c17 => ?_, fun c17 => ?_⟩
      · refine ⟨fun c18 => ?_, fun c18 => ?_⟩
        · intro S19 eS19
          have hI : IV S19 := by rw [eS19]; exact iv_sI hI o_v0 (by decide) (nu_free (by decide))
          have f0 := fr_I eS19 g0 f0 o_v0 (by decide)
          have d_x6 := rd_Is eS19 (rfl : x6 = x6)
          have hT := tx_I eS19 hT
          have g0 := gr_I eS19 g0
          have o_v0 := ob_I eS19 o_v0
          refine m_X4_next hI o_v0 hT (fun S21 hJ g22 fc23 p_S21 => ?_)
          have hT := p_S21
          have hI := hJ
          have d_x6 := d_x6.trans (fri_at fc23 (by decide) (by decide) o_v0).symm
          have f0 := fri_tr (S := S19) g0 f0 fc23 (by decide) (by decide)
          have o_v0 := gr_ob g22 o_v0
          have g0 := gr_tr (T := S19) g0 g22
          intro _
          exact hq _ _ hI g0 f0 (Or.inr rfl) hT
        · refine u_X4_fail ?_
          refine u_X4_fail_0 ?_
          refine ⟨o_v0, ?_⟩
          intro S24 eS24
          have hI : IV S24 := by rw [eS24]; exact iv_sI hI o_v0 (by decide) (nu_free (by decide))
          have f0 := fr_I eS24 g0 f0 o_v0 (by decide)
          obtain ⟨y25, hy25⟩ : ∃ z : Int32, z = (3 : Int32) := ⟨_, rfl⟩
          have d_y25 := rd_Is eS24 hy25
          have hT := tx_I eS24 hT
          have g0 := gr_I eS24 g0
          have o_v0 := ob_I eS24 o_v0
          intro x26 ex26
          have d_x26 := ex26
          intro S27 eS27
          have hI : IV S27 := by rw [eS27]; exact iv_sI hI o_v0 (by decide) (nu_free (by decide))
          have f0 := fr_I eS27 g0 f0 o_v0 (by decide)
          have d_y25 := rd_Ij eS27 (by decide) d_y25
          have d_x26 := rd_Ij eS27 (by decide) d_x26
          obtain ⟨y28, hy28⟩ : ∃ z : Int32, z = x26 := ⟨_, rfl⟩
          have d_y28 := rd_Is eS27 hy28
          have hT := tx_I eS27 hT
          have g0 := gr_I eS27 g0
          have o_v0 := ob_I eS27 o_v0
          intro _ _
          refine ⟨(Or.inl rfl), ?_⟩
          exact hq _ _ hI g0 f0 (Or.inl rfl) hT
      · refine u_X4_placeBut_29 ?_
        refine ⟨o_v0, ?_⟩
        refine u_X4_fail ?_
        refine u_X4_fail_0 ?_
        refine ⟨o_v0, ?_⟩
        intro S30 eS30
        have hI : IV S30 := by rw [eS30]; exact iv_sI hI o_v0 (by decide) (nu_free (by decide))
        have f0 := fr_I eS30 g0 f0 o_v0 (by decide)
        obtain ⟨y31, hy31⟩ : ∃ z : Int32, z = (2 : Int32) := ⟨_, rfl⟩
        have d_y31 := rd_Is eS30 hy31
        have hT := tx_I eS30 hT
        have g0 := gr_I eS30 g0
        have o_v0 := ob_I eS30 o_v0
        intro x32 ex32
        have d_x32 := ex32
        intro S33 eS33
        have hI : IV S33 := by rw [eS33]; exact iv_sI hI o_v0 (by decide) (nu_free (by decide))
        have f0 := fr_I eS33 g0 f0 o_v0 (by decide)
        have d_y31 := rd_Ij eS33 (by decide) d_y31
        have d_x32 := rd_Ij eS33 (by decide) d_x32
        obtain ⟨y34, hy34⟩ : ∃ z : Int32, z = x32 := ⟨_, rfl⟩
        have d_y34 := rd_Is eS33 hy34
        have hT := tx_I eS33 hT
        have g0 := gr_I eS33 g0
        have o_v0 := ob_I eS33 o_v0
        intro _ _
        refine ⟨(Or.inl rfl), ?_⟩
        exact hq _ _ hI g0 f0 (Or.inl rfl) hT
  · refine u_X4_fail ?_
    refine u_X4_fail_0 ?_
    refine ⟨o_v0, ?_⟩
    intro S36 eS36
    have hI : IV S36 := by rw [eS36]; exact iv_sI hI o_v0 (by decide) (nu_free (by decide))
    have f0 := fr_I eS36 g0 f0 o_v0 (by decide)
    obtain ⟨y37, hy37⟩ : ∃ z : Int32, z = (1 : Int32) := ⟨_, rfl⟩
    have d_y37 := rd_Is eS36 hy37
    have hT := tx_I eS36 hT
    have g0 := gr_I eS36 g0
    have o_v0 := ob_I eS36 o_v0
    intro x38 ex38
    have d_x38 := ex38
    intro S39 eS39
    have hI : IV S39 := by rw [eS39]; exact iv_sI hI o_v0 (by decide) (nu_free (by decide))
    have f0 := fr_I eS39 g0 f0 o_v0 (by decide)
    have d_y37 := rd_Ij eS39 (by decide) d_y37
    have d_x38 := rd_Ij eS39 (by decide) d_x38
    obtain ⟨y40, hy40⟩ : ∃ z : Int32, z = x38 := ⟨_, rfl⟩
    have d_y40 := rd_Is eS39 hy40
    have hT := tx_I eS39 hT
    have g0 := gr_I eS39 g0
    have o_v0 := ob_I eS39 o_v0
    intro _ _
    refine ⟨(Or.inl rfl), ?_⟩
    exact hq _ _ hI g0 f0 (Or.inl rfl) hT
set_option maxHeartbeats 4000000 in
set_option maxRecDepth 20000 in
theorem m_X4_placeLine {v0 : Nat} {Q : Int32 → HS → Prop} {S : HS} (hI : IV S) (o_v0 : ob S v0 4)   (hrm : RM S v0 2 8) (hT : TX S v0) (hq : ∀ (r : Int32) (T : HS), IV T → Gr S T → FRI [(4, 0), (4, 1), (4, 4), (4, 6), (4, 7), (4, 9), (4, 10), (8, 2)] [] S T → bl r → (TX T v0) → Q r T) : P_X4_placeLine v0 Q S := by
  have g0 := gr_rf S
  have f0 := fri_rf [(4, 0), (4, 1), (4, 4), (4, 6), (4, 7), (4, 9), (4, 10), (8, 2)] [] S
  obtain ⟨a1, ea1, o_a1, -⟩ := sh 12 rfl hI o_v0
  obtain ⟨y2, d_y2⟩ : ∃ z : Int32, z = fI S a1 2 := ⟨_, rfl⟩
  have hr_y2 : y2 < (8 : Int32) := by rw [d_y2]; exact hrm _ ea1
  have r_y2 : (0 : Int32) ≤ y2 ∧ y2 ≤ (8 : Int32) := by rw [d_y2]; exact nu 12 rfl hI o_a1
  refine u_X4_placeLine ?_
  refine u_X4_placeLine_0 ?_
  refine ⟨o_v0, ?_⟩
  refine ⟨a1, ea1, ?_⟩
  refine ⟨o_a1, ?_⟩
  intro x4 ex4
  have r_x4 : (0 : Int32) ≤ x4 ∧ x4 ≤ (8 : Int32) := by rw [ex4]; exact nu 12 rfl hI o_a1
  have q_x4 : x4 = y2 := ex4.trans d_y2.symm
  have d_x4 := ex4
  refine m_X4_newName hI o_v0 hT (fun x5 S6 hJ g7 fc8 b_x5 p_x5 => ?_)
  have hT := p_x5
  have hI := hJ
  have d_x4 := d_x4.trans (fri_at fc8 (by decide) (by decide) o_a1).symm
  have ea1 := (frr_at fc8 (by decide) (by decide) o_v0).trans ea1
  have f0 := fri_tr (S := S) g0 f0 fc8 (by decide) (by decide)
  have o_a1 := gr_ob g7 o_a1
  have o_v0 := gr_ob g7 o_v0
  have g0 := gr_tr (T := S) g0 g7
  intro _ _
  have bb_x5 : x5 = 0 ∨ x5 = 1 := b_x5
  refine ⟨fun c9 => ?_, fun c9 => ?_⟩
  · refine m_X4_is hI o_v0 (by decide) hT (fun x10 S11 hI2 g12 b_x10 p_x10 => ?_)
    subst p_x10
    intro _ _
    have bb_x10 : x10 = 0 ∨ x10 = 1 := b_x10
    refine ⟨fun c14 => ?_, fun c14 => ?_⟩
    · refine m_X4_is hI o_v0 (by decide) hT (fun x15 S16 hI2 g17 b_x15 p_x15 => ?_)
      subst p_x15
      intro _ _
      have bb_x15 : x15 = 0 ∨ x15 = 1 := b_x15
      refine ⟨fun c19 => ?_, fun c19 => ?_⟩
      · refine u_X4_placeLine_64 ?_
        refine ⟨o_v0, ?_⟩
        refine ⟨a1, ea1, ?_⟩
        refine ⟨o_a1, ?_⟩
        obtain ⟨a21, ea21, o_a21, l_a21⟩ := shl 16 rfl hI o_a1
        refine ⟨a21, ea21, ?_⟩
        refine ⟨a1, ea1, ?_⟩
        refine ⟨o_a1, ?_⟩
        intro x23 ex23
        have r_x23 : (0 : Int32) ≤ x23 ∧ x23 ≤ (8 : Int32) := by rw [ex23]; exact nu 12 rfl hI o_a1
        have q_x23 : x23 = x4 := ex23.trans d_x4.symm
        have d_x23 := ex23
        refine ⟨o_a21, ?_⟩
        have i24 : vp_in x23 (hN _ a21) := (vin l_a21 (m := 8) (by decide) (q217 hr_y2 r_y2 r_x4 q_x4 bb_x5 c9 bb_x10 c14 bb_x15 c19 r_x23 q_x23))
        refine ⟨i24, ?_⟩
        intro S25 eS25
        have hI : IV S25 := by rw [eS25]; exact iv_aI hI o_a1 (by decide) ea21 o_a21 (by decide)
        have f0 := fr_A eS25 g0 f0 o_a21 (by decide)
        have d_x23 := rd_Ik eS25 o_a21 o_a1 (by decide) d_x23
        have ea1 := rf_I eS25 ea1
        have ea21 := rf_I eS25 ea21
        have hT := tx_I eS25 hT
        have l_a21 := ln_I eS25 l_a21
        have g0 := gr_I eS25 g0
        have o_a1 := ob_I eS25 o_a1
        have o_a21 := ob_I eS25 o_a21
        have o_v0 := ob_I eS25 o_v0
        refine ⟨a1, ea1, ?_⟩
        refine ⟨o_a1, ?_⟩
        intro x27 ex27
        have r_x27 : (0 : Int32) ≤ x27 ∧ x27 ≤ (8 : Int32) := by rw [ex27]; exact nu 12 rfl hI o_a1
        have q_x27 : x27 = x23 := ex27.trans d_x23.symm
        have d_x27 := ex27
        intro x28 ex28
        intro S29 eS29
        have hI : IV S29 := by rw [eS29]; exact iv_sI hI o_a1 (by decide) (nu_one (lo := (0 : Int32)) (hi := (8 : Int32)) (by decide) (q218 hr_y2 r_y2 r_x4 q_x4 bb_x5 c9 bb_x10 c14 bb_x15 c19 r_x23 q_x23 r_x27 q_x27 ex28))
        have f0 := fr_I eS29 g0 f0 o_a1 (by decide)
        have d_x28 := rd_Is eS29 (rfl : x28 = x28)
        have ea1 := rf_I eS29 ea1
        have ea21 := rf_I eS29 ea21
        have hT := tx_I eS29 hT
        have l_a21 := ln_I eS29 l_a21
        have g0 := gr_I eS29 g0
        have o_a1 := ob_I eS29 o_a1
        have o_a21 := ob_I eS29 o_a21
        have o_v0 := ob_I eS29 o_v0
        exact hq _ _ hI g0 f0 (Or.inr rfl) hT
      · refine m_X4_wordAndWhole hI o_v0 (by decide) hT (fun x30 S31 hJ g32 fc33 b_x30 p_x30 => ?_)
        obtain ⟨hT, pf9_S31⟩ := p_x30
        have hI := hJ
        have d_x4 := d_x4.trans (fri_at fc33 (by decide) (by decide) o_a1).symm
        have ea1 := (frr_at fc33 (by decide) (by decide) o_v0).trans ea1
        have f0 := fri_tr (S := S6) g0 f0 fc33 (by decide) (by decide)
        have o_a1 := gr_ob g32 o_a1
        have o_v0 := gr_ob g32 o_v0
        have g0 := gr_tr (T := S6) g0 g32
        obtain ⟨y34, d_y34⟩ : ∃ z : Int32, z = fI S31 v0 9 := ⟨_, rfl⟩
        have p_y34 : x30 = 1 → (0 : Int32) ≤ y34 ∧ y34 ≤ (9 : Int32) := by rw [d_y34]; exact pf9_S31
        intro _ _
        have bb_x30 : x30 = 0 ∨ x30 = 1 := b_x30
        refine ⟨fun c35 => ?_, fun c35 => ?_⟩
        · intro x36 ex36
          have q_x36 : x36 = y34 := ex36.trans d_y34.symm
          have d_x36 := ex36
          refine u_X4_placeLine_64 ?_
          refine ⟨o_v0, ?_⟩
          refine ⟨a1, ea1, ?_⟩
          refine ⟨o_a1, ?_⟩
          obtain ⟨a38, ea38, o_a38, l_a38⟩ := shl 16 rfl hI o_a1
          refine ⟨a38, ea38, ?_⟩
          refine ⟨a1, ea1, ?_⟩
          refine ⟨o_a1, ?_⟩
          intro x40 ex40
          have r_x40 : (0 : Int32) ≤ x40 ∧ x40 ≤ (8 : Int32) := by rw [ex40]; exact nu 12 rfl hI o_a1
          have q_x40 : x40 = x4 := ex40.trans d_x4.symm
          have d_x40 := ex40
          refine ⟨o_a38, ?_⟩
          have i41 : vp_in x40 (hN _ a38) := (vin l_a38 (m := 8) (by decide) (q219 hr_y2 r_y2 r_x4 q_x4 bb_x5 c9 bb_x10 c14 bb_x15 c19 p_y34 bb_x30 c35 q_x36 r_x40 q_x40))
          refine ⟨i41, ?_⟩
          intro S42 eS42
          have hI : IV S42 := by rw [eS42]; exact iv_aI hI o_a1 (by decide) ea38 o_a38 (by decide)
          have f0 := fr_A eS42 g0 f0 o_a38 (by decide)
          have d_x40 := rd_Ik eS42 o_a38 o_a1 (by decide) d_x40
          have d_x36 := rd_Ik eS42 o_a38 o_v0 (by decide) d_x36
          have ea1 := rf_I eS42 ea1
          have ea38 := rf_I eS42 ea38
          have hT := tx_I eS42 hT
          have l_a38 := ln_I eS42 l_a38
          have g0 := gr_I eS42 g0
          have o_a1 := ob_I eS42 o_a1
          have o_a38 := ob_I eS42 o_a38
          have o_v0 := ob_I eS42 o_v0
          refine ⟨a1, ea1, ?_⟩
          refine ⟨o_a1, ?_⟩
          intro x44 ex44
          have r_x44 : (0 : Int32) ≤ x44 ∧ x44 ≤ (8 : Int32) := by rw [ex44]; exact nu 12 rfl hI o_a1
          have q_x44 : x44 = x40 := ex44.trans d_x40.symm
          have d_x44 := ex44
          intro x45 ex45
          intro S46 eS46
          have hI : IV S46 := by rw [eS46]; exact iv_sI hI o_a1 (by decide) (nu_one (lo := (0 : Int32)) (hi := (8 : Int32)) (by decide) (q220 hr_y2 r_y2 r_x4 q_x4 bb_x5 c9 bb_x10 c14 bb_x15 c19 p_y34 bb_x30 c35 q_x36 r_x40 q_x40 r_x44 q_x44 ex45))
          have f0 := fr_I eS46 g0 f0 o_a1 (by decide)
          have d_x36 := rd_Ik eS46 o_a1 o_v0 (by decide) d_x36
          have d_x45 := rd_Is eS46 (rfl : x45 = x45)
          have ea1 := rf_I eS46 ea1
          have ea38 := rf_I eS46 ea38
          have hT := tx_I eS46 hT
          have l_a38 := ln_I eS46 l_a38
          have g0 := gr_I eS46 g0
          have o_a1 := ob_I eS46 o_a1
          have o_a38 := ob_I eS46 o_a38
          have o_v0 := ob_I eS46 o_v0
          exact hq _ _ hI g0 f0 (Or.inr rfl) hT
        · exact hq _ _ hI g0 f0 (Or.inl rfl) hT
    · refine m_X4_next hI o_v0 hT (fun S48 hJ g49 fc50 p_S48 => ?_)
      have hT := p_S48
      have hI := hJ
      have d_x4 := d_x4.trans (fri_at fc50 (by decide) (by decide) o_a1).symm
      have ea1 := (frr_at fc50 (by decide) (by decide) o_v0).trans ea1
      have f0 := fri_tr (S := S6) g0 f0 fc50 (by decide) (by decide)
      have o_a1 := gr_ob g49 o_a1
      have o_v0 := gr_ob g49 o_v0
      have g0 := gr_tr (T := S6) g0 g49
      intro _
      refine u_X4_placeLine_64 ?_
      refine ⟨o_v0, ?_⟩
      refine ⟨a1, ea1, ?_⟩
      refine ⟨o_a1, ?_⟩
      obtain ⟨a52, ea52, o_a52, l_a52⟩ := shl 16 rfl hI o_a1
      refine ⟨a52, ea52, ?_⟩
      refine ⟨a1, ea1, ?_⟩
      refine ⟨o_a1, ?_⟩
      intro x54 ex54
      have r_x54 : (0 : Int32) ≤ x54 ∧ x54 ≤ (8 : Int32) := by rw [ex54]; exact nu 12 rfl hI o_a1
      have q_x54 : x54 = x4 := ex54.trans d_x4.symm
      have d_x54 := ex54
      refine ⟨o_a52, ?_⟩
      have i55 : vp_in x54 (hN _ a52) := (vin l_a52 (m := 8) (by decide) (q221 hr_y2 r_y2 r_x4 q_x4 bb_x5 c9 bb_x10 c14 r_x54 q_x54))
      refine ⟨i55, ?_⟩
      intro S56 eS56
      have hI : IV S56 := by rw [eS56]; exact iv_aI hI o_a1 (by decide) ea52 o_a52 (by decide)
      have f0 := fr_A eS56 g0 f0 o_a52 (by decide)
      have d_x54 := rd_Ik eS56 o_a52 o_a1 (by decide) d_x54
      have ea1 := rf_I eS56 ea1
      have ea52 := rf_I eS56 ea52
      have hT := tx_I eS56 hT
      have l_a52 := ln_I eS56 l_a52
      have g0 := gr_I eS56 g0
      have o_a1 := ob_I eS56 o_a1
      have o_a52 := ob_I eS56 o_a52
      have o_v0 := ob_I eS56 o_v0
      refine ⟨a1, ea1, ?_⟩
      refine ⟨o_a1, ?_⟩
      intro x58 ex58
      have r_x58 : (0 : Int32) ≤ x58 ∧ x58 ≤ (8 : Int32) := by rw [ex58]; exact nu 12 rfl hI o_a1
      have q_x58 : x58 = x54 := ex58.trans d_x54.symm
      have d_x58 := ex58
      intro x59 ex59
      intro S60 eS60
      have hI : IV S60 := by rw [eS60]; exact iv_sI hI o_a1 (by decide) (nu_one (lo := (0 : Int32)) (hi := (8 : Int32)) (by decide) (q222 hr_y2 r_y2 r_x4 q_x4 bb_x5 c9 bb_x10 c14 r_x54 q_x54 r_x58 q_x58 ex59))
      have f0 := fr_I eS60 g0 f0 o_a1 (by decide)
      have d_x59 := rd_Is eS60 (rfl : x59 = x59)
      have ea1 := rf_I eS60 ea1
      have ea52 := rf_I eS60 ea52
      have hT := tx_I eS60 hT
      have l_a52 := ln_I eS60 l_a52
      have g0 := gr_I eS60 g0
      have o_a1 := ob_I eS60 o_a1
      have o_a52 := ob_I eS60 o_a52
      have o_v0 := ob_I eS60 o_v0
      exact hq _ _ hI g0 f0 (Or.inr rfl) hT
  · exact hq _ _ hI g0 f0 (Or.inl rfl) hT
end
section
set_option maxHeartbeats 4000000 in
set_option maxRecDepth 20000 in
theorem m_X4_side {v0 : Nat} {Q : Int32 → HS → Prop} {S : HS} (hI : IV S) (o_v0 : ob S v0 4)    (hT : TX S v0) (hq : ∀ (r : Int32) (T : HS), IV T → Gr S T → FRI [(4, 0), (4, 1), (4, 4), (4, 6), (4, 7), (4, 9)] [] S T → bl r → (TX T v0) → Q r T) : P_X4_side v0 Q S := by
  have g0 := gr_rf S
  have f0 := fri_rf [(4, 0), (4, 1), (4, 4), (4, 6), (4, 7), (4, 9)] [] S
  refine u_X4_side ?_
  refine u_X4_side_0 ?_
  refine ⟨o_v0, ?_⟩
  refine m_X4_is hI o_v0 (by decide) hT (fun x1 S2 hI2 g3 b_x1 p_x1 => ?_)
  subst p_x1
  intro _ _
  have bb_x1 : x1 = 0 ∨ x1 = 1 := b_x1
  refine ⟨fun c5 => ?_, fun c5 => ?_⟩
  · refine m_X4_is hI o_v0 (by decide) hT (fun x6 S7 hI2 g8 b_x6 p_x6 => ?_)
    subst p_x6
    intro _ _
    have bb_x6 : x6 = 0 ∨ x6 = 1 := b_x6
    refine ⟨fun c10 => ?_, fun c10 => ?_⟩
    · refine m_X4_is hI o_v0 (by decide) hT (fun x11 S12 hI2 g13 b_x11 p_x11 => ?_)
      subst p_x11
      intro _ _
      have bb_x11 : x11 = 0 ∨ x11 = 1 := b_x11
      refine ⟨fun c15 => ?_, fun c15 => ?_⟩
      · refine m_X4_is hI o_v0 (by decide) hT (fun x16 S17 hI2 g18 b_x16 p_x16 => ?_)
        subst p_x16
        intro _ _
        have bb_x16 : x16 = 0 ∨ x16 = 1 := b_x16
        refine ⟨fun c20 => ?_, fun c20 => ?_⟩
        · refine u_X4_fail ?_
          refine u_X4_fail_0 ?_
          refine ⟨o_v0, ?_⟩
          intro S21 eS21
          have hI : IV S21 := by rw [eS21]; exact iv_sI hI o_v0 (by decide) (nu_free (by decide))
          have f0 := fr_I eS21 g0 f0 o_v0 (by decide)
          obtain ⟨y22, hy22⟩ : ∃ z : Int32, z = (1 : Int32) := ⟨_, rfl⟩
          have d_y22 := rd_Is eS21 hy22
          have hT := tx_I eS21 hT
          have g0 := gr_I eS21 g0
          have o_v0 := ob_I eS21 o_v0
          intro x23 ex23
          have d_x23 := ex23
          intro S24 eS24
          have hI : IV S24 := by rw [eS24]; exact iv_sI hI o_v0 (by decide) (nu_free (by decide))
          have f0 := fr_I eS24 g0 f0 o_v0 (by decide)
          have d_y22 := rd_Ij eS24 (by decide) d_y22
          have d_x23 := rd_Ij eS24 (by decide) d_x23
          obtain ⟨y25, hy25⟩ : ∃ z : Int32, z = x23 := ⟨_, rfl⟩
          have d_y25 := rd_Is eS24 hy25
          have hT := tx_I eS24 hT
          have g0 := gr_I eS24 g0
          have o_v0 := ob_I eS24 o_v0
          intro _ _
          refine ⟨(Or.inl rfl), ?_⟩
          exact hq _ _ hI g0 f0 (Or.inl rfl) hT
        · intro S27 eS27
          have hI : IV S27 := by rw [eS27]; exact iv_sI hI o_v0 (by decide) (nu_free (by decide))
          have f0 := fr_I eS27 g0 f0 o_v0 (by decide)
          obtain ⟨y28, hy28⟩ : ∃ z : Int32, z = (3 : Int32) := ⟨_, rfl⟩
          have d_y28 := rd_Is eS27 hy28
          have hT := tx_I eS27 hT
          have g0 := gr_I eS27 g0
          have o_v0 := ob_I eS27 o_v0
          refine u_X4_side_74 ?_
          refine ⟨o_v0, ?_⟩
          refine m_X4_next hI o_v0 hT (fun S30 hJ g31 fc32 p_S30 => ?_)
          have hT := p_S30
          have hI := hJ
          have d_y28 := d_y28.trans (fri_at fc32 (by decide) (by decide) o_v0).symm
          have f0 := fri_tr (S := S27) g0 f0 fc32 (by decide) (by decide)
          have o_v0 := gr_ob g31 o_v0
          have g0 := gr_tr (T := S27) g0 g31
          intro _
          exact hq _ _ hI g0 f0 (Or.inr rfl) hT
      · intro S33 eS33
        have hI : IV S33 := by rw [eS33]; exact iv_sI hI o_v0 (by decide) (nu_free (by decide))
        have f0 := fr_I eS33 g0 f0 o_v0 (by decide)
        obtain ⟨y34, hy34⟩ : ∃ z : Int32, z = (2 : Int32) := ⟨_, rfl⟩
        have d_y34 := rd_Is eS33 hy34
        have hT := tx_I eS33 hT
        have g0 := gr_I eS33 g0
        have o_v0 := ob_I eS33 o_v0
        refine u_X4_side_74 ?_
        refine ⟨o_v0, ?_⟩
        refine m_X4_next hI o_v0 hT (fun S36 hJ g37 fc38 p_S36 => ?_)
        have hT := p_S36
        have hI := hJ
        have d_y34 := d_y34.trans (fri_at fc38 (by decide) (by decide) o_v0).symm
        have f0 := fri_tr (S := S33) g0 f0 fc38 (by decide) (by decide)
        have o_v0 := gr_ob g37 o_v0
        have g0 := gr_tr (T := S33) g0 g37
        intro _
        exact hq _ _ hI g0 f0 (Or.inr rfl) hT
    · intro S39 eS39
      have hI : IV S39 := by rw [eS39]; exact iv_sI hI o_v0 (by decide) (nu_free (by decide))
      have f0 := fr_I eS39 g0 f0 o_v0 (by decide)
      obtain ⟨y40, hy40⟩ : ∃ z : Int32, z = (1 : Int32) := ⟨_, rfl⟩
      have d_y40 := rd_Is eS39 hy40
      have hT := tx_I eS39 hT
      have g0 := gr_I eS39 g0
      have o_v0 := ob_I eS39 o_v0
      refine u_X4_side_74 ?_
      refine ⟨o_v0, ?_⟩
      refine m_X4_next hI o_v0 hT (fun S42 hJ g43 fc44 p_S42 => ?_)
      have hT := p_S42
      have hI := hJ
      have d_y40 := d_y40.trans (fri_at fc44 (by decide) (by decide) o_v0).symm
      have f0 := fri_tr (S := S39) g0 f0 fc44 (by decide) (by decide)
      have o_v0 := gr_ob g43 o_v0
      have g0 := gr_tr (T := S39) g0 g43
      intro _
      exact hq _ _ hI g0 f0 (Or.inr rfl) hT
  · intro S45 eS45
    have hI : IV S45 := by rw [eS45]; exact iv_sI hI o_v0 (by decide) (nu_free (by decide))
    have f0 := fr_I eS45 g0 f0 o_v0 (by decide)
    obtain ⟨y46, hy46⟩ : ∃ z : Int32, z = (0 : Int32) := ⟨_, rfl⟩
    have d_y46 := rd_Is eS45 hy46
    have hT := tx_I eS45 hT
    have g0 := gr_I eS45 g0
    have o_v0 := ob_I eS45 o_v0
    refine u_X4_side_74 ?_
    refine ⟨o_v0, ?_⟩
    refine m_X4_next hI o_v0 hT (fun S48 hJ g49 fc50 p_S48 => ?_)
    have hT := p_S48
    have hI := hJ
    have d_y46 := d_y46.trans (fri_at fc50 (by decide) (by decide) o_v0).symm
    have f0 := fri_tr (S := S45) g0 f0 fc50 (by decide) (by decide)
    have o_v0 := gr_ob g49 o_v0
    have g0 := gr_tr (T := S45) g0 g49
    intro _
    exact hq _ _ hI g0 f0 (Or.inr rfl) hT
set_option maxHeartbeats 4000000 in
set_option maxRecDepth 20000 in
theorem m_X4_rainLine {v0 : Nat} {Q : Int32 → HS → Prop} {S : HS} (hI : IV S) (o_v0 : ob S v0 4)   (hrm : RM S v0 1 6) (hT : TX S v0) (hq : ∀ (r : Int32) (T : HS), IV T → Gr S T → FRI [(3, 0), (3, 1), (3, 2), (3, 3), (3, 4), (4, 0), (4, 1), (4, 4), (4, 6), (4, 7), (4, 9), (8, 1)] [] S T → bl r → (TX T v0) → Q r T) : P_X4_rainLine v0 Q S := by
  have g0 := gr_rf S
  have f0 := fri_rf [(3, 0), (3, 1), (3, 2), (3, 3), (3, 4), (4, 0), (4, 1), (4, 4), (4, 6), (4, 7), (4, 9), (8, 1)] [] S
  obtain ⟨a1, ea1, o_a1, -⟩ := sh 12 rfl hI o_v0
  obtain ⟨y2, d_y2⟩ : ∃ z : Int32, z = fI S a1 1 := ⟨_, rfl⟩
  have hr_y2 : y2 < (6 : Int32) := by rw [d_y2]; exact hrm _ ea1
  have r_y2 : (0 : Int32) ≤ y2 ∧ y2 ≤ (6 : Int32) := by rw [d_y2]; exact nu 11 rfl hI o_a1
  refine u_X4_rainLine ?_
  refine u_X4_rainLine_0 ?_
  refine ⟨o_v0, ?_⟩
  refine ⟨a1, ea1, ?_⟩
  refine ⟨o_a1, ?_⟩
  obtain ⟨a4, ea4, o_a4, l_a4⟩ := shl 15 rfl hI o_a1
  refine ⟨a4, ea4, ?_⟩
  refine ⟨a1, ea1, ?_⟩
  refine ⟨o_a1, ?_⟩
  intro x6 ex6
  have r_x6 : (0 : Int32) ≤ x6 ∧ x6 ≤ (6 : Int32) := by rw [ex6]; exact nu 11 rfl hI o_a1
  have q_x6 : x6 = y2 := ex6.trans d_y2.symm
  have d_x6 := ex6
  refine ⟨o_a4, ?_⟩
  have i8 : vp_in x6 (hN _ a4) := (vin l_a4 (m := 6) (by decide) (q215 hr_y2 r_y2 r_x6 q_x6))
  obtain ⟨a7, ea7, o_a7⟩ := ae hI o_a4 (by decide) (by decide) i8
  replace o_a7 : ob _ a7 3 := o_a7
  refine ⟨i8, a7, ea7, ?_⟩
  refine m_X4_wordAndWhole hI o_v0 (by decide) hT (fun x9 S10 hJ g11 fc12 b_x9 p_x9 => ?_)
  obtain ⟨hT, pf9_S10⟩ := p_x9
  have hI := hJ
  have l_a4 := (gr_len g11 o_a4).trans l_a4
  have d_x6 := d_x6.trans (fri_at fc12 (by decide) (by decide) o_a1).symm
  have ea1 := (frr_at fc12 (by decide) (by decide) o_v0).trans ea1
  have ea4 := (frr_at fc12 (by decide) (by decide) o_a1).trans ea4
  have f0 := fri_tr (S := S) g0 f0 fc12 (by decide) (by decide)
  have o_a1 := gr_ob g11 o_a1
  have o_a4 := gr_ob g11 o_a4
  have o_a7 := gr_ob g11 o_a7
  have o_v0 := gr_ob g11 o_v0
  have g0 := gr_tr (T := S) g0 g11
  obtain ⟨y13, d_y13⟩ : ∃ z : Int32, z = fI S10 v0 9 := ⟨_, rfl⟩
  have p_y13 : x9 = 1 → (0 : Int32) ≤ y13 ∧ y13 ≤ (9 : Int32) := by rw [d_y13]; exact pf9_S10
  intro _ _
  have bb_x9 : x9 = 0 ∨ x9 = 1 := b_x9
  refine ⟨fun c14 => ?_, fun c14 => ?_⟩
  · intro x15 ex15
    have q_x15 : x15 = y13 := ex15.trans d_y13.symm
    have d_x15 := ex15
    refine ⟨o_a7, ?_⟩
    intro S16 eS16
    have hI : IV S16 := by rw [eS16]; exact iv_sI hI o_a7 (by decide) (nu_free (by decide))
    have f0 := fr_I eS16 g0 f0 o_a7 (by decide)
    have d_x6 := rd_Ik eS16 o_a7 o_a1 (by decide) d_x6
    have d_x15 := rd_Ik eS16 o_a7 o_v0 (by decide) d_x15
    obtain ⟨y17, hy17⟩ : ∃ z : Int32, z = x15 := ⟨_, rfl⟩
    have d_y17 := rd_Is eS16 hy17
    have ea1 := rf_I eS16 ea1
    have ea4 := rf_I eS16 ea4
    have hT := tx_I eS16 hT
    have l_a4 := ln_I eS16 l_a4
    have g0 := gr_I eS16 g0
    have o_a1 := ob_I eS16 o_a1
    have o_a4 := ob_I eS16 o_a4
    have o_a7 := ob_I eS16 o_a7
    have o_v0 := ob_I eS16 o_v0
    refine m_X4_wordAndWhole hI o_v0 (by decide) hT (fun x18 S19 hJ g20 fc21 b_x18 p_x18 => ?_)
    obtain ⟨hT, pf9_S19⟩ := p_x18
    have hI := hJ
    have l_a4 := (gr_len g20 o_a4).trans l_a4
    have d_x6 := d_x6.trans (fri_at fc21 (by decide) (by decide) o_a1).symm
    have d_y17 := d_y17.trans (fri_at fc21 (by decide) (by decide) o_a7).symm
    have ea1 := (frr_at fc21 (by decide) (by decide) o_v0).trans ea1
    have ea4 := (frr_at fc21 (by decide) (by decide) o_a1).trans ea4
    have f0 := fri_tr (S := S16) g0 f0 fc21 (by decide) (by decide)
    have o_a1 := gr_ob g20 o_a1
    have o_a4 := gr_ob g20 o_a4
    have o_a7 := gr_ob g20 o_a7
    have o_v0 := gr_ob g20 o_v0
    have g0 := gr_tr (T := S16) g0 g20
    obtain ⟨y22, d_y22⟩ : ∃ z : Int32, z = fI S19 v0 9 := ⟨_, rfl⟩
    have p_y22 : x18 = 1 → (1 : Int32) ≤ y22 ∧ y22 ≤ (9 : Int32) := by rw [d_y22]; exact pf9_S19
    intro _ _
    have bb_x18 : x18 = 0 ∨ x18 = 1 := b_x18
    refine ⟨fun c23 => ?_, fun c23 => ?_⟩
    · intro x24 ex24
      have q_x24 : x24 = y22 := ex24.trans d_y22.symm
      have d_x24 := ex24
      intro S25 eS25
      have hI : IV S25 := by rw [eS25]; exact iv_sI hI o_a7 (by decide) (nu_free (by decide))
      have f0 := fr_I eS25 g0 f0 o_a7 (by decide)
      have d_x6 := rd_Ik eS25 o_a7 o_a1 (by decide) d_x6
      have d_y17 := rd_Ij eS25 (by decide) d_y17
      have d_x24 := rd_Ik eS25 o_a7 o_v0 (by decide) d_x24
      obtain ⟨y26, hy26⟩ : ∃ z : Int32, z = x24 := ⟨_, rfl⟩
      have d_y26 := rd_Is eS25 hy26
      have ea1 := rf_I eS25 ea1
      have ea4 := rf_I eS25 ea4
      have hT := tx_I eS25 hT
      have l_a4 := ln_I eS25 l_a4
      have g0 := gr_I eS25 g0
      have o_a1 := ob_I eS25 o_a1
      have o_a4 := ob_I eS25 o_a4
      have o_a7 := ob_I eS25 o_a7
      have o_v0 := ob_I eS25 o_v0
      refine m_X4_word hI o_v0 (by decide) hT (fun x27 S28 hJ g29 fc30 b_x27 p_x27 => ?_)
      have hT := p_x27
      have hI := hJ
      have l_a4 := (gr_len g29 o_a4).trans l_a4
      have d_x6 := d_x6.trans (fri_at fc30 (by decide) (by decide) o_a1).symm
      have d_y17 := d_y17.trans (fri_at fc30 (by decide) (by decide) o_a7).symm
      have d_x24 := d_x24.trans (fri_at fc30 (by decide) (by decide) o_v0).symm
      have d_y26 := d_y26.trans (fri_at fc30 (by decide) (by decide) o_a7).symm
      have ea1 := (frr_at fc30 (by decide) (by decide) o_v0).trans ea1
      have ea4 := (frr_at fc30 (by decide) (by decide) o_a1).trans ea4
      have f0 := fri_tr (S := S25) g0 f0 fc30 (by decide) (by decide)
      have o_a1 := gr_ob g29 o_a1
      have o_a4 := gr_ob g29 o_a4
      have o_a7 := gr_ob g29 o_a7
      have o_v0 := gr_ob g29 o_v0
      have g0 := gr_tr (T := S25) g0 g29
      intro _ _
      have bb_x27 : x27 = 0 ∨ x27 = 1 := b_x27
      refine ⟨fun c31 => ?_, fun c31 => ?_⟩
      · exact hq _ _ hI g0 f0 (Or.inl rfl) hT
      · refine m_X4_side hI o_v0 hT (fun x32 S33 hJ g34 fc35 b_x32 p_x32 => ?_)
        have hT := p_x32
        have hI := hJ
        have l_a4 := (gr_len g34 o_a4).trans l_a4
        have d_x6 := d_x6.trans (fri_at fc35 (by decide) (by decide) o_a1).symm
        have d_y17 := d_y17.trans (fri_at fc35 (by decide) (by decide) o_a7).symm
        have d_y26 := d_y26.trans (fri_at fc35 (by decide) (by decide) o_a7).symm
        have ea1 := (frr_at fc35 (by decide) (by decide) o_v0).trans ea1
        have ea4 := (frr_at fc35 (by decide) (by decide) o_a1).trans ea4
        have f0 := fri_tr (S := S28) g0 f0 fc35 (by decide) (by decide)
        have o_a1 := gr_ob g34 o_a1
        have o_a4 := gr_ob g34 o_a4
        have o_a7 := gr_ob g34 o_a7
        have o_v0 := gr_ob g34 o_v0
        have g0 := gr_tr (T := S28) g0 g34
        intro _ _
        have bb_x32 : x32 = 0 ∨ x32 = 1 := b_x32
        refine ⟨fun c36 => ?_, fun c36 => ?_⟩
        · intro x37 ex37
          have d_x37 := ex37
          intro S38 eS38
          have hI : IV S38 := by rw [eS38]; exact iv_sI hI o_a7 (by decide) (nu_free (by decide))
          have f0 := fr_I eS38 g0 f0 o_a7 (by decide)
          have d_x6 := rd_Ik eS38 o_a7 o_a1 (by decide) d_x6
          have d_y17 := rd_Ij eS38 (by decide) d_y17
          have d_y26 := rd_Ij eS38 (by decide) d_y26
          have d_x37 := rd_Ik eS38 o_a7 o_v0 (by decide) d_x37
          obtain ⟨y39, hy39⟩ : ∃ z : Int32, z = x37 := ⟨_, rfl⟩
          have d_y39 := rd_Is eS38 hy39
          have ea1 := rf_I eS38 ea1
          have ea4 := rf_I eS38 ea4
          have hT := tx_I eS38 hT
          have l_a4 := ln_I eS38 l_a4
          have g0 := gr_I eS38 g0
          have o_a1 := ob_I eS38 o_a1
          have o_a4 := ob_I eS38 o_a4
          have o_a7 := ob_I eS38 o_a7
          have o_v0 := ob_I eS38 o_v0
          refine m_X4_whole hI o_v0 hT (fun x40 S41 hJ g42 fc43 b_x40 p_x40 => ?_)
          obtain ⟨hT, pf9_S41⟩ := p_x40
          have hI := hJ
          have l_a4 := (gr_len g42 o_a4).trans l_a4
          have d_x6 := d_x6.trans (fri_at fc43 (by decide) (by decide) o_a1).symm
          have d_y17 := d_y17.trans (fri_at fc43 (by decide) (by decide) o_a7).symm
          have d_y26 := d_y26.trans (fri_at fc43 (by decide) (by decide) o_a7).symm
          have d_y39 := d_y39.trans (fri_at fc43 (by decide) (by decide) o_a7).symm
          have ea1 := (frr_at fc43 (by decide) (by decide) o_v0).trans ea1
          have ea4 := (frr_at fc43 (by decide) (by decide) o_a1).trans ea4
          have f0 := fri_tr (S := S38) g0 f0 fc43 (by decide) (by decide)
          have o_a1 := gr_ob g42 o_a1
          have o_a4 := gr_ob g42 o_a4
          have o_a7 := gr_ob g42 o_a7
          have o_v0 := gr_ob g42 o_v0
          have g0 := gr_tr (T := S38) g0 g42
          obtain ⟨y44, d_y44⟩ : ∃ z : Int32, z = fI S41 v0 9 := ⟨_, rfl⟩
          have p_y44 : x40 = 1 → (0 : Int32) ≤ y44 ∧ y44 ≤ (9 : Int32) := by rw [d_y44]; exact pf9_S41
          intro _ _
          have bb_x40 : x40 = 0 ∨ x40 = 1 := b_x40
          refine ⟨fun c45 => ?_, fun c45 => ?_⟩
          · intro x46 ex46
            have q_x46 : x46 = y44 := ex46.trans d_y44.symm
            have d_x46 := ex46
            intro S47 eS47
            have hI : IV S47 := by rw [eS47]; exact iv_sI hI o_a7 (by decide) (nu_free (by decide))
            have f0 := fr_I eS47 g0 f0 o_a7 (by decide)
            have d_x6 := rd_Ik eS47 o_a7 o_a1 (by decide) d_x6
            have d_y17 := rd_Ij eS47 (by decide) d_y17
            have d_y26 := rd_Ij eS47 (by decide) d_y26
            have d_y39 := rd_Ij eS47 (by decide) d_y39
            have d_x46 := rd_Ik eS47 o_a7 o_v0 (by decide) d_x46
            obtain ⟨y48, hy48⟩ : ∃ z : Int32, z = x46 := ⟨_, rfl⟩
            have d_y48 := rd_Is eS47 hy48
            have ea1 := rf_I eS47 ea1
            have ea4 := rf_I eS47 ea4
            have hT := tx_I eS47 hT
            have l_a4 := ln_I eS47 l_a4
            have g0 := gr_I eS47 g0
            have o_a1 := ob_I eS47 o_a1
            have o_a4 := ob_I eS47 o_a4
            have o_a7 := ob_I eS47 o_a7
            have o_v0 := ob_I eS47 o_v0
            refine m_X4_wordAndWhole hI o_v0 (by decide) hT (fun x49 S50 hJ g51 fc52 b_x49 p_x49 => ?_)
            obtain ⟨hT, pf9_S50⟩ := p_x49
            have hI := hJ
            have l_a4 := (gr_len g51 o_a4).trans l_a4
            have d_x6 := d_x6.trans (fri_at fc52 (by decide) (by decide) o_a1).symm
            have d_y17 := d_y17.trans (fri_at fc52 (by decide) (by decide) o_a7).symm
            have d_y26 := d_y26.trans (fri_at fc52 (by decide) (by decide) o_a7).symm
            have d_y39 := d_y39.trans (fri_at fc52 (by decide) (by decide) o_a7).symm
            have d_y48 := d_y48.trans (fri_at fc52 (by decide) (by decide) o_a7).symm
            have ea1 := (frr_at fc52 (by decide) (by decide) o_v0).trans ea1
            have ea4 := (frr_at fc52 (by decide) (by decide) o_a1).trans ea4
            have f0 := fri_tr (S := S47) g0 f0 fc52 (by decide) (by decide)
            have o_a1 := gr_ob g51 o_a1
            have o_a4 := gr_ob g51 o_a4
            have o_a7 := gr_ob g51 o_a7
            have o_v0 := gr_ob g51 o_v0
            have g0 := gr_tr (T := S47) g0 g51
            obtain ⟨y53, d_y53⟩ : ∃ z : Int32, z = fI S50 v0 9 := ⟨_, rfl⟩
            have p_y53 : x49 = 1 → (0 : Int32) ≤ y53 ∧ y53 ≤ (100 : Int32) := by rw [d_y53]; exact pf9_S50
            intro _ _
            have bb_x49 : x49 = 0 ∨ x49 = 1 := b_x49
            refine ⟨fun c54 => ?_, fun c54 => ?_⟩
            · intro x55 ex55
              have q_x55 : x55 = y53 := ex55.trans d_y53.symm
              have d_x55 := ex55
              intro S56 eS56
              have hI : IV S56 := by rw [eS56]; exact iv_sI hI o_a7 (by decide) (nu_free (by decide))
              have f0 := fr_I eS56 g0 f0 o_a7 (by decide)
              have d_x6 := rd_Ik eS56 o_a7 o_a1 (by decide) d_x6
              have d_y17 := rd_Ij eS56 (by decide) d_y17
              have d_y26 := rd_Ij eS56 (by decide) d_y26
              have d_y39 := rd_Ij eS56 (by decide) d_y39
              have d_y48 := rd_Ij eS56 (by decide) d_y48
              have d_x55 := rd_Ik eS56 o_a7 o_v0 (by decide) d_x55
              obtain ⟨y57, hy57⟩ : ∃ z : Int32, z = x55 := ⟨_, rfl⟩
              have d_y57 := rd_Is eS56 hy57
              have ea1 := rf_I eS56 ea1
              have ea4 := rf_I eS56 ea4
              have hT := tx_I eS56 hT
              have l_a4 := ln_I eS56 l_a4
              have g0 := gr_I eS56 g0
              have o_a1 := ob_I eS56 o_a1
              have o_a4 := ob_I eS56 o_a4
              have o_a7 := ob_I eS56 o_a7
              have o_v0 := ob_I eS56 o_v0
              refine ⟨a1, ea1, ?_⟩
              refine ⟨o_a1, ?_⟩
              intro x59 ex59
              have r_x59 : (0 : Int32) ≤ x59 ∧ x59 ≤ (6 : Int32) := by rw [ex59]; exact nu 11 rfl hI o_a1
              have q_x59 : x59 = x6 := ex59.trans d_x6.symm
              have d_x59 := ex59
              intro x60 ex60
              intro S61 eS61
              have hI : IV S61 := by rw [eS61]; exact iv_sI hI o_a1 (by decide) (nu_one (lo := (0 : Int32)) (hi := (6 : Int32)) (by decide) (q216 hr_y2 r_y2 r_x6 q_x6 p_y13 bb_x9 c14 q_x15 hy17 p_y22 bb_x18 c23 q_x24 hy26 bb_x27 c31 bb_x32 c36 p_y44 bb_x40 c45 q_x46 hy48 p_y53 bb_x49 c54 q_x55 hy57 r_x59 q_x59 ex60))
              have f0 := fr_I eS61 g0 f0 o_a1 (by decide)
              have d_y17 := rd_Ik eS61 o_a1 o_a7 (by decide) d_y17
              have d_y26 := rd_Ik eS61 o_a1 o_a7 (by decide) d_y26
              have d_y39 := rd_Ik eS61 o_a1 o_a7 (by decide) d_y39
              have d_y48 := rd_Ik eS61 o_a1 o_a7 (by decide) d_y48
              have d_x55 := rd_Ik eS61 o_a1 o_v0 (by decide) d_x55
              have d_y57 := rd_Ik eS61 o_a1 o_a7 (by decide) d_y57
              have d_x60 := rd_Is eS61 (rfl : x60 = x60)
              have ea1 := rf_I eS61 ea1
              have ea4 := rf_I eS61 ea4
              have hT := tx_I eS61 hT
              have l_a4 := ln_I eS61 l_a4
              have g0 := gr_I eS61 g0
              have o_a1 := ob_I eS61 o_a1
              have o_a4 := ob_I eS61 o_a4
              have o_a7 := ob_I eS61 o_a7
              have o_v0 := ob_I eS61 o_v0
              exact hq _ _ hI g0 f0 (Or.inr rfl) hT
            · exact hq _ _ hI g0 f0 (Or.inl rfl) hT
          · exact hq _ _ hI g0 f0 (Or.inl rfl) hT
        · exact hq _ _ hI g0 f0 (Or.inl rfl) hT
    · exact hq _ _ hI g0 f0 (Or.inl rfl) hT
  · exact hq _ _ hI g0 f0 (Or.inl rfl) hT
set_option maxHeartbeats 4000000 in
set_option maxRecDepth 20000 in
theorem m_X4_roadLine {v0 : Nat} {Q : Int32 → HS → Prop} {S : HS} (hI : IV S) (o_v0 : ob S v0 4)   (hrm : RM S v0 3 12) (hT : TX S v0) (hq : ∀ (r : Int32) (T : HS), IV T → Gr S T → FRI [(4, 0), (4, 1), (4, 4), (4, 6), (4, 7), (4, 9), (5, 0), (5, 1), (5, 2), (5, 3), (5, 4), (8, 3)] [] S T → bl r → (TX T v0) → Q r T) : P_X4_roadLine v0 Q S := by
  have g0 := gr_rf S
  have f0 := fri_rf [(4, 0), (4, 1), (4, 4), (4, 6), (4, 7), (4, 9), (5, 0), (5, 1), (5, 2), (5, 3), (5, 4), (8, 3)] [] S
  obtain ⟨a1, ea1, o_a1, -⟩ := sh 12 rfl hI o_v0
  obtain ⟨y2, d_y2⟩ : ∃ z : Int32, z = fI S a1 3 := ⟨_, rfl⟩
  have hr_y2 : y2 < (12 : Int32) := by rw [d_y2]; exact hrm _ ea1
  have r_y2 : (0 : Int32) ≤ y2 ∧ y2 ≤ (12 : Int32) := by rw [d_y2]; exact nu 13 rfl hI o_a1
  refine u_X4_roadLine ?_
  refine u_X4_roadLine_0 ?_
  refine ⟨o_v0, ?_⟩
  refine ⟨a1, ea1, ?_⟩
  refine ⟨o_a1, ?_⟩
  obtain ⟨a4, ea4, o_a4, l_a4⟩ := shl 17 rfl hI o_a1
  refine ⟨a4, ea4, ?_⟩
  refine ⟨a1, ea1, ?_⟩
  refine ⟨o_a1, ?_⟩
  intro x6 ex6
  have r_x6 : (0 : Int32) ≤ x6 ∧ x6 ≤ (12 : Int32) := by rw [ex6]; exact nu 13 rfl hI o_a1
  have q_x6 : x6 = y2 := ex6.trans d_y2.symm
  have d_x6 := ex6
  refine ⟨o_a4, ?_⟩
  have i8 : vp_in x6 (hN _ a4) := (vin l_a4 (m := 12) (by decide) (q212 hr_y2 r_y2 r_x6 q_x6))
  obtain ⟨a7, ea7, o_a7⟩ := ae hI o_a4 (by decide) (by decide) i8
  replace o_a7 : ob _ a7 5 := o_a7
  refine ⟨i8, a7, ea7, ?_⟩
  refine m_X4_placeBut hI o_v0 hT (fun x9 S10 hJ g11 fc12 b_x9 p_x9 => ?_)
  have hT := p_x9
  have hI := hJ
  have l_a4 := (gr_len g11 o_a4).trans l_a4
  have d_x6 := d_x6.trans (fri_at fc12 (by decide) (by decide) o_a1).symm
  have ea1 := (frr_at fc12 (by decide) (by decide) o_v0).trans ea1
  have ea4 := (frr_at fc12 (by decide) (by decide) o_a1).trans ea4
  have f0 := fri_tr (S := S) g0 f0 fc12 (by decide) (by decide)
  have o_a1 := gr_ob g11 o_a1
  have o_a4 := gr_ob g11 o_a4
  have o_a7 := gr_ob g11 o_a7
  have o_v0 := gr_ob g11 o_v0
  have g0 := gr_tr (T := S) g0 g11
  intro _ _
  have bb_x9 : x9 = 0 ∨ x9 = 1 := b_x9
  refine ⟨fun c13 => ?_, fun c13 => ?_⟩
  · intro x14 ex14
    have d_x14 := ex14
    refine ⟨o_a7, ?_⟩
    intro S15 eS15
    have hI : IV S15 := by rw [eS15]; exact iv_sI hI o_a7 (by decide) (nu_free (by decide))
    have f0 := fr_I eS15 g0 f0 o_a7 (by decide)
    have d_x6 := rd_Ik eS15 o_a7 o_a1 (by decide) d_x6
    have d_x14 := rd_Ik eS15 o_a7 o_v0 (by decide) d_x14
    obtain ⟨y16, hy16⟩ : ∃ z : Int32, z = x14 := ⟨_, rfl⟩
    have d_y16 := rd_Is eS15 hy16
    have ea1 := rf_I eS15 ea1
    have ea4 := rf_I eS15 ea4
    have hT := tx_I eS15 hT
    have l_a4 := ln_I eS15 l_a4
    have g0 := gr_I eS15 g0
    have o_a1 := ob_I eS15 o_a1
    have o_a4 := ob_I eS15 o_a4
    have o_a7 := ob_I eS15 o_a7
    have o_v0 := ob_I eS15 o_v0
    refine m_X4_side hI o_v0 hT (fun x17 S18 hJ g19 fc20 b_x17 p_x17 => ?_)
    have hT := p_x17
    have hI := hJ
    have l_a4 := (gr_len g19 o_a4).trans l_a4
    have d_x6 := d_x6.trans (fri_at fc20 (by decide) (by decide) o_a1).symm
    have d_y16 := d_y16.trans (fri_at fc20 (by decide) (by decide) o_a7).symm
    have ea1 := (frr_at fc20 (by decide) (by decide) o_v0).trans ea1
    have ea4 := (frr_at fc20 (by decide) (by decide) o_a1).trans ea4
    have f0 := fri_tr (S := S15) g0 f0 fc20 (by decide) (by decide)
    have o_a1 := gr_ob g19 o_a1
    have o_a4 := gr_ob g19 o_a4
    have o_a7 := gr_ob g19 o_a7
    have o_v0 := gr_ob g19 o_v0
    have g0 := gr_tr (T := S15) g0 g19
    intro _ _
    have bb_x17 : x17 = 0 ∨ x17 = 1 := b_x17
    refine ⟨fun c21 => ?_, fun c21 => ?_⟩
    · intro x22 ex22
      have d_x22 := ex22
      intro S23 eS23
      have hI : IV S23 := by rw [eS23]; exact iv_sI hI o_a7 (by decide) (nu_free (by decide))
      have f0 := fr_I eS23 g0 f0 o_a7 (by decide)
      have d_x6 := rd_Ik eS23 o_a7 o_a1 (by decide) d_x6
      have d_y16 := rd_Ij eS23 (by decide) d_y16
      have d_x22 := rd_Ik eS23 o_a7 o_v0 (by decide) d_x22
      obtain ⟨y24, hy24⟩ : ∃ z : Int32, z = x22 := ⟨_, rfl⟩
      have d_y24 := rd_Is eS23 hy24
      have ea1 := rf_I eS23 ea1
      have ea4 := rf_I eS23 ea4
      have hT := tx_I eS23 hT
      have l_a4 := ln_I eS23 l_a4
      have g0 := gr_I eS23 g0
      have o_a1 := ob_I eS23 o_a1
      have o_a4 := ob_I eS23 o_a4
      have o_a7 := ob_I eS23 o_a7
      have o_v0 := ob_I eS23 o_v0
      refine m_X4_whole hI o_v0 hT (fun x25 S26 hJ g27 fc28 b_x25 p_x25 => ?_)
      obtain ⟨hT, pf9_S26⟩ := p_x25
      have hI := hJ
      have l_a4 := (gr_len g27 o_a4).trans l_a4
      have d_x6 := d_x6.trans (fri_at fc28 (by decide) (by decide) o_a1).symm
      have d_y16 := d_y16.trans (fri_at fc28 (by decide) (by decide) o_a7).symm
      have d_y24 := d_y24.trans (fri_at fc28 (by decide) (by decide) o_a7).symm
      have ea1 := (frr_at fc28 (by decide) (by decide) o_v0).trans ea1
      have ea4 := (frr_at fc28 (by decide) (by decide) o_a1).trans ea4
      have f0 := fri_tr (S := S23) g0 f0 fc28 (by decide) (by decide)
      have o_a1 := gr_ob g27 o_a1
      have o_a4 := gr_ob g27 o_a4
      have o_a7 := gr_ob g27 o_a7
      have o_v0 := gr_ob g27 o_v0
      have g0 := gr_tr (T := S23) g0 g27
      obtain ⟨y29, d_y29⟩ : ∃ z : Int32, z = fI S26 v0 9 := ⟨_, rfl⟩
      have p_y29 : x25 = 1 → (1 : Int32) ≤ y29 ∧ y29 ≤ (60 : Int32) := by rw [d_y29]; exact pf9_S26
      intro _ _
      have bb_x25 : x25 = 0 ∨ x25 = 1 := b_x25
      refine ⟨fun c30 => ?_, fun c30 => ?_⟩
      · intro x31 ex31
        have q_x31 : x31 = y29 := ex31.trans d_y29.symm
        have d_x31 := ex31
        intro S32 eS32
        have hI : IV S32 := by rw [eS32]; exact iv_sI hI o_a7 (by decide) (nu_free (by decide))
        have f0 := fr_I eS32 g0 f0 o_a7 (by decide)
        have d_x6 := rd_Ik eS32 o_a7 o_a1 (by decide) d_x6
        have d_y16 := rd_Ij eS32 (by decide) d_y16
        have d_y24 := rd_Ij eS32 (by decide) d_y24
        have d_x31 := rd_Ik eS32 o_a7 o_v0 (by decide) d_x31
        obtain ⟨y33, hy33⟩ : ∃ z : Int32, z = x31 := ⟨_, rfl⟩
        have d_y33 := rd_Is eS32 hy33
        have ea1 := rf_I eS32 ea1
        have ea4 := rf_I eS32 ea4
        have hT := tx_I eS32 hT
        have l_a4 := ln_I eS32 l_a4
        have g0 := gr_I eS32 g0
        have o_a1 := ob_I eS32 o_a1
        have o_a4 := ob_I eS32 o_a4
        have o_a7 := ob_I eS32 o_a7
        have o_v0 := ob_I eS32 o_v0
        intro x34 ex34
        have q_x34 : x34 = y16 := ex34.trans d_y16.symm
        have d_x34 := ex34
        refine m_X4_placeBut hI o_v0 hT (fun x35 S36 hJ g37 fc38 b_x35 p_x35 => ?_)
        have hT := p_x35
        have hI := hJ
        have l_a4 := (gr_len g37 o_a4).trans l_a4
        have d_x6 := d_x6.trans (fri_at fc38 (by decide) (by decide) o_a1).symm
        have d_x34 := d_x34.trans (fri_at fc38 (by decide) (by decide) o_a7).symm
        have d_y24 := d_y24.trans (fri_at fc38 (by decide) (by decide) o_a7).symm
        have d_y33 := d_y33.trans (fri_at fc38 (by decide) (by decide) o_a7).symm
        have ea1 := (frr_at fc38 (by decide) (by decide) o_v0).trans ea1
        have ea4 := (frr_at fc38 (by decide) (by decide) o_a1).trans ea4
        have f0 := fri_tr (S := S32) g0 f0 fc38 (by decide) (by decide)
        have o_a1 := gr_ob g37 o_a1
        have o_a4 := gr_ob g37 o_a4
        have o_a7 := gr_ob g37 o_a7
        have o_v0 := gr_ob g37 o_v0
        have g0 := gr_tr (T := S32) g0 g37
        intro _ _
        have bb_x35 : x35 = 0 ∨ x35 = 1 := b_x35
        refine ⟨fun c39 => ?_, fun c39 => ?_⟩
        · intro x40 ex40
          have d_x40 := ex40
          intro S41 eS41
          have hI : IV S41 := by rw [eS41]; exact iv_sI hI o_a7 (by decide) (nu_free (by decide))
          have f0 := fr_I eS41 g0 f0 o_a7 (by decide)
          have d_x6 := rd_Ik eS41 o_a7 o_a1 (by decide) d_x6
          have d_x34 := rd_Ij eS41 (by decide) d_x34
          have d_y24 := rd_Ij eS41 (by decide) d_y24
          have d_y33 := rd_Ij eS41 (by decide) d_y33
          have d_x40 := rd_Ik eS41 o_a7 o_v0 (by decide) d_x40
          obtain ⟨y42, hy42⟩ : ∃ z : Int32, z = x40 := ⟨_, rfl⟩
          have d_y42 := rd_Is eS41 hy42
          have ea1 := rf_I eS41 ea1
          have ea4 := rf_I eS41 ea4
          have hT := tx_I eS41 hT
          have l_a4 := ln_I eS41 l_a4
          have g0 := gr_I eS41 g0
          have o_a1 := ob_I eS41 o_a1
          have o_a4 := ob_I eS41 o_a4
          have o_a7 := ob_I eS41 o_a7
          have o_v0 := ob_I eS41 o_v0
          intro S43 eS43
          have hI : IV S43 := by rw [eS43]; exact iv_sI hI o_a7 (by decide) (nu_free (by decide))
          have f0 := fr_I eS43 g0 f0 o_a7 (by decide)
          have d_x6 := rd_Ik eS43 o_a7 o_a1 (by decide) d_x6
          have d_x34 := rd_Ij eS43 (by decide) d_x34
          have d_y24 := rd_Ij eS43 (by decide) d_y24
          have d_y33 := rd_Ij eS43 (by decide) d_y33
          have d_x40 := rd_Ik eS43 o_a7 o_v0 (by decide) d_x40
          have d_y42 := rd_Ij eS43 (by decide) d_y42
          obtain ⟨y44, hy44⟩ : ∃ z : Int32, z = (0 : Int32) := ⟨_, rfl⟩
          have d_y44 := rd_Is eS43 hy44
          have ea1 := rf_I eS43 ea1
          have ea4 := rf_I eS43 ea4
          have hT := tx_I eS43 hT
          have l_a4 := ln_I eS43 l_a4
          have g0 := gr_I eS43 g0
          have o_a1 := ob_I eS43 o_a1
          have o_a4 := ob_I eS43 o_a4
          have o_a7 := ob_I eS43 o_a7
          have o_v0 := ob_I eS43 o_v0
          refine m_X4_is hI o_v0 (by decide) hT (fun x45 S46 hI2 g47 b_x45 p_x45 => ?_)
          subst p_x45
          intro _ _
          have bb_x45 : x45 = 0 ∨ x45 = 1 := b_x45
          refine ⟨fun c49 => ?_, fun c49 => ?_⟩
          · refine u_X4_roadLine_130 ?_
            refine ⟨o_v0, ?_⟩
            refine ⟨a1, ea1, ?_⟩
            refine ⟨o_a1, ?_⟩
            intro x51 ex51
            have r_x51 : (0 : Int32) ≤ x51 ∧ x51 ≤ (12 : Int32) := by rw [ex51]; exact nu 13 rfl hI o_a1
            have q_x51 : x51 = x6 := ex51.trans d_x6.symm
            have d_x51 := ex51
            intro x52 ex52
            intro S53 eS53
            have hI : IV S53 := by rw [eS53]; exact iv_sI hI o_a1 (by decide) (nu_one (lo := (0 : Int32)) (hi := (12 : Int32)) (by decide) (q213 hr_y2 r_y2 r_x6 q_x6 bb_x9 c13 bb_x17 c21 p_y29 bb_x25 c30 q_x31 hy33 bb_x35 c39 bb_x45 c49 r_x51 q_x51 ex52))
            have f0 := fr_I eS53 g0 f0 o_a1 (by decide)
            have d_x34 := rd_Ik eS53 o_a1 o_a7 (by decide) d_x34
            have d_y24 := rd_Ik eS53 o_a1 o_a7 (by decide) d_y24
            have d_y33 := rd_Ik eS53 o_a1 o_a7 (by decide) d_y33
            have d_x40 := rd_Ik eS53 o_a1 o_v0 (by decide) d_x40
            have d_y42 := rd_Ik eS53 o_a1 o_a7 (by decide) d_y42
            have d_y44 := rd_Ik eS53 o_a1 o_a7 (by decide) d_y44
            have d_x52 := rd_Is eS53 (rfl : x52 = x52)
            have ea1 := rf_I eS53 ea1
            have ea4 := rf_I eS53 ea4
            have hT := tx_I eS53 hT
            have l_a4 := ln_I eS53 l_a4
            have g0 := gr_I eS53 g0
            have o_a1 := ob_I eS53 o_a1
            have o_a4 := ob_I eS53 o_a4
            have o_a7 := ob_I eS53 o_a7
            have o_v0 := ob_I eS53 o_v0
            exact hq _ _ hI g0 f0 (Or.inr rfl) hT
          · intro x54 ex54
            have q_x54 : x54 = y33 := ex54.trans d_y33.symm
            have d_x54 := ex54
            refine m_X4_wordAndWhole hI o_v0 (by decide) hT (fun x55 S56 hJ g57 fc58 b_x55 p_x55 => ?_)
            obtain ⟨hT, pf9_S56⟩ := p_x55
            have hI := hJ
            have l_a4 := (gr_len g57 o_a4).trans l_a4
            have d_x6 := d_x6.trans (fri_at fc58 (by decide) (by decide) o_a1).symm
            have d_x34 := d_x34.trans (fri_at fc58 (by decide) (by decide) o_a7).symm
            have d_y24 := d_y24.trans (fri_at fc58 (by decide) (by decide) o_a7).symm
            have d_x54 := d_x54.trans (fri_at fc58 (by decide) (by decide) o_a7).symm
            have d_y42 := d_y42.trans (fri_at fc58 (by decide) (by decide) o_a7).symm
            have d_y44 := d_y44.trans (fri_at fc58 (by decide) (by decide) o_a7).symm
            have ea1 := (frr_at fc58 (by decide) (by decide) o_v0).trans ea1
            have ea4 := (frr_at fc58 (by decide) (by decide) o_a1).trans ea4
            have f0 := fri_tr (S := S43) g0 f0 fc58 (by decide) (by decide)
            have o_a1 := gr_ob g57 o_a1
            have o_a4 := gr_ob g57 o_a4
            have o_a7 := gr_ob g57 o_a7
            have o_v0 := gr_ob g57 o_v0
            have g0 := gr_tr (T := S43) g0 g57
            obtain ⟨y59, d_y59⟩ : ∃ z : Int32, z = fI S56 v0 9 := ⟨_, rfl⟩
            have p_y59 : x55 = 1 → (0 : Int32) ≤ y59 ∧ y59 ≤ x54 := by rw [d_y59]; exact pf9_S56
            intro _ _
            have bb_x55 : x55 = 0 ∨ x55 = 1 := b_x55
            refine ⟨fun c60 => ?_, fun c60 => ?_⟩
            · intro x61 ex61
              have q_x61 : x61 = y59 := ex61.trans d_y59.symm
              have d_x61 := ex61
              intro S62 eS62
              have hI : IV S62 := by rw [eS62]; exact iv_sI hI o_a7 (by decide) (nu_free (by decide))
              have f0 := fr_I eS62 g0 f0 o_a7 (by decide)
              have d_x6 := rd_Ik eS62 o_a7 o_a1 (by decide) d_x6
              have d_x34 := rd_Ij eS62 (by decide) d_x34
              have d_y24 := rd_Ij eS62 (by decide) d_y24
              have d_x54 := rd_Ij eS62 (by decide) d_x54
              have d_y42 := rd_Ij eS62 (by decide) d_y42
              have d_x61 := rd_Ik eS62 o_a7 o_v0 (by decide) d_x61
              obtain ⟨y63, hy63⟩ : ∃ z : Int32, z = x61 := ⟨_, rfl⟩
              have d_y63 := rd_Is eS62 hy63
              have ea1 := rf_I eS62 ea1
              have ea4 := rf_I eS62 ea4
              have hT := tx_I eS62 hT
              have l_a4 := ln_I eS62 l_a4
              have g0 := gr_I eS62 g0
              have o_a1 := ob_I eS62 o_a1
              have o_a4 := ob_I eS62 o_a4
              have o_a7 := ob_I eS62 o_a7
              have o_v0 := ob_I eS62 o_v0
              refine u_X4_roadLine_130 ?_
              refine ⟨o_v0, ?_⟩
              refine ⟨a1, ea1, ?_⟩
              refine ⟨o_a1, ?_⟩
              intro x65 ex65
              have r_x65 : (0 : Int32) ≤ x65 ∧ x65 ≤ (12 : Int32) := by rw [ex65]; exact nu 13 rfl hI o_a1
              have q_x65 : x65 = x6 := ex65.trans d_x6.symm
              have d_x65 := ex65
              intro x66 ex66
              intro S67 eS67
              have hI : IV S67 := by rw [eS67]; exact iv_sI hI o_a1 (by decide) (nu_one (lo := (0 : Int32)) (hi := (12 : Int32)) (by decide) (q214 hr_y2 r_y2 r_x6 q_x6 bb_x9 c13 bb_x17 c21 p_y29 bb_x25 c30 q_x31 hy33 bb_x35 c39 bb_x45 c49 q_x54 p_y59 bb_x55 c60 q_x61 hy63 r_x65 q_x65 ex66))
              have f0 := fr_I eS67 g0 f0 o_a1 (by decide)
              have d_x34 := rd_Ik eS67 o_a1 o_a7 (by decide) d_x34
              have d_y24 := rd_Ik eS67 o_a1 o_a7 (by decide) d_y24
              have d_x54 := rd_Ik eS67 o_a1 o_a7 (by decide) d_x54
              have d_y42 := rd_Ik eS67 o_a1 o_a7 (by decide) d_y42
              have d_x61 := rd_Ik eS67 o_a1 o_v0 (by decide) d_x61
              have d_y63 := rd_Ik eS67 o_a1 o_a7 (by decide) d_y63
              have d_x66 := rd_Is eS67 (rfl : x66 = x66)
              have ea1 := rf_I eS67 ea1
              have ea4 := rf_I eS67 ea4
              have hT := tx_I eS67 hT
              have l_a4 := ln_I eS67 l_a4
              have g0 := gr_I eS67 g0
              have o_a1 := ob_I eS67 o_a1
              have o_a4 := ob_I eS67 o_a4
              have o_a7 := ob_I eS67 o_a7
              have o_v0 := ob_I eS67 o_v0
              exact hq _ _ hI g0 f0 (Or.inr rfl) hT
            · exact hq _ _ hI g0 f0 (Or.inl rfl) hT
        · exact hq _ _ hI g0 f0 (Or.inl rfl) hT
      · exact hq _ _ hI g0 f0 (Or.inl rfl) hT
    · exact hq _ _ hI g0 f0 (Or.inl rfl) hT
  · exact hq _ _ hI g0 f0 (Or.inl rfl) hT
set_option maxHeartbeats 4000000 in
set_option maxRecDepth 20000 in
theorem m_X4_sign {v0 : Nat} {v1 : Int32} {Q : Int32 → HS → Prop} {S : HS} (hI : IV S) (o_v0 : ob S v0 4)    (hT : TX S v0) (hq : ∀ (r : Int32) (T : HS), IV T → Gr S T → FRI [(4, 0), (4, 1), (4, 4), (4, 6), (4, 7)] [] S T → bl r → (TX T v0) → Q r T) : P_X4_sign v0 v1 Q S := by
  have g0 := gr_rf S
  have f0 := fri_rf [(4, 0), (4, 1), (4, 4), (4, 6), (4, 7)] [] S
  refine u_X4_sign ?_
  refine u_X4_sign_0 ?_
  refine ⟨o_v0, ?_⟩
  intro x1 ex1
  have d_x1 := ex1
  refine ⟨fun c2 => ?_, fun c2 => ?_⟩
  · refine m_X4_next hI o_v0 hT (fun S4 hJ g5 fc6 p_S4 => ?_)
    have hT := p_S4
    have hI := hJ
    have f0 := fri_tr (S := S) g0 f0 fc6 (by decide) (by decide)
    have o_v0 := gr_ob g5 o_v0
    have g0 := gr_tr (T := S) g0 g5
    intro _
    exact hq _ _ hI g0 f0 (Or.inr rfl) hT
  · refine u_X4_fail ?_
    refine u_X4_fail_0 ?_
    refine ⟨o_v0, ?_⟩
    intro S7 eS7
    have hI : IV S7 := by rw [eS7]; exact iv_sI hI o_v0 (by decide) (nu_free (by decide))
    have f0 := fr_I eS7 g0 f0 o_v0 (by decide)
    have d_x1 := rd_Ij eS7 (by decide) d_x1
    obtain ⟨y8, hy8⟩ : ∃ z : Int32, z = (1 : Int32) := ⟨_, rfl⟩
    have d_y8 := rd_Is eS7 hy8
    have hT := tx_I eS7 hT
    have g0 := gr_I eS7 g0
    have o_v0 := ob_I eS7 o_v0
    intro x9 ex9
    have d_x9 := ex9
    intro S10 eS10
    have hI : IV S10 := by rw [eS10]; exact iv_sI hI o_v0 (by decide) (nu_free (by decide))
    have f0 := fr_I eS10 g0 f0 o_v0 (by decide)
    have d_x1 := rd_Ij eS10 (by decide) d_x1
    have d_y8 := rd_Ij eS10 (by decide) d_y8
    have d_x9 := rd_Ij eS10 (by decide) d_x9
    obtain ⟨y11, hy11⟩ : ∃ z : Int32, z = x9 := ⟨_, rfl⟩
    have d_y11 := rd_Is eS10 hy11
    have hT := tx_I eS10 hT
    have g0 := gr_I eS10 g0
    have o_v0 := ob_I eS10 o_v0
    intro _ _
    refine ⟨(Or.inl rfl), ?_⟩
    exact hq _ _ hI g0 f0 (Or.inl rfl) hT
set_option maxHeartbeats 4000000 in
set_option maxRecDepth 20000 in
theorem m_X4_someWalker {v0 : Nat} {Q : Int32 → HS → Prop} {S : HS} (hI : IV S) (o_v0 : ob S v0 4)    (hT : TX S v0) (hq : ∀ (r : Int32) (T : HS), IV T → Gr S T → FRI [(4, 0), (4, 1), (4, 4), (4, 6), (4, 7), (4, 9)] [] S T → bl r → (TX T v0) → Q r T) : P_X4_someWalker v0 Q S := by
  have g0 := gr_rf S
  have f0 := fri_rf [(4, 0), (4, 1), (4, 4), (4, 6), (4, 7), (4, 9)] [] S
  refine u_X4_someWalker ?_
  refine u_X4_someWalker_0 ?_
  refine ⟨o_v0, ?_⟩
  refine m_X4_canBeName hI o_v0 hT (fun x1 S2 hI2 g3 b_x1 p_x1 => ?_)
  subst p_x1
  intro _ _
  have bb_x1 : x1 = 0 ∨ x1 = 1 := b_x1
  refine ⟨fun c5 => ?_, fun c5 => ?_⟩
  · refine m_X4_findName hI o_v0 hT (fun x6 S7 hI2 g8 p_x6 => ?_)
    subst p_x6
    intro _
    refine ⟨fun c10 => ?_, fun c10 => ?_⟩
    · intro x11 ex11
      intro S12 eS12
      have hI : IV S12 := by rw [eS12]; exact iv_sI hI o_v0 (by decide) (nu_free (by decide))
      have f0 := fr_I eS12 g0 f0 o_v0 (by decide)
      have d_x11 := rd_Is eS12 (rfl : x11 = x11)
      have hT := tx_I eS12 hT
      have g0 := gr_I eS12 g0
      have o_v0 := ob_I eS12 o_v0
      refine m_X4_next hI o_v0 hT (fun S14 hJ g15 fc16 p_S14 => ?_)
      have hT := p_S14
      have hI := hJ
      have d_x11 := d_x11.trans (fri_at fc16 (by decide) (by decide) o_v0).symm
      have f0 := fri_tr (S := S12) g0 f0 fc16 (by decide) (by decide)
      have o_v0 := gr_ob g15 o_v0
      have g0 := gr_tr (T := S12) g0 g15
      intro _
      exact hq _ _ hI g0 f0 (Or.inr rfl) hT
    · refine u_X4_fail ?_
      refine u_X4_fail_0 ?_
      refine ⟨o_v0, ?_⟩
      intro S17 eS17
      have hI : IV S17 := by rw [eS17]; exact iv_sI hI o_v0 (by decide) (nu_free (by decide))
      have f0 := fr_I eS17 g0 f0 o_v0 (by decide)
      obtain ⟨y18, hy18⟩ : ∃ z : Int32, z = (2 : Int32) := ⟨_, rfl⟩
      have d_y18 := rd_Is eS17 hy18
      have hT := tx_I eS17 hT
      have g0 := gr_I eS17 g0
      have o_v0 := ob_I eS17 o_v0
      intro x19 ex19
      have d_x19 := ex19
      intro S20 eS20
      have hI : IV S20 := by rw [eS20]; exact iv_sI hI o_v0 (by decide) (nu_free (by decide))
      have f0 := fr_I eS20 g0 f0 o_v0 (by decide)
      have d_y18 := rd_Ij eS20 (by decide) d_y18
      have d_x19 := rd_Ij eS20 (by decide) d_x19
      obtain ⟨y21, hy21⟩ : ∃ z : Int32, z = x19 := ⟨_, rfl⟩
      have d_y21 := rd_Is eS20 hy21
      have hT := tx_I eS20 hT
      have g0 := gr_I eS20 g0
      have o_v0 := ob_I eS20 o_v0
      intro _ _
      refine ⟨(Or.inl rfl), ?_⟩
      exact hq _ _ hI g0 f0 (Or.inl rfl) hT
  · refine u_X4_fail ?_
    refine u_X4_fail_0 ?_
    refine ⟨o_v0, ?_⟩
    intro S23 eS23
    have hI : IV S23 := by rw [eS23]; exact iv_sI hI o_v0 (by decide) (nu_free (by decide))
    have f0 := fr_I eS23 g0 f0 o_v0 (by decide)
    obtain ⟨y24, hy24⟩ : ∃ z : Int32, z = (1 : Int32) := ⟨_, rfl⟩
    have d_y24 := rd_Is eS23 hy24
    have hT := tx_I eS23 hT
    have g0 := gr_I eS23 g0
    have o_v0 := ob_I eS23 o_v0
    intro x25 ex25
    have d_x25 := ex25
    intro S26 eS26
    have hI : IV S26 := by rw [eS26]; exact iv_sI hI o_v0 (by decide) (nu_free (by decide))
    have f0 := fr_I eS26 g0 f0 o_v0 (by decide)
    have d_y24 := rd_Ij eS26 (by decide) d_y24
    have d_x25 := rd_Ij eS26 (by decide) d_x25
    obtain ⟨y27, hy27⟩ : ∃ z : Int32, z = x25 := ⟨_, rfl⟩
    have d_y27 := rd_Is eS26 hy27
    have hT := tx_I eS26 hT
    have g0 := gr_I eS26 g0
    have o_v0 := ob_I eS26 o_v0
    intro _ _
    refine ⟨(Or.inl rfl), ?_⟩
    exact hq _ _ hI g0 f0 (Or.inl rfl) hT
end
section
set_option maxHeartbeats 4000000 in
set_option maxRecDepth 20000 in
theorem m_X4_seenLine {v0 : Nat} {Q : Int32 → HS → Prop} {S : HS} (hI : IV S) (o_v0 : ob S v0 4)   (hrm : RM S v0 5 4) (hT : TX S v0) (hq : ∀ (r : Int32) (T : HS), IV T → Gr S T → FRI [(4, 0), (4, 1), (4, 4), (4, 6), (4, 7), (4, 9), (8, 5)] [] S T → bl r → (TX T v0) → Q r T) : P_X4_seenLine v0 Q S := by
  have g0 := gr_rf S
  have f0 := fri_rf [(4, 0), (4, 1), (4, 4), (4, 6), (4, 7), (4, 9), (8, 5)] [] S
  obtain ⟨a1, ea1, o_a1, -⟩ := sh 12 rfl hI o_v0
  obtain ⟨y2, d_y2⟩ : ∃ z : Int32, z = fI S a1 5 := ⟨_, rfl⟩
  have hr_y2 : y2 < (4 : Int32) := by rw [d_y2]; exact hrm _ ea1
  have r_y2 : (0 : Int32) ≤ y2 ∧ y2 ≤ (4 : Int32) := by rw [d_y2]; exact nu 15 rfl hI o_a1
  refine u_X4_seenLine ?_
  refine u_X4_seenLine_0 ?_
  refine ⟨o_v0, ?_⟩
  refine m_X4_someWalker hI o_v0 hT (fun x3 S4 hJ g5 fc6 b_x3 p_x3 => ?_)
  have hT := p_x3
  have hI := hJ
  have d_y2 := d_y2.trans (fri_at fc6 (by decide) (by decide) o_a1).symm
  have ea1 := (frr_at fc6 (by decide) (by decide) o_v0).trans ea1
  have f0 := fri_tr (S := S) g0 f0 fc6 (by decide) (by decide)
  have o_a1 := gr_ob g5 o_a1
  have o_v0 := gr_ob g5 o_v0
  have g0 := gr_tr (T := S) g0 g5
  intro _ _
  have bb_x3 : x3 = 0 ∨ x3 = 1 := b_x3
  refine ⟨fun c7 => ?_, fun c7 => ?_⟩
  · refine ⟨a1, ea1, ?_⟩
    refine ⟨o_a1, ?_⟩
    obtain ⟨a9, ea9, o_a9, l_a9⟩ := shl 19 rfl hI o_a1
    refine ⟨a9, ea9, ?_⟩
    refine ⟨a1, ea1, ?_⟩
    refine ⟨o_a1, ?_⟩
    intro x11 ex11
    have r_x11 : (0 : Int32) ≤ x11 ∧ x11 ≤ (4 : Int32) := by rw [ex11]; exact nu 15 rfl hI o_a1
    have q_x11 : x11 = y2 := ex11.trans d_y2.symm
    have d_x11 := ex11
    intro x12 ex12
    have d_x12 := ex12
    refine ⟨o_a9, ?_⟩
    have i13 : vp_in x11 (hN _ a9) := (vin l_a9 (m := 4) (by decide) (q201 hr_y2 r_y2 bb_x3 c7 r_x11 q_x11))
    refine ⟨i13, ?_⟩
    intro S14 eS14
    have hI : IV S14 := by rw [eS14]; exact iv_aI hI o_a1 (by decide) ea9 o_a9 (by decide)
    have f0 := fr_A eS14 g0 f0 o_a9 (by decide)
    have d_x11 := rd_Ik eS14 o_a9 o_a1 (by decide) d_x11
    have d_x12 := rd_Ik eS14 o_a9 o_v0 (by decide) d_x12
    have ea1 := rf_I eS14 ea1
    have ea9 := rf_I eS14 ea9
    have hT := tx_I eS14 hT
    have l_a9 := ln_I eS14 l_a9
    have g0 := gr_I eS14 g0
    have o_a1 := ob_I eS14 o_a1
    have o_a9 := ob_I eS14 o_a9
    have o_v0 := ob_I eS14 o_v0
    refine i_X4_seenLine_30 (fun (y0 : Nat) (y1 : Int32) (Z : HS) => ((2147483647 : Int32).toInt - y1.toInt).toNat) (fun (y0 : Nat) (y1 : Int32) (Z : HS) => (IV Z) ∧ (Gr S14 Z) ∧ (FRI [(4, 0), (4, 1), (4, 4), (4, 6), (4, 7), (4, 9)] [] S14 Z) ∧ (v0 = y0) ∧ (TX Z v0) ∧ (0 ≤ y1)) ?_ _ _ _ ⟨hI, (gr_rf _), (fri_rf _ _ _), rfl, hT, (q202 bb_x3 c7)⟩
    intro w19 w21 S16 X22 ⟨hI, gL17, fL18, q20, hT, i1u15⟩ ih23
    subst q20
    have l_a9 := (gr_len gL17 o_a9).trans l_a9
    have d_x11 := d_x11.trans (fri_at fL18 (by decide) (by decide) o_a1).symm
    have ea1 := (frr_at fL18 (by decide) (by decide) o_v0).trans ea1
    have ea9 := (frr_at fL18 (by decide) (by decide) o_a1).trans ea9
    have f0 := fri_tr (S := S14) g0 f0 fL18 (by decide) (by decide)
    have o_a1 := gr_ob gL17 o_a1
    have o_a9 := gr_ob gL17 o_a9
    have o_v0 := gr_ob gL17 o_v0
    have g0 := gr_tr (T := S14) g0 gL17
    refine u_X4_seenLine_30 ?_
    refine ⟨fun c24 => ?_, fun c24 => ?_⟩
    · refine ⟨o_v0, ?_⟩
      refine ⟨a1, ea1, ?_⟩
      refine ⟨o_a1, ?_⟩
      intro x26 ex26
      have r_x26 : (0 : Int32) ≤ x26 ∧ x26 ≤ (4 : Int32) := by rw [ex26]; exact nu 15 rfl hI o_a1
      have q_x26 : x26 = x11 := ex26.trans d_x11.symm
      have d_x26 := ex26
      intro x27 ex27
      intro S28 eS28
      have hI : IV S28 := by rw [eS28]; exact iv_sI hI o_a1 (by decide) (nu_one (lo := (0 : Int32)) (hi := (4 : Int32)) (by decide) (q203 hr_y2 r_y2 bb_x3 c7 r_x11 q_x11 i1u15 c24 r_x26 q_x26 ex27))
      have f0 := fr_I eS28 g0 f0 o_a1 (by decide)
      have d_x27 := rd_Is eS28 (rfl : x27 = x27)
      have ea1 := rf_I eS28 ea1
      have ea9 := rf_I eS28 ea9
      have hT := tx_I eS28 hT
      have l_a9 := ln_I eS28 l_a9
      have g0 := gr_I eS28 g0
      have o_a1 := ob_I eS28 o_a1
      have o_a9 := ob_I eS28 o_a9
      have o_v0 := ob_I eS28 o_v0
      exact hq _ _ hI g0 f0 (Or.inr rfl) hT
    · refine ⟨fun c29 => ?_, fun c29 => ?_⟩
      · refine u_X4_seenLine_47 ?_
        refine ⟨o_v0, ?_⟩
        refine m_X4_whole hI o_v0 hT (fun x30 S31 hJ g32 fc33 b_x30 p_x30 => ?_)
        obtain ⟨hT, pf9_S31⟩ := p_x30
        have hI := hJ
        have l_a9 := (gr_len g32 o_a9).trans l_a9
        have d_x11 := d_x11.trans (fri_at fc33 (by decide) (by decide) o_a1).symm
        have ea1 := (frr_at fc33 (by decide) (by decide) o_v0).trans ea1
        have ea9 := (frr_at fc33 (by decide) (by decide) o_a1).trans ea9
        have f0 := fri_tr (S := S16) g0 f0 fc33 (by decide) (by decide)
        have fL18 := fri_tr (S := S16) gL17 fL18 fc33 (by decide) (by decide)
        have o_a1 := gr_ob g32 o_a1
        have o_a9 := gr_ob g32 o_a9
        have o_v0 := gr_ob g32 o_v0
        have g0 := gr_tr (T := S16) g0 g32
        have gL17 := gr_tr (T := S16) gL17 g32
        obtain ⟨y34, d_y34⟩ : ∃ z : Int32, z = fI S31 v0 9 := ⟨_, rfl⟩
        have p_y34 : x30 = 1 → (0 : Int32) ≤ y34 ∧ y34 ≤ (999 : Int32) := by rw [d_y34]; exact pf9_S31
        intro _ _
        have bb_x30 : x30 = 0 ∨ x30 = 1 := b_x30
        refine ⟨fun c35 => ?_, fun c35 => ?_⟩
        · refine ⟨a1, ea1, ?_⟩
          refine ⟨o_a1, ?_⟩
          obtain ⟨a37, ea37, o_a37, l_a37⟩ := shl 20 rfl hI o_a1
          refine ⟨a37, ea37, ?_⟩
          refine ⟨a1, ea1, ?_⟩
          refine ⟨o_a1, ?_⟩
          intro x39 ex39
          have r_x39 : (0 : Int32) ≤ x39 ∧ x39 ≤ (4 : Int32) := by rw [ex39]; exact nu 15 rfl hI o_a1
          have q_x39 : x39 = x11 := ex39.trans d_x11.symm
          have d_x39 := ex39
          intro x40 ex40
          have q_x40 : x40 = y34 := ex40.trans d_y34.symm
          have d_x40 := ex40
          refine ⟨o_a37, ?_⟩
          have i41 : vp_in ((x39 * (5 : Int32)) + w21) (hN _ a37) := (vin l_a37 (m := 20) (by decide) (q204 hr_y2 r_y2 bb_x3 c7 r_x11 q_x11 i1u15 c24 c29 p_y34 bb_x30 c35 r_x39 q_x39 q_x40))
          refine ⟨i41, ?_⟩
          intro S42 eS42
          have hI : IV S42 := by rw [eS42]; exact iv_aI hI o_a1 (by decide) ea37 o_a37 (by decide)
          have f0 := fr_A eS42 g0 f0 o_a37 (by decide)
          have fL18 := fr_A eS42 gL17 fL18 o_a37 (by decide)
          have d_x39 := rd_Ik eS42 o_a37 o_a1 (by decide) d_x39
          have d_x40 := rd_Ik eS42 o_a37 o_v0 (by decide) d_x40
          have ea1 := rf_I eS42 ea1
          have ea9 := rf_I eS42 ea9
          have ea37 := rf_I eS42 ea37
          have hT := tx_I eS42 hT
          have l_a37 := ln_I eS42 l_a37
          have l_a9 := ln_I eS42 l_a9
          have g0 := gr_I eS42 g0
          have gL17 := gr_I eS42 gL17
          have o_a1 := ob_I eS42 o_a1
          have o_a37 := ob_I eS42 o_a37
          have o_a9 := ob_I eS42 o_a9
          have o_v0 := ob_I eS42 o_v0
          intro x43 ex43
          exact ih23 _ _ _ ⟨hI, gL17, fL18, rfl, hT, (q205 bb_x3 c7 i1u15 c24 c29 p_y34 bb_x30 c35 q_x40 ex43)⟩ (mu_up (q206 bb_x3 c7 i1u15 c24 c29 p_y34 bb_x30 c35 q_x40 ex43) (q207 bb_x3 c7 i1u15 c24 c29 p_y34 bb_x30 c35 q_x40 ex43))
        · exact hq _ _ hI g0 f0 (Or.inl rfl) hT
      · refine ⟨o_v0, ?_⟩
        refine m_X4_sign hI o_v0 hT (fun x44 S45 hJ g46 fc47 b_x44 p_x44 => ?_)
        have hT := p_x44
        have hI := hJ
        have l_a9 := (gr_len g46 o_a9).trans l_a9
        have d_x11 := d_x11.trans (fri_at fc47 (by decide) (by decide) o_a1).symm
        have ea1 := (frr_at fc47 (by decide) (by decide) o_v0).trans ea1
        have ea9 := (frr_at fc47 (by decide) (by decide) o_a1).trans ea9
        have f0 := fri_tr (S := S16) g0 f0 fc47 (by decide) (by decide)
        have fL18 := fri_tr (S := S16) gL17 fL18 fc47 (by decide) (by decide)
        have o_a1 := gr_ob g46 o_a1
        have o_a9 := gr_ob g46 o_a9
        have o_v0 := gr_ob g46 o_v0
        have g0 := gr_tr (T := S16) g0 g46
        have gL17 := gr_tr (T := S16) gL17 g46
        intro _ _
        have bb_x44 : x44 = 0 ∨ x44 = 1 := b_x44
        refine ⟨fun c48 => ?_, fun c48 => ?_⟩
        · exact hq _ _ hI g0 f0 (Or.inl rfl) hT
        · refine u_X4_seenLine_47 ?_
          refine ⟨o_v0, ?_⟩
          refine m_X4_whole hI o_v0 hT (fun x49 S50 hJ g51 fc52 b_x49 p_x49 => ?_)
          obtain ⟨hT, pf9_S50⟩ := p_x49
          have hI := hJ
          have l_a9 := (gr_len g51 o_a9).trans l_a9
          have d_x11 := d_x11.trans (fri_at fc52 (by decide) (by decide) o_a1).symm
          have ea1 := (frr_at fc52 (by decide) (by decide) o_v0).trans ea1
          have ea9 := (frr_at fc52 (by decide) (by decide) o_a1).trans ea9
          have f0 := fri_tr (S := S45) g0 f0 fc52 (by decide) (by decide)
          have fL18 := fri_tr (S := S45) gL17 fL18 fc52 (by decide) (by decide)
          have o_a1 := gr_ob g51 o_a1
          have o_a9 := gr_ob g51 o_a9
          have o_v0 := gr_ob g51 o_v0
          have g0 := gr_tr (T := S45) g0 g51
          have gL17 := gr_tr (T := S45) gL17 g51
          obtain ⟨y53, d_y53⟩ : ∃ z : Int32, z = fI S50 v0 9 := ⟨_, rfl⟩
          have p_y53 : x49 = 1 → (0 : Int32) ≤ y53 ∧ y53 ≤ (999 : Int32) := by rw [d_y53]; exact pf9_S50
          intro _ _
          have bb_x49 : x49 = 0 ∨ x49 = 1 := b_x49
          refine ⟨fun c54 => ?_, fun c54 => ?_⟩
          · refine ⟨a1, ea1, ?_⟩
            refine ⟨o_a1, ?_⟩
            obtain ⟨a56, ea56, o_a56, l_a56⟩ := shl 20 rfl hI o_a1
            refine ⟨a56, ea56, ?_⟩
            refine ⟨a1, ea1, ?_⟩
            refine ⟨o_a1, ?_⟩
            intro x58 ex58
            have r_x58 : (0 : Int32) ≤ x58 ∧ x58 ≤ (4 : Int32) := by rw [ex58]; exact nu 15 rfl hI o_a1
            have q_x58 : x58 = x11 := ex58.trans d_x11.symm
            have d_x58 := ex58
            intro x59 ex59
            have q_x59 : x59 = y53 := ex59.trans d_y53.symm
            have d_x59 := ex59
            refine ⟨o_a56, ?_⟩
            have i60 : vp_in ((x58 * (5 : Int32)) + w21) (hN _ a56) := (vin l_a56 (m := 20) (by decide) (q208 hr_y2 r_y2 bb_x3 c7 r_x11 q_x11 i1u15 c24 c29 bb_x44 c48 p_y53 bb_x49 c54 r_x58 q_x58 q_x59))
            refine ⟨i60, ?_⟩
            intro S61 eS61
            have hI : IV S61 := by rw [eS61]; exact iv_aI hI o_a1 (by decide) ea56 o_a56 (by decide)
            have f0 := fr_A eS61 g0 f0 o_a56 (by decide)
            have fL18 := fr_A eS61 gL17 fL18 o_a56 (by decide)
            have d_x58 := rd_Ik eS61 o_a56 o_a1 (by decide) d_x58
            have d_x59 := rd_Ik eS61 o_a56 o_v0 (by decide) d_x59
            have ea1 := rf_I eS61 ea1
            have ea9 := rf_I eS61 ea9
            have ea56 := rf_I eS61 ea56
            have hT := tx_I eS61 hT
            have l_a56 := ln_I eS61 l_a56
            have l_a9 := ln_I eS61 l_a9
            have g0 := gr_I eS61 g0
            have gL17 := gr_I eS61 gL17
            have o_a1 := ob_I eS61 o_a1
            have o_a56 := ob_I eS61 o_a56
            have o_a9 := ob_I eS61 o_a9
            have o_v0 := ob_I eS61 o_v0
            intro x62 ex62
            exact ih23 _ _ _ ⟨hI, gL17, fL18, rfl, hT, (q209 bb_x3 c7 i1u15 c24 c29 bb_x44 c48 p_y53 bb_x49 c54 q_x59 ex62)⟩ (mu_up (q210 bb_x3 c7 i1u15 c24 c29 bb_x44 c48 p_y53 bb_x49 c54 q_x59 ex62) (q211 bb_x3 c7 i1u15 c24 c29 bb_x44 c48 p_y53 bb_x49 c54 q_x59 ex62))
          · exact hq _ _ hI g0 f0 (Or.inl rfl) hT
  · exact hq _ _ hI g0 f0 (Or.inl rfl) hT
set_option maxHeartbeats 4000000 in
set_option maxRecDepth 20000 in
theorem m_X4_walkerLine {v0 : Nat} {Q : Int32 → HS → Prop} {S : HS} (hI : IV S) (o_v0 : ob S v0 4)   (hrm : RM S v0 4 4) (hT : TX S v0) (hq : ∀ (r : Int32) (T : HS), IV T → Gr S T → FRI [(4, 0), (4, 1), (4, 4), (4, 6), (4, 7), (4, 9), (4, 10), (6, 0), (6, 1), (6, 2), (6, 3), (6, 4), (6, 5), (6, 6), (8, 4)] [] S T → bl r → (TX T v0) → Q r T) : P_X4_walkerLine v0 Q S := by
  have g0 := gr_rf S
  have f0 := fri_rf [(4, 0), (4, 1), (4, 4), (4, 6), (4, 7), (4, 9), (4, 10), (6, 0), (6, 1), (6, 2), (6, 3), (6, 4), (6, 5), (6, 6), (8, 4)] [] S
  obtain ⟨a1, ea1, o_a1, -⟩ := sh 12 rfl hI o_v0
  obtain ⟨y2, d_y2⟩ : ∃ z : Int32, z = fI S a1 4 := ⟨_, rfl⟩
  have hr_y2 : y2 < (4 : Int32) := by rw [d_y2]; exact hrm _ ea1
  have r_y2 : (0 : Int32) ≤ y2 ∧ y2 ≤ (4 : Int32) := by rw [d_y2]; exact nu 14 rfl hI o_a1
  refine u_X4_walkerLine ?_
  refine u_X4_walkerLine_0 ?_
  refine ⟨o_v0, ?_⟩
  refine ⟨a1, ea1, ?_⟩
  refine ⟨o_a1, ?_⟩
  obtain ⟨a4, ea4, o_a4, l_a4⟩ := shl 18 rfl hI o_a1
  refine ⟨a4, ea4, ?_⟩
  refine ⟨a1, ea1, ?_⟩
  refine ⟨o_a1, ?_⟩
  intro x6 ex6
  have r_x6 : (0 : Int32) ≤ x6 ∧ x6 ≤ (4 : Int32) := by rw [ex6]; exact nu 14 rfl hI o_a1
  have q_x6 : x6 = y2 := ex6.trans d_y2.symm
  have d_x6 := ex6
  refine ⟨o_a4, ?_⟩
  have i8 : vp_in x6 (hN _ a4) := (vin l_a4 (m := 4) (by decide) (q197 hr_y2 r_y2 r_x6 q_x6))
  obtain ⟨a7, ea7, o_a7⟩ := ae hI o_a4 (by decide) (by decide) i8
  replace o_a7 : ob _ a7 6 := o_a7
  refine ⟨i8, a7, ea7, ?_⟩
  refine ⟨a1, ea1, ?_⟩
  refine ⟨o_a1, ?_⟩
  intro x10 ex10
  have r_x10 : (0 : Int32) ≤ x10 ∧ x10 ≤ (4 : Int32) := by rw [ex10]; exact nu 14 rfl hI o_a1
  have q_x10 : x10 = x6 := ex10.trans d_x6.symm
  have d_x10 := ex10
  refine m_X4_newName hI o_v0 hT (fun x11 S12 hJ g13 fc14 b_x11 p_x11 => ?_)
  have hT := p_x11
  have hI := hJ
  have l_a4 := (gr_len g13 o_a4).trans l_a4
  have d_x10 := d_x10.trans (fri_at fc14 (by decide) (by decide) o_a1).symm
  have ea1 := (frr_at fc14 (by decide) (by decide) o_v0).trans ea1
  have ea4 := (frr_at fc14 (by decide) (by decide) o_a1).trans ea4
  have f0 := fri_tr (S := S) g0 f0 fc14 (by decide) (by decide)
  have o_a1 := gr_ob g13 o_a1
  have o_a4 := gr_ob g13 o_a4
  have o_a7 := gr_ob g13 o_a7
  have o_v0 := gr_ob g13 o_v0
  have g0 := gr_tr (T := S) g0 g13
  intro _ _
  have bb_x11 : x11 = 0 ∨ x11 = 1 := b_x11
  refine ⟨fun c15 => ?_, fun c15 => ?_⟩
  · exact hq _ _ hI g0 f0 (Or.inl rfl) hT
  · refine m_X4_kindOf hI o_v0 o_a7 hT (fun x16 S17 hJ g18 fc19 b_x16 p_x16 => ?_)
    have hT := p_x16
    have hI := hJ
    have l_a4 := (gr_len g18 o_a4).trans l_a4
    have d_x10 := d_x10.trans (fri_at fc19 (by decide) (by decide) o_a1).symm
    have ea1 := (frr_at fc19 (by decide) (by decide) o_v0).trans ea1
    have ea4 := (frr_at fc19 (by decide) (by decide) o_a1).trans ea4
    have f0 := fri_tr (S := S12) g0 f0 fc19 (by decide) (by decide)
    have o_a1 := gr_ob g18 o_a1
    have o_a4 := gr_ob g18 o_a4
    have o_a7 := gr_ob g18 o_a7
    have o_v0 := gr_ob g18 o_v0
    have g0 := gr_tr (T := S12) g0 g18
    intro _ _
    have bb_x16 : x16 = 0 ∨ x16 = 1 := b_x16
    refine ⟨fun c20 => ?_, fun c20 => ?_⟩
    · exact hq _ _ hI g0 f0 (Or.inl rfl) hT
    · refine m_X4_bodyOf hI o_v0 o_a7 hT (fun x21 S22 hJ g23 fc24 b_x21 p_x21 => ?_)
      have hT := p_x21
      have hI := hJ
      have l_a4 := (gr_len g23 o_a4).trans l_a4
      have d_x10 := d_x10.trans (fri_at fc24 (by decide) (by decide) o_a1).symm
      have ea1 := (frr_at fc24 (by decide) (by decide) o_v0).trans ea1
      have ea4 := (frr_at fc24 (by decide) (by decide) o_a1).trans ea4
      have f0 := fri_tr (S := S17) g0 f0 fc24 (by decide) (by decide)
      have o_a1 := gr_ob g23 o_a1
      have o_a4 := gr_ob g23 o_a4
      have o_a7 := gr_ob g23 o_a7
      have o_v0 := gr_ob g23 o_v0
      have g0 := gr_tr (T := S17) g0 g23
      intro _ _
      have bb_x21 : x21 = 0 ∨ x21 = 1 := b_x21
      refine ⟨fun c25 => ?_, fun c25 => ?_⟩
      · refine m_X4_wordAndWhole hI o_v0 (by decide) hT (fun x26 S27 hJ g28 fc29 b_x26 p_x26 => ?_)
        obtain ⟨hT, pf9_S27⟩ := p_x26
        have hI := hJ
        have l_a4 := (gr_len g28 o_a4).trans l_a4
        have d_x10 := d_x10.trans (fri_at fc29 (by decide) (by decide) o_a1).symm
        have ea1 := (frr_at fc29 (by decide) (by decide) o_v0).trans ea1
        have ea4 := (frr_at fc29 (by decide) (by decide) o_a1).trans ea4
        have f0 := fri_tr (S := S22) g0 f0 fc29 (by decide) (by decide)
        have o_a1 := gr_ob g28 o_a1
        have o_a4 := gr_ob g28 o_a4
        have o_a7 := gr_ob g28 o_a7
        have o_v0 := gr_ob g28 o_v0
        have g0 := gr_tr (T := S22) g0 g28
        obtain ⟨y30, d_y30⟩ : ∃ z : Int32, z = fI S27 v0 9 := ⟨_, rfl⟩
        have p_y30 : x26 = 1 → (1 : Int32) ≤ y30 ∧ y30 ≤ (9 : Int32) := by rw [d_y30]; exact pf9_S27
        intro _ _
        have bb_x26 : x26 = 0 ∨ x26 = 1 := b_x26
        refine ⟨fun c31 => ?_, fun c31 => ?_⟩
        · intro x32 ex32
          have q_x32 : x32 = y30 := ex32.trans d_y30.symm
          have d_x32 := ex32
          refine ⟨o_a7, ?_⟩
          intro S33 eS33
          have hI : IV S33 := by rw [eS33]; exact iv_sI hI o_a7 (by decide) (nu_one (lo := (0 : Int32)) (hi := (9 : Int32)) (by decide) (q198 bb_x11 c15 bb_x16 c20 bb_x21 c25 p_y30 bb_x26 c31 q_x32))
          have f0 := fr_I eS33 g0 f0 o_a7 (by decide)
          have d_x10 := rd_Ik eS33 o_a7 o_a1 (by decide) d_x10
          have d_x32 := rd_Ik eS33 o_a7 o_v0 (by decide) d_x32
          obtain ⟨y34, hy34⟩ : ∃ z : Int32, z = x32 := ⟨_, rfl⟩
          have d_y34 := rd_Is eS33 hy34
          have ea1 := rf_I eS33 ea1
          have ea4 := rf_I eS33 ea4
          have hT := tx_I eS33 hT
          have l_a4 := ln_I eS33 l_a4
          have g0 := gr_I eS33 g0
          have o_a1 := ob_I eS33 o_a1
          have o_a4 := ob_I eS33 o_a4
          have o_a7 := ob_I eS33 o_a7
          have o_v0 := ob_I eS33 o_v0
          intro x35 ex35
          have r_x35 : (0 : Int32) ≤ x35 ∧ x35 ≤ (9 : Int32) := by rw [ex35]; exact nu 4 rfl hI o_a7
          have q_x35 : x35 = y34 := ex35.trans d_y34.symm
          have d_x35 := ex35
          refine m_X4_wordAndWhole hI o_v0 (by decide) hT (fun x36 S37 hJ g38 fc39 b_x36 p_x36 => ?_)
          obtain ⟨hT, pf9_S37⟩ := p_x36
          have hI := hJ
          have l_a4 := (gr_len g38 o_a4).trans l_a4
          have d_x10 := d_x10.trans (fri_at fc39 (by decide) (by decide) o_a1).symm
          have d_x35 := d_x35.trans (fri_at fc39 (by decide) (by decide) o_a7).symm
          have ea1 := (frr_at fc39 (by decide) (by decide) o_v0).trans ea1
          have ea4 := (frr_at fc39 (by decide) (by decide) o_a1).trans ea4
          have f0 := fri_tr (S := S33) g0 f0 fc39 (by decide) (by decide)
          have o_a1 := gr_ob g38 o_a1
          have o_a4 := gr_ob g38 o_a4
          have o_a7 := gr_ob g38 o_a7
          have o_v0 := gr_ob g38 o_v0
          have g0 := gr_tr (T := S33) g0 g38
          obtain ⟨y40, d_y40⟩ : ∃ z : Int32, z = fI S37 v0 9 := ⟨_, rfl⟩
          have p_y40 : x36 = 1 → x35 ≤ y40 ∧ y40 ≤ (9 : Int32) := by rw [d_y40]; exact pf9_S37
          intro _ _
          have bb_x36 : x36 = 0 ∨ x36 = 1 := b_x36
          refine ⟨fun c41 => ?_, fun c41 => ?_⟩
          · intro x42 ex42
            have q_x42 : x42 = y40 := ex42.trans d_y40.symm
            have d_x42 := ex42
            intro S43 eS43
            have hI : IV S43 := by rw [eS43]; exact iv_sI hI o_a7 (by decide) (nu_one (lo := (0 : Int32)) (hi := (9 : Int32)) (by decide) (q199 bb_x11 c15 bb_x16 c20 bb_x21 c25 p_y30 bb_x26 c31 q_x32 hy34 r_x35 q_x35 p_y40 bb_x36 c41 q_x42))
            have f0 := fr_I eS43 g0 f0 o_a7 (by decide)
            have d_x10 := rd_Ik eS43 o_a7 o_a1 (by decide) d_x10
            have d_x35 := rd_Ij eS43 (by decide) d_x35
            have d_x42 := rd_Ik eS43 o_a7 o_v0 (by decide) d_x42
            obtain ⟨y44, hy44⟩ : ∃ z : Int32, z = x42 := ⟨_, rfl⟩
            have d_y44 := rd_Is eS43 hy44
            have ea1 := rf_I eS43 ea1
            have ea4 := rf_I eS43 ea4
            have hT := tx_I eS43 hT
            have l_a4 := ln_I eS43 l_a4
            have g0 := gr_I eS43 g0
            have o_a1 := ob_I eS43 o_a1
            have o_a4 := ob_I eS43 o_a4
            have o_a7 := ob_I eS43 o_a7
            have o_v0 := ob_I eS43 o_v0
            refine ⟨a1, ea1, ?_⟩
            refine ⟨o_a1, ?_⟩
            intro x46 ex46
            have r_x46 : (0 : Int32) ≤ x46 ∧ x46 ≤ (4 : Int32) := by rw [ex46]; exact nu 14 rfl hI o_a1
            have q_x46 : x46 = x10 := ex46.trans d_x10.symm
            have d_x46 := ex46
            intro x47 ex47
            intro S48 eS48
            have hI : IV S48 := by rw [eS48]; exact iv_sI hI o_a1 (by decide) (nu_one (lo := (0 : Int32)) (hi := (4 : Int32)) (by decide) (q200 hr_y2 r_y2 r_x6 q_x6 r_x10 q_x10 bb_x11 c15 bb_x16 c20 bb_x21 c25 p_y30 bb_x26 c31 q_x32 hy34 r_x35 q_x35 p_y40 bb_x36 c41 q_x42 hy44 r_x46 q_x46 ex47))
            have f0 := fr_I eS48 g0 f0 o_a1 (by decide)
            have d_x35 := rd_Ik eS48 o_a1 o_a7 (by decide) d_x35
            have d_x42 := rd_Ik eS48 o_a1 o_v0 (by decide) d_x42
            have d_y44 := rd_Ik eS48 o_a1 o_a7 (by decide) d_y44
            have d_x47 := rd_Is eS48 (rfl : x47 = x47)
            have ea1 := rf_I eS48 ea1
            have ea4 := rf_I eS48 ea4
            have hT := tx_I eS48 hT
            have l_a4 := ln_I eS48 l_a4
            have g0 := gr_I eS48 g0
            have o_a1 := ob_I eS48 o_a1
            have o_a4 := ob_I eS48 o_a4
            have o_a7 := ob_I eS48 o_a7
            have o_v0 := ob_I eS48 o_v0
            exact hq _ _ hI g0 f0 (Or.inr rfl) hT
          · exact hq _ _ hI g0 f0 (Or.inl rfl) hT
        · exact hq _ _ hI g0 f0 (Or.inl rfl) hT
      · exact hq _ _ hI g0 f0 (Or.inl rfl) hT
set_option maxHeartbeats 4000000 in
set_option maxRecDepth 20000 in
theorem m_X4_worldLine {v0 : Nat} {Q : Int32 → HS → Prop} {S : HS} (hI : IV S) (o_v0 : ob S v0 4)    (hT : TX S v0) (hq : ∀ (r : Int32) (T : HS), IV T → Gr S T → FRI [(4, 0), (4, 1), (4, 4), (4, 6), (4, 7), (4, 9), (8, 0)] [] S T → bl r → (TX T v0) → Q r T) : P_X4_worldLine v0 Q S := by
  have g0 := gr_rf S
  have f0 := fri_rf [(4, 0), (4, 1), (4, 4), (4, 6), (4, 7), (4, 9), (8, 0)] [] S
  refine u_X4_worldLine ?_
  refine u_X4_worldLine_0 ?_
  refine ⟨o_v0, ?_⟩
  obtain ⟨a1, ea1, o_a1, -⟩ := sh 12 rfl hI o_v0
  refine ⟨a1, ea1, ?_⟩
  refine ⟨o_a1, ?_⟩
  refine m_X8_isTold hI o_a1 (fun x2 S3 hI2 g4 b_x2 p_x2 => ?_)
  subst p_x2
  intro _ _
  have bb_x2 : x2 = 0 ∨ x2 = 1 := b_x2
  refine ⟨fun c6 => ?_, fun c6 => ?_⟩
  · refine m_X4_next hI o_v0 hT (fun S8 hJ g9 fc10 p_S8 => ?_)
    have hT := p_S8
    have hI := hJ
    have ea1 := (frr_at fc10 (by decide) (by decide) o_v0).trans ea1
    have f0 := fri_tr (S := S) g0 f0 fc10 (by decide) (by decide)
    have o_a1 := gr_ob g9 o_a1
    have o_v0 := gr_ob g9 o_v0
    have g0 := gr_tr (T := S) g0 g9
    intro _
    refine m_X4_wordAndWhole hI o_v0 (by decide) hT (fun x11 S12 hJ g13 fc14 b_x11 p_x11 => ?_)
    obtain ⟨hT, pf9_S12⟩ := p_x11
    have hI := hJ
    have ea1 := (frr_at fc14 (by decide) (by decide) o_v0).trans ea1
    have f0 := fri_tr (S := S8) g0 f0 fc14 (by decide) (by decide)
    have o_a1 := gr_ob g13 o_a1
    have o_v0 := gr_ob g13 o_v0
    have g0 := gr_tr (T := S8) g0 g13
    obtain ⟨y15, d_y15⟩ : ∃ z : Int32, z = fI S12 v0 9 := ⟨_, rfl⟩
    have p_y15 : x11 = 1 → (5 : Int32) ≤ y15 ∧ y15 ≤ (60 : Int32) := by rw [d_y15]; exact pf9_S12
    intro _ _
    have bb_x11 : x11 = 0 ∨ x11 = 1 := b_x11
    refine ⟨fun c16 => ?_, fun c16 => ?_⟩
    · refine ⟨a1, ea1, ?_⟩
      intro x18 ex18
      have q_x18 : x18 = y15 := ex18.trans d_y15.symm
      have d_x18 := ex18
      refine ⟨o_a1, ?_⟩
      intro S19 eS19
      have hI : IV S19 := by rw [eS19]; exact iv_sI hI o_a1 (by decide) (nu_one (lo := (0 : Int32)) (hi := (60 : Int32)) (by decide) (q190 bb_x2 c6 p_y15 bb_x11 c16 q_x18))
      have f0 := fr_I eS19 g0 f0 o_a1 (by decide)
      have d_x18 := rd_Ik eS19 o_a1 o_v0 (by decide) d_x18
      obtain ⟨y20, hy20⟩ : ∃ z : Int32, z = x18 := ⟨_, rfl⟩
      have d_y20 := rd_Is eS19 hy20
      have ea1 := rf_I eS19 ea1
      have hT := tx_I eS19 hT
      have g0 := gr_I eS19 g0
      have o_a1 := ob_I eS19 o_a1
      have o_v0 := ob_I eS19 o_v0
      exact hq _ _ hI g0 f0 (Or.inr rfl) hT
    · exact hq _ _ hI g0 f0 (Or.inl rfl) hT
  · refine u_X4_fail ?_
    refine u_X4_fail_0 ?_
    refine ⟨o_v0, ?_⟩
    intro S21 eS21
    have hI : IV S21 := by rw [eS21]; exact iv_sI hI o_v0 (by decide) (nu_free (by decide))
    have f0 := fr_I eS21 g0 f0 o_v0 (by decide)
    obtain ⟨y22, hy22⟩ : ∃ z : Int32, z = (3 : Int32) := ⟨_, rfl⟩
    have d_y22 := rd_Is eS21 hy22
    have ea1 := rf_I eS21 ea1
    have hT := tx_I eS21 hT
    have g0 := gr_I eS21 g0
    have o_a1 := ob_I eS21 o_a1
    have o_v0 := ob_I eS21 o_v0
    intro x23 ex23
    have d_x23 := ex23
    intro S24 eS24
    have hI : IV S24 := by rw [eS24]; exact iv_sI hI o_v0 (by decide) (nu_free (by decide))
    have f0 := fr_I eS24 g0 f0 o_v0 (by decide)
    have d_y22 := rd_Ij eS24 (by decide) d_y22
    have d_x23 := rd_Ij eS24 (by decide) d_x23
    obtain ⟨y25, hy25⟩ : ∃ z : Int32, z = x23 := ⟨_, rfl⟩
    have d_y25 := rd_Is eS24 hy25
    have ea1 := rf_I eS24 ea1
    have hT := tx_I eS24 hT
    have g0 := gr_I eS24 g0
    have o_a1 := ob_I eS24 o_a1
    have o_v0 := ob_I eS24 o_v0
    intro _ _
    refine ⟨(Or.inl rfl), ?_⟩
    exact hq _ _ hI g0 f0 (Or.inl rfl) hT
set_option maxHeartbeats 4000000 in
set_option maxRecDepth 20000 in
theorem m_X4_read {v0 : Nat} {v1 : Nat} {v2 : Int32} {Q : Int32 → HS → Prop} {S : HS} (hI : IV S) (o_v0 : ob S v0 4) (o_v1 : ob S v1 12) (l_v1 : hN S v1 = 900)  (h2 : 0 ≤ v2)  (hq : ∀ (r : Int32) (T : HS), IV T → Gr S T → FRI [(3, 0), (3, 1), (3, 2), (3, 3), (3, 4), (4, 0), (4, 1), (4, 3), (4, 4), (4, 6), (4, 7), (4, 9), (4, 10), (5, 0), (5, 1), (5, 2), (5, 3), (5, 4), (6, 0), (6, 1), (6, 2), (6, 3), (6, 4), (6, 5), (6, 6), (8, 0), (8, 1), (8, 2), (8, 3), (8, 4), (8, 5)] [(4, 2)] S T → bl r → Q r T) : P_X4_read v0 v1 v2 Q S := by
  have g0 := gr_rf S
  have f0 := fri_rf [(3, 0), (3, 1), (3, 2), (3, 3), (3, 4), (4, 0), (4, 1), (4, 3), (4, 4), (4, 6), (4, 7), (4, 9), (4, 10), (5, 0), (5, 1), (5, 2), (5, 3), (5, 4), (6, 0), (6, 1), (6, 2), (6, 3), (6, 4), (6, 5), (6, 6), (8, 0), (8, 1), (8, 2), (8, 3), (8, 4), (8, 5)] [(4, 2)] S
  refine u_X4_read ?_
  refine u_X4_read_0 ?_
  refine ⟨o_v0, ?_⟩
  refine m_X4_open hI o_v0 o_v1 l_v1 (q81 h2) (fun S2 hJ g3 fc4 p_S2 => ?_)
  have hI := hJ
  have l_v1 := (gr_len g3 o_v1).trans l_v1
  have f0 := fri_tr (S := S) g0 f0 fc4 (by decide) (by decide)
  have o_v0 := gr_ob g3 o_v0
  have o_v1 := gr_ob g3 o_v1
  have g0 := gr_tr (T := S) g0 g3
  intro _
  have hT := p_S2
  refine i_X4_read_8 (fun (y0 : Nat) (y3 : Int32) (Z : HS) => ((2147483647 : Int32).toInt - y3.toInt).toNat) (fun (y0 : Nat) (y3 : Int32) (Z : HS) => (IV Z) ∧ (Gr S2 Z) ∧ (FRI [(3, 0), (3, 1), (3, 2), (3, 3), (3, 4), (4, 0), (4, 1), (4, 4), (4, 6), (4, 7), (4, 9), (4, 10), (5, 0), (5, 1), (5, 2), (5, 3), (5, 4), (6, 0), (6, 1), (6, 2), (6, 3), (6, 4), (6, 5), (6, 6), (8, 0), (8, 1), (8, 2), (8, 3), (8, 4), (8, 5)] [] S2 Z) ∧ (v0 = y0) ∧ (TX Z v0) ∧ (0 ≤ y3)) ?_ _ _ _ ⟨hI, (gr_rf _), (fri_rf _ _ _), rfl, hT, (q82)⟩
  intro w9 w11 S6 X12 ⟨hI, gL7, fL8, q10, hT, i1u5⟩ ih13
  subst q10
  have l_v1 := (gr_len gL7 o_v1).trans l_v1
  have f0 := fri_tr (S := S2) g0 f0 fL8 (by decide) (by decide)
  have o_v0 := gr_ob gL7 o_v0
  have o_v1 := gr_ob gL7 o_v1
  have g0 := gr_tr (T := S2) g0 gL7
  refine u_X4_read_8 ?_
  refine ⟨fun c14 => ?_, fun c14 => ?_⟩
  · refine ⟨o_v0, ?_⟩
    refine u_X4_fail ?_
    refine u_X4_fail_0 ?_
    refine ⟨o_v0, ?_⟩
    intro S15 eS15
    have hI : IV S15 := by rw [eS15]; exact iv_sI hI o_v0 (by decide) (nu_free (by decide))
    have f0 := fr_I eS15 g0 f0 o_v0 (by decide)
    obtain ⟨y16, hy16⟩ : ∃ z : Int32, z = (1 : Int32) := ⟨_, rfl⟩
    have d_y16 := rd_Is eS15 hy16
    have hT := tx_I eS15 hT
    have l_v1 := ln_I eS15 l_v1
    have g0 := gr_I eS15 g0
    have o_v0 := ob_I eS15 o_v0
    have o_v1 := ob_I eS15 o_v1
    intro x17 ex17
    have d_x17 := ex17
    intro S18 eS18
    have hI : IV S18 := by rw [eS18]; exact iv_sI hI o_v0 (by decide) (nu_free (by decide))
    have f0 := fr_I eS18 g0 f0 o_v0 (by decide)
    have d_y16 := rd_Ij eS18 (by decide) d_y16
    have d_x17 := rd_Ij eS18 (by decide) d_x17
    obtain ⟨y19, hy19⟩ : ∃ z : Int32, z = x17 := ⟨_, rfl⟩
    have d_y19 := rd_Is eS18 hy19
    have hT := tx_I eS18 hT
    have l_v1 := ln_I eS18 l_v1
    have g0 := gr_I eS18 g0
    have o_v0 := ob_I eS18 o_v0
    have o_v1 := ob_I eS18 o_v1
    intro _ _
    refine ⟨(Or.inl rfl), ?_⟩
    exact hq _ _ hI g0 f0 (Or.inl rfl)
  · refine ⟨o_v0, ?_⟩
    refine m_X4_is hI o_v0 (by decide) hT (fun x21 S22 hI2 g23 b_x21 p_x21 => ?_)
    subst p_x21
    intro _ _
    have bb_x21 : x21 = 0 ∨ x21 = 1 := b_x21
    refine ⟨fun c25 => ?_, fun c25 => ?_⟩
    · refine m_X4_is hI o_v0 (by decide) hT (fun x26 S27 hI2 g28 b_x26 p_x26 => ?_)
      subst p_x26
      intro _ _
      have bb_x26 : x26 = 0 ∨ x26 = 1 := b_x26
      refine ⟨fun c30 => ?_, fun c30 => ?_⟩
      · refine m_X4_is hI o_v0 (by decide) hT (fun x31 S32 hI2 g33 b_x31 p_x31 => ?_)
        subst p_x31
        intro _ _
        have bb_x31 : x31 = 0 ∨ x31 = 1 := b_x31
        refine ⟨fun c35 => ?_, fun c35 => ?_⟩
        · refine m_X4_is hI o_v0 (by decide) hT (fun x36 S37 hI2 g38 b_x36 p_x36 => ?_)
          subst p_x36
          intro _ _
          have bb_x36 : x36 = 0 ∨ x36 = 1 := b_x36
          refine ⟨fun c40 => ?_, fun c40 => ?_⟩
          · refine m_X4_is hI o_v0 (by decide) hT (fun x41 S42 hI2 g43 b_x41 p_x41 => ?_)
            subst p_x41
            intro _ _
            have bb_x41 : x41 = 0 ∨ x41 = 1 := b_x41
            refine ⟨fun c45 => ?_, fun c45 => ?_⟩
            · refine m_X4_is hI o_v0 (by decide) hT (fun x46 S47 hI2 g48 b_x46 p_x46 => ?_)
              subst p_x46
              intro _ _
              have bb_x46 : x46 = 0 ∨ x46 = 1 := b_x46
              refine ⟨fun c50 => ?_, fun c50 => ?_⟩
              · refine u_X4_fail ?_
                refine u_X4_fail_0 ?_
                refine ⟨o_v0, ?_⟩
                intro S51 eS51
                have hI : IV S51 := by rw [eS51]; exact iv_sI hI o_v0 (by decide) (nu_free (by decide))
                have f0 := fr_I eS51 g0 f0 o_v0 (by decide)
                have fL8 := fr_I eS51 gL7 fL8 o_v0 (by decide)
                obtain ⟨y52, hy52⟩ : ∃ z : Int32, z = (1 : Int32) := ⟨_, rfl⟩
                have d_y52 := rd_Is eS51 hy52
                have hT := tx_I eS51 hT
                have l_v1 := ln_I eS51 l_v1
                have g0 := gr_I eS51 g0
                have gL7 := gr_I eS51 gL7
                have o_v0 := ob_I eS51 o_v0
                have o_v1 := ob_I eS51 o_v1
                intro x53 ex53
                have d_x53 := ex53
                intro S54 eS54
                have hI : IV S54 := by rw [eS54]; exact iv_sI hI o_v0 (by decide) (nu_free (by decide))
                have f0 := fr_I eS54 g0 f0 o_v0 (by decide)
                have fL8 := fr_I eS54 gL7 fL8 o_v0 (by decide)
                have d_y52 := rd_Ij eS54 (by decide) d_y52
                have d_x53 := rd_Ij eS54 (by decide) d_x53
                obtain ⟨y55, hy55⟩ : ∃ z : Int32, z = x53 := ⟨_, rfl⟩
                have d_y55 := rd_Is eS54 hy55
                have hT := tx_I eS54 hT
                have l_v1 := ln_I eS54 l_v1
                have g0 := gr_I eS54 g0
                have gL7 := gr_I eS54 gL7
                have o_v0 := ob_I eS54 o_v0
                have o_v1 := ob_I eS54 o_v1
                intro _ _
                refine u_X4_read_248 ?_
                refine ⟨fun c57 => ?_, fun c57 => ?_⟩
                · refine u_X4_read_295 ?_
                  refine ⟨fun c58 => ?_, fun c58 => ?_⟩
                  · exact hq _ _ hI g0 f0 (Or.inl rfl)
                  · refine ⟨o_v0, ?_⟩
                    refine m_X4_sign hI o_v0 hT (fun x59 S60 hJ g61 fc62 b_x59 p_x59 => ?_)
                    have hT := p_x59
                    have hI := hJ
                    have l_v1 := (gr_len g61 o_v1).trans l_v1
                    have f0 := fri_tr (S := S54) g0 f0 fc62 (by decide) (by decide)
                    have fL8 := fri_tr (S := S54) gL7 fL8 fc62 (by decide) (by decide)
                    have o_v0 := gr_ob g61 o_v0
                    have o_v1 := gr_ob g61 o_v1
                    have g0 := gr_tr (T := S54) g0 g61
                    have gL7 := gr_tr (T := S54) gL7 g61
                    intro _ _
                    have bb_x59 : x59 = 0 ∨ x59 = 1 := b_x59
                    refine ⟨fun c63 => ?_, fun c63 => ?_⟩
                    · intro x64 ex64
                      exact ih13 _ _ _ ⟨hI, gL7, fL8, rfl, hT, (q83 i1u5 c14 bb_x21 c25 bb_x26 c30 bb_x31 c35 bb_x36 c40 bb_x41 c45 bb_x46 c50 c58 bb_x59 c63 ex64)⟩ (mu_up (q84 i1u5 c14 bb_x21 c25 bb_x26 c30 bb_x31 c35 bb_x36 c40 bb_x41 c45 bb_x46 c50 c58 bb_x59 c63 ex64) (q85 i1u5 c14 bb_x21 c25 bb_x26 c30 bb_x31 c35 bb_x36 c40 bb_x41 c45 bb_x46 c50 c58 bb_x59 c63 ex64))
                    · exact hq _ _ hI g0 f0 (Or.inl rfl)
                · refine ⟨o_v0, ?_⟩
                  intro x65 ex65
                  have d_x65 := ex65
                  refine ⟨fun c66 => ?_, fun c66 => ?_⟩
                  · refine u_X4_read_295 ?_
                    refine ⟨fun c67 => ?_, fun c67 => ?_⟩
                    · exact hq _ _ hI g0 f0 (Or.inl rfl)
                    · refine ⟨o_v0, ?_⟩
                      refine m_X4_sign hI o_v0 hT (fun x68 S69 hJ g70 fc71 b_x68 p_x68 => ?_)
                      have hT := p_x68
                      have hI := hJ
                      have l_v1 := (gr_len g70 o_v1).trans l_v1
                      have f0 := fri_tr (S := S54) g0 f0 fc71 (by decide) (by decide)
                      have fL8 := fri_tr (S := S54) gL7 fL8 fc71 (by decide) (by decide)
                      have o_v0 := gr_ob g70 o_v0
                      have o_v1 := gr_ob g70 o_v1
                      have g0 := gr_tr (T := S54) g0 g70
                      have gL7 := gr_tr (T := S54) gL7 g70
                      intro _ _
                      have bb_x68 : x68 = 0 ∨ x68 = 1 := b_x68
                      refine ⟨fun c72 => ?_, fun c72 => ?_⟩
                      · intro x73 ex73
                        exact ih13 _ _ _ ⟨hI, gL7, fL8, rfl, hT, (q86 i1u5 c14 bb_x21 c25 bb_x26 c30 bb_x31 c35 bb_x36 c40 bb_x41 c45 bb_x46 c50 c57 c66 c67 bb_x68 c72 ex73)⟩ (mu_up (q87 i1u5 c14 bb_x21 c25 bb_x26 c30 bb_x31 c35 bb_x36 c40 bb_x41 c45 bb_x46 c50 c57 c66 c67 bb_x68 c72 ex73) (q88 i1u5 c14 bb_x21 c25 bb_x26 c30 bb_x31 c35 bb_x36 c40 bb_x41 c45 bb_x46 c50 c57 c66 c67 bb_x68 c72 ex73))
                      · exact hq _ _ hI g0 f0 (Or.inl rfl)
                  · obtain ⟨a74, ea74, o_a74, -⟩ := sh 12 rfl hI o_v0
                    refine ⟨a74, ea74, ?_⟩
                    refine ⟨o_a74, ?_⟩
                    intro x75 ex75
                    have r_x75 : (0 : Int32) ≤ x75 ∧ x75 ≤ (8 : Int32) := by rw [ex75]; exact nu 12 rfl hI o_a74
                    have d_x75 := ex75
                    refine ⟨fun c76 => ?_, fun c76 => ?_⟩
                    · refine u_X4_read_280 ?_
                      refine ⟨o_v0, ?_⟩
                      refine u_X4_fail ?_
                      refine u_X4_fail_0 ?_
                      refine ⟨o_v0, ?_⟩
                      intro S77 eS77
                      have hI : IV S77 := by rw [eS77]; exact iv_sI hI o_v0 (by decide) (nu_free (by decide))
                      have f0 := fr_I eS77 g0 f0 o_v0 (by decide)
                      have d_x53 := rd_Ij eS77 (by decide) d_x53
                      have d_y55 := rd_Ij eS77 (by decide) d_y55
                      have d_x65 := rd_Ij eS77 (by decide) d_x65
                      have d_x75 := rd_Ik eS77 o_v0 o_a74 (by decide) d_x75
                      obtain ⟨y78, hy78⟩ : ∃ z : Int32, z = (6 : Int32) := ⟨_, rfl⟩
                      have d_y78 := rd_Is eS77 hy78
                      have ea74 := rf_I eS77 ea74
                      have hT := tx_I eS77 hT
                      have l_v1 := ln_I eS77 l_v1
                      have g0 := gr_I eS77 g0
                      have o_a74 := ob_I eS77 o_a74
                      have o_v0 := ob_I eS77 o_v0
                      have o_v1 := ob_I eS77 o_v1
                      intro x79 ex79
                      have q_x79 : x79 = x53 := ex79.trans d_x53.symm
                      have d_x79 := ex79
                      intro S80 eS80
                      have hI : IV S80 := by rw [eS80]; exact iv_sI hI o_v0 (by decide) (nu_free (by decide))
                      have f0 := fr_I eS80 g0 f0 o_v0 (by decide)
                      have d_x79 := rd_Ij eS80 (by decide) d_x79
                      have d_x65 := rd_Ij eS80 (by decide) d_x65
                      have d_x75 := rd_Ik eS80 o_v0 o_a74 (by decide) d_x75
                      have d_y78 := rd_Ij eS80 (by decide) d_y78
                      obtain ⟨y81, hy81⟩ : ∃ z : Int32, z = x79 := ⟨_, rfl⟩
                      have d_y81 := rd_Is eS80 hy81
                      have ea74 := rf_I eS80 ea74
                      have hT := tx_I eS80 hT
                      have l_v1 := ln_I eS80 l_v1
                      have g0 := gr_I eS80 g0
                      have o_a74 := ob_I eS80 o_a74
                      have o_v0 := ob_I eS80 o_v0
                      have o_v1 := ob_I eS80 o_v1
                      intro _ _
                      refine ⟨fun c83 => ?_, fun c83 => ?_⟩
                      · exact hq _ _ hI g0 f0 (Or.inl rfl)
                      · exact hq _ _ hI g0 f0 (Or.inr rfl)
                    · refine ⟨a74, ea74, ?_⟩
                      refine ⟨o_a74, ?_⟩
                      intro x85 ex85
                      have r_x85 : (0 : Int32) ≤ x85 ∧ x85 ≤ (4 : Int32) := by rw [ex85]; exact nu 14 rfl hI o_a74
                      have d_x85 := ex85
                      refine ⟨fun c86 => ?_, fun c86 => ?_⟩
                      · exact hq _ _ hI g0 f0 (Or.inr rfl)
                      · refine u_X4_read_280 ?_
                        refine ⟨o_v0, ?_⟩
                        refine u_X4_fail ?_
                        refine u_X4_fail_0 ?_
                        refine ⟨o_v0, ?_⟩
                        intro S87 eS87
                        have hI : IV S87 := by rw [eS87]; exact iv_sI hI o_v0 (by decide) (nu_free (by decide))
                        have f0 := fr_I eS87 g0 f0 o_v0 (by decide)
                        have d_x53 := rd_Ij eS87 (by decide) d_x53
                        have d_y55 := rd_Ij eS87 (by decide) d_y55
                        have d_x65 := rd_Ij eS87 (by decide) d_x65
                        have d_x75 := rd_Ik eS87 o_v0 o_a74 (by decide) d_x75
                        have d_x85 := rd_Ik eS87 o_v0 o_a74 (by decide) d_x85
                        obtain ⟨y88, hy88⟩ : ∃ z : Int32, z = (6 : Int32) := ⟨_, rfl⟩
                        have d_y88 := rd_Is eS87 hy88
                        have ea74 := rf_I eS87 ea74
                        have hT := tx_I eS87 hT
                        have l_v1 := ln_I eS87 l_v1
                        have g0 := gr_I eS87 g0
                        have o_a74 := ob_I eS87 o_a74
                        have o_v0 := ob_I eS87 o_v0
                        have o_v1 := ob_I eS87 o_v1
                        intro x89 ex89
                        have q_x89 : x89 = x53 := ex89.trans d_x53.symm
                        have d_x89 := ex89
                        intro S90 eS90
                        have hI : IV S90 := by rw [eS90]; exact iv_sI hI o_v0 (by decide) (nu_free (by decide))
                        have f0 := fr_I eS90 g0 f0 o_v0 (by decide)
                        have d_x89 := rd_Ij eS90 (by decide) d_x89
                        have d_x65 := rd_Ij eS90 (by decide) d_x65
                        have d_x75 := rd_Ik eS90 o_v0 o_a74 (by decide) d_x75
                        have d_x85 := rd_Ik eS90 o_v0 o_a74 (by decide) d_x85
                        have d_y88 := rd_Ij eS90 (by decide) d_y88
                        obtain ⟨y91, hy91⟩ : ∃ z : Int32, z = x89 := ⟨_, rfl⟩
                        have d_y91 := rd_Is eS90 hy91
                        have ea74 := rf_I eS90 ea74
                        have hT := tx_I eS90 hT
                        have l_v1 := ln_I eS90 l_v1
                        have g0 := gr_I eS90 g0
                        have o_a74 := ob_I eS90 o_a74
                        have o_v0 := ob_I eS90 o_v0
                        have o_v1 := ob_I eS90 o_v1
                        intro _ _
                        refine ⟨fun c93 => ?_, fun c93 => ?_⟩
                        · exact hq _ _ hI g0 f0 (Or.inl rfl)
                        · exact hq _ _ hI g0 f0 (Or.inr rfl)
              · obtain ⟨a94, ea94, o_a94, -⟩ := sh 12 rfl hI o_v0
                refine ⟨a94, ea94, ?_⟩
                refine ⟨o_a94, ?_⟩
                intro x95 ex95
                have r_x95 : (0 : Int32) ≤ x95 ∧ x95 ≤ (4 : Int32) := by rw [ex95]; exact nu 15 rfl hI o_a94
                have d_x95 := ex95
                refine m_X4_hasRoom hI o_v0 hT (fun x96 S97 hJ g98 fc99 b_x96 p_x96 => ?_)
                obtain ⟨hT, p_x96⟩ := p_x96
                have hI := hJ
                have l_v1 := (gr_len g98 o_v1).trans l_v1
                have d_x95 := d_x95.trans (fri_at fc99 (by decide) (by decide) o_a94).symm
                have ea94 := (frr_at fc99 (by decide) (by decide) o_v0).trans ea94
                have f0 := fri_tr (S := S6) g0 f0 fc99 (by decide) (by decide)
                have fL8 := fri_tr (S := S6) gL7 fL8 fc99 (by decide) (by decide)
                have o_a94 := gr_ob g98 o_a94
                have o_v0 := gr_ob g98 o_v0
                have o_v1 := gr_ob g98 o_v1
                have g0 := gr_tr (T := S6) g0 g98
                have gL7 := gr_tr (T := S6) gL7 g98
                intro _ _
                have bb_x96 : x96 = 0 ∨ x96 = 1 := b_x96
                refine ⟨fun c100 => ?_, fun c100 => ?_⟩
                · refine u_X4_read_235 ?_
                  refine u_X4_read_236 ?_
                  refine u_X4_read_248 ?_
                  refine ⟨fun c101 => ?_, fun c101 => ?_⟩
                  · refine u_X4_read_295 ?_
                    refine ⟨fun c102 => ?_, fun c102 => ?_⟩
                    · exact hq _ _ hI g0 f0 (Or.inl rfl)
                    · refine ⟨o_v0, ?_⟩
                      refine m_X4_sign hI o_v0 hT (fun x103 S104 hJ g105 fc106 b_x103 p_x103 => ?_)
                      have hT := p_x103
                      have hI := hJ
                      have l_v1 := (gr_len g105 o_v1).trans l_v1
                      have d_x95 := d_x95.trans (fri_at fc106 (by decide) (by decide) o_a94).symm
                      have ea94 := (frr_at fc106 (by decide) (by decide) o_v0).trans ea94
                      have f0 := fri_tr (S := S97) g0 f0 fc106 (by decide) (by decide)
                      have fL8 := fri_tr (S := S97) gL7 fL8 fc106 (by decide) (by decide)
                      have o_a94 := gr_ob g105 o_a94
                      have o_v0 := gr_ob g105 o_v0
                      have o_v1 := gr_ob g105 o_v1
                      have g0 := gr_tr (T := S97) g0 g105
                      have gL7 := gr_tr (T := S97) gL7 g105
                      intro _ _
                      have bb_x103 : x103 = 0 ∨ x103 = 1 := b_x103
                      refine ⟨fun c107 => ?_, fun c107 => ?_⟩
                      · intro x108 ex108
                        exact ih13 _ _ _ ⟨hI, gL7, fL8, rfl, hT, (q89 i1u5 c14 bb_x21 c25 bb_x26 c30 bb_x31 c35 bb_x36 c40 bb_x41 c45 bb_x46 c50 r_x95 p_x96 bb_x96 c100 c102 bb_x103 c107 ex108)⟩ (mu_up (q90 i1u5 c14 bb_x21 c25 bb_x26 c30 bb_x31 c35 bb_x36 c40 bb_x41 c45 bb_x46 c50 r_x95 p_x96 bb_x96 c100 c102 bb_x103 c107 ex108) (q91 i1u5 c14 bb_x21 c25 bb_x26 c30 bb_x31 c35 bb_x36 c40 bb_x41 c45 bb_x46 c50 r_x95 p_x96 bb_x96 c100 c102 bb_x103 c107 ex108))
                      · exact hq _ _ hI g0 f0 (Or.inl rfl)
                  · refine ⟨o_v0, ?_⟩
                    intro x109 ex109
                    have d_x109 := ex109
                    refine ⟨fun c110 => ?_, fun c110 => ?_⟩
                    · refine u_X4_read_295 ?_
                      refine ⟨fun c111 => ?_, fun c111 => ?_⟩
                      · exact hq _ _ hI g0 f0 (Or.inl rfl)
                      · refine ⟨o_v0, ?_⟩
                        refine m_X4_sign hI o_v0 hT (fun x112 S113 hJ g114 fc115 b_x112 p_x112 => ?_)
                        have hT := p_x112
                        have hI := hJ
                        have l_v1 := (gr_len g114 o_v1).trans l_v1
                        have d_x95 := d_x95.trans (fri_at fc115 (by decide) (by decide) o_a94).symm
                        have ea94 := (frr_at fc115 (by decide) (by decide) o_v0).trans ea94
                        have f0 := fri_tr (S := S97) g0 f0 fc115 (by decide) (by decide)
                        have fL8 := fri_tr (S := S97) gL7 fL8 fc115 (by decide) (by decide)
                        have o_a94 := gr_ob g114 o_a94
                        have o_v0 := gr_ob g114 o_v0
                        have o_v1 := gr_ob g114 o_v1
                        have g0 := gr_tr (T := S97) g0 g114
                        have gL7 := gr_tr (T := S97) gL7 g114
                        intro _ _
                        have bb_x112 : x112 = 0 ∨ x112 = 1 := b_x112
                        refine ⟨fun c116 => ?_, fun c116 => ?_⟩
                        · intro x117 ex117
                          exact ih13 _ _ _ ⟨hI, gL7, fL8, rfl, hT, (q92 i1u5 c14 bb_x21 c25 bb_x26 c30 bb_x31 c35 bb_x36 c40 bb_x41 c45 bb_x46 c50 r_x95 p_x96 bb_x96 c100 c101 c110 c111 bb_x112 c116 ex117)⟩ (mu_up (q93 i1u5 c14 bb_x21 c25 bb_x26 c30 bb_x31 c35 bb_x36 c40 bb_x41 c45 bb_x46 c50 r_x95 p_x96 bb_x96 c100 c101 c110 c111 bb_x112 c116 ex117) (q94 i1u5 c14 bb_x21 c25 bb_x26 c30 bb_x31 c35 bb_x36 c40 bb_x41 c45 bb_x46 c50 r_x95 p_x96 bb_x96 c100 c101 c110 c111 bb_x112 c116 ex117))
                        · exact hq _ _ hI g0 f0 (Or.inl rfl)
                    · refine ⟨a94, ea94, ?_⟩
                      refine ⟨o_a94, ?_⟩
                      intro x119 ex119
                      have r_x119 : (0 : Int32) ≤ x119 ∧ x119 ≤ (8 : Int32) := by rw [ex119]; exact nu 12 rfl hI o_a94
                      have d_x119 := ex119
                      refine ⟨fun c120 => ?_, fun c120 => ?_⟩
                      · refine u_X4_read_280 ?_
                        refine ⟨o_v0, ?_⟩
                        refine u_X4_fail ?_
                        refine u_X4_fail_0 ?_
                        refine ⟨o_v0, ?_⟩
                        intro S121 eS121
                        have hI : IV S121 := by rw [eS121]; exact iv_sI hI o_v0 (by decide) (nu_free (by decide))
                        have f0 := fr_I eS121 g0 f0 o_v0 (by decide)
                        have d_x95 := rd_Ik eS121 o_v0 o_a94 (by decide) d_x95
                        have d_x109 := rd_Ij eS121 (by decide) d_x109
                        have d_x119 := rd_Ik eS121 o_v0 o_a94 (by decide) d_x119
                        obtain ⟨y122, hy122⟩ : ∃ z : Int32, z = (6 : Int32) := ⟨_, rfl⟩
                        have d_y122 := rd_Is eS121 hy122
                        have ea94 := rf_I eS121 ea94
                        have hT := tx_I eS121 hT
                        have l_v1 := ln_I eS121 l_v1
                        have g0 := gr_I eS121 g0
                        have o_a94 := ob_I eS121 o_a94
                        have o_v0 := ob_I eS121 o_v0
                        have o_v1 := ob_I eS121 o_v1
                        intro x123 ex123
                        have d_x123 := ex123
                        intro S124 eS124
                        have hI : IV S124 := by rw [eS124]; exact iv_sI hI o_v0 (by decide) (nu_free (by decide))
                        have f0 := fr_I eS124 g0 f0 o_v0 (by decide)
                        have d_x95 := rd_Ik eS124 o_v0 o_a94 (by decide) d_x95
                        have d_x109 := rd_Ij eS124 (by decide) d_x109
                        have d_x119 := rd_Ik eS124 o_v0 o_a94 (by decide) d_x119
                        have d_y122 := rd_Ij eS124 (by decide) d_y122
                        have d_x123 := rd_Ij eS124 (by decide) d_x123
                        obtain ⟨y125, hy125⟩ : ∃ z : Int32, z = x123 := ⟨_, rfl⟩
                        have d_y125 := rd_Is eS124 hy125
                        have ea94 := rf_I eS124 ea94
                        have hT := tx_I eS124 hT
                        have l_v1 := ln_I eS124 l_v1
                        have g0 := gr_I eS124 g0
                        have o_a94 := ob_I eS124 o_a94
                        have o_v0 := ob_I eS124 o_v0
                        have o_v1 := ob_I eS124 o_v1
                        intro _ _
                        refine ⟨fun c127 => ?_, fun c127 => ?_⟩
                        · exact hq _ _ hI g0 f0 (Or.inl rfl)
                        · exact hq _ _ hI g0 f0 (Or.inr rfl)
                      · refine ⟨a94, ea94, ?_⟩
                        refine ⟨o_a94, ?_⟩
                        intro x129 ex129
                        have r_x129 : (0 : Int32) ≤ x129 ∧ x129 ≤ (4 : Int32) := by rw [ex129]; exact nu 14 rfl hI o_a94
                        have d_x129 := ex129
                        refine ⟨fun c130 => ?_, fun c130 => ?_⟩
                        · exact hq _ _ hI g0 f0 (Or.inr rfl)
                        · refine u_X4_read_280 ?_
                          refine ⟨o_v0, ?_⟩
                          refine u_X4_fail ?_
                          refine u_X4_fail_0 ?_
                          refine ⟨o_v0, ?_⟩
                          intro S131 eS131
                          have hI : IV S131 := by rw [eS131]; exact iv_sI hI o_v0 (by decide) (nu_free (by decide))
                          have f0 := fr_I eS131 g0 f0 o_v0 (by decide)
                          have d_x95 := rd_Ik eS131 o_v0 o_a94 (by decide) d_x95
                          have d_x109 := rd_Ij eS131 (by decide) d_x109
                          have d_x119 := rd_Ik eS131 o_v0 o_a94 (by decide) d_x119
                          have d_x129 := rd_Ik eS131 o_v0 o_a94 (by decide) d_x129
                          obtain ⟨y132, hy132⟩ : ∃ z : Int32, z = (6 : Int32) := ⟨_, rfl⟩
                          have d_y132 := rd_Is eS131 hy132
                          have ea94 := rf_I eS131 ea94
                          have hT := tx_I eS131 hT
                          have l_v1 := ln_I eS131 l_v1
                          have g0 := gr_I eS131 g0
                          have o_a94 := ob_I eS131 o_a94
                          have o_v0 := ob_I eS131 o_v0
                          have o_v1 := ob_I eS131 o_v1
                          intro x133 ex133
                          have d_x133 := ex133
                          intro S134 eS134
                          have hI : IV S134 := by rw [eS134]; exact iv_sI hI o_v0 (by decide) (nu_free (by decide))
                          have f0 := fr_I eS134 g0 f0 o_v0 (by decide)
                          have d_x95 := rd_Ik eS134 o_v0 o_a94 (by decide) d_x95
                          have d_x109 := rd_Ij eS134 (by decide) d_x109
                          have d_x119 := rd_Ik eS134 o_v0 o_a94 (by decide) d_x119
                          have d_x129 := rd_Ik eS134 o_v0 o_a94 (by decide) d_x129
                          have d_y132 := rd_Ij eS134 (by decide) d_y132
                          have d_x133 := rd_Ij eS134 (by decide) d_x133
                          obtain ⟨y135, hy135⟩ : ∃ z : Int32, z = x133 := ⟨_, rfl⟩
                          have d_y135 := rd_Is eS134 hy135
                          have ea94 := rf_I eS134 ea94
                          have hT := tx_I eS134 hT
                          have l_v1 := ln_I eS134 l_v1
                          have g0 := gr_I eS134 g0
                          have o_a94 := ob_I eS134 o_a94
                          have o_v0 := ob_I eS134 o_v0
                          have o_v1 := ob_I eS134 o_v1
                          intro _ _
                          refine ⟨fun c137 => ?_, fun c137 => ?_⟩
                          · exact hq _ _ hI g0 f0 (Or.inl rfl)
                          · exact hq _ _ hI g0 f0 (Or.inr rfl)
                · refine m_X4_seenLine hI o_v0 (fun z hz => by cases ea94.symm.trans hz; rw [← d_x95]; exact (q95 i1u5 c14 bb_x21 c25 bb_x26 c30 bb_x31 c35 bb_x36 c40 bb_x41 c45 bb_x46 c50 r_x95 p_x96 bb_x96 c100)) hT (fun x138 S139 hJ g140 fc141 b_x138 p_x138 => ?_)
                  have hT := p_x138
                  have hI := hJ
                  have l_v1 := (gr_len g140 o_v1).trans l_v1
                  have ea94 := (frr_at fc141 (by decide) (by decide) o_v0).trans ea94
                  have f0 := fri_tr (S := S97) g0 f0 fc141 (by decide) (by decide)
                  have fL8 := fri_tr (S := S97) gL7 fL8 fc141 (by decide) (by decide)
                  have o_a94 := gr_ob g140 o_a94
                  have o_v0 := gr_ob g140 o_v0
                  have o_v1 := gr_ob g140 o_v1
                  have g0 := gr_tr (T := S97) g0 g140
                  have gL7 := gr_tr (T := S97) gL7 g140
                  intro _ _
                  have bb_x138 : x138 = 0 ∨ x138 = 1 := b_x138
                  refine ⟨fun c142 => ?_, fun c142 => ?_⟩
                  · refine u_X4_read_235 ?_
                    refine u_X4_read_236 ?_
                    refine u_X4_read_248 ?_
                    refine ⟨fun c143 => ?_, fun c143 => ?_⟩
                    · refine u_X4_read_295 ?_
                      refine ⟨fun c144 => ?_, fun c144 => ?_⟩
                      · exact hq _ _ hI g0 f0 (Or.inl rfl)
                      · refine ⟨o_v0, ?_⟩
                        refine m_X4_sign hI o_v0 hT (fun x145 S146 hJ g147 fc148 b_x145 p_x145 => ?_)
                        have hT := p_x145
                        have hI := hJ
                        have l_v1 := (gr_len g147 o_v1).trans l_v1
                        have ea94 := (frr_at fc148 (by decide) (by decide) o_v0).trans ea94
                        have f0 := fri_tr (S := S139) g0 f0 fc148 (by decide) (by decide)
                        have fL8 := fri_tr (S := S139) gL7 fL8 fc148 (by decide) (by decide)
                        have o_a94 := gr_ob g147 o_a94
                        have o_v0 := gr_ob g147 o_v0
                        have o_v1 := gr_ob g147 o_v1
                        have g0 := gr_tr (T := S139) g0 g147
                        have gL7 := gr_tr (T := S139) gL7 g147
                        intro _ _
                        have bb_x145 : x145 = 0 ∨ x145 = 1 := b_x145
                        refine ⟨fun c149 => ?_, fun c149 => ?_⟩
                        · intro x150 ex150
                          exact ih13 _ _ _ ⟨hI, gL7, fL8, rfl, hT, (q96 i1u5 c14 bb_x21 c25 bb_x26 c30 bb_x31 c35 bb_x36 c40 bb_x41 c45 bb_x46 c50 r_x95 p_x96 bb_x96 c100 bb_x138 c142 c144 bb_x145 c149 ex150)⟩ (mu_up (q97 i1u5 c14 bb_x21 c25 bb_x26 c30 bb_x31 c35 bb_x36 c40 bb_x41 c45 bb_x46 c50 r_x95 p_x96 bb_x96 c100 bb_x138 c142 c144 bb_x145 c149 ex150) (q98 i1u5 c14 bb_x21 c25 bb_x26 c30 bb_x31 c35 bb_x36 c40 bb_x41 c45 bb_x46 c50 r_x95 p_x96 bb_x96 c100 bb_x138 c142 c144 bb_x145 c149 ex150))
                        · exact hq _ _ hI g0 f0 (Or.inl rfl)
                    · refine ⟨o_v0, ?_⟩
                      intro x151 ex151
                      have d_x151 := ex151
                      refine ⟨fun c152 => ?_, fun c152 => ?_⟩
                      · refine u_X4_read_295 ?_
                        refine ⟨fun c153 => ?_, fun c153 => ?_⟩
                        · exact hq _ _ hI g0 f0 (Or.inl rfl)
                        · refine ⟨o_v0, ?_⟩
                          refine m_X4_sign hI o_v0 hT (fun x154 S155 hJ g156 fc157 b_x154 p_x154 => ?_)
                          have hT := p_x154
                          have hI := hJ
                          have l_v1 := (gr_len g156 o_v1).trans l_v1
                          have ea94 := (frr_at fc157 (by decide) (by decide) o_v0).trans ea94
                          have f0 := fri_tr (S := S139) g0 f0 fc157 (by decide) (by decide)
                          have fL8 := fri_tr (S := S139) gL7 fL8 fc157 (by decide) (by decide)
                          have o_a94 := gr_ob g156 o_a94
                          have o_v0 := gr_ob g156 o_v0
                          have o_v1 := gr_ob g156 o_v1
                          have g0 := gr_tr (T := S139) g0 g156
                          have gL7 := gr_tr (T := S139) gL7 g156
                          intro _ _
                          have bb_x154 : x154 = 0 ∨ x154 = 1 := b_x154
                          refine ⟨fun c158 => ?_, fun c158 => ?_⟩
                          · intro x159 ex159
                            exact ih13 _ _ _ ⟨hI, gL7, fL8, rfl, hT, (q99 i1u5 c14 bb_x21 c25 bb_x26 c30 bb_x31 c35 bb_x36 c40 bb_x41 c45 bb_x46 c50 r_x95 p_x96 bb_x96 c100 bb_x138 c142 c143 c152 c153 bb_x154 c158 ex159)⟩ (mu_up (q100 i1u5 c14 bb_x21 c25 bb_x26 c30 bb_x31 c35 bb_x36 c40 bb_x41 c45 bb_x46 c50 r_x95 p_x96 bb_x96 c100 bb_x138 c142 c143 c152 c153 bb_x154 c158 ex159) (q101 i1u5 c14 bb_x21 c25 bb_x26 c30 bb_x31 c35 bb_x36 c40 bb_x41 c45 bb_x46 c50 r_x95 p_x96 bb_x96 c100 bb_x138 c142 c143 c152 c153 bb_x154 c158 ex159))
                          · exact hq _ _ hI g0 f0 (Or.inl rfl)
                      · refine ⟨a94, ea94, ?_⟩
                        refine ⟨o_a94, ?_⟩
                        intro x161 ex161
                        have r_x161 : (0 : Int32) ≤ x161 ∧ x161 ≤ (8 : Int32) := by rw [ex161]; exact nu 12 rfl hI o_a94
                        have d_x161 := ex161
                        refine ⟨fun c162 => ?_, fun c162 => ?_⟩
                        · refine u_X4_read_280 ?_
                          refine ⟨o_v0, ?_⟩
                          refine u_X4_fail ?_
                          refine u_X4_fail_0 ?_
                          refine ⟨o_v0, ?_⟩
                          intro S163 eS163
                          have hI : IV S163 := by rw [eS163]; exact iv_sI hI o_v0 (by decide) (nu_free (by decide))
                          have f0 := fr_I eS163 g0 f0 o_v0 (by decide)
                          have d_x151 := rd_Ij eS163 (by decide) d_x151
                          have d_x161 := rd_Ik eS163 o_v0 o_a94 (by decide) d_x161
                          obtain ⟨y164, hy164⟩ : ∃ z : Int32, z = (6 : Int32) := ⟨_, rfl⟩
                          have d_y164 := rd_Is eS163 hy164
                          have ea94 := rf_I eS163 ea94
                          have hT := tx_I eS163 hT
                          have l_v1 := ln_I eS163 l_v1
                          have g0 := gr_I eS163 g0
                          have o_a94 := ob_I eS163 o_a94
                          have o_v0 := ob_I eS163 o_v0
                          have o_v1 := ob_I eS163 o_v1
                          intro x165 ex165
                          have d_x165 := ex165
                          intro S166 eS166
                          have hI : IV S166 := by rw [eS166]; exact iv_sI hI o_v0 (by decide) (nu_free (by decide))
                          have f0 := fr_I eS166 g0 f0 o_v0 (by decide)
                          have d_x151 := rd_Ij eS166 (by decide) d_x151
                          have d_x161 := rd_Ik eS166 o_v0 o_a94 (by decide) d_x161
                          have d_y164 := rd_Ij eS166 (by decide) d_y164
                          have d_x165 := rd_Ij eS166 (by decide) d_x165
                          obtain ⟨y167, hy167⟩ : ∃ z : Int32, z = x165 := ⟨_, rfl⟩
                          have d_y167 := rd_Is eS166 hy167
                          have ea94 := rf_I eS166 ea94
                          have hT := tx_I eS166 hT
                          have l_v1 := ln_I eS166 l_v1
                          have g0 := gr_I eS166 g0
                          have o_a94 := ob_I eS166 o_a94
                          have o_v0 := ob_I eS166 o_v0
                          have o_v1 := ob_I eS166 o_v1
                          intro _ _
                          refine ⟨fun c169 => ?_, fun c169 => ?_⟩
                          · exact hq _ _ hI g0 f0 (Or.inl rfl)
                          · exact hq _ _ hI g0 f0 (Or.inr rfl)
                        · refine ⟨a94, ea94, ?_⟩
                          refine ⟨o_a94, ?_⟩
                          intro x171 ex171
                          have r_x171 : (0 : Int32) ≤ x171 ∧ x171 ≤ (4 : Int32) := by rw [ex171]; exact nu 14 rfl hI o_a94
                          have d_x171 := ex171
                          refine ⟨fun c172 => ?_, fun c172 => ?_⟩
                          · exact hq _ _ hI g0 f0 (Or.inr rfl)
                          · refine u_X4_read_280 ?_
                            refine ⟨o_v0, ?_⟩
                            refine u_X4_fail ?_
                            refine u_X4_fail_0 ?_
                            refine ⟨o_v0, ?_⟩
                            intro S173 eS173
                            have hI : IV S173 := by rw [eS173]; exact iv_sI hI o_v0 (by decide) (nu_free (by decide))
                            have f0 := fr_I eS173 g0 f0 o_v0 (by decide)
                            have d_x151 := rd_Ij eS173 (by decide) d_x151
                            have d_x161 := rd_Ik eS173 o_v0 o_a94 (by decide) d_x161
                            have d_x171 := rd_Ik eS173 o_v0 o_a94 (by decide) d_x171
                            obtain ⟨y174, hy174⟩ : ∃ z : Int32, z = (6 : Int32) := ⟨_, rfl⟩
                            have d_y174 := rd_Is eS173 hy174
                            have ea94 := rf_I eS173 ea94
                            have hT := tx_I eS173 hT
                            have l_v1 := ln_I eS173 l_v1
                            have g0 := gr_I eS173 g0
                            have o_a94 := ob_I eS173 o_a94
                            have o_v0 := ob_I eS173 o_v0
                            have o_v1 := ob_I eS173 o_v1
                            intro x175 ex175
                            have d_x175 := ex175
                            intro S176 eS176
                            have hI : IV S176 := by rw [eS176]; exact iv_sI hI o_v0 (by decide) (nu_free (by decide))
                            have f0 := fr_I eS176 g0 f0 o_v0 (by decide)
                            have d_x151 := rd_Ij eS176 (by decide) d_x151
                            have d_x161 := rd_Ik eS176 o_v0 o_a94 (by decide) d_x161
                            have d_x171 := rd_Ik eS176 o_v0 o_a94 (by decide) d_x171
                            have d_y174 := rd_Ij eS176 (by decide) d_y174
                            have d_x175 := rd_Ij eS176 (by decide) d_x175
                            obtain ⟨y177, hy177⟩ : ∃ z : Int32, z = x175 := ⟨_, rfl⟩
                            have d_y177 := rd_Is eS176 hy177
                            have ea94 := rf_I eS176 ea94
                            have hT := tx_I eS176 hT
                            have l_v1 := ln_I eS176 l_v1
                            have g0 := gr_I eS176 g0
                            have o_a94 := ob_I eS176 o_a94
                            have o_v0 := ob_I eS176 o_v0
                            have o_v1 := ob_I eS176 o_v1
                            intro _ _
                            refine ⟨fun c179 => ?_, fun c179 => ?_⟩
                            · exact hq _ _ hI g0 f0 (Or.inl rfl)
                            · exact hq _ _ hI g0 f0 (Or.inr rfl)
                  · refine u_X4_read_236 ?_
                    refine u_X4_read_248 ?_
                    refine ⟨fun c180 => ?_, fun c180 => ?_⟩
                    · refine u_X4_read_295 ?_
                      refine ⟨fun c181 => ?_, fun c181 => ?_⟩
                      · exact hq _ _ hI g0 f0 (Or.inl rfl)
                      · refine ⟨o_v0, ?_⟩
                        refine m_X4_sign hI o_v0 hT (fun x182 S183 hJ g184 fc185 b_x182 p_x182 => ?_)
                        have hT := p_x182
                        have hI := hJ
                        have l_v1 := (gr_len g184 o_v1).trans l_v1
                        have ea94 := (frr_at fc185 (by decide) (by decide) o_v0).trans ea94
                        have f0 := fri_tr (S := S139) g0 f0 fc185 (by decide) (by decide)
                        have fL8 := fri_tr (S := S139) gL7 fL8 fc185 (by decide) (by decide)
                        have o_a94 := gr_ob g184 o_a94
                        have o_v0 := gr_ob g184 o_v0
                        have o_v1 := gr_ob g184 o_v1
                        have g0 := gr_tr (T := S139) g0 g184
                        have gL7 := gr_tr (T := S139) gL7 g184
                        intro _ _
                        have bb_x182 : x182 = 0 ∨ x182 = 1 := b_x182
                        refine ⟨fun c186 => ?_, fun c186 => ?_⟩
                        · intro x187 ex187
                          exact ih13 _ _ _ ⟨hI, gL7, fL8, rfl, hT, (q102 i1u5 c14 bb_x21 c25 bb_x26 c30 bb_x31 c35 bb_x36 c40 bb_x41 c45 bb_x46 c50 r_x95 p_x96 bb_x96 c100 bb_x138 c142 c180 bb_x182 c186 ex187)⟩ (mu_up (q103 i1u5 c14 bb_x21 c25 bb_x26 c30 bb_x31 c35 bb_x36 c40 bb_x41 c45 bb_x46 c50 r_x95 p_x96 bb_x96 c100 bb_x138 c142 c180 bb_x182 c186 ex187) (q104 i1u5 c14 bb_x21 c25 bb_x26 c30 bb_x31 c35 bb_x36 c40 bb_x41 c45 bb_x46 c50 r_x95 p_x96 bb_x96 c100 bb_x138 c142 c180 bb_x182 c186 ex187))
                        · exact hq _ _ hI g0 f0 (Or.inl rfl)
                    · refine ⟨o_v0, ?_⟩
                      intro x188 ex188
                      have d_x188 := ex188
                      refine ⟨fun c189 => ?_, fun c189 => ?_⟩
                      · refine u_X4_read_295 ?_
                        refine ⟨fun c190 => ?_, fun c190 => ?_⟩
                        · exact hq _ _ hI g0 f0 (Or.inl rfl)
                        · refine ⟨o_v0, ?_⟩
                          refine m_X4_sign hI o_v0 hT (fun x191 S192 hJ g193 fc194 b_x191 p_x191 => ?_)
                          have hT := p_x191
                          have hI := hJ
                          have l_v1 := (gr_len g193 o_v1).trans l_v1
                          have ea94 := (frr_at fc194 (by decide) (by decide) o_v0).trans ea94
                          have f0 := fri_tr (S := S139) g0 f0 fc194 (by decide) (by decide)
                          have fL8 := fri_tr (S := S139) gL7 fL8 fc194 (by decide) (by decide)
                          have o_a94 := gr_ob g193 o_a94
                          have o_v0 := gr_ob g193 o_v0
                          have o_v1 := gr_ob g193 o_v1
                          have g0 := gr_tr (T := S139) g0 g193
                          have gL7 := gr_tr (T := S139) gL7 g193
                          intro _ _
                          have bb_x191 : x191 = 0 ∨ x191 = 1 := b_x191
                          refine ⟨fun c195 => ?_, fun c195 => ?_⟩
                          · intro x196 ex196
                            exact ih13 _ _ _ ⟨hI, gL7, fL8, rfl, hT, (q105 i1u5 c14 bb_x21 c25 bb_x26 c30 bb_x31 c35 bb_x36 c40 bb_x41 c45 bb_x46 c50 r_x95 p_x96 bb_x96 c100 bb_x138 c142 c189 bb_x191 c195 ex196)⟩ (mu_up (q106 i1u5 c14 bb_x21 c25 bb_x26 c30 bb_x31 c35 bb_x36 c40 bb_x41 c45 bb_x46 c50 r_x95 p_x96 bb_x96 c100 bb_x138 c142 c189 bb_x191 c195 ex196) (q107 i1u5 c14 bb_x21 c25 bb_x26 c30 bb_x31 c35 bb_x36 c40 bb_x41 c45 bb_x46 c50 r_x95 p_x96 bb_x96 c100 bb_x138 c142 c189 bb_x191 c195 ex196))
                          · exact hq _ _ hI g0 f0 (Or.inl rfl)
                      · refine ⟨a94, ea94, ?_⟩
                        refine ⟨o_a94, ?_⟩
                        intro x198 ex198
                        have r_x198 : (0 : Int32) ≤ x198 ∧ x198 ≤ (8 : Int32) := by rw [ex198]; exact nu 12 rfl hI o_a94
                        have d_x198 := ex198
                        refine ⟨fun c199 => ?_, fun c199 => ?_⟩
                        · refine u_X4_read_280 ?_
                          refine ⟨o_v0, ?_⟩
                          refine u_X4_fail ?_
                          refine u_X4_fail_0 ?_
                          refine ⟨o_v0, ?_⟩
                          intro S200 eS200
                          have hI : IV S200 := by rw [eS200]; exact iv_sI hI o_v0 (by decide) (nu_free (by decide))
                          have f0 := fr_I eS200 g0 f0 o_v0 (by decide)
                          have d_x188 := rd_Ij eS200 (by decide) d_x188
                          have d_x198 := rd_Ik eS200 o_v0 o_a94 (by decide) d_x198
                          obtain ⟨y201, hy201⟩ : ∃ z : Int32, z = (6 : Int32) := ⟨_, rfl⟩
                          have d_y201 := rd_Is eS200 hy201
                          have ea94 := rf_I eS200 ea94
                          have hT := tx_I eS200 hT
                          have l_v1 := ln_I eS200 l_v1
                          have g0 := gr_I eS200 g0
                          have o_a94 := ob_I eS200 o_a94
                          have o_v0 := ob_I eS200 o_v0
                          have o_v1 := ob_I eS200 o_v1
                          intro x202 ex202
                          have d_x202 := ex202
                          intro S203 eS203
                          have hI : IV S203 := by rw [eS203]; exact iv_sI hI o_v0 (by decide) (nu_free (by decide))
                          have f0 := fr_I eS203 g0 f0 o_v0 (by decide)
                          have d_x188 := rd_Ij eS203 (by decide) d_x188
                          have d_x198 := rd_Ik eS203 o_v0 o_a94 (by decide) d_x198
                          have d_y201 := rd_Ij eS203 (by decide) d_y201
                          have d_x202 := rd_Ij eS203 (by decide) d_x202
                          obtain ⟨y204, hy204⟩ : ∃ z : Int32, z = x202 := ⟨_, rfl⟩
                          have d_y204 := rd_Is eS203 hy204
                          have ea94 := rf_I eS203 ea94
                          have hT := tx_I eS203 hT
                          have l_v1 := ln_I eS203 l_v1
                          have g0 := gr_I eS203 g0
                          have o_a94 := ob_I eS203 o_a94
                          have o_v0 := ob_I eS203 o_v0
                          have o_v1 := ob_I eS203 o_v1
                          intro _ _
                          refine ⟨fun c206 => ?_, fun c206 => ?_⟩
                          · exact hq _ _ hI g0 f0 (Or.inl rfl)
                          · exact hq _ _ hI g0 f0 (Or.inr rfl)
                        · refine ⟨a94, ea94, ?_⟩
                          refine ⟨o_a94, ?_⟩
                          intro x208 ex208
                          have r_x208 : (0 : Int32) ≤ x208 ∧ x208 ≤ (4 : Int32) := by rw [ex208]; exact nu 14 rfl hI o_a94
                          have d_x208 := ex208
                          refine ⟨fun c209 => ?_, fun c209 => ?_⟩
                          · exact hq _ _ hI g0 f0 (Or.inr rfl)
                          · refine u_X4_read_280 ?_
                            refine ⟨o_v0, ?_⟩
                            refine u_X4_fail ?_
                            refine u_X4_fail_0 ?_
                            refine ⟨o_v0, ?_⟩
                            intro S210 eS210
                            have hI : IV S210 := by rw [eS210]; exact iv_sI hI o_v0 (by decide) (nu_free (by decide))
                            have f0 := fr_I eS210 g0 f0 o_v0 (by decide)
                            have d_x188 := rd_Ij eS210 (by decide) d_x188
                            have d_x198 := rd_Ik eS210 o_v0 o_a94 (by decide) d_x198
                            have d_x208 := rd_Ik eS210 o_v0 o_a94 (by decide) d_x208
                            obtain ⟨y211, hy211⟩ : ∃ z : Int32, z = (6 : Int32) := ⟨_, rfl⟩
                            have d_y211 := rd_Is eS210 hy211
                            have ea94 := rf_I eS210 ea94
                            have hT := tx_I eS210 hT
                            have l_v1 := ln_I eS210 l_v1
                            have g0 := gr_I eS210 g0
                            have o_a94 := ob_I eS210 o_a94
                            have o_v0 := ob_I eS210 o_v0
                            have o_v1 := ob_I eS210 o_v1
                            intro x212 ex212
                            have d_x212 := ex212
                            intro S213 eS213
                            have hI : IV S213 := by rw [eS213]; exact iv_sI hI o_v0 (by decide) (nu_free (by decide))
                            have f0 := fr_I eS213 g0 f0 o_v0 (by decide)
                            have d_x188 := rd_Ij eS213 (by decide) d_x188
                            have d_x198 := rd_Ik eS213 o_v0 o_a94 (by decide) d_x198
                            have d_x208 := rd_Ik eS213 o_v0 o_a94 (by decide) d_x208
                            have d_y211 := rd_Ij eS213 (by decide) d_y211
                            have d_x212 := rd_Ij eS213 (by decide) d_x212
                            obtain ⟨y214, hy214⟩ : ∃ z : Int32, z = x212 := ⟨_, rfl⟩
                            have d_y214 := rd_Is eS213 hy214
                            have ea94 := rf_I eS213 ea94
                            have hT := tx_I eS213 hT
                            have l_v1 := ln_I eS213 l_v1
                            have g0 := gr_I eS213 g0
                            have o_a94 := ob_I eS213 o_a94
                            have o_v0 := ob_I eS213 o_v0
                            have o_v1 := ob_I eS213 o_v1
                            intro _ _
                            refine ⟨fun c216 => ?_, fun c216 => ?_⟩
                            · exact hq _ _ hI g0 f0 (Or.inl rfl)
                            · exact hq _ _ hI g0 f0 (Or.inr rfl)
            · obtain ⟨a217, ea217, o_a217, -⟩ := sh 12 rfl hI o_v0
              refine ⟨a217, ea217, ?_⟩
              refine ⟨o_a217, ?_⟩
              intro x218 ex218
              have r_x218 : (0 : Int32) ≤ x218 ∧ x218 ≤ (4 : Int32) := by rw [ex218]; exact nu 14 rfl hI o_a217
              have d_x218 := ex218
              refine m_X4_hasRoom hI o_v0 hT (fun x219 S220 hJ g221 fc222 b_x219 p_x219 => ?_)
              obtain ⟨hT, p_x219⟩ := p_x219
              have hI := hJ
              have l_v1 := (gr_len g221 o_v1).trans l_v1
              have d_x218 := d_x218.trans (fri_at fc222 (by decide) (by decide) o_a217).symm
              have ea217 := (frr_at fc222 (by decide) (by decide) o_v0).trans ea217
              have f0 := fri_tr (S := S6) g0 f0 fc222 (by decide) (by decide)
              have fL8 := fri_tr (S := S6) gL7 fL8 fc222 (by decide) (by decide)
              have o_a217 := gr_ob g221 o_a217
              have o_v0 := gr_ob g221 o_v0
              have o_v1 := gr_ob g221 o_v1
              have g0 := gr_tr (T := S6) g0 g221
              have gL7 := gr_tr (T := S6) gL7 g221
              intro _ _
              have bb_x219 : x219 = 0 ∨ x219 = 1 := b_x219
              refine ⟨fun c223 => ?_, fun c223 => ?_⟩
              · refine u_X4_read_194 ?_
                refine u_X4_read_195 ?_
                refine u_X4_read_248 ?_
                refine ⟨fun c224 => ?_, fun c224 => ?_⟩
                · refine u_X4_read_295 ?_
                  refine ⟨fun c225 => ?_, fun c225 => ?_⟩
                  · exact hq _ _ hI g0 f0 (Or.inl rfl)
                  · refine ⟨o_v0, ?_⟩
                    refine m_X4_sign hI o_v0 hT (fun x226 S227 hJ g228 fc229 b_x226 p_x226 => ?_)
                    have hT := p_x226
                    have hI := hJ
                    have l_v1 := (gr_len g228 o_v1).trans l_v1
                    have d_x218 := d_x218.trans (fri_at fc229 (by decide) (by decide) o_a217).symm
                    have ea217 := (frr_at fc229 (by decide) (by decide) o_v0).trans ea217
                    have f0 := fri_tr (S := S220) g0 f0 fc229 (by decide) (by decide)
                    have fL8 := fri_tr (S := S220) gL7 fL8 fc229 (by decide) (by decide)
                    have o_a217 := gr_ob g228 o_a217
                    have o_v0 := gr_ob g228 o_v0
                    have o_v1 := gr_ob g228 o_v1
                    have g0 := gr_tr (T := S220) g0 g228
                    have gL7 := gr_tr (T := S220) gL7 g228
                    intro _ _
                    have bb_x226 : x226 = 0 ∨ x226 = 1 := b_x226
                    refine ⟨fun c230 => ?_, fun c230 => ?_⟩
                    · intro x231 ex231
                      exact ih13 _ _ _ ⟨hI, gL7, fL8, rfl, hT, (q108 i1u5 c14 bb_x21 c25 bb_x26 c30 bb_x31 c35 bb_x36 c40 bb_x41 c45 r_x218 p_x219 bb_x219 c223 c225 bb_x226 c230 ex231)⟩ (mu_up (q109 i1u5 c14 bb_x21 c25 bb_x26 c30 bb_x31 c35 bb_x36 c40 bb_x41 c45 r_x218 p_x219 bb_x219 c223 c225 bb_x226 c230 ex231) (q110 i1u5 c14 bb_x21 c25 bb_x26 c30 bb_x31 c35 bb_x36 c40 bb_x41 c45 r_x218 p_x219 bb_x219 c223 c225 bb_x226 c230 ex231))
                    · exact hq _ _ hI g0 f0 (Or.inl rfl)
                · refine ⟨o_v0, ?_⟩
                  intro x232 ex232
                  have d_x232 := ex232
                  refine ⟨fun c233 => ?_, fun c233 => ?_⟩
                  · refine u_X4_read_295 ?_
                    refine ⟨fun c234 => ?_, fun c234 => ?_⟩
                    · exact hq _ _ hI g0 f0 (Or.inl rfl)
                    · refine ⟨o_v0, ?_⟩
                      refine m_X4_sign hI o_v0 hT (fun x235 S236 hJ g237 fc238 b_x235 p_x235 => ?_)
                      have hT := p_x235
                      have hI := hJ
                      have l_v1 := (gr_len g237 o_v1).trans l_v1
                      have d_x218 := d_x218.trans (fri_at fc238 (by decide) (by decide) o_a217).symm
                      have ea217 := (frr_at fc238 (by decide) (by decide) o_v0).trans ea217
                      have f0 := fri_tr (S := S220) g0 f0 fc238 (by decide) (by decide)
                      have fL8 := fri_tr (S := S220) gL7 fL8 fc238 (by decide) (by decide)
                      have o_a217 := gr_ob g237 o_a217
                      have o_v0 := gr_ob g237 o_v0
                      have o_v1 := gr_ob g237 o_v1
                      have g0 := gr_tr (T := S220) g0 g237
                      have gL7 := gr_tr (T := S220) gL7 g237
                      intro _ _
                      have bb_x235 : x235 = 0 ∨ x235 = 1 := b_x235
                      refine ⟨fun c239 => ?_, fun c239 => ?_⟩
                      · intro x240 ex240
                        exact ih13 _ _ _ ⟨hI, gL7, fL8, rfl, hT, (q111 i1u5 c14 bb_x21 c25 bb_x26 c30 bb_x31 c35 bb_x36 c40 bb_x41 c45 r_x218 p_x219 bb_x219 c223 c224 c233 c234 bb_x235 c239 ex240)⟩ (mu_up (q112 i1u5 c14 bb_x21 c25 bb_x26 c30 bb_x31 c35 bb_x36 c40 bb_x41 c45 r_x218 p_x219 bb_x219 c223 c224 c233 c234 bb_x235 c239 ex240) (q113 i1u5 c14 bb_x21 c25 bb_x26 c30 bb_x31 c35 bb_x36 c40 bb_x41 c45 r_x218 p_x219 bb_x219 c223 c224 c233 c234 bb_x235 c239 ex240))
                      · exact hq _ _ hI g0 f0 (Or.inl rfl)
                  · refine ⟨a217, ea217, ?_⟩
                    refine ⟨o_a217, ?_⟩
                    intro x242 ex242
                    have r_x242 : (0 : Int32) ≤ x242 ∧ x242 ≤ (8 : Int32) := by rw [ex242]; exact nu 12 rfl hI o_a217
                    have d_x242 := ex242
                    refine ⟨fun c243 => ?_, fun c243 => ?_⟩
                    · refine u_X4_read_280 ?_
                      refine ⟨o_v0, ?_⟩
                      refine u_X4_fail ?_
                      refine u_X4_fail_0 ?_
                      refine ⟨o_v0, ?_⟩
                      intro S244 eS244
                      have hI : IV S244 := by rw [eS244]; exact iv_sI hI o_v0 (by decide) (nu_free (by decide))
                      have f0 := fr_I eS244 g0 f0 o_v0 (by decide)
                      have d_x218 := rd_Ik eS244 o_v0 o_a217 (by decide) d_x218
                      have d_x232 := rd_Ij eS244 (by decide) d_x232
                      have d_x242 := rd_Ik eS244 o_v0 o_a217 (by decide) d_x242
                      obtain ⟨y245, hy245⟩ : ∃ z : Int32, z = (6 : Int32) := ⟨_, rfl⟩
                      have d_y245 := rd_Is eS244 hy245
                      have ea217 := rf_I eS244 ea217
                      have hT := tx_I eS244 hT
                      have l_v1 := ln_I eS244 l_v1
                      have g0 := gr_I eS244 g0
                      have o_a217 := ob_I eS244 o_a217
                      have o_v0 := ob_I eS244 o_v0
                      have o_v1 := ob_I eS244 o_v1
                      intro x246 ex246
                      have d_x246 := ex246
                      intro S247 eS247
                      have hI : IV S247 := by rw [eS247]; exact iv_sI hI o_v0 (by decide) (nu_free (by decide))
                      have f0 := fr_I eS247 g0 f0 o_v0 (by decide)
                      have d_x218 := rd_Ik eS247 o_v0 o_a217 (by decide) d_x218
                      have d_x232 := rd_Ij eS247 (by decide) d_x232
                      have d_x242 := rd_Ik eS247 o_v0 o_a217 (by decide) d_x242
                      have d_y245 := rd_Ij eS247 (by decide) d_y245
                      have d_x246 := rd_Ij eS247 (by decide) d_x246
                      obtain ⟨y248, hy248⟩ : ∃ z : Int32, z = x246 := ⟨_, rfl⟩
                      have d_y248 := rd_Is eS247 hy248
                      have ea217 := rf_I eS247 ea217
                      have hT := tx_I eS247 hT
                      have l_v1 := ln_I eS247 l_v1
                      have g0 := gr_I eS247 g0
                      have o_a217 := ob_I eS247 o_a217
                      have o_v0 := ob_I eS247 o_v0
                      have o_v1 := ob_I eS247 o_v1
                      intro _ _
                      refine ⟨fun c250 => ?_, fun c250 => ?_⟩
                      · exact hq _ _ hI g0 f0 (Or.inl rfl)
                      · exact hq _ _ hI g0 f0 (Or.inr rfl)
                    · refine ⟨a217, ea217, ?_⟩
                      refine ⟨o_a217, ?_⟩
                      intro x252 ex252
                      have r_x252 : (0 : Int32) ≤ x252 ∧ x252 ≤ (4 : Int32) := by rw [ex252]; exact nu 14 rfl hI o_a217
                      have q_x252 : x252 = x218 := ex252.trans d_x218.symm
                      have d_x252 := ex252
                      refine ⟨fun c253 => ?_, fun c253 => ?_⟩
                      · exact hq _ _ hI g0 f0 (Or.inr rfl)
                      · refine u_X4_read_280 ?_
                        refine ⟨o_v0, ?_⟩
                        refine u_X4_fail ?_
                        refine u_X4_fail_0 ?_
                        refine ⟨o_v0, ?_⟩
                        intro S254 eS254
                        have hI : IV S254 := by rw [eS254]; exact iv_sI hI o_v0 (by decide) (nu_free (by decide))
                        have f0 := fr_I eS254 g0 f0 o_v0 (by decide)
                        have d_x252 := rd_Ik eS254 o_v0 o_a217 (by decide) d_x252
                        have d_x232 := rd_Ij eS254 (by decide) d_x232
                        have d_x242 := rd_Ik eS254 o_v0 o_a217 (by decide) d_x242
                        obtain ⟨y255, hy255⟩ : ∃ z : Int32, z = (6 : Int32) := ⟨_, rfl⟩
                        have d_y255 := rd_Is eS254 hy255
                        have ea217 := rf_I eS254 ea217
                        have hT := tx_I eS254 hT
                        have l_v1 := ln_I eS254 l_v1
                        have g0 := gr_I eS254 g0
                        have o_a217 := ob_I eS254 o_a217
                        have o_v0 := ob_I eS254 o_v0
                        have o_v1 := ob_I eS254 o_v1
                        intro x256 ex256
                        have d_x256 := ex256
                        intro S257 eS257
                        have hI : IV S257 := by rw [eS257]; exact iv_sI hI o_v0 (by decide) (nu_free (by decide))
                        have f0 := fr_I eS257 g0 f0 o_v0 (by decide)
                        have d_x252 := rd_Ik eS257 o_v0 o_a217 (by decide) d_x252
                        have d_x232 := rd_Ij eS257 (by decide) d_x232
                        have d_x242 := rd_Ik eS257 o_v0 o_a217 (by decide) d_x242
                        have d_y255 := rd_Ij eS257 (by decide) d_y255
                        have d_x256 := rd_Ij eS257 (by decide) d_x256
                        obtain ⟨y258, hy258⟩ : ∃ z : Int32, z = x256 := ⟨_, rfl⟩
                        have d_y258 := rd_Is eS257 hy258
                        have ea217 := rf_I eS257 ea217
                        have hT := tx_I eS257 hT
                        have l_v1 := ln_I eS257 l_v1
                        have g0 := gr_I eS257 g0
                        have o_a217 := ob_I eS257 o_a217
                        have o_v0 := ob_I eS257 o_v0
                        have o_v1 := ob_I eS257 o_v1
                        intro _ _
                        refine ⟨fun c260 => ?_, fun c260 => ?_⟩
                        · exact hq _ _ hI g0 f0 (Or.inl rfl)
                        · exact hq _ _ hI g0 f0 (Or.inr rfl)
              · refine m_X4_walkerLine hI o_v0 (fun z hz => by cases ea217.symm.trans hz; rw [← d_x218]; exact (q114 i1u5 c14 bb_x21 c25 bb_x26 c30 bb_x31 c35 bb_x36 c40 bb_x41 c45 r_x218 p_x219 bb_x219 c223)) hT (fun x261 S262 hJ g263 fc264 b_x261 p_x261 => ?_)
                have hT := p_x261
                have hI := hJ
                have l_v1 := (gr_len g263 o_v1).trans l_v1
                have ea217 := (frr_at fc264 (by decide) (by decide) o_v0).trans ea217
                have f0 := fri_tr (S := S220) g0 f0 fc264 (by decide) (by decide)
                have fL8 := fri_tr (S := S220) gL7 fL8 fc264 (by decide) (by decide)
                have o_a217 := gr_ob g263 o_a217
                have o_v0 := gr_ob g263 o_v0
                have o_v1 := gr_ob g263 o_v1
                have g0 := gr_tr (T := S220) g0 g263
                have gL7 := gr_tr (T := S220) gL7 g263
                intro _ _
                have bb_x261 : x261 = 0 ∨ x261 = 1 := b_x261
                refine ⟨fun c265 => ?_, fun c265 => ?_⟩
                · refine u_X4_read_194 ?_
                  refine u_X4_read_195 ?_
                  refine u_X4_read_248 ?_
                  refine ⟨fun c266 => ?_, fun c266 => ?_⟩
                  · refine u_X4_read_295 ?_
                    refine ⟨fun c267 => ?_, fun c267 => ?_⟩
                    · exact hq _ _ hI g0 f0 (Or.inl rfl)
                    · refine ⟨o_v0, ?_⟩
                      refine m_X4_sign hI o_v0 hT (fun x268 S269 hJ g270 fc271 b_x268 p_x268 => ?_)
                      have hT := p_x268
                      have hI := hJ
                      have l_v1 := (gr_len g270 o_v1).trans l_v1
                      have ea217 := (frr_at fc271 (by decide) (by decide) o_v0).trans ea217
                      have f0 := fri_tr (S := S262) g0 f0 fc271 (by decide) (by decide)
                      have fL8 := fri_tr (S := S262) gL7 fL8 fc271 (by decide) (by decide)
                      have o_a217 := gr_ob g270 o_a217
                      have o_v0 := gr_ob g270 o_v0
                      have o_v1 := gr_ob g270 o_v1
                      have g0 := gr_tr (T := S262) g0 g270
                      have gL7 := gr_tr (T := S262) gL7 g270
                      intro _ _
                      have bb_x268 : x268 = 0 ∨ x268 = 1 := b_x268
                      refine ⟨fun c272 => ?_, fun c272 => ?_⟩
                      · intro x273 ex273
                        exact ih13 _ _ _ ⟨hI, gL7, fL8, rfl, hT, (q115 i1u5 c14 bb_x21 c25 bb_x26 c30 bb_x31 c35 bb_x36 c40 bb_x41 c45 r_x218 p_x219 bb_x219 c223 bb_x261 c265 c267 bb_x268 c272 ex273)⟩ (mu_up (q116 i1u5 c14 bb_x21 c25 bb_x26 c30 bb_x31 c35 bb_x36 c40 bb_x41 c45 r_x218 p_x219 bb_x219 c223 bb_x261 c265 c267 bb_x268 c272 ex273) (q117 i1u5 c14 bb_x21 c25 bb_x26 c30 bb_x31 c35 bb_x36 c40 bb_x41 c45 r_x218 p_x219 bb_x219 c223 bb_x261 c265 c267 bb_x268 c272 ex273))
                      · exact hq _ _ hI g0 f0 (Or.inl rfl)
                  · refine ⟨o_v0, ?_⟩
                    intro x274 ex274
                    have d_x274 := ex274
                    refine ⟨fun c275 => ?_, fun c275 => ?_⟩
                    · refine u_X4_read_295 ?_
                      refine ⟨fun c276 => ?_, fun c276 => ?_⟩
                      · exact hq _ _ hI g0 f0 (Or.inl rfl)
                      · refine ⟨o_v0, ?_⟩
                        refine m_X4_sign hI o_v0 hT (fun x277 S278 hJ g279 fc280 b_x277 p_x277 => ?_)
                        have hT := p_x277
                        have hI := hJ
                        have l_v1 := (gr_len g279 o_v1).trans l_v1
                        have ea217 := (frr_at fc280 (by decide) (by decide) o_v0).trans ea217
                        have f0 := fri_tr (S := S262) g0 f0 fc280 (by decide) (by decide)
                        have fL8 := fri_tr (S := S262) gL7 fL8 fc280 (by decide) (by decide)
                        have o_a217 := gr_ob g279 o_a217
                        have o_v0 := gr_ob g279 o_v0
                        have o_v1 := gr_ob g279 o_v1
                        have g0 := gr_tr (T := S262) g0 g279
                        have gL7 := gr_tr (T := S262) gL7 g279
                        intro _ _
                        have bb_x277 : x277 = 0 ∨ x277 = 1 := b_x277
                        refine ⟨fun c281 => ?_, fun c281 => ?_⟩
                        · intro x282 ex282
                          exact ih13 _ _ _ ⟨hI, gL7, fL8, rfl, hT, (q118 i1u5 c14 bb_x21 c25 bb_x26 c30 bb_x31 c35 bb_x36 c40 bb_x41 c45 r_x218 p_x219 bb_x219 c223 bb_x261 c265 c266 c275 c276 bb_x277 c281 ex282)⟩ (mu_up (q119 i1u5 c14 bb_x21 c25 bb_x26 c30 bb_x31 c35 bb_x36 c40 bb_x41 c45 r_x218 p_x219 bb_x219 c223 bb_x261 c265 c266 c275 c276 bb_x277 c281 ex282) (q120 i1u5 c14 bb_x21 c25 bb_x26 c30 bb_x31 c35 bb_x36 c40 bb_x41 c45 r_x218 p_x219 bb_x219 c223 bb_x261 c265 c266 c275 c276 bb_x277 c281 ex282))
                        · exact hq _ _ hI g0 f0 (Or.inl rfl)
                    · refine ⟨a217, ea217, ?_⟩
                      refine ⟨o_a217, ?_⟩
                      intro x284 ex284
                      have r_x284 : (0 : Int32) ≤ x284 ∧ x284 ≤ (8 : Int32) := by rw [ex284]; exact nu 12 rfl hI o_a217
                      have d_x284 := ex284
                      refine ⟨fun c285 => ?_, fun c285 => ?_⟩
                      · refine u_X4_read_280 ?_
                        refine ⟨o_v0, ?_⟩
                        refine u_X4_fail ?_
                        refine u_X4_fail_0 ?_
                        refine ⟨o_v0, ?_⟩
                        intro S286 eS286
                        have hI : IV S286 := by rw [eS286]; exact iv_sI hI o_v0 (by decide) (nu_free (by decide))
                        have f0 := fr_I eS286 g0 f0 o_v0 (by decide)
                        have d_x274 := rd_Ij eS286 (by decide) d_x274
                        have d_x284 := rd_Ik eS286 o_v0 o_a217 (by decide) d_x284
                        obtain ⟨y287, hy287⟩ : ∃ z : Int32, z = (6 : Int32) := ⟨_, rfl⟩
                        have d_y287 := rd_Is eS286 hy287
                        have ea217 := rf_I eS286 ea217
                        have hT := tx_I eS286 hT
                        have l_v1 := ln_I eS286 l_v1
                        have g0 := gr_I eS286 g0
                        have o_a217 := ob_I eS286 o_a217
                        have o_v0 := ob_I eS286 o_v0
                        have o_v1 := ob_I eS286 o_v1
                        intro x288 ex288
                        have d_x288 := ex288
                        intro S289 eS289
                        have hI : IV S289 := by rw [eS289]; exact iv_sI hI o_v0 (by decide) (nu_free (by decide))
                        have f0 := fr_I eS289 g0 f0 o_v0 (by decide)
                        have d_x274 := rd_Ij eS289 (by decide) d_x274
                        have d_x284 := rd_Ik eS289 o_v0 o_a217 (by decide) d_x284
                        have d_y287 := rd_Ij eS289 (by decide) d_y287
                        have d_x288 := rd_Ij eS289 (by decide) d_x288
                        obtain ⟨y290, hy290⟩ : ∃ z : Int32, z = x288 := ⟨_, rfl⟩
                        have d_y290 := rd_Is eS289 hy290
                        have ea217 := rf_I eS289 ea217
                        have hT := tx_I eS289 hT
                        have l_v1 := ln_I eS289 l_v1
                        have g0 := gr_I eS289 g0
                        have o_a217 := ob_I eS289 o_a217
                        have o_v0 := ob_I eS289 o_v0
                        have o_v1 := ob_I eS289 o_v1
                        intro _ _
                        refine ⟨fun c292 => ?_, fun c292 => ?_⟩
                        · exact hq _ _ hI g0 f0 (Or.inl rfl)
                        · exact hq _ _ hI g0 f0 (Or.inr rfl)
                      · refine ⟨a217, ea217, ?_⟩
                        refine ⟨o_a217, ?_⟩
                        intro x294 ex294
                        have r_x294 : (0 : Int32) ≤ x294 ∧ x294 ≤ (4 : Int32) := by rw [ex294]; exact nu 14 rfl hI o_a217
                        have d_x294 := ex294
                        refine ⟨fun c295 => ?_, fun c295 => ?_⟩
                        · exact hq _ _ hI g0 f0 (Or.inr rfl)
                        · refine u_X4_read_280 ?_
                          refine ⟨o_v0, ?_⟩
                          refine u_X4_fail ?_
                          refine u_X4_fail_0 ?_
                          refine ⟨o_v0, ?_⟩
                          intro S296 eS296
                          have hI : IV S296 := by rw [eS296]; exact iv_sI hI o_v0 (by decide) (nu_free (by decide))
                          have f0 := fr_I eS296 g0 f0 o_v0 (by decide)
                          have d_x274 := rd_Ij eS296 (by decide) d_x274
                          have d_x284 := rd_Ik eS296 o_v0 o_a217 (by decide) d_x284
                          have d_x294 := rd_Ik eS296 o_v0 o_a217 (by decide) d_x294
                          obtain ⟨y297, hy297⟩ : ∃ z : Int32, z = (6 : Int32) := ⟨_, rfl⟩
                          have d_y297 := rd_Is eS296 hy297
                          have ea217 := rf_I eS296 ea217
                          have hT := tx_I eS296 hT
                          have l_v1 := ln_I eS296 l_v1
                          have g0 := gr_I eS296 g0
                          have o_a217 := ob_I eS296 o_a217
                          have o_v0 := ob_I eS296 o_v0
                          have o_v1 := ob_I eS296 o_v1
                          intro x298 ex298
                          have d_x298 := ex298
                          intro S299 eS299
                          have hI : IV S299 := by rw [eS299]; exact iv_sI hI o_v0 (by decide) (nu_free (by decide))
                          have f0 := fr_I eS299 g0 f0 o_v0 (by decide)
                          have d_x274 := rd_Ij eS299 (by decide) d_x274
                          have d_x284 := rd_Ik eS299 o_v0 o_a217 (by decide) d_x284
                          have d_x294 := rd_Ik eS299 o_v0 o_a217 (by decide) d_x294
                          have d_y297 := rd_Ij eS299 (by decide) d_y297
                          have d_x298 := rd_Ij eS299 (by decide) d_x298
                          obtain ⟨y300, hy300⟩ : ∃ z : Int32, z = x298 := ⟨_, rfl⟩
                          have d_y300 := rd_Is eS299 hy300
                          have ea217 := rf_I eS299 ea217
                          have hT := tx_I eS299 hT
                          have l_v1 := ln_I eS299 l_v1
                          have g0 := gr_I eS299 g0
                          have o_a217 := ob_I eS299 o_a217
                          have o_v0 := ob_I eS299 o_v0
                          have o_v1 := ob_I eS299 o_v1
                          intro _ _
                          refine ⟨fun c302 => ?_, fun c302 => ?_⟩
                          · exact hq _ _ hI g0 f0 (Or.inl rfl)
                          · exact hq _ _ hI g0 f0 (Or.inr rfl)
                · refine u_X4_read_195 ?_
                  refine u_X4_read_248 ?_
                  refine ⟨fun c303 => ?_, fun c303 => ?_⟩
                  · refine u_X4_read_295 ?_
                    refine ⟨fun c304 => ?_, fun c304 => ?_⟩
                    · exact hq _ _ hI g0 f0 (Or.inl rfl)
                    · refine ⟨o_v0, ?_⟩
                      refine m_X4_sign hI o_v0 hT (fun x305 S306 hJ g307 fc308 b_x305 p_x305 => ?_)
                      have hT := p_x305
                      have hI := hJ
                      have l_v1 := (gr_len g307 o_v1).trans l_v1
                      have ea217 := (frr_at fc308 (by decide) (by decide) o_v0).trans ea217
                      have f0 := fri_tr (S := S262) g0 f0 fc308 (by decide) (by decide)
                      have fL8 := fri_tr (S := S262) gL7 fL8 fc308 (by decide) (by decide)
                      have o_a217 := gr_ob g307 o_a217
                      have o_v0 := gr_ob g307 o_v0
                      have o_v1 := gr_ob g307 o_v1
                      have g0 := gr_tr (T := S262) g0 g307
                      have gL7 := gr_tr (T := S262) gL7 g307
                      intro _ _
                      have bb_x305 : x305 = 0 ∨ x305 = 1 := b_x305
                      refine ⟨fun c309 => ?_, fun c309 => ?_⟩
                      · intro x310 ex310
                        exact ih13 _ _ _ ⟨hI, gL7, fL8, rfl, hT, (q121 i1u5 c14 bb_x21 c25 bb_x26 c30 bb_x31 c35 bb_x36 c40 bb_x41 c45 r_x218 p_x219 bb_x219 c223 bb_x261 c265 c303 bb_x305 c309 ex310)⟩ (mu_up (q122 i1u5 c14 bb_x21 c25 bb_x26 c30 bb_x31 c35 bb_x36 c40 bb_x41 c45 r_x218 p_x219 bb_x219 c223 bb_x261 c265 c303 bb_x305 c309 ex310) (q123 i1u5 c14 bb_x21 c25 bb_x26 c30 bb_x31 c35 bb_x36 c40 bb_x41 c45 r_x218 p_x219 bb_x219 c223 bb_x261 c265 c303 bb_x305 c309 ex310))
                      · exact hq _ _ hI g0 f0 (Or.inl rfl)
                  · refine ⟨o_v0, ?_⟩
                    intro x311 ex311
                    have d_x311 := ex311
                    refine ⟨fun c312 => ?_, fun c312 => ?_⟩
                    · refine u_X4_read_295 ?_
                      refine ⟨fun c313 => ?_, fun c313 => ?_⟩
                      · exact hq _ _ hI g0 f0 (Or.inl rfl)
                      · refine ⟨o_v0, ?_⟩
                        refine m_X4_sign hI o_v0 hT (fun x314 S315 hJ g316 fc317 b_x314 p_x314 => ?_)
                        have hT := p_x314
                        have hI := hJ
                        have l_v1 := (gr_len g316 o_v1).trans l_v1
                        have ea217 := (frr_at fc317 (by decide) (by decide) o_v0).trans ea217
                        have f0 := fri_tr (S := S262) g0 f0 fc317 (by decide) (by decide)
                        have fL8 := fri_tr (S := S262) gL7 fL8 fc317 (by decide) (by decide)
                        have o_a217 := gr_ob g316 o_a217
                        have o_v0 := gr_ob g316 o_v0
                        have o_v1 := gr_ob g316 o_v1
                        have g0 := gr_tr (T := S262) g0 g316
                        have gL7 := gr_tr (T := S262) gL7 g316
                        intro _ _
                        have bb_x314 : x314 = 0 ∨ x314 = 1 := b_x314
                        refine ⟨fun c318 => ?_, fun c318 => ?_⟩
                        · intro x319 ex319
                          exact ih13 _ _ _ ⟨hI, gL7, fL8, rfl, hT, (q124 i1u5 c14 bb_x21 c25 bb_x26 c30 bb_x31 c35 bb_x36 c40 bb_x41 c45 r_x218 p_x219 bb_x219 c223 bb_x261 c265 c312 bb_x314 c318 ex319)⟩ (mu_up (q125 i1u5 c14 bb_x21 c25 bb_x26 c30 bb_x31 c35 bb_x36 c40 bb_x41 c45 r_x218 p_x219 bb_x219 c223 bb_x261 c265 c312 bb_x314 c318 ex319) (q126 i1u5 c14 bb_x21 c25 bb_x26 c30 bb_x31 c35 bb_x36 c40 bb_x41 c45 r_x218 p_x219 bb_x219 c223 bb_x261 c265 c312 bb_x314 c318 ex319))
                        · exact hq _ _ hI g0 f0 (Or.inl rfl)
                    · refine ⟨a217, ea217, ?_⟩
                      refine ⟨o_a217, ?_⟩
                      intro x321 ex321
                      have r_x321 : (0 : Int32) ≤ x321 ∧ x321 ≤ (8 : Int32) := by rw [ex321]; exact nu 12 rfl hI o_a217
                      have d_x321 := ex321
                      refine ⟨fun c322 => ?_, fun c322 => ?_⟩
                      · refine u_X4_read_280 ?_
                        refine ⟨o_v0, ?_⟩
                        refine u_X4_fail ?_
                        refine u_X4_fail_0 ?_
                        refine ⟨o_v0, ?_⟩
                        intro S323 eS323
                        have hI : IV S323 := by rw [eS323]; exact iv_sI hI o_v0 (by decide) (nu_free (by decide))
                        have f0 := fr_I eS323 g0 f0 o_v0 (by decide)
                        have d_x311 := rd_Ij eS323 (by decide) d_x311
                        have d_x321 := rd_Ik eS323 o_v0 o_a217 (by decide) d_x321
                        obtain ⟨y324, hy324⟩ : ∃ z : Int32, z = (6 : Int32) := ⟨_, rfl⟩
                        have d_y324 := rd_Is eS323 hy324
                        have ea217 := rf_I eS323 ea217
                        have hT := tx_I eS323 hT
                        have l_v1 := ln_I eS323 l_v1
                        have g0 := gr_I eS323 g0
                        have o_a217 := ob_I eS323 o_a217
                        have o_v0 := ob_I eS323 o_v0
                        have o_v1 := ob_I eS323 o_v1
                        intro x325 ex325
                        have d_x325 := ex325
                        intro S326 eS326
                        have hI : IV S326 := by rw [eS326]; exact iv_sI hI o_v0 (by decide) (nu_free (by decide))
                        have f0 := fr_I eS326 g0 f0 o_v0 (by decide)
                        have d_x311 := rd_Ij eS326 (by decide) d_x311
                        have d_x321 := rd_Ik eS326 o_v0 o_a217 (by decide) d_x321
                        have d_y324 := rd_Ij eS326 (by decide) d_y324
                        have d_x325 := rd_Ij eS326 (by decide) d_x325
                        obtain ⟨y327, hy327⟩ : ∃ z : Int32, z = x325 := ⟨_, rfl⟩
                        have d_y327 := rd_Is eS326 hy327
                        have ea217 := rf_I eS326 ea217
                        have hT := tx_I eS326 hT
                        have l_v1 := ln_I eS326 l_v1
                        have g0 := gr_I eS326 g0
                        have o_a217 := ob_I eS326 o_a217
                        have o_v0 := ob_I eS326 o_v0
                        have o_v1 := ob_I eS326 o_v1
                        intro _ _
                        refine ⟨fun c329 => ?_, fun c329 => ?_⟩
                        · exact hq _ _ hI g0 f0 (Or.inl rfl)
                        · exact hq _ _ hI g0 f0 (Or.inr rfl)
                      · refine ⟨a217, ea217, ?_⟩
                        refine ⟨o_a217, ?_⟩
                        intro x331 ex331
                        have r_x331 : (0 : Int32) ≤ x331 ∧ x331 ≤ (4 : Int32) := by rw [ex331]; exact nu 14 rfl hI o_a217
                        have d_x331 := ex331
                        refine ⟨fun c332 => ?_, fun c332 => ?_⟩
                        · exact hq _ _ hI g0 f0 (Or.inr rfl)
                        · refine u_X4_read_280 ?_
                          refine ⟨o_v0, ?_⟩
                          refine u_X4_fail ?_
                          refine u_X4_fail_0 ?_
                          refine ⟨o_v0, ?_⟩
                          intro S333 eS333
                          have hI : IV S333 := by rw [eS333]; exact iv_sI hI o_v0 (by decide) (nu_free (by decide))
                          have f0 := fr_I eS333 g0 f0 o_v0 (by decide)
                          have d_x311 := rd_Ij eS333 (by decide) d_x311
                          have d_x321 := rd_Ik eS333 o_v0 o_a217 (by decide) d_x321
                          have d_x331 := rd_Ik eS333 o_v0 o_a217 (by decide) d_x331
                          obtain ⟨y334, hy334⟩ : ∃ z : Int32, z = (6 : Int32) := ⟨_, rfl⟩
                          have d_y334 := rd_Is eS333 hy334
                          have ea217 := rf_I eS333 ea217
                          have hT := tx_I eS333 hT
                          have l_v1 := ln_I eS333 l_v1
                          have g0 := gr_I eS333 g0
                          have o_a217 := ob_I eS333 o_a217
                          have o_v0 := ob_I eS333 o_v0
                          have o_v1 := ob_I eS333 o_v1
                          intro x335 ex335
                          have d_x335 := ex335
                          intro S336 eS336
                          have hI : IV S336 := by rw [eS336]; exact iv_sI hI o_v0 (by decide) (nu_free (by decide))
                          have f0 := fr_I eS336 g0 f0 o_v0 (by decide)
                          have d_x311 := rd_Ij eS336 (by decide) d_x311
                          have d_x321 := rd_Ik eS336 o_v0 o_a217 (by decide) d_x321
                          have d_x331 := rd_Ik eS336 o_v0 o_a217 (by decide) d_x331
                          have d_y334 := rd_Ij eS336 (by decide) d_y334
                          have d_x335 := rd_Ij eS336 (by decide) d_x335
                          obtain ⟨y337, hy337⟩ : ∃ z : Int32, z = x335 := ⟨_, rfl⟩
                          have d_y337 := rd_Is eS336 hy337
                          have ea217 := rf_I eS336 ea217
                          have hT := tx_I eS336 hT
                          have l_v1 := ln_I eS336 l_v1
                          have g0 := gr_I eS336 g0
                          have o_a217 := ob_I eS336 o_a217
                          have o_v0 := ob_I eS336 o_v0
                          have o_v1 := ob_I eS336 o_v1
                          intro _ _
                          refine ⟨fun c339 => ?_, fun c339 => ?_⟩
                          · exact hq _ _ hI g0 f0 (Or.inl rfl)
                          · exact hq _ _ hI g0 f0 (Or.inr rfl)
          · obtain ⟨a340, ea340, o_a340, -⟩ := sh 12 rfl hI o_v0
            refine ⟨a340, ea340, ?_⟩
            refine ⟨o_a340, ?_⟩
            intro x341 ex341
            have r_x341 : (0 : Int32) ≤ x341 ∧ x341 ≤ (12 : Int32) := by rw [ex341]; exact nu 13 rfl hI o_a340
            have d_x341 := ex341
            refine m_X4_hasRoom hI o_v0 hT (fun x342 S343 hJ g344 fc345 b_x342 p_x342 => ?_)
            obtain ⟨hT, p_x342⟩ := p_x342
            have hI := hJ
            have l_v1 := (gr_len g344 o_v1).trans l_v1
            have d_x341 := d_x341.trans (fri_at fc345 (by decide) (by decide) o_a340).symm
            have ea340 := (frr_at fc345 (by decide) (by decide) o_v0).trans ea340
            have f0 := fri_tr (S := S6) g0 f0 fc345 (by decide) (by decide)
            have fL8 := fri_tr (S := S6) gL7 fL8 fc345 (by decide) (by decide)
            have o_a340 := gr_ob g344 o_a340
            have o_v0 := gr_ob g344 o_v0
            have o_v1 := gr_ob g344 o_v1
            have g0 := gr_tr (T := S6) g0 g344
            have gL7 := gr_tr (T := S6) gL7 g344
            intro _ _
            have bb_x342 : x342 = 0 ∨ x342 = 1 := b_x342
            refine ⟨fun c346 => ?_, fun c346 => ?_⟩
            · refine u_X4_read_153 ?_
              refine u_X4_read_154 ?_
              refine u_X4_read_248 ?_
              refine ⟨fun c347 => ?_, fun c347 => ?_⟩
              · refine u_X4_read_295 ?_
                refine ⟨fun c348 => ?_, fun c348 => ?_⟩
                · exact hq _ _ hI g0 f0 (Or.inl rfl)
                · refine ⟨o_v0, ?_⟩
                  refine m_X4_sign hI o_v0 hT (fun x349 S350 hJ g351 fc352 b_x349 p_x349 => ?_)
                  have hT := p_x349
                  have hI := hJ
                  have l_v1 := (gr_len g351 o_v1).trans l_v1
                  have d_x341 := d_x341.trans (fri_at fc352 (by decide) (by decide) o_a340).symm
                  have ea340 := (frr_at fc352 (by decide) (by decide) o_v0).trans ea340
                  have f0 := fri_tr (S := S343) g0 f0 fc352 (by decide) (by decide)
                  have fL8 := fri_tr (S := S343) gL7 fL8 fc352 (by decide) (by decide)
                  have o_a340 := gr_ob g351 o_a340
                  have o_v0 := gr_ob g351 o_v0
                  have o_v1 := gr_ob g351 o_v1
                  have g0 := gr_tr (T := S343) g0 g351
                  have gL7 := gr_tr (T := S343) gL7 g351
                  intro _ _
                  have bb_x349 : x349 = 0 ∨ x349 = 1 := b_x349
                  refine ⟨fun c353 => ?_, fun c353 => ?_⟩
                  · intro x354 ex354
                    exact ih13 _ _ _ ⟨hI, gL7, fL8, rfl, hT, (q127 i1u5 c14 bb_x21 c25 bb_x26 c30 bb_x31 c35 bb_x36 c40 r_x341 p_x342 bb_x342 c346 c348 bb_x349 c353 ex354)⟩ (mu_up (q128 i1u5 c14 bb_x21 c25 bb_x26 c30 bb_x31 c35 bb_x36 c40 r_x341 p_x342 bb_x342 c346 c348 bb_x349 c353 ex354) (q129 i1u5 c14 bb_x21 c25 bb_x26 c30 bb_x31 c35 bb_x36 c40 r_x341 p_x342 bb_x342 c346 c348 bb_x349 c353 ex354))
                  · exact hq _ _ hI g0 f0 (Or.inl rfl)
              · refine ⟨o_v0, ?_⟩
                intro x355 ex355
                have d_x355 := ex355
                refine ⟨fun c356 => ?_, fun c356 => ?_⟩
                · refine u_X4_read_295 ?_
                  refine ⟨fun c357 => ?_, fun c357 => ?_⟩
                  · exact hq _ _ hI g0 f0 (Or.inl rfl)
                  · refine ⟨o_v0, ?_⟩
                    refine m_X4_sign hI o_v0 hT (fun x358 S359 hJ g360 fc361 b_x358 p_x358 => ?_)
                    have hT := p_x358
                    have hI := hJ
                    have l_v1 := (gr_len g360 o_v1).trans l_v1
                    have d_x341 := d_x341.trans (fri_at fc361 (by decide) (by decide) o_a340).symm
                    have ea340 := (frr_at fc361 (by decide) (by decide) o_v0).trans ea340
                    have f0 := fri_tr (S := S343) g0 f0 fc361 (by decide) (by decide)
                    have fL8 := fri_tr (S := S343) gL7 fL8 fc361 (by decide) (by decide)
                    have o_a340 := gr_ob g360 o_a340
                    have o_v0 := gr_ob g360 o_v0
                    have o_v1 := gr_ob g360 o_v1
                    have g0 := gr_tr (T := S343) g0 g360
                    have gL7 := gr_tr (T := S343) gL7 g360
                    intro _ _
                    have bb_x358 : x358 = 0 ∨ x358 = 1 := b_x358
                    refine ⟨fun c362 => ?_, fun c362 => ?_⟩
                    · intro x363 ex363
                      exact ih13 _ _ _ ⟨hI, gL7, fL8, rfl, hT, (q130 i1u5 c14 bb_x21 c25 bb_x26 c30 bb_x31 c35 bb_x36 c40 r_x341 p_x342 bb_x342 c346 c347 c356 c357 bb_x358 c362 ex363)⟩ (mu_up (q131 i1u5 c14 bb_x21 c25 bb_x26 c30 bb_x31 c35 bb_x36 c40 r_x341 p_x342 bb_x342 c346 c347 c356 c357 bb_x358 c362 ex363) (q132 i1u5 c14 bb_x21 c25 bb_x26 c30 bb_x31 c35 bb_x36 c40 r_x341 p_x342 bb_x342 c346 c347 c356 c357 bb_x358 c362 ex363))
                    · exact hq _ _ hI g0 f0 (Or.inl rfl)
                · refine ⟨a340, ea340, ?_⟩
                  refine ⟨o_a340, ?_⟩
                  intro x365 ex365
                  have r_x365 : (0 : Int32) ≤ x365 ∧ x365 ≤ (8 : Int32) := by rw [ex365]; exact nu 12 rfl hI o_a340
                  have d_x365 := ex365
                  refine ⟨fun c366 => ?_, fun c366 => ?_⟩
                  · refine u_X4_read_280 ?_
                    refine ⟨o_v0, ?_⟩
                    refine u_X4_fail ?_
                    refine u_X4_fail_0 ?_
                    refine ⟨o_v0, ?_⟩
                    intro S367 eS367
                    have hI : IV S367 := by rw [eS367]; exact iv_sI hI o_v0 (by decide) (nu_free (by decide))
                    have f0 := fr_I eS367 g0 f0 o_v0 (by decide)
                    have d_x341 := rd_Ik eS367 o_v0 o_a340 (by decide) d_x341
                    have d_x355 := rd_Ij eS367 (by decide) d_x355
                    have d_x365 := rd_Ik eS367 o_v0 o_a340 (by decide) d_x365
                    obtain ⟨y368, hy368⟩ : ∃ z : Int32, z = (6 : Int32) := ⟨_, rfl⟩
                    have d_y368 := rd_Is eS367 hy368
                    have ea340 := rf_I eS367 ea340
                    have hT := tx_I eS367 hT
                    have l_v1 := ln_I eS367 l_v1
                    have g0 := gr_I eS367 g0
                    have o_a340 := ob_I eS367 o_a340
                    have o_v0 := ob_I eS367 o_v0
                    have o_v1 := ob_I eS367 o_v1
                    intro x369 ex369
                    have d_x369 := ex369
                    intro S370 eS370
                    have hI : IV S370 := by rw [eS370]; exact iv_sI hI o_v0 (by decide) (nu_free (by decide))
                    have f0 := fr_I eS370 g0 f0 o_v0 (by decide)
                    have d_x341 := rd_Ik eS370 o_v0 o_a340 (by decide) d_x341
                    have d_x355 := rd_Ij eS370 (by decide) d_x355
                    have d_x365 := rd_Ik eS370 o_v0 o_a340 (by decide) d_x365
                    have d_y368 := rd_Ij eS370 (by decide) d_y368
                    have d_x369 := rd_Ij eS370 (by decide) d_x369
                    obtain ⟨y371, hy371⟩ : ∃ z : Int32, z = x369 := ⟨_, rfl⟩
                    have d_y371 := rd_Is eS370 hy371
                    have ea340 := rf_I eS370 ea340
                    have hT := tx_I eS370 hT
                    have l_v1 := ln_I eS370 l_v1
                    have g0 := gr_I eS370 g0
                    have o_a340 := ob_I eS370 o_a340
                    have o_v0 := ob_I eS370 o_v0
                    have o_v1 := ob_I eS370 o_v1
                    intro _ _
                    refine ⟨fun c373 => ?_, fun c373 => ?_⟩
                    · exact hq _ _ hI g0 f0 (Or.inl rfl)
                    · exact hq _ _ hI g0 f0 (Or.inr rfl)
                  · refine ⟨a340, ea340, ?_⟩
                    refine ⟨o_a340, ?_⟩
                    intro x375 ex375
                    have r_x375 : (0 : Int32) ≤ x375 ∧ x375 ≤ (4 : Int32) := by rw [ex375]; exact nu 14 rfl hI o_a340
                    have d_x375 := ex375
                    refine ⟨fun c376 => ?_, fun c376 => ?_⟩
                    · exact hq _ _ hI g0 f0 (Or.inr rfl)
                    · refine u_X4_read_280 ?_
                      refine ⟨o_v0, ?_⟩
                      refine u_X4_fail ?_
                      refine u_X4_fail_0 ?_
                      refine ⟨o_v0, ?_⟩
                      intro S377 eS377
                      have hI : IV S377 := by rw [eS377]; exact iv_sI hI o_v0 (by decide) (nu_free (by decide))
                      have f0 := fr_I eS377 g0 f0 o_v0 (by decide)
                      have d_x341 := rd_Ik eS377 o_v0 o_a340 (by decide) d_x341
                      have d_x355 := rd_Ij eS377 (by decide) d_x355
                      have d_x365 := rd_Ik eS377 o_v0 o_a340 (by decide) d_x365
                      have d_x375 := rd_Ik eS377 o_v0 o_a340 (by decide) d_x375
                      obtain ⟨y378, hy378⟩ : ∃ z : Int32, z = (6 : Int32) := ⟨_, rfl⟩
                      have d_y378 := rd_Is eS377 hy378
                      have ea340 := rf_I eS377 ea340
                      have hT := tx_I eS377 hT
                      have l_v1 := ln_I eS377 l_v1
                      have g0 := gr_I eS377 g0
                      have o_a340 := ob_I eS377 o_a340
                      have o_v0 := ob_I eS377 o_v0
                      have o_v1 := ob_I eS377 o_v1
                      intro x379 ex379
                      have d_x379 := ex379
                      intro S380 eS380
                      have hI : IV S380 := by rw [eS380]; exact iv_sI hI o_v0 (by decide) (nu_free (by decide))
                      have f0 := fr_I eS380 g0 f0 o_v0 (by decide)
                      have d_x341 := rd_Ik eS380 o_v0 o_a340 (by decide) d_x341
                      have d_x355 := rd_Ij eS380 (by decide) d_x355
                      have d_x365 := rd_Ik eS380 o_v0 o_a340 (by decide) d_x365
                      have d_x375 := rd_Ik eS380 o_v0 o_a340 (by decide) d_x375
                      have d_y378 := rd_Ij eS380 (by decide) d_y378
                      have d_x379 := rd_Ij eS380 (by decide) d_x379
                      obtain ⟨y381, hy381⟩ : ∃ z : Int32, z = x379 := ⟨_, rfl⟩
                      have d_y381 := rd_Is eS380 hy381
                      have ea340 := rf_I eS380 ea340
                      have hT := tx_I eS380 hT
                      have l_v1 := ln_I eS380 l_v1
                      have g0 := gr_I eS380 g0
                      have o_a340 := ob_I eS380 o_a340
                      have o_v0 := ob_I eS380 o_v0
                      have o_v1 := ob_I eS380 o_v1
                      intro _ _
                      refine ⟨fun c383 => ?_, fun c383 => ?_⟩
                      · exact hq _ _ hI g0 f0 (Or.inl rfl)
                      · exact hq _ _ hI g0 f0 (Or.inr rfl)
            · refine m_X4_roadLine hI o_v0 (fun z hz => by cases ea340.symm.trans hz; rw [← d_x341]; exact (q133 i1u5 c14 bb_x21 c25 bb_x26 c30 bb_x31 c35 bb_x36 c40 r_x341 p_x342 bb_x342 c346)) hT (fun x384 S385 hJ g386 fc387 b_x384 p_x384 => ?_)
              have hT := p_x384
              have hI := hJ
              have l_v1 := (gr_len g386 o_v1).trans l_v1
              have ea340 := (frr_at fc387 (by decide) (by decide) o_v0).trans ea340
              have f0 := fri_tr (S := S343) g0 f0 fc387 (by decide) (by decide)
              have fL8 := fri_tr (S := S343) gL7 fL8 fc387 (by decide) (by decide)
              have o_a340 := gr_ob g386 o_a340
              have o_v0 := gr_ob g386 o_v0
              have o_v1 := gr_ob g386 o_v1
              have g0 := gr_tr (T := S343) g0 g386
              have gL7 := gr_tr (T := S343) gL7 g386
              intro _ _
              have bb_x384 : x384 = 0 ∨ x384 = 1 := b_x384
              refine ⟨fun c388 => ?_, fun c388 => ?_⟩
              · refine u_X4_read_153 ?_
                refine u_X4_read_154 ?_
                refine u_X4_read_248 ?_
                refine ⟨fun c389 => ?_, fun c389 => ?_⟩
                · refine u_X4_read_295 ?_
                  refine ⟨fun c390 => ?_, fun c390 => ?_⟩
                  · exact hq _ _ hI g0 f0 (Or.inl rfl)
                  · refine ⟨o_v0, ?_⟩
                    refine m_X4_sign hI o_v0 hT (fun x391 S392 hJ g393 fc394 b_x391 p_x391 => ?_)
                    have hT := p_x391
                    have hI := hJ
                    have l_v1 := (gr_len g393 o_v1).trans l_v1
                    have ea340 := (frr_at fc394 (by decide) (by decide) o_v0).trans ea340
                    have f0 := fri_tr (S := S385) g0 f0 fc394 (by decide) (by decide)
                    have fL8 := fri_tr (S := S385) gL7 fL8 fc394 (by decide) (by decide)
                    have o_a340 := gr_ob g393 o_a340
                    have o_v0 := gr_ob g393 o_v0
                    have o_v1 := gr_ob g393 o_v1
                    have g0 := gr_tr (T := S385) g0 g393
                    have gL7 := gr_tr (T := S385) gL7 g393
                    intro _ _
                    have bb_x391 : x391 = 0 ∨ x391 = 1 := b_x391
                    refine ⟨fun c395 => ?_, fun c395 => ?_⟩
                    · intro x396 ex396
                      exact ih13 _ _ _ ⟨hI, gL7, fL8, rfl, hT, (q134 i1u5 c14 bb_x21 c25 bb_x26 c30 bb_x31 c35 bb_x36 c40 r_x341 p_x342 bb_x342 c346 bb_x384 c388 c390 bb_x391 c395 ex396)⟩ (mu_up (q135 i1u5 c14 bb_x21 c25 bb_x26 c30 bb_x31 c35 bb_x36 c40 r_x341 p_x342 bb_x342 c346 bb_x384 c388 c390 bb_x391 c395 ex396) (q136 i1u5 c14 bb_x21 c25 bb_x26 c30 bb_x31 c35 bb_x36 c40 r_x341 p_x342 bb_x342 c346 bb_x384 c388 c390 bb_x391 c395 ex396))
                    · exact hq _ _ hI g0 f0 (Or.inl rfl)
                · refine ⟨o_v0, ?_⟩
                  intro x397 ex397
                  have d_x397 := ex397
                  refine ⟨fun c398 => ?_, fun c398 => ?_⟩
                  · refine u_X4_read_295 ?_
                    refine ⟨fun c399 => ?_, fun c399 => ?_⟩
                    · exact hq _ _ hI g0 f0 (Or.inl rfl)
                    · refine ⟨o_v0, ?_⟩
                      refine m_X4_sign hI o_v0 hT (fun x400 S401 hJ g402 fc403 b_x400 p_x400 => ?_)
                      have hT := p_x400
                      have hI := hJ
                      have l_v1 := (gr_len g402 o_v1).trans l_v1
                      have ea340 := (frr_at fc403 (by decide) (by decide) o_v0).trans ea340
                      have f0 := fri_tr (S := S385) g0 f0 fc403 (by decide) (by decide)
                      have fL8 := fri_tr (S := S385) gL7 fL8 fc403 (by decide) (by decide)
                      have o_a340 := gr_ob g402 o_a340
                      have o_v0 := gr_ob g402 o_v0
                      have o_v1 := gr_ob g402 o_v1
                      have g0 := gr_tr (T := S385) g0 g402
                      have gL7 := gr_tr (T := S385) gL7 g402
                      intro _ _
                      have bb_x400 : x400 = 0 ∨ x400 = 1 := b_x400
                      refine ⟨fun c404 => ?_, fun c404 => ?_⟩
                      · intro x405 ex405
                        exact ih13 _ _ _ ⟨hI, gL7, fL8, rfl, hT, (q137 i1u5 c14 bb_x21 c25 bb_x26 c30 bb_x31 c35 bb_x36 c40 r_x341 p_x342 bb_x342 c346 bb_x384 c388 c389 c398 c399 bb_x400 c404 ex405)⟩ (mu_up (q138 i1u5 c14 bb_x21 c25 bb_x26 c30 bb_x31 c35 bb_x36 c40 r_x341 p_x342 bb_x342 c346 bb_x384 c388 c389 c398 c399 bb_x400 c404 ex405) (q139 i1u5 c14 bb_x21 c25 bb_x26 c30 bb_x31 c35 bb_x36 c40 r_x341 p_x342 bb_x342 c346 bb_x384 c388 c389 c398 c399 bb_x400 c404 ex405))
                      · exact hq _ _ hI g0 f0 (Or.inl rfl)
                  · refine ⟨a340, ea340, ?_⟩
                    refine ⟨o_a340, ?_⟩
                    intro x407 ex407
                    have r_x407 : (0 : Int32) ≤ x407 ∧ x407 ≤ (8 : Int32) := by rw [ex407]; exact nu 12 rfl hI o_a340
                    have d_x407 := ex407
                    refine ⟨fun c408 => ?_, fun c408 => ?_⟩
                    · refine u_X4_read_280 ?_
                      refine ⟨o_v0, ?_⟩
                      refine u_X4_fail ?_
                      refine u_X4_fail_0 ?_
                      refine ⟨o_v0, ?_⟩
                      intro S409 eS409
                      have hI : IV S409 := by rw [eS409]; exact iv_sI hI o_v0 (by decide) (nu_free (by decide))
                      have f0 := fr_I eS409 g0 f0 o_v0 (by decide)
                      have d_x397 := rd_Ij eS409 (by decide) d_x397
                      have d_x407 := rd_Ik eS409 o_v0 o_a340 (by decide) d_x407
                      obtain ⟨y410, hy410⟩ : ∃ z : Int32, z = (6 : Int32) := ⟨_, rfl⟩
                      have d_y410 := rd_Is eS409 hy410
                      have ea340 := rf_I eS409 ea340
                      have hT := tx_I eS409 hT
                      have l_v1 := ln_I eS409 l_v1
                      have g0 := gr_I eS409 g0
                      have o_a340 := ob_I eS409 o_a340
                      have o_v0 := ob_I eS409 o_v0
                      have o_v1 := ob_I eS409 o_v1
                      intro x411 ex411
                      have d_x411 := ex411
                      intro S412 eS412
                      have hI : IV S412 := by rw [eS412]; exact iv_sI hI o_v0 (by decide) (nu_free (by decide))
                      have f0 := fr_I eS412 g0 f0 o_v0 (by decide)
                      have d_x397 := rd_Ij eS412 (by decide) d_x397
                      have d_x407 := rd_Ik eS412 o_v0 o_a340 (by decide) d_x407
                      have d_y410 := rd_Ij eS412 (by decide) d_y410
                      have d_x411 := rd_Ij eS412 (by decide) d_x411
                      obtain ⟨y413, hy413⟩ : ∃ z : Int32, z = x411 := ⟨_, rfl⟩
                      have d_y413 := rd_Is eS412 hy413
                      have ea340 := rf_I eS412 ea340
                      have hT := tx_I eS412 hT
                      have l_v1 := ln_I eS412 l_v1
                      have g0 := gr_I eS412 g0
                      have o_a340 := ob_I eS412 o_a340
                      have o_v0 := ob_I eS412 o_v0
                      have o_v1 := ob_I eS412 o_v1
                      intro _ _
                      refine ⟨fun c415 => ?_, fun c415 => ?_⟩
                      · exact hq _ _ hI g0 f0 (Or.inl rfl)
                      · exact hq _ _ hI g0 f0 (Or.inr rfl)
                    · refine ⟨a340, ea340, ?_⟩
                      refine ⟨o_a340, ?_⟩
                      intro x417 ex417
                      have r_x417 : (0 : Int32) ≤ x417 ∧ x417 ≤ (4 : Int32) := by rw [ex417]; exact nu 14 rfl hI o_a340
                      have d_x417 := ex417
                      refine ⟨fun c418 => ?_, fun c418 => ?_⟩
                      · exact hq _ _ hI g0 f0 (Or.inr rfl)
                      · refine u_X4_read_280 ?_
                        refine ⟨o_v0, ?_⟩
                        refine u_X4_fail ?_
                        refine u_X4_fail_0 ?_
                        refine ⟨o_v0, ?_⟩
                        intro S419 eS419
                        have hI : IV S419 := by rw [eS419]; exact iv_sI hI o_v0 (by decide) (nu_free (by decide))
                        have f0 := fr_I eS419 g0 f0 o_v0 (by decide)
                        have d_x397 := rd_Ij eS419 (by decide) d_x397
                        have d_x407 := rd_Ik eS419 o_v0 o_a340 (by decide) d_x407
                        have d_x417 := rd_Ik eS419 o_v0 o_a340 (by decide) d_x417
                        obtain ⟨y420, hy420⟩ : ∃ z : Int32, z = (6 : Int32) := ⟨_, rfl⟩
                        have d_y420 := rd_Is eS419 hy420
                        have ea340 := rf_I eS419 ea340
                        have hT := tx_I eS419 hT
                        have l_v1 := ln_I eS419 l_v1
                        have g0 := gr_I eS419 g0
                        have o_a340 := ob_I eS419 o_a340
                        have o_v0 := ob_I eS419 o_v0
                        have o_v1 := ob_I eS419 o_v1
                        intro x421 ex421
                        have d_x421 := ex421
                        intro S422 eS422
                        have hI : IV S422 := by rw [eS422]; exact iv_sI hI o_v0 (by decide) (nu_free (by decide))
                        have f0 := fr_I eS422 g0 f0 o_v0 (by decide)
                        have d_x397 := rd_Ij eS422 (by decide) d_x397
                        have d_x407 := rd_Ik eS422 o_v0 o_a340 (by decide) d_x407
                        have d_x417 := rd_Ik eS422 o_v0 o_a340 (by decide) d_x417
                        have d_y420 := rd_Ij eS422 (by decide) d_y420
                        have d_x421 := rd_Ij eS422 (by decide) d_x421
                        obtain ⟨y423, hy423⟩ : ∃ z : Int32, z = x421 := ⟨_, rfl⟩
                        have d_y423 := rd_Is eS422 hy423
                        have ea340 := rf_I eS422 ea340
                        have hT := tx_I eS422 hT
                        have l_v1 := ln_I eS422 l_v1
                        have g0 := gr_I eS422 g0
                        have o_a340 := ob_I eS422 o_a340
                        have o_v0 := ob_I eS422 o_v0
                        have o_v1 := ob_I eS422 o_v1
                        intro _ _
                        refine ⟨fun c425 => ?_, fun c425 => ?_⟩
                        · exact hq _ _ hI g0 f0 (Or.inl rfl)
                        · exact hq _ _ hI g0 f0 (Or.inr rfl)
              · refine u_X4_read_154 ?_
                refine u_X4_read_248 ?_
                refine ⟨fun c426 => ?_, fun c426 => ?_⟩
                · refine u_X4_read_295 ?_
                  refine ⟨fun c427 => ?_, fun c427 => ?_⟩
                  · exact hq _ _ hI g0 f0 (Or.inl rfl)
                  · refine ⟨o_v0, ?_⟩
                    refine m_X4_sign hI o_v0 hT (fun x428 S429 hJ g430 fc431 b_x428 p_x428 => ?_)
                    have hT := p_x428
                    have hI := hJ
                    have l_v1 := (gr_len g430 o_v1).trans l_v1
                    have ea340 := (frr_at fc431 (by decide) (by decide) o_v0).trans ea340
                    have f0 := fri_tr (S := S385) g0 f0 fc431 (by decide) (by decide)
                    have fL8 := fri_tr (S := S385) gL7 fL8 fc431 (by decide) (by decide)
                    have o_a340 := gr_ob g430 o_a340
                    have o_v0 := gr_ob g430 o_v0
                    have o_v1 := gr_ob g430 o_v1
                    have g0 := gr_tr (T := S385) g0 g430
                    have gL7 := gr_tr (T := S385) gL7 g430
                    intro _ _
                    have bb_x428 : x428 = 0 ∨ x428 = 1 := b_x428
                    refine ⟨fun c432 => ?_, fun c432 => ?_⟩
                    · intro x433 ex433
                      exact ih13 _ _ _ ⟨hI, gL7, fL8, rfl, hT, (q140 i1u5 c14 bb_x21 c25 bb_x26 c30 bb_x31 c35 bb_x36 c40 r_x341 p_x342 bb_x342 c346 bb_x384 c388 c426 bb_x428 c432 ex433)⟩ (mu_up (q141 i1u5 c14 bb_x21 c25 bb_x26 c30 bb_x31 c35 bb_x36 c40 r_x341 p_x342 bb_x342 c346 bb_x384 c388 c426 bb_x428 c432 ex433) (q142 i1u5 c14 bb_x21 c25 bb_x26 c30 bb_x31 c35 bb_x36 c40 r_x341 p_x342 bb_x342 c346 bb_x384 c388 c426 bb_x428 c432 ex433))
                    · exact hq _ _ hI g0 f0 (Or.inl rfl)
                · refine ⟨o_v0, ?_⟩
                  intro x434 ex434
                  have d_x434 := ex434
                  refine ⟨fun c435 => ?_, fun c435 => ?_⟩
                  · refine u_X4_read_295 ?_
                    refine ⟨fun c436 => ?_, fun c436 => ?_⟩
                    · exact hq _ _ hI g0 f0 (Or.inl rfl)
                    · refine ⟨o_v0, ?_⟩
                      refine m_X4_sign hI o_v0 hT (fun x437 S438 hJ g439 fc440 b_x437 p_x437 => ?_)
                      have hT := p_x437
                      have hI := hJ
                      have l_v1 := (gr_len g439 o_v1).trans l_v1
                      have ea340 := (frr_at fc440 (by decide) (by decide) o_v0).trans ea340
                      have f0 := fri_tr (S := S385) g0 f0 fc440 (by decide) (by decide)
                      have fL8 := fri_tr (S := S385) gL7 fL8 fc440 (by decide) (by decide)
                      have o_a340 := gr_ob g439 o_a340
                      have o_v0 := gr_ob g439 o_v0
                      have o_v1 := gr_ob g439 o_v1
                      have g0 := gr_tr (T := S385) g0 g439
                      have gL7 := gr_tr (T := S385) gL7 g439
                      intro _ _
                      have bb_x437 : x437 = 0 ∨ x437 = 1 := b_x437
                      refine ⟨fun c441 => ?_, fun c441 => ?_⟩
                      · intro x442 ex442
                        exact ih13 _ _ _ ⟨hI, gL7, fL8, rfl, hT, (q143 i1u5 c14 bb_x21 c25 bb_x26 c30 bb_x31 c35 bb_x36 c40 r_x341 p_x342 bb_x342 c346 bb_x384 c388 c435 bb_x437 c441 ex442)⟩ (mu_up (q144 i1u5 c14 bb_x21 c25 bb_x26 c30 bb_x31 c35 bb_x36 c40 r_x341 p_x342 bb_x342 c346 bb_x384 c388 c435 bb_x437 c441 ex442) (q145 i1u5 c14 bb_x21 c25 bb_x26 c30 bb_x31 c35 bb_x36 c40 r_x341 p_x342 bb_x342 c346 bb_x384 c388 c435 bb_x437 c441 ex442))
                      · exact hq _ _ hI g0 f0 (Or.inl rfl)
                  · refine ⟨a340, ea340, ?_⟩
                    refine ⟨o_a340, ?_⟩
                    intro x444 ex444
                    have r_x444 : (0 : Int32) ≤ x444 ∧ x444 ≤ (8 : Int32) := by rw [ex444]; exact nu 12 rfl hI o_a340
                    have d_x444 := ex444
                    refine ⟨fun c445 => ?_, fun c445 => ?_⟩
                    · refine u_X4_read_280 ?_
                      refine ⟨o_v0, ?_⟩
                      refine u_X4_fail ?_
                      refine u_X4_fail_0 ?_
                      refine ⟨o_v0, ?_⟩
                      intro S446 eS446
                      have hI : IV S446 := by rw [eS446]; exact iv_sI hI o_v0 (by decide) (nu_free (by decide))
                      have f0 := fr_I eS446 g0 f0 o_v0 (by decide)
                      have d_x434 := rd_Ij eS446 (by decide) d_x434
                      have d_x444 := rd_Ik eS446 o_v0 o_a340 (by decide) d_x444
                      obtain ⟨y447, hy447⟩ : ∃ z : Int32, z = (6 : Int32) := ⟨_, rfl⟩
                      have d_y447 := rd_Is eS446 hy447
                      have ea340 := rf_I eS446 ea340
                      have hT := tx_I eS446 hT
                      have l_v1 := ln_I eS446 l_v1
                      have g0 := gr_I eS446 g0
                      have o_a340 := ob_I eS446 o_a340
                      have o_v0 := ob_I eS446 o_v0
                      have o_v1 := ob_I eS446 o_v1
                      intro x448 ex448
                      have d_x448 := ex448
                      intro S449 eS449
                      have hI : IV S449 := by rw [eS449]; exact iv_sI hI o_v0 (by decide) (nu_free (by decide))
                      have f0 := fr_I eS449 g0 f0 o_v0 (by decide)
                      have d_x434 := rd_Ij eS449 (by decide) d_x434
                      have d_x444 := rd_Ik eS449 o_v0 o_a340 (by decide) d_x444
                      have d_y447 := rd_Ij eS449 (by decide) d_y447
                      have d_x448 := rd_Ij eS449 (by decide) d_x448
                      obtain ⟨y450, hy450⟩ : ∃ z : Int32, z = x448 := ⟨_, rfl⟩
                      have d_y450 := rd_Is eS449 hy450
                      have ea340 := rf_I eS449 ea340
                      have hT := tx_I eS449 hT
                      have l_v1 := ln_I eS449 l_v1
                      have g0 := gr_I eS449 g0
                      have o_a340 := ob_I eS449 o_a340
                      have o_v0 := ob_I eS449 o_v0
                      have o_v1 := ob_I eS449 o_v1
                      intro _ _
                      refine ⟨fun c452 => ?_, fun c452 => ?_⟩
                      · exact hq _ _ hI g0 f0 (Or.inl rfl)
                      · exact hq _ _ hI g0 f0 (Or.inr rfl)
                    · refine ⟨a340, ea340, ?_⟩
                      refine ⟨o_a340, ?_⟩
                      intro x454 ex454
                      have r_x454 : (0 : Int32) ≤ x454 ∧ x454 ≤ (4 : Int32) := by rw [ex454]; exact nu 14 rfl hI o_a340
                      have d_x454 := ex454
                      refine ⟨fun c455 => ?_, fun c455 => ?_⟩
                      · exact hq _ _ hI g0 f0 (Or.inr rfl)
                      · refine u_X4_read_280 ?_
                        refine ⟨o_v0, ?_⟩
                        refine u_X4_fail ?_
                        refine u_X4_fail_0 ?_
                        refine ⟨o_v0, ?_⟩
                        intro S456 eS456
                        have hI : IV S456 := by rw [eS456]; exact iv_sI hI o_v0 (by decide) (nu_free (by decide))
                        have f0 := fr_I eS456 g0 f0 o_v0 (by decide)
                        have d_x434 := rd_Ij eS456 (by decide) d_x434
                        have d_x444 := rd_Ik eS456 o_v0 o_a340 (by decide) d_x444
                        have d_x454 := rd_Ik eS456 o_v0 o_a340 (by decide) d_x454
                        obtain ⟨y457, hy457⟩ : ∃ z : Int32, z = (6 : Int32) := ⟨_, rfl⟩
                        have d_y457 := rd_Is eS456 hy457
                        have ea340 := rf_I eS456 ea340
                        have hT := tx_I eS456 hT
                        have l_v1 := ln_I eS456 l_v1
                        have g0 := gr_I eS456 g0
                        have o_a340 := ob_I eS456 o_a340
                        have o_v0 := ob_I eS456 o_v0
                        have o_v1 := ob_I eS456 o_v1
                        intro x458 ex458
                        have d_x458 := ex458
                        intro S459 eS459
                        have hI : IV S459 := by rw [eS459]; exact iv_sI hI o_v0 (by decide) (nu_free (by decide))
                        have f0 := fr_I eS459 g0 f0 o_v0 (by decide)
                        have d_x434 := rd_Ij eS459 (by decide) d_x434
                        have d_x444 := rd_Ik eS459 o_v0 o_a340 (by decide) d_x444
                        have d_x454 := rd_Ik eS459 o_v0 o_a340 (by decide) d_x454
                        have d_y457 := rd_Ij eS459 (by decide) d_y457
                        have d_x458 := rd_Ij eS459 (by decide) d_x458
                        obtain ⟨y460, hy460⟩ : ∃ z : Int32, z = x458 := ⟨_, rfl⟩
                        have d_y460 := rd_Is eS459 hy460
                        have ea340 := rf_I eS459 ea340
                        have hT := tx_I eS459 hT
                        have l_v1 := ln_I eS459 l_v1
                        have g0 := gr_I eS459 g0
                        have o_a340 := ob_I eS459 o_a340
                        have o_v0 := ob_I eS459 o_v0
                        have o_v1 := ob_I eS459 o_v1
                        intro _ _
                        refine ⟨fun c462 => ?_, fun c462 => ?_⟩
                        · exact hq _ _ hI g0 f0 (Or.inl rfl)
                        · exact hq _ _ hI g0 f0 (Or.inr rfl)
        · obtain ⟨a463, ea463, o_a463, -⟩ := sh 12 rfl hI o_v0
          refine ⟨a463, ea463, ?_⟩
          refine ⟨o_a463, ?_⟩
          intro x464 ex464
          have r_x464 : (0 : Int32) ≤ x464 ∧ x464 ≤ (8 : Int32) := by rw [ex464]; exact nu 12 rfl hI o_a463
          have d_x464 := ex464
          refine m_X4_hasRoom hI o_v0 hT (fun x465 S466 hJ g467 fc468 b_x465 p_x465 => ?_)
          obtain ⟨hT, p_x465⟩ := p_x465
          have hI := hJ
          have l_v1 := (gr_len g467 o_v1).trans l_v1
          have d_x464 := d_x464.trans (fri_at fc468 (by decide) (by decide) o_a463).symm
          have ea463 := (frr_at fc468 (by decide) (by decide) o_v0).trans ea463
          have f0 := fri_tr (S := S6) g0 f0 fc468 (by decide) (by decide)
          have fL8 := fri_tr (S := S6) gL7 fL8 fc468 (by decide) (by decide)
          have o_a463 := gr_ob g467 o_a463
          have o_v0 := gr_ob g467 o_v0
          have o_v1 := gr_ob g467 o_v1
          have g0 := gr_tr (T := S6) g0 g467
          have gL7 := gr_tr (T := S6) gL7 g467
          intro _ _
          have bb_x465 : x465 = 0 ∨ x465 = 1 := b_x465
          refine ⟨fun c469 => ?_, fun c469 => ?_⟩
          · refine u_X4_read_111 ?_
            refine u_X4_read_112 ?_
            refine u_X4_read_248 ?_
            refine ⟨fun c470 => ?_, fun c470 => ?_⟩
            · refine u_X4_read_295 ?_
              refine ⟨fun c471 => ?_, fun c471 => ?_⟩
              · exact hq _ _ hI g0 f0 (Or.inl rfl)
              · refine ⟨o_v0, ?_⟩
                refine m_X4_sign hI o_v0 hT (fun x472 S473 hJ g474 fc475 b_x472 p_x472 => ?_)
                have hT := p_x472
                have hI := hJ
                have l_v1 := (gr_len g474 o_v1).trans l_v1
                have d_x464 := d_x464.trans (fri_at fc475 (by decide) (by decide) o_a463).symm
                have ea463 := (frr_at fc475 (by decide) (by decide) o_v0).trans ea463
                have f0 := fri_tr (S := S466) g0 f0 fc475 (by decide) (by decide)
                have fL8 := fri_tr (S := S466) gL7 fL8 fc475 (by decide) (by decide)
                have o_a463 := gr_ob g474 o_a463
                have o_v0 := gr_ob g474 o_v0
                have o_v1 := gr_ob g474 o_v1
                have g0 := gr_tr (T := S466) g0 g474
                have gL7 := gr_tr (T := S466) gL7 g474
                intro _ _
                have bb_x472 : x472 = 0 ∨ x472 = 1 := b_x472
                refine ⟨fun c476 => ?_, fun c476 => ?_⟩
                · intro x477 ex477
                  exact ih13 _ _ _ ⟨hI, gL7, fL8, rfl, hT, (q146 i1u5 c14 bb_x21 c25 bb_x26 c30 bb_x31 c35 r_x464 p_x465 bb_x465 c469 c471 bb_x472 c476 ex477)⟩ (mu_up (q147 i1u5 c14 bb_x21 c25 bb_x26 c30 bb_x31 c35 r_x464 p_x465 bb_x465 c469 c471 bb_x472 c476 ex477) (q148 i1u5 c14 bb_x21 c25 bb_x26 c30 bb_x31 c35 r_x464 p_x465 bb_x465 c469 c471 bb_x472 c476 ex477))
                · exact hq _ _ hI g0 f0 (Or.inl rfl)
            · refine ⟨o_v0, ?_⟩
              intro x478 ex478
              have d_x478 := ex478
              refine ⟨fun c479 => ?_, fun c479 => ?_⟩
              · refine u_X4_read_295 ?_
                refine ⟨fun c480 => ?_, fun c480 => ?_⟩
                · exact hq _ _ hI g0 f0 (Or.inl rfl)
                · refine ⟨o_v0, ?_⟩
                  refine m_X4_sign hI o_v0 hT (fun x481 S482 hJ g483 fc484 b_x481 p_x481 => ?_)
                  have hT := p_x481
                  have hI := hJ
                  have l_v1 := (gr_len g483 o_v1).trans l_v1
                  have d_x464 := d_x464.trans (fri_at fc484 (by decide) (by decide) o_a463).symm
                  have ea463 := (frr_at fc484 (by decide) (by decide) o_v0).trans ea463
                  have f0 := fri_tr (S := S466) g0 f0 fc484 (by decide) (by decide)
                  have fL8 := fri_tr (S := S466) gL7 fL8 fc484 (by decide) (by decide)
                  have o_a463 := gr_ob g483 o_a463
                  have o_v0 := gr_ob g483 o_v0
                  have o_v1 := gr_ob g483 o_v1
                  have g0 := gr_tr (T := S466) g0 g483
                  have gL7 := gr_tr (T := S466) gL7 g483
                  intro _ _
                  have bb_x481 : x481 = 0 ∨ x481 = 1 := b_x481
                  refine ⟨fun c485 => ?_, fun c485 => ?_⟩
                  · intro x486 ex486
                    exact ih13 _ _ _ ⟨hI, gL7, fL8, rfl, hT, (q149 i1u5 c14 bb_x21 c25 bb_x26 c30 bb_x31 c35 r_x464 p_x465 bb_x465 c469 c470 c479 c480 bb_x481 c485 ex486)⟩ (mu_up (q150 i1u5 c14 bb_x21 c25 bb_x26 c30 bb_x31 c35 r_x464 p_x465 bb_x465 c469 c470 c479 c480 bb_x481 c485 ex486) (q151 i1u5 c14 bb_x21 c25 bb_x26 c30 bb_x31 c35 r_x464 p_x465 bb_x465 c469 c470 c479 c480 bb_x481 c485 ex486))
                  · exact hq _ _ hI g0 f0 (Or.inl rfl)
              · refine ⟨a463, ea463, ?_⟩
                refine ⟨o_a463, ?_⟩
                intro x488 ex488
                have r_x488 : (0 : Int32) ≤ x488 ∧ x488 ≤ (8 : Int32) := by rw [ex488]; exact nu 12 rfl hI o_a463
                have q_x488 : x488 = x464 := ex488.trans d_x464.symm
                have d_x488 := ex488
                refine ⟨fun c489 => ?_, fun c489 => ?_⟩
                · refine u_X4_read_280 ?_
                  refine ⟨o_v0, ?_⟩
                  refine u_X4_fail ?_
                  refine u_X4_fail_0 ?_
                  refine ⟨o_v0, ?_⟩
                  intro S490 eS490
                  have hI : IV S490 := by rw [eS490]; exact iv_sI hI o_v0 (by decide) (nu_free (by decide))
                  have f0 := fr_I eS490 g0 f0 o_v0 (by decide)
                  have d_x488 := rd_Ik eS490 o_v0 o_a463 (by decide) d_x488
                  have d_x478 := rd_Ij eS490 (by decide) d_x478
                  obtain ⟨y491, hy491⟩ : ∃ z : Int32, z = (6 : Int32) := ⟨_, rfl⟩
                  have d_y491 := rd_Is eS490 hy491
                  have ea463 := rf_I eS490 ea463
                  have hT := tx_I eS490 hT
                  have l_v1 := ln_I eS490 l_v1
                  have g0 := gr_I eS490 g0
                  have o_a463 := ob_I eS490 o_a463
                  have o_v0 := ob_I eS490 o_v0
                  have o_v1 := ob_I eS490 o_v1
                  intro x492 ex492
                  have d_x492 := ex492
                  intro S493 eS493
                  have hI : IV S493 := by rw [eS493]; exact iv_sI hI o_v0 (by decide) (nu_free (by decide))
                  have f0 := fr_I eS493 g0 f0 o_v0 (by decide)
                  have d_x488 := rd_Ik eS493 o_v0 o_a463 (by decide) d_x488
                  have d_x478 := rd_Ij eS493 (by decide) d_x478
                  have d_y491 := rd_Ij eS493 (by decide) d_y491
                  have d_x492 := rd_Ij eS493 (by decide) d_x492
                  obtain ⟨y494, hy494⟩ : ∃ z : Int32, z = x492 := ⟨_, rfl⟩
                  have d_y494 := rd_Is eS493 hy494
                  have ea463 := rf_I eS493 ea463
                  have hT := tx_I eS493 hT
                  have l_v1 := ln_I eS493 l_v1
                  have g0 := gr_I eS493 g0
                  have o_a463 := ob_I eS493 o_a463
                  have o_v0 := ob_I eS493 o_v0
                  have o_v1 := ob_I eS493 o_v1
                  intro _ _
                  refine ⟨fun c496 => ?_, fun c496 => ?_⟩
                  · exact hq _ _ hI g0 f0 (Or.inl rfl)
                  · exact hq _ _ hI g0 f0 (Or.inr rfl)
                · refine ⟨a463, ea463, ?_⟩
                  refine ⟨o_a463, ?_⟩
                  intro x498 ex498
                  have r_x498 : (0 : Int32) ≤ x498 ∧ x498 ≤ (4 : Int32) := by rw [ex498]; exact nu 14 rfl hI o_a463
                  have d_x498 := ex498
                  refine ⟨fun c499 => ?_, fun c499 => ?_⟩
                  · exact hq _ _ hI g0 f0 (Or.inr rfl)
                  · refine u_X4_read_280 ?_
                    refine ⟨o_v0, ?_⟩
                    refine u_X4_fail ?_
                    refine u_X4_fail_0 ?_
                    refine ⟨o_v0, ?_⟩
                    intro S500 eS500
                    have hI : IV S500 := by rw [eS500]; exact iv_sI hI o_v0 (by decide) (nu_free (by decide))
                    have f0 := fr_I eS500 g0 f0 o_v0 (by decide)
                    have d_x488 := rd_Ik eS500 o_v0 o_a463 (by decide) d_x488
                    have d_x478 := rd_Ij eS500 (by decide) d_x478
                    have d_x498 := rd_Ik eS500 o_v0 o_a463 (by decide) d_x498
                    obtain ⟨y501, hy501⟩ : ∃ z : Int32, z = (6 : Int32) := ⟨_, rfl⟩
                    have d_y501 := rd_Is eS500 hy501
                    have ea463 := rf_I eS500 ea463
                    have hT := tx_I eS500 hT
                    have l_v1 := ln_I eS500 l_v1
                    have g0 := gr_I eS500 g0
                    have o_a463 := ob_I eS500 o_a463
                    have o_v0 := ob_I eS500 o_v0
                    have o_v1 := ob_I eS500 o_v1
                    intro x502 ex502
                    have d_x502 := ex502
                    intro S503 eS503
                    have hI : IV S503 := by rw [eS503]; exact iv_sI hI o_v0 (by decide) (nu_free (by decide))
                    have f0 := fr_I eS503 g0 f0 o_v0 (by decide)
                    have d_x488 := rd_Ik eS503 o_v0 o_a463 (by decide) d_x488
                    have d_x478 := rd_Ij eS503 (by decide) d_x478
                    have d_x498 := rd_Ik eS503 o_v0 o_a463 (by decide) d_x498
                    have d_y501 := rd_Ij eS503 (by decide) d_y501
                    have d_x502 := rd_Ij eS503 (by decide) d_x502
                    obtain ⟨y504, hy504⟩ : ∃ z : Int32, z = x502 := ⟨_, rfl⟩
                    have d_y504 := rd_Is eS503 hy504
                    have ea463 := rf_I eS503 ea463
                    have hT := tx_I eS503 hT
                    have l_v1 := ln_I eS503 l_v1
                    have g0 := gr_I eS503 g0
                    have o_a463 := ob_I eS503 o_a463
                    have o_v0 := ob_I eS503 o_v0
                    have o_v1 := ob_I eS503 o_v1
                    intro _ _
                    refine ⟨fun c506 => ?_, fun c506 => ?_⟩
                    · exact hq _ _ hI g0 f0 (Or.inl rfl)
                    · exact hq _ _ hI g0 f0 (Or.inr rfl)
          · refine m_X4_placeLine hI o_v0 (fun z hz => by cases ea463.symm.trans hz; rw [← d_x464]; exact (q152 i1u5 c14 bb_x21 c25 bb_x26 c30 bb_x31 c35 r_x464 p_x465 bb_x465 c469)) hT (fun x507 S508 hJ g509 fc510 b_x507 p_x507 => ?_)
            have hT := p_x507
            have hI := hJ
            have l_v1 := (gr_len g509 o_v1).trans l_v1
            have ea463 := (frr_at fc510 (by decide) (by decide) o_v0).trans ea463
            have f0 := fri_tr (S := S466) g0 f0 fc510 (by decide) (by decide)
            have fL8 := fri_tr (S := S466) gL7 fL8 fc510 (by decide) (by decide)
            have o_a463 := gr_ob g509 o_a463
            have o_v0 := gr_ob g509 o_v0
            have o_v1 := gr_ob g509 o_v1
            have g0 := gr_tr (T := S466) g0 g509
            have gL7 := gr_tr (T := S466) gL7 g509
            intro _ _
            have bb_x507 : x507 = 0 ∨ x507 = 1 := b_x507
            refine ⟨fun c511 => ?_, fun c511 => ?_⟩
            · refine u_X4_read_111 ?_
              refine u_X4_read_112 ?_
              refine u_X4_read_248 ?_
              refine ⟨fun c512 => ?_, fun c512 => ?_⟩
              · refine u_X4_read_295 ?_
                refine ⟨fun c513 => ?_, fun c513 => ?_⟩
                · exact hq _ _ hI g0 f0 (Or.inl rfl)
                · refine ⟨o_v0, ?_⟩
                  refine m_X4_sign hI o_v0 hT (fun x514 S515 hJ g516 fc517 b_x514 p_x514 => ?_)
                  have hT := p_x514
                  have hI := hJ
                  have l_v1 := (gr_len g516 o_v1).trans l_v1
                  have ea463 := (frr_at fc517 (by decide) (by decide) o_v0).trans ea463
                  have f0 := fri_tr (S := S508) g0 f0 fc517 (by decide) (by decide)
                  have fL8 := fri_tr (S := S508) gL7 fL8 fc517 (by decide) (by decide)
                  have o_a463 := gr_ob g516 o_a463
                  have o_v0 := gr_ob g516 o_v0
                  have o_v1 := gr_ob g516 o_v1
                  have g0 := gr_tr (T := S508) g0 g516
                  have gL7 := gr_tr (T := S508) gL7 g516
                  intro _ _
                  have bb_x514 : x514 = 0 ∨ x514 = 1 := b_x514
                  refine ⟨fun c518 => ?_, fun c518 => ?_⟩
                  · intro x519 ex519
                    exact ih13 _ _ _ ⟨hI, gL7, fL8, rfl, hT, (q153 i1u5 c14 bb_x21 c25 bb_x26 c30 bb_x31 c35 r_x464 p_x465 bb_x465 c469 bb_x507 c511 c513 bb_x514 c518 ex519)⟩ (mu_up (q154 i1u5 c14 bb_x21 c25 bb_x26 c30 bb_x31 c35 r_x464 p_x465 bb_x465 c469 bb_x507 c511 c513 bb_x514 c518 ex519) (q155 i1u5 c14 bb_x21 c25 bb_x26 c30 bb_x31 c35 r_x464 p_x465 bb_x465 c469 bb_x507 c511 c513 bb_x514 c518 ex519))
                  · exact hq _ _ hI g0 f0 (Or.inl rfl)
              · refine ⟨o_v0, ?_⟩
                intro x520 ex520
                have d_x520 := ex520
                refine ⟨fun c521 => ?_, fun c521 => ?_⟩
                · refine u_X4_read_295 ?_
                  refine ⟨fun c522 => ?_, fun c522 => ?_⟩
                  · exact hq _ _ hI g0 f0 (Or.inl rfl)
                  · refine ⟨o_v0, ?_⟩
                    refine m_X4_sign hI o_v0 hT (fun x523 S524 hJ g525 fc526 b_x523 p_x523 => ?_)
                    have hT := p_x523
                    have hI := hJ
                    have l_v1 := (gr_len g525 o_v1).trans l_v1
                    have ea463 := (frr_at fc526 (by decide) (by decide) o_v0).trans ea463
                    have f0 := fri_tr (S := S508) g0 f0 fc526 (by decide) (by decide)
                    have fL8 := fri_tr (S := S508) gL7 fL8 fc526 (by decide) (by decide)
                    have o_a463 := gr_ob g525 o_a463
                    have o_v0 := gr_ob g525 o_v0
                    have o_v1 := gr_ob g525 o_v1
                    have g0 := gr_tr (T := S508) g0 g525
                    have gL7 := gr_tr (T := S508) gL7 g525
                    intro _ _
                    have bb_x523 : x523 = 0 ∨ x523 = 1 := b_x523
                    refine ⟨fun c527 => ?_, fun c527 => ?_⟩
                    · intro x528 ex528
                      exact ih13 _ _ _ ⟨hI, gL7, fL8, rfl, hT, (q156 i1u5 c14 bb_x21 c25 bb_x26 c30 bb_x31 c35 r_x464 p_x465 bb_x465 c469 bb_x507 c511 c512 c521 c522 bb_x523 c527 ex528)⟩ (mu_up (q157 i1u5 c14 bb_x21 c25 bb_x26 c30 bb_x31 c35 r_x464 p_x465 bb_x465 c469 bb_x507 c511 c512 c521 c522 bb_x523 c527 ex528) (q158 i1u5 c14 bb_x21 c25 bb_x26 c30 bb_x31 c35 r_x464 p_x465 bb_x465 c469 bb_x507 c511 c512 c521 c522 bb_x523 c527 ex528))
                    · exact hq _ _ hI g0 f0 (Or.inl rfl)
                · refine ⟨a463, ea463, ?_⟩
                  refine ⟨o_a463, ?_⟩
                  intro x530 ex530
                  have r_x530 : (0 : Int32) ≤ x530 ∧ x530 ≤ (8 : Int32) := by rw [ex530]; exact nu 12 rfl hI o_a463
                  have d_x530 := ex530
                  refine ⟨fun c531 => ?_, fun c531 => ?_⟩
                  · refine u_X4_read_280 ?_
                    refine ⟨o_v0, ?_⟩
                    refine u_X4_fail ?_
                    refine u_X4_fail_0 ?_
                    refine ⟨o_v0, ?_⟩
                    intro S532 eS532
                    have hI : IV S532 := by rw [eS532]; exact iv_sI hI o_v0 (by decide) (nu_free (by decide))
                    have f0 := fr_I eS532 g0 f0 o_v0 (by decide)
                    have d_x520 := rd_Ij eS532 (by decide) d_x520
                    have d_x530 := rd_Ik eS532 o_v0 o_a463 (by decide) d_x530
                    obtain ⟨y533, hy533⟩ : ∃ z : Int32, z = (6 : Int32) := ⟨_, rfl⟩
                    have d_y533 := rd_Is eS532 hy533
                    have ea463 := rf_I eS532 ea463
                    have hT := tx_I eS532 hT
                    have l_v1 := ln_I eS532 l_v1
                    have g0 := gr_I eS532 g0
                    have o_a463 := ob_I eS532 o_a463
                    have o_v0 := ob_I eS532 o_v0
                    have o_v1 := ob_I eS532 o_v1
                    intro x534 ex534
                    have d_x534 := ex534
                    intro S535 eS535
                    have hI : IV S535 := by rw [eS535]; exact iv_sI hI o_v0 (by decide) (nu_free (by decide))
                    have f0 := fr_I eS535 g0 f0 o_v0 (by decide)
                    have d_x520 := rd_Ij eS535 (by decide) d_x520
                    have d_x530 := rd_Ik eS535 o_v0 o_a463 (by decide) d_x530
                    have d_y533 := rd_Ij eS535 (by decide) d_y533
                    have d_x534 := rd_Ij eS535 (by decide) d_x534
                    obtain ⟨y536, hy536⟩ : ∃ z : Int32, z = x534 := ⟨_, rfl⟩
                    have d_y536 := rd_Is eS535 hy536
                    have ea463 := rf_I eS535 ea463
                    have hT := tx_I eS535 hT
                    have l_v1 := ln_I eS535 l_v1
                    have g0 := gr_I eS535 g0
                    have o_a463 := ob_I eS535 o_a463
                    have o_v0 := ob_I eS535 o_v0
                    have o_v1 := ob_I eS535 o_v1
                    intro _ _
                    refine ⟨fun c538 => ?_, fun c538 => ?_⟩
                    · exact hq _ _ hI g0 f0 (Or.inl rfl)
                    · exact hq _ _ hI g0 f0 (Or.inr rfl)
                  · refine ⟨a463, ea463, ?_⟩
                    refine ⟨o_a463, ?_⟩
                    intro x540 ex540
                    have r_x540 : (0 : Int32) ≤ x540 ∧ x540 ≤ (4 : Int32) := by rw [ex540]; exact nu 14 rfl hI o_a463
                    have d_x540 := ex540
                    refine ⟨fun c541 => ?_, fun c541 => ?_⟩
                    · exact hq _ _ hI g0 f0 (Or.inr rfl)
                    · refine u_X4_read_280 ?_
                      refine ⟨o_v0, ?_⟩
                      refine u_X4_fail ?_
                      refine u_X4_fail_0 ?_
                      refine ⟨o_v0, ?_⟩
                      intro S542 eS542
                      have hI : IV S542 := by rw [eS542]; exact iv_sI hI o_v0 (by decide) (nu_free (by decide))
                      have f0 := fr_I eS542 g0 f0 o_v0 (by decide)
                      have d_x520 := rd_Ij eS542 (by decide) d_x520
                      have d_x530 := rd_Ik eS542 o_v0 o_a463 (by decide) d_x530
                      have d_x540 := rd_Ik eS542 o_v0 o_a463 (by decide) d_x540
                      obtain ⟨y543, hy543⟩ : ∃ z : Int32, z = (6 : Int32) := ⟨_, rfl⟩
                      have d_y543 := rd_Is eS542 hy543
                      have ea463 := rf_I eS542 ea463
                      have hT := tx_I eS542 hT
                      have l_v1 := ln_I eS542 l_v1
                      have g0 := gr_I eS542 g0
                      have o_a463 := ob_I eS542 o_a463
                      have o_v0 := ob_I eS542 o_v0
                      have o_v1 := ob_I eS542 o_v1
                      intro x544 ex544
                      have d_x544 := ex544
                      intro S545 eS545
                      have hI : IV S545 := by rw [eS545]; exact iv_sI hI o_v0 (by decide) (nu_free (by decide))
                      have f0 := fr_I eS545 g0 f0 o_v0 (by decide)
                      have d_x520 := rd_Ij eS545 (by decide) d_x520
                      have d_x530 := rd_Ik eS545 o_v0 o_a463 (by decide) d_x530
                      have d_x540 := rd_Ik eS545 o_v0 o_a463 (by decide) d_x540
                      have d_y543 := rd_Ij eS545 (by decide) d_y543
                      have d_x544 := rd_Ij eS545 (by decide) d_x544
                      obtain ⟨y546, hy546⟩ : ∃ z : Int32, z = x544 := ⟨_, rfl⟩
                      have d_y546 := rd_Is eS545 hy546
                      have ea463 := rf_I eS545 ea463
                      have hT := tx_I eS545 hT
                      have l_v1 := ln_I eS545 l_v1
                      have g0 := gr_I eS545 g0
                      have o_a463 := ob_I eS545 o_a463
                      have o_v0 := ob_I eS545 o_v0
                      have o_v1 := ob_I eS545 o_v1
                      intro _ _
                      refine ⟨fun c548 => ?_, fun c548 => ?_⟩
                      · exact hq _ _ hI g0 f0 (Or.inl rfl)
                      · exact hq _ _ hI g0 f0 (Or.inr rfl)
            · refine u_X4_read_112 ?_
              refine u_X4_read_248 ?_
              refine ⟨fun c549 => ?_, fun c549 => ?_⟩
              · refine u_X4_read_295 ?_
                refine ⟨fun c550 => ?_, fun c550 => ?_⟩
                · exact hq _ _ hI g0 f0 (Or.inl rfl)
                · refine ⟨o_v0, ?_⟩
                  refine m_X4_sign hI o_v0 hT (fun x551 S552 hJ g553 fc554 b_x551 p_x551 => ?_)
                  have hT := p_x551
                  have hI := hJ
                  have l_v1 := (gr_len g553 o_v1).trans l_v1
                  have ea463 := (frr_at fc554 (by decide) (by decide) o_v0).trans ea463
                  have f0 := fri_tr (S := S508) g0 f0 fc554 (by decide) (by decide)
                  have fL8 := fri_tr (S := S508) gL7 fL8 fc554 (by decide) (by decide)
                  have o_a463 := gr_ob g553 o_a463
                  have o_v0 := gr_ob g553 o_v0
                  have o_v1 := gr_ob g553 o_v1
                  have g0 := gr_tr (T := S508) g0 g553
                  have gL7 := gr_tr (T := S508) gL7 g553
                  intro _ _
                  have bb_x551 : x551 = 0 ∨ x551 = 1 := b_x551
                  refine ⟨fun c555 => ?_, fun c555 => ?_⟩
                  · intro x556 ex556
                    exact ih13 _ _ _ ⟨hI, gL7, fL8, rfl, hT, (q159 i1u5 c14 bb_x21 c25 bb_x26 c30 bb_x31 c35 r_x464 p_x465 bb_x465 c469 bb_x507 c511 c549 bb_x551 c555 ex556)⟩ (mu_up (q160 i1u5 c14 bb_x21 c25 bb_x26 c30 bb_x31 c35 r_x464 p_x465 bb_x465 c469 bb_x507 c511 c549 bb_x551 c555 ex556) (q161 i1u5 c14 bb_x21 c25 bb_x26 c30 bb_x31 c35 r_x464 p_x465 bb_x465 c469 bb_x507 c511 c549 bb_x551 c555 ex556))
                  · exact hq _ _ hI g0 f0 (Or.inl rfl)
              · refine ⟨o_v0, ?_⟩
                intro x557 ex557
                have d_x557 := ex557
                refine ⟨fun c558 => ?_, fun c558 => ?_⟩
                · refine u_X4_read_295 ?_
                  refine ⟨fun c559 => ?_, fun c559 => ?_⟩
                  · exact hq _ _ hI g0 f0 (Or.inl rfl)
                  · refine ⟨o_v0, ?_⟩
                    refine m_X4_sign hI o_v0 hT (fun x560 S561 hJ g562 fc563 b_x560 p_x560 => ?_)
                    have hT := p_x560
                    have hI := hJ
                    have l_v1 := (gr_len g562 o_v1).trans l_v1
                    have ea463 := (frr_at fc563 (by decide) (by decide) o_v0).trans ea463
                    have f0 := fri_tr (S := S508) g0 f0 fc563 (by decide) (by decide)
                    have fL8 := fri_tr (S := S508) gL7 fL8 fc563 (by decide) (by decide)
                    have o_a463 := gr_ob g562 o_a463
                    have o_v0 := gr_ob g562 o_v0
                    have o_v1 := gr_ob g562 o_v1
                    have g0 := gr_tr (T := S508) g0 g562
                    have gL7 := gr_tr (T := S508) gL7 g562
                    intro _ _
                    have bb_x560 : x560 = 0 ∨ x560 = 1 := b_x560
                    refine ⟨fun c564 => ?_, fun c564 => ?_⟩
                    · intro x565 ex565
                      exact ih13 _ _ _ ⟨hI, gL7, fL8, rfl, hT, (q162 i1u5 c14 bb_x21 c25 bb_x26 c30 bb_x31 c35 r_x464 p_x465 bb_x465 c469 bb_x507 c511 c558 bb_x560 c564 ex565)⟩ (mu_up (q163 i1u5 c14 bb_x21 c25 bb_x26 c30 bb_x31 c35 r_x464 p_x465 bb_x465 c469 bb_x507 c511 c558 bb_x560 c564 ex565) (q164 i1u5 c14 bb_x21 c25 bb_x26 c30 bb_x31 c35 r_x464 p_x465 bb_x465 c469 bb_x507 c511 c558 bb_x560 c564 ex565))
                    · exact hq _ _ hI g0 f0 (Or.inl rfl)
                · refine ⟨a463, ea463, ?_⟩
                  refine ⟨o_a463, ?_⟩
                  intro x567 ex567
                  have r_x567 : (0 : Int32) ≤ x567 ∧ x567 ≤ (8 : Int32) := by rw [ex567]; exact nu 12 rfl hI o_a463
                  have d_x567 := ex567
                  refine ⟨fun c568 => ?_, fun c568 => ?_⟩
                  · refine u_X4_read_280 ?_
                    refine ⟨o_v0, ?_⟩
                    refine u_X4_fail ?_
                    refine u_X4_fail_0 ?_
                    refine ⟨o_v0, ?_⟩
                    intro S569 eS569
                    have hI : IV S569 := by rw [eS569]; exact iv_sI hI o_v0 (by decide) (nu_free (by decide))
                    have f0 := fr_I eS569 g0 f0 o_v0 (by decide)
                    have d_x557 := rd_Ij eS569 (by decide) d_x557
                    have d_x567 := rd_Ik eS569 o_v0 o_a463 (by decide) d_x567
                    obtain ⟨y570, hy570⟩ : ∃ z : Int32, z = (6 : Int32) := ⟨_, rfl⟩
                    have d_y570 := rd_Is eS569 hy570
                    have ea463 := rf_I eS569 ea463
                    have hT := tx_I eS569 hT
                    have l_v1 := ln_I eS569 l_v1
                    have g0 := gr_I eS569 g0
                    have o_a463 := ob_I eS569 o_a463
                    have o_v0 := ob_I eS569 o_v0
                    have o_v1 := ob_I eS569 o_v1
                    intro x571 ex571
                    have d_x571 := ex571
                    intro S572 eS572
                    have hI : IV S572 := by rw [eS572]; exact iv_sI hI o_v0 (by decide) (nu_free (by decide))
                    have f0 := fr_I eS572 g0 f0 o_v0 (by decide)
                    have d_x557 := rd_Ij eS572 (by decide) d_x557
                    have d_x567 := rd_Ik eS572 o_v0 o_a463 (by decide) d_x567
                    have d_y570 := rd_Ij eS572 (by decide) d_y570
                    have d_x571 := rd_Ij eS572 (by decide) d_x571
                    obtain ⟨y573, hy573⟩ : ∃ z : Int32, z = x571 := ⟨_, rfl⟩
                    have d_y573 := rd_Is eS572 hy573
                    have ea463 := rf_I eS572 ea463
                    have hT := tx_I eS572 hT
                    have l_v1 := ln_I eS572 l_v1
                    have g0 := gr_I eS572 g0
                    have o_a463 := ob_I eS572 o_a463
                    have o_v0 := ob_I eS572 o_v0
                    have o_v1 := ob_I eS572 o_v1
                    intro _ _
                    refine ⟨fun c575 => ?_, fun c575 => ?_⟩
                    · exact hq _ _ hI g0 f0 (Or.inl rfl)
                    · exact hq _ _ hI g0 f0 (Or.inr rfl)
                  · refine ⟨a463, ea463, ?_⟩
                    refine ⟨o_a463, ?_⟩
                    intro x577 ex577
                    have r_x577 : (0 : Int32) ≤ x577 ∧ x577 ≤ (4 : Int32) := by rw [ex577]; exact nu 14 rfl hI o_a463
                    have d_x577 := ex577
                    refine ⟨fun c578 => ?_, fun c578 => ?_⟩
                    · exact hq _ _ hI g0 f0 (Or.inr rfl)
                    · refine u_X4_read_280 ?_
                      refine ⟨o_v0, ?_⟩
                      refine u_X4_fail ?_
                      refine u_X4_fail_0 ?_
                      refine ⟨o_v0, ?_⟩
                      intro S579 eS579
                      have hI : IV S579 := by rw [eS579]; exact iv_sI hI o_v0 (by decide) (nu_free (by decide))
                      have f0 := fr_I eS579 g0 f0 o_v0 (by decide)
                      have d_x557 := rd_Ij eS579 (by decide) d_x557
                      have d_x567 := rd_Ik eS579 o_v0 o_a463 (by decide) d_x567
                      have d_x577 := rd_Ik eS579 o_v0 o_a463 (by decide) d_x577
                      obtain ⟨y580, hy580⟩ : ∃ z : Int32, z = (6 : Int32) := ⟨_, rfl⟩
                      have d_y580 := rd_Is eS579 hy580
                      have ea463 := rf_I eS579 ea463
                      have hT := tx_I eS579 hT
                      have l_v1 := ln_I eS579 l_v1
                      have g0 := gr_I eS579 g0
                      have o_a463 := ob_I eS579 o_a463
                      have o_v0 := ob_I eS579 o_v0
                      have o_v1 := ob_I eS579 o_v1
                      intro x581 ex581
                      have d_x581 := ex581
                      intro S582 eS582
                      have hI : IV S582 := by rw [eS582]; exact iv_sI hI o_v0 (by decide) (nu_free (by decide))
                      have f0 := fr_I eS582 g0 f0 o_v0 (by decide)
                      have d_x557 := rd_Ij eS582 (by decide) d_x557
                      have d_x567 := rd_Ik eS582 o_v0 o_a463 (by decide) d_x567
                      have d_x577 := rd_Ik eS582 o_v0 o_a463 (by decide) d_x577
                      have d_y580 := rd_Ij eS582 (by decide) d_y580
                      have d_x581 := rd_Ij eS582 (by decide) d_x581
                      obtain ⟨y583, hy583⟩ : ∃ z : Int32, z = x581 := ⟨_, rfl⟩
                      have d_y583 := rd_Is eS582 hy583
                      have ea463 := rf_I eS582 ea463
                      have hT := tx_I eS582 hT
                      have l_v1 := ln_I eS582 l_v1
                      have g0 := gr_I eS582 g0
                      have o_a463 := ob_I eS582 o_a463
                      have o_v0 := ob_I eS582 o_v0
                      have o_v1 := ob_I eS582 o_v1
                      intro _ _
                      refine ⟨fun c585 => ?_, fun c585 => ?_⟩
                      · exact hq _ _ hI g0 f0 (Or.inl rfl)
                      · exact hq _ _ hI g0 f0 (Or.inr rfl)
      · obtain ⟨a586, ea586, o_a586, -⟩ := sh 12 rfl hI o_v0
        refine ⟨a586, ea586, ?_⟩
        refine ⟨o_a586, ?_⟩
        intro x587 ex587
        have r_x587 : (0 : Int32) ≤ x587 ∧ x587 ≤ (6 : Int32) := by rw [ex587]; exact nu 11 rfl hI o_a586
        have d_x587 := ex587
        refine m_X4_hasRoom hI o_v0 hT (fun x588 S589 hJ g590 fc591 b_x588 p_x588 => ?_)
        obtain ⟨hT, p_x588⟩ := p_x588
        have hI := hJ
        have l_v1 := (gr_len g590 o_v1).trans l_v1
        have d_x587 := d_x587.trans (fri_at fc591 (by decide) (by decide) o_a586).symm
        have ea586 := (frr_at fc591 (by decide) (by decide) o_v0).trans ea586
        have f0 := fri_tr (S := S6) g0 f0 fc591 (by decide) (by decide)
        have fL8 := fri_tr (S := S6) gL7 fL8 fc591 (by decide) (by decide)
        have o_a586 := gr_ob g590 o_a586
        have o_v0 := gr_ob g590 o_v0
        have o_v1 := gr_ob g590 o_v1
        have g0 := gr_tr (T := S6) g0 g590
        have gL7 := gr_tr (T := S6) gL7 g590
        intro _ _
        have bb_x588 : x588 = 0 ∨ x588 = 1 := b_x588
        refine ⟨fun c592 => ?_, fun c592 => ?_⟩
        · refine u_X4_read_69 ?_
          refine u_X4_read_70 ?_
          refine u_X4_read_248 ?_
          refine ⟨fun c593 => ?_, fun c593 => ?_⟩
          · refine u_X4_read_295 ?_
            refine ⟨fun c594 => ?_, fun c594 => ?_⟩
            · exact hq _ _ hI g0 f0 (Or.inl rfl)
            · refine ⟨o_v0, ?_⟩
              refine m_X4_sign hI o_v0 hT (fun x595 S596 hJ g597 fc598 b_x595 p_x595 => ?_)
              have hT := p_x595
              have hI := hJ
              have l_v1 := (gr_len g597 o_v1).trans l_v1
              have d_x587 := d_x587.trans (fri_at fc598 (by decide) (by decide) o_a586).symm
              have ea586 := (frr_at fc598 (by decide) (by decide) o_v0).trans ea586
              have f0 := fri_tr (S := S589) g0 f0 fc598 (by decide) (by decide)
              have fL8 := fri_tr (S := S589) gL7 fL8 fc598 (by decide) (by decide)
              have o_a586 := gr_ob g597 o_a586
              have o_v0 := gr_ob g597 o_v0
              have o_v1 := gr_ob g597 o_v1
              have g0 := gr_tr (T := S589) g0 g597
              have gL7 := gr_tr (T := S589) gL7 g597
              intro _ _
              have bb_x595 : x595 = 0 ∨ x595 = 1 := b_x595
              refine ⟨fun c599 => ?_, fun c599 => ?_⟩
              · intro x600 ex600
                exact ih13 _ _ _ ⟨hI, gL7, fL8, rfl, hT, (q165 i1u5 c14 bb_x21 c25 bb_x26 c30 r_x587 p_x588 bb_x588 c592 c594 bb_x595 c599 ex600)⟩ (mu_up (q166 i1u5 c14 bb_x21 c25 bb_x26 c30 r_x587 p_x588 bb_x588 c592 c594 bb_x595 c599 ex600) (q167 i1u5 c14 bb_x21 c25 bb_x26 c30 r_x587 p_x588 bb_x588 c592 c594 bb_x595 c599 ex600))
              · exact hq _ _ hI g0 f0 (Or.inl rfl)
          · refine ⟨o_v0, ?_⟩
            intro x601 ex601
            have d_x601 := ex601
            refine ⟨fun c602 => ?_, fun c602 => ?_⟩
            · refine u_X4_read_295 ?_
              refine ⟨fun c603 => ?_, fun c603 => ?_⟩
              · exact hq _ _ hI g0 f0 (Or.inl rfl)
              · refine ⟨o_v0, ?_⟩
                refine m_X4_sign hI o_v0 hT (fun x604 S605 hJ g606 fc607 b_x604 p_x604 => ?_)
                have hT := p_x604
                have hI := hJ
                have l_v1 := (gr_len g606 o_v1).trans l_v1
                have d_x587 := d_x587.trans (fri_at fc607 (by decide) (by decide) o_a586).symm
                have ea586 := (frr_at fc607 (by decide) (by decide) o_v0).trans ea586
                have f0 := fri_tr (S := S589) g0 f0 fc607 (by decide) (by decide)
                have fL8 := fri_tr (S := S589) gL7 fL8 fc607 (by decide) (by decide)
                have o_a586 := gr_ob g606 o_a586
                have o_v0 := gr_ob g606 o_v0
                have o_v1 := gr_ob g606 o_v1
                have g0 := gr_tr (T := S589) g0 g606
                have gL7 := gr_tr (T := S589) gL7 g606
                intro _ _
                have bb_x604 : x604 = 0 ∨ x604 = 1 := b_x604
                refine ⟨fun c608 => ?_, fun c608 => ?_⟩
                · intro x609 ex609
                  exact ih13 _ _ _ ⟨hI, gL7, fL8, rfl, hT, (q168 i1u5 c14 bb_x21 c25 bb_x26 c30 r_x587 p_x588 bb_x588 c592 c593 c602 c603 bb_x604 c608 ex609)⟩ (mu_up (q169 i1u5 c14 bb_x21 c25 bb_x26 c30 r_x587 p_x588 bb_x588 c592 c593 c602 c603 bb_x604 c608 ex609) (q170 i1u5 c14 bb_x21 c25 bb_x26 c30 r_x587 p_x588 bb_x588 c592 c593 c602 c603 bb_x604 c608 ex609))
                · exact hq _ _ hI g0 f0 (Or.inl rfl)
            · refine ⟨a586, ea586, ?_⟩
              refine ⟨o_a586, ?_⟩
              intro x611 ex611
              have r_x611 : (0 : Int32) ≤ x611 ∧ x611 ≤ (8 : Int32) := by rw [ex611]; exact nu 12 rfl hI o_a586
              have d_x611 := ex611
              refine ⟨fun c612 => ?_, fun c612 => ?_⟩
              · refine u_X4_read_280 ?_
                refine ⟨o_v0, ?_⟩
                refine u_X4_fail ?_
                refine u_X4_fail_0 ?_
                refine ⟨o_v0, ?_⟩
                intro S613 eS613
                have hI : IV S613 := by rw [eS613]; exact iv_sI hI o_v0 (by decide) (nu_free (by decide))
                have f0 := fr_I eS613 g0 f0 o_v0 (by decide)
                have d_x587 := rd_Ik eS613 o_v0 o_a586 (by decide) d_x587
                have d_x601 := rd_Ij eS613 (by decide) d_x601
                have d_x611 := rd_Ik eS613 o_v0 o_a586 (by decide) d_x611
                obtain ⟨y614, hy614⟩ : ∃ z : Int32, z = (6 : Int32) := ⟨_, rfl⟩
                have d_y614 := rd_Is eS613 hy614
                have ea586 := rf_I eS613 ea586
                have hT := tx_I eS613 hT
                have l_v1 := ln_I eS613 l_v1
                have g0 := gr_I eS613 g0
                have o_a586 := ob_I eS613 o_a586
                have o_v0 := ob_I eS613 o_v0
                have o_v1 := ob_I eS613 o_v1
                intro x615 ex615
                have d_x615 := ex615
                intro S616 eS616
                have hI : IV S616 := by rw [eS616]; exact iv_sI hI o_v0 (by decide) (nu_free (by decide))
                have f0 := fr_I eS616 g0 f0 o_v0 (by decide)
                have d_x587 := rd_Ik eS616 o_v0 o_a586 (by decide) d_x587
                have d_x601 := rd_Ij eS616 (by decide) d_x601
                have d_x611 := rd_Ik eS616 o_v0 o_a586 (by decide) d_x611
                have d_y614 := rd_Ij eS616 (by decide) d_y614
                have d_x615 := rd_Ij eS616 (by decide) d_x615
                obtain ⟨y617, hy617⟩ : ∃ z : Int32, z = x615 := ⟨_, rfl⟩
                have d_y617 := rd_Is eS616 hy617
                have ea586 := rf_I eS616 ea586
                have hT := tx_I eS616 hT
                have l_v1 := ln_I eS616 l_v1
                have g0 := gr_I eS616 g0
                have o_a586 := ob_I eS616 o_a586
                have o_v0 := ob_I eS616 o_v0
                have o_v1 := ob_I eS616 o_v1
                intro _ _
                refine ⟨fun c619 => ?_, fun c619 => ?_⟩
                · exact hq _ _ hI g0 f0 (Or.inl rfl)
                · exact hq _ _ hI g0 f0 (Or.inr rfl)
              · refine ⟨a586, ea586, ?_⟩
                refine ⟨o_a586, ?_⟩
                intro x621 ex621
                have r_x621 : (0 : Int32) ≤ x621 ∧ x621 ≤ (4 : Int32) := by rw [ex621]; exact nu 14 rfl hI o_a586
                have d_x621 := ex621
                refine ⟨fun c622 => ?_, fun c622 => ?_⟩
                · exact hq _ _ hI g0 f0 (Or.inr rfl)
                · refine u_X4_read_280 ?_
                  refine ⟨o_v0, ?_⟩
                  refine u_X4_fail ?_
                  refine u_X4_fail_0 ?_
                  refine ⟨o_v0, ?_⟩
                  intro S623 eS623
                  have hI : IV S623 := by rw [eS623]; exact iv_sI hI o_v0 (by decide) (nu_free (by decide))
                  have f0 := fr_I eS623 g0 f0 o_v0 (by decide)
                  have d_x587 := rd_Ik eS623 o_v0 o_a586 (by decide) d_x587
                  have d_x601 := rd_Ij eS623 (by decide) d_x601
                  have d_x611 := rd_Ik eS623 o_v0 o_a586 (by decide) d_x611
                  have d_x621 := rd_Ik eS623 o_v0 o_a586 (by decide) d_x621
                  obtain ⟨y624, hy624⟩ : ∃ z : Int32, z = (6 : Int32) := ⟨_, rfl⟩
                  have d_y624 := rd_Is eS623 hy624
                  have ea586 := rf_I eS623 ea586
                  have hT := tx_I eS623 hT
                  have l_v1 := ln_I eS623 l_v1
                  have g0 := gr_I eS623 g0
                  have o_a586 := ob_I eS623 o_a586
                  have o_v0 := ob_I eS623 o_v0
                  have o_v1 := ob_I eS623 o_v1
                  intro x625 ex625
                  have d_x625 := ex625
                  intro S626 eS626
                  have hI : IV S626 := by rw [eS626]; exact iv_sI hI o_v0 (by decide) (nu_free (by decide))
                  have f0 := fr_I eS626 g0 f0 o_v0 (by decide)
                  have d_x587 := rd_Ik eS626 o_v0 o_a586 (by decide) d_x587
                  have d_x601 := rd_Ij eS626 (by decide) d_x601
                  have d_x611 := rd_Ik eS626 o_v0 o_a586 (by decide) d_x611
                  have d_x621 := rd_Ik eS626 o_v0 o_a586 (by decide) d_x621
                  have d_y624 := rd_Ij eS626 (by decide) d_y624
                  have d_x625 := rd_Ij eS626 (by decide) d_x625
                  obtain ⟨y627, hy627⟩ : ∃ z : Int32, z = x625 := ⟨_, rfl⟩
                  have d_y627 := rd_Is eS626 hy627
                  have ea586 := rf_I eS626 ea586
                  have hT := tx_I eS626 hT
                  have l_v1 := ln_I eS626 l_v1
                  have g0 := gr_I eS626 g0
                  have o_a586 := ob_I eS626 o_a586
                  have o_v0 := ob_I eS626 o_v0
                  have o_v1 := ob_I eS626 o_v1
                  intro _ _
                  refine ⟨fun c629 => ?_, fun c629 => ?_⟩
                  · exact hq _ _ hI g0 f0 (Or.inl rfl)
                  · exact hq _ _ hI g0 f0 (Or.inr rfl)
        · refine m_X4_rainLine hI o_v0 (fun z hz => by cases ea586.symm.trans hz; rw [← d_x587]; exact (q171 i1u5 c14 bb_x21 c25 bb_x26 c30 r_x587 p_x588 bb_x588 c592)) hT (fun x630 S631 hJ g632 fc633 b_x630 p_x630 => ?_)
          have hT := p_x630
          have hI := hJ
          have l_v1 := (gr_len g632 o_v1).trans l_v1
          have ea586 := (frr_at fc633 (by decide) (by decide) o_v0).trans ea586
          have f0 := fri_tr (S := S589) g0 f0 fc633 (by decide) (by decide)
          have fL8 := fri_tr (S := S589) gL7 fL8 fc633 (by decide) (by decide)
          have o_a586 := gr_ob g632 o_a586
          have o_v0 := gr_ob g632 o_v0
          have o_v1 := gr_ob g632 o_v1
          have g0 := gr_tr (T := S589) g0 g632
          have gL7 := gr_tr (T := S589) gL7 g632
          intro _ _
          have bb_x630 : x630 = 0 ∨ x630 = 1 := b_x630
          refine ⟨fun c634 => ?_, fun c634 => ?_⟩
          · refine u_X4_read_69 ?_
            refine u_X4_read_70 ?_
            refine u_X4_read_248 ?_
            refine ⟨fun c635 => ?_, fun c635 => ?_⟩
            · refine u_X4_read_295 ?_
              refine ⟨fun c636 => ?_, fun c636 => ?_⟩
              · exact hq _ _ hI g0 f0 (Or.inl rfl)
              · refine ⟨o_v0, ?_⟩
                refine m_X4_sign hI o_v0 hT (fun x637 S638 hJ g639 fc640 b_x637 p_x637 => ?_)
                have hT := p_x637
                have hI := hJ
                have l_v1 := (gr_len g639 o_v1).trans l_v1
                have ea586 := (frr_at fc640 (by decide) (by decide) o_v0).trans ea586
                have f0 := fri_tr (S := S631) g0 f0 fc640 (by decide) (by decide)
                have fL8 := fri_tr (S := S631) gL7 fL8 fc640 (by decide) (by decide)
                have o_a586 := gr_ob g639 o_a586
                have o_v0 := gr_ob g639 o_v0
                have o_v1 := gr_ob g639 o_v1
                have g0 := gr_tr (T := S631) g0 g639
                have gL7 := gr_tr (T := S631) gL7 g639
                intro _ _
                have bb_x637 : x637 = 0 ∨ x637 = 1 := b_x637
                refine ⟨fun c641 => ?_, fun c641 => ?_⟩
                · intro x642 ex642
                  exact ih13 _ _ _ ⟨hI, gL7, fL8, rfl, hT, (q172 i1u5 c14 bb_x21 c25 bb_x26 c30 r_x587 p_x588 bb_x588 c592 bb_x630 c634 c636 bb_x637 c641 ex642)⟩ (mu_up (q173 i1u5 c14 bb_x21 c25 bb_x26 c30 r_x587 p_x588 bb_x588 c592 bb_x630 c634 c636 bb_x637 c641 ex642) (q174 i1u5 c14 bb_x21 c25 bb_x26 c30 r_x587 p_x588 bb_x588 c592 bb_x630 c634 c636 bb_x637 c641 ex642))
                · exact hq _ _ hI g0 f0 (Or.inl rfl)
            · refine ⟨o_v0, ?_⟩
              intro x643 ex643
              have d_x643 := ex643
              refine ⟨fun c644 => ?_, fun c644 => ?_⟩
              · refine u_X4_read_295 ?_
                refine ⟨fun c645 => ?_, fun c645 => ?_⟩
                · exact hq _ _ hI g0 f0 (Or.inl rfl)
                · refine ⟨o_v0, ?_⟩
                  refine m_X4_sign hI o_v0 hT (fun x646 S647 hJ g648 fc649 b_x646 p_x646 => ?_)
                  have hT := p_x646
                  have hI := hJ
                  have l_v1 := (gr_len g648 o_v1).trans l_v1
                  have ea586 := (frr_at fc649 (by decide) (by decide) o_v0).trans ea586
                  have f0 := fri_tr (S := S631) g0 f0 fc649 (by decide) (by decide)
                  have fL8 := fri_tr (S := S631) gL7 fL8 fc649 (by decide) (by decide)
                  have o_a586 := gr_ob g648 o_a586
                  have o_v0 := gr_ob g648 o_v0
                  have o_v1 := gr_ob g648 o_v1
                  have g0 := gr_tr (T := S631) g0 g648
                  have gL7 := gr_tr (T := S631) gL7 g648
                  intro _ _
                  have bb_x646 : x646 = 0 ∨ x646 = 1 := b_x646
                  refine ⟨fun c650 => ?_, fun c650 => ?_⟩
                  · intro x651 ex651
                    exact ih13 _ _ _ ⟨hI, gL7, fL8, rfl, hT, (q175 i1u5 c14 bb_x21 c25 bb_x26 c30 r_x587 p_x588 bb_x588 c592 bb_x630 c634 c635 c644 c645 bb_x646 c650 ex651)⟩ (mu_up (q176 i1u5 c14 bb_x21 c25 bb_x26 c30 r_x587 p_x588 bb_x588 c592 bb_x630 c634 c635 c644 c645 bb_x646 c650 ex651) (q177 i1u5 c14 bb_x21 c25 bb_x26 c30 r_x587 p_x588 bb_x588 c592 bb_x630 c634 c635 c644 c645 bb_x646 c650 ex651))
                  · exact hq _ _ hI g0 f0 (Or.inl rfl)
              · refine ⟨a586, ea586, ?_⟩
                refine ⟨o_a586, ?_⟩
                intro x653 ex653
                have r_x653 : (0 : Int32) ≤ x653 ∧ x653 ≤ (8 : Int32) := by rw [ex653]; exact nu 12 rfl hI o_a586
                have d_x653 := ex653
                refine ⟨fun c654 => ?_, fun c654 => ?_⟩
                · refine u_X4_read_280 ?_
                  refine ⟨o_v0, ?_⟩
                  refine u_X4_fail ?_
                  refine u_X4_fail_0 ?_
                  refine ⟨o_v0, ?_⟩
                  intro S655 eS655
                  have hI : IV S655 := by rw [eS655]; exact iv_sI hI o_v0 (by decide) (nu_free (by decide))
                  have f0 := fr_I eS655 g0 f0 o_v0 (by decide)
                  have d_x643 := rd_Ij eS655 (by decide) d_x643
                  have d_x653 := rd_Ik eS655 o_v0 o_a586 (by decide) d_x653
                  obtain ⟨y656, hy656⟩ : ∃ z : Int32, z = (6 : Int32) := ⟨_, rfl⟩
                  have d_y656 := rd_Is eS655 hy656
                  have ea586 := rf_I eS655 ea586
                  have hT := tx_I eS655 hT
                  have l_v1 := ln_I eS655 l_v1
                  have g0 := gr_I eS655 g0
                  have o_a586 := ob_I eS655 o_a586
                  have o_v0 := ob_I eS655 o_v0
                  have o_v1 := ob_I eS655 o_v1
                  intro x657 ex657
                  have d_x657 := ex657
                  intro S658 eS658
                  have hI : IV S658 := by rw [eS658]; exact iv_sI hI o_v0 (by decide) (nu_free (by decide))
                  have f0 := fr_I eS658 g0 f0 o_v0 (by decide)
                  have d_x643 := rd_Ij eS658 (by decide) d_x643
                  have d_x653 := rd_Ik eS658 o_v0 o_a586 (by decide) d_x653
                  have d_y656 := rd_Ij eS658 (by decide) d_y656
                  have d_x657 := rd_Ij eS658 (by decide) d_x657
                  obtain ⟨y659, hy659⟩ : ∃ z : Int32, z = x657 := ⟨_, rfl⟩
                  have d_y659 := rd_Is eS658 hy659
                  have ea586 := rf_I eS658 ea586
                  have hT := tx_I eS658 hT
                  have l_v1 := ln_I eS658 l_v1
                  have g0 := gr_I eS658 g0
                  have o_a586 := ob_I eS658 o_a586
                  have o_v0 := ob_I eS658 o_v0
                  have o_v1 := ob_I eS658 o_v1
                  intro _ _
                  refine ⟨fun c661 => ?_, fun c661 => ?_⟩
                  · exact hq _ _ hI g0 f0 (Or.inl rfl)
                  · exact hq _ _ hI g0 f0 (Or.inr rfl)
                · refine ⟨a586, ea586, ?_⟩
                  refine ⟨o_a586, ?_⟩
                  intro x663 ex663
                  have r_x663 : (0 : Int32) ≤ x663 ∧ x663 ≤ (4 : Int32) := by rw [ex663]; exact nu 14 rfl hI o_a586
                  have d_x663 := ex663
                  refine ⟨fun c664 => ?_, fun c664 => ?_⟩
                  · exact hq _ _ hI g0 f0 (Or.inr rfl)
                  · refine u_X4_read_280 ?_
                    refine ⟨o_v0, ?_⟩
                    refine u_X4_fail ?_
                    refine u_X4_fail_0 ?_
                    refine ⟨o_v0, ?_⟩
                    intro S665 eS665
                    have hI : IV S665 := by rw [eS665]; exact iv_sI hI o_v0 (by decide) (nu_free (by decide))
                    have f0 := fr_I eS665 g0 f0 o_v0 (by decide)
                    have d_x643 := rd_Ij eS665 (by decide) d_x643
                    have d_x653 := rd_Ik eS665 o_v0 o_a586 (by decide) d_x653
                    have d_x663 := rd_Ik eS665 o_v0 o_a586 (by decide) d_x663
                    obtain ⟨y666, hy666⟩ : ∃ z : Int32, z = (6 : Int32) := ⟨_, rfl⟩
                    have d_y666 := rd_Is eS665 hy666
                    have ea586 := rf_I eS665 ea586
                    have hT := tx_I eS665 hT
                    have l_v1 := ln_I eS665 l_v1
                    have g0 := gr_I eS665 g0
                    have o_a586 := ob_I eS665 o_a586
                    have o_v0 := ob_I eS665 o_v0
                    have o_v1 := ob_I eS665 o_v1
                    intro x667 ex667
                    have d_x667 := ex667
                    intro S668 eS668
                    have hI : IV S668 := by rw [eS668]; exact iv_sI hI o_v0 (by decide) (nu_free (by decide))
                    have f0 := fr_I eS668 g0 f0 o_v0 (by decide)
                    have d_x643 := rd_Ij eS668 (by decide) d_x643
                    have d_x653 := rd_Ik eS668 o_v0 o_a586 (by decide) d_x653
                    have d_x663 := rd_Ik eS668 o_v0 o_a586 (by decide) d_x663
                    have d_y666 := rd_Ij eS668 (by decide) d_y666
                    have d_x667 := rd_Ij eS668 (by decide) d_x667
                    obtain ⟨y669, hy669⟩ : ∃ z : Int32, z = x667 := ⟨_, rfl⟩
                    have d_y669 := rd_Is eS668 hy669
                    have ea586 := rf_I eS668 ea586
                    have hT := tx_I eS668 hT
                    have l_v1 := ln_I eS668 l_v1
                    have g0 := gr_I eS668 g0
                    have o_a586 := ob_I eS668 o_a586
                    have o_v0 := ob_I eS668 o_v0
                    have o_v1 := ob_I eS668 o_v1
                    intro _ _
                    refine ⟨fun c671 => ?_, fun c671 => ?_⟩
                    · exact hq _ _ hI g0 f0 (Or.inl rfl)
                    · exact hq _ _ hI g0 f0 (Or.inr rfl)
          · refine u_X4_read_70 ?_
            refine u_X4_read_248 ?_
            refine ⟨fun c672 => ?_, fun c672 => ?_⟩
            · refine u_X4_read_295 ?_
              refine ⟨fun c673 => ?_, fun c673 => ?_⟩
              · exact hq _ _ hI g0 f0 (Or.inl rfl)
              · refine ⟨o_v0, ?_⟩
                refine m_X4_sign hI o_v0 hT (fun x674 S675 hJ g676 fc677 b_x674 p_x674 => ?_)
                have hT := p_x674
                have hI := hJ
                have l_v1 := (gr_len g676 o_v1).trans l_v1
                have ea586 := (frr_at fc677 (by decide) (by decide) o_v0).trans ea586
                have f0 := fri_tr (S := S631) g0 f0 fc677 (by decide) (by decide)
                have fL8 := fri_tr (S := S631) gL7 fL8 fc677 (by decide) (by decide)
                have o_a586 := gr_ob g676 o_a586
                have o_v0 := gr_ob g676 o_v0
                have o_v1 := gr_ob g676 o_v1
                have g0 := gr_tr (T := S631) g0 g676
                have gL7 := gr_tr (T := S631) gL7 g676
                intro _ _
                have bb_x674 : x674 = 0 ∨ x674 = 1 := b_x674
                refine ⟨fun c678 => ?_, fun c678 => ?_⟩
                · intro x679 ex679
                  exact ih13 _ _ _ ⟨hI, gL7, fL8, rfl, hT, (q178 i1u5 c14 bb_x21 c25 bb_x26 c30 r_x587 p_x588 bb_x588 c592 bb_x630 c634 c672 bb_x674 c678 ex679)⟩ (mu_up (q179 i1u5 c14 bb_x21 c25 bb_x26 c30 r_x587 p_x588 bb_x588 c592 bb_x630 c634 c672 bb_x674 c678 ex679) (q180 i1u5 c14 bb_x21 c25 bb_x26 c30 r_x587 p_x588 bb_x588 c592 bb_x630 c634 c672 bb_x674 c678 ex679))
                · exact hq _ _ hI g0 f0 (Or.inl rfl)
            · refine ⟨o_v0, ?_⟩
              intro x680 ex680
              have d_x680 := ex680
              refine ⟨fun c681 => ?_, fun c681 => ?_⟩
              · refine u_X4_read_295 ?_
                refine ⟨fun c682 => ?_, fun c682 => ?_⟩
                · exact hq _ _ hI g0 f0 (Or.inl rfl)
                · refine ⟨o_v0, ?_⟩
                  refine m_X4_sign hI o_v0 hT (fun x683 S684 hJ g685 fc686 b_x683 p_x683 => ?_)
                  have hT := p_x683
                  have hI := hJ
                  have l_v1 := (gr_len g685 o_v1).trans l_v1
                  have ea586 := (frr_at fc686 (by decide) (by decide) o_v0).trans ea586
                  have f0 := fri_tr (S := S631) g0 f0 fc686 (by decide) (by decide)
                  have fL8 := fri_tr (S := S631) gL7 fL8 fc686 (by decide) (by decide)
                  have o_a586 := gr_ob g685 o_a586
                  have o_v0 := gr_ob g685 o_v0
                  have o_v1 := gr_ob g685 o_v1
                  have g0 := gr_tr (T := S631) g0 g685
                  have gL7 := gr_tr (T := S631) gL7 g685
                  intro _ _
                  have bb_x683 : x683 = 0 ∨ x683 = 1 := b_x683
                  refine ⟨fun c687 => ?_, fun c687 => ?_⟩
                  · intro x688 ex688
                    exact ih13 _ _ _ ⟨hI, gL7, fL8, rfl, hT, (q181 i1u5 c14 bb_x21 c25 bb_x26 c30 r_x587 p_x588 bb_x588 c592 bb_x630 c634 c681 bb_x683 c687 ex688)⟩ (mu_up (q182 i1u5 c14 bb_x21 c25 bb_x26 c30 r_x587 p_x588 bb_x588 c592 bb_x630 c634 c681 bb_x683 c687 ex688) (q183 i1u5 c14 bb_x21 c25 bb_x26 c30 r_x587 p_x588 bb_x588 c592 bb_x630 c634 c681 bb_x683 c687 ex688))
                  · exact hq _ _ hI g0 f0 (Or.inl rfl)
              · refine ⟨a586, ea586, ?_⟩
                refine ⟨o_a586, ?_⟩
                intro x690 ex690
                have r_x690 : (0 : Int32) ≤ x690 ∧ x690 ≤ (8 : Int32) := by rw [ex690]; exact nu 12 rfl hI o_a586
                have d_x690 := ex690
                refine ⟨fun c691 => ?_, fun c691 => ?_⟩
                · refine u_X4_read_280 ?_
                  refine ⟨o_v0, ?_⟩
                  refine u_X4_fail ?_
                  refine u_X4_fail_0 ?_
                  refine ⟨o_v0, ?_⟩
                  intro S692 eS692
                  have hI : IV S692 := by rw [eS692]; exact iv_sI hI o_v0 (by decide) (nu_free (by decide))
                  have f0 := fr_I eS692 g0 f0 o_v0 (by decide)
                  have d_x680 := rd_Ij eS692 (by decide) d_x680
                  have d_x690 := rd_Ik eS692 o_v0 o_a586 (by decide) d_x690
                  obtain ⟨y693, hy693⟩ : ∃ z : Int32, z = (6 : Int32) := ⟨_, rfl⟩
                  have d_y693 := rd_Is eS692 hy693
                  have ea586 := rf_I eS692 ea586
                  have hT := tx_I eS692 hT
                  have l_v1 := ln_I eS692 l_v1
                  have g0 := gr_I eS692 g0
                  have o_a586 := ob_I eS692 o_a586
                  have o_v0 := ob_I eS692 o_v0
                  have o_v1 := ob_I eS692 o_v1
                  intro x694 ex694
                  have d_x694 := ex694
                  intro S695 eS695
                  have hI : IV S695 := by rw [eS695]; exact iv_sI hI o_v0 (by decide) (nu_free (by decide))
                  have f0 := fr_I eS695 g0 f0 o_v0 (by decide)
                  have d_x680 := rd_Ij eS695 (by decide) d_x680
                  have d_x690 := rd_Ik eS695 o_v0 o_a586 (by decide) d_x690
                  have d_y693 := rd_Ij eS695 (by decide) d_y693
                  have d_x694 := rd_Ij eS695 (by decide) d_x694
                  obtain ⟨y696, hy696⟩ : ∃ z : Int32, z = x694 := ⟨_, rfl⟩
                  have d_y696 := rd_Is eS695 hy696
                  have ea586 := rf_I eS695 ea586
                  have hT := tx_I eS695 hT
                  have l_v1 := ln_I eS695 l_v1
                  have g0 := gr_I eS695 g0
                  have o_a586 := ob_I eS695 o_a586
                  have o_v0 := ob_I eS695 o_v0
                  have o_v1 := ob_I eS695 o_v1
                  intro _ _
                  refine ⟨fun c698 => ?_, fun c698 => ?_⟩
                  · exact hq _ _ hI g0 f0 (Or.inl rfl)
                  · exact hq _ _ hI g0 f0 (Or.inr rfl)
                · refine ⟨a586, ea586, ?_⟩
                  refine ⟨o_a586, ?_⟩
                  intro x700 ex700
                  have r_x700 : (0 : Int32) ≤ x700 ∧ x700 ≤ (4 : Int32) := by rw [ex700]; exact nu 14 rfl hI o_a586
                  have d_x700 := ex700
                  refine ⟨fun c701 => ?_, fun c701 => ?_⟩
                  · exact hq _ _ hI g0 f0 (Or.inr rfl)
                  · refine u_X4_read_280 ?_
                    refine ⟨o_v0, ?_⟩
                    refine u_X4_fail ?_
                    refine u_X4_fail_0 ?_
                    refine ⟨o_v0, ?_⟩
                    intro S702 eS702
                    have hI : IV S702 := by rw [eS702]; exact iv_sI hI o_v0 (by decide) (nu_free (by decide))
                    have f0 := fr_I eS702 g0 f0 o_v0 (by decide)
                    have d_x680 := rd_Ij eS702 (by decide) d_x680
                    have d_x690 := rd_Ik eS702 o_v0 o_a586 (by decide) d_x690
                    have d_x700 := rd_Ik eS702 o_v0 o_a586 (by decide) d_x700
                    obtain ⟨y703, hy703⟩ : ∃ z : Int32, z = (6 : Int32) := ⟨_, rfl⟩
                    have d_y703 := rd_Is eS702 hy703
                    have ea586 := rf_I eS702 ea586
                    have hT := tx_I eS702 hT
                    have l_v1 := ln_I eS702 l_v1
                    have g0 := gr_I eS702 g0
                    have o_a586 := ob_I eS702 o_a586
                    have o_v0 := ob_I eS702 o_v0
                    have o_v1 := ob_I eS702 o_v1
                    intro x704 ex704
                    have d_x704 := ex704
                    intro S705 eS705
                    have hI : IV S705 := by rw [eS705]; exact iv_sI hI o_v0 (by decide) (nu_free (by decide))
                    have f0 := fr_I eS705 g0 f0 o_v0 (by decide)
                    have d_x680 := rd_Ij eS705 (by decide) d_x680
                    have d_x690 := rd_Ik eS705 o_v0 o_a586 (by decide) d_x690
                    have d_x700 := rd_Ik eS705 o_v0 o_a586 (by decide) d_x700
                    have d_y703 := rd_Ij eS705 (by decide) d_y703
                    have d_x704 := rd_Ij eS705 (by decide) d_x704
                    obtain ⟨y706, hy706⟩ : ∃ z : Int32, z = x704 := ⟨_, rfl⟩
                    have d_y706 := rd_Is eS705 hy706
                    have ea586 := rf_I eS705 ea586
                    have hT := tx_I eS705 hT
                    have l_v1 := ln_I eS705 l_v1
                    have g0 := gr_I eS705 g0
                    have o_a586 := ob_I eS705 o_a586
                    have o_v0 := ob_I eS705 o_v0
                    have o_v1 := ob_I eS705 o_v1
                    intro _ _
                    refine ⟨fun c708 => ?_, fun c708 => ?_⟩
                    · exact hq _ _ hI g0 f0 (Or.inl rfl)
                    · exact hq _ _ hI g0 f0 (Or.inr rfl)
    · refine m_X4_worldLine hI o_v0 hT (fun x709 S710 hJ g711 fc712 b_x709 p_x709 => ?_)
      have hT := p_x709
      have hI := hJ
      have l_v1 := (gr_len g711 o_v1).trans l_v1
      have f0 := fri_tr (S := S6) g0 f0 fc712 (by decide) (by decide)
      have fL8 := fri_tr (S := S6) gL7 fL8 fc712 (by decide) (by decide)
      have o_v0 := gr_ob g711 o_v0
      have o_v1 := gr_ob g711 o_v1
      have g0 := gr_tr (T := S6) g0 g711
      have gL7 := gr_tr (T := S6) gL7 g711
      intro _ _
      have bb_x709 : x709 = 0 ∨ x709 = 1 := b_x709
      refine u_X4_read_248 ?_
      refine ⟨fun c713 => ?_, fun c713 => ?_⟩
      · refine u_X4_read_295 ?_
        refine ⟨fun c714 => ?_, fun c714 => ?_⟩
        · exact hq _ _ hI g0 f0 (Or.inl rfl)
        · refine ⟨o_v0, ?_⟩
          refine m_X4_sign hI o_v0 hT (fun x715 S716 hJ g717 fc718 b_x715 p_x715 => ?_)
          have hT := p_x715
          have hI := hJ
          have l_v1 := (gr_len g717 o_v1).trans l_v1
          have f0 := fri_tr (S := S710) g0 f0 fc718 (by decide) (by decide)
          have fL8 := fri_tr (S := S710) gL7 fL8 fc718 (by decide) (by decide)
          have o_v0 := gr_ob g717 o_v0
          have o_v1 := gr_ob g717 o_v1
          have g0 := gr_tr (T := S710) g0 g717
          have gL7 := gr_tr (T := S710) gL7 g717
          intro _ _
          have bb_x715 : x715 = 0 ∨ x715 = 1 := b_x715
          refine ⟨fun c719 => ?_, fun c719 => ?_⟩
          · intro x720 ex720
            exact ih13 _ _ _ ⟨hI, gL7, fL8, rfl, hT, (q184 i1u5 c14 bb_x21 c25 bb_x709 c713 c714 bb_x715 c719 ex720)⟩ (mu_up (q185 i1u5 c14 bb_x21 c25 bb_x709 c713 c714 bb_x715 c719 ex720) (q186 i1u5 c14 bb_x21 c25 bb_x709 c713 c714 bb_x715 c719 ex720))
          · exact hq _ _ hI g0 f0 (Or.inl rfl)
      · refine ⟨o_v0, ?_⟩
        intro x721 ex721
        have d_x721 := ex721
        refine ⟨fun c722 => ?_, fun c722 => ?_⟩
        · refine u_X4_read_295 ?_
          refine ⟨fun c723 => ?_, fun c723 => ?_⟩
          · exact hq _ _ hI g0 f0 (Or.inl rfl)
          · refine ⟨o_v0, ?_⟩
            refine m_X4_sign hI o_v0 hT (fun x724 S725 hJ g726 fc727 b_x724 p_x724 => ?_)
            have hT := p_x724
            have hI := hJ
            have l_v1 := (gr_len g726 o_v1).trans l_v1
            have f0 := fri_tr (S := S710) g0 f0 fc727 (by decide) (by decide)
            have fL8 := fri_tr (S := S710) gL7 fL8 fc727 (by decide) (by decide)
            have o_v0 := gr_ob g726 o_v0
            have o_v1 := gr_ob g726 o_v1
            have g0 := gr_tr (T := S710) g0 g726
            have gL7 := gr_tr (T := S710) gL7 g726
            intro _ _
            have bb_x724 : x724 = 0 ∨ x724 = 1 := b_x724
            refine ⟨fun c728 => ?_, fun c728 => ?_⟩
            · intro x729 ex729
              exact ih13 _ _ _ ⟨hI, gL7, fL8, rfl, hT, (q187 i1u5 c14 bb_x21 c25 bb_x709 c713 c722 c723 bb_x724 c728 ex729)⟩ (mu_up (q188 i1u5 c14 bb_x21 c25 bb_x709 c713 c722 c723 bb_x724 c728 ex729) (q189 i1u5 c14 bb_x21 c25 bb_x709 c713 c722 c723 bb_x724 c728 ex729))
            · exact hq _ _ hI g0 f0 (Or.inl rfl)
        · obtain ⟨a730, ea730, o_a730, -⟩ := sh 12 rfl hI o_v0
          refine ⟨a730, ea730, ?_⟩
          refine ⟨o_a730, ?_⟩
          intro x731 ex731
          have r_x731 : (0 : Int32) ≤ x731 ∧ x731 ≤ (8 : Int32) := by rw [ex731]; exact nu 12 rfl hI o_a730
          have d_x731 := ex731
          refine ⟨fun c732 => ?_, fun c732 => ?_⟩
          · refine u_X4_read_280 ?_
            refine ⟨o_v0, ?_⟩
            refine u_X4_fail ?_
            refine u_X4_fail_0 ?_
            refine ⟨o_v0, ?_⟩
            intro S733 eS733
            have hI : IV S733 := by rw [eS733]; exact iv_sI hI o_v0 (by decide) (nu_free (by decide))
            have f0 := fr_I eS733 g0 f0 o_v0 (by decide)
            have d_x721 := rd_Ij eS733 (by decide) d_x721
            have d_x731 := rd_Ik eS733 o_v0 o_a730 (by decide) d_x731
            obtain ⟨y734, hy734⟩ : ∃ z : Int32, z = (6 : Int32) := ⟨_, rfl⟩
            have d_y734 := rd_Is eS733 hy734
            have ea730 := rf_I eS733 ea730
            have hT := tx_I eS733 hT
            have l_v1 := ln_I eS733 l_v1
            have g0 := gr_I eS733 g0
            have o_a730 := ob_I eS733 o_a730
            have o_v0 := ob_I eS733 o_v0
            have o_v1 := ob_I eS733 o_v1
            intro x735 ex735
            have d_x735 := ex735
            intro S736 eS736
            have hI : IV S736 := by rw [eS736]; exact iv_sI hI o_v0 (by decide) (nu_free (by decide))
            have f0 := fr_I eS736 g0 f0 o_v0 (by decide)
            have d_x721 := rd_Ij eS736 (by decide) d_x721
            have d_x731 := rd_Ik eS736 o_v0 o_a730 (by decide) d_x731
            have d_y734 := rd_Ij eS736 (by decide) d_y734
            have d_x735 := rd_Ij eS736 (by decide) d_x735
            obtain ⟨y737, hy737⟩ : ∃ z : Int32, z = x735 := ⟨_, rfl⟩
            have d_y737 := rd_Is eS736 hy737
            have ea730 := rf_I eS736 ea730
            have hT := tx_I eS736 hT
            have l_v1 := ln_I eS736 l_v1
            have g0 := gr_I eS736 g0
            have o_a730 := ob_I eS736 o_a730
            have o_v0 := ob_I eS736 o_v0
            have o_v1 := ob_I eS736 o_v1
            intro _ _
            refine ⟨fun c739 => ?_, fun c739 => ?_⟩
            · exact hq _ _ hI g0 f0 (Or.inl rfl)
            · exact hq _ _ hI g0 f0 (Or.inr rfl)
          · refine ⟨a730, ea730, ?_⟩
            refine ⟨o_a730, ?_⟩
            intro x741 ex741
            have r_x741 : (0 : Int32) ≤ x741 ∧ x741 ≤ (4 : Int32) := by rw [ex741]; exact nu 14 rfl hI o_a730
            have d_x741 := ex741
            refine ⟨fun c742 => ?_, fun c742 => ?_⟩
            · exact hq _ _ hI g0 f0 (Or.inr rfl)
            · refine u_X4_read_280 ?_
              refine ⟨o_v0, ?_⟩
              refine u_X4_fail ?_
              refine u_X4_fail_0 ?_
              refine ⟨o_v0, ?_⟩
              intro S743 eS743
              have hI : IV S743 := by rw [eS743]; exact iv_sI hI o_v0 (by decide) (nu_free (by decide))
              have f0 := fr_I eS743 g0 f0 o_v0 (by decide)
              have d_x721 := rd_Ij eS743 (by decide) d_x721
              have d_x731 := rd_Ik eS743 o_v0 o_a730 (by decide) d_x731
              have d_x741 := rd_Ik eS743 o_v0 o_a730 (by decide) d_x741
              obtain ⟨y744, hy744⟩ : ∃ z : Int32, z = (6 : Int32) := ⟨_, rfl⟩
              have d_y744 := rd_Is eS743 hy744
              have ea730 := rf_I eS743 ea730
              have hT := tx_I eS743 hT
              have l_v1 := ln_I eS743 l_v1
              have g0 := gr_I eS743 g0
              have o_a730 := ob_I eS743 o_a730
              have o_v0 := ob_I eS743 o_v0
              have o_v1 := ob_I eS743 o_v1
              intro x745 ex745
              have d_x745 := ex745
              intro S746 eS746
              have hI : IV S746 := by rw [eS746]; exact iv_sI hI o_v0 (by decide) (nu_free (by decide))
              have f0 := fr_I eS746 g0 f0 o_v0 (by decide)
              have d_x721 := rd_Ij eS746 (by decide) d_x721
              have d_x731 := rd_Ik eS746 o_v0 o_a730 (by decide) d_x731
              have d_x741 := rd_Ik eS746 o_v0 o_a730 (by decide) d_x741
              have d_y744 := rd_Ij eS746 (by decide) d_y744
              have d_x745 := rd_Ij eS746 (by decide) d_x745
              obtain ⟨y747, hy747⟩ : ∃ z : Int32, z = x745 := ⟨_, rfl⟩
              have d_y747 := rd_Is eS746 hy747
              have ea730 := rf_I eS746 ea730
              have hT := tx_I eS746 hT
              have l_v1 := ln_I eS746 l_v1
              have g0 := gr_I eS746 g0
              have o_a730 := ob_I eS746 o_a730
              have o_v0 := ob_I eS746 o_v0
              have o_v1 := ob_I eS746 o_v1
              intro _ _
              refine ⟨fun c749 => ?_, fun c749 => ?_⟩
              · exact hq _ _ hI g0 f0 (Or.inl rfl)
              · exact hq _ _ hI g0 f0 (Or.inr rfl)
end
section
set_option maxHeartbeats 4000000 in
set_option maxRecDepth 20000 in
theorem m_X5_endOf {v0 : Nat} {v1 : Int32} {Q : Int32 → HS → Prop} {S : HS} (hI : IV S) (o_v0 : ob S v0 5)     (hq : ∀ (r : Int32) (T : HS), IV T → Gr S T → (S = T) → Q r T) : P_X5_endOf v0 v1 Q S := by
  have g0 := gr_rf S
  refine u_X5_endOf ?_
  refine u_X5_endOf_0 ?_
  refine ⟨fun c1 => ?_, fun c1 => ?_⟩
  · refine ⟨o_v0, ?_⟩
    intro x2 ex2
    have d_x2 := ex2
    exact hq _ _ hI g0 rfl
  · refine ⟨o_v0, ?_⟩
    intro x3 ex3
    have d_x3 := ex3
    exact hq _ _ hI g0 rfl
set_option maxHeartbeats 4000000 in
set_option maxRecDepth 20000 in
theorem m_X5_minutesAt {v0 : Nat} {v1 : Int32} {Q : Int32 → HS → Prop} {S : HS} (hI : IV S) (o_v0 : ob S v0 5)     (hq : ∀ (r : Int32) (T : HS), IV T → Gr S T → (S = T) → Q r T) : P_X5_minutesAt v0 v1 Q S := by
  have g0 := gr_rf S
  refine u_X5_minutesAt ?_
  refine u_X5_minutesAt_0 ?_
  refine ⟨fun c1 => ?_, fun c1 => ?_⟩
  · exact hq _ _ hI g0 rfl
  · refine ⟨o_v0, ?_⟩
    intro x2 ex2
    have d_x2 := ex2
    refine ⟨(q64 c1), ?_⟩
    intro x3 ex3
    exact hq _ _ hI g0 rfl
set_option maxHeartbeats 4000000 in
set_option maxRecDepth 20000 in
theorem m_X5_startOf {v0 : Nat} {v1 : Int32} {Q : Int32 → HS → Prop} {S : HS} (hI : IV S) (o_v0 : ob S v0 5)     (hq : ∀ (r : Int32) (T : HS), IV T → Gr S T → (S = T) → Q r T) : P_X5_startOf v0 v1 Q S := by
  have g0 := gr_rf S
  refine u_X5_startOf ?_
  refine u_X5_startOf_0 ?_
  refine ⟨fun c1 => ?_, fun c1 => ?_⟩
  · refine ⟨o_v0, ?_⟩
    intro x2 ex2
    have d_x2 := ex2
    exact hq _ _ hI g0 rfl
  · refine ⟨o_v0, ?_⟩
    intro x3 ex3
    have d_x3 := ex3
    exact hq _ _ hI g0 rfl
set_option maxHeartbeats 4000000 in
set_option maxRecDepth 20000 in
theorem m_X5_tell {v0 : Nat} {v1 : Int32} {Q : Int32 → HS → Prop} {S : HS} (hI : IV S) (o_v0 : ob S v0 5)     (hq : ∀ (r : Int32) (T : HS), IV T → Gr S T → (S = T) → Q r T) : P_X5_tell v0 v1 Q S := by
  have g0 := gr_rf S
  refine u_X5_tell ?_
  refine u_X5_tell_0 ?_
  refine ⟨fun c1 => ?_, fun c1 => ?_, fun c1 => ?_, fun c1 => ?_, fun c1 => ?_⟩
  · refine ⟨o_v0, ?_⟩
    intro x2 ex2
    have d_x2 := ex2
    exact hq _ _ hI g0 rfl
  · refine ⟨o_v0, ?_⟩
    intro x3 ex3
    have d_x3 := ex3
    exact hq _ _ hI g0 rfl
  · refine ⟨o_v0, ?_⟩
    intro x4 ex4
    have d_x4 := ex4
    exact hq _ _ hI g0 rfl
  · refine ⟨o_v0, ?_⟩
    intro x5 ex5
    have d_x5 := ex5
    exact hq _ _ hI g0 rfl
  · refine ⟨o_v0, ?_⟩
    intro x6 ex6
    have d_x6 := ex6
    exact hq _ _ hI g0 rfl
set_option maxHeartbeats 4000000 in
set_option maxRecDepth 20000 in
theorem m_X5_touches {v0 : Nat} {v1 : Int32} {Q : Int32 → HS → Prop} {S : HS} (hI : IV S) (o_v0 : ob S v0 5)     (hq : ∀ (r : Int32) (T : HS), IV T → Gr S T → bl r → (S = T) → Q r T) : P_X5_touches v0 v1 Q S := by
  have g0 := gr_rf S
  refine u_X5_touches ?_
  refine u_X5_touches_0 ?_
  refine ⟨o_v0, ?_⟩
  intro x1 ex1
  have d_x1 := ex1
  refine ⟨fun c2 => ?_, fun c2 => ?_⟩
  · exact hq _ _ hI g0 (Or.inr rfl) rfl
  · intro x3 ex3
    have d_x3 := ex3
    refine ⟨fun c4 => ?_, fun c4 => ?_⟩
    · exact hq _ _ hI g0 (Or.inl rfl) rfl
    · exact hq _ _ hI g0 (Or.inr rfl) rfl
set_option maxHeartbeats 4000000 in
set_option maxRecDepth 20000 in
theorem m_X6_tell {v0 : Nat} {v1 : Int32} {Q : Int32 → HS → Prop} {S : HS} (hI : IV S) (o_v0 : ob S v0 6)     (hq : ∀ (r : Int32) (T : HS), IV T → Gr S T → (S = T) → Q r T) : P_X6_tell v0 v1 Q S := by
  have g0 := gr_rf S
  refine u_X6_tell ?_
  refine u_X6_tell_0 ?_
  refine ⟨fun c1 => ?_, fun c1 => ?_, fun c1 => ?_, fun c1 => ?_, fun c1 => ?_, fun c1 => ?_, fun c1 => ?_⟩
  · refine ⟨o_v0, ?_⟩
    intro x2 ex2
    have r_x2 : (0 : Int32) ≤ x2 ∧ x2 ≤ (9 : Int32) := by rw [ex2]; exact nu 5 rfl hI o_v0
    have d_x2 := ex2
    exact hq _ _ hI g0 rfl
  · refine ⟨o_v0, ?_⟩
    intro x3 ex3
    have d_x3 := ex3
    exact hq _ _ hI g0 rfl
  · refine ⟨o_v0, ?_⟩
    intro x4 ex4
    have d_x4 := ex4
    exact hq _ _ hI g0 rfl
  · refine ⟨o_v0, ?_⟩
    intro x5 ex5
    have d_x5 := ex5
    exact hq _ _ hI g0 rfl
  · refine ⟨o_v0, ?_⟩
    intro x6 ex6
    have d_x6 := ex6
    exact hq _ _ hI g0 rfl
  · refine ⟨o_v0, ?_⟩
    intro x7 ex7
    have d_x7 := ex7
    exact hq _ _ hI g0 rfl
  · refine ⟨o_v0, ?_⟩
    intro x8 ex8
    have r_x8 : (0 : Int32) ≤ x8 ∧ x8 ≤ (9 : Int32) := by rw [ex8]; exact nu 4 rfl hI o_v0
    have d_x8 := ex8
    exact hq _ _ hI g0 rfl
set_option maxHeartbeats 4000000 in
set_option maxRecDepth 20000 in
theorem m_X7_addMove {v0 : Nat} {v1 : Int32} {v2 : Int32} {v3 : Int32} {v4 : Int64} {v6 : Int32} {Q : HS → Prop} {S : HS} (hI : IV S) (o_v0 : ob S v0 7)    (hM : WM S v0) (hq : ∀ (T : HS), IV T → Gr S T → FRI [(7, 3)] [] S T → (WM T v0) → Q T) : P_X7_addMove v0 v1 v2 v3 v4 v6 Q S := by
  have g0 := gr_rf S
  have f0 := fri_rf [(7, 3)] [] S
  refine u_X7_addMove ?_
  refine u_X7_addMove_0 ?_
  refine ⟨o_v0, ?_⟩
  intro x1 ex1
  have d_x1 := ex1
  refine ⟨fun c2 => ?_, fun c2 => ?_⟩
  · exact hq _ hI g0 f0 hM
  · intro x3 ex3
    have r_x3 : (0 : Int32) ≤ x3 ∧ x3 ≤ (224 : Int32) := by rw [ex3]; exact nu 8 rfl hI o_v0
    have d_x3 := ex3
    refine ⟨fun c4 => ?_, fun c4 => ?_⟩
    · exact hq _ hI g0 f0 hM
    · intro x5 ex5
      have r_x5 : (0 : Int32) ≤ x5 ∧ x5 ≤ (224 : Int32) := by rw [ex5]; exact nu 8 rfl hI o_v0
      have q_x5 : x5 = x3 := ex5.trans d_x3.symm
      have d_x5 := ex5
      refine ⟨fun c6 => ?_, fun c6 => ?_⟩
      · obtain ⟨a7, ea7, o_a7, -⟩ := sh 24 rfl hI o_v0
        have l_a7 := wm hM 3 rfl ea7
        refine ⟨a7, ea7, ?_⟩
        intro x8 ex8
        have r_x8 : (0 : Int32) ≤ x8 ∧ x8 ≤ (224 : Int32) := by rw [ex8]; exact nu 8 rfl hI o_v0
        have q_x8 : x8 = x5 := ex8.trans d_x5.symm
        have d_x8 := ex8
        refine ⟨o_a7, ?_⟩
        intro x9 ex9
        have i10 : vp_in x8 (hN _ a7) := (vin l_a7 (m := 224) (by decide) (q1034 c2 r_x3 c4 r_x5 q_x5 c6 r_x8 q_x8 ex9))
        refine ⟨i10, ?_⟩
        intro S11 eS11
        have hI : IV S11 := by rw [eS11]; exact iv_aI hI o_v0 (by decide) ea7 o_a7 (by decide)
        have f0 := fr_A eS11 g0 f0 o_a7 (by decide)
        have d_x1 := rd_Ik eS11 o_a7 o_v0 (by decide) d_x1
        have d_x8 := rd_Ik eS11 o_a7 o_v0 (by decide) d_x8
        have ea7 := rf_I eS11 ea7
        have hM := wm_I eS11 hM
        have l_a7 := ln_I eS11 l_a7
        have g0 := gr_I eS11 g0
        have o_a7 := ob_I eS11 o_a7
        have o_v0 := ob_I eS11 o_v0
        obtain ⟨a12, ea12, o_a12, -⟩ := sh 25 rfl hI o_v0
        have l_a12 := wm hM 4 rfl ea12
        refine ⟨a12, ea12, ?_⟩
        intro x13 ex13
        have r_x13 : (0 : Int32) ≤ x13 ∧ x13 ≤ (224 : Int32) := by rw [ex13]; exact nu 8 rfl hI o_v0
        have q_x13 : x13 = x8 := ex13.trans d_x8.symm
        have d_x13 := ex13
        refine ⟨o_a12, ?_⟩
        intro x14 ex14
        have i15 : vp_in x13 (hN _ a12) := (vin l_a12 (m := 224) (by decide) (q1035 c2 r_x3 c4 r_x5 q_x5 c6 r_x8 q_x8 ex9 r_x13 q_x13))
        refine ⟨i15, ?_⟩
        intro S16 eS16
        have hI : IV S16 := by rw [eS16]; exact iv_aI hI o_v0 (by decide) ea12 o_a12 (by decide)
        have f0 := fr_A eS16 g0 f0 o_a12 (by decide)
        have d_x1 := rd_Ik eS16 o_a12 o_v0 (by decide) d_x1
        have d_x13 := rd_Ik eS16 o_a12 o_v0 (by decide) d_x13
        have ea7 := rf_I eS16 ea7
        have ea12 := rf_I eS16 ea12
        have hM := wm_I eS16 hM
        have l_a12 := ln_I eS16 l_a12
        have l_a7 := ln_I eS16 l_a7
        have g0 := gr_I eS16 g0
        have o_a12 := ob_I eS16 o_a12
        have o_a7 := ob_I eS16 o_a7
        have o_v0 := ob_I eS16 o_v0
        obtain ⟨a17, ea17, o_a17, -⟩ := sh 26 rfl hI o_v0
        have l_a17 := wm hM 5 rfl ea17
        refine ⟨a17, ea17, ?_⟩
        intro x18 ex18
        have r_x18 : (0 : Int32) ≤ x18 ∧ x18 ≤ (224 : Int32) := by rw [ex18]; exact nu 8 rfl hI o_v0
        have q_x18 : x18 = x13 := ex18.trans d_x13.symm
        have d_x18 := ex18
        refine ⟨o_a17, ?_⟩
        have i19 : vp_in x18 (hN _ a17) := (vin l_a17 (m := 224) (by decide) (q1036 c2 r_x3 c4 r_x5 q_x5 c6 r_x8 q_x8 ex9 r_x13 q_x13 r_x18 q_x18))
        refine ⟨i19, ?_⟩
        intro S20 eS20
        have hI : IV S20 := by rw [eS20]; exact iv_aI hI o_v0 (by decide) ea17 o_a17 (by decide)
        have f0 := fr_A eS20 g0 f0 o_a17 (by decide)
        have d_x1 := rd_Ik eS20 o_a17 o_v0 (by decide) d_x1
        have d_x18 := rd_Ik eS20 o_a17 o_v0 (by decide) d_x18
        have ea7 := rf_I eS20 ea7
        have ea12 := rf_I eS20 ea12
        have ea17 := rf_I eS20 ea17
        have hM := wm_I eS20 hM
        have l_a12 := ln_I eS20 l_a12
        have l_a17 := ln_I eS20 l_a17
        have l_a7 := ln_I eS20 l_a7
        have g0 := gr_I eS20 g0
        have o_a12 := ob_I eS20 o_a12
        have o_a17 := ob_I eS20 o_a17
        have o_a7 := ob_I eS20 o_a7
        have o_v0 := ob_I eS20 o_v0
        obtain ⟨a21, ea21, o_a21, -⟩ := sh 27 rfl hI o_v0
        have l_a21 := wm hM 6 rfl ea21
        refine ⟨a21, ea21, ?_⟩
        intro x22 ex22
        have r_x22 : (0 : Int32) ≤ x22 ∧ x22 ≤ (224 : Int32) := by rw [ex22]; exact nu 8 rfl hI o_v0
        have q_x22 : x22 = x18 := ex22.trans d_x18.symm
        have d_x22 := ex22
        refine ⟨o_a21, ?_⟩
        intro x23 ex23
        have i24 : vp_in x22 (hN _ a21) := (vin l_a21 (m := 224) (by decide) (q1037 c2 r_x3 c4 r_x5 q_x5 c6 r_x8 q_x8 ex9 r_x13 q_x13 r_x18 q_x18 r_x22 q_x22))
        refine ⟨i24, ?_⟩
        intro S25 eS25
        have hI : IV S25 := by rw [eS25]; exact iv_aJ hI o_v0 (by decide) ea21 o_a21 (by decide)
        have f0 := fr_J eS25 f0
        have d_x1 := rd_J eS25 d_x1
        have d_x22 := rd_J eS25 d_x22
        have ea7 := rf_J eS25 ea7
        have ea12 := rf_J eS25 ea12
        have ea17 := rf_J eS25 ea17
        have ea21 := rf_J eS25 ea21
        have hM := wm_J eS25 hM
        have l_a12 := ln_J eS25 l_a12
        have l_a17 := ln_J eS25 l_a17
        have l_a21 := ln_J eS25 l_a21
        have l_a7 := ln_J eS25 l_a7
        have g0 := gr_J eS25 g0
        have o_a12 := ob_J eS25 o_a12
        have o_a17 := ob_J eS25 o_a17
        have o_a21 := ob_J eS25 o_a21
        have o_a7 := ob_J eS25 o_a7
        have o_v0 := ob_J eS25 o_v0
        obtain ⟨a26, ea26, o_a26, -⟩ := sh 28 rfl hI o_v0
        have l_a26 := wm hM 7 rfl ea26
        refine ⟨a26, ea26, ?_⟩
        intro x27 ex27
        have r_x27 : (0 : Int32) ≤ x27 ∧ x27 ≤ (224 : Int32) := by rw [ex27]; exact nu 8 rfl hI o_v0
        have q_x27 : x27 = x22 := ex27.trans d_x22.symm
        have d_x27 := ex27
        refine ⟨o_a26, ?_⟩
        have i28 : vp_in x27 (hN _ a26) := (vin l_a26 (m := 224) (by decide) (q1038 c2 r_x3 c4 r_x5 q_x5 c6 r_x8 q_x8 ex9 r_x13 q_x13 r_x18 q_x18 r_x22 q_x22 r_x27 q_x27))
        refine ⟨i28, ?_⟩
        intro S29 eS29
        have hI : IV S29 := by rw [eS29]; exact iv_aI hI o_v0 (by decide) ea26 o_a26 (by decide)
        have f0 := fr_A eS29 g0 f0 o_a26 (by decide)
        have d_x1 := rd_Ik eS29 o_a26 o_v0 (by decide) d_x1
        have d_x27 := rd_Ik eS29 o_a26 o_v0 (by decide) d_x27
        have ea7 := rf_I eS29 ea7
        have ea12 := rf_I eS29 ea12
        have ea17 := rf_I eS29 ea17
        have ea21 := rf_I eS29 ea21
        have ea26 := rf_I eS29 ea26
        have hM := wm_I eS29 hM
        have l_a12 := ln_I eS29 l_a12
        have l_a17 := ln_I eS29 l_a17
        have l_a21 := ln_I eS29 l_a21
        have l_a26 := ln_I eS29 l_a26
        have l_a7 := ln_I eS29 l_a7
        have g0 := gr_I eS29 g0
        have o_a12 := ob_I eS29 o_a12
        have o_a17 := ob_I eS29 o_a17
        have o_a21 := ob_I eS29 o_a21
        have o_a26 := ob_I eS29 o_a26
        have o_a7 := ob_I eS29 o_a7
        have o_v0 := ob_I eS29 o_v0
        intro x30 ex30
        have r_x30 : (0 : Int32) ≤ x30 ∧ x30 ≤ (224 : Int32) := by rw [ex30]; exact nu 8 rfl hI o_v0
        have q_x30 : x30 = x27 := ex30.trans d_x27.symm
        have d_x30 := ex30
        intro x31 ex31
        intro S32 eS32
        have hI : IV S32 := by rw [eS32]; exact iv_sI hI o_v0 (by decide) (nu_one (lo := (0 : Int32)) (hi := (224 : Int32)) (by decide) (q1039 c2 r_x3 c4 r_x5 q_x5 c6 r_x8 q_x8 ex9 r_x13 q_x13 r_x18 q_x18 r_x22 q_x22 r_x27 q_x27 r_x30 q_x30 ex31))
        have f0 := fr_I eS32 g0 f0 o_v0 (by decide)
        have d_x1 := rd_Ij eS32 (by decide) d_x1
        have d_x31 := rd_Is eS32 (rfl : x31 = x31)
        have ea7 := rf_I eS32 ea7
        have ea12 := rf_I eS32 ea12
        have ea17 := rf_I eS32 ea17
        have ea21 := rf_I eS32 ea21
        have ea26 := rf_I eS32 ea26
        have hM := wm_I eS32 hM
        have l_a12 := ln_I eS32 l_a12
        have l_a17 := ln_I eS32 l_a17
        have l_a21 := ln_I eS32 l_a21
        have l_a26 := ln_I eS32 l_a26
        have l_a7 := ln_I eS32 l_a7
        have g0 := gr_I eS32 g0
        have o_a12 := ob_I eS32 o_a12
        have o_a17 := ob_I eS32 o_a17
        have o_a21 := ob_I eS32 o_a21
        have o_a26 := ob_I eS32 o_a26
        have o_a7 := ob_I eS32 o_a7
        have o_v0 := ob_I eS32 o_v0
        exact hq _ hI g0 f0 hM
      · exact hq _ hI g0 f0 hM
set_option maxHeartbeats 4000000 in
set_option maxRecDepth 20000 in
theorem m_X7_addLeg {v0 : Nat} {v1 : Nat} {v2 : Int32} {v3 : Int32} {v4 : Int64} {v6 : Int32} {Q : HS → Prop} {S : HS} (hI : IV S) (o_v0 : ob S v0 7) (o_v1 : ob S v1 5)    (hM : WM S v0) (hq : ∀ (T : HS), IV T → Gr S T → FRI [(7, 3)] [] S T → (WM T v0) → Q T) : P_X7_addLeg v0 v1 v2 v3 v4 v6 Q S := by
  have g0 := gr_rf S
  have f0 := fri_rf [(7, 3)] [] S
  refine u_X7_addLeg ?_
  refine u_X7_addLeg_0 ?_
  refine ⟨o_v1, ?_⟩
  refine m_X5_minutesAt hI o_v1 (fun x1 S2 hI2 g3 p_x1 => ?_)
  subst p_x1
  intro _
  refine ⟨o_v0, ?_⟩
  intro x5 ex5
  have r_x5 : (0 : Int32) ≤ x5 ∧ x5 ≤ (224 : Int32) := by rw [ex5]; exact nu 8 rfl hI o_v0
  have d_x5 := ex5
  intro x6 ex6
  refine ⟨fun c7 => ?_, fun c7 => ?_⟩
  · refine u_X7_addLeg_82 ?_
    refine ⟨o_v1, ?_⟩
    refine m_X5_startOf hI o_v1 (fun x8 S9 hI2 g10 p_x8 => ?_)
    subst p_x8
    intro _
    refine m_X5_endOf hI o_v1 (fun x12 S13 hI2 g14 p_x12 => ?_)
    subst p_x12
    intro _
    refine ⟨o_v0, ?_⟩
    refine m_X7_addMove hI o_v0 hM (fun S17 hJ g18 fc19 p_S17 => ?_)
    have hM := p_S17
    have hI := hJ
    have f0 := fri_tr (S := S) g0 f0 fc19 (by decide) (by decide)
    have o_v0 := gr_ob g18 o_v0
    have o_v1 := gr_ob g18 o_v1
    have g0 := gr_tr (T := S) g0 g18
    intro _
    exact hq _ hI g0 f0 hM
  · refine ⟨fun c20 => ?_, fun c20 => ?_⟩
    · refine u_X7_addLeg_82 ?_
      refine ⟨o_v1, ?_⟩
      refine m_X5_startOf hI o_v1 (fun x21 S22 hI2 g23 p_x21 => ?_)
      subst p_x21
      intro _
      refine m_X5_endOf hI o_v1 (fun x25 S26 hI2 g27 p_x25 => ?_)
      subst p_x25
      intro _
      refine ⟨o_v0, ?_⟩
      refine m_X7_addMove hI o_v0 hM (fun S30 hJ g31 fc32 p_S30 => ?_)
      have hM := p_S30
      have hI := hJ
      have f0 := fri_tr (S := S) g0 f0 fc32 (by decide) (by decide)
      have o_v0 := gr_ob g31 o_v0
      have o_v1 := gr_ob g31 o_v1
      have g0 := gr_tr (T := S) g0 g31
      intro _
      exact hq _ hI g0 f0 hM
    · obtain ⟨a33, ea33, o_a33, -⟩ := sh 28 rfl hI o_v0
      have l_a33 := wm hM 7 rfl ea33
      refine ⟨a33, ea33, ?_⟩
      refine ⟨o_a33, ?_⟩
      refine ⟨(vin l_a33 (m := 224) (by decide) (q1040 r_x5 ex6 c7 c20)), ?_⟩
      intro x34 ex34
      intro x35 ex35
      intro x36 ex36
      refine ⟨fun c37 => ?_, fun c37 => ?_⟩
      · refine u_X7_addLeg_82 ?_
        refine ⟨o_v1, ?_⟩
        refine m_X5_startOf hI o_v1 (fun x38 S39 hI2 g40 p_x38 => ?_)
        subst p_x38
        intro _
        refine m_X5_endOf hI o_v1 (fun x42 S43 hI2 g44 p_x42 => ?_)
        subst p_x42
        intro _
        refine ⟨o_v0, ?_⟩
        refine m_X7_addMove hI o_v0 hM (fun S47 hJ g48 fc49 p_S47 => ?_)
        have hM := p_S47
        have hI := hJ
        have l_a33 := (gr_len g48 o_a33).trans l_a33
        have ea33 := (frr_at fc49 (by decide) (by decide) o_v0).trans ea33
        have f0 := fri_tr (S := S) g0 f0 fc49 (by decide) (by decide)
        have o_a33 := gr_ob g48 o_a33
        have o_v0 := gr_ob g48 o_v0
        have o_v1 := gr_ob g48 o_v1
        have g0 := gr_tr (T := S) g0 g48
        intro _
        exact hq _ hI g0 f0 hM
      · obtain ⟨a50, ea50, o_a50, -⟩ := sh 26 rfl hI o_v0
        have l_a50 := wm hM 5 rfl ea50
        refine ⟨a50, ea50, ?_⟩
        refine ⟨o_a50, ?_⟩
        refine ⟨(vin l_a50 (m := 224) (by decide) (q1041 r_x5 ex6 c7 c20 ex35 ex36 c37)), ?_⟩
        intro x51 ex51
        refine ⟨fun c52 => ?_, fun c52 => ?_⟩
        · refine u_X7_addLeg_82 ?_
          refine ⟨o_v1, ?_⟩
          refine m_X5_startOf hI o_v1 (fun x53 S54 hI2 g55 p_x53 => ?_)
          subst p_x53
          intro _
          refine m_X5_endOf hI o_v1 (fun x57 S58 hI2 g59 p_x57 => ?_)
          subst p_x57
          intro _
          refine ⟨o_v0, ?_⟩
          refine m_X7_addMove hI o_v0 hM (fun S62 hJ g63 fc64 p_S62 => ?_)
          have hM := p_S62
          have hI := hJ
          have l_a33 := (gr_len g63 o_a33).trans l_a33
          have l_a50 := (gr_len g63 o_a50).trans l_a50
          have ea33 := (frr_at fc64 (by decide) (by decide) o_v0).trans ea33
          have ea50 := (frr_at fc64 (by decide) (by decide) o_v0).trans ea50
          have f0 := fri_tr (S := S) g0 f0 fc64 (by decide) (by decide)
          have o_a33 := gr_ob g63 o_a33
          have o_a50 := gr_ob g63 o_a50
          have o_v0 := gr_ob g63 o_v0
          have o_v1 := gr_ob g63 o_v1
          have g0 := gr_tr (T := S) g0 g63
          intro _
          exact hq _ hI g0 f0 hM
        · obtain ⟨a65, ea65, o_a65, -⟩ := sh 27 rfl hI o_v0
          have l_a65 := wm hM 6 rfl ea65
          refine ⟨a65, ea65, ?_⟩
          refine ⟨o_a65, ?_⟩
          refine ⟨(vin l_a65 (m := 224) (by decide) (q1042 r_x5 ex6 c7 c20 ex35 ex36 c37 c52)), ?_⟩
          intro x66 ex66
          refine ⟨fun c67 => ?_, fun c67 => ?_⟩
          · intro S68 eS68
            have hI : IV S68 := by rw [eS68]; exact iv_sI hI o_v0 (by decide) (nu_one (lo := (0 : Int32)) (hi := (224 : Int32)) (by decide) (q1043 r_x5 ex6 c7 c20 ex35 ex36 c37 c52 c67))
            have f0 := fr_I eS68 g0 f0 o_v0 (by decide)
            have d_x6 := rd_Is eS68 (rfl : x6 = x6)
            have ea33 := rf_I eS68 ea33
            have ea50 := rf_I eS68 ea50
            have ea65 := rf_I eS68 ea65
            have hM := wm_I eS68 hM
            have l_a33 := ln_I eS68 l_a33
            have l_a50 := ln_I eS68 l_a50
            have l_a65 := ln_I eS68 l_a65
            have g0 := gr_I eS68 g0
            have o_a33 := ob_I eS68 o_a33
            have o_a50 := ob_I eS68 o_a50
            have o_a65 := ob_I eS68 o_a65
            have o_v0 := ob_I eS68 o_v0
            have o_v1 := ob_I eS68 o_v1
            refine u_X7_addLeg_82 ?_
            refine ⟨o_v1, ?_⟩
            refine m_X5_startOf hI o_v1 (fun x69 S70 hI2 g71 p_x69 => ?_)
            subst p_x69
            intro _
            refine m_X5_endOf hI o_v1 (fun x73 S74 hI2 g75 p_x73 => ?_)
            subst p_x73
            intro _
            refine ⟨o_v0, ?_⟩
            refine m_X7_addMove hI o_v0 hM (fun S78 hJ g79 fc80 p_S78 => ?_)
            have hM := p_S78
            have hI := hJ
            have l_a33 := (gr_len g79 o_a33).trans l_a33
            have l_a50 := (gr_len g79 o_a50).trans l_a50
            have l_a65 := (gr_len g79 o_a65).trans l_a65
            have ea33 := (frr_at fc80 (by decide) (by decide) o_v0).trans ea33
            have ea50 := (frr_at fc80 (by decide) (by decide) o_v0).trans ea50
            have ea65 := (frr_at fc80 (by decide) (by decide) o_v0).trans ea65
            have f0 := fri_tr (S := S68) g0 f0 fc80 (by decide) (by decide)
            have o_a33 := gr_ob g79 o_a33
            have o_a50 := gr_ob g79 o_a50
            have o_a65 := gr_ob g79 o_a65
            have o_v0 := gr_ob g79 o_v0
            have o_v1 := gr_ob g79 o_v1
            have g0 := gr_tr (T := S68) g0 g79
            intro _
            exact hq _ hI g0 f0 hM
          · exact hq _ hI g0 f0 hM
set_option maxHeartbeats 4000000 in
set_option maxRecDepth 20000 in
theorem m_X7_keyOf {v0 : Nat} {v1 : Int32} {v2 : Int32} {Q : Int64 → HS → Prop} {S : HS} (hI : IV S) (o_v0 : ob S v0 7)     (hq : ∀ (r : Int64) (T : HS), IV T → Gr S T → (S = T) → Q r T) : P_X7_keyOf v0 v1 v2 Q S := by
  have g0 := gr_rf S
  refine u_X7_keyOf ?_
  refine u_X7_keyOf_0 ?_
  intro x1 ex1
  refine ⟨fun c2 => ?_, fun c2 => ?_⟩
  · exact hq _ _ hI g0 rfl
  · refine ⟨o_v0, ?_⟩
    obtain ⟨a3, ea3, o_a3, -⟩ := sh 22 rfl hI o_v0
    have hl_a3 := wyl hI o_v0 1 rfl (by decide) ea3
    refine ⟨a3, ea3, ?_⟩
    refine ⟨o_a3, ?_⟩
    refine ⟨fun c4 => ?_, fun c4 => ?_⟩
    · exact hq _ _ hI g0 rfl
    · refine ⟨a3, ea3, ?_⟩
      refine ⟨o_a3, ?_⟩
      refine ⟨(vinL hl_a3 (q1033 ex1 c2 c4)), ?_⟩
      intro x6 ex6
      exact hq _ _ hI g0 rfl
set_option maxHeartbeats 4000000 in
set_option maxRecDepth 20000 in
theorem m_X7_endFrom {v0 : Nat} {v1 : Int32} {v2 : Int32} {Q : Int32 → HS → Prop} {S : HS} (hI : IV S) (o_v0 : ob S v0 7)     (hq : ∀ (r : Int32) (T : HS), IV T → Gr S T → (S = T) → Q r T) : P_X7_endFrom v0 v1 v2 Q S := by
  have g0 := gr_rf S
  refine u_X7_endFrom ?_
  refine u_X7_endFrom_0 ?_
  refine ⟨o_v0, ?_⟩
  refine m_X7_keyOf hI o_v0 (fun x1 S2 hI2 g3 p_x1 => ?_)
  subst p_x1
  intro _
  intro x5 ex5
  exact hq _ _ hI g0 rfl
set_option maxHeartbeats 4000000 in
set_option maxRecDepth 20000 in
theorem m_X7_isOpen {v0 : Nat} {v1 : Int32} {v2 : Int32} {Q : Int32 → HS → Prop} {S : HS} (hI : IV S) (o_v0 : ob S v0 7)     (hq : ∀ (r : Int32) (T : HS), IV T → Gr S T → bl r → (S = T) → Q r T) : P_X7_isOpen v0 v1 v2 Q S := by
  have g0 := gr_rf S
  refine u_X7_isOpen ?_
  refine u_X7_isOpen_0 ?_
  refine ⟨o_v0, ?_⟩
  refine m_X7_keyOf hI o_v0 (fun x1 S2 hI2 g3 p_x1 => ?_)
  subst p_x1
  intro _
  refine ⟨fun c5 => ?_, fun c5 => ?_⟩
  · exact hq _ _ hI g0 (Or.inl rfl) rfl
  · exact hq _ _ hI g0 (Or.inr rfl) rfl
set_option maxHeartbeats 4000000 in
set_option maxRecDepth 20000 in
theorem m_X7_meanFrom {v0 : Nat} {v1 : Int32} {v2 : Int32} {Q : Int64 → HS → Prop} {S : HS} (hI : IV S) (o_v0 : ob S v0 7)     (hq : ∀ (r : Int64) (T : HS), IV T → Gr S T → (S = T) → Q r T) : P_X7_meanFrom v0 v1 v2 Q S := by
  have g0 := gr_rf S
  refine u_X7_meanFrom ?_
  refine u_X7_meanFrom_0 ?_
  refine ⟨o_v0, ?_⟩
  refine m_X7_keyOf hI o_v0 (fun x1 S2 hI2 g3 p_x1 => ?_)
  subst p_x1
  intro _
  intro x5 ex5
  exact hq _ _ hI g0 rfl
set_option maxHeartbeats 4000000 in
set_option maxRecDepth 20000 in
theorem m_X8_hasPlace {v0 : Nat} {v1 : Int32} {Q : Int32 → HS → Prop} {S : HS} (hI : IV S) (o_v0 : ob S v0 8)     (hq : ∀ (r : Int32) (T : HS), IV T → Gr S T → bl r → (S = T) ∧ (r = 1 → 0 ≤ v1 ∧ v1 < 8) → Q r T) : P_X8_hasPlace v0 v1 Q S := by
  have g0 := gr_rf S
  refine u_X8_hasPlace ?_
  refine u_X8_hasPlace_0 ?_
  refine ⟨fun c1 => ?_, fun c1 => ?_⟩
  · exact hq _ _ hI g0 (Or.inl rfl) ⟨rfl, (q750 c1)⟩
  · refine ⟨o_v0, ?_⟩
    intro x2 ex2
    have r_x2 : (0 : Int32) ≤ x2 ∧ x2 ≤ (8 : Int32) := by rw [ex2]; exact nu 12 rfl hI o_v0
    have d_x2 := ex2
    refine ⟨fun c3 => ?_, fun c3 => ?_⟩
    · exact hq _ _ hI g0 (Or.inl rfl) ⟨rfl, (q751 c1 r_x2 c3)⟩
    · obtain ⟨a4, ea4, o_a4, l_a4⟩ := shl 16 rfl hI o_v0
      refine ⟨a4, ea4, ?_⟩
      refine ⟨o_a4, ?_⟩
      have n_a4 : nI (hN S a4) = 8 := by rw [show hN S a4 = 8 from l_a4]; decide
      refine ⟨fun c5 => ?_, fun c5 => ?_⟩
      · rw [n_a4] at c5
        exact hq _ _ hI g0 (Or.inl rfl) ⟨rfl, (q752 c1 r_x2 c3 c5)⟩
      · rw [n_a4] at c5
        exact hq _ _ hI g0 (Or.inr rfl) ⟨rfl, (q753 c1 r_x2 c3 c5)⟩
set_option maxHeartbeats 4000000 in
set_option maxRecDepth 20000 in
theorem m_X8_canWait {v0 : Nat} {v1 : Int32} {Q : Int32 → HS → Prop} {S : HS} (hI : IV S) (o_v0 : ob S v0 8)     (hq : ∀ (r : Int32) (T : HS), IV T → Gr S T → bl r → (S = T) ∧ (r = 1 → 0 ≤ v1 ∧ v1 < 8) → Q r T) : P_X8_canWait v0 v1 Q S := by
  have g0 := gr_rf S
  refine u_X8_canWait ?_
  refine u_X8_canWait_0 ?_
  refine ⟨o_v0, ?_⟩
  refine m_X8_hasPlace hI o_v0 (fun x1 S2 hI2 g3 b_x1 p_x1 => ?_)
  obtain ⟨z_S2, p_x1⟩ := p_x1
  subst z_S2
  intro _ _
  have bb_x1 : x1 = 0 ∨ x1 = 1 := b_x1
  refine ⟨fun c5 => ?_, fun c5 => ?_⟩
  · exact hq _ _ hI g0 (Or.inl rfl) ⟨rfl, (q1030 p_x1 bb_x1 c5)⟩
  · obtain ⟨a6, ea6, o_a6, l_a6⟩ := shl 16 rfl hI o_v0
    refine ⟨a6, ea6, ?_⟩
    refine ⟨o_a6, ?_⟩
    refine ⟨(vin l_a6 (m := 8) (by decide) (q1029 p_x1 bb_x1 c5)), ?_⟩
    intro x7 ex7
    refine ⟨fun c8 => ?_, fun c8 => ?_⟩
    · exact hq _ _ hI g0 (Or.inl rfl) ⟨rfl, (q1031 p_x1 bb_x1 c5 c8)⟩
    · exact hq _ _ hI g0 (Or.inr rfl) ⟨rfl, (q1032 p_x1 bb_x1 c5 c8)⟩
set_option maxHeartbeats 4000000 in
set_option maxRecDepth 20000 in
theorem m_X8_dripOn {v0 : Nat} {v1 : Nat} {v2 : Int32} {Q : Int32 → HS → Prop} {S : HS} (hI : IV S) (o_v0 : ob S v0 8) (o_v1 : ob S v1 6)     (hq : ∀ (r : Int32) (T : HS), IV T → Gr S T → (S = T) → Q r T) : P_X8_dripOn v0 v1 v2 Q S := by
  have g0 := gr_rf S
  refine u_X8_dripOn ?_
  refine u_X8_dripOn_0 ?_
  refine ⟨o_v0, ?_⟩
  refine m_X8_canWait hI o_v0 (fun x1 S2 hI2 g3 b_x1 p_x1 => ?_)
  obtain ⟨z_S2, p_x1⟩ := p_x1
  subst z_S2
  intro _ _
  have bb_x1 : x1 = 0 ∨ x1 = 1 := b_x1
  refine ⟨fun c5 => ?_, fun c5 => ?_⟩
  · exact hq _ _ hI g0 rfl
  · obtain ⟨a6, ea6, o_a6, l_a6⟩ := shl 16 rfl hI o_v0
    refine ⟨a6, ea6, ?_⟩
    refine ⟨o_a6, ?_⟩
    refine ⟨(vin l_a6 (m := 8) (by decide) (q1029 p_x1 bb_x1 c5)), ?_⟩
    intro x7 ex7
    refine ⟨o_v1, ?_⟩
    intro x8 ex8
    have d_x8 := ex8
    refine m_X6_shield hI o_v1 (fun x9 S10 hI2 g11 p_x9 => ?_)
    subst p_x9
    intro _
    intro x13 ex13
    exact hq _ _ hI g0 rfl
set_option maxHeartbeats 4000000 in
set_option maxRecDepth 20000 in
theorem m_X8_hasHour {v0 : Nat} {v1 : Int32} {Q : Int32 → HS → Prop} {S : HS} (hI : IV S) (o_v0 : ob S v0 8)     (hq : ∀ (r : Int32) (T : HS), IV T → Gr S T → bl r → (S = T) ∧ (r = 1 → 0 ≤ v1 ∧ v1 < 6) → Q r T) : P_X8_hasHour v0 v1 Q S := by
  have g0 := gr_rf S
  refine u_X8_hasHour ?_
  refine u_X8_hasHour_0 ?_
  refine ⟨fun c1 => ?_, fun c1 => ?_⟩
  · exact hq _ _ hI g0 (Or.inl rfl) ⟨rfl, (q27 c1)⟩
  · refine ⟨o_v0, ?_⟩
    intro x2 ex2
    have r_x2 : (0 : Int32) ≤ x2 ∧ x2 ≤ (6 : Int32) := by rw [ex2]; exact nu 11 rfl hI o_v0
    have d_x2 := ex2
    refine ⟨fun c3 => ?_, fun c3 => ?_⟩
    · exact hq _ _ hI g0 (Or.inl rfl) ⟨rfl, (q28 c1 r_x2 c3)⟩
    · obtain ⟨a4, ea4, o_a4, l_a4⟩ := shl 15 rfl hI o_v0
      refine ⟨a4, ea4, ?_⟩
      refine ⟨o_a4, ?_⟩
      have n_a4 : nI (hN S a4) = 6 := by rw [show hN S a4 = 6 from l_a4]; decide
      refine ⟨fun c5 => ?_, fun c5 => ?_⟩
      · rw [n_a4] at c5
        exact hq _ _ hI g0 (Or.inl rfl) ⟨rfl, (q29 c1 r_x2 c3 c5)⟩
      · rw [n_a4] at c5
        exact hq _ _ hI g0 (Or.inr rfl) ⟨rfl, (q30 c1 r_x2 c3 c5)⟩
set_option maxHeartbeats 4000000 in
set_option maxRecDepth 20000 in
theorem m_X7_price {v0 : Nat} {v1 : Nat} {v2 : Nat} {v3 : Int32} {Q : HS → Prop} {S : HS} (hI : IV S) (o_v0 : ob S v0 7) (o_v1 : ob S v1 8) (o_v2 : ob S v2 1)    (hM : WM S v0) (hq : ∀ (T : HS), IV T → Gr S T → FRI [(7, 3), (7, 9)] [] S T → (WM T v0) → Q T) : P_X7_price v0 v1 v2 v3 Q S := by
  have g0 := gr_rf S
  have f0 := fri_rf [(7, 3), (7, 9)] [] S
  refine u_X7_price ?_
  refine u_X7_price_0 ?_
  refine ⟨o_v0, ?_⟩
  intro S1 eS1
  have hI : IV S1 := by rw [eS1]; exact iv_sI hI o_v0 (by decide) (nu_free (by decide))
  have f0 := fr_I eS1 g0 f0 o_v0 (by decide)
  have d_v3 := rd_Is eS1 (rfl : v3 = v3)
  have hM := wm_I eS1 hM
  have g0 := gr_I eS1 g0
  have o_v0 := ob_I eS1 o_v0
  have o_v1 := ob_I eS1 o_v1
  have o_v2 := ob_I eS1 o_v2
  intro S2 eS2
  have hI : IV S2 := by rw [eS2]; exact iv_sI hI o_v0 (by decide) (nu_one (lo := (0 : Int32)) (hi := (224 : Int32)) (by decide) (q981))
  have f0 := fr_I eS2 g0 f0 o_v0 (by decide)
  have d_v3 := rd_Ij eS2 (by decide) d_v3
  obtain ⟨y3, hy3⟩ : ∃ z : Int32, z = (0 : Int32) := ⟨_, rfl⟩
  have d_y3 := rd_Is eS2 hy3
  have hM := wm_I eS2 hM
  have g0 := gr_I eS2 g0
  have o_v0 := ob_I eS2 o_v0
  have o_v1 := ob_I eS2 o_v1
  have o_v2 := ob_I eS2 o_v2
  intro x4 ex4
  have d_x4 := ex4
  refine ⟨o_v1, ?_⟩
  refine m_X8_hasWalker hI o_v1 (fun x5 S6 hI2 g7 b_x5 p_x5 => ?_)
  obtain ⟨z_S6, p_x5⟩ := p_x5
  subst z_S6
  intro _ _
  have bb_x5 : x5 = 0 ∨ x5 = 1 := b_x5
  refine ⟨fun c9 => ?_, fun c9 => ?_⟩
  · obtain ⟨a10, ea10, o_a10, l_a10⟩ := shl 18 rfl hI o_v1
    refine ⟨a10, ea10, ?_⟩
    intro x11 ex11
    have q_x11 : x11 = x4 := ex11.trans d_x4.symm
    have d_x11 := ex11
    refine ⟨o_a10, ?_⟩
    have i13 : vp_in x11 (hN _ a10) := (vin l_a10 (m := 4) (by decide) (q982 p_x5 bb_x5 c9 q_x11))
    obtain ⟨a12, ea12, o_a12⟩ := ae hI o_a10 (by decide) (by decide) i13
    replace o_a12 : ob _ a12 6 := o_a12
    refine ⟨i13, a12, ea12, ?_⟩
    refine m_X8_hasHour hI o_v1 (fun x14 S15 hI2 g16 b_x14 p_x14 => ?_)
    obtain ⟨z_S15, p_x14⟩ := p_x14
    subst z_S15
    intro _ _
    have bb_x14 : x14 = 0 ∨ x14 = 1 := b_x14
    refine ⟨fun c18 => ?_, fun c18 => ?_⟩
    · refine u_X7_price_46 ?_
      refine i_X7_price_51 (fun (y0 : Nat) (y1 : Nat) (y2 : Nat) (y3 : Int32) (y4 : Nat) (y5 : Int32) (y6 : Int32) (Z : HS) => ((2147483647 : Int32).toInt - y6.toInt).toNat) (fun (y0 : Nat) (y1 : Nat) (y2 : Nat) (y3 : Int32) (y4 : Nat) (y5 : Int32) (y6 : Int32) (Z : HS) => (IV Z) ∧ (Gr S2 Z) ∧ (FRI [(7, 3)] [] S2 Z) ∧ (v0 = y0) ∧ (v1 = y1) ∧ (v2 = y2) ∧ (v3 = y3) ∧ (a12 = y4) ∧ ((0 : Int32) = y5) ∧ (WM Z v0) ∧ (0 ≤ y6)) ?_ _ _ _ _ _ _ _ _ ⟨hI, (gr_rf _), (fri_rf _ _ _), rfl, rfl, rfl, rfl, rfl, rfl, hM, (q983 p_x5 bb_x5 c9 q_x11 p_x14 bb_x14 c18)⟩
      intro w23 w25 w27 w29 w31 w33 w35 S20 X36 ⟨hI, gL21, fL22, q24, q26, q28, q30, q32, q34, hM, i1u19⟩ ih37
      subst q24
      subst q26
      subst q28
      subst q30
      subst q32
      subst q34
      have l_a10 := (gr_len gL21 o_a10).trans l_a10
      have d_v3 := d_v3.trans (fri_at fL22 (by decide) (by decide) o_v0).symm
      have d_x11 := d_x11.trans (fri_at fL22 (by decide) (by decide) o_v0).symm
      have ea10 := (frr_at fL22 (by decide) (by decide) o_v1).trans ea10
      have f0 := fri_tr (S := S2) g0 f0 fL22 (by decide) (by decide)
      have o_a10 := gr_ob gL21 o_a10
      have o_a12 := gr_ob gL21 o_a12
      have o_v0 := gr_ob gL21 o_v0
      have o_v1 := gr_ob gL21 o_v1
      have o_v2 := gr_ob gL21 o_v2
      have g0 := gr_tr (T := S2) g0 gL21
      refine u_X7_price_51 ?_
      refine ⟨o_v1, ?_⟩
      intro x38 ex38
      have r_x38 : (0 : Int32) ≤ x38 ∧ x38 ≤ (12 : Int32) := by rw [ex38]; exact nu 13 rfl hI o_v1
      have d_x38 := ex38
      refine ⟨fun c39 => ?_, fun c39 => ?_⟩
      · refine i_X7_price_179 (fun (y0 : Nat) (y1 : Nat) (y3 : Int32) (y4 : Nat) (y5 : Int32) (y6 : Int32) (Z : HS) => ((2147483647 : Int32).toInt - y6.toInt).toNat) (fun (y0 : Nat) (y1 : Nat) (y3 : Int32) (y4 : Nat) (y5 : Int32) (y6 : Int32) (Z : HS) => (IV Z) ∧ (Gr S20 Z) ∧ (FRI [(7, 3)] [] S20 Z) ∧ (v0 = y0) ∧ (v1 = y1) ∧ (v3 = y3) ∧ (a12 = y4) ∧ ((0 : Int32) = y5) ∧ (WM Z v0) ∧ (0 ≤ y6)) ?_ _ _ _ _ _ _ _ ⟨hI, (gr_rf _), (fri_rf _ _ _), rfl, rfl, rfl, rfl, rfl, hM, (q984 p_x5 bb_x5 c9 q_x11 p_x14 bb_x14 c18 i1u19 r_x38 c39)⟩
        intro w44 w46 w48 w50 w52 w54 S41 X55 ⟨hI, gL42, fL43, q45, q47, q49, q51, q53, hM, i1u40⟩ ih56
        subst q45
        subst q47
        subst q49
        subst q51
        subst q53
        have l_a10 := (gr_len gL42 o_a10).trans l_a10
        have d_v3 := d_v3.trans (fri_at fL43 (by decide) (by decide) o_v0).symm
        have d_x11 := d_x11.trans (fri_at fL43 (by decide) (by decide) o_v0).symm
        have d_x38 := d_x38.trans (fri_at fL43 (by decide) (by decide) o_v1).symm
        have ea10 := (frr_at fL43 (by decide) (by decide) o_v1).trans ea10
        have f0 := fri_tr (S := S20) g0 f0 fL43 (by decide) (by decide)
        have o_a10 := gr_ob gL42 o_a10
        have o_a12 := gr_ob gL42 o_a12
        have o_v0 := gr_ob gL42 o_v0
        have o_v1 := gr_ob gL42 o_v1
        have o_v2 := gr_ob gL42 o_v2
        have g0 := gr_tr (T := S20) g0 gL42
        refine u_X7_price_179 ?_
        refine ⟨o_v1, ?_⟩
        intro x57 ex57
        have r_x57 : (0 : Int32) ≤ x57 ∧ x57 ≤ (8 : Int32) := by rw [ex57]; exact nu 12 rfl hI o_v1
        have d_x57 := ex57
        refine ⟨fun c58 => ?_, fun c58 => ?_⟩
        · exact hq _ hI g0 f0 hM
        · refine m_X8_canWait hI o_v1 (fun x59 S60 hI2 g61 b_x59 p_x59 => ?_)
          obtain ⟨z_S60, p_x59⟩ := p_x59
          subst z_S60
          intro _ _
          have bb_x59 : x59 = 0 ∨ x59 = 1 := b_x59
          refine ⟨fun c63 => ?_, fun c63 => ?_⟩
          · refine u_X7_price_245 ?_
            intro x64 ex64
            exact ih56 _ _ _ _ _ _ _ ⟨hI, gL42, fL43, rfl, rfl, rfl, rfl, rfl, hM, (q985 p_x5 bb_x5 c9 q_x11 p_x14 bb_x14 c18 i1u19 r_x38 c39 i1u40 r_x57 c58 p_x59 bb_x59 c63 ex64)⟩ (mu_up (q986 p_x5 bb_x5 c9 q_x11 p_x14 bb_x14 c18 i1u19 r_x38 c39 i1u40 r_x57 c58 p_x59 bb_x59 c63 ex64) (q987 p_x5 bb_x5 c9 q_x11 p_x14 bb_x14 c18 i1u19 r_x38 c39 i1u40 r_x57 c58 p_x59 bb_x59 c63 ex64))
          · refine ⟨fun c65 => ?_, fun c65 => ?_⟩
            · refine m_X8_dripOn hI o_v1 o_a12 (fun x66 S67 hI2 g68 p_x66 => ?_)
              subst p_x66
              intro _
              obtain ⟨a70, ea70, o_a70, l_a70⟩ := shl 15 rfl hI o_v1
              refine ⟨a70, ea70, ?_⟩
              refine ⟨o_a70, ?_⟩
              have i72 : vp_in v3 (hN _ a70) := (vin l_a70 (m := 6) (by decide) (q988 p_x5 bb_x5 c9 q_x11 p_x14 bb_x14 c18 i1u19 r_x38 c39 i1u40 r_x57 c58 p_x59 bb_x59 c63))
              obtain ⟨a71, ea71, o_a71⟩ := ae hI o_a70 (by decide) (by decide) i72
              replace o_a71 : ob _ a71 3 := o_a71
              refine ⟨i72, a71, ea71, ?_⟩
              refine ⟨o_a71, ?_⟩
              intro x73 ex73
              have d_x73 := ex73
              refine u_X7_price_230 ?_
              refine ⟨o_v0, ?_⟩
              refine m_X7_addMove hI o_v0 hM (fun S75 hJ g76 fc77 p_S75 => ?_)
              have hM := p_S75
              have hI := hJ
              have l_a10 := (gr_len g76 o_a10).trans l_a10
              have l_a70 := (gr_len g76 o_a70).trans l_a70
              have d_v3 := d_v3.trans (fri_at fc77 (by decide) (by decide) o_v0).symm
              have d_x11 := d_x11.trans (fri_at fc77 (by decide) (by decide) o_v0).symm
              have d_x38 := d_x38.trans (fri_at fc77 (by decide) (by decide) o_v1).symm
              have d_x57 := d_x57.trans (fri_at fc77 (by decide) (by decide) o_v1).symm
              have d_x73 := d_x73.trans (fri_at fc77 (by decide) (by decide) o_a71).symm
              have ea10 := (frr_at fc77 (by decide) (by decide) o_v1).trans ea10
              have ea70 := (frr_at fc77 (by decide) (by decide) o_v1).trans ea70
              have f0 := fri_tr (S := S41) g0 f0 fc77 (by decide) (by decide)
              have fL43 := fri_tr (S := S41) gL42 fL43 fc77 (by decide) (by decide)
              have o_a10 := gr_ob g76 o_a10
              have o_a12 := gr_ob g76 o_a12
              have o_a70 := gr_ob g76 o_a70
              have o_a71 := gr_ob g76 o_a71
              have o_v0 := gr_ob g76 o_v0
              have o_v1 := gr_ob g76 o_v1
              have o_v2 := gr_ob g76 o_v2
              have g0 := gr_tr (T := S41) g0 g76
              have gL42 := gr_tr (T := S41) gL42 g76
              intro _
              refine u_X7_price_245 ?_
              intro x78 ex78
              exact ih56 _ _ _ _ _ _ _ ⟨hI, gL42, fL43, rfl, rfl, rfl, rfl, rfl, hM, (q989 p_x5 bb_x5 c9 q_x11 p_x14 bb_x14 c18 i1u19 r_x38 c39 i1u40 r_x57 c58 p_x59 bb_x59 c63 ex78)⟩ (mu_up (q990 p_x5 bb_x5 c9 q_x11 p_x14 bb_x14 c18 i1u19 r_x38 c39 i1u40 r_x57 c58 p_x59 bb_x59 c63 ex78) (q991 p_x5 bb_x5 c9 q_x11 p_x14 bb_x14 c18 i1u19 r_x38 c39 i1u40 r_x57 c58 p_x59 bb_x59 c63 ex78))
            · refine u_X7_price_230 ?_
              refine ⟨o_v0, ?_⟩
              refine m_X7_addMove hI o_v0 hM (fun S80 hJ g81 fc82 p_S80 => ?_)
              have hM := p_S80
              have hI := hJ
              have l_a10 := (gr_len g81 o_a10).trans l_a10
              have d_v3 := d_v3.trans (fri_at fc82 (by decide) (by decide) o_v0).symm
              have d_x11 := d_x11.trans (fri_at fc82 (by decide) (by decide) o_v0).symm
              have d_x38 := d_x38.trans (fri_at fc82 (by decide) (by decide) o_v1).symm
              have d_x57 := d_x57.trans (fri_at fc82 (by decide) (by decide) o_v1).symm
              have ea10 := (frr_at fc82 (by decide) (by decide) o_v1).trans ea10
              have f0 := fri_tr (S := S41) g0 f0 fc82 (by decide) (by decide)
              have fL43 := fri_tr (S := S41) gL42 fL43 fc82 (by decide) (by decide)
              have o_a10 := gr_ob g81 o_a10
              have o_a12 := gr_ob g81 o_a12
              have o_v0 := gr_ob g81 o_v0
              have o_v1 := gr_ob g81 o_v1
              have o_v2 := gr_ob g81 o_v2
              have g0 := gr_tr (T := S41) g0 g81
              have gL42 := gr_tr (T := S41) gL42 g81
              intro _
              refine u_X7_price_245 ?_
              intro x83 ex83
              exact ih56 _ _ _ _ _ _ _ ⟨hI, gL42, fL43, rfl, rfl, rfl, rfl, rfl, hM, (q992 p_x5 bb_x5 c9 q_x11 p_x14 bb_x14 c18 i1u19 r_x38 c39 i1u40 r_x57 c58 p_x59 bb_x59 c63 c65 ex83)⟩ (mu_up (q993 p_x5 bb_x5 c9 q_x11 p_x14 bb_x14 c18 i1u19 r_x38 c39 i1u40 r_x57 c58 p_x59 bb_x59 c63 c65 ex83) (q994 p_x5 bb_x5 c9 q_x11 p_x14 bb_x14 c18 i1u19 r_x38 c39 i1u40 r_x57 c58 p_x59 bb_x59 c63 c65 ex83))
      · obtain ⟨a84, ea84, o_a84, l_a84⟩ := shl 17 rfl hI o_v1
        refine ⟨a84, ea84, ?_⟩
        intro x85 ex85
        have dv_x85 : 0 ≤ x85 ∧ x85 < (12 : Int32) := by rw [ex85]; exact dvl (k := 12) (m := 24) (q995 p_x5 bb_x5 c9 q_x11 p_x14 bb_x14 c18 i1u19 r_x38 c39 ex85) (q996 p_x5 bb_x5 c9 q_x11 p_x14 bb_x14 c18 i1u19 r_x38 c39 ex85) (by decide) (by decide)
        refine ⟨o_a84, ?_⟩
        have i87 : vp_in x85 (hN _ a84) := (vin l_a84 (m := 12) (by decide) (q997 p_x5 bb_x5 c9 q_x11 p_x14 bb_x14 c18 i1u19 r_x38 c39 ex85 dv_x85))
        obtain ⟨a86, ea86, o_a86⟩ := ae hI o_a84 (by decide) (by decide) i87
        replace o_a86 : ob _ a86 5 := o_a86
        refine ⟨i87, a86, ea86, ?_⟩
        intro x88 ex88
        refine ⟨o_a12, ?_⟩
        intro x89 ex89
        have r_x89 : (0 : Int32) ≤ x89 ∧ x89 ≤ (9 : Int32) := by rw [ex89]; exact nu 4 rfl hI o_a12
        have d_x89 := ex89
        refine i_X7_price_86 (fun (y0 : Nat) (y1 : Nat) (y2 : Nat) (y3 : Int32) (y4 : Nat) (y5 : Int32) (y6 : Int32) (y7 : Nat) (y8 : Int32) (y9 : Int32) (Z : HS) => ((2147483647 : Int32).toInt - y9.toInt).toNat) (fun (y0 : Nat) (y1 : Nat) (y2 : Nat) (y3 : Int32) (y4 : Nat) (y5 : Int32) (y6 : Int32) (y7 : Nat) (y8 : Int32) (y9 : Int32) (Z : HS) => (IV Z) ∧ (Gr S20 Z) ∧ (FRI [(7, 3)] [] S20 Z) ∧ (v0 = y0) ∧ (v1 = y1) ∧ (v2 = y2) ∧ (v3 = y3) ∧ (a12 = y4) ∧ ((0 : Int32) = y5) ∧ (w35 = y6) ∧ (a86 = y7) ∧ (x88 = y8) ∧ (WM Z v0)) ?_ _ _ _ _ _ _ _ _ _ _ _ ⟨hI, (gr_rf _), (fri_rf _ _ _), rfl, rfl, rfl, rfl, rfl, rfl, rfl, rfl, rfl, hM⟩
        intro w94 w96 w98 w100 w102 w104 w106 w108 w110 w112 S91 X113 ⟨hI, gL92, fL93, q95, q97, q99, q101, q103, q105, q107, q109, q111, hM⟩ ih114
        subst q95
        subst q97
        subst q99
        subst q101
        subst q103
        subst q105
        subst q107
        subst q109
        subst q111
        have l_a10 := (gr_len gL92 o_a10).trans l_a10
        have l_a84 := (gr_len gL92 o_a84).trans l_a84
        have d_v3 := d_v3.trans (fri_at fL93 (by decide) (by decide) o_v0).symm
        have d_x11 := d_x11.trans (fri_at fL93 (by decide) (by decide) o_v0).symm
        have d_x38 := d_x38.trans (fri_at fL93 (by decide) (by decide) o_v1).symm
        have d_x89 := d_x89.trans (fri_at fL93 (by decide) (by decide) o_a12).symm
        have ea10 := (frr_at fL93 (by decide) (by decide) o_v1).trans ea10
        have ea84 := (frr_at fL93 (by decide) (by decide) o_v1).trans ea84
        have f0 := fri_tr (S := S20) g0 f0 fL93 (by decide) (by decide)
        have fL22 := fri_tr (S := S20) gL21 fL22 fL93 (by decide) (by decide)
        have o_a10 := gr_ob gL92 o_a10
        have o_a12 := gr_ob gL92 o_a12
        have o_a84 := gr_ob gL92 o_a84
        have o_a86 := gr_ob gL92 o_a86
        have o_v0 := gr_ob gL92 o_v0
        have o_v1 := gr_ob gL92 o_v1
        have o_v2 := gr_ob gL92 o_v2
        have g0 := gr_tr (T := S20) g0 gL92
        have gL21 := gr_tr (T := S20) gL21 gL92
        refine u_X7_price_86 ?_
        refine ⟨o_a12, ?_⟩
        intro x115 ex115
        have r_x115 : (0 : Int32) ≤ x115 ∧ x115 ≤ (9 : Int32) := by rw [ex115]; exact nu 5 rfl hI o_a12
        have d_x115 := ex115
        refine ⟨fun c116 => ?_, fun c116 => ?_⟩
        · intro x117 ex117
          exact ih37 _ _ _ _ _ _ _ _ ⟨hI, gL21, fL22, rfl, rfl, rfl, rfl, rfl, rfl, hM, (q998 p_x5 bb_x5 c9 q_x11 p_x14 bb_x14 c18 i1u19 r_x38 c39 ex85 dv_x85 ex88 r_x115 c116 ex117)⟩ (mu_up (q999 p_x5 bb_x5 c9 q_x11 p_x14 bb_x14 c18 i1u19 r_x38 c39 ex85 dv_x85 ex88 r_x115 c116 ex117) (q1000 p_x5 bb_x5 c9 q_x11 p_x14 bb_x14 c18 i1u19 r_x38 c39 ex85 dv_x85 ex88 r_x115 c116 ex117))
        · refine ⟨fun c118 => ?_, fun c118 => ?_⟩
          · refine ⟨o_v1, ?_⟩
            obtain ⟨a119, ea119, o_a119, l_a119⟩ := shl 15 rfl hI o_v1
            refine ⟨a119, ea119, ?_⟩
            refine ⟨o_a119, ?_⟩
            have i121 : vp_in v3 (hN _ a119) := (vin l_a119 (m := 6) (by decide) (q1001 p_x5 bb_x5 c9 q_x11 p_x14 bb_x14 c18 i1u19 r_x38 c39 ex85 dv_x85 ex88 r_x115 c116))
            obtain ⟨a120, ea120, o_a120⟩ := ae hI o_a119 (by decide) (by decide) i121
            replace o_a120 : ob _ a120 3 := o_a120
            refine ⟨i121, a120, ea120, ?_⟩
            refine ⟨o_v2, ?_⟩
            refine m_X1_wetOf hI o_v2 o_a12 o_a86 o_a120 (fun x122 S123 hJ g124 fc125 => ?_)
            have hM := wm_fr fc125 g124 hI o_v0 (by decide) hM
            have hI := hJ
            have l_a10 := (gr_len g124 o_a10).trans l_a10
            have l_a119 := (gr_len g124 o_a119).trans l_a119
            have l_a84 := (gr_len g124 o_a84).trans l_a84
            have d_v3 := d_v3.trans (fri_at fc125 (by decide) (by decide) o_v0).symm
            have d_x11 := d_x11.trans (fri_at fc125 (by decide) (by decide) o_v0).symm
            have d_x38 := d_x38.trans (fri_at fc125 (by decide) (by decide) o_v1).symm
            have d_x89 := d_x89.trans (fri_at fc125 (by decide) (by decide) o_a12).symm
            have d_x115 := d_x115.trans (fri_at fc125 (by decide) (by decide) o_a12).symm
            have ea10 := (frr_at fc125 (by decide) (by decide) o_v1).trans ea10
            have ea84 := (frr_at fc125 (by decide) (by decide) o_v1).trans ea84
            have ea119 := (frr_at fc125 (by decide) (by decide) o_v1).trans ea119
            have f0 := fri_tr (S := S91) g0 f0 fc125 (by decide) (by decide)
            have fL22 := fri_tr (S := S91) gL21 fL22 fc125 (by decide) (by decide)
            have fL93 := fri_tr (S := S91) gL92 fL93 fc125 (by decide) (by decide)
            have o_a10 := gr_ob g124 o_a10
            have o_a119 := gr_ob g124 o_a119
            have o_a12 := gr_ob g124 o_a12
            have o_a120 := gr_ob g124 o_a120
            have o_a84 := gr_ob g124 o_a84
            have o_a86 := gr_ob g124 o_a86
            have o_v0 := gr_ob g124 o_v0
            have o_v1 := gr_ob g124 o_v1
            have o_v2 := gr_ob g124 o_v2
            have g0 := gr_tr (T := S91) g0 g124
            have gL21 := gr_tr (T := S91) gL21 g124
            have gL92 := gr_tr (T := S91) gL92 g124
            intro _
            refine ⟨a119, ea119, ?_⟩
            refine ⟨o_a119, ?_⟩
            have i128 : vp_in v3 (hN _ a119) := (vin l_a119 (m := 6) (by decide) (q1001 p_x5 bb_x5 c9 q_x11 p_x14 bb_x14 c18 i1u19 r_x38 c39 ex85 dv_x85 ex88 r_x115 c116))
            obtain ⟨a127, ea127, o_a127⟩ := ae hI o_a119 (by decide) (by decide) i128
            replace o_a127 : ob _ a127 3 := o_a127
            refine ⟨i128, a127, ea127, ?_⟩
            refine ⟨o_a127, ?_⟩
            intro x129 ex129
            have d_x129 := ex129
            refine u_X7_price_134 ?_
            intro x130 ex130
            refine ⟨o_v0, ?_⟩
            refine m_X7_addLeg hI o_v0 o_a86 hM (fun S132 hJ g133 fc134 p_S132 => ?_)
            have hM := p_S132
            have hI := hJ
            have l_a10 := (gr_len g133 o_a10).trans l_a10
            have l_a119 := (gr_len g133 o_a119).trans l_a119
            have l_a84 := (gr_len g133 o_a84).trans l_a84
            have d_v3 := d_v3.trans (fri_at fc134 (by decide) (by decide) o_v0).symm
            have d_x11 := d_x11.trans (fri_at fc134 (by decide) (by decide) o_v0).symm
            have d_x38 := d_x38.trans (fri_at fc134 (by decide) (by decide) o_v1).symm
            have d_x89 := d_x89.trans (fri_at fc134 (by decide) (by decide) o_a12).symm
            have d_x115 := d_x115.trans (fri_at fc134 (by decide) (by decide) o_a12).symm
            have d_x129 := d_x129.trans (fri_at fc134 (by decide) (by decide) o_a127).symm
            have ea10 := (frr_at fc134 (by decide) (by decide) o_v1).trans ea10
            have ea84 := (frr_at fc134 (by decide) (by decide) o_v1).trans ea84
            have ea119 := (frr_at fc134 (by decide) (by decide) o_v1).trans ea119
            have f0 := fri_tr (S := S123) g0 f0 fc134 (by decide) (by decide)
            have fL22 := fri_tr (S := S123) gL21 fL22 fc134 (by decide) (by decide)
            have fL93 := fri_tr (S := S123) gL92 fL93 fc134 (by decide) (by decide)
            have o_a10 := gr_ob g133 o_a10
            have o_a119 := gr_ob g133 o_a119
            have o_a12 := gr_ob g133 o_a12
            have o_a120 := gr_ob g133 o_a120
            have o_a127 := gr_ob g133 o_a127
            have o_a84 := gr_ob g133 o_a84
            have o_a86 := gr_ob g133 o_a86
            have o_v0 := gr_ob g133 o_v0
            have o_v1 := gr_ob g133 o_v1
            have o_v2 := gr_ob g133 o_v2
            have g0 := gr_tr (T := S123) g0 g133
            have gL21 := gr_tr (T := S123) gL21 g133
            have gL92 := gr_tr (T := S123) gL92 g133
            intro _
            intro x135 ex135
            exact ih114 _ _ _ _ _ _ _ _ _ _ _ ⟨hI, gL92, fL93, rfl, rfl, rfl, rfl, rfl, rfl, rfl, rfl, rfl, hM⟩ (mu_up (q1002 p_x5 bb_x5 c9 q_x11 p_x14 bb_x14 c18 i1u19 r_x38 c39 ex85 dv_x85 ex88 r_x115 c116 ex130 ex135) (q1003 p_x5 bb_x5 c9 q_x11 p_x14 bb_x14 c18 i1u19 r_x38 c39 ex85 dv_x85 ex88 r_x115 c116 ex130 ex135))
          · refine u_X7_price_134 ?_
            intro x136 ex136
            refine ⟨o_v0, ?_⟩
            refine m_X7_addLeg hI o_v0 o_a86 hM (fun S138 hJ g139 fc140 p_S138 => ?_)
            have hM := p_S138
            have hI := hJ
            have l_a10 := (gr_len g139 o_a10).trans l_a10
            have l_a84 := (gr_len g139 o_a84).trans l_a84
            have d_v3 := d_v3.trans (fri_at fc140 (by decide) (by decide) o_v0).symm
            have d_x11 := d_x11.trans (fri_at fc140 (by decide) (by decide) o_v0).symm
            have d_x38 := d_x38.trans (fri_at fc140 (by decide) (by decide) o_v1).symm
            have d_x89 := d_x89.trans (fri_at fc140 (by decide) (by decide) o_a12).symm
            have d_x115 := d_x115.trans (fri_at fc140 (by decide) (by decide) o_a12).symm
            have ea10 := (frr_at fc140 (by decide) (by decide) o_v1).trans ea10
            have ea84 := (frr_at fc140 (by decide) (by decide) o_v1).trans ea84
            have f0 := fri_tr (S := S91) g0 f0 fc140 (by decide) (by decide)
            have fL22 := fri_tr (S := S91) gL21 fL22 fc140 (by decide) (by decide)
            have fL93 := fri_tr (S := S91) gL92 fL93 fc140 (by decide) (by decide)
            have o_a10 := gr_ob g139 o_a10
            have o_a12 := gr_ob g139 o_a12
            have o_a84 := gr_ob g139 o_a84
            have o_a86 := gr_ob g139 o_a86
            have o_v0 := gr_ob g139 o_v0
            have o_v1 := gr_ob g139 o_v1
            have o_v2 := gr_ob g139 o_v2
            have g0 := gr_tr (T := S91) g0 g139
            have gL21 := gr_tr (T := S91) gL21 g139
            have gL92 := gr_tr (T := S91) gL92 g139
            intro _
            intro x141 ex141
            exact ih114 _ _ _ _ _ _ _ _ _ _ _ ⟨hI, gL92, fL93, rfl, rfl, rfl, rfl, rfl, rfl, rfl, rfl, rfl, hM⟩ (mu_up (q1004 p_x5 bb_x5 c9 q_x11 p_x14 bb_x14 c18 i1u19 r_x38 c39 ex85 dv_x85 ex88 r_x115 c116 c118 ex136 ex141) (q1005 p_x5 bb_x5 c9 q_x11 p_x14 bb_x14 c18 i1u19 r_x38 c39 ex85 dv_x85 ex88 r_x115 c116 c118 ex136 ex141))
    · refine u_X7_price_46 ?_
      refine i_X7_price_51 (fun (y0 : Nat) (y1 : Nat) (y2 : Nat) (y3 : Int32) (y4 : Nat) (y5 : Int32) (y6 : Int32) (Z : HS) => ((2147483647 : Int32).toInt - y6.toInt).toNat) (fun (y0 : Nat) (y1 : Nat) (y2 : Nat) (y3 : Int32) (y4 : Nat) (y5 : Int32) (y6 : Int32) (Z : HS) => (IV Z) ∧ (Gr S2 Z) ∧ (FRI [(7, 3)] [] S2 Z) ∧ (v0 = y0) ∧ (v1 = y1) ∧ (v2 = y2) ∧ (v3 = y3) ∧ (a12 = y4) ∧ ((1 : Int32) = y5) ∧ (WM Z v0) ∧ (0 ≤ y6)) ?_ _ _ _ _ _ _ _ _ ⟨hI, (gr_rf _), (fri_rf _ _ _), rfl, rfl, rfl, rfl, rfl, rfl, hM, (q1006 p_x5 bb_x5 c9 q_x11 p_x14 bb_x14 c18)⟩
      intro w146 w148 w150 w152 w154 w156 w158 S143 X159 ⟨hI, gL144, fL145, q147, q149, q151, q153, q155, q157, hM, i1u142⟩ ih160
      subst q147
      subst q149
      subst q151
      subst q153
      subst q155
      subst q157
      have l_a10 := (gr_len gL144 o_a10).trans l_a10
      have d_v3 := d_v3.trans (fri_at fL145 (by decide) (by decide) o_v0).symm
      have d_x11 := d_x11.trans (fri_at fL145 (by decide) (by decide) o_v0).symm
      have ea10 := (frr_at fL145 (by decide) (by decide) o_v1).trans ea10
      have f0 := fri_tr (S := S2) g0 f0 fL145 (by decide) (by decide)
      have o_a10 := gr_ob gL144 o_a10
      have o_a12 := gr_ob gL144 o_a12
      have o_v0 := gr_ob gL144 o_v0
      have o_v1 := gr_ob gL144 o_v1
      have o_v2 := gr_ob gL144 o_v2
      have g0 := gr_tr (T := S2) g0 gL144
      refine u_X7_price_51 ?_
      refine ⟨o_v1, ?_⟩
      intro x161 ex161
      have r_x161 : (0 : Int32) ≤ x161 ∧ x161 ≤ (12 : Int32) := by rw [ex161]; exact nu 13 rfl hI o_v1
      have d_x161 := ex161
      refine ⟨fun c162 => ?_, fun c162 => ?_⟩
      · refine i_X7_price_179 (fun (y0 : Nat) (y1 : Nat) (y3 : Int32) (y4 : Nat) (y5 : Int32) (y6 : Int32) (Z : HS) => ((2147483647 : Int32).toInt - y6.toInt).toNat) (fun (y0 : Nat) (y1 : Nat) (y3 : Int32) (y4 : Nat) (y5 : Int32) (y6 : Int32) (Z : HS) => (IV Z) ∧ (Gr S143 Z) ∧ (FRI [(7, 3)] [] S143 Z) ∧ (v0 = y0) ∧ (v1 = y1) ∧ (v3 = y3) ∧ (a12 = y4) ∧ ((1 : Int32) = y5) ∧ (WM Z v0) ∧ (0 ≤ y6)) ?_ _ _ _ _ _ _ _ ⟨hI, (gr_rf _), (fri_rf _ _ _), rfl, rfl, rfl, rfl, rfl, hM, (q1007 p_x5 bb_x5 c9 q_x11 p_x14 bb_x14 c18 i1u142 r_x161 c162)⟩
        intro w167 w169 w171 w173 w175 w177 S164 X178 ⟨hI, gL165, fL166, q168, q170, q172, q174, q176, hM, i1u163⟩ ih179
        subst q168
        subst q170
        subst q172
        subst q174
        subst q176
        have l_a10 := (gr_len gL165 o_a10).trans l_a10
        have d_v3 := d_v3.trans (fri_at fL166 (by decide) (by decide) o_v0).symm
        have d_x11 := d_x11.trans (fri_at fL166 (by decide) (by decide) o_v0).symm
        have d_x161 := d_x161.trans (fri_at fL166 (by decide) (by decide) o_v1).symm
        have ea10 := (frr_at fL166 (by decide) (by decide) o_v1).trans ea10
        have f0 := fri_tr (S := S143) g0 f0 fL166 (by decide) (by decide)
        have o_a10 := gr_ob gL165 o_a10
        have o_a12 := gr_ob gL165 o_a12
        have o_v0 := gr_ob gL165 o_v0
        have o_v1 := gr_ob gL165 o_v1
        have o_v2 := gr_ob gL165 o_v2
        have g0 := gr_tr (T := S143) g0 gL165
        refine u_X7_price_179 ?_
        refine ⟨o_v1, ?_⟩
        intro x180 ex180
        have r_x180 : (0 : Int32) ≤ x180 ∧ x180 ≤ (8 : Int32) := by rw [ex180]; exact nu 12 rfl hI o_v1
        have d_x180 := ex180
        refine ⟨fun c181 => ?_, fun c181 => ?_⟩
        · exact hq _ hI g0 f0 hM
        · refine m_X8_canWait hI o_v1 (fun x182 S183 hI2 g184 b_x182 p_x182 => ?_)
          obtain ⟨z_S183, p_x182⟩ := p_x182
          subst z_S183
          intro _ _
          have bb_x182 : x182 = 0 ∨ x182 = 1 := b_x182
          refine ⟨fun c186 => ?_, fun c186 => ?_⟩
          · refine u_X7_price_245 ?_
            intro x187 ex187
            exact ih179 _ _ _ _ _ _ _ ⟨hI, gL165, fL166, rfl, rfl, rfl, rfl, rfl, hM, (q1008 p_x5 bb_x5 c9 q_x11 p_x14 bb_x14 c18 i1u142 r_x161 c162 i1u163 r_x180 c181 p_x182 bb_x182 c186 ex187)⟩ (mu_up (q1009 p_x5 bb_x5 c9 q_x11 p_x14 bb_x14 c18 i1u142 r_x161 c162 i1u163 r_x180 c181 p_x182 bb_x182 c186 ex187) (q1010 p_x5 bb_x5 c9 q_x11 p_x14 bb_x14 c18 i1u142 r_x161 c162 i1u163 r_x180 c181 p_x182 bb_x182 c186 ex187))
          · refine ⟨fun c188 => ?_, fun c188 => ?_⟩
            · refine m_X8_dripOn hI o_v1 o_a12 (fun x189 S190 hI2 g191 p_x189 => ?_)
              subst p_x189
              intro _
              obtain ⟨a193, ea193, o_a193, l_a193⟩ := shl 15 rfl hI o_v1
              refine ⟨a193, ea193, ?_⟩
              refine ⟨o_a193, ?_⟩
              have i195 : vp_in v3 (hN _ a193) := (vin l_a193 (m := 6) (by decide) (q1011 p_x5 bb_x5 c9 q_x11 p_x14 bb_x14 c18 i1u142 r_x161 c162 i1u163 r_x180 c181 p_x182 bb_x182 c186 c188))
              obtain ⟨a194, ea194, o_a194⟩ := ae hI o_a193 (by decide) (by decide) i195
              replace o_a194 : ob _ a194 3 := o_a194
              refine ⟨i195, a194, ea194, ?_⟩
              refine ⟨o_a194, ?_⟩
              intro x196 ex196
              have d_x196 := ex196
              refine u_X7_price_230 ?_
              refine ⟨o_v0, ?_⟩
              refine m_X7_addMove hI o_v0 hM (fun S198 hJ g199 fc200 p_S198 => ?_)
              have hM := p_S198
              have hI := hJ
              have l_a10 := (gr_len g199 o_a10).trans l_a10
              have l_a193 := (gr_len g199 o_a193).trans l_a193
              have d_v3 := d_v3.trans (fri_at fc200 (by decide) (by decide) o_v0).symm
              have d_x11 := d_x11.trans (fri_at fc200 (by decide) (by decide) o_v0).symm
              have d_x161 := d_x161.trans (fri_at fc200 (by decide) (by decide) o_v1).symm
              have d_x180 := d_x180.trans (fri_at fc200 (by decide) (by decide) o_v1).symm
              have d_x196 := d_x196.trans (fri_at fc200 (by decide) (by decide) o_a194).symm
              have ea10 := (frr_at fc200 (by decide) (by decide) o_v1).trans ea10
              have ea193 := (frr_at fc200 (by decide) (by decide) o_v1).trans ea193
              have f0 := fri_tr (S := S164) g0 f0 fc200 (by decide) (by decide)
              have fL166 := fri_tr (S := S164) gL165 fL166 fc200 (by decide) (by decide)
              have o_a10 := gr_ob g199 o_a10
              have o_a12 := gr_ob g199 o_a12
              have o_a193 := gr_ob g199 o_a193
              have o_a194 := gr_ob g199 o_a194
              have o_v0 := gr_ob g199 o_v0
              have o_v1 := gr_ob g199 o_v1
              have o_v2 := gr_ob g199 o_v2
              have g0 := gr_tr (T := S164) g0 g199
              have gL165 := gr_tr (T := S164) gL165 g199
              intro _
              refine u_X7_price_245 ?_
              intro x201 ex201
              exact ih179 _ _ _ _ _ _ _ ⟨hI, gL165, fL166, rfl, rfl, rfl, rfl, rfl, hM, (q1012 p_x5 bb_x5 c9 q_x11 p_x14 bb_x14 c18 i1u142 r_x161 c162 i1u163 r_x180 c181 p_x182 bb_x182 c186 c188 ex201)⟩ (mu_up (q1013 p_x5 bb_x5 c9 q_x11 p_x14 bb_x14 c18 i1u142 r_x161 c162 i1u163 r_x180 c181 p_x182 bb_x182 c186 c188 ex201) (q1014 p_x5 bb_x5 c9 q_x11 p_x14 bb_x14 c18 i1u142 r_x161 c162 i1u163 r_x180 c181 p_x182 bb_x182 c186 c188 ex201))
            · refine u_X7_price_230 ?_
              refine ⟨o_v0, ?_⟩
              refine m_X7_addMove hI o_v0 hM (fun S203 hJ g204 fc205 p_S203 => ?_)
              have hM := p_S203
              have hI := hJ
              have l_a10 := (gr_len g204 o_a10).trans l_a10
              have d_v3 := d_v3.trans (fri_at fc205 (by decide) (by decide) o_v0).symm
              have d_x11 := d_x11.trans (fri_at fc205 (by decide) (by decide) o_v0).symm
              have d_x161 := d_x161.trans (fri_at fc205 (by decide) (by decide) o_v1).symm
              have d_x180 := d_x180.trans (fri_at fc205 (by decide) (by decide) o_v1).symm
              have ea10 := (frr_at fc205 (by decide) (by decide) o_v1).trans ea10
              have f0 := fri_tr (S := S164) g0 f0 fc205 (by decide) (by decide)
              have fL166 := fri_tr (S := S164) gL165 fL166 fc205 (by decide) (by decide)
              have o_a10 := gr_ob g204 o_a10
              have o_a12 := gr_ob g204 o_a12
              have o_v0 := gr_ob g204 o_v0
              have o_v1 := gr_ob g204 o_v1
              have o_v2 := gr_ob g204 o_v2
              have g0 := gr_tr (T := S164) g0 g204
              have gL165 := gr_tr (T := S164) gL165 g204
              intro _
              refine u_X7_price_245 ?_
              intro x206 ex206
              exact ih179 _ _ _ _ _ _ _ ⟨hI, gL165, fL166, rfl, rfl, rfl, rfl, rfl, hM, (q1015 p_x5 bb_x5 c9 q_x11 p_x14 bb_x14 c18 i1u142 r_x161 c162 i1u163 r_x180 c181 p_x182 bb_x182 c186 ex206)⟩ (mu_up (q1016 p_x5 bb_x5 c9 q_x11 p_x14 bb_x14 c18 i1u142 r_x161 c162 i1u163 r_x180 c181 p_x182 bb_x182 c186 ex206) (q1017 p_x5 bb_x5 c9 q_x11 p_x14 bb_x14 c18 i1u142 r_x161 c162 i1u163 r_x180 c181 p_x182 bb_x182 c186 ex206))
      · obtain ⟨a207, ea207, o_a207, l_a207⟩ := shl 17 rfl hI o_v1
        refine ⟨a207, ea207, ?_⟩
        intro x208 ex208
        have dv_x208 : 0 ≤ x208 ∧ x208 < (12 : Int32) := by rw [ex208]; exact dvl (k := 12) (m := 24) (q1018 p_x5 bb_x5 c9 q_x11 p_x14 bb_x14 c18 i1u142 r_x161 c162 ex208) (q1019 p_x5 bb_x5 c9 q_x11 p_x14 bb_x14 c18 i1u142 r_x161 c162 ex208) (by decide) (by decide)
        refine ⟨o_a207, ?_⟩
        have i210 : vp_in x208 (hN _ a207) := (vin l_a207 (m := 12) (by decide) (q1020 p_x5 bb_x5 c9 q_x11 p_x14 bb_x14 c18 i1u142 r_x161 c162 ex208 dv_x208))
        obtain ⟨a209, ea209, o_a209⟩ := ae hI o_a207 (by decide) (by decide) i210
        replace o_a209 : ob _ a209 5 := o_a209
        refine ⟨i210, a209, ea209, ?_⟩
        intro x211 ex211
        refine ⟨o_a12, ?_⟩
        intro x212 ex212
        have r_x212 : (0 : Int32) ≤ x212 ∧ x212 ≤ (9 : Int32) := by rw [ex212]; exact nu 4 rfl hI o_a12
        have d_x212 := ex212
        refine i_X7_price_86 (fun (y0 : Nat) (y1 : Nat) (y2 : Nat) (y3 : Int32) (y4 : Nat) (y5 : Int32) (y6 : Int32) (y7 : Nat) (y8 : Int32) (y9 : Int32) (Z : HS) => ((2147483647 : Int32).toInt - y9.toInt).toNat) (fun (y0 : Nat) (y1 : Nat) (y2 : Nat) (y3 : Int32) (y4 : Nat) (y5 : Int32) (y6 : Int32) (y7 : Nat) (y8 : Int32) (y9 : Int32) (Z : HS) => (IV Z) ∧ (Gr S143 Z) ∧ (FRI [(7, 3)] [] S143 Z) ∧ (v0 = y0) ∧ (v1 = y1) ∧ (v2 = y2) ∧ (v3 = y3) ∧ (a12 = y4) ∧ ((1 : Int32) = y5) ∧ (w158 = y6) ∧ (a209 = y7) ∧ (x211 = y8) ∧ (WM Z v0)) ?_ _ _ _ _ _ _ _ _ _ _ _ ⟨hI, (gr_rf _), (fri_rf _ _ _), rfl, rfl, rfl, rfl, rfl, rfl, rfl, rfl, rfl, hM⟩
        intro w217 w219 w221 w223 w225 w227 w229 w231 w233 w235 S214 X236 ⟨hI, gL215, fL216, q218, q220, q222, q224, q226, q228, q230, q232, q234, hM⟩ ih237
        subst q218
        subst q220
        subst q222
        subst q224
        subst q226
        subst q228
        subst q230
        subst q232
        subst q234
        have l_a10 := (gr_len gL215 o_a10).trans l_a10
        have l_a207 := (gr_len gL215 o_a207).trans l_a207
        have d_v3 := d_v3.trans (fri_at fL216 (by decide) (by decide) o_v0).symm
        have d_x11 := d_x11.trans (fri_at fL216 (by decide) (by decide) o_v0).symm
        have d_x161 := d_x161.trans (fri_at fL216 (by decide) (by decide) o_v1).symm
        have d_x212 := d_x212.trans (fri_at fL216 (by decide) (by decide) o_a12).symm
        have ea10 := (frr_at fL216 (by decide) (by decide) o_v1).trans ea10
        have ea207 := (frr_at fL216 (by decide) (by decide) o_v1).trans ea207
        have f0 := fri_tr (S := S143) g0 f0 fL216 (by decide) (by decide)
        have fL145 := fri_tr (S := S143) gL144 fL145 fL216 (by decide) (by decide)
        have o_a10 := gr_ob gL215 o_a10
        have o_a12 := gr_ob gL215 o_a12
        have o_a207 := gr_ob gL215 o_a207
        have o_a209 := gr_ob gL215 o_a209
        have o_v0 := gr_ob gL215 o_v0
        have o_v1 := gr_ob gL215 o_v1
        have o_v2 := gr_ob gL215 o_v2
        have g0 := gr_tr (T := S143) g0 gL215
        have gL144 := gr_tr (T := S143) gL144 gL215
        refine u_X7_price_86 ?_
        refine ⟨o_a12, ?_⟩
        intro x238 ex238
        have r_x238 : (0 : Int32) ≤ x238 ∧ x238 ≤ (9 : Int32) := by rw [ex238]; exact nu 5 rfl hI o_a12
        have d_x238 := ex238
        refine ⟨fun c239 => ?_, fun c239 => ?_⟩
        · intro x240 ex240
          exact ih160 _ _ _ _ _ _ _ _ ⟨hI, gL144, fL145, rfl, rfl, rfl, rfl, rfl, rfl, hM, (q1021 p_x5 bb_x5 c9 q_x11 p_x14 bb_x14 c18 i1u142 r_x161 c162 ex208 dv_x208 ex211 r_x238 c239 ex240)⟩ (mu_up (q1022 p_x5 bb_x5 c9 q_x11 p_x14 bb_x14 c18 i1u142 r_x161 c162 ex208 dv_x208 ex211 r_x238 c239 ex240) (q1023 p_x5 bb_x5 c9 q_x11 p_x14 bb_x14 c18 i1u142 r_x161 c162 ex208 dv_x208 ex211 r_x238 c239 ex240))
        · refine ⟨fun c241 => ?_, fun c241 => ?_⟩
          · refine ⟨o_v1, ?_⟩
            obtain ⟨a242, ea242, o_a242, l_a242⟩ := shl 15 rfl hI o_v1
            refine ⟨a242, ea242, ?_⟩
            refine ⟨o_a242, ?_⟩
            have i244 : vp_in v3 (hN _ a242) := (vin l_a242 (m := 6) (by decide) (q1024 p_x5 bb_x5 c9 q_x11 p_x14 bb_x14 c18 i1u142 r_x161 c162 ex208 dv_x208 ex211 r_x238 c239 c241))
            obtain ⟨a243, ea243, o_a243⟩ := ae hI o_a242 (by decide) (by decide) i244
            replace o_a243 : ob _ a243 3 := o_a243
            refine ⟨i244, a243, ea243, ?_⟩
            refine ⟨o_v2, ?_⟩
            refine m_X1_wetOf hI o_v2 o_a12 o_a209 o_a243 (fun x245 S246 hJ g247 fc248 => ?_)
            have hM := wm_fr fc248 g247 hI o_v0 (by decide) hM
            have hI := hJ
            have l_a10 := (gr_len g247 o_a10).trans l_a10
            have l_a207 := (gr_len g247 o_a207).trans l_a207
            have l_a242 := (gr_len g247 o_a242).trans l_a242
            have d_v3 := d_v3.trans (fri_at fc248 (by decide) (by decide) o_v0).symm
            have d_x11 := d_x11.trans (fri_at fc248 (by decide) (by decide) o_v0).symm
            have d_x161 := d_x161.trans (fri_at fc248 (by decide) (by decide) o_v1).symm
            have d_x212 := d_x212.trans (fri_at fc248 (by decide) (by decide) o_a12).symm
            have d_x238 := d_x238.trans (fri_at fc248 (by decide) (by decide) o_a12).symm
            have ea10 := (frr_at fc248 (by decide) (by decide) o_v1).trans ea10
            have ea207 := (frr_at fc248 (by decide) (by decide) o_v1).trans ea207
            have ea242 := (frr_at fc248 (by decide) (by decide) o_v1).trans ea242
            have f0 := fri_tr (S := S214) g0 f0 fc248 (by decide) (by decide)
            have fL145 := fri_tr (S := S214) gL144 fL145 fc248 (by decide) (by decide)
            have fL216 := fri_tr (S := S214) gL215 fL216 fc248 (by decide) (by decide)
            have o_a10 := gr_ob g247 o_a10
            have o_a12 := gr_ob g247 o_a12
            have o_a207 := gr_ob g247 o_a207
            have o_a209 := gr_ob g247 o_a209
            have o_a242 := gr_ob g247 o_a242
            have o_a243 := gr_ob g247 o_a243
            have o_v0 := gr_ob g247 o_v0
            have o_v1 := gr_ob g247 o_v1
            have o_v2 := gr_ob g247 o_v2
            have g0 := gr_tr (T := S214) g0 g247
            have gL144 := gr_tr (T := S214) gL144 g247
            have gL215 := gr_tr (T := S214) gL215 g247
            intro _
            refine ⟨a242, ea242, ?_⟩
            refine ⟨o_a242, ?_⟩
            have i251 : vp_in v3 (hN _ a242) := (vin l_a242 (m := 6) (by decide) (q1024 p_x5 bb_x5 c9 q_x11 p_x14 bb_x14 c18 i1u142 r_x161 c162 ex208 dv_x208 ex211 r_x238 c239 c241))
            obtain ⟨a250, ea250, o_a250⟩ := ae hI o_a242 (by decide) (by decide) i251
            replace o_a250 : ob _ a250 3 := o_a250
            refine ⟨i251, a250, ea250, ?_⟩
            refine ⟨o_a250, ?_⟩
            intro x252 ex252
            have d_x252 := ex252
            refine u_X7_price_134 ?_
            intro x253 ex253
            refine ⟨o_v0, ?_⟩
            refine m_X7_addLeg hI o_v0 o_a209 hM (fun S255 hJ g256 fc257 p_S255 => ?_)
            have hM := p_S255
            have hI := hJ
            have l_a10 := (gr_len g256 o_a10).trans l_a10
            have l_a207 := (gr_len g256 o_a207).trans l_a207
            have l_a242 := (gr_len g256 o_a242).trans l_a242
            have d_v3 := d_v3.trans (fri_at fc257 (by decide) (by decide) o_v0).symm
            have d_x11 := d_x11.trans (fri_at fc257 (by decide) (by decide) o_v0).symm
            have d_x161 := d_x161.trans (fri_at fc257 (by decide) (by decide) o_v1).symm
            have d_x212 := d_x212.trans (fri_at fc257 (by decide) (by decide) o_a12).symm
            have d_x238 := d_x238.trans (fri_at fc257 (by decide) (by decide) o_a12).symm
            have d_x252 := d_x252.trans (fri_at fc257 (by decide) (by decide) o_a250).symm
            have ea10 := (frr_at fc257 (by decide) (by decide) o_v1).trans ea10
            have ea207 := (frr_at fc257 (by decide) (by decide) o_v1).trans ea207
            have ea242 := (frr_at fc257 (by decide) (by decide) o_v1).trans ea242
            have f0 := fri_tr (S := S246) g0 f0 fc257 (by decide) (by decide)
            have fL145 := fri_tr (S := S246) gL144 fL145 fc257 (by decide) (by decide)
            have fL216 := fri_tr (S := S246) gL215 fL216 fc257 (by decide) (by decide)
            have o_a10 := gr_ob g256 o_a10
            have o_a12 := gr_ob g256 o_a12
            have o_a207 := gr_ob g256 o_a207
            have o_a209 := gr_ob g256 o_a209
            have o_a242 := gr_ob g256 o_a242
            have o_a243 := gr_ob g256 o_a243
            have o_a250 := gr_ob g256 o_a250
            have o_v0 := gr_ob g256 o_v0
            have o_v1 := gr_ob g256 o_v1
            have o_v2 := gr_ob g256 o_v2
            have g0 := gr_tr (T := S246) g0 g256
            have gL144 := gr_tr (T := S246) gL144 g256
            have gL215 := gr_tr (T := S246) gL215 g256
            intro _
            intro x258 ex258
            exact ih237 _ _ _ _ _ _ _ _ _ _ _ ⟨hI, gL215, fL216, rfl, rfl, rfl, rfl, rfl, rfl, rfl, rfl, rfl, hM⟩ (mu_up (q1025 p_x5 bb_x5 c9 q_x11 p_x14 bb_x14 c18 i1u142 r_x161 c162 ex208 dv_x208 ex211 r_x238 c239 c241 ex253 ex258) (q1026 p_x5 bb_x5 c9 q_x11 p_x14 bb_x14 c18 i1u142 r_x161 c162 ex208 dv_x208 ex211 r_x238 c239 c241 ex253 ex258))
          · refine u_X7_price_134 ?_
            intro x259 ex259
            refine ⟨o_v0, ?_⟩
            refine m_X7_addLeg hI o_v0 o_a209 hM (fun S261 hJ g262 fc263 p_S261 => ?_)
            have hM := p_S261
            have hI := hJ
            have l_a10 := (gr_len g262 o_a10).trans l_a10
            have l_a207 := (gr_len g262 o_a207).trans l_a207
            have d_v3 := d_v3.trans (fri_at fc263 (by decide) (by decide) o_v0).symm
            have d_x11 := d_x11.trans (fri_at fc263 (by decide) (by decide) o_v0).symm
            have d_x161 := d_x161.trans (fri_at fc263 (by decide) (by decide) o_v1).symm
            have d_x212 := d_x212.trans (fri_at fc263 (by decide) (by decide) o_a12).symm
            have d_x238 := d_x238.trans (fri_at fc263 (by decide) (by decide) o_a12).symm
            have ea10 := (frr_at fc263 (by decide) (by decide) o_v1).trans ea10
            have ea207 := (frr_at fc263 (by decide) (by decide) o_v1).trans ea207
            have f0 := fri_tr (S := S214) g0 f0 fc263 (by decide) (by decide)
            have fL145 := fri_tr (S := S214) gL144 fL145 fc263 (by decide) (by decide)
            have fL216 := fri_tr (S := S214) gL215 fL216 fc263 (by decide) (by decide)
            have o_a10 := gr_ob g262 o_a10
            have o_a12 := gr_ob g262 o_a12
            have o_a207 := gr_ob g262 o_a207
            have o_a209 := gr_ob g262 o_a209
            have o_v0 := gr_ob g262 o_v0
            have o_v1 := gr_ob g262 o_v1
            have o_v2 := gr_ob g262 o_v2
            have g0 := gr_tr (T := S214) g0 g262
            have gL144 := gr_tr (T := S214) gL144 g262
            have gL215 := gr_tr (T := S214) gL215 g262
            intro _
            intro x264 ex264
            exact ih237 _ _ _ _ _ _ _ _ _ _ _ ⟨hI, gL215, fL216, rfl, rfl, rfl, rfl, rfl, rfl, rfl, rfl, rfl, hM⟩ (mu_up (q1027 p_x5 bb_x5 c9 q_x11 p_x14 bb_x14 c18 i1u142 r_x161 c162 ex208 dv_x208 ex211 r_x238 c239 ex259 ex264) (q1028 p_x5 bb_x5 c9 q_x11 p_x14 bb_x14 c18 i1u142 r_x161 c162 ex208 dv_x208 ex211 r_x238 c239 ex259 ex264))
  · exact hq _ hI g0 f0 hM
end
section
set_option maxHeartbeats 4000000 in
set_option maxRecDepth 20000 in
theorem m_X7_reckonMinute {v0 : Nat} {v1 : Int32} {v2 : Int32} {Q : HS → Prop} {S : HS} (hI : IV S) (o_v0 : ob S v0 7)   (h2 : 0 ≤ v2 ∧ v2 ≤ 400) (hM : WM S v0) (hq : ∀ (T : HS), IV T → Gr S T → FRI [] [] S T → (WM T v0) → Q T) : P_X7_reckonMinute v0 v1 v2 Q S := by
  have g0 := gr_rf S
  have f0 := fri_rf [] [] S
  refine u_X7_reckonMinute ?_
  refine u_X7_reckonMinute_0 ?_
  refine i_X7_reckonMinute_2 (fun (y0 : Nat) (y1 : Int32) (y2 : Int32) (y3 : Int32) (Z : HS) => ((2147483647 : Int32).toInt - y3.toInt).toNat) (fun (y0 : Nat) (y1 : Int32) (y2 : Int32) (y3 : Int32) (Z : HS) => (IV Z) ∧ (Gr S Z) ∧ (FRI [] [] S Z) ∧ (v0 = y0) ∧ (v1 = y1) ∧ (v2 = y2) ∧ (WM Z v0) ∧ (0 ≤ y3)) ?_ _ _ _ _ _ ⟨hI, (gr_rf _), (fri_rf _ _ _), rfl, rfl, rfl, hM, (q82)⟩
  intro w5 w7 w9 w11 S2 X12 ⟨hI, gL3, fL4, q6, q8, q10, hM, i1u1⟩ ih13
  subst q6
  subst q8
  subst q10
  have f0 := fri_tr (S := S) g0 f0 fL4 (by decide) (by decide)
  have o_v0 := gr_ob gL3 o_v0
  have g0 := gr_tr (T := S) g0 gL3
  refine u_X7_reckonMinute_2 ?_
  refine ⟨fun c14 => ?_, fun c14 => ?_⟩
  · refine u_X7_reckonMinute_60 ?_
    refine i_X7_reckonMinute_62 (fun (y0 : Nat) (y2 : Int32) (y3 : Int32) (Z : HS) => ((2147483647 : Int32).toInt - y3.toInt).toNat) (fun (y0 : Nat) (y2 : Int32) (y3 : Int32) (Z : HS) => (IV Z) ∧ (Gr S2 Z) ∧ (FRI [] [] S2 Z) ∧ (v0 = y0) ∧ (v2 = y2) ∧ (WM Z v0) ∧ (0 ≤ y3)) ?_ _ _ _ _ ⟨hI, (gr_rf _), (fri_rf _ _ _), rfl, rfl, hM, (q849 i1u1 c14)⟩
    intro w19 w21 w23 S16 X24 ⟨hI, gL17, fL18, q20, q22, hM, i1u15⟩ ih25
    subst q20
    subst q22
    have f0 := fri_tr (S := S2) g0 f0 fL18 (by decide) (by decide)
    have o_v0 := gr_ob gL17 o_v0
    have g0 := gr_tr (T := S2) g0 gL17
    refine u_X7_reckonMinute_62 ?_
    refine ⟨o_v0, ?_⟩
    intro x26 ex26
    have r_x26 : (0 : Int32) ≤ x26 ∧ x26 ≤ (224 : Int32) := by rw [ex26]; exact nu 8 rfl hI o_v0
    have d_x26 := ex26
    refine ⟨fun c27 => ?_, fun c27 => ?_⟩
    · exact hq _ hI g0 f0 hM
    · refine ⟨fun c28 => ?_, fun c28 => ?_⟩
      · exact hq _ hI g0 f0 hM
      · obtain ⟨a29, ea29, o_a29, -⟩ := sh 24 rfl hI o_v0
        have l_a29 := wm hM 3 rfl ea29
        refine ⟨a29, ea29, ?_⟩
        refine ⟨o_a29, ?_⟩
        refine ⟨(vin l_a29 (m := 224) (by decide) (q850 i1u1 c14 i1u15 r_x26 c27 c28)), ?_⟩
        intro x30 ex30
        intro x31 ex31
        obtain ⟨a32, ea32, o_a32, -⟩ := sh 25 rfl hI o_v0
        have l_a32 := wm hM 4 rfl ea32
        refine ⟨a32, ea32, ?_⟩
        refine ⟨o_a32, ?_⟩
        refine ⟨(vin l_a32 (m := 224) (by decide) (q850 i1u1 c14 i1u15 r_x26 c27 c28)), ?_⟩
        intro x33 ex33
        intro x34 ex34
        obtain ⟨a35, ea35, o_a35, -⟩ := sh 26 rfl hI o_v0
        have l_a35 := wm hM 5 rfl ea35
        refine ⟨a35, ea35, ?_⟩
        refine ⟨o_a35, ?_⟩
        refine ⟨(vin l_a35 (m := 224) (by decide) (q850 i1u1 c14 i1u15 r_x26 c27 c28)), ?_⟩
        intro x36 ex36
        intro x37 ex37
        have d_x37 := ex37
        refine ⟨fun c38 => ?_, fun c38 => ?_⟩
        · refine u_X7_reckonMinute_117 ?_
          refine ⟨fun c39 => ?_, fun c39 => ?_⟩
          · refine u_X7_reckonMinute_219 ?_
            intro x40 ex40
            exact ih25 _ _ _ _ ⟨hI, gL17, fL18, rfl, rfl, hM, (q851 h2 i1u1 c14 i1u15 r_x26 c27 c28 ex31 ex34 c38 ex40)⟩ (mu_up (q852 h2 i1u1 c14 i1u15 r_x26 c27 c28 ex31 ex34 c38 ex40) (q853 h2 i1u1 c14 i1u15 r_x26 c27 c28 ex31 ex34 c38 ex40))
          · refine ⟨fun c41 => ?_, fun c41 => ?_⟩
            · refine u_X7_reckonMinute_219 ?_
              intro x42 ex42
              exact ih25 _ _ _ _ ⟨hI, gL17, fL18, rfl, rfl, hM, (q854 h2 i1u1 c14 i1u15 r_x26 c27 c28 ex31 ex34 c38 c39 c41 ex42)⟩ (mu_up (q855 h2 i1u1 c14 i1u15 r_x26 c27 c28 ex31 ex34 c38 c39 c41 ex42) (q856 h2 i1u1 c14 i1u15 r_x26 c27 c28 ex31 ex34 c38 c39 c41 ex42))
            · refine ⟨o_v0, ?_⟩
              obtain ⟨a43, ea43, o_a43, -⟩ := sh 22 rfl hI o_v0
              have l_a43 := wm hM 1 rfl ea43
              refine ⟨a43, ea43, ?_⟩
              refine ⟨o_a43, ?_⟩
              have n_a43 : nI (hN S16 a43) = 3208 := by rw [show hN S16 a43 = 3208 from l_a43]; decide
              refine ⟨fun c44 => ?_, fun c44 => ?_⟩
              · rw [n_a43] at c44
                refine u_X7_reckonMinute_219 ?_
                intro x45 ex45
                exact ih25 _ _ _ _ ⟨hI, gL17, fL18, rfl, rfl, hM, (q857 h2 i1u1 c14 i1u15 r_x26 c27 c28 ex31 ex34 c38 c39 c41 c44 ex45)⟩ (mu_up (q858 h2 i1u1 c14 i1u15 r_x26 c27 c28 ex31 ex34 c38 c39 c41 c44 ex45) (q859 h2 i1u1 c14 i1u15 r_x26 c27 c28 ex31 ex34 c38 c39 c41 c44 ex45))
              · rw [n_a43] at c44
                refine ⟨fun c46 => ?_, fun c46 => ?_⟩
                · refine u_X7_reckonMinute_219 ?_
                  intro x47 ex47
                  exact ih25 _ _ _ _ ⟨hI, gL17, fL18, rfl, rfl, hM, (q860 h2 i1u1 c14 i1u15 r_x26 c27 c28 ex31 ex34 c38 c39 c41 c44 c46 ex47)⟩ (mu_up (q861 h2 i1u1 c14 i1u15 r_x26 c27 c28 ex31 ex34 c38 c39 c41 c44 c46 ex47) (q862 h2 i1u1 c14 i1u15 r_x26 c27 c28 ex31 ex34 c38 c39 c41 c44 c46 ex47))
                · refine ⟨a43, ea43, ?_⟩
                  refine ⟨o_a43, ?_⟩
                  have n_a43 : nI (hN S16 a43) = 3208 := by rw [show hN S16 a43 = 3208 from l_a43]; decide
                  refine ⟨fun c49 => ?_, fun c49 => ?_⟩
                  · rw [n_a43] at c49
                    refine u_X7_reckonMinute_219 ?_
                    intro x50 ex50
                    exact ih25 _ _ _ _ ⟨hI, gL17, fL18, rfl, rfl, hM, (q863 h2 i1u1 c14 i1u15 r_x26 c27 c28 ex31 ex34 c38 c39 c41 c44 c46 c49 ex50)⟩ (mu_up (q864 h2 i1u1 c14 i1u15 r_x26 c27 c28 ex31 ex34 c38 c39 c41 c44 c46 c49 ex50) (q865 h2 i1u1 c14 i1u15 r_x26 c27 c28 ex31 ex34 c38 c39 c41 c44 c46 c49 ex50))
                  · rw [n_a43] at c49
                    refine ⟨a43, ea43, ?_⟩
                    refine ⟨o_a43, ?_⟩
                    refine ⟨(vin l_a43 (m := 3208) (by decide) (q866 h2 i1u1 c14 i1u15 r_x26 c27 c28 ex31 ex34 c38 c39 c41 c44 c46 c49)), ?_⟩
                    intro x52 ex52
                    refine ⟨fun c53 => ?_, fun c53 => ?_⟩
                    · refine u_X7_reckonMinute_219 ?_
                      intro x54 ex54
                      exact ih25 _ _ _ _ ⟨hI, gL17, fL18, rfl, rfl, hM, (q867 h2 i1u1 c14 i1u15 r_x26 c27 c28 ex31 ex34 c38 c39 c41 c44 c46 c49 c53 ex54)⟩ (mu_up (q868 h2 i1u1 c14 i1u15 r_x26 c27 c28 ex31 ex34 c38 c39 c41 c44 c46 c49 c53 ex54) (q869 h2 i1u1 c14 i1u15 r_x26 c27 c28 ex31 ex34 c38 c39 c41 c44 c46 c49 c53 ex54))
                    · obtain ⟨a55, ea55, o_a55, -⟩ := sh 27 rfl hI o_v0
                      have l_a55 := wm hM 6 rfl ea55
                      refine ⟨a55, ea55, ?_⟩
                      refine ⟨o_a55, ?_⟩
                      refine ⟨(vin l_a55 (m := 224) (by decide) (q870 h2 i1u1 c14 i1u15 r_x26 c27 c28 ex31 ex34 c38 c39 c41 c44 c46 c49 c53)), ?_⟩
                      intro x56 ex56
                      refine ⟨a43, ea43, ?_⟩
                      refine ⟨o_a43, ?_⟩
                      refine ⟨(vin l_a43 (m := 3208) (by decide) (q871 h2 i1u1 c14 i1u15 r_x26 c27 c28 ex31 ex34 c38 c39 c41 c44 c46 c49 c53)), ?_⟩
                      intro x58 ex58
                      intro x59 ex59
                      refine ⟨a43, ea43, ?_⟩
                      refine ⟨o_a43, ?_⟩
                      refine ⟨(vin l_a43 (m := 3208) (by decide) (q872 h2 i1u1 c14 i1u15 r_x26 c27 c28 ex31 ex34 c38 c39 c41 c44 c46 c49 c53)), ?_⟩
                      intro x61 ex61
                      refine ⟨fun c62 => ?_, fun c62 => ?_⟩
                      · refine u_X7_reckonMinute_219 ?_
                        intro x63 ex63
                        exact ih25 _ _ _ _ ⟨hI, gL17, fL18, rfl, rfl, hM, (q873 h2 i1u1 c14 i1u15 r_x26 c27 c28 ex31 ex34 c38 c39 c41 c44 c46 c49 c53 ex59 c62 ex63)⟩ (mu_up (q874 h2 i1u1 c14 i1u15 r_x26 c27 c28 ex31 ex34 c38 c39 c41 c44 c46 c49 c53 ex59 c62 ex63) (q875 h2 i1u1 c14 i1u15 r_x26 c27 c28 ex31 ex34 c38 c39 c41 c44 c46 c49 c53 ex59 c62 ex63))
                      · refine ⟨a43, ea43, ?_⟩
                        refine ⟨o_a43, ?_⟩
                        have i65 : vp_in x31 (hN _ a43) := (vin l_a43 (m := 3208) (by decide) (q876 h2 i1u1 c14 i1u15 r_x26 c27 c28 ex31 ex34 c38 c39 c41 c44 c46 c49 c53 ex59 c62))
                        refine ⟨i65, ?_⟩
                        intro S66 eS66
                        have hI : IV S66 := by rw [eS66]; exact iv_aJ hI o_v0 (by decide) ea43 o_a43 (by decide)
                        have f0 := fr_J eS66 f0
                        have fL18 := fr_J eS66 fL18
                        have d_x26 := rd_J eS66 d_x26
                        have d_x37 := rd_J eS66 d_x37
                        have ea29 := rf_J eS66 ea29
                        have ea32 := rf_J eS66 ea32
                        have ea35 := rf_J eS66 ea35
                        have ea43 := rf_J eS66 ea43
                        have ea55 := rf_J eS66 ea55
                        have hM := wm_J eS66 hM
                        have l_a29 := ln_J eS66 l_a29
                        have l_a32 := ln_J eS66 l_a32
                        have l_a35 := ln_J eS66 l_a35
                        have l_a43 := ln_J eS66 l_a43
                        have l_a55 := ln_J eS66 l_a55
                        have g0 := gr_J eS66 g0
                        have gL17 := gr_J eS66 gL17
                        have o_a29 := ob_J eS66 o_a29
                        have o_a32 := ob_J eS66 o_a32
                        have o_a35 := ob_J eS66 o_a35
                        have o_a43 := ob_J eS66 o_a43
                        have o_a55 := ob_J eS66 o_a55
                        have o_v0 := ob_J eS66 o_v0
                        obtain ⟨a67, ea67, o_a67, -⟩ := sh 23 rfl hI o_v0
                        have l_a67 := wm hM 2 rfl ea67
                        refine ⟨a67, ea67, ?_⟩
                        obtain ⟨a68, ea68, o_a68, -⟩ := sh 28 rfl hI o_v0
                        have l_a68 := wm hM 7 rfl ea68
                        refine ⟨a68, ea68, ?_⟩
                        refine ⟨o_a68, ?_⟩
                        refine ⟨(vin l_a68 (m := 224) (by decide) (q877 h2 i1u1 c14 i1u15 r_x26 c27 c28 ex31 ex34 c38 c39 c41 c44 c46 c49 c53 ex59 c62)), ?_⟩
                        intro x69 ex69
                        refine ⟨o_a67, ?_⟩
                        have i70 : vp_in x31 (hN _ a67) := (vin l_a67 (m := 3208) (by decide) (q876 h2 i1u1 c14 i1u15 r_x26 c27 c28 ex31 ex34 c38 c39 c41 c44 c46 c49 c53 ex59 c62))
                        refine ⟨i70, ?_⟩
                        intro S71 eS71
                        have hI : IV S71 := by rw [eS71]; exact iv_aI hI o_v0 (by decide) ea67 o_a67 (by decide)
                        have f0 := fr_A eS71 g0 f0 o_a67 (by decide)
                        have fL18 := fr_A eS71 gL17 fL18 o_a67 (by decide)
                        have d_x26 := rd_Ik eS71 o_a67 o_v0 (by decide) d_x26
                        have d_x37 := rd_Ik eS71 o_a67 o_v0 (by decide) d_x37
                        have ea29 := rf_I eS71 ea29
                        have ea32 := rf_I eS71 ea32
                        have ea35 := rf_I eS71 ea35
                        have ea43 := rf_I eS71 ea43
                        have ea55 := rf_I eS71 ea55
                        have ea67 := rf_I eS71 ea67
                        have ea68 := rf_I eS71 ea68
                        have hM := wm_I eS71 hM
                        have l_a29 := ln_I eS71 l_a29
                        have l_a32 := ln_I eS71 l_a32
                        have l_a35 := ln_I eS71 l_a35
                        have l_a43 := ln_I eS71 l_a43
                        have l_a55 := ln_I eS71 l_a55
                        have l_a67 := ln_I eS71 l_a67
                        have l_a68 := ln_I eS71 l_a68
                        have g0 := gr_I eS71 g0
                        have gL17 := gr_I eS71 gL17
                        have o_a29 := ob_I eS71 o_a29
                        have o_a32 := ob_I eS71 o_a32
                        have o_a35 := ob_I eS71 o_a35
                        have o_a43 := ob_I eS71 o_a43
                        have o_a55 := ob_I eS71 o_a55
                        have o_a67 := ob_I eS71 o_a67
                        have o_a68 := ob_I eS71 o_a68
                        have o_v0 := ob_I eS71 o_v0
                        refine u_X7_reckonMinute_219 ?_
                        intro x72 ex72
                        exact ih25 _ _ _ _ ⟨hI, gL17, fL18, rfl, rfl, hM, (q878 h2 i1u1 c14 i1u15 r_x26 c27 c28 ex31 ex34 c38 c39 c41 c44 c46 c49 c53 ex59 c62 ex72)⟩ (mu_up (q879 h2 i1u1 c14 i1u15 r_x26 c27 c28 ex31 ex34 c38 c39 c41 c44 c46 c49 c53 ex59 c62 ex72) (q880 h2 i1u1 c14 i1u15 r_x26 c27 c28 ex31 ex34 c38 c39 c41 c44 c46 c49 c53 ex59 c62 ex72))
        · refine u_X7_reckonMinute_117 ?_
          refine ⟨fun c73 => ?_, fun c73 => ?_⟩
          · refine u_X7_reckonMinute_219 ?_
            intro x74 ex74
            exact ih25 _ _ _ _ ⟨hI, gL17, fL18, rfl, rfl, hM, (q881 h2 i1u1 c14 i1u15 r_x26 c27 c28 ex31 ex34 c38 c73 ex74)⟩ (mu_up (q882 h2 i1u1 c14 i1u15 r_x26 c27 c28 ex31 ex34 c38 c73 ex74) (q883 h2 i1u1 c14 i1u15 r_x26 c27 c28 ex31 ex34 c38 c73 ex74))
          · refine ⟨fun c75 => ?_, fun c75 => ?_⟩
            · refine u_X7_reckonMinute_219 ?_
              intro x76 ex76
              exact ih25 _ _ _ _ ⟨hI, gL17, fL18, rfl, rfl, hM, (q884 h2 i1u1 c14 i1u15 r_x26 c27 c28 ex31 ex34 c38 c75 ex76)⟩ (mu_up (q885 h2 i1u1 c14 i1u15 r_x26 c27 c28 ex31 ex34 c38 c75 ex76) (q886 h2 i1u1 c14 i1u15 r_x26 c27 c28 ex31 ex34 c38 c75 ex76))
            · refine ⟨o_v0, ?_⟩
              obtain ⟨a77, ea77, o_a77, -⟩ := sh 22 rfl hI o_v0
              have l_a77 := wm hM 1 rfl ea77
              refine ⟨a77, ea77, ?_⟩
              refine ⟨o_a77, ?_⟩
              have n_a77 : nI (hN S16 a77) = 3208 := by rw [show hN S16 a77 = 3208 from l_a77]; decide
              refine ⟨fun c78 => ?_, fun c78 => ?_⟩
              · rw [n_a77] at c78
                refine u_X7_reckonMinute_219 ?_
                intro x79 ex79
                exact ih25 _ _ _ _ ⟨hI, gL17, fL18, rfl, rfl, hM, (q887 h2 i1u1 c14 i1u15 r_x26 c27 c28 ex31 ex34 c38 c75 c78 ex79)⟩ (mu_up (q888 h2 i1u1 c14 i1u15 r_x26 c27 c28 ex31 ex34 c38 c75 c78 ex79) (q889 h2 i1u1 c14 i1u15 r_x26 c27 c28 ex31 ex34 c38 c75 c78 ex79))
              · rw [n_a77] at c78
                refine ⟨fun c80 => ?_, fun c80 => ?_⟩
                · refine u_X7_reckonMinute_219 ?_
                  intro x81 ex81
                  exact ih25 _ _ _ _ ⟨hI, gL17, fL18, rfl, rfl, hM, (q890 h2 i1u1 c14 i1u15 r_x26 c27 c28 ex31 ex34 c38 c75 c78 c80 ex81)⟩ (mu_up (q891 h2 i1u1 c14 i1u15 r_x26 c27 c28 ex31 ex34 c38 c75 c78 c80 ex81) (q892 h2 i1u1 c14 i1u15 r_x26 c27 c28 ex31 ex34 c38 c75 c78 c80 ex81))
                · refine ⟨a77, ea77, ?_⟩
                  refine ⟨o_a77, ?_⟩
                  have n_a77 : nI (hN S16 a77) = 3208 := by rw [show hN S16 a77 = 3208 from l_a77]; decide
                  refine ⟨fun c83 => ?_, fun c83 => ?_⟩
                  · rw [n_a77] at c83
                    refine u_X7_reckonMinute_219 ?_
                    intro x84 ex84
                    exact ih25 _ _ _ _ ⟨hI, gL17, fL18, rfl, rfl, hM, (q893 h2 i1u1 c14 i1u15 r_x26 c27 c28 ex31 ex34 c38 c75 c78 c80 c83 ex84)⟩ (mu_up (q894 h2 i1u1 c14 i1u15 r_x26 c27 c28 ex31 ex34 c38 c75 c78 c80 c83 ex84) (q895 h2 i1u1 c14 i1u15 r_x26 c27 c28 ex31 ex34 c38 c75 c78 c80 c83 ex84))
                  · rw [n_a77] at c83
                    refine ⟨a77, ea77, ?_⟩
                    refine ⟨o_a77, ?_⟩
                    refine ⟨(vin l_a77 (m := 3208) (by decide) (q896 h2 i1u1 c14 i1u15 r_x26 c27 c28 ex31 ex34 c38 c75 c78 c80 c83)), ?_⟩
                    intro x86 ex86
                    refine ⟨fun c87 => ?_, fun c87 => ?_⟩
                    · refine u_X7_reckonMinute_219 ?_
                      intro x88 ex88
                      exact ih25 _ _ _ _ ⟨hI, gL17, fL18, rfl, rfl, hM, (q897 h2 i1u1 c14 i1u15 r_x26 c27 c28 ex31 ex34 c38 c75 c78 c80 c83 c87 ex88)⟩ (mu_up (q898 h2 i1u1 c14 i1u15 r_x26 c27 c28 ex31 ex34 c38 c75 c78 c80 c83 c87 ex88) (q899 h2 i1u1 c14 i1u15 r_x26 c27 c28 ex31 ex34 c38 c75 c78 c80 c83 c87 ex88))
                    · obtain ⟨a89, ea89, o_a89, -⟩ := sh 27 rfl hI o_v0
                      have l_a89 := wm hM 6 rfl ea89
                      refine ⟨a89, ea89, ?_⟩
                      refine ⟨o_a89, ?_⟩
                      refine ⟨(vin l_a89 (m := 224) (by decide) (q900 h2 i1u1 c14 i1u15 r_x26 c27 c28 ex31 ex34 c38 c75 c78 c80 c83 c87)), ?_⟩
                      intro x90 ex90
                      refine ⟨a77, ea77, ?_⟩
                      refine ⟨o_a77, ?_⟩
                      refine ⟨(vin l_a77 (m := 3208) (by decide) (q901 h2 i1u1 c14 i1u15 r_x26 c27 c28 ex31 ex34 c38 c75 c78 c80 c83 c87)), ?_⟩
                      intro x92 ex92
                      intro x93 ex93
                      refine ⟨a77, ea77, ?_⟩
                      refine ⟨o_a77, ?_⟩
                      refine ⟨(vin l_a77 (m := 3208) (by decide) (q902 h2 i1u1 c14 i1u15 r_x26 c27 c28 ex31 ex34 c38 c75 c78 c80 c83 c87)), ?_⟩
                      intro x95 ex95
                      refine ⟨fun c96 => ?_, fun c96 => ?_⟩
                      · refine u_X7_reckonMinute_219 ?_
                        intro x97 ex97
                        exact ih25 _ _ _ _ ⟨hI, gL17, fL18, rfl, rfl, hM, (q903 h2 i1u1 c14 i1u15 r_x26 c27 c28 ex31 ex34 c38 c75 c78 c80 c83 c87 ex93 c96 ex97)⟩ (mu_up (q904 h2 i1u1 c14 i1u15 r_x26 c27 c28 ex31 ex34 c38 c75 c78 c80 c83 c87 ex93 c96 ex97) (q905 h2 i1u1 c14 i1u15 r_x26 c27 c28 ex31 ex34 c38 c75 c78 c80 c83 c87 ex93 c96 ex97))
                      · refine ⟨a77, ea77, ?_⟩
                        refine ⟨o_a77, ?_⟩
                        have i99 : vp_in x31 (hN _ a77) := (vin l_a77 (m := 3208) (by decide) (q906 h2 i1u1 c14 i1u15 r_x26 c27 c28 ex31 ex34 c38 c75 c78 c80 c83 c87 ex93 c96))
                        refine ⟨i99, ?_⟩
                        intro S100 eS100
                        have hI : IV S100 := by rw [eS100]; exact iv_aJ hI o_v0 (by decide) ea77 o_a77 (by decide)
                        have f0 := fr_J eS100 f0
                        have fL18 := fr_J eS100 fL18
                        have d_x26 := rd_J eS100 d_x26
                        have d_x37 := rd_J eS100 d_x37
                        have ea29 := rf_J eS100 ea29
                        have ea32 := rf_J eS100 ea32
                        have ea35 := rf_J eS100 ea35
                        have ea77 := rf_J eS100 ea77
                        have ea89 := rf_J eS100 ea89
                        have hM := wm_J eS100 hM
                        have l_a29 := ln_J eS100 l_a29
                        have l_a32 := ln_J eS100 l_a32
                        have l_a35 := ln_J eS100 l_a35
                        have l_a77 := ln_J eS100 l_a77
                        have l_a89 := ln_J eS100 l_a89
                        have g0 := gr_J eS100 g0
                        have gL17 := gr_J eS100 gL17
                        have o_a29 := ob_J eS100 o_a29
                        have o_a32 := ob_J eS100 o_a32
                        have o_a35 := ob_J eS100 o_a35
                        have o_a77 := ob_J eS100 o_a77
                        have o_a89 := ob_J eS100 o_a89
                        have o_v0 := ob_J eS100 o_v0
                        obtain ⟨a101, ea101, o_a101, -⟩ := sh 23 rfl hI o_v0
                        have l_a101 := wm hM 2 rfl ea101
                        refine ⟨a101, ea101, ?_⟩
                        obtain ⟨a102, ea102, o_a102, -⟩ := sh 28 rfl hI o_v0
                        have l_a102 := wm hM 7 rfl ea102
                        refine ⟨a102, ea102, ?_⟩
                        refine ⟨o_a102, ?_⟩
                        refine ⟨(vin l_a102 (m := 224) (by decide) (q907 h2 i1u1 c14 i1u15 r_x26 c27 c28 ex31 ex34 c38 c75 c78 c80 c83 c87 ex93 c96)), ?_⟩
                        intro x103 ex103
                        refine ⟨o_a101, ?_⟩
                        have i104 : vp_in x31 (hN _ a101) := (vin l_a101 (m := 3208) (by decide) (q906 h2 i1u1 c14 i1u15 r_x26 c27 c28 ex31 ex34 c38 c75 c78 c80 c83 c87 ex93 c96))
                        refine ⟨i104, ?_⟩
                        intro S105 eS105
                        have hI : IV S105 := by rw [eS105]; exact iv_aI hI o_v0 (by decide) ea101 o_a101 (by decide)
                        have f0 := fr_A eS105 g0 f0 o_a101 (by decide)
                        have fL18 := fr_A eS105 gL17 fL18 o_a101 (by decide)
                        have d_x26 := rd_Ik eS105 o_a101 o_v0 (by decide) d_x26
                        have d_x37 := rd_Ik eS105 o_a101 o_v0 (by decide) d_x37
                        have ea29 := rf_I eS105 ea29
                        have ea32 := rf_I eS105 ea32
                        have ea35 := rf_I eS105 ea35
                        have ea77 := rf_I eS105 ea77
                        have ea89 := rf_I eS105 ea89
                        have ea101 := rf_I eS105 ea101
                        have ea102 := rf_I eS105 ea102
                        have hM := wm_I eS105 hM
                        have l_a101 := ln_I eS105 l_a101
                        have l_a102 := ln_I eS105 l_a102
                        have l_a29 := ln_I eS105 l_a29
                        have l_a32 := ln_I eS105 l_a32
                        have l_a35 := ln_I eS105 l_a35
                        have l_a77 := ln_I eS105 l_a77
                        have l_a89 := ln_I eS105 l_a89
                        have g0 := gr_I eS105 g0
                        have gL17 := gr_I eS105 gL17
                        have o_a101 := ob_I eS105 o_a101
                        have o_a102 := ob_I eS105 o_a102
                        have o_a29 := ob_I eS105 o_a29
                        have o_a32 := ob_I eS105 o_a32
                        have o_a35 := ob_I eS105 o_a35
                        have o_a77 := ob_I eS105 o_a77
                        have o_a89 := ob_I eS105 o_a89
                        have o_v0 := ob_I eS105 o_v0
                        refine u_X7_reckonMinute_219 ?_
                        intro x106 ex106
                        exact ih25 _ _ _ _ ⟨hI, gL17, fL18, rfl, rfl, hM, (q908 h2 i1u1 c14 i1u15 r_x26 c27 c28 ex31 ex34 c38 c75 c78 c80 c83 c87 ex93 c96 ex106)⟩ (mu_up (q909 h2 i1u1 c14 i1u15 r_x26 c27 c28 ex31 ex34 c38 c75 c78 c80 c83 c87 ex93 c96 ex106) (q910 h2 i1u1 c14 i1u15 r_x26 c27 c28 ex31 ex34 c38 c75 c78 c80 c83 c87 ex93 c96 ex106))
  · refine ⟨fun c107 => ?_, fun c107 => ?_⟩
    · refine u_X7_reckonMinute_60 ?_
      refine i_X7_reckonMinute_62 (fun (y0 : Nat) (y2 : Int32) (y3 : Int32) (Z : HS) => ((2147483647 : Int32).toInt - y3.toInt).toNat) (fun (y0 : Nat) (y2 : Int32) (y3 : Int32) (Z : HS) => (IV Z) ∧ (Gr S2 Z) ∧ (FRI [] [] S2 Z) ∧ (v0 = y0) ∧ (v2 = y2) ∧ (WM Z v0) ∧ (0 ≤ y3)) ?_ _ _ _ _ ⟨hI, (gr_rf _), (fri_rf _ _ _), rfl, rfl, hM, (q911 i1u1 c14 c107)⟩
      intro w112 w114 w116 S109 X117 ⟨hI, gL110, fL111, q113, q115, hM, i1u108⟩ ih118
      subst q113
      subst q115
      have f0 := fri_tr (S := S2) g0 f0 fL111 (by decide) (by decide)
      have o_v0 := gr_ob gL110 o_v0
      have g0 := gr_tr (T := S2) g0 gL110
      refine u_X7_reckonMinute_62 ?_
      refine ⟨o_v0, ?_⟩
      intro x119 ex119
      have r_x119 : (0 : Int32) ≤ x119 ∧ x119 ≤ (224 : Int32) := by rw [ex119]; exact nu 8 rfl hI o_v0
      have d_x119 := ex119
      refine ⟨fun c120 => ?_, fun c120 => ?_⟩
      · exact hq _ hI g0 f0 hM
      · refine ⟨fun c121 => ?_, fun c121 => ?_⟩
        · exact hq _ hI g0 f0 hM
        · obtain ⟨a122, ea122, o_a122, -⟩ := sh 24 rfl hI o_v0
          have l_a122 := wm hM 3 rfl ea122
          refine ⟨a122, ea122, ?_⟩
          refine ⟨o_a122, ?_⟩
          refine ⟨(vin l_a122 (m := 224) (by decide) (q912 i1u1 c14 c107 i1u108 r_x119 c120 c121)), ?_⟩
          intro x123 ex123
          intro x124 ex124
          obtain ⟨a125, ea125, o_a125, -⟩ := sh 25 rfl hI o_v0
          have l_a125 := wm hM 4 rfl ea125
          refine ⟨a125, ea125, ?_⟩
          refine ⟨o_a125, ?_⟩
          refine ⟨(vin l_a125 (m := 224) (by decide) (q912 i1u1 c14 c107 i1u108 r_x119 c120 c121)), ?_⟩
          intro x126 ex126
          intro x127 ex127
          obtain ⟨a128, ea128, o_a128, -⟩ := sh 26 rfl hI o_v0
          have l_a128 := wm hM 5 rfl ea128
          refine ⟨a128, ea128, ?_⟩
          refine ⟨o_a128, ?_⟩
          refine ⟨(vin l_a128 (m := 224) (by decide) (q912 i1u1 c14 c107 i1u108 r_x119 c120 c121)), ?_⟩
          intro x129 ex129
          intro x130 ex130
          have d_x130 := ex130
          refine ⟨fun c131 => ?_, fun c131 => ?_⟩
          · refine u_X7_reckonMinute_117 ?_
            refine ⟨fun c132 => ?_, fun c132 => ?_⟩
            · refine u_X7_reckonMinute_219 ?_
              intro x133 ex133
              exact ih118 _ _ _ _ ⟨hI, gL110, fL111, rfl, rfl, hM, (q913 h2 i1u1 c14 c107 i1u108 r_x119 c120 c121 ex124 ex127 c131 ex133)⟩ (mu_up (q914 h2 i1u1 c14 c107 i1u108 r_x119 c120 c121 ex124 ex127 c131 ex133) (q915 h2 i1u1 c14 c107 i1u108 r_x119 c120 c121 ex124 ex127 c131 ex133))
            · refine ⟨fun c134 => ?_, fun c134 => ?_⟩
              · refine u_X7_reckonMinute_219 ?_
                intro x135 ex135
                exact ih118 _ _ _ _ ⟨hI, gL110, fL111, rfl, rfl, hM, (q916 h2 i1u1 c14 c107 i1u108 r_x119 c120 c121 ex124 ex127 c131 c132 c134 ex135)⟩ (mu_up (q917 h2 i1u1 c14 c107 i1u108 r_x119 c120 c121 ex124 ex127 c131 c132 c134 ex135) (q918 h2 i1u1 c14 c107 i1u108 r_x119 c120 c121 ex124 ex127 c131 c132 c134 ex135))
              · refine ⟨o_v0, ?_⟩
                obtain ⟨a136, ea136, o_a136, -⟩ := sh 22 rfl hI o_v0
                have l_a136 := wm hM 1 rfl ea136
                refine ⟨a136, ea136, ?_⟩
                refine ⟨o_a136, ?_⟩
                have n_a136 : nI (hN S109 a136) = 3208 := by rw [show hN S109 a136 = 3208 from l_a136]; decide
                refine ⟨fun c137 => ?_, fun c137 => ?_⟩
                · rw [n_a136] at c137
                  refine u_X7_reckonMinute_219 ?_
                  intro x138 ex138
                  exact ih118 _ _ _ _ ⟨hI, gL110, fL111, rfl, rfl, hM, (q919 h2 i1u1 c14 c107 i1u108 r_x119 c120 c121 ex124 ex127 c131 c132 c134 c137 ex138)⟩ (mu_up (q920 h2 i1u1 c14 c107 i1u108 r_x119 c120 c121 ex124 ex127 c131 c132 c134 c137 ex138) (q921 h2 i1u1 c14 c107 i1u108 r_x119 c120 c121 ex124 ex127 c131 c132 c134 c137 ex138))
                · rw [n_a136] at c137
                  refine ⟨fun c139 => ?_, fun c139 => ?_⟩
                  · refine u_X7_reckonMinute_219 ?_
                    intro x140 ex140
                    exact ih118 _ _ _ _ ⟨hI, gL110, fL111, rfl, rfl, hM, (q922 h2 i1u1 c14 c107 i1u108 r_x119 c120 c121 ex124 ex127 c131 c132 c134 c137 c139 ex140)⟩ (mu_up (q923 h2 i1u1 c14 c107 i1u108 r_x119 c120 c121 ex124 ex127 c131 c132 c134 c137 c139 ex140) (q924 h2 i1u1 c14 c107 i1u108 r_x119 c120 c121 ex124 ex127 c131 c132 c134 c137 c139 ex140))
                  · refine ⟨a136, ea136, ?_⟩
                    refine ⟨o_a136, ?_⟩
                    have n_a136 : nI (hN S109 a136) = 3208 := by rw [show hN S109 a136 = 3208 from l_a136]; decide
                    refine ⟨fun c142 => ?_, fun c142 => ?_⟩
                    · rw [n_a136] at c142
                      refine u_X7_reckonMinute_219 ?_
                      intro x143 ex143
                      exact ih118 _ _ _ _ ⟨hI, gL110, fL111, rfl, rfl, hM, (q925 h2 i1u1 c14 c107 i1u108 r_x119 c120 c121 ex124 ex127 c131 c132 c134 c137 c139 c142 ex143)⟩ (mu_up (q926 h2 i1u1 c14 c107 i1u108 r_x119 c120 c121 ex124 ex127 c131 c132 c134 c137 c139 c142 ex143) (q927 h2 i1u1 c14 c107 i1u108 r_x119 c120 c121 ex124 ex127 c131 c132 c134 c137 c139 c142 ex143))
                    · rw [n_a136] at c142
                      refine ⟨a136, ea136, ?_⟩
                      refine ⟨o_a136, ?_⟩
                      refine ⟨(vin l_a136 (m := 3208) (by decide) (q928 h2 i1u1 c14 c107 i1u108 r_x119 c120 c121 ex124 ex127 c131 c132 c134 c137 c139 c142)), ?_⟩
                      intro x145 ex145
                      refine ⟨fun c146 => ?_, fun c146 => ?_⟩
                      · refine u_X7_reckonMinute_219 ?_
                        intro x147 ex147
                        exact ih118 _ _ _ _ ⟨hI, gL110, fL111, rfl, rfl, hM, (q929 h2 i1u1 c14 c107 i1u108 r_x119 c120 c121 ex124 ex127 c131 c132 c134 c137 c139 c142 c146 ex147)⟩ (mu_up (q930 h2 i1u1 c14 c107 i1u108 r_x119 c120 c121 ex124 ex127 c131 c132 c134 c137 c139 c142 c146 ex147) (q931 h2 i1u1 c14 c107 i1u108 r_x119 c120 c121 ex124 ex127 c131 c132 c134 c137 c139 c142 c146 ex147))
                      · obtain ⟨a148, ea148, o_a148, -⟩ := sh 27 rfl hI o_v0
                        have l_a148 := wm hM 6 rfl ea148
                        refine ⟨a148, ea148, ?_⟩
                        refine ⟨o_a148, ?_⟩
                        refine ⟨(vin l_a148 (m := 224) (by decide) (q932 h2 i1u1 c14 c107 i1u108 r_x119 c120 c121 ex124 ex127 c131 c132 c134 c137 c139 c142 c146)), ?_⟩
                        intro x149 ex149
                        refine ⟨a136, ea136, ?_⟩
                        refine ⟨o_a136, ?_⟩
                        refine ⟨(vin l_a136 (m := 3208) (by decide) (q933 h2 i1u1 c14 c107 i1u108 r_x119 c120 c121 ex124 ex127 c131 c132 c134 c137 c139 c142 c146)), ?_⟩
                        intro x151 ex151
                        intro x152 ex152
                        refine ⟨a136, ea136, ?_⟩
                        refine ⟨o_a136, ?_⟩
                        refine ⟨(vin l_a136 (m := 3208) (by decide) (q934 h2 i1u1 c14 c107 i1u108 r_x119 c120 c121 ex124 ex127 c131 c132 c134 c137 c139 c142 c146)), ?_⟩
                        intro x154 ex154
                        refine ⟨fun c155 => ?_, fun c155 => ?_⟩
                        · refine u_X7_reckonMinute_219 ?_
                          intro x156 ex156
                          exact ih118 _ _ _ _ ⟨hI, gL110, fL111, rfl, rfl, hM, (q935 h2 i1u1 c14 c107 i1u108 r_x119 c120 c121 ex124 ex127 c131 c132 c134 c137 c139 c142 c146 ex152 c155 ex156)⟩ (mu_up (q936 h2 i1u1 c14 c107 i1u108 r_x119 c120 c121 ex124 ex127 c131 c132 c134 c137 c139 c142 c146 ex152 c155 ex156) (q937 h2 i1u1 c14 c107 i1u108 r_x119 c120 c121 ex124 ex127 c131 c132 c134 c137 c139 c142 c146 ex152 c155 ex156))
                        · refine ⟨a136, ea136, ?_⟩
                          refine ⟨o_a136, ?_⟩
                          have i158 : vp_in x124 (hN _ a136) := (vin l_a136 (m := 3208) (by decide) (q938 h2 i1u1 c14 c107 i1u108 r_x119 c120 c121 ex124 ex127 c131 c132 c134 c137 c139 c142 c146 ex152 c155))
                          refine ⟨i158, ?_⟩
                          intro S159 eS159
                          have hI : IV S159 := by rw [eS159]; exact iv_aJ hI o_v0 (by decide) ea136 o_a136 (by decide)
                          have f0 := fr_J eS159 f0
                          have fL111 := fr_J eS159 fL111
                          have d_x119 := rd_J eS159 d_x119
                          have d_x130 := rd_J eS159 d_x130
                          have ea122 := rf_J eS159 ea122
                          have ea125 := rf_J eS159 ea125
                          have ea128 := rf_J eS159 ea128
                          have ea136 := rf_J eS159 ea136
                          have ea148 := rf_J eS159 ea148
                          have hM := wm_J eS159 hM
                          have l_a122 := ln_J eS159 l_a122
                          have l_a125 := ln_J eS159 l_a125
                          have l_a128 := ln_J eS159 l_a128
                          have l_a136 := ln_J eS159 l_a136
                          have l_a148 := ln_J eS159 l_a148
                          have g0 := gr_J eS159 g0
                          have gL110 := gr_J eS159 gL110
                          have o_a122 := ob_J eS159 o_a122
                          have o_a125 := ob_J eS159 o_a125
                          have o_a128 := ob_J eS159 o_a128
                          have o_a136 := ob_J eS159 o_a136
                          have o_a148 := ob_J eS159 o_a148
                          have o_v0 := ob_J eS159 o_v0
                          obtain ⟨a160, ea160, o_a160, -⟩ := sh 23 rfl hI o_v0
                          have l_a160 := wm hM 2 rfl ea160
                          refine ⟨a160, ea160, ?_⟩
                          obtain ⟨a161, ea161, o_a161, -⟩ := sh 28 rfl hI o_v0
                          have l_a161 := wm hM 7 rfl ea161
                          refine ⟨a161, ea161, ?_⟩
                          refine ⟨o_a161, ?_⟩
                          refine ⟨(vin l_a161 (m := 224) (by decide) (q939 h2 i1u1 c14 c107 i1u108 r_x119 c120 c121 ex124 ex127 c131 c132 c134 c137 c139 c142 c146 ex152 c155)), ?_⟩
                          intro x162 ex162
                          refine ⟨o_a160, ?_⟩
                          have i163 : vp_in x124 (hN _ a160) := (vin l_a160 (m := 3208) (by decide) (q938 h2 i1u1 c14 c107 i1u108 r_x119 c120 c121 ex124 ex127 c131 c132 c134 c137 c139 c142 c146 ex152 c155))
                          refine ⟨i163, ?_⟩
                          intro S164 eS164
                          have hI : IV S164 := by rw [eS164]; exact iv_aI hI o_v0 (by decide) ea160 o_a160 (by decide)
                          have f0 := fr_A eS164 g0 f0 o_a160 (by decide)
                          have fL111 := fr_A eS164 gL110 fL111 o_a160 (by decide)
                          have d_x119 := rd_Ik eS164 o_a160 o_v0 (by decide) d_x119
                          have d_x130 := rd_Ik eS164 o_a160 o_v0 (by decide) d_x130
                          have ea122 := rf_I eS164 ea122
                          have ea125 := rf_I eS164 ea125
                          have ea128 := rf_I eS164 ea128
                          have ea136 := rf_I eS164 ea136
                          have ea148 := rf_I eS164 ea148
                          have ea160 := rf_I eS164 ea160
                          have ea161 := rf_I eS164 ea161
                          have hM := wm_I eS164 hM
                          have l_a122 := ln_I eS164 l_a122
                          have l_a125 := ln_I eS164 l_a125
                          have l_a128 := ln_I eS164 l_a128
                          have l_a136 := ln_I eS164 l_a136
                          have l_a148 := ln_I eS164 l_a148
                          have l_a160 := ln_I eS164 l_a160
                          have l_a161 := ln_I eS164 l_a161
                          have g0 := gr_I eS164 g0
                          have gL110 := gr_I eS164 gL110
                          have o_a122 := ob_I eS164 o_a122
                          have o_a125 := ob_I eS164 o_a125
                          have o_a128 := ob_I eS164 o_a128
                          have o_a136 := ob_I eS164 o_a136
                          have o_a148 := ob_I eS164 o_a148
                          have o_a160 := ob_I eS164 o_a160
                          have o_a161 := ob_I eS164 o_a161
                          have o_v0 := ob_I eS164 o_v0
                          refine u_X7_reckonMinute_219 ?_
                          intro x165 ex165
                          exact ih118 _ _ _ _ ⟨hI, gL110, fL111, rfl, rfl, hM, (q940 h2 i1u1 c14 c107 i1u108 r_x119 c120 c121 ex124 ex127 c131 c132 c134 c137 c139 c142 c146 ex152 c155 ex165)⟩ (mu_up (q941 h2 i1u1 c14 c107 i1u108 r_x119 c120 c121 ex124 ex127 c131 c132 c134 c137 c139 c142 c146 ex152 c155 ex165) (q942 h2 i1u1 c14 c107 i1u108 r_x119 c120 c121 ex124 ex127 c131 c132 c134 c137 c139 c142 c146 ex152 c155 ex165))
          · refine u_X7_reckonMinute_117 ?_
            refine ⟨fun c166 => ?_, fun c166 => ?_⟩
            · refine u_X7_reckonMinute_219 ?_
              intro x167 ex167
              exact ih118 _ _ _ _ ⟨hI, gL110, fL111, rfl, rfl, hM, (q943 h2 i1u1 c14 c107 i1u108 r_x119 c120 c121 ex124 ex127 c131 c166 ex167)⟩ (mu_up (q944 h2 i1u1 c14 c107 i1u108 r_x119 c120 c121 ex124 ex127 c131 c166 ex167) (q945 h2 i1u1 c14 c107 i1u108 r_x119 c120 c121 ex124 ex127 c131 c166 ex167))
            · refine ⟨fun c168 => ?_, fun c168 => ?_⟩
              · refine u_X7_reckonMinute_219 ?_
                intro x169 ex169
                exact ih118 _ _ _ _ ⟨hI, gL110, fL111, rfl, rfl, hM, (q946 h2 i1u1 c14 c107 i1u108 r_x119 c120 c121 ex124 ex127 c131 c168 ex169)⟩ (mu_up (q947 h2 i1u1 c14 c107 i1u108 r_x119 c120 c121 ex124 ex127 c131 c168 ex169) (q948 h2 i1u1 c14 c107 i1u108 r_x119 c120 c121 ex124 ex127 c131 c168 ex169))
              · refine ⟨o_v0, ?_⟩
                obtain ⟨a170, ea170, o_a170, -⟩ := sh 22 rfl hI o_v0
                have l_a170 := wm hM 1 rfl ea170
                refine ⟨a170, ea170, ?_⟩
                refine ⟨o_a170, ?_⟩
                have n_a170 : nI (hN S109 a170) = 3208 := by rw [show hN S109 a170 = 3208 from l_a170]; decide
                refine ⟨fun c171 => ?_, fun c171 => ?_⟩
                · rw [n_a170] at c171
                  refine u_X7_reckonMinute_219 ?_
                  intro x172 ex172
                  exact ih118 _ _ _ _ ⟨hI, gL110, fL111, rfl, rfl, hM, (q949 h2 i1u1 c14 c107 i1u108 r_x119 c120 c121 ex124 ex127 c131 c168 c171 ex172)⟩ (mu_up (q950 h2 i1u1 c14 c107 i1u108 r_x119 c120 c121 ex124 ex127 c131 c168 c171 ex172) (q951 h2 i1u1 c14 c107 i1u108 r_x119 c120 c121 ex124 ex127 c131 c168 c171 ex172))
                · rw [n_a170] at c171
                  refine ⟨fun c173 => ?_, fun c173 => ?_⟩
                  · refine u_X7_reckonMinute_219 ?_
                    intro x174 ex174
                    exact ih118 _ _ _ _ ⟨hI, gL110, fL111, rfl, rfl, hM, (q952 h2 i1u1 c14 c107 i1u108 r_x119 c120 c121 ex124 ex127 c131 c168 c171 c173 ex174)⟩ (mu_up (q953 h2 i1u1 c14 c107 i1u108 r_x119 c120 c121 ex124 ex127 c131 c168 c171 c173 ex174) (q954 h2 i1u1 c14 c107 i1u108 r_x119 c120 c121 ex124 ex127 c131 c168 c171 c173 ex174))
                  · refine ⟨a170, ea170, ?_⟩
                    refine ⟨o_a170, ?_⟩
                    have n_a170 : nI (hN S109 a170) = 3208 := by rw [show hN S109 a170 = 3208 from l_a170]; decide
                    refine ⟨fun c176 => ?_, fun c176 => ?_⟩
                    · rw [n_a170] at c176
                      refine u_X7_reckonMinute_219 ?_
                      intro x177 ex177
                      exact ih118 _ _ _ _ ⟨hI, gL110, fL111, rfl, rfl, hM, (q955 h2 i1u1 c14 c107 i1u108 r_x119 c120 c121 ex124 ex127 c131 c168 c171 c173 c176 ex177)⟩ (mu_up (q956 h2 i1u1 c14 c107 i1u108 r_x119 c120 c121 ex124 ex127 c131 c168 c171 c173 c176 ex177) (q957 h2 i1u1 c14 c107 i1u108 r_x119 c120 c121 ex124 ex127 c131 c168 c171 c173 c176 ex177))
                    · rw [n_a170] at c176
                      refine ⟨a170, ea170, ?_⟩
                      refine ⟨o_a170, ?_⟩
                      refine ⟨(vin l_a170 (m := 3208) (by decide) (q958 h2 i1u1 c14 c107 i1u108 r_x119 c120 c121 ex124 ex127 c131 c168 c171 c173 c176)), ?_⟩
                      intro x179 ex179
                      refine ⟨fun c180 => ?_, fun c180 => ?_⟩
                      · refine u_X7_reckonMinute_219 ?_
                        intro x181 ex181
                        exact ih118 _ _ _ _ ⟨hI, gL110, fL111, rfl, rfl, hM, (q959 h2 i1u1 c14 c107 i1u108 r_x119 c120 c121 ex124 ex127 c131 c168 c171 c173 c176 c180 ex181)⟩ (mu_up (q960 h2 i1u1 c14 c107 i1u108 r_x119 c120 c121 ex124 ex127 c131 c168 c171 c173 c176 c180 ex181) (q961 h2 i1u1 c14 c107 i1u108 r_x119 c120 c121 ex124 ex127 c131 c168 c171 c173 c176 c180 ex181))
                      · obtain ⟨a182, ea182, o_a182, -⟩ := sh 27 rfl hI o_v0
                        have l_a182 := wm hM 6 rfl ea182
                        refine ⟨a182, ea182, ?_⟩
                        refine ⟨o_a182, ?_⟩
                        refine ⟨(vin l_a182 (m := 224) (by decide) (q962 h2 i1u1 c14 c107 i1u108 r_x119 c120 c121 ex124 ex127 c131 c168 c171 c173 c176 c180)), ?_⟩
                        intro x183 ex183
                        refine ⟨a170, ea170, ?_⟩
                        refine ⟨o_a170, ?_⟩
                        refine ⟨(vin l_a170 (m := 3208) (by decide) (q963 h2 i1u1 c14 c107 i1u108 r_x119 c120 c121 ex124 ex127 c131 c168 c171 c173 c176 c180)), ?_⟩
                        intro x185 ex185
                        intro x186 ex186
                        refine ⟨a170, ea170, ?_⟩
                        refine ⟨o_a170, ?_⟩
                        refine ⟨(vin l_a170 (m := 3208) (by decide) (q964 h2 i1u1 c14 c107 i1u108 r_x119 c120 c121 ex124 ex127 c131 c168 c171 c173 c176 c180)), ?_⟩
                        intro x188 ex188
                        refine ⟨fun c189 => ?_, fun c189 => ?_⟩
                        · refine u_X7_reckonMinute_219 ?_
                          intro x190 ex190
                          exact ih118 _ _ _ _ ⟨hI, gL110, fL111, rfl, rfl, hM, (q965 h2 i1u1 c14 c107 i1u108 r_x119 c120 c121 ex124 ex127 c131 c168 c171 c173 c176 c180 ex186 c189 ex190)⟩ (mu_up (q966 h2 i1u1 c14 c107 i1u108 r_x119 c120 c121 ex124 ex127 c131 c168 c171 c173 c176 c180 ex186 c189 ex190) (q967 h2 i1u1 c14 c107 i1u108 r_x119 c120 c121 ex124 ex127 c131 c168 c171 c173 c176 c180 ex186 c189 ex190))
                        · refine ⟨a170, ea170, ?_⟩
                          refine ⟨o_a170, ?_⟩
                          have i192 : vp_in x124 (hN _ a170) := (vin l_a170 (m := 3208) (by decide) (q968 h2 i1u1 c14 c107 i1u108 r_x119 c120 c121 ex124 ex127 c131 c168 c171 c173 c176 c180 ex186 c189))
                          refine ⟨i192, ?_⟩
                          intro S193 eS193
                          have hI : IV S193 := by rw [eS193]; exact iv_aJ hI o_v0 (by decide) ea170 o_a170 (by decide)
                          have f0 := fr_J eS193 f0
                          have fL111 := fr_J eS193 fL111
                          have d_x119 := rd_J eS193 d_x119
                          have d_x130 := rd_J eS193 d_x130
                          have ea122 := rf_J eS193 ea122
                          have ea125 := rf_J eS193 ea125
                          have ea128 := rf_J eS193 ea128
                          have ea170 := rf_J eS193 ea170
                          have ea182 := rf_J eS193 ea182
                          have hM := wm_J eS193 hM
                          have l_a122 := ln_J eS193 l_a122
                          have l_a125 := ln_J eS193 l_a125
                          have l_a128 := ln_J eS193 l_a128
                          have l_a170 := ln_J eS193 l_a170
                          have l_a182 := ln_J eS193 l_a182
                          have g0 := gr_J eS193 g0
                          have gL110 := gr_J eS193 gL110
                          have o_a122 := ob_J eS193 o_a122
                          have o_a125 := ob_J eS193 o_a125
                          have o_a128 := ob_J eS193 o_a128
                          have o_a170 := ob_J eS193 o_a170
                          have o_a182 := ob_J eS193 o_a182
                          have o_v0 := ob_J eS193 o_v0
                          obtain ⟨a194, ea194, o_a194, -⟩ := sh 23 rfl hI o_v0
                          have l_a194 := wm hM 2 rfl ea194
                          refine ⟨a194, ea194, ?_⟩
                          obtain ⟨a195, ea195, o_a195, -⟩ := sh 28 rfl hI o_v0
                          have l_a195 := wm hM 7 rfl ea195
                          refine ⟨a195, ea195, ?_⟩
                          refine ⟨o_a195, ?_⟩
                          refine ⟨(vin l_a195 (m := 224) (by decide) (q969 h2 i1u1 c14 c107 i1u108 r_x119 c120 c121 ex124 ex127 c131 c168 c171 c173 c176 c180 ex186 c189)), ?_⟩
                          intro x196 ex196
                          refine ⟨o_a194, ?_⟩
                          have i197 : vp_in x124 (hN _ a194) := (vin l_a194 (m := 3208) (by decide) (q968 h2 i1u1 c14 c107 i1u108 r_x119 c120 c121 ex124 ex127 c131 c168 c171 c173 c176 c180 ex186 c189))
                          refine ⟨i197, ?_⟩
                          intro S198 eS198
                          have hI : IV S198 := by rw [eS198]; exact iv_aI hI o_v0 (by decide) ea194 o_a194 (by decide)
                          have f0 := fr_A eS198 g0 f0 o_a194 (by decide)
                          have fL111 := fr_A eS198 gL110 fL111 o_a194 (by decide)
                          have d_x119 := rd_Ik eS198 o_a194 o_v0 (by decide) d_x119
                          have d_x130 := rd_Ik eS198 o_a194 o_v0 (by decide) d_x130
                          have ea122 := rf_I eS198 ea122
                          have ea125 := rf_I eS198 ea125
                          have ea128 := rf_I eS198 ea128
                          have ea170 := rf_I eS198 ea170
                          have ea182 := rf_I eS198 ea182
                          have ea194 := rf_I eS198 ea194
                          have ea195 := rf_I eS198 ea195
                          have hM := wm_I eS198 hM
                          have l_a122 := ln_I eS198 l_a122
                          have l_a125 := ln_I eS198 l_a125
                          have l_a128 := ln_I eS198 l_a128
                          have l_a170 := ln_I eS198 l_a170
                          have l_a182 := ln_I eS198 l_a182
                          have l_a194 := ln_I eS198 l_a194
                          have l_a195 := ln_I eS198 l_a195
                          have g0 := gr_I eS198 g0
                          have gL110 := gr_I eS198 gL110
                          have o_a122 := ob_I eS198 o_a122
                          have o_a125 := ob_I eS198 o_a125
                          have o_a128 := ob_I eS198 o_a128
                          have o_a170 := ob_I eS198 o_a170
                          have o_a182 := ob_I eS198 o_a182
                          have o_a194 := ob_I eS198 o_a194
                          have o_a195 := ob_I eS198 o_a195
                          have o_v0 := ob_I eS198 o_v0
                          refine u_X7_reckonMinute_219 ?_
                          intro x199 ex199
                          exact ih118 _ _ _ _ ⟨hI, gL110, fL111, rfl, rfl, hM, (q970 h2 i1u1 c14 c107 i1u108 r_x119 c120 c121 ex124 ex127 c131 c168 c171 c173 c176 c180 ex186 c189 ex199)⟩ (mu_up (q971 h2 i1u1 c14 c107 i1u108 r_x119 c120 c121 ex124 ex127 c131 c168 c171 c173 c176 c180 ex186 c189 ex199) (q972 h2 i1u1 c14 c107 i1u108 r_x119 c120 c121 ex124 ex127 c131 c168 c171 c173 c176 c180 ex186 c189 ex199))
    · refine ⟨o_v0, ?_⟩
      obtain ⟨a200, ea200, o_a200, -⟩ := sh 22 rfl hI o_v0
      have l_a200 := wm hM 1 rfl ea200
      refine ⟨a200, ea200, ?_⟩
      intro x201 ex201
      have d_x201 := ex201
      refine ⟨fun c202 => ?_, fun c202 => ?_⟩
      · refine u_X7_reckonMinute_40 ?_
        refine ⟨o_a200, ?_⟩
        have i203 : vp_in ((w11 * (401 : Int32)) + v2) (hN _ a200) := (vin l_a200 (m := 3208) (by decide) (q973 h2 i1u1 c14 c107 c202))
        refine ⟨i203, ?_⟩
        intro S204 eS204
        have hI : IV S204 := by rw [eS204]; exact iv_aJ hI o_v0 (by decide) ea200 o_a200 (by decide)
        have f0 := fr_J eS204 f0
        have fL4 := fr_J eS204 fL4
        have d_x201 := rd_J eS204 d_x201
        have ea200 := rf_J eS204 ea200
        have hM := wm_J eS204 hM
        have l_a200 := ln_J eS204 l_a200
        have g0 := gr_J eS204 g0
        have gL3 := gr_J eS204 gL3
        have o_a200 := ob_J eS204 o_a200
        have o_v0 := ob_J eS204 o_v0
        refine ⟨o_v0, ?_⟩
        obtain ⟨a205, ea205, o_a205, -⟩ := sh 23 rfl hI o_v0
        have l_a205 := wm hM 2 rfl ea205
        refine ⟨a205, ea205, ?_⟩
        refine ⟨o_a205, ?_⟩
        have i206 : vp_in ((w11 * (401 : Int32)) + v2) (hN _ a205) := (vin l_a205 (m := 3208) (by decide) (q973 h2 i1u1 c14 c107 c202))
        refine ⟨i206, ?_⟩
        intro S207 eS207
        have hI : IV S207 := by rw [eS207]; exact iv_aI hI o_v0 (by decide) ea205 o_a205 (by decide)
        have f0 := fr_A eS207 g0 f0 o_a205 (by decide)
        have fL4 := fr_A eS207 gL3 fL4 o_a205 (by decide)
        have d_x201 := rd_Ik eS207 o_a205 o_v0 (by decide) d_x201
        have ea200 := rf_I eS207 ea200
        have ea205 := rf_I eS207 ea205
        have hM := wm_I eS207 hM
        have l_a200 := ln_I eS207 l_a200
        have l_a205 := ln_I eS207 l_a205
        have g0 := gr_I eS207 g0
        have gL3 := gr_I eS207 gL3
        have o_a200 := ob_I eS207 o_a200
        have o_a205 := ob_I eS207 o_a205
        have o_v0 := ob_I eS207 o_v0
        intro x208 ex208
        exact ih13 _ _ _ _ _ ⟨hI, gL3, fL4, rfl, rfl, rfl, hM, (q974 i1u1 c14 c107 c202 ex208)⟩ (mu_up (q975 i1u1 c14 c107 c202 ex208) (q976 i1u1 c14 c107 c202 ex208))
      · refine u_X7_reckonMinute_40 ?_
        refine ⟨o_a200, ?_⟩
        have i209 : vp_in ((w11 * (401 : Int32)) + v2) (hN _ a200) := (vin l_a200 (m := 3208) (by decide) (q977 h2 i1u1 c14 c107 c202))
        refine ⟨i209, ?_⟩
        intro S210 eS210
        have hI : IV S210 := by rw [eS210]; exact iv_aJ hI o_v0 (by decide) ea200 o_a200 (by decide)
        have f0 := fr_J eS210 f0
        have fL4 := fr_J eS210 fL4
        have d_x201 := rd_J eS210 d_x201
        have ea200 := rf_J eS210 ea200
        have hM := wm_J eS210 hM
        have l_a200 := ln_J eS210 l_a200
        have g0 := gr_J eS210 g0
        have gL3 := gr_J eS210 gL3
        have o_a200 := ob_J eS210 o_a200
        have o_v0 := ob_J eS210 o_v0
        refine ⟨o_v0, ?_⟩
        obtain ⟨a211, ea211, o_a211, -⟩ := sh 23 rfl hI o_v0
        have l_a211 := wm hM 2 rfl ea211
        refine ⟨a211, ea211, ?_⟩
        refine ⟨o_a211, ?_⟩
        have i212 : vp_in ((w11 * (401 : Int32)) + v2) (hN _ a211) := (vin l_a211 (m := 3208) (by decide) (q977 h2 i1u1 c14 c107 c202))
        refine ⟨i212, ?_⟩
        intro S213 eS213
        have hI : IV S213 := by rw [eS213]; exact iv_aI hI o_v0 (by decide) ea211 o_a211 (by decide)
        have f0 := fr_A eS213 g0 f0 o_a211 (by decide)
        have fL4 := fr_A eS213 gL3 fL4 o_a211 (by decide)
        have d_x201 := rd_Ik eS213 o_a211 o_v0 (by decide) d_x201
        have ea200 := rf_I eS213 ea200
        have ea211 := rf_I eS213 ea211
        have hM := wm_I eS213 hM
        have l_a200 := ln_I eS213 l_a200
        have l_a211 := ln_I eS213 l_a211
        have g0 := gr_I eS213 g0
        have gL3 := gr_I eS213 gL3
        have o_a200 := ob_I eS213 o_a200
        have o_a211 := ob_I eS213 o_a211
        have o_v0 := ob_I eS213 o_v0
        intro x214 ex214
        exact ih13 _ _ _ _ _ ⟨hI, gL3, fL4, rfl, rfl, rfl, hM, (q978 i1u1 c14 c107 c202 ex214)⟩ (mu_up (q979 i1u1 c14 c107 c202 ex214) (q980 i1u1 c14 c107 c202 ex214))
end
