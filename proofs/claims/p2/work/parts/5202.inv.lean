set_option maxHeartbeats 4000000 in
set_option maxRecDepth 20000 in
theorem m_X4_whole {v0 : Nat} {v1 : Int32} {v2 : Int32} {Q : Int32 → HS → Prop} {S : HS} (hI : IV S) (o_v0 : ob S v0 4)    (hT : TX S v0) (hq : ∀ (r : Int32) (T : HS), IV T → Gr S T → FRI [(4, 0), (4, 1), (4, 4), (4, 6), (4, 7), (4, 9)] [] S T → bl r → (TX T v0) ∧ (r = 1 → v1 ≤ fI T v0 9 ∧ fI T v0 9 ≤ v2) → Q r T) : P_X4_whole v0 v1 v2 Q S := by
  have g0 := gr_rf S
  have f0 := fri_rf [(4, 0), (4, 1), (4, 4), (4, 6), (4, 7), (4, 9)] [] S
  refine u_X4_whole ?_
  refine u_X4_whole_0 ?_
  refine ⟨o_v0, ?_⟩
  intro x1 ex1
  have d_x1 := ex1
  refine ⟨fun c2 => ?_, fun c2 => ?_⟩
  · intro x3 ex3
    have dj_x3 := ex3
    refine ⟨fun c4 => ?_, fun c4 => ?_⟩
    · refine u_X4_whole_34 ?_
      refine ⟨o_v0, ?_⟩
      refine u_X4_fail ?_
      refine u_X4_fail_0 ?_
      refine ⟨o_v0, ?_⟩
      have hI := iv_sI (j := 0) (v := (4 : Int32)) hI o_v0 (by decide) (nu_free (by decide))
      have f0 : FRI _ _ _ (sI S v0 0 (4 : Int32)) := fri_sI g0 f0 o_v0 (by decide)
      have d_x1 : x1 = fI (sI S v0 0 (4 : Int32)) v0 6 := d_x1.trans (rd_j (by decide)).symm
      obtain ⟨y5, hy5⟩ : ∃ z : Int32, z = (4 : Int32) := ⟨_, rfl⟩
      have d_y5 : y5 = fI (sI S v0 0 (4 : Int32)) v0 0 := hy5.trans (u2_self _ _ _ _).symm
      intro x6 ex6
      have d_x6 := ex6
      have hI := iv_sI (j := 1) (v := x6) hI o_v0 (by decide) (nu_free (by decide))
      have f0 : FRI _ _ _ (sI (sI S v0 0 (4 : Int32)) v0 1 x6) := fri_sI g0 f0 o_v0 (by decide)
      have d_x1 : x1 = fI (sI (sI S v0 0 (4 : Int32)) v0 1 x6) v0 6 := d_x1.trans (rd_j (by decide)).symm
      have d_y5 : y5 = fI (sI (sI S v0 0 (4 : Int32)) v0 1 x6) v0 0 := d_y5.trans (rd_j (by decide)).symm
      have d_x6 : x6 = fI (sI (sI S v0 0 (4 : Int32)) v0 1 x6) v0 7 := d_x6.trans (rd_j (by decide)).symm
      have d_x6 : x6 = fI (sI (sI S v0 0 (4 : Int32)) v0 1 x6) v0 1 := (u2_self _ _ _ _).symm
      intro _ _
      obtain ⟨y7, d_y7⟩ : ∃ z : Int32, z = fI (sI (sI S v0 0 (4 : Int32)) v0 1 x6) v0 9 := ⟨_, rfl⟩
      exact hq _ _ hI g0 f0 (Or.inl rfl) ⟨hT, (by rw [← d_y7]; exact (q194 c2 c4))⟩
    · intro x8 ex8
      have q_x8 : x8 = x3 := ex8.trans dj_x3.symm
      have dj_x8 := ex8
      refine ⟨fun c9 => ?_, fun c9 => ?_⟩
      · intro x10 ex10
        have q_x10 : x10 = x8 := ex10.trans dj_x8.symm
        have dj_x10 := ex10
        intro x11 ex11
        have hI := iv_sI (j := 9) (v := x11) hI o_v0 (by decide) (nu_free (by decide))
        have f0 : FRI _ _ _ (sI S v0 9 x11) := fri_sI g0 f0 o_v0 (by decide)
        have d_x1 : x1 = fI (sI S v0 9 x11) v0 6 := d_x1.trans (rd_j (by decide)).symm
        have d_x11 : x11 = fI (sI S v0 9 x11) v0 9 := (u2_self _ _ _ _).symm
        refine m_X4_next hI o_v0 hT (fun S13 hI g14 fc15 p_S13 => ?_)
        obtain hT := p_S13
        have d_x11 := d_x11.trans (fri_at fc15 (by decide) (by decide) o_v0).symm
        have f0 := fri_tr g0 f0 fc15 (by decide) (by decide)
        have o_v0 := gr_ob g14 o_v0
        have g0 := gr_tr g0 g14
        intro _
        exact hq _ _ hI g0 f0 (Or.inr rfl) ⟨hT, (by rw [← d_x11]; exact (fun _ => by have a := lc_ge c4; have b := lc_le c9; simp only [q_x8, q_x10, ex11] at *; exact i64_rng a b))⟩
      · refine u_X4_whole_34 ?_
        refine ⟨o_v0, ?_⟩
        refine u_X4_fail ?_
        refine u_X4_fail_0 ?_
        refine ⟨o_v0, ?_⟩
        have hI := iv_sI (j := 0) (v := (4 : Int32)) hI o_v0 (by decide) (nu_free (by decide))
        have f0 : FRI _ _ _ (sI S v0 0 (4 : Int32)) := fri_sI g0 f0 o_v0 (by decide)
        have d_x1 : x1 = fI (sI S v0 0 (4 : Int32)) v0 6 := d_x1.trans (rd_j (by decide)).symm
        obtain ⟨y16, hy16⟩ : ∃ z : Int32, z = (4 : Int32) := ⟨_, rfl⟩
        have d_y16 : y16 = fI (sI S v0 0 (4 : Int32)) v0 0 := hy16.trans (u2_self _ _ _ _).symm
        intro x17 ex17
        have d_x17 := ex17
        have hI := iv_sI (j := 1) (v := x17) hI o_v0 (by decide) (nu_free (by decide))
        have f0 : FRI _ _ _ (sI (sI S v0 0 (4 : Int32)) v0 1 x17) := fri_sI g0 f0 o_v0 (by decide)
        have d_x1 : x1 = fI (sI (sI S v0 0 (4 : Int32)) v0 1 x17) v0 6 := d_x1.trans (rd_j (by decide)).symm
        have d_y16 : y16 = fI (sI (sI S v0 0 (4 : Int32)) v0 1 x17) v0 0 := d_y16.trans (rd_j (by decide)).symm
        have d_x17 : x17 = fI (sI (sI S v0 0 (4 : Int32)) v0 1 x17) v0 7 := d_x17.trans (rd_j (by decide)).symm
        have d_x17 : x17 = fI (sI (sI S v0 0 (4 : Int32)) v0 1 x17) v0 1 := (u2_self _ _ _ _).symm
        intro _ _
        obtain ⟨y18, d_y18⟩ : ∃ z : Int32, z = fI (sI (sI S v0 0 (4 : Int32)) v0 1 x17) v0 9 := ⟨_, rfl⟩
        exact hq _ _ hI g0 f0 (Or.inl rfl) ⟨hT, (by rw [← d_y18]; exact (q195 c2 c4 q_x8 c9))⟩
  · refine u_X4_fail ?_
    refine u_X4_fail_0 ?_
    refine ⟨o_v0, ?_⟩
    have hI := iv_sI (j := 0) (v := (1 : Int32)) hI o_v0 (by decide) (nu_free (by decide))
    have f0 : FRI _ _ _ (sI S v0 0 (1 : Int32)) := fri_sI g0 f0 o_v0 (by decide)
    have d_x1 : x1 = fI (sI S v0 0 (1 : Int32)) v0 6 := d_x1.trans (rd_j (by decide)).symm
    obtain ⟨y19, hy19⟩ : ∃ z : Int32, z = (1 : Int32) := ⟨_, rfl⟩
    have d_y19 : y19 = fI (sI S v0 0 (1 : Int32)) v0 0 := hy19.trans (u2_self _ _ _ _).symm
    intro x20 ex20
    have d_x20 := ex20
    have hI := iv_sI (j := 1) (v := x20) hI o_v0 (by decide) (nu_free (by decide))
    have f0 : FRI _ _ _ (sI (sI S v0 0 (1 : Int32)) v0 1 x20) := fri_sI g0 f0 o_v0 (by decide)
    have d_x1 : x1 = fI (sI (sI S v0 0 (1 : Int32)) v0 1 x20) v0 6 := d_x1.trans (rd_j (by decide)).symm
    have d_y19 : y19 = fI (sI (sI S v0 0 (1 : Int32)) v0 1 x20) v0 0 := d_y19.trans (rd_j (by decide)).symm
    have d_x20 : x20 = fI (sI (sI S v0 0 (1 : Int32)) v0 1 x20) v0 7 := d_x20.trans (rd_j (by decide)).symm
    have d_x20 : x20 = fI (sI (sI S v0 0 (1 : Int32)) v0 1 x20) v0 1 := (u2_self _ _ _ _).symm
    intro _ _
    obtain ⟨y21, d_y21⟩ : ∃ z : Int32, z = fI (sI (sI S v0 0 (1 : Int32)) v0 1 x20) v0 9 := ⟨_, rfl⟩
    exact hq _ _ hI g0 f0 (Or.inl rfl) ⟨hT, (by rw [← d_y21]; exact (q196 c2))⟩
set_option maxHeartbeats 4000000 in
set_option maxRecDepth 20000 in
theorem m_X4_is {v0 : Nat} {v1 : Nat} {Q : Int32 → HS → Prop} {S : HS} (hI : IV S) (o_v0 : ob S v0 4)  (hw_v1 : v1 < 54)  (hT : TX S v0) (hq : ∀ (r : Int32) (T : HS), IV T → Gr S T → bl r → (S = T) → Q r T) : P_X4_is v0 v1 Q S := by
  have g0 := gr_rf S
  refine u_X4_is ?_
  refine u_X4_is_0 ?_
  refine ⟨o_v0, ?_⟩
  intro x1 ex1
  have d_x1 := ex1
  refine ⟨fun c2 => ?_, fun c2 => ?_⟩
  · refine i_X4_is_15 (fun (y0 : Nat) (y1 : Nat) (y2 : Int64) (y4 : Int32) (Z : HS) => ((2147483647 : Int32).toInt - y4.toInt).toNat) (fun (y0 : Nat) (y1 : Nat) (y2 : Int64) (y4 : Int32) (Z : HS) => (S = Z) ∧ (v0 = y0) ∧ (v1 = y1) ∧ (0 ≤ y4)) ?_ _ _ _ _ _ ⟨rfl, rfl, rfl, (q714 c2)⟩
    intro w6 w8 w10 w11 S3 X12 ⟨eS3, q7, q9, i1⟩ ih13
    subst q7
    subst q9
    subst eS3
    refine u_X4_is_15 ?_
    refine ⟨hw_v1, ?_⟩
    intro x14 ex14
    refine ⟨fun c15 => ?_, fun c15 => ?_⟩
    · refine ⟨o_v0, ?_⟩
      intro x16 ex16
      have dj_x16 := ex16
      refine ⟨fun c17 => ?_, fun c17 => ?_⟩
      · exact hq _ _ hI g0 (Or.inl rfl) rfl
      · exact hq _ _ hI g0 (Or.inr rfl) rfl
    · refine ⟨hw_v1, sorry, ?_⟩
      intro x18 ex18
      intro x19 ex19
      intro x20 ex20
      exact ih13 _ _ _ _ _ ⟨rfl, rfl, rfl, (q715 c2 i1 c15 ex20)⟩ (mu_up (q716 c2 i1 c15 ex20) (q717 c2 i1 c15 ex20))
  · exact hq _ _ hI g0 (Or.inl rfl) rfl
set_option maxHeartbeats 4000000 in
set_option maxRecDepth 20000 in
theorem m_X4_word {v0 : Nat} {v1 : Nat} {Q : Int32 → HS → Prop} {S : HS} (hI : IV S) (o_v0 : ob S v0 4)  (hw_v1 : v1 < 54)  (hT : TX S v0) (hq : ∀ (r : Int32) (T : HS), IV T → Gr S T → FRI [(4, 0), (4, 1), (4, 4), (4, 6), (4, 7)] [] S T → bl r → (TX T v0) → Q r T) : P_X4_word v0 v1 Q S := by
  have g0 := gr_rf S
  have f0 := fri_rf [(4, 0), (4, 1), (4, 4), (4, 6), (4, 7)] [] S
  refine u_X4_word ?_
  refine u_X4_word_0 ?_
  refine ⟨o_v0, ?_⟩
  refine m_X4_is hI o_v0 hw_v1 hT (fun x1 S2 hI2 g3 b_x1 p_x1 => ?_)
  subst p_x1
  intro _ _
  have bb_x1 : x1 = 0 ∨ x1 = 1 := b_x1
  refine ⟨fun c5 => ?_, fun c5 => ?_⟩
  · refine m_X4_next hI o_v0 hT (fun S7 hI g8 fc9 p_S7 => ?_)
    obtain hT := p_S7
    have f0 := fri_tr g0 f0 fc9 (by decide) (by decide)
    have o_v0 := gr_ob g8 o_v0
    have g0 := gr_tr g0 g8
    intro _
    exact hq _ _ hI g0 f0 (Or.inr rfl) hT
  · refine u_X4_fail ?_
    refine u_X4_fail_0 ?_
    refine ⟨o_v0, ?_⟩
    have hI := iv_sI (j := 0) (v := (1 : Int32)) hI o_v0 (by decide) (nu_free (by decide))
    have f0 : FRI _ _ _ (sI S v0 0 (1 : Int32)) := fri_sI g0 f0 o_v0 (by decide)
    obtain ⟨y10, hy10⟩ : ∃ z : Int32, z = (1 : Int32) := ⟨_, rfl⟩
    have d_y10 : y10 = fI (sI S v0 0 (1 : Int32)) v0 0 := hy10.trans (u2_self _ _ _ _).symm
    intro x11 ex11
    have d_x11 := ex11
    have hI := iv_sI (j := 1) (v := x11) hI o_v0 (by decide) (nu_free (by decide))
    have f0 : FRI _ _ _ (sI (sI S v0 0 (1 : Int32)) v0 1 x11) := fri_sI g0 f0 o_v0 (by decide)
    have d_y10 : y10 = fI (sI (sI S v0 0 (1 : Int32)) v0 1 x11) v0 0 := d_y10.trans (rd_j (by decide)).symm
    have d_x11 : x11 = fI (sI (sI S v0 0 (1 : Int32)) v0 1 x11) v0 7 := d_x11.trans (rd_j (by decide)).symm
    have d_x11 : x11 = fI (sI (sI S v0 0 (1 : Int32)) v0 1 x11) v0 1 := (u2_self _ _ _ _).symm
    intro _ _
    exact hq _ _ hI g0 f0 (Or.inl rfl) hT
set_option maxHeartbeats 4000000 in
set_option maxRecDepth 20000 in
theorem m_X4_wordAndWhole {v0 : Nat} {v1 : Nat} {v2 : Int32} {v3 : Int32} {Q : Int32 → HS → Prop} {S : HS} (hI : IV S) (o_v0 : ob S v0 4)  (hw_v1 : v1 < 54)  (hT : TX S v0) (hq : ∀ (r : Int32) (T : HS), IV T → Gr S T → FRI [(4, 0), (4, 1), (4, 4), (4, 6), (4, 7), (4, 9)] [] S T → bl r → (TX T v0) ∧ (r = 1 → v2 ≤ fI T v0 9 ∧ fI T v0 9 ≤ v3) → Q r T) : P_X4_wordAndWhole v0 v1 v2 v3 Q S := by
  have g0 := gr_rf S
  have f0 := fri_rf [(4, 0), (4, 1), (4, 4), (4, 6), (4, 7), (4, 9)] [] S
  refine u_X4_wordAndWhole ?_
  refine u_X4_wordAndWhole_0 ?_
  refine ⟨o_v0, ?_⟩
  refine m_X4_word hI o_v0 hw_v1 hT (fun x1 S2 hI g3 fc4 b_x1 p_x1 => ?_)
  obtain hT := p_x1
  have f0 := fri_tr g0 f0 fc4 (by decide) (by decide)
  have o_v0 := gr_ob g3 o_v0
  have g0 := gr_tr g0 g3
  intro _ _
  have bb_x1 : x1 = 0 ∨ x1 = 1 := b_x1
  refine ⟨fun c5 => ?_, fun c5 => ?_⟩
  · obtain ⟨y6, d_y6⟩ : ∃ z : Int32, z = fI S2 v0 9 := ⟨_, rfl⟩
    exact hq _ _ hI g0 f0 (Or.inl rfl) ⟨hT, (by rw [← d_y6]; exact (q191 bb_x1 c5))⟩
  · refine m_X4_whole hI o_v0 hT (fun x7 S8 hI g9 fc10 b_x7 p_x7 => ?_)
    obtain ⟨hT, pf9_S8⟩ := p_x7
    have f0 := fri_tr g0 f0 fc10 (by decide) (by decide)
    have o_v0 := gr_ob g9 o_v0
    have g0 := gr_tr g0 g9
    obtain ⟨y11, d_y11⟩ : ∃ z : Int32, z = fI S8 v0 9 := ⟨_, rfl⟩
    have p_y11 : x7 = 1 → v2 ≤ y11 ∧ y11 ≤ v3 := by rw [d_y11]; exact pf9_S8
    intro _ _
    have bb_x7 : x7 = 0 ∨ x7 = 1 := b_x7
    refine ⟨fun c12 => ?_, fun c12 => ?_⟩
    · exact hq _ _ hI g0 f0 (Or.inl rfl) ⟨hT, (by rw [← d_y11]; exact (q192 bb_x1 c5 p_y11 bb_x7 c12))⟩
    · exact hq _ _ hI g0 f0 (Or.inr rfl) ⟨hT, (by rw [← d_y11]; exact (q193 bb_x1 c5 p_y11 bb_x7 c12))⟩
set_option maxHeartbeats 4000000 in
set_option maxRecDepth 20000 in
theorem m_X6_shape {v0 : Nat} {v1 : Int32} {v2 : Int32} {v3 : Int32} {Q : HS → Prop} {S : HS} (hI : IV S) (o_v0 : ob S v0 6)     (hq : ∀ (T : HS), IV T → Gr S T → FRI [(6, 2), (6, 3), (6, 4)] [] S T → Q T) : P_X6_shape v0 v1 v2 v3 Q S := by
  have g0 := gr_rf S
  have f0 := fri_rf [(6, 2), (6, 3), (6, 4)] [] S
  refine u_X6_shape ?_
  refine u_X6_shape_0 ?_
  refine ⟨o_v0, ?_⟩
  intro x1 ex1
  have d_x1 := ex1
  refine ⟨fun c2 => ?_, fun c2 => ?_⟩
  · refine u_X6_shape_16 ?_
    refine ⟨o_v0, ?_⟩
    intro x3 ex3
    have hI := iv_sI (j := 2) (v := x3) hI o_v0 (by decide) (nu_free (by decide))
    have f0 : FRI _ _ _ (sI S v0 2 x3) := fri_sI g0 f0 o_v0 (by decide)
    have d_x1 : x1 = fI (sI S v0 2 x3) v0 0 := d_x1.trans (rd_j (by decide)).symm
    have d_x3 : x3 = fI (sI S v0 2 x3) v0 2 := (u2_self _ _ _ _).symm
    intro x4 ex4
    have hI := iv_sI (j := 3) (v := x4) hI o_v0 (by decide) (nu_free (by decide))
    have f0 : FRI _ _ _ (sI (sI S v0 2 x3) v0 3 x4) := fri_sI g0 f0 o_v0 (by decide)
    have d_x1 : x1 = fI (sI (sI S v0 2 x3) v0 3 x4) v0 0 := d_x1.trans (rd_j (by decide)).symm
    have d_x3 : x3 = fI (sI (sI S v0 2 x3) v0 3 x4) v0 2 := d_x3.trans (rd_j (by decide)).symm
    have d_x4 : x4 = fI (sI (sI S v0 2 x3) v0 3 x4) v0 3 := (u2_self _ _ _ _).symm
    intro x5 ex5
    have hI := iv_sI (j := 4) (v := x5) hI o_v0 (by decide) (nu_free (by decide))
    have f0 : FRI _ _ _ (sI (sI (sI S v0 2 x3) v0 3 x4) v0 4 x5) := fri_sI g0 f0 o_v0 (by decide)
    have d_x1 : x1 = fI (sI (sI (sI S v0 2 x3) v0 3 x4) v0 4 x5) v0 0 := d_x1.trans (rd_j (by decide)).symm
    have d_x3 : x3 = fI (sI (sI (sI S v0 2 x3) v0 3 x4) v0 4 x5) v0 2 := d_x3.trans (rd_j (by decide)).symm
    have d_x4 : x4 = fI (sI (sI (sI S v0 2 x3) v0 3 x4) v0 4 x5) v0 3 := d_x4.trans (rd_j (by decide)).symm
    have d_x5 : x5 = fI (sI (sI (sI S v0 2 x3) v0 3 x4) v0 4 x5) v0 4 := (u2_self _ _ _ _).symm
    exact hq _ hI g0 f0
  · intro x6 ex6
    have d_x6 := ex6
    refine u_X6_shape_16 ?_
    refine ⟨o_v0, ?_⟩
    intro x7 ex7
    have hI := iv_sI (j := 2) (v := x7) hI o_v0 (by decide) (nu_free (by decide))
    have f0 : FRI _ _ _ (sI S v0 2 x7) := fri_sI g0 f0 o_v0 (by decide)
    have d_x1 : x1 = fI (sI S v0 2 x7) v0 0 := d_x1.trans (rd_j (by decide)).symm
    have d_x6 : x6 = fI (sI S v0 2 x7) v0 1 := d_x6.trans (rd_j (by decide)).symm
    have d_x7 : x7 = fI (sI S v0 2 x7) v0 2 := (u2_self _ _ _ _).symm
    intro x8 ex8
    have hI := iv_sI (j := 3) (v := x8) hI o_v0 (by decide) (nu_free (by decide))
    have f0 : FRI _ _ _ (sI (sI S v0 2 x7) v0 3 x8) := fri_sI g0 f0 o_v0 (by decide)
    have d_x1 : x1 = fI (sI (sI S v0 2 x7) v0 3 x8) v0 0 := d_x1.trans (rd_j (by decide)).symm
    have d_x6 : x6 = fI (sI (sI S v0 2 x7) v0 3 x8) v0 1 := d_x6.trans (rd_j (by decide)).symm
    have d_x7 : x7 = fI (sI (sI S v0 2 x7) v0 3 x8) v0 2 := d_x7.trans (rd_j (by decide)).symm
    have d_x8 : x8 = fI (sI (sI S v0 2 x7) v0 3 x8) v0 3 := (u2_self _ _ _ _).symm
    intro x9 ex9
    have hI := iv_sI (j := 4) (v := x9) hI o_v0 (by decide) (nu_free (by decide))
    have f0 : FRI _ _ _ (sI (sI (sI S v0 2 x7) v0 3 x8) v0 4 x9) := fri_sI g0 f0 o_v0 (by decide)
    have d_x1 : x1 = fI (sI (sI (sI S v0 2 x7) v0 3 x8) v0 4 x9) v0 0 := d_x1.trans (rd_j (by decide)).symm
    have d_x6 : x6 = fI (sI (sI (sI S v0 2 x7) v0 3 x8) v0 4 x9) v0 1 := d_x6.trans (rd_j (by decide)).symm
    have d_x7 : x7 = fI (sI (sI (sI S v0 2 x7) v0 3 x8) v0 4 x9) v0 2 := d_x7.trans (rd_j (by decide)).symm
    have d_x8 : x8 = fI (sI (sI (sI S v0 2 x7) v0 3 x8) v0 4 x9) v0 3 := d_x8.trans (rd_j (by decide)).symm
    have d_x9 : x9 = fI (sI (sI (sI S v0 2 x7) v0 3 x8) v0 4 x9) v0 4 := (u2_self _ _ _ _).symm
    exact hq _ hI g0 f0
set_option maxHeartbeats 4000000 in
set_option maxRecDepth 20000 in
theorem m_X4_bodyOf {v0 : Nat} {v1 : Nat} {Q : Int32 → HS → Prop} {S : HS} (hI : IV S) (o_v0 : ob S v0 4) (o_v1 : ob S v1 6)    (hT : TX S v0) (hq : ∀ (r : Int32) (T : HS), IV T → Gr S T → FRI [(4, 0), (4, 1), (4, 4), (4, 6), (4, 7), (4, 9), (6, 2), (6, 3), (6, 4)] [] S T → bl r → (TX T v0) → Q r T) : P_X4_bodyOf v0 v1 Q S := by
  have g0 := gr_rf S
  have f0 := fri_rf [(4, 0), (4, 1), (4, 4), (4, 6), (4, 7), (4, 9), (6, 2), (6, 3), (6, 4)] [] S
  refine u_X4_bodyOf ?_
  refine u_X4_bodyOf_0 ?_
  refine ⟨o_v0, ?_⟩
  refine m_X4_wordAndWhole hI o_v0 (by decide) hT (fun x1 S2 hI g3 fc4 b_x1 p_x1 => ?_)
  obtain ⟨hT, pf9_S2⟩ := p_x1
  have f0 := fri_tr g0 f0 fc4 (by decide) (by decide)
  have o_v0 := gr_ob g3 o_v0
  have o_v1 := gr_ob g3 o_v1
  have g0 := gr_tr g0 g3
  obtain ⟨y5, d_y5⟩ : ∃ z : Int32, z = fI S2 v0 9 := ⟨_, rfl⟩
  have p_y5 : x1 = 1 → (1 : Int32) ≤ y5 ∧ y5 ≤ (9 : Int32) := by rw [d_y5]; exact pf9_S2
  intro _ _
  have bb_x1 : x1 = 0 ∨ x1 = 1 := b_x1
  refine ⟨fun c6 => ?_, fun c6 => ?_⟩
  · intro x7 ex7
    have q_x7 : x7 = y5 := ex7.trans d_y5.symm
    have d_x7 := ex7
    refine m_X4_wordAndWhole hI o_v0 (by decide) hT (fun x8 S9 hI g10 fc11 b_x8 p_x8 => ?_)
    obtain ⟨hT, pf9_S9⟩ := p_x8
    have f0 := fri_tr g0 f0 fc11 (by decide) (by decide)
    have o_v0 := gr_ob g10 o_v0
    have o_v1 := gr_ob g10 o_v1
    have g0 := gr_tr g0 g10
    obtain ⟨y12, d_y12⟩ : ∃ z : Int32, z = fI S9 v0 9 := ⟨_, rfl⟩
    have p_y12 : x8 = 1 → (1 : Int32) ≤ y12 ∧ y12 ≤ (9 : Int32) := by rw [d_y12]; exact pf9_S9
    intro _ _
    have bb_x8 : x8 = 0 ∨ x8 = 1 := b_x8
    refine ⟨fun c13 => ?_, fun c13 => ?_⟩
    · intro x14 ex14
      have q_x14 : x14 = y12 := ex14.trans d_y12.symm
      have d_x14 := ex14
      refine ⟨o_v1, ?_⟩
      intro x15 ex15
      have d_x15 := ex15
      refine ⟨fun c16 => ?_, fun c16 => ?_⟩
      · refine u_X4_bodyOf_58 ?_
        refine ⟨o_v0, ?_⟩
        refine m_X4_wordAndWhole hI o_v0 (by decide) hT (fun x17 S18 hI g19 fc20 b_x17 p_x17 => ?_)
        obtain ⟨hT, pf9_S18⟩ := p_x17
        have d_x15 := d_x15.trans (fri_at fc20 (by decide) (by decide) o_v1).symm
        have f0 := fri_tr g0 f0 fc20 (by decide) (by decide)
        have o_v0 := gr_ob g19 o_v0
        have o_v1 := gr_ob g19 o_v1
        have g0 := gr_tr g0 g19
        obtain ⟨y21, d_y21⟩ : ∃ z : Int32, z = fI S18 v0 9 := ⟨_, rfl⟩
        have p_y21 : x17 = 1 → (1 : Int32) ≤ y21 ∧ y21 ≤ (9 : Int32) := by rw [d_y21]; exact pf9_S18
        intro _ _
        have bb_x17 : x17 = 0 ∨ x17 = 1 := b_x17
        refine ⟨fun c22 => ?_, fun c22 => ?_⟩
        · intro x23 ex23
          have q_x23 : x23 = y21 := ex23.trans d_y21.symm
          have d_x23 := ex23
          refine ⟨o_v1, ?_⟩
          refine u_X6_shape ?_
          refine u_X6_shape_0 ?_
          refine ⟨o_v1, ?_⟩
          intro x24 ex24
          have q_x24 : x24 = x15 := ex24.trans d_x15.symm
          have d_x24 := ex24
          refine ⟨fun c25 => ?_, fun c25 => ?_⟩
          · refine u_X6_shape_16 ?_
            refine ⟨o_v1, ?_⟩
            intro x26 ex26
            have hI := iv_sI (j := 2) (v := x26) hI o_v1 (by decide) (nu_free (by decide))
            have f0 : FRI _ _ _ (sI S18 v1 2 x26) := fri_sI g0 f0 o_v1 (by decide)
            have d_x24 : x24 = fI (sI S18 v1 2 x26) v1 0 := d_x24.trans (rd_j (by decide)).symm
            have d_x23 : x23 = fI (sI S18 v1 2 x26) v0 9 := d_x23.trans (sI_ne o_v1 o_v0 (by decide) 9).symm
            have d_x26 : x26 = fI (sI S18 v1 2 x26) v1 2 := (u2_self _ _ _ _).symm
            intro x27 ex27
            have hI := iv_sI (j := 3) (v := x27) hI o_v1 (by decide) (nu_free (by decide))
            have f0 : FRI _ _ _ (sI (sI S18 v1 2 x26) v1 3 x27) := fri_sI g0 f0 o_v1 (by decide)
            have d_x24 : x24 = fI (sI (sI S18 v1 2 x26) v1 3 x27) v1 0 := d_x24.trans (rd_j (by decide)).symm
            have d_x23 : x23 = fI (sI (sI S18 v1 2 x26) v1 3 x27) v0 9 := d_x23.trans (sI_ne o_v1 o_v0 (by decide) 9).symm
            have d_x26 : x26 = fI (sI (sI S18 v1 2 x26) v1 3 x27) v1 2 := d_x26.trans (rd_j (by decide)).symm
            have d_x27 : x27 = fI (sI (sI S18 v1 2 x26) v1 3 x27) v1 3 := (u2_self _ _ _ _).symm
            intro x28 ex28
            have hI := iv_sI (j := 4) (v := x28) hI o_v1 (by decide) (nu_free (by decide))
            have f0 : FRI _ _ _ (sI (sI (sI S18 v1 2 x26) v1 3 x27) v1 4 x28) := fri_sI g0 f0 o_v1 (by decide)
            have d_x24 : x24 = fI (sI (sI (sI S18 v1 2 x26) v1 3 x27) v1 4 x28) v1 0 := d_x24.trans (rd_j (by decide)).symm
            have d_x23 : x23 = fI (sI (sI (sI S18 v1 2 x26) v1 3 x27) v1 4 x28) v0 9 := d_x23.trans (sI_ne o_v1 o_v0 (by decide) 9).symm
            have d_x26 : x26 = fI (sI (sI (sI S18 v1 2 x26) v1 3 x27) v1 4 x28) v1 2 := d_x26.trans (rd_j (by decide)).symm
            have d_x27 : x27 = fI (sI (sI (sI S18 v1 2 x26) v1 3 x27) v1 4 x28) v1 3 := d_x27.trans (rd_j (by decide)).symm
            have d_x28 : x28 = fI (sI (sI (sI S18 v1 2 x26) v1 3 x27) v1 4 x28) v1 4 := (u2_self _ _ _ _).symm
            intro _
            exact hq _ _ hI g0 f0 (Or.inr rfl) hT
          · intro x29 ex29
            have d_x29 := ex29
            refine u_X6_shape_16 ?_
            refine ⟨o_v1, ?_⟩
            intro x30 ex30
            have hI := iv_sI (j := 2) (v := x30) hI o_v1 (by decide) (nu_free (by decide))
            have f0 : FRI _ _ _ (sI S18 v1 2 x30) := fri_sI g0 f0 o_v1 (by decide)
            have d_x24 : x24 = fI (sI S18 v1 2 x30) v1 0 := d_x24.trans (rd_j (by decide)).symm
            have d_x23 : x23 = fI (sI S18 v1 2 x30) v0 9 := d_x23.trans (sI_ne o_v1 o_v0 (by decide) 9).symm
            have d_x29 : x29 = fI (sI S18 v1 2 x30) v1 1 := d_x29.trans (rd_j (by decide)).symm
            have d_x30 : x30 = fI (sI S18 v1 2 x30) v1 2 := (u2_self _ _ _ _).symm
            intro x31 ex31
            have hI := iv_sI (j := 3) (v := x31) hI o_v1 (by decide) (nu_free (by decide))
            have f0 : FRI _ _ _ (sI (sI S18 v1 2 x30) v1 3 x31) := fri_sI g0 f0 o_v1 (by decide)
            have d_x24 : x24 = fI (sI (sI S18 v1 2 x30) v1 3 x31) v1 0 := d_x24.trans (rd_j (by decide)).symm
            have d_x23 : x23 = fI (sI (sI S18 v1 2 x30) v1 3 x31) v0 9 := d_x23.trans (sI_ne o_v1 o_v0 (by decide) 9).symm
            have d_x29 : x29 = fI (sI (sI S18 v1 2 x30) v1 3 x31) v1 1 := d_x29.trans (rd_j (by decide)).symm
            have d_x30 : x30 = fI (sI (sI S18 v1 2 x30) v1 3 x31) v1 2 := d_x30.trans (rd_j (by decide)).symm
            have d_x31 : x31 = fI (sI (sI S18 v1 2 x30) v1 3 x31) v1 3 := (u2_self _ _ _ _).symm
            intro x32 ex32
            have hI := iv_sI (j := 4) (v := x32) hI o_v1 (by decide) (nu_free (by decide))
            have f0 : FRI _ _ _ (sI (sI (sI S18 v1 2 x30) v1 3 x31) v1 4 x32) := fri_sI g0 f0 o_v1 (by decide)
            have d_x24 : x24 = fI (sI (sI (sI S18 v1 2 x30) v1 3 x31) v1 4 x32) v1 0 := d_x24.trans (rd_j (by decide)).symm
            have d_x23 : x23 = fI (sI (sI (sI S18 v1 2 x30) v1 3 x31) v1 4 x32) v0 9 := d_x23.trans (sI_ne o_v1 o_v0 (by decide) 9).symm
            have d_x29 : x29 = fI (sI (sI (sI S18 v1 2 x30) v1 3 x31) v1 4 x32) v1 1 := d_x29.trans (rd_j (by decide)).symm
            have d_x30 : x30 = fI (sI (sI (sI S18 v1 2 x30) v1 3 x31) v1 4 x32) v1 2 := d_x30.trans (rd_j (by decide)).symm
            have d_x31 : x31 = fI (sI (sI (sI S18 v1 2 x30) v1 3 x31) v1 4 x32) v1 3 := d_x31.trans (rd_j (by decide)).symm
            have d_x32 : x32 = fI (sI (sI (sI S18 v1 2 x30) v1 3 x31) v1 4 x32) v1 4 := (u2_self _ _ _ _).symm
            intro _
            exact hq _ _ hI g0 f0 (Or.inr rfl) hT
        · exact hq _ _ hI g0 f0 (Or.inl rfl) hT
      · intro x33 ex33
        have d_x33 := ex33
        refine u_X4_bodyOf_58 ?_
        intro x34 ex34
        refine ⟨o_v0, ?_⟩
        refine m_X4_wordAndWhole hI o_v0 (by decide) hT (fun x35 S36 hI g37 fc38 b_x35 p_x35 => ?_)
        obtain ⟨hT, pf9_S36⟩ := p_x35
        have d_x15 := d_x15.trans (fri_at fc38 (by decide) (by decide) o_v1).symm
        have d_x33 := d_x33.trans (fri_at fc38 (by decide) (by decide) o_v1).symm
        have f0 := fri_tr g0 f0 fc38 (by decide) (by decide)
        have o_v0 := gr_ob g37 o_v0
        have o_v1 := gr_ob g37 o_v1
        have g0 := gr_tr g0 g37
        obtain ⟨y39, d_y39⟩ : ∃ z : Int32, z = fI S36 v0 9 := ⟨_, rfl⟩
        have p_y39 : x35 = 1 → x34 ≤ y39 ∧ y39 ≤ (9 : Int32) := by rw [d_y39]; exact pf9_S36
        intro _ _
        have bb_x35 : x35 = 0 ∨ x35 = 1 := b_x35
        refine ⟨fun c40 => ?_, fun c40 => ?_⟩
        · intro x41 ex41
          have q_x41 : x41 = y39 := ex41.trans d_y39.symm
          have d_x41 := ex41
          refine ⟨o_v1, ?_⟩
          refine u_X6_shape ?_
          refine u_X6_shape_0 ?_
          refine ⟨o_v1, ?_⟩
          intro x42 ex42
          have q_x42 : x42 = x15 := ex42.trans d_x15.symm
          have d_x42 := ex42
          refine ⟨fun c43 => ?_, fun c43 => ?_⟩
          · refine u_X6_shape_16 ?_
            refine ⟨o_v1, ?_⟩
            intro x44 ex44
            have hI := iv_sI (j := 2) (v := x44) hI o_v1 (by decide) (nu_free (by decide))
            have f0 : FRI _ _ _ (sI S36 v1 2 x44) := fri_sI g0 f0 o_v1 (by decide)
            have d_x42 : x42 = fI (sI S36 v1 2 x44) v1 0 := d_x42.trans (rd_j (by decide)).symm
            have d_x33 : x33 = fI (sI S36 v1 2 x44) v1 1 := d_x33.trans (rd_j (by decide)).symm
            have d_x41 : x41 = fI (sI S36 v1 2 x44) v0 9 := d_x41.trans (sI_ne o_v1 o_v0 (by decide) 9).symm
            have d_x44 : x44 = fI (sI S36 v1 2 x44) v1 2 := (u2_self _ _ _ _).symm
            intro x45 ex45
            have hI := iv_sI (j := 3) (v := x45) hI o_v1 (by decide) (nu_free (by decide))
            have f0 : FRI _ _ _ (sI (sI S36 v1 2 x44) v1 3 x45) := fri_sI g0 f0 o_v1 (by decide)
            have d_x42 : x42 = fI (sI (sI S36 v1 2 x44) v1 3 x45) v1 0 := d_x42.trans (rd_j (by decide)).symm
            have d_x33 : x33 = fI (sI (sI S36 v1 2 x44) v1 3 x45) v1 1 := d_x33.trans (rd_j (by decide)).symm
            have d_x41 : x41 = fI (sI (sI S36 v1 2 x44) v1 3 x45) v0 9 := d_x41.trans (sI_ne o_v1 o_v0 (by decide) 9).symm
            have d_x44 : x44 = fI (sI (sI S36 v1 2 x44) v1 3 x45) v1 2 := d_x44.trans (rd_j (by decide)).symm
            have d_x45 : x45 = fI (sI (sI S36 v1 2 x44) v1 3 x45) v1 3 := (u2_self _ _ _ _).symm
            intro x46 ex46
            have hI := iv_sI (j := 4) (v := x46) hI o_v1 (by decide) (nu_free (by decide))
            have f0 : FRI _ _ _ (sI (sI (sI S36 v1 2 x44) v1 3 x45) v1 4 x46) := fri_sI g0 f0 o_v1 (by decide)
            have d_x42 : x42 = fI (sI (sI (sI S36 v1 2 x44) v1 3 x45) v1 4 x46) v1 0 := d_x42.trans (rd_j (by decide)).symm
            have d_x33 : x33 = fI (sI (sI (sI S36 v1 2 x44) v1 3 x45) v1 4 x46) v1 1 := d_x33.trans (rd_j (by decide)).symm
            have d_x41 : x41 = fI (sI (sI (sI S36 v1 2 x44) v1 3 x45) v1 4 x46) v0 9 := d_x41.trans (sI_ne o_v1 o_v0 (by decide) 9).symm
            have d_x44 : x44 = fI (sI (sI (sI S36 v1 2 x44) v1 3 x45) v1 4 x46) v1 2 := d_x44.trans (rd_j (by decide)).symm
            have d_x45 : x45 = fI (sI (sI (sI S36 v1 2 x44) v1 3 x45) v1 4 x46) v1 3 := d_x45.trans (rd_j (by decide)).symm
            have d_x46 : x46 = fI (sI (sI (sI S36 v1 2 x44) v1 3 x45) v1 4 x46) v1 4 := (u2_self _ _ _ _).symm
            intro _
            exact hq _ _ hI g0 f0 (Or.inr rfl) hT
          · intro x47 ex47
            have q_x47 : x47 = x33 := ex47.trans d_x33.symm
            have d_x47 := ex47
            refine u_X6_shape_16 ?_
            refine ⟨o_v1, ?_⟩
            intro x48 ex48
            have hI := iv_sI (j := 2) (v := x48) hI o_v1 (by decide) (nu_free (by decide))
            have f0 : FRI _ _ _ (sI S36 v1 2 x48) := fri_sI g0 f0 o_v1 (by decide)
            have d_x42 : x42 = fI (sI S36 v1 2 x48) v1 0 := d_x42.trans (rd_j (by decide)).symm
            have d_x47 : x47 = fI (sI S36 v1 2 x48) v1 1 := d_x47.trans (rd_j (by decide)).symm
            have d_x41 : x41 = fI (sI S36 v1 2 x48) v0 9 := d_x41.trans (sI_ne o_v1 o_v0 (by decide) 9).symm
            have d_x48 : x48 = fI (sI S36 v1 2 x48) v1 2 := (u2_self _ _ _ _).symm
            intro x49 ex49
            have hI := iv_sI (j := 3) (v := x49) hI o_v1 (by decide) (nu_free (by decide))
            have f0 : FRI _ _ _ (sI (sI S36 v1 2 x48) v1 3 x49) := fri_sI g0 f0 o_v1 (by decide)
            have d_x42 : x42 = fI (sI (sI S36 v1 2 x48) v1 3 x49) v1 0 := d_x42.trans (rd_j (by decide)).symm
            have d_x47 : x47 = fI (sI (sI S36 v1 2 x48) v1 3 x49) v1 1 := d_x47.trans (rd_j (by decide)).symm
            have d_x41 : x41 = fI (sI (sI S36 v1 2 x48) v1 3 x49) v0 9 := d_x41.trans (sI_ne o_v1 o_v0 (by decide) 9).symm
            have d_x48 : x48 = fI (sI (sI S36 v1 2 x48) v1 3 x49) v1 2 := d_x48.trans (rd_j (by decide)).symm
            have d_x49 : x49 = fI (sI (sI S36 v1 2 x48) v1 3 x49) v1 3 := (u2_self _ _ _ _).symm
            intro x50 ex50
            have hI := iv_sI (j := 4) (v := x50) hI o_v1 (by decide) (nu_free (by decide))
            have f0 : FRI _ _ _ (sI (sI (sI S36 v1 2 x48) v1 3 x49) v1 4 x50) := fri_sI g0 f0 o_v1 (by decide)
            have d_x42 : x42 = fI (sI (sI (sI S36 v1 2 x48) v1 3 x49) v1 4 x50) v1 0 := d_x42.trans (rd_j (by decide)).symm
            have d_x47 : x47 = fI (sI (sI (sI S36 v1 2 x48) v1 3 x49) v1 4 x50) v1 1 := d_x47.trans (rd_j (by decide)).symm
            have d_x41 : x41 = fI (sI (sI (sI S36 v1 2 x48) v1 3 x49) v1 4 x50) v0 9 := d_x41.trans (sI_ne o_v1 o_v0 (by decide) 9).symm
            have d_x48 : x48 = fI (sI (sI (sI S36 v1 2 x48) v1 3 x49) v1 4 x50) v1 2 := d_x48.trans (rd_j (by decide)).symm
            have d_x49 : x49 = fI (sI (sI (sI S36 v1 2 x48) v1 3 x49) v1 4 x50) v1 3 := d_x49.trans (rd_j (by decide)).symm
            have d_x50 : x50 = fI (sI (sI (sI S36 v1 2 x48) v1 3 x49) v1 4 x50) v1 4 := (u2_self _ _ _ _).symm
            intro _
            exact hq _ _ hI g0 f0 (Or.inr rfl) hT
        · exact hq _ _ hI g0 f0 (Or.inl rfl) hT
    · exact hq _ _ hI g0 f0 (Or.inl rfl) hT
  · exact hq _ _ hI g0 f0 (Or.inl rfl) hT
set_option maxHeartbeats 4000000 in
set_option maxRecDepth 20000 in
theorem m_X4_canBeName {v0 : Nat} {Q : Int32 → HS → Prop} {S : HS} (hI : IV S) (o_v0 : ob S v0 4)    (hT : TX S v0) (hq : ∀ (r : Int32) (T : HS), IV T → Gr S T → bl r → (S = T) → Q r T) : P_X4_canBeName v0 Q S := by
  have g0 := gr_rf S
  refine u_X4_canBeName ?_
  refine u_X4_canBeName_0 ?_
  refine ⟨o_v0, ?_⟩
  refine m_X4_is hI o_v0 (by decide) hT (fun x1 S2 hI2 g3 b_x1 p_x1 => ?_)
  subst p_x1
  intro _ _
  have bb_x1 : x1 = 0 ∨ x1 = 1 := b_x1
  refine ⟨fun c5 => ?_, fun c5 => ?_⟩
  · refine u_X4_canBeName_81 ?_
    refine u_X4_canBeName_86 ?_
    refine ⟨o_v0, ?_⟩
    intro x6 ex6
    have d_x6 := ex6
    refine ⟨fun c7 => ?_, fun c7 => ?_⟩
    · exact hq _ _ hI g0 (Or.inl rfl) rfl
    · refine ⟨fun c8 => ?_, fun c8 => ?_⟩
      · exact hq _ _ hI g0 (Or.inl rfl) rfl
      · exact hq _ _ hI g0 (Or.inr rfl) rfl
  · refine m_X4_is hI o_v0 (by decide) hT (fun x9 S10 hI2 g11 b_x9 p_x9 => ?_)
    subst p_x9
    intro _ _
    have bb_x9 : x9 = 0 ∨ x9 = 1 := b_x9
    refine ⟨fun c13 => ?_, fun c13 => ?_⟩
    · refine u_X4_canBeName_81 ?_
      refine u_X4_canBeName_86 ?_
      refine ⟨o_v0, ?_⟩
      intro x14 ex14
      have d_x14 := ex14
      refine ⟨fun c15 => ?_, fun c15 => ?_⟩
      · exact hq _ _ hI g0 (Or.inl rfl) rfl
      · refine ⟨fun c16 => ?_, fun c16 => ?_⟩
        · exact hq _ _ hI g0 (Or.inl rfl) rfl
        · exact hq _ _ hI g0 (Or.inr rfl) rfl
    · refine m_X4_is hI o_v0 (by decide) hT (fun x17 S18 hI2 g19 b_x17 p_x17 => ?_)
      subst p_x17
      intro _ _
      have bb_x17 : x17 = 0 ∨ x17 = 1 := b_x17
      refine ⟨fun c21 => ?_, fun c21 => ?_⟩
      · refine u_X4_canBeName_81 ?_
        refine u_X4_canBeName_86 ?_
        refine ⟨o_v0, ?_⟩
        intro x22 ex22
        have d_x22 := ex22
        refine ⟨fun c23 => ?_, fun c23 => ?_⟩
        · exact hq _ _ hI g0 (Or.inl rfl) rfl
        · refine ⟨fun c24 => ?_, fun c24 => ?_⟩
          · exact hq _ _ hI g0 (Or.inl rfl) rfl
          · exact hq _ _ hI g0 (Or.inr rfl) rfl
      · refine m_X4_is hI o_v0 (by decide) hT (fun x25 S26 hI2 g27 b_x25 p_x25 => ?_)
        subst p_x25
        intro _ _
        have bb_x25 : x25 = 0 ∨ x25 = 1 := b_x25
        refine ⟨fun c29 => ?_, fun c29 => ?_⟩
        · refine u_X4_canBeName_81 ?_
          refine u_X4_canBeName_86 ?_
          refine ⟨o_v0, ?_⟩
          intro x30 ex30
          have d_x30 := ex30
          refine ⟨fun c31 => ?_, fun c31 => ?_⟩
          · exact hq _ _ hI g0 (Or.inl rfl) rfl
          · refine ⟨fun c32 => ?_, fun c32 => ?_⟩
            · exact hq _ _ hI g0 (Or.inl rfl) rfl
            · exact hq _ _ hI g0 (Or.inr rfl) rfl
        · refine m_X4_is hI o_v0 (by decide) hT (fun x33 S34 hI2 g35 b_x33 p_x33 => ?_)
          subst p_x33
          intro _ _
          have bb_x33 : x33 = 0 ∨ x33 = 1 := b_x33
          refine ⟨fun c37 => ?_, fun c37 => ?_⟩
          · refine u_X4_canBeName_81 ?_
            refine u_X4_canBeName_86 ?_
            refine ⟨o_v0, ?_⟩
            intro x38 ex38
            have d_x38 := ex38
            refine ⟨fun c39 => ?_, fun c39 => ?_⟩
            · exact hq _ _ hI g0 (Or.inl rfl) rfl
            · refine ⟨fun c40 => ?_, fun c40 => ?_⟩
              · exact hq _ _ hI g0 (Or.inl rfl) rfl
              · exact hq _ _ hI g0 (Or.inr rfl) rfl
          · refine m_X4_is hI o_v0 (by decide) hT (fun x41 S42 hI2 g43 b_x41 p_x41 => ?_)
            subst p_x41
            intro _ _
            have bb_x41 : x41 = 0 ∨ x41 = 1 := b_x41
            refine ⟨fun c45 => ?_, fun c45 => ?_⟩
            · refine u_X4_canBeName_81 ?_
              refine u_X4_canBeName_86 ?_
              refine ⟨o_v0, ?_⟩
              intro x46 ex46
              have d_x46 := ex46
              refine ⟨fun c47 => ?_, fun c47 => ?_⟩
              · exact hq _ _ hI g0 (Or.inl rfl) rfl
              · refine ⟨fun c48 => ?_, fun c48 => ?_⟩
                · exact hq _ _ hI g0 (Or.inl rfl) rfl
                · exact hq _ _ hI g0 (Or.inr rfl) rfl
            · refine m_X4_is hI o_v0 (by decide) hT (fun x49 S50 hI2 g51 b_x49 p_x49 => ?_)
              subst p_x49
              intro _ _
              have bb_x49 : x49 = 0 ∨ x49 = 1 := b_x49
              refine ⟨fun c53 => ?_, fun c53 => ?_⟩
              · refine u_X4_canBeName_81 ?_
                refine u_X4_canBeName_86 ?_
                refine ⟨o_v0, ?_⟩
                intro x54 ex54
                have d_x54 := ex54
                refine ⟨fun c55 => ?_, fun c55 => ?_⟩
                · exact hq _ _ hI g0 (Or.inl rfl) rfl
                · refine ⟨fun c56 => ?_, fun c56 => ?_⟩
                  · exact hq _ _ hI g0 (Or.inl rfl) rfl
                  · exact hq _ _ hI g0 (Or.inr rfl) rfl
              · refine m_X4_is hI o_v0 (by decide) hT (fun x57 S58 hI2 g59 b_x57 p_x57 => ?_)
                subst p_x57
                intro _ _
                have bb_x57 : x57 = 0 ∨ x57 = 1 := b_x57
                refine ⟨fun c61 => ?_, fun c61 => ?_⟩
                · refine u_X4_canBeName_81 ?_
                  refine u_X4_canBeName_86 ?_
                  refine ⟨o_v0, ?_⟩
                  intro x62 ex62
                  have d_x62 := ex62
                  refine ⟨fun c63 => ?_, fun c63 => ?_⟩
                  · exact hq _ _ hI g0 (Or.inl rfl) rfl
                  · refine ⟨fun c64 => ?_, fun c64 => ?_⟩
                    · exact hq _ _ hI g0 (Or.inl rfl) rfl
                    · exact hq _ _ hI g0 (Or.inr rfl) rfl
                · refine m_X4_is hI o_v0 (by decide) hT (fun x65 S66 hI2 g67 b_x65 p_x65 => ?_)
                  subst p_x65
                  intro _ _
                  have bb_x65 : x65 = 0 ∨ x65 = 1 := b_x65
                  refine ⟨fun c69 => ?_, fun c69 => ?_⟩
                  · refine u_X4_canBeName_86 ?_
                    refine ⟨o_v0, ?_⟩
                    intro x70 ex70
                    have d_x70 := ex70
                    refine ⟨fun c71 => ?_, fun c71 => ?_⟩
                    · exact hq _ _ hI g0 (Or.inl rfl) rfl
                    · refine ⟨fun c72 => ?_, fun c72 => ?_⟩
                      · exact hq _ _ hI g0 (Or.inl rfl) rfl
                      · exact hq _ _ hI g0 (Or.inr rfl) rfl
                  · refine u_X4_canBeName_81 ?_
                    refine u_X4_canBeName_86 ?_
                    refine ⟨o_v0, ?_⟩
                    intro x73 ex73
                    have d_x73 := ex73
                    refine ⟨fun c74 => ?_, fun c74 => ?_⟩
                    · exact hq _ _ hI g0 (Or.inl rfl) rfl
                    · refine ⟨fun c75 => ?_, fun c75 => ?_⟩
                      · exact hq _ _ hI g0 (Or.inl rfl) rfl
                      · exact hq _ _ hI g0 (Or.inr rfl) rfl
set_option maxHeartbeats 4000000 in
set_option maxRecDepth 20000 in
theorem m_X4_exchange {v0 : Nat} {v1 : Nat} {Q : Nat → HS → Prop} {S : HS} (hI : IV S) (o_v0 : ob S v0 4) (o_v1 : ob S v1 8)     (hq : ∀ (r : Nat) (T : HS), IV T → Gr S T → FRI [] [(4, 5)] S T → ob T r 8 → Q r T) : P_X4_exchange v0 v1 Q S := by
  have g0 := gr_rf S
  have f0 := fri_rf [] [(4, 5)] S
  refine u_X4_exchange ?_
  refine u_X4_exchange_0 ?_
  refine ⟨o_v0, ?_⟩
  obtain ⟨a1, ea1, o_a1, -⟩ := sh 12 rfl hI o_v0
  refine ⟨a1, ea1, ?_⟩
  have hI := iv_sR (j := 5) (v := v1) hI o_v0 (by decide) (by decide) (sh_one (by decide) ⟨o_v1, Or.inl rfl⟩)
  have f0 : FRI _ _ _ (sR S v0 5 (some v1)) := fri_sR g0 f0 o_v0 (by decide)
  exact hq _ _ hI g0 f0 o_a1
set_option maxHeartbeats 4000000 in
set_option maxRecDepth 20000 in
theorem m_X4_findName {v0 : Nat} {Q : Int32 → HS → Prop} {S : HS} (hI : IV S) (o_v0 : ob S v0 4)    (hT : TX S v0) (hq : ∀ (r : Int32) (T : HS), IV T → Gr S T → (S = T) → Q r T) : P_X4_findName v0 Q S := by
  have g0 := gr_rf S
  refine u_X4_findName ?_
  refine u_X4_findName_0 ?_
  refine i_X4_findName_2 (fun (y0 : Nat) (y1 : Int32) (Z : HS) => ((2147483647 : Int32).toInt - y1.toInt).toNat) (fun (y0 : Nat) (y1 : Int32) (Z : HS) => (S = Z) ∧ (v0 = y0) ∧ (0 ≤ y1)) ?_ _ _ _ ⟨rfl, rfl, (q82)⟩
  intro w4 w6 S1 X7 ⟨eS1, q5, i1⟩ ih8
  subst q5
  subst eS1
  refine u_X4_findName_2 ?_
  refine ⟨o_v0, ?_⟩
  intro x9 ex9
  have r_x9 : (0 : Int32) ≤ x9 ∧ x9 ≤ (12 : Int32) := by rw [ex9]; exact nu 7 rfl hI o_v0
  have d_x9 := ex9
  refine ⟨fun c10 => ?_, fun c10 => ?_⟩
  · exact hq _ _ hI g0 rfl
  · refine ⟨fun c11 => ?_, fun c11 => ?_⟩
    · exact hq _ _ hI g0 rfl
    · obtain ⟨a12, ea12, o_a12, l_a12⟩ := shl 13 rfl hI o_v0
      refine ⟨a12, ea12, ?_⟩
      refine ⟨o_a12, ?_⟩
      refine ⟨(vin l_a12 (m := 12) (by decide) (q721 i1 r_x9 c10 c11)), ?_⟩
      intro x13 ex13
      intro x14 ex14
      have dj_x14 := ex14
      refine ⟨fun c15 => ?_, fun c15 => ?_⟩
      · intro x16 ex16
        exact ih8 _ _ _ ⟨rfl, rfl, (q722 i1 r_x9 c10 c11 c15 ex16)⟩ (mu_up (q723 i1 r_x9 c10 c11 c15 ex16) (q724 i1 r_x9 c10 c11 c15 ex16))
      · obtain ⟨a17, ea17, o_a17, l_a17⟩ := shl 14 rfl hI o_v0
        refine ⟨a17, ea17, ?_⟩
        refine ⟨o_a17, ?_⟩
        refine ⟨(vin l_a17 (m := 12) (by decide) (q725 i1 r_x9 c10 c11 c15)), ?_⟩
        intro x18 ex18
        exact hq _ _ hI g0 rfl
set_option maxHeartbeats 4000000 in
set_option maxRecDepth 20000 in
theorem m_X8_isTold {v0 : Nat} {Q : Int32 → HS → Prop} {S : HS} (hI : IV S) (o_v0 : ob S v0 8)     (hq : ∀ (r : Int32) (T : HS), IV T → Gr S T → bl r → (S = T) → Q r T) : P_X8_isTold v0 Q S := by
  have g0 := gr_rf S
  refine u_X8_isTold ?_
  refine u_X8_isTold_0 ?_
  refine ⟨o_v0, ?_⟩
  intro x1 ex1
  have r_x1 : (0 : Int32) ≤ x1 ∧ x1 ≤ (60 : Int32) := by rw [ex1]; exact nu 10 rfl hI o_v0
  have d_x1 := ex1
  refine ⟨fun c2 => ?_, fun c2 => ?_⟩
  · exact hq _ _ hI g0 (Or.inl rfl) rfl
  · exact hq _ _ hI g0 (Or.inr rfl) rfl
set_option maxHeartbeats 4000000 in
set_option maxRecDepth 20000 in
theorem m_X4_hasRoom {v0 : Nat} {v1 : Int32} {v2 : Int32} {Q : Int32 → HS → Prop} {S : HS} (hI : IV S) (o_v0 : ob S v0 4)    (hT : TX S v0) (hq : ∀ (r : Int32) (T : HS), IV T → Gr S T → FRI [(4, 0), (4, 1), (4, 4), (4, 6), (4, 7)] [] S T → bl r → (TX T v0) ∧ (r = 1 → v1 < v2) → Q r T) : P_X4_hasRoom v0 v1 v2 Q S := by
  have g0 := gr_rf S
  have f0 := fri_rf [(4, 0), (4, 1), (4, 4), (4, 6), (4, 7)] [] S
  refine u_X4_hasRoom ?_
  refine u_X4_hasRoom_0 ?_
  refine ⟨o_v0, ?_⟩
  obtain ⟨a1, ea1, o_a1, -⟩ := sh 12 rfl hI o_v0
  refine ⟨a1, ea1, ?_⟩
  refine ⟨o_a1, ?_⟩
  refine m_X8_isTold hI o_a1 (fun x2 S3 hI2 g4 b_x2 p_x2 => ?_)
  subst p_x2
  intro _ _
  have bb_x2 : x2 = 0 ∨ x2 = 1 := b_x2
  refine ⟨fun c6 => ?_, fun c6 => ?_⟩
  · refine ⟨fun c7 => ?_, fun c7 => ?_⟩
    · refine m_X4_next hI o_v0 hT (fun S9 hI g10 fc11 p_S9 => ?_)
      obtain hT := p_S9
      have ea1 := (frr_at fc11 (by decide) (by decide) o_v0).trans ea1
      have f0 := fri_tr g0 f0 fc11 (by decide) (by decide)
      have o_a1 := gr_ob g10 o_a1
      have o_v0 := gr_ob g10 o_v0
      have g0 := gr_tr g0 g10
      intro _
      exact hq _ _ hI g0 f0 (Or.inr rfl) ⟨hT, (q718 bb_x2 c6 c7)⟩
    · refine u_X4_fail ?_
      refine u_X4_fail_0 ?_
      refine ⟨o_v0, ?_⟩
      have hI := iv_sI (j := 0) (v := (5 : Int32)) hI o_v0 (by decide) (nu_free (by decide))
      have f0 : FRI _ _ _ (sI S v0 0 (5 : Int32)) := fri_sI g0 f0 o_v0 (by decide)
      obtain ⟨y12, hy12⟩ : ∃ z : Int32, z = (5 : Int32) := ⟨_, rfl⟩
      have d_y12 : y12 = fI (sI S v0 0 (5 : Int32)) v0 0 := hy12.trans (u2_self _ _ _ _).symm
      intro x13 ex13
      have d_x13 := ex13
      have hI := iv_sI (j := 1) (v := x13) hI o_v0 (by decide) (nu_free (by decide))
      have f0 : FRI _ _ _ (sI (sI S v0 0 (5 : Int32)) v0 1 x13) := fri_sI g0 f0 o_v0 (by decide)
      have d_y12 : y12 = fI (sI (sI S v0 0 (5 : Int32)) v0 1 x13) v0 0 := d_y12.trans (rd_j (by decide)).symm
      have d_x13 : x13 = fI (sI (sI S v0 0 (5 : Int32)) v0 1 x13) v0 7 := d_x13.trans (rd_j (by decide)).symm
      have d_x13 : x13 = fI (sI (sI S v0 0 (5 : Int32)) v0 1 x13) v0 1 := (u2_self _ _ _ _).symm
      intro _ _
      exact hq _ _ hI g0 f0 (Or.inl rfl) ⟨hT, (q719 bb_x2 c6 c7)⟩
  · refine u_X4_fail ?_
    refine u_X4_fail_0 ?_
    refine ⟨o_v0, ?_⟩
    have hI := iv_sI (j := 0) (v := (6 : Int32)) hI o_v0 (by decide) (nu_free (by decide))
    have f0 : FRI _ _ _ (sI S v0 0 (6 : Int32)) := fri_sI g0 f0 o_v0 (by decide)
    obtain ⟨y14, hy14⟩ : ∃ z : Int32, z = (6 : Int32) := ⟨_, rfl⟩
    have d_y14 : y14 = fI (sI S v0 0 (6 : Int32)) v0 0 := hy14.trans (u2_self _ _ _ _).symm
    intro x15 ex15
    have d_x15 := ex15
    have hI := iv_sI (j := 1) (v := x15) hI o_v0 (by decide) (nu_free (by decide))
    have f0 : FRI _ _ _ (sI (sI S v0 0 (6 : Int32)) v0 1 x15) := fri_sI g0 f0 o_v0 (by decide)
    have d_y14 : y14 = fI (sI (sI S v0 0 (6 : Int32)) v0 1 x15) v0 0 := d_y14.trans (rd_j (by decide)).symm
    have d_x15 : x15 = fI (sI (sI S v0 0 (6 : Int32)) v0 1 x15) v0 7 := d_x15.trans (rd_j (by decide)).symm
    have d_x15 : x15 = fI (sI (sI S v0 0 (6 : Int32)) v0 1 x15) v0 1 := (u2_self _ _ _ _).symm
    intro _ _
    exact hq _ _ hI g0 f0 (Or.inl rfl) ⟨hT, (q720 bb_x2 c6)⟩
set_option maxHeartbeats 4000000 in
set_option maxRecDepth 20000 in
theorem m_X4_kindOf {v0 : Nat} {v1 : Nat} {Q : Int32 → HS → Prop} {S : HS} (hI : IV S) (o_v0 : ob S v0 4) (o_v1 : ob S v1 6)    (hT : TX S v0) (hq : ∀ (r : Int32) (T : HS), IV T → Gr S T → FRI [(4, 0), (4, 1), (4, 4), (4, 6), (4, 7), (4, 9), (6, 0), (6, 1)] [] S T → bl r → (TX T v0) → Q r T) : P_X4_kindOf v0 v1 Q S := by
  have g0 := gr_rf S
  have f0 := fri_rf [(4, 0), (4, 1), (4, 4), (4, 6), (4, 7), (4, 9), (6, 0), (6, 1)] [] S
  refine u_X4_kindOf ?_
  refine u_X4_kindOf_0 ?_
  refine ⟨o_v0, ?_⟩
  have hI := iv_sI (j := 9) (v := (0 : Int32)) hI o_v0 (by decide) (nu_free (by decide))
  have f0 : FRI _ _ _ (sI S v0 9 (0 : Int32)) := fri_sI g0 f0 o_v0 (by decide)
  obtain ⟨y1, hy1⟩ : ∃ z : Int32, z = (0 : Int32) := ⟨_, rfl⟩
  have d_y1 : y1 = fI (sI S v0 9 (0 : Int32)) v0 9 := hy1.trans (u2_self _ _ _ _).symm
  refine m_X4_is hI o_v0 (by decide) hT (fun x2 S3 hI2 g4 b_x2 p_x2 => ?_)
  subst p_x2
  intro _ _
  have bb_x2 : x2 = 0 ∨ x2 = 1 := b_x2
  refine ⟨fun c6 => ?_, fun c6 => ?_⟩
  · refine m_X4_is hI o_v0 (by decide) hT (fun x7 S8 hI2 g9 b_x7 p_x7 => ?_)
    subst p_x7
    intro _ _
    have bb_x7 : x7 = 0 ∨ x7 = 1 := b_x7
    refine ⟨fun c11 => ?_, fun c11 => ?_⟩
    · refine m_X4_is hI o_v0 (by decide) hT (fun x12 S13 hI2 g14 b_x12 p_x12 => ?_)
      subst p_x12
      intro _ _
      have bb_x12 : x12 = 0 ∨ x12 = 1 := b_x12
      refine ⟨fun c16 => ?_, fun c16 => ?_⟩
      · refine ⟨o_v1, ?_⟩
        have hI := iv_sI (j := 0) (v := (0 : Int32)) hI o_v1 (by decide) (nu_free (by decide))
        have f0 : FRI _ _ _ (sI (sI S v0 9 (0 : Int32)) v1 0 (0 : Int32)) := fri_sI g0 f0 o_v1 (by decide)
        have d_y1 : y1 = fI (sI (sI S v0 9 (0 : Int32)) v1 0 (0 : Int32)) v0 9 := d_y1.trans (sI_ne o_v1 o_v0 (by decide) 9).symm
        obtain ⟨y17, hy17⟩ : ∃ z : Int32, z = (0 : Int32) := ⟨_, rfl⟩
        have d_y17 : y17 = fI (sI (sI S v0 9 (0 : Int32)) v1 0 (0 : Int32)) v1 0 := hy17.trans (u2_self _ _ _ _).symm
        refine m_X4_word hI o_v0 (by decide) hT (fun x18 S19 hI g20 fc21 b_x18 p_x18 => ?_)
        obtain hT := p_x18
        have d_y1 := d_y1.trans (fri_at fc21 (by decide) (by decide) o_v0).symm
        have d_y17 := d_y17.trans (fri_at fc21 (by decide) (by decide) o_v1).symm
        have f0 := fri_tr g0 f0 fc21 (by decide) (by decide)
        have o_v0 := gr_ob g20 o_v0
        have o_v1 := gr_ob g20 o_v1
        have g0 := gr_tr g0 g20
        intro _ _
        have bb_x18 : x18 = 0 ∨ x18 = 1 := b_x18
        intro x22 ex22
        have q_x22 : x22 = y1 := ex22.trans d_y1.symm
        have d_x22 := ex22
        have hI := iv_sI (j := 1) (v := x22) hI o_v1 (by decide) (nu_free (by decide))
        have f0 : FRI _ _ _ (sI S19 v1 1 x22) := fri_sI g0 f0 o_v1 (by decide)
        have d_x22 : x22 = fI (sI S19 v1 1 x22) v0 9 := d_x22.trans (sI_ne o_v1 o_v0 (by decide) 9).symm
        have d_y17 : y17 = fI (sI S19 v1 1 x22) v1 0 := d_y17.trans (rd_j (by decide)).symm
        have d_x22 : x22 = fI (sI S19 v1 1 x22) v1 1 := (u2_self _ _ _ _).symm
        refine ⟨b_x18, ?_⟩
        exact hq _ _ hI g0 f0 b_x18 hT
      · refine ⟨o_v1, ?_⟩
        have hI := iv_sI (j := 0) (v := (3 : Int32)) hI o_v1 (by decide) (nu_free (by decide))
        have f0 : FRI _ _ _ (sI (sI S v0 9 (0 : Int32)) v1 0 (3 : Int32)) := fri_sI g0 f0 o_v1 (by decide)
        have d_y1 : y1 = fI (sI (sI S v0 9 (0 : Int32)) v1 0 (3 : Int32)) v0 9 := d_y1.trans (sI_ne o_v1 o_v0 (by decide) 9).symm
        obtain ⟨y23, hy23⟩ : ∃ z : Int32, z = (3 : Int32) := ⟨_, rfl⟩
        have d_y23 : y23 = fI (sI (sI S v0 9 (0 : Int32)) v1 0 (3 : Int32)) v1 0 := hy23.trans (u2_self _ _ _ _).symm
        refine m_X4_wordAndWhole hI o_v0 (by decide) hT (fun x24 S25 hI g26 fc27 b_x24 p_x24 => ?_)
        obtain ⟨hT, pf9_S25⟩ := p_x24
        have d_y23 := d_y23.trans (fri_at fc27 (by decide) (by decide) o_v1).symm
        have f0 := fri_tr g0 f0 fc27 (by decide) (by decide)
        have o_v0 := gr_ob g26 o_v0
        have o_v1 := gr_ob g26 o_v1
        have g0 := gr_tr g0 g26
        obtain ⟨y28, d_y28⟩ : ∃ z : Int32, z = fI S25 v0 9 := ⟨_, rfl⟩
        have p_y28 : x24 = 1 → (1 : Int32) ≤ y28 ∧ y28 ≤ (99 : Int32) := by rw [d_y28]; exact pf9_S25
        intro _ _
        have bb_x24 : x24 = 0 ∨ x24 = 1 := b_x24
        intro x29 ex29
        have q_x29 : x29 = y28 := ex29.trans d_y28.symm
        have d_x29 := ex29
        have hI := iv_sI (j := 1) (v := x29) hI o_v1 (by decide) (nu_free (by decide))
        have f0 : FRI _ _ _ (sI S25 v1 1 x29) := fri_sI g0 f0 o_v1 (by decide)
        have d_y23 : y23 = fI (sI S25 v1 1 x29) v1 0 := d_y23.trans (rd_j (by decide)).symm
        have d_x29 : x29 = fI (sI S25 v1 1 x29) v0 9 := d_x29.trans (sI_ne o_v1 o_v0 (by decide) 9).symm
        have d_x29 : x29 = fI (sI S25 v1 1 x29) v1 1 := (u2_self _ _ _ _).symm
        refine ⟨b_x24, ?_⟩
        exact hq _ _ hI g0 f0 b_x24 hT
    · refine ⟨o_v1, ?_⟩
      have hI := iv_sI (j := 0) (v := (2 : Int32)) hI o_v1 (by decide) (nu_free (by decide))
      have f0 : FRI _ _ _ (sI (sI S v0 9 (0 : Int32)) v1 0 (2 : Int32)) := fri_sI g0 f0 o_v1 (by decide)
      have d_y1 : y1 = fI (sI (sI S v0 9 (0 : Int32)) v1 0 (2 : Int32)) v0 9 := d_y1.trans (sI_ne o_v1 o_v0 (by decide) 9).symm
      obtain ⟨y30, hy30⟩ : ∃ z : Int32, z = (2 : Int32) := ⟨_, rfl⟩
      have d_y30 : y30 = fI (sI (sI S v0 9 (0 : Int32)) v1 0 (2 : Int32)) v1 0 := hy30.trans (u2_self _ _ _ _).symm
      refine m_X4_wordAndWhole hI o_v0 (by decide) hT (fun x31 S32 hI g33 fc34 b_x31 p_x31 => ?_)
      obtain ⟨hT, pf9_S32⟩ := p_x31
      have d_y30 := d_y30.trans (fri_at fc34 (by decide) (by decide) o_v1).symm
      have f0 := fri_tr g0 f0 fc34 (by decide) (by decide)
      have o_v0 := gr_ob g33 o_v0
      have o_v1 := gr_ob g33 o_v1
      have g0 := gr_tr g0 g33
      obtain ⟨y35, d_y35⟩ : ∃ z : Int32, z = fI S32 v0 9 := ⟨_, rfl⟩
      have p_y35 : x31 = 1 → (0 : Int32) ≤ y35 ∧ y35 ≤ (999 : Int32) := by rw [d_y35]; exact pf9_S32
      intro _ _
      have bb_x31 : x31 = 0 ∨ x31 = 1 := b_x31
      intro x36 ex36
      have q_x36 : x36 = y35 := ex36.trans d_y35.symm
      have d_x36 := ex36
      have hI := iv_sI (j := 1) (v := x36) hI o_v1 (by decide) (nu_free (by decide))
      have f0 : FRI _ _ _ (sI S32 v1 1 x36) := fri_sI g0 f0 o_v1 (by decide)
      have d_y30 : y30 = fI (sI S32 v1 1 x36) v1 0 := d_y30.trans (rd_j (by decide)).symm
      have d_x36 : x36 = fI (sI S32 v1 1 x36) v0 9 := d_x36.trans (sI_ne o_v1 o_v0 (by decide) 9).symm
      have d_x36 : x36 = fI (sI S32 v1 1 x36) v1 1 := (u2_self _ _ _ _).symm
      refine ⟨b_x31, ?_⟩
      exact hq _ _ hI g0 f0 b_x31 hT
  · refine ⟨o_v1, ?_⟩
    have hI := iv_sI (j := 0) (v := (1 : Int32)) hI o_v1 (by decide) (nu_free (by decide))
    have f0 : FRI _ _ _ (sI (sI S v0 9 (0 : Int32)) v1 0 (1 : Int32)) := fri_sI g0 f0 o_v1 (by decide)
    have d_y1 : y1 = fI (sI (sI S v0 9 (0 : Int32)) v1 0 (1 : Int32)) v0 9 := d_y1.trans (sI_ne o_v1 o_v0 (by decide) 9).symm
    obtain ⟨y37, hy37⟩ : ∃ z : Int32, z = (1 : Int32) := ⟨_, rfl⟩
    have d_y37 : y37 = fI (sI (sI S v0 9 (0 : Int32)) v1 0 (1 : Int32)) v1 0 := hy37.trans (u2_self _ _ _ _).symm
    refine m_X4_wordAndWhole hI o_v0 (by decide) hT (fun x38 S39 hI g40 fc41 b_x38 p_x38 => ?_)
    obtain ⟨hT, pf9_S39⟩ := p_x38
    have d_y37 := d_y37.trans (fri_at fc41 (by decide) (by decide) o_v1).symm
    have f0 := fri_tr g0 f0 fc41 (by decide) (by decide)
    have o_v0 := gr_ob g40 o_v0
    have o_v1 := gr_ob g40 o_v1
    have g0 := gr_tr g0 g40
    obtain ⟨y42, d_y42⟩ : ∃ z : Int32, z = fI S39 v0 9 := ⟨_, rfl⟩
    have p_y42 : x38 = 1 → (1 : Int32) ≤ y42 ∧ y42 ≤ (8 : Int32) := by rw [d_y42]; exact pf9_S39
    intro _ _
    have bb_x38 : x38 = 0 ∨ x38 = 1 := b_x38
    intro x43 ex43
    have q_x43 : x43 = y42 := ex43.trans d_y42.symm
    have d_x43 := ex43
    have hI := iv_sI (j := 1) (v := x43) hI o_v1 (by decide) (nu_free (by decide))
    have f0 : FRI _ _ _ (sI S39 v1 1 x43) := fri_sI g0 f0 o_v1 (by decide)
    have d_y37 : y37 = fI (sI S39 v1 1 x43) v1 0 := d_y37.trans (rd_j (by decide)).symm
    have d_x43 : x43 = fI (sI S39 v1 1 x43) v0 9 := d_x43.trans (sI_ne o_v1 o_v0 (by decide) 9).symm
    have d_x43 : x43 = fI (sI S39 v1 1 x43) v1 1 := (u2_self _ _ _ _).symm
    refine ⟨b_x38, ?_⟩
    exact hq _ _ hI g0 f0 b_x38 hT
set_option maxHeartbeats 4000000 in
set_option maxRecDepth 20000 in
theorem m_X4_newName {v0 : Nat} {v1 : Int32} {Q : Int32 → HS → Prop} {S : HS} (hI : IV S) (o_v0 : ob S v0 4)    (hT : TX S v0) (hq : ∀ (r : Int32) (T : HS), IV T → Gr S T → FRI [(4, 0), (4, 1), (4, 4), (4, 6), (4, 7), (4, 10)] [] S T → bl r → (TX T v0) → Q r T) : P_X4_newName v0 v1 Q S := by
  have g0 := gr_rf S
  have f0 := fri_rf [(4, 0), (4, 1), (4, 4), (4, 6), (4, 7), (4, 10)] [] S
  refine u_X4_newName ?_
  refine u_X4_newName_0 ?_
  refine ⟨o_v0, ?_⟩
  refine m_X4_canBeName hI o_v0 hT (fun x1 S2 hI2 g3 b_x1 p_x1 => ?_)
  subst p_x1
  intro _ _
  have bb_x1 : x1 = 0 ∨ x1 = 1 := b_x1
  refine ⟨fun c5 => ?_, fun c5 => ?_⟩
  · refine m_X4_findName hI o_v0 hT (fun x6 S7 hI2 g8 p_x6 => ?_)
    subst p_x6
    intro _
    refine ⟨fun c10 => ?_, fun c10 => ?_⟩
    · intro x11 ex11
      have r_x11 : (0 : Int32) ≤ x11 ∧ x11 ≤ (12 : Int32) := by rw [ex11]; exact nu 7 rfl hI o_v0
      have d_x11 := ex11
      refine ⟨fun c12 => ?_, fun c12 => ?_⟩
      · refine u_X4_newName_69 ?_
        refine ⟨o_v0, ?_⟩
        refine m_X4_next hI o_v0 hT (fun S14 hI g15 fc16 p_S14 => ?_)
        obtain hT := p_S14
        have d_x11 := d_x11.trans (fri_at fc16 (by decide) (by decide) o_v0).symm
        have f0 := fri_tr g0 f0 fc16 (by decide) (by decide)
        have o_v0 := gr_ob g15 o_v0
        have g0 := gr_tr g0 g15
        intro _
        exact hq _ _ hI g0 f0 (Or.inr rfl) hT
      · obtain ⟨a17, ea17, o_a17, l_a17⟩ := shl 13 rfl hI o_v0
        refine ⟨a17, ea17, ?_⟩
        intro x18 ex18
        have r_x18 : (0 : Int32) ≤ x18 ∧ x18 ≤ (12 : Int32) := by rw [ex18]; exact nu 7 rfl hI o_v0
        have q_x18 : x18 = x11 := ex18.trans d_x11.symm
        have d_x18 := ex18
        intro x19 ex19
        have dj_x19 := ex19
        refine ⟨o_a17, ?_⟩
        have i20 : vp_in x18 (hN _ a17) := (vin l_a17 (m := 12) (by decide) (q711 bb_x1 c5 c10 r_x11 c12 r_x18 q_x18))
        refine ⟨i20, ?_⟩
        have hI := iv_aJ (i := x18.toNatClampNeg) (v := x19) hI o_v0 (by decide) ea17 o_a17 (by decide)
        obtain ⟨a21, ea21, o_a21, l_a21⟩ := shl 14 rfl hI o_v0
        refine ⟨a21, ea21, ?_⟩
        intro x22 ex22
        have r_x22 : (0 : Int32) ≤ x22 ∧ x22 ≤ (12 : Int32) := by rw [ex22]; exact nu 7 rfl hI o_v0
        have q_x22 : x22 = x18 := ex22.trans d_x18.symm
        have d_x22 := ex22
        refine ⟨o_a21, ?_⟩
        have i23 : vp_in x22 (hN _ a21) := (vin l_a21 (m := 12) (by decide) (q712 bb_x1 c5 c10 r_x11 c12 r_x18 q_x18 r_x22 q_x22))
        refine ⟨i23, ?_⟩
        have hI := iv_aI (i := x22.toNatClampNeg) (v := v1) hI o_v0 (by decide) ea21 o_a21 (by decide)
        have f0 : FRI _ _ _ (sI (sJ S a17 x18.toNatClampNeg x19) a21 x22.toNatClampNeg v1) := fri_aI g0 f0 o_a21 (by decide)
        have d_x22 : x22 = fI (sI (sJ S a17 x18.toNatClampNeg x19) a21 x22.toNatClampNeg v1) v0 10 := d_x22.trans (sI_ne o_a21 o_v0 (by decide) 10).symm
        intro x24 ex24
        have r_x24 : (0 : Int32) ≤ x24 ∧ x24 ≤ (12 : Int32) := by rw [ex24]; exact nu 7 rfl hI o_v0
        have q_x24 : x24 = x22 := ex24.trans d_x22.symm
        have d_x24 := ex24
        intro x25 ex25
        have hI := iv_sI (j := 10) (v := x25) hI o_v0 (by decide) (nu_one (lo := (0 : Int32)) (hi := (12 : Int32)) (by decide) (q713 bb_x1 c5 c10 r_x11 c12 r_x18 q_x18 r_x22 q_x22 r_x24 q_x24 ex25))
        have f0 : FRI _ _ _ (sI (sI (sJ S a17 x18.toNatClampNeg x19) a21 x22.toNatClampNeg v1) v0 10 x25) := fri_sI g0 f0 o_v0 (by decide)
        have d_x25 : x25 = fI (sI (sI (sJ S a17 x18.toNatClampNeg x19) a21 x22.toNatClampNeg v1) v0 10 x25) v0 10 := (u2_self _ _ _ _).symm
        refine u_X4_newName_69 ?_
        refine ⟨o_v0, ?_⟩
        refine m_X4_next hI o_v0 hT (fun S27 hI g28 fc29 p_S27 => ?_)
        obtain hT := p_S27
        have l_a17 := (gr_len g28 o_a17).trans l_a17
        have l_a21 := (gr_len g28 o_a21).trans l_a21
        have d_x25 := d_x25.trans (fri_at fc29 (by decide) (by decide) o_v0).symm
        have ea17 := (frr_at fc29 (by decide) (by decide) o_v0).trans ea17
        have ea21 := (frr_at fc29 (by decide) (by decide) o_v0).trans ea21
        have f0 := fri_tr g0 f0 fc29 (by decide) (by decide)
        have o_a17 := gr_ob g28 o_a17
        have o_a21 := gr_ob g28 o_a21
        have o_v0 := gr_ob g28 o_v0
        have g0 := gr_tr g0 g28
        intro _
        exact hq _ _ hI g0 f0 (Or.inr rfl) hT
    · refine u_X4_fail ?_
      refine u_X4_fail_0 ?_
      refine ⟨o_v0, ?_⟩
      have hI := iv_sI (j := 0) (v := (3 : Int32)) hI o_v0 (by decide) (nu_free (by decide))
      have f0 : FRI _ _ _ (sI S v0 0 (3 : Int32)) := fri_sI g0 f0 o_v0 (by decide)
      obtain ⟨y30, hy30⟩ : ∃ z : Int32, z = (3 : Int32) := ⟨_, rfl⟩
      have d_y30 : y30 = fI (sI S v0 0 (3 : Int32)) v0 0 := hy30.trans (u2_self _ _ _ _).symm
      intro x31 ex31
      have d_x31 := ex31
      have hI := iv_sI (j := 1) (v := x31) hI o_v0 (by decide) (nu_free (by decide))
      have f0 : FRI _ _ _ (sI (sI S v0 0 (3 : Int32)) v0 1 x31) := fri_sI g0 f0 o_v0 (by decide)
      have d_y30 : y30 = fI (sI (sI S v0 0 (3 : Int32)) v0 1 x31) v0 0 := d_y30.trans (rd_j (by decide)).symm
      have d_x31 : x31 = fI (sI (sI S v0 0 (3 : Int32)) v0 1 x31) v0 7 := d_x31.trans (rd_j (by decide)).symm
      have d_x31 : x31 = fI (sI (sI S v0 0 (3 : Int32)) v0 1 x31) v0 1 := (u2_self _ _ _ _).symm
      intro _ _
      exact hq _ _ hI g0 f0 (Or.inl rfl) hT
  · refine u_X4_fail ?_
    refine u_X4_fail_0 ?_
    refine ⟨o_v0, ?_⟩
    have hI := iv_sI (j := 0) (v := (1 : Int32)) hI o_v0 (by decide) (nu_free (by decide))
    have f0 : FRI _ _ _ (sI S v0 0 (1 : Int32)) := fri_sI g0 f0 o_v0 (by decide)
    obtain ⟨y32, hy32⟩ : ∃ z : Int32, z = (1 : Int32) := ⟨_, rfl⟩
    have d_y32 : y32 = fI (sI S v0 0 (1 : Int32)) v0 0 := hy32.trans (u2_self _ _ _ _).symm
    intro x33 ex33
    have d_x33 := ex33
    have hI := iv_sI (j := 1) (v := x33) hI o_v0 (by decide) (nu_free (by decide))
    have f0 : FRI _ _ _ (sI (sI S v0 0 (1 : Int32)) v0 1 x33) := fri_sI g0 f0 o_v0 (by decide)
    have d_y32 : y32 = fI (sI (sI S v0 0 (1 : Int32)) v0 1 x33) v0 0 := d_y32.trans (rd_j (by decide)).symm
    have d_x33 : x33 = fI (sI (sI S v0 0 (1 : Int32)) v0 1 x33) v0 7 := d_x33.trans (rd_j (by decide)).symm
    have d_x33 : x33 = fI (sI (sI S v0 0 (1 : Int32)) v0 1 x33) v0 1 := (u2_self _ _ _ _).symm
    intro _ _
    exact hq _ _ hI g0 f0 (Or.inl rfl) hT
set_option maxHeartbeats 4000000 in
set_option maxRecDepth 20000 in
theorem m_X8_clear {v0 : Nat} {Q : HS → Prop} {S : HS} (hI : IV S) (o_v0 : ob S v0 8)     (hq : ∀ (T : HS), IV T → Gr S T → FRI [(8, 0), (8, 1), (8, 2), (8, 3), (8, 4), (8, 5)] [] S T → Q T) : P_X8_clear v0 Q S := by
  have g0 := gr_rf S
  have f0 := fri_rf [(8, 0), (8, 1), (8, 2), (8, 3), (8, 4), (8, 5)] [] S
  refine u_X8_clear ?_
  refine u_X8_clear_0 ?_
  refine ⟨o_v0, ?_⟩
  have hI := iv_sI (j := 0) (v := (0 : Int32)) hI o_v0 (by decide) (nu_one (lo := (0 : Int32)) (hi := (60 : Int32)) (by decide) (q225))
  have f0 : FRI _ _ _ (sI S v0 0 (0 : Int32)) := fri_sI g0 f0 o_v0 (by decide)
  obtain ⟨y1, hy1⟩ : ∃ z : Int32, z = (0 : Int32) := ⟨_, rfl⟩
  have d_y1 : y1 = fI (sI S v0 0 (0 : Int32)) v0 0 := hy1.trans (u2_self _ _ _ _).symm
  have hI := iv_sI (j := 1) (v := (0 : Int32)) hI o_v0 (by decide) (nu_one (lo := (0 : Int32)) (hi := (6 : Int32)) (by decide) (q226))
  have f0 : FRI _ _ _ (sI (sI S v0 0 (0 : Int32)) v0 1 (0 : Int32)) := fri_sI g0 f0 o_v0 (by decide)
  have d_y1 : y1 = fI (sI (sI S v0 0 (0 : Int32)) v0 1 (0 : Int32)) v0 0 := d_y1.trans (rd_j (by decide)).symm
  obtain ⟨y2, hy2⟩ : ∃ z : Int32, z = (0 : Int32) := ⟨_, rfl⟩
  have d_y2 : y2 = fI (sI (sI S v0 0 (0 : Int32)) v0 1 (0 : Int32)) v0 1 := hy2.trans (u2_self _ _ _ _).symm
  have hI := iv_sI (j := 2) (v := (0 : Int32)) hI o_v0 (by decide) (nu_one (lo := (0 : Int32)) (hi := (8 : Int32)) (by decide) (q227))
  have f0 : FRI _ _ _ (sI (sI (sI S v0 0 (0 : Int32)) v0 1 (0 : Int32)) v0 2 (0 : Int32)) := fri_sI g0 f0 o_v0 (by decide)
  have d_y1 : y1 = fI (sI (sI (sI S v0 0 (0 : Int32)) v0 1 (0 : Int32)) v0 2 (0 : Int32)) v0 0 := d_y1.trans (rd_j (by decide)).symm
  have d_y2 : y2 = fI (sI (sI (sI S v0 0 (0 : Int32)) v0 1 (0 : Int32)) v0 2 (0 : Int32)) v0 1 := d_y2.trans (rd_j (by decide)).symm
  obtain ⟨y3, hy3⟩ : ∃ z : Int32, z = (0 : Int32) := ⟨_, rfl⟩
  have d_y3 : y3 = fI (sI (sI (sI S v0 0 (0 : Int32)) v0 1 (0 : Int32)) v0 2 (0 : Int32)) v0 2 := hy3.trans (u2_self _ _ _ _).symm
  have hI := iv_sI (j := 3) (v := (0 : Int32)) hI o_v0 (by decide) (nu_one (lo := (0 : Int32)) (hi := (12 : Int32)) (by decide) (q224))
  have f0 : FRI _ _ _ (sI (sI (sI (sI S v0 0 (0 : Int32)) v0 1 (0 : Int32)) v0 2 (0 : Int32)) v0 3 (0 : Int32)) := fri_sI g0 f0 o_v0 (by decide)
  have d_y1 : y1 = fI (sI (sI (sI (sI S v0 0 (0 : Int32)) v0 1 (0 : Int32)) v0 2 (0 : Int32)) v0 3 (0 : Int32)) v0 0 := d_y1.trans (rd_j (by decide)).symm
  have d_y2 : y2 = fI (sI (sI (sI (sI S v0 0 (0 : Int32)) v0 1 (0 : Int32)) v0 2 (0 : Int32)) v0 3 (0 : Int32)) v0 1 := d_y2.trans (rd_j (by decide)).symm
  have d_y3 : y3 = fI (sI (sI (sI (sI S v0 0 (0 : Int32)) v0 1 (0 : Int32)) v0 2 (0 : Int32)) v0 3 (0 : Int32)) v0 2 := d_y3.trans (rd_j (by decide)).symm
  obtain ⟨y4, hy4⟩ : ∃ z : Int32, z = (0 : Int32) := ⟨_, rfl⟩
  have d_y4 : y4 = fI (sI (sI (sI (sI S v0 0 (0 : Int32)) v0 1 (0 : Int32)) v0 2 (0 : Int32)) v0 3 (0 : Int32)) v0 3 := hy4.trans (u2_self _ _ _ _).symm
  have hI := iv_sI (j := 4) (v := (0 : Int32)) hI o_v0 (by decide) (nu_one (lo := (0 : Int32)) (hi := (4 : Int32)) (by decide) (q228))
  have f0 : FRI _ _ _ (sI (sI (sI (sI (sI S v0 0 (0 : Int32)) v0 1 (0 : Int32)) v0 2 (0 : Int32)) v0 3 (0 : Int32)) v0 4 (0 : Int32)) := fri_sI g0 f0 o_v0 (by decide)
  have d_y1 : y1 = fI (sI (sI (sI (sI (sI S v0 0 (0 : Int32)) v0 1 (0 : Int32)) v0 2 (0 : Int32)) v0 3 (0 : Int32)) v0 4 (0 : Int32)) v0 0 := d_y1.trans (rd_j (by decide)).symm
  have d_y2 : y2 = fI (sI (sI (sI (sI (sI S v0 0 (0 : Int32)) v0 1 (0 : Int32)) v0 2 (0 : Int32)) v0 3 (0 : Int32)) v0 4 (0 : Int32)) v0 1 := d_y2.trans (rd_j (by decide)).symm
  have d_y3 : y3 = fI (sI (sI (sI (sI (sI S v0 0 (0 : Int32)) v0 1 (0 : Int32)) v0 2 (0 : Int32)) v0 3 (0 : Int32)) v0 4 (0 : Int32)) v0 2 := d_y3.trans (rd_j (by decide)).symm
  have d_y4 : y4 = fI (sI (sI (sI (sI (sI S v0 0 (0 : Int32)) v0 1 (0 : Int32)) v0 2 (0 : Int32)) v0 3 (0 : Int32)) v0 4 (0 : Int32)) v0 3 := d_y4.trans (rd_j (by decide)).symm
  obtain ⟨y5, hy5⟩ : ∃ z : Int32, z = (0 : Int32) := ⟨_, rfl⟩
  have d_y5 : y5 = fI (sI (sI (sI (sI (sI S v0 0 (0 : Int32)) v0 1 (0 : Int32)) v0 2 (0 : Int32)) v0 3 (0 : Int32)) v0 4 (0 : Int32)) v0 4 := hy5.trans (u2_self _ _ _ _).symm
  have hI := iv_sI (j := 5) (v := (0 : Int32)) hI o_v0 (by decide) (nu_one (lo := (0 : Int32)) (hi := (4 : Int32)) (by decide) (q228))
  have f0 : FRI _ _ _ (sI (sI (sI (sI (sI (sI S v0 0 (0 : Int32)) v0 1 (0 : Int32)) v0 2 (0 : Int32)) v0 3 (0 : Int32)) v0 4 (0 : Int32)) v0 5 (0 : Int32)) := fri_sI g0 f0 o_v0 (by decide)
  have d_y1 : y1 = fI (sI (sI (sI (sI (sI (sI S v0 0 (0 : Int32)) v0 1 (0 : Int32)) v0 2 (0 : Int32)) v0 3 (0 : Int32)) v0 4 (0 : Int32)) v0 5 (0 : Int32)) v0 0 := d_y1.trans (rd_j (by decide)).symm
  have d_y2 : y2 = fI (sI (sI (sI (sI (sI (sI S v0 0 (0 : Int32)) v0 1 (0 : Int32)) v0 2 (0 : Int32)) v0 3 (0 : Int32)) v0 4 (0 : Int32)) v0 5 (0 : Int32)) v0 1 := d_y2.trans (rd_j (by decide)).symm
  have d_y3 : y3 = fI (sI (sI (sI (sI (sI (sI S v0 0 (0 : Int32)) v0 1 (0 : Int32)) v0 2 (0 : Int32)) v0 3 (0 : Int32)) v0 4 (0 : Int32)) v0 5 (0 : Int32)) v0 2 := d_y3.trans (rd_j (by decide)).symm
  have d_y4 : y4 = fI (sI (sI (sI (sI (sI (sI S v0 0 (0 : Int32)) v0 1 (0 : Int32)) v0 2 (0 : Int32)) v0 3 (0 : Int32)) v0 4 (0 : Int32)) v0 5 (0 : Int32)) v0 3 := d_y4.trans (rd_j (by decide)).symm
  have d_y5 : y5 = fI (sI (sI (sI (sI (sI (sI S v0 0 (0 : Int32)) v0 1 (0 : Int32)) v0 2 (0 : Int32)) v0 3 (0 : Int32)) v0 4 (0 : Int32)) v0 5 (0 : Int32)) v0 4 := d_y5.trans (rd_j (by decide)).symm
  obtain ⟨y6, hy6⟩ : ∃ z : Int32, z = (0 : Int32) := ⟨_, rfl⟩
  have d_y6 : y6 = fI (sI (sI (sI (sI (sI (sI S v0 0 (0 : Int32)) v0 1 (0 : Int32)) v0 2 (0 : Int32)) v0 3 (0 : Int32)) v0 4 (0 : Int32)) v0 5 (0 : Int32)) v0 5 := hy6.trans (u2_self _ _ _ _).symm
  exact hq _ hI g0 f0
