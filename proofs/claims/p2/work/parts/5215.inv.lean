set_option maxHeartbeats 4000000 in
set_option maxRecDepth 20000 in
theorem m_X9_step {v0 : Nat} {v1 : Int32} {v2 : Int32} {v3 : Int32} {v4 : Int32} {v5 : Int32} {v6 : Int32} {Q : Int32 → HS → Prop} {S : HS} (hI : IV S) (o_v0 : ob S v0 9)     (hq : ∀ (r : Int32) (T : HS), IV T → Gr S T → FRI [(7, 3), (7, 9), (7, 10), (7, 11), (7, 12), (7, 13), (9, 9)] [(7, 0), (7, 1), (7, 2), (7, 4), (7, 5), (7, 6), (7, 7), (7, 8)] S T → Q r T) : P_X9_step v0 v1 v2 v3 v4 v5 v6 Q S := by
  have g0 := gr_rf S
  have f0 := fri_rf [(7, 3), (7, 9), (7, 10), (7, 11), (7, 12), (7, 13), (9, 9)] [(7, 0), (7, 1), (7, 2), (7, 4), (7, 5), (7, 6), (7, 7), (7, 8)] S
  refine u_X9_step ?_
  refine u_X9_step_0 ?_
  refine ⟨o_v0, ?_⟩
  refine m_X9_wayTrouble hI o_v0 (fun x1 S2 hI g3 fc4 => ?_)
  have f0 := fri_tr (S := S) g0 f0 fc4 (by decide) (by decide)
  have o_v0 := gr_ob g3 o_v0
  have g0 := gr_tr (T := S) g0 g3
  intro _
  refine u_X9_refusedBy ?_
  refine u_X9_refusedBy_0 ?_
  refine ⟨o_v0, ?_⟩
  have hI := iv_sI (j := 9) (v := x1) hI o_v0 (by decide) (nu_free (by decide))
  have f0 : FRI _ _ _ (sI S2 v0 9 x1) := fri_sI (S := S2) g0 f0 o_v0 (by decide)
  have d_x1 : x1 = fI (sI S2 v0 9 x1) v0 9 := (u2_self _ _ _ _).symm
  refine ⟨fun c5 => ?_, fun c5 => ?_⟩
  · intro _ _
    refine ⟨fun c6 => ?_, fun c6 => ?_⟩
    · obtain ⟨a7, ea7, o_a7, -⟩ := sh 4 rfl hI o_v0
      refine ⟨a7, ea7, ?_⟩
      obtain ⟨a8, ea8, o_a8, -⟩ := sh 1 rfl hI o_v0
      refine ⟨a8, ea8, ?_⟩
      refine ⟨o_a7, ?_⟩
      refine m_X7_trace hI o_a7 o_a8 (fun x9 S10 hI g11 fc12 => ?_)
      have d_x1 := d_x1.trans (fri_at fc12 (by decide) (by decide) o_v0).symm
      have ea7 := (frr_at fc12 (by decide) (by decide) o_v0).trans ea7
      have ea8 := (frr_at fc12 (by decide) (by decide) o_v0).trans ea8
      have f0 := fri_tr (S := sI S2 v0 9 x1) g0 f0 fc12 (by decide) (by decide)
      have o_a7 := gr_ob g11 o_a7
      have o_a8 := gr_ob g11 o_a8
      have o_v0 := gr_ob g11 o_v0
      have g0 := gr_tr (T := sI S2 v0 9 x1) g0 g11
      intro _
      refine ⟨fun c13 => ?_, fun c13 => ?_⟩
      · refine u_X9_step_61 ?_
        refine ⟨o_v0, ?_⟩
        refine u_X9_refuse ?_
        refine u_X9_refuse_0 ?_
        refine ⟨o_v0, ?_⟩
        have hI := iv_sI (j := 9) (v := (1 : Int32)) hI o_v0 (by decide) (nu_free (by decide))
        have f0 : FRI _ _ _ (sI S10 v0 9 (1 : Int32)) := fri_sI (S := S10) g0 f0 o_v0 (by decide)
        obtain ⟨y14, hy14⟩ : ∃ z : Int32, z = (1 : Int32) := ⟨_, rfl⟩
        have d_y14 : y14 = fI (sI S10 v0 9 (1 : Int32)) v0 9 := hy14.trans (u2_self _ _ _ _).symm
        intro _
        exact hq _ _ hI g0 f0
      · refine ⟨fun c15 => ?_, fun c15 => ?_⟩
        · refine u_X9_step_61 ?_
          refine ⟨o_v0, ?_⟩
          refine u_X9_refuse ?_
          refine u_X9_refuse_0 ?_
          refine ⟨o_v0, ?_⟩
          have hI := iv_sI (j := 9) (v := (1 : Int32)) hI o_v0 (by decide) (nu_free (by decide))
          have f0 : FRI _ _ _ (sI S10 v0 9 (1 : Int32)) := fri_sI (S := S10) g0 f0 o_v0 (by decide)
          obtain ⟨y16, hy16⟩ : ∃ z : Int32, z = (1 : Int32) := ⟨_, rfl⟩
          have d_y16 : y16 = fI (sI S10 v0 9 (1 : Int32)) v0 9 := hy16.trans (u2_self _ _ _ _).symm
          intro _
          exact hq _ _ hI g0 f0
        · refine ⟨a7, ea7, ?_⟩
          refine ⟨o_a7, ?_⟩
          obtain ⟨a18, ea18, o_a18, -⟩ := sh 21 rfl hI o_a7
          have hl_a18 := wyl hI o_a7 0 rfl (by decide) ea18
          refine ⟨a18, ea18, ?_⟩
          refine ⟨o_a18, ?_⟩
          refine ⟨fun c19 => ?_, fun c19 => ?_⟩
          · refine ⟨a7, ea7, ?_⟩
            refine ⟨o_a7, ?_⟩
            refine ⟨a18, ea18, ?_⟩
            refine ⟨o_a18, ?_⟩
            refine ⟨(vinL hl_a18 (q441 c5 c13 c15 c19)), ?_⟩
            intro x22 ex22
            exact hq _ _ hI g0 f0
          · refine u_X9_step_61 ?_
            refine ⟨o_v0, ?_⟩
            refine u_X9_refuse ?_
            refine u_X9_refuse_0 ?_
            refine ⟨o_v0, ?_⟩
            have hI := iv_sI (j := 9) (v := (1 : Int32)) hI o_v0 (by decide) (nu_free (by decide))
            have f0 : FRI _ _ _ (sI S10 v0 9 (1 : Int32)) := fri_sI (S := S10) g0 f0 o_v0 (by decide)
            obtain ⟨y23, hy23⟩ : ∃ z : Int32, z = (1 : Int32) := ⟨_, rfl⟩
            have d_y23 : y23 = fI (sI S10 v0 9 (1 : Int32)) v0 9 := hy23.trans (u2_self _ _ _ _).symm
            intro _
            exact hq _ _ hI g0 f0
    · exact hq _ _ hI g0 f0
  · intro _ _
    refine ⟨fun c24 => ?_, fun c24 => ?_⟩
    · obtain ⟨a25, ea25, o_a25, -⟩ := sh 4 rfl hI o_v0
      refine ⟨a25, ea25, ?_⟩
      obtain ⟨a26, ea26, o_a26, -⟩ := sh 1 rfl hI o_v0
      refine ⟨a26, ea26, ?_⟩
      refine ⟨o_a25, ?_⟩
      refine m_X7_trace hI o_a25 o_a26 (fun x27 S28 hI g29 fc30 => ?_)
      have d_x1 := d_x1.trans (fri_at fc30 (by decide) (by decide) o_v0).symm
      have ea25 := (frr_at fc30 (by decide) (by decide) o_v0).trans ea25
      have ea26 := (frr_at fc30 (by decide) (by decide) o_v0).trans ea26
      have f0 := fri_tr (S := sI S2 v0 9 x1) g0 f0 fc30 (by decide) (by decide)
      have o_a25 := gr_ob g29 o_a25
      have o_a26 := gr_ob g29 o_a26
      have o_v0 := gr_ob g29 o_v0
      have g0 := gr_tr (T := sI S2 v0 9 x1) g0 g29
      intro _
      refine ⟨fun c31 => ?_, fun c31 => ?_⟩
      · refine u_X9_step_61 ?_
        refine ⟨o_v0, ?_⟩
        refine u_X9_refuse ?_
        refine u_X9_refuse_0 ?_
        refine ⟨o_v0, ?_⟩
        have hI := iv_sI (j := 9) (v := (1 : Int32)) hI o_v0 (by decide) (nu_free (by decide))
        have f0 : FRI _ _ _ (sI S28 v0 9 (1 : Int32)) := fri_sI (S := S28) g0 f0 o_v0 (by decide)
        obtain ⟨y32, hy32⟩ : ∃ z : Int32, z = (1 : Int32) := ⟨_, rfl⟩
        have d_y32 : y32 = fI (sI S28 v0 9 (1 : Int32)) v0 9 := hy32.trans (u2_self _ _ _ _).symm
        intro _
        exact hq _ _ hI g0 f0
      · refine ⟨fun c33 => ?_, fun c33 => ?_⟩
        · refine u_X9_step_61 ?_
          refine ⟨o_v0, ?_⟩
          refine u_X9_refuse ?_
          refine u_X9_refuse_0 ?_
          refine ⟨o_v0, ?_⟩
          have hI := iv_sI (j := 9) (v := (1 : Int32)) hI o_v0 (by decide) (nu_free (by decide))
          have f0 : FRI _ _ _ (sI S28 v0 9 (1 : Int32)) := fri_sI (S := S28) g0 f0 o_v0 (by decide)
          obtain ⟨y34, hy34⟩ : ∃ z : Int32, z = (1 : Int32) := ⟨_, rfl⟩
          have d_y34 : y34 = fI (sI S28 v0 9 (1 : Int32)) v0 9 := hy34.trans (u2_self _ _ _ _).symm
          intro _
          exact hq _ _ hI g0 f0
        · refine ⟨a25, ea25, ?_⟩
          refine ⟨o_a25, ?_⟩
          obtain ⟨a36, ea36, o_a36, -⟩ := sh 21 rfl hI o_a25
          have hl_a36 := wyl hI o_a25 0 rfl (by decide) ea36
          refine ⟨a36, ea36, ?_⟩
          refine ⟨o_a36, ?_⟩
          refine ⟨fun c37 => ?_, fun c37 => ?_⟩
          · refine ⟨a25, ea25, ?_⟩
            refine ⟨o_a25, ?_⟩
            refine ⟨a36, ea36, ?_⟩
            refine ⟨o_a36, ?_⟩
            refine ⟨(vinL hl_a36 (q442 c5 c24 c31 c33 c37)), ?_⟩
            intro x40 ex40
            exact hq _ _ hI g0 f0
          · refine u_X9_step_61 ?_
            refine ⟨o_v0, ?_⟩
            refine u_X9_refuse ?_
            refine u_X9_refuse_0 ?_
            refine ⟨o_v0, ?_⟩
            have hI := iv_sI (j := 9) (v := (1 : Int32)) hI o_v0 (by decide) (nu_free (by decide))
            have f0 : FRI _ _ _ (sI S28 v0 9 (1 : Int32)) := fri_sI (S := S28) g0 f0 o_v0 (by decide)
            obtain ⟨y41, hy41⟩ : ∃ z : Int32, z = (1 : Int32) := ⟨_, rfl⟩
            have d_y41 : y41 = fI (sI S28 v0 9 (1 : Int32)) v0 9 := hy41.trans (u2_self _ _ _ _).symm
            intro _
            exact hq _ _ hI g0 f0
    · exact hq _ _ hI g0 f0
set_option maxHeartbeats 4000000 in
set_option maxRecDepth 20000 in
theorem m_X9_steps {v0 : Nat} {v1 : Int32} {v2 : Int32} {v3 : Int32} {v4 : Int32} {v5 : Int32} {Q : Int32 → HS → Prop} {S : HS} (hI : IV S) (o_v0 : ob S v0 9)     (hq : ∀ (r : Int32) (T : HS), IV T → Gr S T → FRI [(7, 3), (7, 9), (7, 10), (7, 11), (7, 12), (7, 13), (9, 9)] [(7, 0), (7, 1), (7, 2), (7, 4), (7, 5), (7, 6), (7, 7), (7, 8)] S T → Q r T) : P_X9_steps v0 v1 v2 v3 v4 v5 Q S := by
  have g0 := gr_rf S
  have f0 := fri_rf [(7, 3), (7, 9), (7, 10), (7, 11), (7, 12), (7, 13), (9, 9)] [(7, 0), (7, 1), (7, 2), (7, 4), (7, 5), (7, 6), (7, 7), (7, 8)] S
  refine u_X9_steps ?_
  refine u_X9_steps_0 ?_
  refine ⟨o_v0, ?_⟩
  refine m_X9_wayTrouble hI o_v0 (fun x1 S2 hI g3 fc4 => ?_)
  have f0 := fri_tr (S := S) g0 f0 fc4 (by decide) (by decide)
  have o_v0 := gr_ob g3 o_v0
  have g0 := gr_tr (T := S) g0 g3
  intro _
  refine u_X9_refusedBy ?_
  refine u_X9_refusedBy_0 ?_
  refine ⟨o_v0, ?_⟩
  have hI := iv_sI (j := 9) (v := x1) hI o_v0 (by decide) (nu_free (by decide))
  have f0 : FRI _ _ _ (sI S2 v0 9 x1) := fri_sI (S := S2) g0 f0 o_v0 (by decide)
  have d_x1 : x1 = fI (sI S2 v0 9 x1) v0 9 := (u2_self _ _ _ _).symm
  refine ⟨fun c5 => ?_, fun c5 => ?_⟩
  · intro _ _
    refine ⟨fun c6 => ?_, fun c6 => ?_⟩
    · obtain ⟨a7, ea7, o_a7, -⟩ := sh 4 rfl hI o_v0
      refine ⟨a7, ea7, ?_⟩
      obtain ⟨a8, ea8, o_a8, -⟩ := sh 1 rfl hI o_v0
      refine ⟨a8, ea8, ?_⟩
      refine ⟨o_a7, ?_⟩
      refine m_X7_trace hI o_a7 o_a8 (fun x9 S10 hI g11 fc12 => ?_)
      have d_x1 := d_x1.trans (fri_at fc12 (by decide) (by decide) o_v0).symm
      have ea7 := (frr_at fc12 (by decide) (by decide) o_v0).trans ea7
      have ea8 := (frr_at fc12 (by decide) (by decide) o_v0).trans ea8
      have f0 := fri_tr (S := sI S2 v0 9 x1) g0 f0 fc12 (by decide) (by decide)
      have o_a7 := gr_ob g11 o_a7
      have o_a8 := gr_ob g11 o_a8
      have o_v0 := gr_ob g11 o_v0
      have g0 := gr_tr (T := sI S2 v0 9 x1) g0 g11
      intro _
      exact hq _ _ hI g0 f0
    · exact hq _ _ hI g0 f0
  · intro _ _
    refine ⟨fun c13 => ?_, fun c13 => ?_⟩
    · obtain ⟨a14, ea14, o_a14, -⟩ := sh 4 rfl hI o_v0
      refine ⟨a14, ea14, ?_⟩
      obtain ⟨a15, ea15, o_a15, -⟩ := sh 1 rfl hI o_v0
      refine ⟨a15, ea15, ?_⟩
      refine ⟨o_a14, ?_⟩
      refine m_X7_trace hI o_a14 o_a15 (fun x16 S17 hI g18 fc19 => ?_)
      have d_x1 := d_x1.trans (fri_at fc19 (by decide) (by decide) o_v0).symm
      have ea14 := (frr_at fc19 (by decide) (by decide) o_v0).trans ea14
      have ea15 := (frr_at fc19 (by decide) (by decide) o_v0).trans ea15
      have f0 := fri_tr (S := sI S2 v0 9 x1) g0 f0 fc19 (by decide) (by decide)
      have o_a14 := gr_ob g18 o_a14
      have o_a15 := gr_ob g18 o_a15
      have o_v0 := gr_ob g18 o_v0
      have g0 := gr_tr (T := sI S2 v0 9 x1) g0 g18
      intro _
      exact hq _ _ hI g0 f0
    · exact hq _ _ hI g0 f0
set_option maxHeartbeats 4000000 in
set_option maxRecDepth 20000 in
theorem m_X9_there {v0 : Nat} {v1 : Int32} {v2 : Int32} {v3 : Int32} {v4 : Int32} {v5 : Int32} {Q : Int32 → HS → Prop} {S : HS} (hI : IV S) (o_v0 : ob S v0 9)     (hq : ∀ (r : Int32) (T : HS), IV T → Gr S T → FRI [(7, 3), (7, 9), (7, 10), (7, 11), (7, 12), (7, 13), (9, 9)] [(7, 0), (7, 1), (7, 2), (7, 4), (7, 5), (7, 6), (7, 7), (7, 8)] S T → Q r T) : P_X9_there v0 v1 v2 v3 v4 v5 Q S := by
  have g0 := gr_rf S
  have f0 := fri_rf [(7, 3), (7, 9), (7, 10), (7, 11), (7, 12), (7, 13), (9, 9)] [(7, 0), (7, 1), (7, 2), (7, 4), (7, 5), (7, 6), (7, 7), (7, 8)] S
  refine u_X9_there ?_
  refine u_X9_there_0 ?_
  refine ⟨o_v0, ?_⟩
  refine m_X9_wayTrouble hI o_v0 (fun x1 S2 hI g3 fc4 => ?_)
  have f0 := fri_tr (S := S) g0 f0 fc4 (by decide) (by decide)
  have o_v0 := gr_ob g3 o_v0
  have g0 := gr_tr (T := S) g0 g3
  intro _
  refine u_X9_refusedBy ?_
  refine u_X9_refusedBy_0 ?_
  refine ⟨o_v0, ?_⟩
  have hI := iv_sI (j := 9) (v := x1) hI o_v0 (by decide) (nu_free (by decide))
  have f0 : FRI _ _ _ (sI S2 v0 9 x1) := fri_sI (S := S2) g0 f0 o_v0 (by decide)
  have d_x1 : x1 = fI (sI S2 v0 9 x1) v0 9 := (u2_self _ _ _ _).symm
  refine ⟨fun c5 => ?_, fun c5 => ?_⟩
  · intro _ _
    refine ⟨fun c6 => ?_, fun c6 => ?_⟩
    · obtain ⟨a7, ea7, o_a7, -⟩ := sh 4 rfl hI o_v0
      refine ⟨a7, ea7, ?_⟩
      refine ⟨o_a7, ?_⟩
      refine m_X7_endFrom hI o_a7 (fun x8 S9 hI2 g10 p_x8 => ?_)
      subst p_x8
      intro _
      exact hq _ _ hI g0 f0
    · exact hq _ _ hI g0 f0
  · intro _ _
    refine ⟨fun c12 => ?_, fun c12 => ?_⟩
    · obtain ⟨a13, ea13, o_a13, -⟩ := sh 4 rfl hI o_v0
      refine ⟨a13, ea13, ?_⟩
      refine ⟨o_a13, ?_⟩
      refine m_X7_endFrom hI o_a13 (fun x14 S15 hI2 g16 p_x14 => ?_)
      subst p_x14
      intro _
      exact hq _ _ hI g0 f0
    · exact hq _ _ hI g0 f0
set_option maxHeartbeats 4000000 in
set_option maxRecDepth 20000 in
theorem m_X9_trouble {v0 : Nat} {Q : Int32 → HS → Prop} {S : HS} (hI : IV S) (o_v0 : ob S v0 9)     (hq : ∀ (r : Int32) (T : HS), IV T → Gr S T → (S = T) → Q r T) : P_X9_trouble v0 Q S := by
  have g0 := gr_rf S
  refine u_X9_trouble ?_
  refine u_X9_trouble_0 ?_
  refine ⟨o_v0, ?_⟩
  intro x1 ex1
  have d_x1 := ex1
  exact hq _ _ hI g0 rfl
set_option maxHeartbeats 4000000 in
set_option maxRecDepth 20000 in
theorem m_X9_undo {v0 : Nat} {Q : Int32 → HS → Prop} {S : HS} (hI : IV S) (o_v0 : ob S v0 9)     (hq : ∀ (r : Int32) (T : HS), IV T → Gr S T → FRI [(0, 2), (2, 0), (2, 1), (9, 9)] [] S T → bl r → Q r T) : P_X9_undo v0 Q S := by
  have g0 := gr_rf S
  have f0 := fri_rf [(0, 2), (2, 0), (2, 1), (9, 9)] [] S
  refine u_X9_undo ?_
  refine u_X9_undo_0 ?_
  refine ⟨o_v0, ?_⟩
  obtain ⟨a1, ea1, o_a1, -⟩ := sh 5 rfl hI o_v0
  refine ⟨a1, ea1, ?_⟩
  refine ⟨o_a1, ?_⟩
  refine m_X0_takeBack hI o_a1 (fun x2 S3 hI g4 fc5 b_x2 => ?_)
  have ea1 := (frr_at fc5 (by decide) (by decide) o_v0).trans ea1
  have f0 := fri_tr (S := S) g0 f0 fc5 (by decide) (by decide)
  have o_a1 := gr_ob g4 o_a1
  have o_v0 := gr_ob g4 o_v0
  have g0 := gr_tr (T := S) g0 g4
  intro _ _
  have bb_x2 : x2 = 0 ∨ x2 = 1 := b_x2
  refine ⟨fun c6 => ?_, fun c6 => ?_⟩
  · refine u_X9_undo_17 ?_
    refine ⟨o_v0, ?_⟩
    refine u_X9_refusedBy ?_
    refine u_X9_refusedBy_0 ?_
    refine ⟨o_v0, ?_⟩
    have hI := iv_sI (j := 9) (v := (6 : Int32)) hI o_v0 (by decide) (nu_free (by decide))
    have f0 : FRI _ _ _ (sI S3 v0 9 (6 : Int32)) := fri_sI (S := S3) g0 f0 o_v0 (by decide)
    obtain ⟨y7, hy7⟩ : ∃ z : Int32, z = (6 : Int32) := ⟨_, rfl⟩
    have d_y7 : y7 = fI (sI S3 v0 9 (6 : Int32)) v0 9 := hy7.trans (u2_self _ _ _ _).symm
    refine ⟨fun c8 => ?_, fun c8 => ?_⟩
    · intro _ _
      refine ⟨fun c9 => ?_, fun c9 => ?_⟩
      · exact hq _ _ hI g0 f0 (Or.inl rfl)
      · exact hq _ _ hI g0 f0 (Or.inr rfl)
    · intro _ _
      refine ⟨fun c10 => ?_, fun c10 => ?_⟩
      · exact hq _ _ hI g0 f0 (Or.inl rfl)
      · exact hq _ _ hI g0 f0 (Or.inr rfl)
  · refine u_X9_undo_17 ?_
    refine ⟨o_v0, ?_⟩
    refine u_X9_refusedBy ?_
    refine u_X9_refusedBy_0 ?_
    refine ⟨o_v0, ?_⟩
    have hI := iv_sI (j := 9) (v := (0 : Int32)) hI o_v0 (by decide) (nu_free (by decide))
    have f0 : FRI _ _ _ (sI S3 v0 9 (0 : Int32)) := fri_sI (S := S3) g0 f0 o_v0 (by decide)
    obtain ⟨y11, hy11⟩ : ∃ z : Int32, z = (0 : Int32) := ⟨_, rfl⟩
    have d_y11 : y11 = fI (sI S3 v0 9 (0 : Int32)) v0 9 := hy11.trans (u2_self _ _ _ _).symm
    refine ⟨fun c12 => ?_, fun c12 => ?_⟩
    · intro _ _
      refine ⟨fun c13 => ?_, fun c13 => ?_⟩
      · exact hq _ _ hI g0 f0 (Or.inl rfl)
      · exact hq _ _ hI g0 f0 (Or.inr rfl)
    · intro _ _
      refine ⟨fun c14 => ?_, fun c14 => ?_⟩
      · exact hq _ _ hI g0 f0 (Or.inl rfl)
      · exact hq _ _ hI g0 f0 (Or.inr rfl)
set_option maxHeartbeats 4000000 in
set_option maxRecDepth 20000 in
theorem m_X9_walker {v0 : Nat} {v1 : Int32} {v2 : Int32} {Q : Int32 → HS → Prop} {S : HS} (hI : IV S) (o_v0 : ob S v0 9)     (hq : ∀ (r : Int32) (T : HS), IV T → Gr S T → FRI [(9, 9)] [] S T → Q r T) : P_X9_walker v0 v1 v2 Q S := by
  have g0 := gr_rf S
  have f0 := fri_rf [(9, 9)] [] S
  refine u_X9_walker ?_
  refine u_X9_walker_0 ?_
  refine ⟨o_v0, ?_⟩
  obtain ⟨a1, ea1, o_a1, -⟩ := sh 1 rfl hI o_v0
  refine ⟨a1, ea1, ?_⟩
  refine ⟨o_a1, ?_⟩
  refine m_X8_hasWalker hI o_a1 (fun x2 S3 hI2 g4 b_x2 p_x2 => ?_)
  obtain ⟨z_S3, p_x2⟩ := p_x2
  subst z_S3
  intro _ _
  have bb_x2 : x2 = 0 ∨ x2 = 1 := b_x2
  refine ⟨fun c6 => ?_, fun c6 => ?_⟩
  · refine u_X9_walker_21 ?_
    refine ⟨o_v0, ?_⟩
    refine u_X9_refuse ?_
    refine u_X9_refuse_0 ?_
    refine ⟨o_v0, ?_⟩
    have hI := iv_sI (j := 9) (v := (1 : Int32)) hI o_v0 (by decide) (nu_free (by decide))
    have f0 : FRI _ _ _ (sI S v0 9 (1 : Int32)) := fri_sI (S := S) g0 f0 o_v0 (by decide)
    obtain ⟨y7, hy7⟩ : ∃ z : Int32, z = (1 : Int32) := ⟨_, rfl⟩
    have d_y7 : y7 = fI (sI S v0 9 (1 : Int32)) v0 9 := hy7.trans (u2_self _ _ _ _).symm
    intro _
    exact hq _ _ hI g0 f0
  · refine ⟨fun c8 => ?_, fun c8 => ?_⟩
    · refine u_X9_walker_21 ?_
      refine ⟨o_v0, ?_⟩
      refine u_X9_refuse ?_
      refine u_X9_refuse_0 ?_
      refine ⟨o_v0, ?_⟩
      have hI := iv_sI (j := 9) (v := (1 : Int32)) hI o_v0 (by decide) (nu_free (by decide))
      have f0 : FRI _ _ _ (sI S v0 9 (1 : Int32)) := fri_sI (S := S) g0 f0 o_v0 (by decide)
      obtain ⟨y9, hy9⟩ : ∃ z : Int32, z = (1 : Int32) := ⟨_, rfl⟩
      have d_y9 : y9 = fI (sI S v0 9 (1 : Int32)) v0 9 := hy9.trans (u2_self _ _ _ _).symm
      intro _
      exact hq _ _ hI g0 f0
    · refine ⟨fun c10 => ?_, fun c10 => ?_⟩
      · refine ⟨a1, ea1, ?_⟩
        refine ⟨o_a1, ?_⟩
        obtain ⟨a12, ea12, o_a12, l_a12⟩ := shl 18 rfl hI o_a1
        refine ⟨a12, ea12, ?_⟩
        refine ⟨o_a12, ?_⟩
        have i14 : vp_in v1 (hN _ a12) := (vin l_a12 (m := 4) (by decide) (q399 p_x2 bb_x2 c6 c8 c10))
        obtain ⟨a13, ea13, o_a13⟩ := ae hI o_a12 (by decide) (by decide) i14
        replace o_a13 : ob _ a13 6 := o_a13
        refine ⟨i14, a13, ea13, ?_⟩
        refine ⟨o_a13, ?_⟩
        refine m_X6_tell hI o_a13 (fun x15 S16 hI2 g17 p_x15 => ?_)
        subst p_x15
        intro _
        refine u_X9_grant ?_
        refine u_X9_grant_0 ?_
        refine ⟨o_v0, ?_⟩
        have hI := iv_sI (j := 9) (v := (0 : Int32)) hI o_v0 (by decide) (nu_free (by decide))
        have f0 : FRI _ _ _ (sI S v0 9 (0 : Int32)) := fri_sI (S := S) g0 f0 o_v0 (by decide)
        obtain ⟨y19, hy19⟩ : ∃ z : Int32, z = (0 : Int32) := ⟨_, rfl⟩
        have d_y19 : y19 = fI (sI S v0 9 (0 : Int32)) v0 9 := hy19.trans (u2_self _ _ _ _).symm
        intro _
        exact hq _ _ hI g0 f0
      · refine u_X9_walker_21 ?_
        refine ⟨o_v0, ?_⟩
        refine u_X9_refuse ?_
        refine u_X9_refuse_0 ?_
        refine ⟨o_v0, ?_⟩
        have hI := iv_sI (j := 9) (v := (1 : Int32)) hI o_v0 (by decide) (nu_free (by decide))
        have f0 : FRI _ _ _ (sI S v0 9 (1 : Int32)) := fri_sI (S := S) g0 f0 o_v0 (by decide)
        obtain ⟨y20, hy20⟩ : ∃ z : Int32, z = (1 : Int32) := ⟨_, rfl⟩
        have d_y20 : y20 = fI (sI S v0 9 (1 : Int32)) v0 9 := hy20.trans (u2_self _ _ _ _).symm
        intro _
        exact hq _ _ hI g0 f0
set_option maxHeartbeats 4000000 in
set_option maxRecDepth 20000 in
theorem m_X9_wet {v0 : Nat} {v1 : Int32} {v2 : Int32} {v3 : Int32} {v4 : Int32} {v5 : Int32} {v6 : Int32} {Q : Int64 → HS → Prop} {S : HS} (hI : IV S) (o_v0 : ob S v0 9)     (hq : ∀ (r : Int64) (T : HS), IV T → Gr S T → FRI [(9, 9)] [] S T → Q r T) : P_X9_wet v0 v1 v2 v3 v4 v5 v6 Q S := by
  have g0 := gr_rf S
  have f0 := fri_rf [(9, 9)] [] S
  refine u_X9_wet ?_
  refine u_X9_wet_0 ?_
  refine ⟨o_v0, ?_⟩
  refine m_X9_legTrouble hI o_v0 (fun x1 S2 hI2 g3 p_x1 => ?_)
  obtain ⟨z_S2, p_x1⟩ := p_x1
  subst z_S2
  intro _
  refine u_X9_refusedBy ?_
  refine u_X9_refusedBy_0 ?_
  refine ⟨o_v0, ?_⟩
  have hI := iv_sI (j := 9) (v := x1) hI o_v0 (by decide) (nu_free (by decide))
  have f0 : FRI _ _ _ (sI S v0 9 x1) := fri_sI (S := S) g0 f0 o_v0 (by decide)
  have d_x1 : x1 = fI (sI S v0 9 x1) v0 9 := (u2_self _ _ _ _).symm
  refine ⟨fun c5 => ?_, fun c5 => ?_⟩
  · intro _ _
    refine ⟨fun c6 => ?_, fun c6 => ?_⟩
    · obtain ⟨a7, ea7, o_a7, -⟩ := sh 3 rfl hI o_v0
      refine ⟨a7, ea7, ?_⟩
      obtain ⟨a8, ea8, o_a8, -⟩ := sh 1 rfl hI o_v0
      refine ⟨a8, ea8, ?_⟩
      refine ⟨o_a8, ?_⟩
      obtain ⟨a9, ea9, o_a9, l_a9⟩ := shl 18 rfl hI o_a8
      refine ⟨a9, ea9, ?_⟩
      refine ⟨o_a9, ?_⟩
      have i11 : vp_in v1 (hN _ a9) := (vin l_a9 (m := 4) (by decide) (q0 p_x1 c5))
      obtain ⟨a10, ea10, o_a10⟩ := ae hI o_a9 (by decide) (by decide) i11
      replace o_a10 : ob _ a10 6 := o_a10
      refine ⟨i11, a10, ea10, ?_⟩
      refine ⟨a8, ea8, ?_⟩
      refine ⟨o_a8, ?_⟩
      obtain ⟨a13, ea13, o_a13, l_a13⟩ := shl 17 rfl hI o_a8
      refine ⟨a13, ea13, ?_⟩
      refine ⟨o_a13, ?_⟩
      have i15 : vp_in v2 (hN _ a13) := (vin l_a13 (m := 12) (by decide) (q1 p_x1 c5))
      obtain ⟨a14, ea14, o_a14⟩ := ae hI o_a13 (by decide) (by decide) i15
      replace o_a14 : ob _ a14 5 := o_a14
      refine ⟨i15, a14, ea14, ?_⟩
      refine ⟨a8, ea8, ?_⟩
      refine ⟨o_a8, ?_⟩
      obtain ⟨a17, ea17, o_a17, l_a17⟩ := shl 15 rfl hI o_a8
      refine ⟨a17, ea17, ?_⟩
      refine ⟨o_a17, ?_⟩
      have i19 : vp_in v4 (hN _ a17) := (vin l_a17 (m := 6) (by decide) (q2 p_x1 c5))
      obtain ⟨a18, ea18, o_a18⟩ := ae hI o_a17 (by decide) (by decide) i19
      replace o_a18 : ob _ a18 3 := o_a18
      refine ⟨i19, a18, ea18, ?_⟩
      refine ⟨o_a7, ?_⟩
      refine m_X1_wetOf hI o_a7 o_a10 o_a14 o_a18 (fun x20 S21 hI g22 fc23 => ?_)
      have l_a13 := (gr_len g22 o_a13).trans l_a13
      have l_a17 := (gr_len g22 o_a17).trans l_a17
      have l_a9 := (gr_len g22 o_a9).trans l_a9
      have d_x1 := d_x1.trans (fri_at fc23 (by decide) (by decide) o_v0).symm
      have ea7 := (frr_at fc23 (by decide) (by decide) o_v0).trans ea7
      have ea8 := (frr_at fc23 (by decide) (by decide) o_v0).trans ea8
      have ea9 := (frr_at fc23 (by decide) (by decide) o_a8).trans ea9
      have ea13 := (frr_at fc23 (by decide) (by decide) o_a8).trans ea13
      have ea17 := (frr_at fc23 (by decide) (by decide) o_a8).trans ea17
      have f0 := fri_tr (S := sI S v0 9 x1) g0 f0 fc23 (by decide) (by decide)
      have o_a10 := gr_ob g22 o_a10
      have o_a13 := gr_ob g22 o_a13
      have o_a14 := gr_ob g22 o_a14
      have o_a17 := gr_ob g22 o_a17
      have o_a18 := gr_ob g22 o_a18
      have o_a7 := gr_ob g22 o_a7
      have o_a8 := gr_ob g22 o_a8
      have o_a9 := gr_ob g22 o_a9
      have o_v0 := gr_ob g22 o_v0
      have g0 := gr_tr (T := sI S v0 9 x1) g0 g22
      intro _
      refine m_X9_fraction hI (fun x24 S25 hI2 g26 p_x24 => ?_)
      subst p_x24
      intro _
      exact hq _ _ hI g0 f0
    · exact hq _ _ hI g0 f0
  · intro _ _
    refine ⟨fun c28 => ?_, fun c28 => ?_⟩
    · obtain ⟨a29, ea29, o_a29, -⟩ := sh 3 rfl hI o_v0
      refine ⟨a29, ea29, ?_⟩
      obtain ⟨a30, ea30, o_a30, -⟩ := sh 1 rfl hI o_v0
      refine ⟨a30, ea30, ?_⟩
      refine ⟨o_a30, ?_⟩
      obtain ⟨a31, ea31, o_a31, l_a31⟩ := shl 18 rfl hI o_a30
      refine ⟨a31, ea31, ?_⟩
      refine ⟨o_a31, ?_⟩
      have i33 : vp_in v1 (hN _ a31) := (vin l_a31 (m := 4) (by decide) (q3 p_x1 c5 c28))
      obtain ⟨a32, ea32, o_a32⟩ := ae hI o_a31 (by decide) (by decide) i33
      replace o_a32 : ob _ a32 6 := o_a32
      refine ⟨i33, a32, ea32, ?_⟩
      refine ⟨a30, ea30, ?_⟩
      refine ⟨o_a30, ?_⟩
      obtain ⟨a35, ea35, o_a35, l_a35⟩ := shl 17 rfl hI o_a30
      refine ⟨a35, ea35, ?_⟩
      refine ⟨o_a35, ?_⟩
      have i37 : vp_in v2 (hN _ a35) := (vin l_a35 (m := 12) (by decide) (q4 p_x1 c5 c28))
      obtain ⟨a36, ea36, o_a36⟩ := ae hI o_a35 (by decide) (by decide) i37
      replace o_a36 : ob _ a36 5 := o_a36
      refine ⟨i37, a36, ea36, ?_⟩
      refine ⟨a30, ea30, ?_⟩
      refine ⟨o_a30, ?_⟩
      obtain ⟨a39, ea39, o_a39, l_a39⟩ := shl 15 rfl hI o_a30
      refine ⟨a39, ea39, ?_⟩
      refine ⟨o_a39, ?_⟩
      have i41 : vp_in v4 (hN _ a39) := (vin l_a39 (m := 6) (by decide) (q5 p_x1 c5 c28))
      obtain ⟨a40, ea40, o_a40⟩ := ae hI o_a39 (by decide) (by decide) i41
      replace o_a40 : ob _ a40 3 := o_a40
      refine ⟨i41, a40, ea40, ?_⟩
      refine ⟨o_a29, ?_⟩
      refine m_X1_wetOf hI o_a29 o_a32 o_a36 o_a40 (fun x42 S43 hI g44 fc45 => ?_)
      have l_a31 := (gr_len g44 o_a31).trans l_a31
      have l_a35 := (gr_len g44 o_a35).trans l_a35
      have l_a39 := (gr_len g44 o_a39).trans l_a39
      have d_x1 := d_x1.trans (fri_at fc45 (by decide) (by decide) o_v0).symm
      have ea29 := (frr_at fc45 (by decide) (by decide) o_v0).trans ea29
      have ea30 := (frr_at fc45 (by decide) (by decide) o_v0).trans ea30
      have ea31 := (frr_at fc45 (by decide) (by decide) o_a30).trans ea31
      have ea35 := (frr_at fc45 (by decide) (by decide) o_a30).trans ea35
      have ea39 := (frr_at fc45 (by decide) (by decide) o_a30).trans ea39
      have f0 := fri_tr (S := sI S v0 9 x1) g0 f0 fc45 (by decide) (by decide)
      have o_a29 := gr_ob g44 o_a29
      have o_a30 := gr_ob g44 o_a30
      have o_a31 := gr_ob g44 o_a31
      have o_a32 := gr_ob g44 o_a32
      have o_a35 := gr_ob g44 o_a35
      have o_a36 := gr_ob g44 o_a36
      have o_a39 := gr_ob g44 o_a39
      have o_a40 := gr_ob g44 o_a40
      have o_v0 := gr_ob g44 o_v0
      have g0 := gr_tr (T := sI S v0 9 x1) g0 g44
      intro _
      refine m_X9_fraction hI (fun x46 S47 hI2 g48 p_x46 => ?_)
      subst p_x46
      intro _
      exact hq _ _ hI g0 f0
    · exact hq _ _ hI g0 f0
set_option maxHeartbeats 4000000 in
set_option maxRecDepth 20000 in
theorem m_X9_wetness {v0 : Nat} {v1 : Int32} {Q : Int64 → HS → Prop} {S : HS} (hI : IV S) (o_v0 : ob S v0 9)     (hq : ∀ (r : Int64) (T : HS), IV T → Gr S T → FRI [(9, 9)] [] S T → Q r T) : P_X9_wetness v0 v1 Q S := by
  have g0 := gr_rf S
  have f0 := fri_rf [(9, 9)] [] S
  refine u_X9_wetness ?_
  refine u_X9_wetness_0 ?_
  refine ⟨o_v0, ?_⟩
  obtain ⟨a1, ea1, o_a1, -⟩ := sh 5 rfl hI o_v0
  refine ⟨a1, ea1, ?_⟩
  refine ⟨o_a1, ?_⟩
  refine m_X0_isOn hI o_a1 (fun x2 S3 hI2 g4 b_x2 p_x2 => ?_)
  subst p_x2
  intro _ _
  have bb_x2 : x2 = 0 ∨ x2 = 1 := b_x2
  refine ⟨fun c6 => ?_, fun c6 => ?_⟩
  · refine u_X9_wetness_27 ?_
    refine ⟨o_v0, ?_⟩
    refine u_X9_refuse ?_
    refine u_X9_refuse_0 ?_
    refine ⟨o_v0, ?_⟩
    have hI := iv_sI (j := 9) (v := (1 : Int32)) hI o_v0 (by decide) (nu_free (by decide))
    have f0 : FRI _ _ _ (sI S v0 9 (1 : Int32)) := fri_sI (S := S) g0 f0 o_v0 (by decide)
    obtain ⟨y7, hy7⟩ : ∃ z : Int32, z = (1 : Int32) := ⟨_, rfl⟩
    have d_y7 : y7 = fI (sI S v0 9 (1 : Int32)) v0 9 := hy7.trans (u2_self _ _ _ _).symm
    intro _
    exact hq _ _ hI g0 f0
  · obtain ⟨a8, ea8, o_a8, -⟩ := sh 1 rfl hI o_v0
    refine ⟨a8, ea8, ?_⟩
    refine ⟨a1, ea1, ?_⟩
    refine ⟨o_a1, ?_⟩
    intro x10 ex10
    have r_x10 : (-1 : Int32) ≤ x10 ∧ x10 ≤ (3 : Int32) := by rw [ex10]; exact nu 1 rfl hI o_a1
    have d_x10 := ex10
    refine ⟨o_a8, ?_⟩
    refine m_X8_hasWalker hI o_a8 (fun x11 S12 hI2 g13 b_x11 p_x11 => ?_)
    obtain ⟨z_S12, p_x11⟩ := p_x11
    subst z_S12
    intro _ _
    have bb_x11 : x11 = 0 ∨ x11 = 1 := b_x11
    refine ⟨fun c15 => ?_, fun c15 => ?_⟩
    · have hI := iv_sI (j := 9) (v := (0 : Int32)) hI o_v0 (by decide) (nu_free (by decide))
      have f0 : FRI _ _ _ (sI S v0 9 (0 : Int32)) := fri_sI (S := S) g0 f0 o_v0 (by decide)
      have d_x10 : x10 = fI (sI S v0 9 (0 : Int32)) a1 0 := d_x10.trans (sI_ne (S := S) o_v0 o_a1 (by decide) 0).symm
      obtain ⟨y16, hy16⟩ : ∃ z : Int32, z = (0 : Int32) := ⟨_, rfl⟩
      have d_y16 : y16 = fI (sI S v0 9 (0 : Int32)) v0 9 := hy16.trans (u2_self _ _ _ _).symm
      refine ⟨a1, ea1, ?_⟩
      refine ⟨o_a1, ?_⟩
      obtain ⟨a18, ea18, o_a18, -⟩ := sh 6 rfl hI o_a1
      refine ⟨a18, ea18, ?_⟩
      refine ⟨o_a18, ?_⟩
      refine m_X2_allGot hI o_a18 (fun x19 S20 hI2 g21 p_x19 => ?_)
      subst p_x19
      intro _
      refine ⟨a8, ea8, ?_⟩
      refine ⟨o_a8, ?_⟩
      obtain ⟨a24, ea24, o_a24, l_a24⟩ := shl 18 rfl hI o_a8
      refine ⟨a24, ea24, ?_⟩
      refine ⟨a1, ea1, ?_⟩
      refine ⟨o_a1, ?_⟩
      intro x26 ex26
      have r_x26 : (-1 : Int32) ≤ x26 ∧ x26 ≤ (3 : Int32) := by rw [ex26]; exact nu 1 rfl hI o_a1
      have q_x26 : x26 = x10 := ex26.trans d_x10.symm
      have d_x26 := ex26
      refine ⟨o_a24, ?_⟩
      have i28 : vp_in x26 (hN _ a24) := (vin l_a24 (m := 4) (by decide) (q81 bb_x2 c6 r_x10 p_x11 bb_x11 c15 r_x26 q_x26))
      obtain ⟨a27, ea27, o_a27⟩ := ae hI o_a24 (by decide) (by decide) i28
      replace o_a27 : ob _ a27 6 := o_a27
      refine ⟨i28, a27, ea27, ?_⟩
      refine m_X9_coatParts hI o_a27 (fun x29 S30 hI2 g31 p_x29 => ?_)
      subst p_x29
      intro _
      intro x33 ex33
      intro x34 ex34
      refine m_X9_fraction hI (fun x35 S36 hI2 g37 p_x35 => ?_)
      subst p_x35
      intro _
      exact hq _ _ hI g0 f0
    · refine u_X9_wetness_27 ?_
      refine ⟨o_v0, ?_⟩
      refine u_X9_refuse ?_
      refine u_X9_refuse_0 ?_
      refine ⟨o_v0, ?_⟩
      have hI := iv_sI (j := 9) (v := (1 : Int32)) hI o_v0 (by decide) (nu_free (by decide))
      have f0 : FRI _ _ _ (sI S v0 9 (1 : Int32)) := fri_sI (S := S) g0 f0 o_v0 (by decide)
      have d_x10 : x10 = fI (sI S v0 9 (1 : Int32)) a1 0 := d_x10.trans (sI_ne (S := S) o_v0 o_a1 (by decide) 0).symm
      obtain ⟨y39, hy39⟩ : ∃ z : Int32, z = (1 : Int32) := ⟨_, rfl⟩
      have d_y39 : y39 = fI (sI S v0 9 (1 : Int32)) v0 9 := hy39.trans (u2_self _ _ _ _).symm
      intro _
      exact hq _ _ hI g0 f0
set_option maxHeartbeats 4000000 in
set_option maxRecDepth 20000 in
theorem m_X9_where {v0 : Nat} {Q : Int32 → HS → Prop} {S : HS} (hI : IV S) (o_v0 : ob S v0 9)     (hq : ∀ (r : Int32) (T : HS), IV T → Gr S T → (S = T) → Q r T) : P_X9_where v0 Q S := by
  have g0 := gr_rf S
  refine u_X9_where ?_
  refine u_X9_where_0 ?_
  refine ⟨o_v0, ?_⟩
  intro x1 ex1
  have d_x1 := ex1
  refine ⟨fun c2 => ?_, fun c2 => ?_⟩
  · exact hq _ _ hI g0 rfl
  · intro x3 ex3
    have d_x3 := ex3
    exact hq _ _ hI g0 rfl
set_option maxHeartbeats 4000000 in
set_option maxRecDepth 20000 in
theorem m_X9_world {v0 : Nat} {v1 : Int32} {Q : Int32 → HS → Prop} {S : HS} (hI : IV S) (o_v0 : ob S v0 9)     (hq : ∀ (r : Int32) (T : HS), IV T → Gr S T → FRI [(0, 0), (0, 2), (0, 3), (3, 0), (3, 1), (3, 2), (3, 3), (3, 4), (4, 0), (4, 1), (4, 3), (4, 4), (4, 6), (4, 7), (4, 9), (4, 10), (5, 0), (5, 1), (5, 2), (5, 3), (5, 4), (6, 0), (6, 1), (6, 2), (6, 3), (6, 4), (6, 5), (6, 6), (7, 10), (8, 0), (8, 1), (8, 2), (8, 3), (8, 4), (8, 5), (9, 1), (9, 7), (9, 8), (9, 9)] [(4, 2), (4, 5), (9, 2)] S T → Q r T) : P_X9_world v0 v1 Q S := by
  have g0 := gr_rf S
  have f0 := fri_rf [(0, 0), (0, 2), (0, 3), (3, 0), (3, 1), (3, 2), (3, 3), (3, 4), (4, 0), (4, 1), (4, 3), (4, 4), (4, 6), (4, 7), (4, 9), (4, 10), (5, 0), (5, 1), (5, 2), (5, 3), (5, 4), (6, 0), (6, 1), (6, 2), (6, 3), (6, 4), (6, 5), (6, 6), (7, 10), (8, 0), (8, 1), (8, 2), (8, 3), (8, 4), (8, 5), (9, 1), (9, 7), (9, 8), (9, 9)] [(4, 2), (4, 5), (9, 2)] S
  refine u_X9_world ?_
  refine u_X9_world_0 ?_
  refine ⟨fun c1 => ?_, fun c1 => ?_⟩
  · refine u_X9_world_12 ?_
    refine ⟨o_v0, ?_⟩
    refine u_X9_refuse ?_
    refine u_X9_refuse_0 ?_
    refine ⟨o_v0, ?_⟩
    have hI := iv_sI (j := 9) (v := (2 : Int32)) hI o_v0 (by decide) (nu_free (by decide))
    have f0 : FRI _ _ _ (sI S v0 9 (2 : Int32)) := fri_sI (S := S) g0 f0 o_v0 (by decide)
    obtain ⟨y2, hy2⟩ : ∃ z : Int32, z = (2 : Int32) := ⟨_, rfl⟩
    have d_y2 : y2 = fI (sI S v0 9 (2 : Int32)) v0 9 := hy2.trans (u2_self _ _ _ _).symm
    intro _
    exact hq _ _ hI g0 f0
  · refine ⟨o_v0, ?_⟩
    intro x3 ex3
    have r_x3 : (0 : Int32) ≤ x3 ∧ x3 ≤ (900 : Int32) := by rw [ex3]; exact nu 0 rfl hI o_v0
    have d_x3 := ex3
    refine ⟨fun c4 => ?_, fun c4 => ?_⟩
    · obtain ⟨a5, ea5, o_a5, -⟩ := sh 2 rfl hI o_v0
      refine ⟨a5, ea5, ?_⟩
      obtain ⟨a6, ea6, o_a6, l_a6⟩ := shl 0 rfl hI o_v0
      refine ⟨a6, ea6, ?_⟩
      refine ⟨o_a5, ?_⟩
      refine m_X4_read hI o_a5 o_a6 l_a6 (q76 c1 r_x3 c4) (fun x7 S8 hI g9 fc10 b_x7 => ?_)
      have l_a6 := (gr_len g9 o_a6).trans l_a6
      have d_x3 := d_x3.trans (fri_at fc10 (by decide) (by decide) o_v0).symm
      have ea5 := (frr_at fc10 (by decide) (by decide) o_v0).trans ea5
      have ea6 := (frr_at fc10 (by decide) (by decide) o_v0).trans ea6
      have f0 := fri_tr (S := S) g0 f0 fc10 (by decide) (by decide)
      have o_a5 := gr_ob g9 o_a5
      have o_a6 := gr_ob g9 o_a6
      have o_v0 := gr_ob g9 o_v0
      have g0 := gr_tr (T := S) g0 g9
      intro _ _
      have bb_x7 : x7 = 0 ∨ x7 = 1 := b_x7
      have hI := iv_sI (j := 1) (v := (0 : Int32)) hI o_v0 (by decide) (nu_one (lo := (0 : Int32)) (hi := (900 : Int32)) (by decide) (q77 c1 r_x3 c4))
      have f0 : FRI _ _ _ (sI S8 v0 1 (0 : Int32)) := fri_sI (S := S8) g0 f0 o_v0 (by decide)
      obtain ⟨y11, hy11⟩ : ∃ z : Int32, z = (0 : Int32) := ⟨_, rfl⟩
      have d_y11 : y11 = fI (sI S8 v0 1 (0 : Int32)) v0 1 := hy11.trans (u2_self _ _ _ _).symm
      refine ⟨a5, ea5, ?_⟩
      refine ⟨o_a5, ?_⟩
      intro x13 ex13
      have d_x13 := ex13
      have hI := iv_sI (j := 7) (v := x13) hI o_v0 (by decide) (nu_free (by decide))
      have f0 : FRI _ _ _ (sI (sI S8 v0 1 (0 : Int32)) v0 7 x13) := fri_sI (S := sI S8 v0 1 (0 : Int32)) g0 f0 o_v0 (by decide)
      have d_y11 : y11 = fI (sI (sI S8 v0 1 (0 : Int32)) v0 7 x13) v0 1 := d_y11.trans (rd_j (by decide)).symm
      have d_x13 : x13 = fI (sI (sI S8 v0 1 (0 : Int32)) v0 7 x13) a5 0 := d_x13.trans (sI_ne (S := sI S8 v0 1 (0 : Int32)) o_v0 o_a5 (by decide) 0).symm
      have d_x13 : x13 = fI (sI (sI S8 v0 1 (0 : Int32)) v0 7 x13) v0 7 := (u2_self _ _ _ _).symm
      refine ⟨a5, ea5, ?_⟩
      refine ⟨o_a5, ?_⟩
      intro x15 ex15
      have d_x15 := ex15
      have hI := iv_sI (j := 8) (v := x15) hI o_v0 (by decide) (nu_free (by decide))
      have f0 : FRI _ _ _ (sI (sI (sI S8 v0 1 (0 : Int32)) v0 7 x13) v0 8 x15) := fri_sI (S := sI (sI S8 v0 1 (0 : Int32)) v0 7 x13) g0 f0 o_v0 (by decide)
      have d_y11 : y11 = fI (sI (sI (sI S8 v0 1 (0 : Int32)) v0 7 x13) v0 8 x15) v0 1 := d_y11.trans (rd_j (by decide)).symm
      have d_x13 : x13 = fI (sI (sI (sI S8 v0 1 (0 : Int32)) v0 7 x13) v0 8 x15) a5 0 := d_x13.trans (sI_ne (S := sI (sI S8 v0 1 (0 : Int32)) v0 7 x13) o_v0 o_a5 (by decide) 0).symm
      have d_x13 : x13 = fI (sI (sI (sI S8 v0 1 (0 : Int32)) v0 7 x13) v0 8 x15) v0 7 := d_x13.trans (rd_j (by decide)).symm
      have d_x15 : x15 = fI (sI (sI (sI S8 v0 1 (0 : Int32)) v0 7 x13) v0 8 x15) a5 1 := d_x15.trans (sI_ne (S := sI (sI S8 v0 1 (0 : Int32)) v0 7 x13) o_v0 o_a5 (by decide) 1).symm
      have d_x15 : x15 = fI (sI (sI (sI S8 v0 1 (0 : Int32)) v0 7 x13) v0 8 x15) v0 8 := (u2_self _ _ _ _).symm
      refine ⟨fun c16 => ?_, fun c16 => ?_⟩
      · refine ⟨a5, ea5, ?_⟩
        obtain ⟨a18, ea18, o_a18, -⟩ := sh 1 rfl hI o_v0
        refine ⟨a18, ea18, ?_⟩
        refine ⟨o_a5, ?_⟩
        refine u_X4_exchange ?_
        refine u_X4_exchange_0 ?_
        refine ⟨o_a5, ?_⟩
        obtain ⟨a19, ea19, o_a19, -⟩ := sh 12 rfl hI o_a5
        refine ⟨a19, ea19, ?_⟩
        have hI := iv_sR (j := 5) (v := a18) hI o_a5 (by decide) (by decide) (sh_one (by decide) ⟨o_a18, Or.inl rfl⟩)
        have f0 : FRI _ _ _ (sR (sI (sI (sI S8 v0 1 (0 : Int32)) v0 7 x13) v0 8 x15) a5 5 (some a18)) := fri_sR (S := sI (sI (sI S8 v0 1 (0 : Int32)) v0 7 x13) v0 8 x15) g0 f0 o_a5 (by decide)
        intro _
        have hI := iv_sR (j := 2) (v := a19) hI o_v0 (by decide) (by decide) (sh_one (by decide) ⟨o_a19, Or.inl rfl⟩)
        have f0 : FRI _ _ _ (sR (sR (sI (sI (sI S8 v0 1 (0 : Int32)) v0 7 x13) v0 8 x15) a5 5 (some a18)) v0 2 (some a19)) := fri_sR (S := sR (sI (sI (sI S8 v0 1 (0 : Int32)) v0 7 x13) v0 8 x15) a5 5 (some a18)) g0 f0 o_v0 (by decide)
        obtain ⟨a20, ea20, o_a20, -⟩ := sh 4 rfl hI o_v0
        refine ⟨a20, ea20, ?_⟩
        refine ⟨o_a20, ?_⟩
        refine u_X7_forget ?_
        refine u_X7_forget_0 ?_
        refine ⟨o_a20, ?_⟩
        have hI := iv_sI (j := 10) (v := (-1 : Int32)) hI o_a20 (by decide) (nu_free (by decide))
        have f0 : FRI _ _ _ (sI (sR (sR (sI (sI (sI S8 v0 1 (0 : Int32)) v0 7 x13) v0 8 x15) a5 5 (some a18)) v0 2 (some a19)) a20 10 (-1 : Int32)) := fri_sI (S := sR (sR (sI (sI (sI S8 v0 1 (0 : Int32)) v0 7 x13) v0 8 x15) a5 5 (some a18)) v0 2 (some a19)) g0 f0 o_a20 (by decide)
        have d_y11 : y11 = fI (sI (sR (sR (sI (sI (sI S8 v0 1 (0 : Int32)) v0 7 x13) v0 8 x15) a5 5 (some a18)) v0 2 (some a19)) a20 10 (-1 : Int32)) v0 1 := d_y11.trans (sI_ne (S := sR (sR (sI (sI (sI S8 v0 1 (0 : Int32)) v0 7 x13) v0 8 x15) a5 5 (some a18)) v0 2 (some a19)) o_a20 o_v0 (by decide) 1).symm
        have d_x13 : x13 = fI (sI (sR (sR (sI (sI (sI S8 v0 1 (0 : Int32)) v0 7 x13) v0 8 x15) a5 5 (some a18)) v0 2 (some a19)) a20 10 (-1 : Int32)) a5 0 := d_x13.trans (sI_ne (S := sR (sR (sI (sI (sI S8 v0 1 (0 : Int32)) v0 7 x13) v0 8 x15) a5 5 (some a18)) v0 2 (some a19)) o_a20 o_a5 (by decide) 0).symm
        have d_x13 : x13 = fI (sI (sR (sR (sI (sI (sI S8 v0 1 (0 : Int32)) v0 7 x13) v0 8 x15) a5 5 (some a18)) v0 2 (some a19)) a20 10 (-1 : Int32)) v0 7 := d_x13.trans (sI_ne (S := sR (sR (sI (sI (sI S8 v0 1 (0 : Int32)) v0 7 x13) v0 8 x15) a5 5 (some a18)) v0 2 (some a19)) o_a20 o_v0 (by decide) 7).symm
        have d_x15 : x15 = fI (sI (sR (sR (sI (sI (sI S8 v0 1 (0 : Int32)) v0 7 x13) v0 8 x15) a5 5 (some a18)) v0 2 (some a19)) a20 10 (-1 : Int32)) a5 1 := d_x15.trans (sI_ne (S := sR (sR (sI (sI (sI S8 v0 1 (0 : Int32)) v0 7 x13) v0 8 x15) a5 5 (some a18)) v0 2 (some a19)) o_a20 o_a5 (by decide) 1).symm
        have d_x15 : x15 = fI (sI (sR (sR (sI (sI (sI S8 v0 1 (0 : Int32)) v0 7 x13) v0 8 x15) a5 5 (some a18)) v0 2 (some a19)) a20 10 (-1 : Int32)) v0 8 := d_x15.trans (sI_ne (S := sR (sR (sI (sI (sI S8 v0 1 (0 : Int32)) v0 7 x13) v0 8 x15) a5 5 (some a18)) v0 2 (some a19)) o_a20 o_v0 (by decide) 8).symm
        obtain ⟨y21, hy21⟩ : ∃ z : Int32, z = (-1 : Int32) := ⟨_, rfl⟩
        have d_y21 : y21 = fI (sI (sR (sR (sI (sI (sI S8 v0 1 (0 : Int32)) v0 7 x13) v0 8 x15) a5 5 (some a18)) v0 2 (some a19)) a20 10 (-1 : Int32)) a20 10 := hy21.trans (u2_self _ _ _ _).symm
        intro _
        obtain ⟨a22, ea22, o_a22, -⟩ := sh 5 rfl hI o_v0
        refine ⟨a22, ea22, ?_⟩
        refine ⟨o_a22, ?_⟩
        refine u_X0_end ?_
        refine u_X0_end_0 ?_
        refine ⟨o_a22, ?_⟩
        have hI := iv_sI (j := 0) (v := (-1 : Int32)) hI o_a22 (by decide) (nu_one (lo := (-1 : Int32)) (hi := (3 : Int32)) (by decide) (q78 c1 r_x3 c4 bb_x7 c16))
        have f0 : FRI _ _ _ (sI (sI (sR (sR (sI (sI (sI S8 v0 1 (0 : Int32)) v0 7 x13) v0 8 x15) a5 5 (some a18)) v0 2 (some a19)) a20 10 (-1 : Int32)) a22 0 (-1 : Int32)) := fri_sI (S := sI (sR (sR (sI (sI (sI S8 v0 1 (0 : Int32)) v0 7 x13) v0 8 x15) a5 5 (some a18)) v0 2 (some a19)) a20 10 (-1 : Int32)) g0 f0 o_a22 (by decide)
        have d_y11 : y11 = fI (sI (sI (sR (sR (sI (sI (sI S8 v0 1 (0 : Int32)) v0 7 x13) v0 8 x15) a5 5 (some a18)) v0 2 (some a19)) a20 10 (-1 : Int32)) a22 0 (-1 : Int32)) v0 1 := d_y11.trans (sI_ne (S := sI (sR (sR (sI (sI (sI S8 v0 1 (0 : Int32)) v0 7 x13) v0 8 x15) a5 5 (some a18)) v0 2 (some a19)) a20 10 (-1 : Int32)) o_a22 o_v0 (by decide) 1).symm
        have d_x13 : x13 = fI (sI (sI (sR (sR (sI (sI (sI S8 v0 1 (0 : Int32)) v0 7 x13) v0 8 x15) a5 5 (some a18)) v0 2 (some a19)) a20 10 (-1 : Int32)) a22 0 (-1 : Int32)) a5 0 := d_x13.trans (sI_ne (S := sI (sR (sR (sI (sI (sI S8 v0 1 (0 : Int32)) v0 7 x13) v0 8 x15) a5 5 (some a18)) v0 2 (some a19)) a20 10 (-1 : Int32)) o_a22 o_a5 (by decide) 0).symm
        have d_x13 : x13 = fI (sI (sI (sR (sR (sI (sI (sI S8 v0 1 (0 : Int32)) v0 7 x13) v0 8 x15) a5 5 (some a18)) v0 2 (some a19)) a20 10 (-1 : Int32)) a22 0 (-1 : Int32)) v0 7 := d_x13.trans (sI_ne (S := sI (sR (sR (sI (sI (sI S8 v0 1 (0 : Int32)) v0 7 x13) v0 8 x15) a5 5 (some a18)) v0 2 (some a19)) a20 10 (-1 : Int32)) o_a22 o_v0 (by decide) 7).symm
        have d_x15 : x15 = fI (sI (sI (sR (sR (sI (sI (sI S8 v0 1 (0 : Int32)) v0 7 x13) v0 8 x15) a5 5 (some a18)) v0 2 (some a19)) a20 10 (-1 : Int32)) a22 0 (-1 : Int32)) a5 1 := d_x15.trans (sI_ne (S := sI (sR (sR (sI (sI (sI S8 v0 1 (0 : Int32)) v0 7 x13) v0 8 x15) a5 5 (some a18)) v0 2 (some a19)) a20 10 (-1 : Int32)) o_a22 o_a5 (by decide) 1).symm
        have d_x15 : x15 = fI (sI (sI (sR (sR (sI (sI (sI S8 v0 1 (0 : Int32)) v0 7 x13) v0 8 x15) a5 5 (some a18)) v0 2 (some a19)) a20 10 (-1 : Int32)) a22 0 (-1 : Int32)) v0 8 := d_x15.trans (sI_ne (S := sI (sR (sR (sI (sI (sI S8 v0 1 (0 : Int32)) v0 7 x13) v0 8 x15) a5 5 (some a18)) v0 2 (some a19)) a20 10 (-1 : Int32)) o_a22 o_v0 (by decide) 8).symm
        have d_y21 : y21 = fI (sI (sI (sR (sR (sI (sI (sI S8 v0 1 (0 : Int32)) v0 7 x13) v0 8 x15) a5 5 (some a18)) v0 2 (some a19)) a20 10 (-1 : Int32)) a22 0 (-1 : Int32)) a20 10 := d_y21.trans (sI_ne (S := sI (sR (sR (sI (sI (sI S8 v0 1 (0 : Int32)) v0 7 x13) v0 8 x15) a5 5 (some a18)) v0 2 (some a19)) a20 10 (-1 : Int32)) o_a22 o_a20 (by decide) 10).symm
        obtain ⟨y23, hy23⟩ : ∃ z : Int32, z = (-1 : Int32) := ⟨_, rfl⟩
        have d_y23 : y23 = fI (sI (sI (sR (sR (sI (sI (sI S8 v0 1 (0 : Int32)) v0 7 x13) v0 8 x15) a5 5 (some a18)) v0 2 (some a19)) a20 10 (-1 : Int32)) a22 0 (-1 : Int32)) a22 0 := hy23.trans (u2_self _ _ _ _).symm
        have hI := iv_sI (j := 2) (v := (0 : Int32)) hI o_a22 (by decide) (nu_one (lo := (0 : Int32)) (hi := (16 : Int32)) (by decide) (q79 c1 r_x3 c4 bb_x7 c16))
        have f0 : FRI _ _ _ (sI (sI (sI (sR (sR (sI (sI (sI S8 v0 1 (0 : Int32)) v0 7 x13) v0 8 x15) a5 5 (some a18)) v0 2 (some a19)) a20 10 (-1 : Int32)) a22 0 (-1 : Int32)) a22 2 (0 : Int32)) := fri_sI (S := sI (sI (sR (sR (sI (sI (sI S8 v0 1 (0 : Int32)) v0 7 x13) v0 8 x15) a5 5 (some a18)) v0 2 (some a19)) a20 10 (-1 : Int32)) a22 0 (-1 : Int32)) g0 f0 o_a22 (by decide)
        have d_y11 : y11 = fI (sI (sI (sI (sR (sR (sI (sI (sI S8 v0 1 (0 : Int32)) v0 7 x13) v0 8 x15) a5 5 (some a18)) v0 2 (some a19)) a20 10 (-1 : Int32)) a22 0 (-1 : Int32)) a22 2 (0 : Int32)) v0 1 := d_y11.trans (sI_ne (S := sI (sI (sR (sR (sI (sI (sI S8 v0 1 (0 : Int32)) v0 7 x13) v0 8 x15) a5 5 (some a18)) v0 2 (some a19)) a20 10 (-1 : Int32)) a22 0 (-1 : Int32)) o_a22 o_v0 (by decide) 1).symm
        have d_x13 : x13 = fI (sI (sI (sI (sR (sR (sI (sI (sI S8 v0 1 (0 : Int32)) v0 7 x13) v0 8 x15) a5 5 (some a18)) v0 2 (some a19)) a20 10 (-1 : Int32)) a22 0 (-1 : Int32)) a22 2 (0 : Int32)) a5 0 := d_x13.trans (sI_ne (S := sI (sI (sR (sR (sI (sI (sI S8 v0 1 (0 : Int32)) v0 7 x13) v0 8 x15) a5 5 (some a18)) v0 2 (some a19)) a20 10 (-1 : Int32)) a22 0 (-1 : Int32)) o_a22 o_a5 (by decide) 0).symm
        have d_x13 : x13 = fI (sI (sI (sI (sR (sR (sI (sI (sI S8 v0 1 (0 : Int32)) v0 7 x13) v0 8 x15) a5 5 (some a18)) v0 2 (some a19)) a20 10 (-1 : Int32)) a22 0 (-1 : Int32)) a22 2 (0 : Int32)) v0 7 := d_x13.trans (sI_ne (S := sI (sI (sR (sR (sI (sI (sI S8 v0 1 (0 : Int32)) v0 7 x13) v0 8 x15) a5 5 (some a18)) v0 2 (some a19)) a20 10 (-1 : Int32)) a22 0 (-1 : Int32)) o_a22 o_v0 (by decide) 7).symm
        have d_x15 : x15 = fI (sI (sI (sI (sR (sR (sI (sI (sI S8 v0 1 (0 : Int32)) v0 7 x13) v0 8 x15) a5 5 (some a18)) v0 2 (some a19)) a20 10 (-1 : Int32)) a22 0 (-1 : Int32)) a22 2 (0 : Int32)) a5 1 := d_x15.trans (sI_ne (S := sI (sI (sR (sR (sI (sI (sI S8 v0 1 (0 : Int32)) v0 7 x13) v0 8 x15) a5 5 (some a18)) v0 2 (some a19)) a20 10 (-1 : Int32)) a22 0 (-1 : Int32)) o_a22 o_a5 (by decide) 1).symm
        have d_x15 : x15 = fI (sI (sI (sI (sR (sR (sI (sI (sI S8 v0 1 (0 : Int32)) v0 7 x13) v0 8 x15) a5 5 (some a18)) v0 2 (some a19)) a20 10 (-1 : Int32)) a22 0 (-1 : Int32)) a22 2 (0 : Int32)) v0 8 := d_x15.trans (sI_ne (S := sI (sI (sR (sR (sI (sI (sI S8 v0 1 (0 : Int32)) v0 7 x13) v0 8 x15) a5 5 (some a18)) v0 2 (some a19)) a20 10 (-1 : Int32)) a22 0 (-1 : Int32)) o_a22 o_v0 (by decide) 8).symm
        have d_y21 : y21 = fI (sI (sI (sI (sR (sR (sI (sI (sI S8 v0 1 (0 : Int32)) v0 7 x13) v0 8 x15) a5 5 (some a18)) v0 2 (some a19)) a20 10 (-1 : Int32)) a22 0 (-1 : Int32)) a22 2 (0 : Int32)) a20 10 := d_y21.trans (sI_ne (S := sI (sI (sR (sR (sI (sI (sI S8 v0 1 (0 : Int32)) v0 7 x13) v0 8 x15) a5 5 (some a18)) v0 2 (some a19)) a20 10 (-1 : Int32)) a22 0 (-1 : Int32)) o_a22 o_a20 (by decide) 10).symm
        have d_y23 : y23 = fI (sI (sI (sI (sR (sR (sI (sI (sI S8 v0 1 (0 : Int32)) v0 7 x13) v0 8 x15) a5 5 (some a18)) v0 2 (some a19)) a20 10 (-1 : Int32)) a22 0 (-1 : Int32)) a22 2 (0 : Int32)) a22 0 := d_y23.trans (rd_j (by decide)).symm
        obtain ⟨y24, hy24⟩ : ∃ z : Int32, z = (0 : Int32) := ⟨_, rfl⟩
        have d_y24 : y24 = fI (sI (sI (sI (sR (sR (sI (sI (sI S8 v0 1 (0 : Int32)) v0 7 x13) v0 8 x15) a5 5 (some a18)) v0 2 (some a19)) a20 10 (-1 : Int32)) a22 0 (-1 : Int32)) a22 2 (0 : Int32)) a22 2 := hy24.trans (u2_self _ _ _ _).symm
        have hI := iv_sI (j := 3) (v := (0 : Int32)) hI o_a22 (by decide) (nu_one (lo := (0 : Int32)) (hi := (3 : Int32)) (by decide) (q80 c1 r_x3 c4 bb_x7 c16))
        have f0 : FRI _ _ _ (sI (sI (sI (sI (sR (sR (sI (sI (sI S8 v0 1 (0 : Int32)) v0 7 x13) v0 8 x15) a5 5 (some a18)) v0 2 (some a19)) a20 10 (-1 : Int32)) a22 0 (-1 : Int32)) a22 2 (0 : Int32)) a22 3 (0 : Int32)) := fri_sI (S := sI (sI (sI (sR (sR (sI (sI (sI S8 v0 1 (0 : Int32)) v0 7 x13) v0 8 x15) a5 5 (some a18)) v0 2 (some a19)) a20 10 (-1 : Int32)) a22 0 (-1 : Int32)) a22 2 (0 : Int32)) g0 f0 o_a22 (by decide)
        have d_y11 : y11 = fI (sI (sI (sI (sI (sR (sR (sI (sI (sI S8 v0 1 (0 : Int32)) v0 7 x13) v0 8 x15) a5 5 (some a18)) v0 2 (some a19)) a20 10 (-1 : Int32)) a22 0 (-1 : Int32)) a22 2 (0 : Int32)) a22 3 (0 : Int32)) v0 1 := d_y11.trans (sI_ne (S := sI (sI (sI (sR (sR (sI (sI (sI S8 v0 1 (0 : Int32)) v0 7 x13) v0 8 x15) a5 5 (some a18)) v0 2 (some a19)) a20 10 (-1 : Int32)) a22 0 (-1 : Int32)) a22 2 (0 : Int32)) o_a22 o_v0 (by decide) 1).symm
        have d_x13 : x13 = fI (sI (sI (sI (sI (sR (sR (sI (sI (sI S8 v0 1 (0 : Int32)) v0 7 x13) v0 8 x15) a5 5 (some a18)) v0 2 (some a19)) a20 10 (-1 : Int32)) a22 0 (-1 : Int32)) a22 2 (0 : Int32)) a22 3 (0 : Int32)) a5 0 := d_x13.trans (sI_ne (S := sI (sI (sI (sR (sR (sI (sI (sI S8 v0 1 (0 : Int32)) v0 7 x13) v0 8 x15) a5 5 (some a18)) v0 2 (some a19)) a20 10 (-1 : Int32)) a22 0 (-1 : Int32)) a22 2 (0 : Int32)) o_a22 o_a5 (by decide) 0).symm
        have d_x13 : x13 = fI (sI (sI (sI (sI (sR (sR (sI (sI (sI S8 v0 1 (0 : Int32)) v0 7 x13) v0 8 x15) a5 5 (some a18)) v0 2 (some a19)) a20 10 (-1 : Int32)) a22 0 (-1 : Int32)) a22 2 (0 : Int32)) a22 3 (0 : Int32)) v0 7 := d_x13.trans (sI_ne (S := sI (sI (sI (sR (sR (sI (sI (sI S8 v0 1 (0 : Int32)) v0 7 x13) v0 8 x15) a5 5 (some a18)) v0 2 (some a19)) a20 10 (-1 : Int32)) a22 0 (-1 : Int32)) a22 2 (0 : Int32)) o_a22 o_v0 (by decide) 7).symm
        have d_x15 : x15 = fI (sI (sI (sI (sI (sR (sR (sI (sI (sI S8 v0 1 (0 : Int32)) v0 7 x13) v0 8 x15) a5 5 (some a18)) v0 2 (some a19)) a20 10 (-1 : Int32)) a22 0 (-1 : Int32)) a22 2 (0 : Int32)) a22 3 (0 : Int32)) a5 1 := d_x15.trans (sI_ne (S := sI (sI (sI (sR (sR (sI (sI (sI S8 v0 1 (0 : Int32)) v0 7 x13) v0 8 x15) a5 5 (some a18)) v0 2 (some a19)) a20 10 (-1 : Int32)) a22 0 (-1 : Int32)) a22 2 (0 : Int32)) o_a22 o_a5 (by decide) 1).symm
        have d_x15 : x15 = fI (sI (sI (sI (sI (sR (sR (sI (sI (sI S8 v0 1 (0 : Int32)) v0 7 x13) v0 8 x15) a5 5 (some a18)) v0 2 (some a19)) a20 10 (-1 : Int32)) a22 0 (-1 : Int32)) a22 2 (0 : Int32)) a22 3 (0 : Int32)) v0 8 := d_x15.trans (sI_ne (S := sI (sI (sI (sR (sR (sI (sI (sI S8 v0 1 (0 : Int32)) v0 7 x13) v0 8 x15) a5 5 (some a18)) v0 2 (some a19)) a20 10 (-1 : Int32)) a22 0 (-1 : Int32)) a22 2 (0 : Int32)) o_a22 o_v0 (by decide) 8).symm
        have d_y21 : y21 = fI (sI (sI (sI (sI (sR (sR (sI (sI (sI S8 v0 1 (0 : Int32)) v0 7 x13) v0 8 x15) a5 5 (some a18)) v0 2 (some a19)) a20 10 (-1 : Int32)) a22 0 (-1 : Int32)) a22 2 (0 : Int32)) a22 3 (0 : Int32)) a20 10 := d_y21.trans (sI_ne (S := sI (sI (sI (sR (sR (sI (sI (sI S8 v0 1 (0 : Int32)) v0 7 x13) v0 8 x15) a5 5 (some a18)) v0 2 (some a19)) a20 10 (-1 : Int32)) a22 0 (-1 : Int32)) a22 2 (0 : Int32)) o_a22 o_a20 (by decide) 10).symm
        have d_y23 : y23 = fI (sI (sI (sI (sI (sR (sR (sI (sI (sI S8 v0 1 (0 : Int32)) v0 7 x13) v0 8 x15) a5 5 (some a18)) v0 2 (some a19)) a20 10 (-1 : Int32)) a22 0 (-1 : Int32)) a22 2 (0 : Int32)) a22 3 (0 : Int32)) a22 0 := d_y23.trans (rd_j (by decide)).symm
        have d_y24 : y24 = fI (sI (sI (sI (sI (sR (sR (sI (sI (sI S8 v0 1 (0 : Int32)) v0 7 x13) v0 8 x15) a5 5 (some a18)) v0 2 (some a19)) a20 10 (-1 : Int32)) a22 0 (-1 : Int32)) a22 2 (0 : Int32)) a22 3 (0 : Int32)) a22 2 := d_y24.trans (rd_j (by decide)).symm
        obtain ⟨y25, hy25⟩ : ∃ z : Int32, z = (0 : Int32) := ⟨_, rfl⟩
        have d_y25 : y25 = fI (sI (sI (sI (sI (sR (sR (sI (sI (sI S8 v0 1 (0 : Int32)) v0 7 x13) v0 8 x15) a5 5 (some a18)) v0 2 (some a19)) a20 10 (-1 : Int32)) a22 0 (-1 : Int32)) a22 2 (0 : Int32)) a22 3 (0 : Int32)) a22 3 := hy25.trans (u2_self _ _ _ _).symm
        intro _
        obtain ⟨a26, ea26, o_a26, -⟩ := sh 1 rfl hI o_v0
        refine ⟨a26, ea26, ?_⟩
        refine ⟨o_a26, ?_⟩
        intro x27 ex27
        have r_x27 : (0 : Int32) ≤ x27 ∧ x27 ≤ (4 : Int32) := by rw [ex27]; exact nu 14 rfl hI o_a26
        have d_x27 := ex27
        refine u_X9_grant ?_
        refine u_X9_grant_0 ?_
        refine ⟨o_v0, ?_⟩
        have hI := iv_sI (j := 9) (v := (0 : Int32)) hI o_v0 (by decide) (nu_free (by decide))
        have f0 : FRI _ _ _ (sI (sI (sI (sI (sI (sR (sR (sI (sI (sI S8 v0 1 (0 : Int32)) v0 7 x13) v0 8 x15) a5 5 (some a18)) v0 2 (some a19)) a20 10 (-1 : Int32)) a22 0 (-1 : Int32)) a22 2 (0 : Int32)) a22 3 (0 : Int32)) v0 9 (0 : Int32)) := fri_sI (S := sI (sI (sI (sI (sR (sR (sI (sI (sI S8 v0 1 (0 : Int32)) v0 7 x13) v0 8 x15) a5 5 (some a18)) v0 2 (some a19)) a20 10 (-1 : Int32)) a22 0 (-1 : Int32)) a22 2 (0 : Int32)) a22 3 (0 : Int32)) g0 f0 o_v0 (by decide)
        have d_y11 : y11 = fI (sI (sI (sI (sI (sI (sR (sR (sI (sI (sI S8 v0 1 (0 : Int32)) v0 7 x13) v0 8 x15) a5 5 (some a18)) v0 2 (some a19)) a20 10 (-1 : Int32)) a22 0 (-1 : Int32)) a22 2 (0 : Int32)) a22 3 (0 : Int32)) v0 9 (0 : Int32)) v0 1 := d_y11.trans (rd_j (by decide)).symm
        have d_x13 : x13 = fI (sI (sI (sI (sI (sI (sR (sR (sI (sI (sI S8 v0 1 (0 : Int32)) v0 7 x13) v0 8 x15) a5 5 (some a18)) v0 2 (some a19)) a20 10 (-1 : Int32)) a22 0 (-1 : Int32)) a22 2 (0 : Int32)) a22 3 (0 : Int32)) v0 9 (0 : Int32)) a5 0 := d_x13.trans (sI_ne (S := sI (sI (sI (sI (sR (sR (sI (sI (sI S8 v0 1 (0 : Int32)) v0 7 x13) v0 8 x15) a5 5 (some a18)) v0 2 (some a19)) a20 10 (-1 : Int32)) a22 0 (-1 : Int32)) a22 2 (0 : Int32)) a22 3 (0 : Int32)) o_v0 o_a5 (by decide) 0).symm
        have d_x13 : x13 = fI (sI (sI (sI (sI (sI (sR (sR (sI (sI (sI S8 v0 1 (0 : Int32)) v0 7 x13) v0 8 x15) a5 5 (some a18)) v0 2 (some a19)) a20 10 (-1 : Int32)) a22 0 (-1 : Int32)) a22 2 (0 : Int32)) a22 3 (0 : Int32)) v0 9 (0 : Int32)) v0 7 := d_x13.trans (rd_j (by decide)).symm
        have d_x15 : x15 = fI (sI (sI (sI (sI (sI (sR (sR (sI (sI (sI S8 v0 1 (0 : Int32)) v0 7 x13) v0 8 x15) a5 5 (some a18)) v0 2 (some a19)) a20 10 (-1 : Int32)) a22 0 (-1 : Int32)) a22 2 (0 : Int32)) a22 3 (0 : Int32)) v0 9 (0 : Int32)) a5 1 := d_x15.trans (sI_ne (S := sI (sI (sI (sI (sR (sR (sI (sI (sI S8 v0 1 (0 : Int32)) v0 7 x13) v0 8 x15) a5 5 (some a18)) v0 2 (some a19)) a20 10 (-1 : Int32)) a22 0 (-1 : Int32)) a22 2 (0 : Int32)) a22 3 (0 : Int32)) o_v0 o_a5 (by decide) 1).symm
        have d_x15 : x15 = fI (sI (sI (sI (sI (sI (sR (sR (sI (sI (sI S8 v0 1 (0 : Int32)) v0 7 x13) v0 8 x15) a5 5 (some a18)) v0 2 (some a19)) a20 10 (-1 : Int32)) a22 0 (-1 : Int32)) a22 2 (0 : Int32)) a22 3 (0 : Int32)) v0 9 (0 : Int32)) v0 8 := d_x15.trans (rd_j (by decide)).symm
        have d_y21 : y21 = fI (sI (sI (sI (sI (sI (sR (sR (sI (sI (sI S8 v0 1 (0 : Int32)) v0 7 x13) v0 8 x15) a5 5 (some a18)) v0 2 (some a19)) a20 10 (-1 : Int32)) a22 0 (-1 : Int32)) a22 2 (0 : Int32)) a22 3 (0 : Int32)) v0 9 (0 : Int32)) a20 10 := d_y21.trans (sI_ne (S := sI (sI (sI (sI (sR (sR (sI (sI (sI S8 v0 1 (0 : Int32)) v0 7 x13) v0 8 x15) a5 5 (some a18)) v0 2 (some a19)) a20 10 (-1 : Int32)) a22 0 (-1 : Int32)) a22 2 (0 : Int32)) a22 3 (0 : Int32)) o_v0 o_a20 (by decide) 10).symm
        have d_y23 : y23 = fI (sI (sI (sI (sI (sI (sR (sR (sI (sI (sI S8 v0 1 (0 : Int32)) v0 7 x13) v0 8 x15) a5 5 (some a18)) v0 2 (some a19)) a20 10 (-1 : Int32)) a22 0 (-1 : Int32)) a22 2 (0 : Int32)) a22 3 (0 : Int32)) v0 9 (0 : Int32)) a22 0 := d_y23.trans (sI_ne (S := sI (sI (sI (sI (sR (sR (sI (sI (sI S8 v0 1 (0 : Int32)) v0 7 x13) v0 8 x15) a5 5 (some a18)) v0 2 (some a19)) a20 10 (-1 : Int32)) a22 0 (-1 : Int32)) a22 2 (0 : Int32)) a22 3 (0 : Int32)) o_v0 o_a22 (by decide) 0).symm
        have d_y24 : y24 = fI (sI (sI (sI (sI (sI (sR (sR (sI (sI (sI S8 v0 1 (0 : Int32)) v0 7 x13) v0 8 x15) a5 5 (some a18)) v0 2 (some a19)) a20 10 (-1 : Int32)) a22 0 (-1 : Int32)) a22 2 (0 : Int32)) a22 3 (0 : Int32)) v0 9 (0 : Int32)) a22 2 := d_y24.trans (sI_ne (S := sI (sI (sI (sI (sR (sR (sI (sI (sI S8 v0 1 (0 : Int32)) v0 7 x13) v0 8 x15) a5 5 (some a18)) v0 2 (some a19)) a20 10 (-1 : Int32)) a22 0 (-1 : Int32)) a22 2 (0 : Int32)) a22 3 (0 : Int32)) o_v0 o_a22 (by decide) 2).symm
        have d_y25 : y25 = fI (sI (sI (sI (sI (sI (sR (sR (sI (sI (sI S8 v0 1 (0 : Int32)) v0 7 x13) v0 8 x15) a5 5 (some a18)) v0 2 (some a19)) a20 10 (-1 : Int32)) a22 0 (-1 : Int32)) a22 2 (0 : Int32)) a22 3 (0 : Int32)) v0 9 (0 : Int32)) a22 3 := d_y25.trans (sI_ne (S := sI (sI (sI (sI (sR (sR (sI (sI (sI S8 v0 1 (0 : Int32)) v0 7 x13) v0 8 x15) a5 5 (some a18)) v0 2 (some a19)) a20 10 (-1 : Int32)) a22 0 (-1 : Int32)) a22 2 (0 : Int32)) a22 3 (0 : Int32)) o_v0 o_a22 (by decide) 3).symm
        have d_x27 : x27 = fI (sI (sI (sI (sI (sI (sR (sR (sI (sI (sI S8 v0 1 (0 : Int32)) v0 7 x13) v0 8 x15) a5 5 (some a18)) v0 2 (some a19)) a20 10 (-1 : Int32)) a22 0 (-1 : Int32)) a22 2 (0 : Int32)) a22 3 (0 : Int32)) v0 9 (0 : Int32)) a26 4 := d_x27.trans (sI_ne (S := sI (sI (sI (sI (sR (sR (sI (sI (sI S8 v0 1 (0 : Int32)) v0 7 x13) v0 8 x15) a5 5 (some a18)) v0 2 (some a19)) a20 10 (-1 : Int32)) a22 0 (-1 : Int32)) a22 2 (0 : Int32)) a22 3 (0 : Int32)) o_v0 o_a26 (by decide) 4).symm
        obtain ⟨y28, hy28⟩ : ∃ z : Int32, z = (0 : Int32) := ⟨_, rfl⟩
        have d_y28 : y28 = fI (sI (sI (sI (sI (sI (sR (sR (sI (sI (sI S8 v0 1 (0 : Int32)) v0 7 x13) v0 8 x15) a5 5 (some a18)) v0 2 (some a19)) a20 10 (-1 : Int32)) a22 0 (-1 : Int32)) a22 2 (0 : Int32)) a22 3 (0 : Int32)) v0 9 (0 : Int32)) v0 9 := hy28.trans (u2_self _ _ _ _).symm
        intro _
        exact hq _ _ hI g0 f0
      · refine u_X9_refuse ?_
        refine u_X9_refuse_0 ?_
        refine ⟨o_v0, ?_⟩
        have hI := iv_sI (j := 9) (v := (4 : Int32)) hI o_v0 (by decide) (nu_free (by decide))
        have f0 : FRI _ _ _ (sI (sI (sI (sI S8 v0 1 (0 : Int32)) v0 7 x13) v0 8 x15) v0 9 (4 : Int32)) := fri_sI (S := sI (sI (sI S8 v0 1 (0 : Int32)) v0 7 x13) v0 8 x15) g0 f0 o_v0 (by decide)
        have d_y11 : y11 = fI (sI (sI (sI (sI S8 v0 1 (0 : Int32)) v0 7 x13) v0 8 x15) v0 9 (4 : Int32)) v0 1 := d_y11.trans (rd_j (by decide)).symm
        have d_x13 : x13 = fI (sI (sI (sI (sI S8 v0 1 (0 : Int32)) v0 7 x13) v0 8 x15) v0 9 (4 : Int32)) a5 0 := d_x13.trans (sI_ne (S := sI (sI (sI S8 v0 1 (0 : Int32)) v0 7 x13) v0 8 x15) o_v0 o_a5 (by decide) 0).symm
        have d_x13 : x13 = fI (sI (sI (sI (sI S8 v0 1 (0 : Int32)) v0 7 x13) v0 8 x15) v0 9 (4 : Int32)) v0 7 := d_x13.trans (rd_j (by decide)).symm
        have d_x15 : x15 = fI (sI (sI (sI (sI S8 v0 1 (0 : Int32)) v0 7 x13) v0 8 x15) v0 9 (4 : Int32)) a5 1 := d_x15.trans (sI_ne (S := sI (sI (sI S8 v0 1 (0 : Int32)) v0 7 x13) v0 8 x15) o_v0 o_a5 (by decide) 1).symm
        have d_x15 : x15 = fI (sI (sI (sI (sI S8 v0 1 (0 : Int32)) v0 7 x13) v0 8 x15) v0 9 (4 : Int32)) v0 8 := d_x15.trans (rd_j (by decide)).symm
        obtain ⟨y29, hy29⟩ : ∃ z : Int32, z = (4 : Int32) := ⟨_, rfl⟩
        have d_y29 : y29 = fI (sI (sI (sI (sI S8 v0 1 (0 : Int32)) v0 7 x13) v0 8 x15) v0 9 (4 : Int32)) v0 9 := hy29.trans (u2_self _ _ _ _).symm
        intro _
        exact hq _ _ hI g0 f0
    · refine u_X9_world_12 ?_
      refine ⟨o_v0, ?_⟩
      refine u_X9_refuse ?_
      refine u_X9_refuse_0 ?_
      refine ⟨o_v0, ?_⟩
      have hI := iv_sI (j := 9) (v := (2 : Int32)) hI o_v0 (by decide) (nu_free (by decide))
      have f0 : FRI _ _ _ (sI S v0 9 (2 : Int32)) := fri_sI (S := S) g0 f0 o_v0 (by decide)
      have d_x3 : x3 = fI (sI S v0 9 (2 : Int32)) v0 1 := d_x3.trans (rd_j (by decide)).symm
      obtain ⟨y30, hy30⟩ : ∃ z : Int32, z = (2 : Int32) := ⟨_, rfl⟩
      have d_y30 : y30 = fI (sI S v0 9 (2 : Int32)) v0 9 := hy30.trans (u2_self _ _ _ _).symm
      intro _
      exact hq _ _ hI g0 f0
