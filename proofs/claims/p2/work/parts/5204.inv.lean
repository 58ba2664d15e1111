set_option maxHeartbeats 4000000 in
set_option maxRecDepth 20000 in
theorem m_X4_placeBut {v0 : Nat} {v1 : Int32} {Q : Int32 → HS → Prop} {S : HS} (hI : IV S) (o_v0 : ob S v0 4)    (hT : TX S v0) (hq : ∀ (r : Int32) (T : HS), IV T → Gr S T → FRI [(4, 0), (4, 1), (4, 4), (4, 6), (4, 7), (4, 9)] [] S T → bl r → (TX T v0) → Q r T) : P_X4_placeBut v0 v1 Q S := by
  have g0 := gr_rf S
  have f0 := fri_rf [(4, 0), (4, 1), (4, 4), (4, 6), (4, 7), (4, 9)] [] S
  refine u_X4_placeBut ?_
  refine u_X4_placeBut_0 ?_
  refine ⟨o_v0, ?_⟩
  refine m_X4_canBeName hI o_v0 hT (fun x1 S2 hI2 g3 b_x1 p_x1 => ?_)
  subst p_x1
  intro _ _
  have bb_x1 : x1 = 0 ∨ x1 = 1 := b_x1
  refine ⟨fun c5 => ?_, fun c5 => ?_⟩
  · refine m_X4_findName hI o_v0 hT (fun x6 S7 hI2 g8 p_x6 => ?_)
    subst p_x6
    intro _
    refine ⟨fun c10 => ?_, fun c10 => ?_⟩
    · refine u_X4_placeBut_29 ?_
      refine ⟨o_v0, ?_⟩
      refine u_X4_fail ?_
      refine u_X4_fail_0 ?_
      refine ⟨o_v0, ?_⟩
      have hI := iv_sI (j := 0) (v := (2 : Int32)) hI o_v0 (by decide) (nu_free (by decide))
      have f0 : FRI _ _ _ (sI S v0 0 (2 : Int32)) := fri_sI (S := S) g0 f0 o_v0 (by decide)
      obtain ⟨y11, hy11⟩ : ∃ z : Int32, z = (2 : Int32) := ⟨_, rfl⟩
      have d_y11 : y11 = fI (sI S v0 0 (2 : Int32)) v0 0 := hy11.trans (u2_self _ _ _ _).symm
      intro x12 ex12
      have d_x12 := ex12
      have hI := iv_sI (j := 1) (v := x12) hI o_v0 (by decide) (nu_free (by decide))
      have f0 : FRI _ _ _ (sI (sI S v0 0 (2 : Int32)) v0 1 x12) := fri_sI (S := sI S v0 0 (2 : Int32)) g0 f0 o_v0 (by decide)
      have d_y11 : y11 = fI (sI (sI S v0 0 (2 : Int32)) v0 1 x12) v0 0 := d_y11.trans (rd_j (by decide)).symm
      have d_x12 : x12 = fI (sI (sI S v0 0 (2 : Int32)) v0 1 x12) v0 7 := d_x12.trans (rd_j (by decide)).symm
      have d_x12 : x12 = fI (sI (sI S v0 0 (2 : Int32)) v0 1 x12) v0 1 := (u2_self _ _ _ _).symm
      intro _ _
      exact hq _ _ hI g0 f0 (Or.inl rfl) hT
    · refine ⟨fun c13 => ?_, fun c13 => ?_⟩
      · refine ⟨fun c14 => ?_, fun c14 => ?_⟩
        · have hI := iv_sI (j := 9) (v := x6) hI o_v0 (by decide) (nu_free (by decide))
          have f0 : FRI _ _ _ (sI S v0 9 x6) := fri_sI (S := S) g0 f0 o_v0 (by decide)
          have d_x6 : x6 = fI (sI S v0 9 x6) v0 9 := (u2_self _ _ _ _).symm
          refine m_X4_next hI o_v0 hT (fun S16 hI g17 fc18 p_S16 => ?_)
          obtain hT := p_S16
          have d_x6 := d_x6.trans (fri_at fc18 (by decide) (by decide) o_v0).symm
          have f0 := fri_tr (S := sI S v0 9 x6) g0 f0 fc18 (by decide) (by decide)
          have o_v0 := gr_ob g17 o_v0
          have g0 := gr_tr (T := sI S v0 9 x6) g0 g17
          intro _
          exact hq _ _ hI g0 f0 (Or.inr rfl) hT
        · refine u_X4_fail ?_
          refine u_X4_fail_0 ?_
          refine ⟨o_v0, ?_⟩
          have hI := iv_sI (j := 0) (v := (3 : Int32)) hI o_v0 (by decide) (nu_free (by decide))
          have f0 : FRI _ _ _ (sI S v0 0 (3 : Int32)) := fri_sI (S := S) g0 f0 o_v0 (by decide)
          obtain ⟨y19, hy19⟩ : ∃ z : Int32, z = (3 : Int32) := ⟨_, rfl⟩
          have d_y19 : y19 = fI (sI S v0 0 (3 : Int32)) v0 0 := hy19.trans (u2_self _ _ _ _).symm
          intro x20 ex20
          have d_x20 := ex20
          have hI := iv_sI (j := 1) (v := x20) hI o_v0 (by decide) (nu_free (by decide))
          have f0 : FRI _ _ _ (sI (sI S v0 0 (3 : Int32)) v0 1 x20) := fri_sI (S := sI S v0 0 (3 : Int32)) g0 f0 o_v0 (by decide)
          have d_y19 : y19 = fI (sI (sI S v0 0 (3 : Int32)) v0 1 x20) v0 0 := d_y19.trans (rd_j (by decide)).symm
          have d_x20 : x20 = fI (sI (sI S v0 0 (3 : Int32)) v0 1 x20) v0 7 := d_x20.trans (rd_j (by decide)).symm
          have d_x20 : x20 = fI (sI (sI S v0 0 (3 : Int32)) v0 1 x20) v0 1 := (u2_self _ _ _ _).symm
          intro _ _
          exact hq _ _ hI g0 f0 (Or.inl rfl) hT
      · refine u_X4_placeBut_29 ?_
        refine ⟨o_v0, ?_⟩
        refine u_X4_fail ?_
        refine u_X4_fail_0 ?_
        refine ⟨o_v0, ?_⟩
        have hI := iv_sI (j := 0) (v := (2 : Int32)) hI o_v0 (by decide) (nu_free (by decide))
        have f0 : FRI _ _ _ (sI S v0 0 (2 : Int32)) := fri_sI (S := S) g0 f0 o_v0 (by decide)
        obtain ⟨y21, hy21⟩ : ∃ z : Int32, z = (2 : Int32) := ⟨_, rfl⟩
        have d_y21 : y21 = fI (sI S v0 0 (2 : Int32)) v0 0 := hy21.trans (u2_self _ _ _ _).symm
        intro x22 ex22
        have d_x22 := ex22
        have hI := iv_sI (j := 1) (v := x22) hI o_v0 (by decide) (nu_free (by decide))
        have f0 : FRI _ _ _ (sI (sI S v0 0 (2 : Int32)) v0 1 x22) := fri_sI (S := sI S v0 0 (2 : Int32)) g0 f0 o_v0 (by decide)
        have d_y21 : y21 = fI (sI (sI S v0 0 (2 : Int32)) v0 1 x22) v0 0 := d_y21.trans (rd_j (by decide)).symm
        have d_x22 : x22 = fI (sI (sI S v0 0 (2 : Int32)) v0 1 x22) v0 7 := d_x22.trans (rd_j (by decide)).symm
        have d_x22 : x22 = fI (sI (sI S v0 0 (2 : Int32)) v0 1 x22) v0 1 := (u2_self _ _ _ _).symm
        intro _ _
        exact hq _ _ hI g0 f0 (Or.inl rfl) hT
  · refine u_X4_fail ?_
    refine u_X4_fail_0 ?_
    refine ⟨o_v0, ?_⟩
    have hI := iv_sI (j := 0) (v := (1 : Int32)) hI o_v0 (by decide) (nu_free (by decide))
    have f0 : FRI _ _ _ (sI S v0 0 (1 : Int32)) := fri_sI (S := S) g0 f0 o_v0 (by decide)
    obtain ⟨y23, hy23⟩ : ∃ z : Int32, z = (1 : Int32) := ⟨_, rfl⟩
    have d_y23 : y23 = fI (sI S v0 0 (1 : Int32)) v0 0 := hy23.trans (u2_self _ _ _ _).symm
    intro x24 ex24
    have d_x24 := ex24
    have hI := iv_sI (j := 1) (v := x24) hI o_v0 (by decide) (nu_free (by decide))
    have f0 : FRI _ _ _ (sI (sI S v0 0 (1 : Int32)) v0 1 x24) := fri_sI (S := sI S v0 0 (1 : Int32)) g0 f0 o_v0 (by decide)
    have d_y23 : y23 = fI (sI (sI S v0 0 (1 : Int32)) v0 1 x24) v0 0 := d_y23.trans (rd_j (by decide)).symm
    have d_x24 : x24 = fI (sI (sI S v0 0 (1 : Int32)) v0 1 x24) v0 7 := d_x24.trans (rd_j (by decide)).symm
    have d_x24 : x24 = fI (sI (sI S v0 0 (1 : Int32)) v0 1 x24) v0 1 := (u2_self _ _ _ _).symm
    intro _ _
    exact hq _ _ hI g0 f0 (Or.inl rfl) hT
set_option maxHeartbeats 4000000 in
set_option maxRecDepth 20000 in
theorem m_X4_placeLine {v0 : Nat} {Q : Int32 → HS → Prop} {S : HS} (hI : IV S) (o_v0 : ob S v0 4)   (hrm : RM S v0 2 8) (hT : TX S v0) (hq : ∀ (r : Int32) (T : HS), IV T → Gr S T → FRI [(4, 0), (4, 1), (4, 4), (4, 6), (4, 7), (4, 9), (4, 10), (8, 2)] [] S T → bl r → (TX T v0) → Q r T) : P_X4_placeLine v0 Q S := by
  have g0 := gr_rf S
  have f0 := fri_rf [(4, 0), (4, 1), (4, 4), (4, 6), (4, 7), (4, 9), (4, 10), (8, 2)] [] S
  obtain ⟨a1, ea1, o_a1, -⟩ := sh 12 rfl hI o_v0
  obtain ⟨y2, d_y2⟩ : ∃ z : Int32, z = fI S a1 2 := ⟨_, rfl⟩
  have hr_y2 : y2 < (8 : Int32) := by rw [d_y2]; exact hrm _ ea1
  have r_y2 : (0 : Int32) ≤ y2 ∧ y2 ≤ (8 : Int32) := by rw [d_y2]; exact nu 12 rfl hI o_a1
  refine u_X4_placeLine ?_
  refine u_X4_placeLine_0 ?_
  refine ⟨o_v0, ?_⟩
  refine ⟨a1, ea1, ?_⟩
  refine ⟨o_a1, ?_⟩
  intro x4 ex4
  have r_x4 : (0 : Int32) ≤ x4 ∧ x4 ≤ (8 : Int32) := by rw [ex4]; exact nu 12 rfl hI o_a1
  have q_x4 : x4 = y2 := ex4.trans d_y2.symm
  have d_x4 := ex4
  refine m_X4_newName hI o_v0 hT (fun x5 S6 hI g7 fc8 b_x5 p_x5 => ?_)
  obtain hT := p_x5
  have d_x4 := d_x4.trans (fri_at fc8 (by decide) (by decide) o_a1).symm
  have ea1 := (frr_at fc8 (by decide) (by decide) o_v0).trans ea1
  have f0 := fri_tr (S := S) g0 f0 fc8 (by decide) (by decide)
  have o_a1 := gr_ob g7 o_a1
  have o_v0 := gr_ob g7 o_v0
  have g0 := gr_tr (T := S) g0 g7
  intro _ _
  have bb_x5 : x5 = 0 ∨ x5 = 1 := b_x5
  refine ⟨fun c9 => ?_, fun c9 => ?_⟩
  · refine m_X4_is hI o_v0 (by decide) hT (fun x10 S11 hI2 g12 b_x10 p_x10 => ?_)
    subst p_x10
    intro _ _
    have bb_x10 : x10 = 0 ∨ x10 = 1 := b_x10
    refine ⟨fun c14 => ?_, fun c14 => ?_⟩
    · refine m_X4_is hI o_v0 (by decide) hT (fun x15 S16 hI2 g17 b_x15 p_x15 => ?_)
      subst p_x15
      intro _ _
      have bb_x15 : x15 = 0 ∨ x15 = 1 := b_x15
      refine ⟨fun c19 => ?_, fun c19 => ?_⟩
      · refine u_X4_placeLine_64 ?_
        refine ⟨o_v0, ?_⟩
        refine ⟨a1, ea1, ?_⟩
        refine ⟨o_a1, ?_⟩
        obtain ⟨a21, ea21, o_a21, l_a21⟩ := shl 16 rfl hI o_a1
        refine ⟨a21, ea21, ?_⟩
        refine ⟨a1, ea1, ?_⟩
        refine ⟨o_a1, ?_⟩
        intro x23 ex23
        have r_x23 : (0 : Int32) ≤ x23 ∧ x23 ≤ (8 : Int32) := by rw [ex23]; exact nu 12 rfl hI o_a1
        have q_x23 : x23 = x4 := ex23.trans d_x4.symm
        have d_x23 := ex23
        refine ⟨o_a21, ?_⟩
        have i24 : vp_in x23 (hN _ a21) := (vin l_a21 (m := 8) (by decide) (q843 hr_y2 r_y2 r_x4 q_x4 bb_x5 c9 bb_x10 c14 bb_x15 c19 r_x23 q_x23))
        refine ⟨i24, ?_⟩
        have hI := iv_aI (i := x23.toNatClampNeg) (v := (-1 : Int32)) hI o_a1 (by decide) ea21 o_a21 (by decide)
        have f0 : FRI _ _ _ (sI S6 a21 x23.toNatClampNeg (-1 : Int32)) := fri_aI (S := S6) g0 f0 o_a21 (by decide)
        have d_x23 : x23 = fI (sI S6 a21 x23.toNatClampNeg (-1 : Int32)) a1 2 := d_x23.trans (sI_ne (S := S6) o_a21 o_a1 (by decide) 2).symm
        refine ⟨a1, ea1, ?_⟩
        refine ⟨o_a1, ?_⟩
        intro x26 ex26
        have r_x26 : (0 : Int32) ≤ x26 ∧ x26 ≤ (8 : Int32) := by rw [ex26]; exact nu 12 rfl hI o_a1
        have q_x26 : x26 = x23 := ex26.trans d_x23.symm
        have d_x26 := ex26
        intro x27 ex27
        have hI := iv_sI (j := 2) (v := x27) hI o_a1 (by decide) (nu_one (lo := (0 : Int32)) (hi := (8 : Int32)) (by decide) (q844 hr_y2 r_y2 r_x4 q_x4 bb_x5 c9 bb_x10 c14 bb_x15 c19 r_x23 q_x23 r_x26 q_x26 ex27))
        have f0 : FRI _ _ _ (sI (sI S6 a21 x23.toNatClampNeg (-1 : Int32)) a1 2 x27) := fri_sI (S := sI S6 a21 x23.toNatClampNeg (-1 : Int32)) g0 f0 o_a1 (by decide)
        have d_x27 : x27 = fI (sI (sI S6 a21 x23.toNatClampNeg (-1 : Int32)) a1 2 x27) a1 2 := (u2_self _ _ _ _).symm
        exact hq _ _ hI g0 f0 (Or.inr rfl) hT
      · refine m_X4_wordAndWhole hI o_v0 (by decide) hT (fun x28 S29 hI g30 fc31 b_x28 p_x28 => ?_)
        obtain ⟨hT, pf9_S29⟩ := p_x28
        have d_x4 := d_x4.trans (fri_at fc31 (by decide) (by decide) o_a1).symm
        have ea1 := (frr_at fc31 (by decide) (by decide) o_v0).trans ea1
        have f0 := fri_tr (S := S6) g0 f0 fc31 (by decide) (by decide)
        have o_a1 := gr_ob g30 o_a1
        have o_v0 := gr_ob g30 o_v0
        have g0 := gr_tr (T := S6) g0 g30
        obtain ⟨y32, d_y32⟩ : ∃ z : Int32, z = fI S29 v0 9 := ⟨_, rfl⟩
        have p_y32 : x28 = 1 → (0 : Int32) ≤ y32 ∧ y32 ≤ (9 : Int32) := by rw [d_y32]; exact pf9_S29
        intro _ _
        have bb_x28 : x28 = 0 ∨ x28 = 1 := b_x28
        refine ⟨fun c33 => ?_, fun c33 => ?_⟩
        · intro x34 ex34
          have q_x34 : x34 = y32 := ex34.trans d_y32.symm
          have d_x34 := ex34
          refine u_X4_placeLine_64 ?_
          refine ⟨o_v0, ?_⟩
          refine ⟨a1, ea1, ?_⟩
          refine ⟨o_a1, ?_⟩
          obtain ⟨a36, ea36, o_a36, l_a36⟩ := shl 16 rfl hI o_a1
          refine ⟨a36, ea36, ?_⟩
          refine ⟨a1, ea1, ?_⟩
          refine ⟨o_a1, ?_⟩
          intro x38 ex38
          have r_x38 : (0 : Int32) ≤ x38 ∧ x38 ≤ (8 : Int32) := by rw [ex38]; exact nu 12 rfl hI o_a1
          have q_x38 : x38 = x4 := ex38.trans d_x4.symm
          have d_x38 := ex38
          refine ⟨o_a36, ?_⟩
          have i39 : vp_in x38 (hN _ a36) := (vin l_a36 (m := 8) (by decide) (q845 hr_y2 r_y2 r_x4 q_x4 bb_x5 c9 bb_x10 c14 bb_x15 c19 p_y32 bb_x28 c33 q_x34 r_x38 q_x38))
          refine ⟨i39, ?_⟩
          have hI := iv_aI (i := x38.toNatClampNeg) (v := x34) hI o_a1 (by decide) ea36 o_a36 (by decide)
          have f0 : FRI _ _ _ (sI S29 a36 x38.toNatClampNeg x34) := fri_aI (S := S29) g0 f0 o_a36 (by decide)
          have d_x38 : x38 = fI (sI S29 a36 x38.toNatClampNeg x34) a1 2 := d_x38.trans (sI_ne (S := S29) o_a36 o_a1 (by decide) 2).symm
          have d_x34 : x34 = fI (sI S29 a36 x38.toNatClampNeg x34) v0 9 := d_x34.trans (sI_ne (S := S29) o_a36 o_v0 (by decide) 9).symm
          refine ⟨a1, ea1, ?_⟩
          refine ⟨o_a1, ?_⟩
          intro x41 ex41
          have r_x41 : (0 : Int32) ≤ x41 ∧ x41 ≤ (8 : Int32) := by rw [ex41]; exact nu 12 rfl hI o_a1
          have q_x41 : x41 = x38 := ex41.trans d_x38.symm
          have d_x41 := ex41
          intro x42 ex42
          have hI := iv_sI (j := 2) (v := x42) hI o_a1 (by decide) (nu_one (lo := (0 : Int32)) (hi := (8 : Int32)) (by decide) (q846 hr_y2 r_y2 r_x4 q_x4 bb_x5 c9 bb_x10 c14 bb_x15 c19 p_y32 bb_x28 c33 q_x34 r_x38 q_x38 r_x41 q_x41 ex42))
          have f0 : FRI _ _ _ (sI (sI S29 a36 x38.toNatClampNeg x34) a1 2 x42) := fri_sI (S := sI S29 a36 x38.toNatClampNeg x34) g0 f0 o_a1 (by decide)
          have d_x34 : x34 = fI (sI (sI S29 a36 x38.toNatClampNeg x34) a1 2 x42) v0 9 := d_x34.trans (sI_ne (S := sI S29 a36 x38.toNatClampNeg x34) o_a1 o_v0 (by decide) 9).symm
          have d_x42 : x42 = fI (sI (sI S29 a36 x38.toNatClampNeg x34) a1 2 x42) a1 2 := (u2_self _ _ _ _).symm
          exact hq _ _ hI g0 f0 (Or.inr rfl) hT
        · exact hq _ _ hI g0 f0 (Or.inl rfl) hT
    · refine m_X4_next hI o_v0 hT (fun S44 hI g45 fc46 p_S44 => ?_)
      obtain hT := p_S44
      have d_x4 := d_x4.trans (fri_at fc46 (by decide) (by decide) o_a1).symm
      have ea1 := (frr_at fc46 (by decide) (by decide) o_v0).trans ea1
      have f0 := fri_tr (S := S6) g0 f0 fc46 (by decide) (by decide)
      have o_a1 := gr_ob g45 o_a1
      have o_v0 := gr_ob g45 o_v0
      have g0 := gr_tr (T := S6) g0 g45
      intro _
      refine u_X4_placeLine_64 ?_
      refine ⟨o_v0, ?_⟩
      refine ⟨a1, ea1, ?_⟩
      refine ⟨o_a1, ?_⟩
      obtain ⟨a48, ea48, o_a48, l_a48⟩ := shl 16 rfl hI o_a1
      refine ⟨a48, ea48, ?_⟩
      refine ⟨a1, ea1, ?_⟩
      refine ⟨o_a1, ?_⟩
      intro x50 ex50
      have r_x50 : (0 : Int32) ≤ x50 ∧ x50 ≤ (8 : Int32) := by rw [ex50]; exact nu 12 rfl hI o_a1
      have q_x50 : x50 = x4 := ex50.trans d_x4.symm
      have d_x50 := ex50
      refine ⟨o_a48, ?_⟩
      have i51 : vp_in x50 (hN _ a48) := (vin l_a48 (m := 8) (by decide) (q847 hr_y2 r_y2 r_x4 q_x4 bb_x5 c9 bb_x10 c14 r_x50 q_x50))
      refine ⟨i51, ?_⟩
      have hI := iv_aI (i := x50.toNatClampNeg) (v := (0 : Int32)) hI o_a1 (by decide) ea48 o_a48 (by decide)
      have f0 : FRI _ _ _ (sI S44 a48 x50.toNatClampNeg (0 : Int32)) := fri_aI (S := S44) g0 f0 o_a48 (by decide)
      have d_x50 : x50 = fI (sI S44 a48 x50.toNatClampNeg (0 : Int32)) a1 2 := d_x50.trans (sI_ne (S := S44) o_a48 o_a1 (by decide) 2).symm
      refine ⟨a1, ea1, ?_⟩
      refine ⟨o_a1, ?_⟩
      intro x53 ex53
      have r_x53 : (0 : Int32) ≤ x53 ∧ x53 ≤ (8 : Int32) := by rw [ex53]; exact nu 12 rfl hI o_a1
      have q_x53 : x53 = x50 := ex53.trans d_x50.symm
      have d_x53 := ex53
      intro x54 ex54
      have hI := iv_sI (j := 2) (v := x54) hI o_a1 (by decide) (nu_one (lo := (0 : Int32)) (hi := (8 : Int32)) (by decide) (q848 hr_y2 r_y2 r_x4 q_x4 bb_x5 c9 bb_x10 c14 r_x50 q_x50 r_x53 q_x53 ex54))
      have f0 : FRI _ _ _ (sI (sI S44 a48 x50.toNatClampNeg (0 : Int32)) a1 2 x54) := fri_sI (S := sI S44 a48 x50.toNatClampNeg (0 : Int32)) g0 f0 o_a1 (by decide)
      have d_x54 : x54 = fI (sI (sI S44 a48 x50.toNatClampNeg (0 : Int32)) a1 2 x54) a1 2 := (u2_self _ _ _ _).symm
      exact hq _ _ hI g0 f0 (Or.inr rfl) hT
  · exact hq _ _ hI g0 f0 (Or.inl rfl) hT
set_option maxHeartbeats 4000000 in
set_option maxRecDepth 20000 in
theorem m_X4_side {v0 : Nat} {Q : Int32 → HS → Prop} {S : HS} (hI : IV S) (o_v0 : ob S v0 4)    (hT : TX S v0) (hq : ∀ (r : Int32) (T : HS), IV T → Gr S T → FRI [(4, 0), (4, 1), (4, 4), (4, 6), (4, 7), (4, 9)] [] S T → bl r → (TX T v0) → Q r T) : P_X4_side v0 Q S := by
  have g0 := gr_rf S
  have f0 := fri_rf [(4, 0), (4, 1), (4, 4), (4, 6), (4, 7), (4, 9)] [] S
  refine u_X4_side ?_
  refine u_X4_side_0 ?_
  refine ⟨o_v0, ?_⟩
  refine m_X4_is hI o_v0 (by decide) hT (fun x1 S2 hI2 g3 b_x1 p_x1 => ?_)
  subst p_x1
  intro _ _
  have bb_x1 : x1 = 0 ∨ x1 = 1 := b_x1
  refine ⟨fun c5 => ?_, fun c5 => ?_⟩
  · refine m_X4_is hI o_v0 (by decide) hT (fun x6 S7 hI2 g8 b_x6 p_x6 => ?_)
    subst p_x6
    intro _ _
    have bb_x6 : x6 = 0 ∨ x6 = 1 := b_x6
    refine ⟨fun c10 => ?_, fun c10 => ?_⟩
    · refine m_X4_is hI o_v0 (by decide) hT (fun x11 S12 hI2 g13 b_x11 p_x11 => ?_)
      subst p_x11
      intro _ _
      have bb_x11 : x11 = 0 ∨ x11 = 1 := b_x11
      refine ⟨fun c15 => ?_, fun c15 => ?_⟩
      · refine m_X4_is hI o_v0 (by decide) hT (fun x16 S17 hI2 g18 b_x16 p_x16 => ?_)
        subst p_x16
        intro _ _
        have bb_x16 : x16 = 0 ∨ x16 = 1 := b_x16
        refine ⟨fun c20 => ?_, fun c20 => ?_⟩
        · refine u_X4_fail ?_
          refine u_X4_fail_0 ?_
          refine ⟨o_v0, ?_⟩
          have hI := iv_sI (j := 0) (v := (1 : Int32)) hI o_v0 (by decide) (nu_free (by decide))
          have f0 : FRI _ _ _ (sI S v0 0 (1 : Int32)) := fri_sI (S := S) g0 f0 o_v0 (by decide)
          obtain ⟨y21, hy21⟩ : ∃ z : Int32, z = (1 : Int32) := ⟨_, rfl⟩
          have d_y21 : y21 = fI (sI S v0 0 (1 : Int32)) v0 0 := hy21.trans (u2_self _ _ _ _).symm
          intro x22 ex22
          have d_x22 := ex22
          have hI := iv_sI (j := 1) (v := x22) hI o_v0 (by decide) (nu_free (by decide))
          have f0 : FRI _ _ _ (sI (sI S v0 0 (1 : Int32)) v0 1 x22) := fri_sI (S := sI S v0 0 (1 : Int32)) g0 f0 o_v0 (by decide)
          have d_y21 : y21 = fI (sI (sI S v0 0 (1 : Int32)) v0 1 x22) v0 0 := d_y21.trans (rd_j (by decide)).symm
          have d_x22 : x22 = fI (sI (sI S v0 0 (1 : Int32)) v0 1 x22) v0 7 := d_x22.trans (rd_j (by decide)).symm
          have d_x22 : x22 = fI (sI (sI S v0 0 (1 : Int32)) v0 1 x22) v0 1 := (u2_self _ _ _ _).symm
          intro _ _
          exact hq _ _ hI g0 f0 (Or.inl rfl) hT
        · have hI := iv_sI (j := 9) (v := (3 : Int32)) hI o_v0 (by decide) (nu_free (by decide))
          have f0 : FRI _ _ _ (sI S v0 9 (3 : Int32)) := fri_sI (S := S) g0 f0 o_v0 (by decide)
          obtain ⟨y23, hy23⟩ : ∃ z : Int32, z = (3 : Int32) := ⟨_, rfl⟩
          have d_y23 : y23 = fI (sI S v0 9 (3 : Int32)) v0 9 := hy23.trans (u2_self _ _ _ _).symm
          refine u_X4_side_74 ?_
          refine ⟨o_v0, ?_⟩
          refine m_X4_next hI o_v0 hT (fun S25 hI g26 fc27 p_S25 => ?_)
          obtain hT := p_S25
          have d_y23 := d_y23.trans (fri_at fc27 (by decide) (by decide) o_v0).symm
          have f0 := fri_tr (S := sI S v0 9 (3 : Int32)) g0 f0 fc27 (by decide) (by decide)
          have o_v0 := gr_ob g26 o_v0
          have g0 := gr_tr (T := sI S v0 9 (3 : Int32)) g0 g26
          intro _
          exact hq _ _ hI g0 f0 (Or.inr rfl) hT
      · have hI := iv_sI (j := 9) (v := (2 : Int32)) hI o_v0 (by decide) (nu_free (by decide))
        have f0 : FRI _ _ _ (sI S v0 9 (2 : Int32)) := fri_sI (S := S) g0 f0 o_v0 (by decide)
        obtain ⟨y28, hy28⟩ : ∃ z : Int32, z = (2 : Int32) := ⟨_, rfl⟩
        have d_y28 : y28 = fI (sI S v0 9 (2 : Int32)) v0 9 := hy28.trans (u2_self _ _ _ _).symm
        refine u_X4_side_74 ?_
        refine ⟨o_v0, ?_⟩
        refine m_X4_next hI o_v0 hT (fun S30 hI g31 fc32 p_S30 => ?_)
        obtain hT := p_S30
        have d_y28 := d_y28.trans (fri_at fc32 (by decide) (by decide) o_v0).symm
        have f0 := fri_tr (S := sI S v0 9 (2 : Int32)) g0 f0 fc32 (by decide) (by decide)
        have o_v0 := gr_ob g31 o_v0
        have g0 := gr_tr (T := sI S v0 9 (2 : Int32)) g0 g31
        intro _
        exact hq _ _ hI g0 f0 (Or.inr rfl) hT
    · have hI := iv_sI (j := 9) (v := (1 : Int32)) hI o_v0 (by decide) (nu_free (by decide))
      have f0 : FRI _ _ _ (sI S v0 9 (1 : Int32)) := fri_sI (S := S) g0 f0 o_v0 (by decide)
      obtain ⟨y33, hy33⟩ : ∃ z : Int32, z = (1 : Int32) := ⟨_, rfl⟩
      have d_y33 : y33 = fI (sI S v0 9 (1 : Int32)) v0 9 := hy33.trans (u2_self _ _ _ _).symm
      refine u_X4_side_74 ?_
      refine ⟨o_v0, ?_⟩
      refine m_X4_next hI o_v0 hT (fun S35 hI g36 fc37 p_S35 => ?_)
      obtain hT := p_S35
      have d_y33 := d_y33.trans (fri_at fc37 (by decide) (by decide) o_v0).symm
      have f0 := fri_tr (S := sI S v0 9 (1 : Int32)) g0 f0 fc37 (by decide) (by decide)
      have o_v0 := gr_ob g36 o_v0
      have g0 := gr_tr (T := sI S v0 9 (1 : Int32)) g0 g36
      intro _
      exact hq _ _ hI g0 f0 (Or.inr rfl) hT
  · have hI := iv_sI (j := 9) (v := (0 : Int32)) hI o_v0 (by decide) (nu_free (by decide))
    have f0 : FRI _ _ _ (sI S v0 9 (0 : Int32)) := fri_sI (S := S) g0 f0 o_v0 (by decide)
    obtain ⟨y38, hy38⟩ : ∃ z : Int32, z = (0 : Int32) := ⟨_, rfl⟩
    have d_y38 : y38 = fI (sI S v0 9 (0 : Int32)) v0 9 := hy38.trans (u2_self _ _ _ _).symm
    refine u_X4_side_74 ?_
    refine ⟨o_v0, ?_⟩
    refine m_X4_next hI o_v0 hT (fun S40 hI g41 fc42 p_S40 => ?_)
    obtain hT := p_S40
    have d_y38 := d_y38.trans (fri_at fc42 (by decide) (by decide) o_v0).symm
    have f0 := fri_tr (S := sI S v0 9 (0 : Int32)) g0 f0 fc42 (by decide) (by decide)
    have o_v0 := gr_ob g41 o_v0
    have g0 := gr_tr (T := sI S v0 9 (0 : Int32)) g0 g41
    intro _
    exact hq _ _ hI g0 f0 (Or.inr rfl) hT
set_option maxHeartbeats 4000000 in
set_option maxRecDepth 20000 in
theorem m_X4_rainLine {v0 : Nat} {Q : Int32 → HS → Prop} {S : HS} (hI : IV S) (o_v0 : ob S v0 4)   (hrm : RM S v0 1 6) (hT : TX S v0) (hq : ∀ (r : Int32) (T : HS), IV T → Gr S T → FRI [(3, 0), (3, 1), (3, 2), (3, 3), (3, 4), (4, 0), (4, 1), (4, 4), (4, 6), (4, 7), (4, 9), (8, 1)] [] S T → bl r → (TX T v0) → Q r T) : P_X4_rainLine v0 Q S := by
  have g0 := gr_rf S
  have f0 := fri_rf [(3, 0), (3, 1), (3, 2), (3, 3), (3, 4), (4, 0), (4, 1), (4, 4), (4, 6), (4, 7), (4, 9), (8, 1)] [] S
  obtain ⟨a1, ea1, o_a1, -⟩ := sh 12 rfl hI o_v0
  obtain ⟨y2, d_y2⟩ : ∃ z : Int32, z = fI S a1 1 := ⟨_, rfl⟩
  have hr_y2 : y2 < (6 : Int32) := by rw [d_y2]; exact hrm _ ea1
  have r_y2 : (0 : Int32) ≤ y2 ∧ y2 ≤ (6 : Int32) := by rw [d_y2]; exact nu 11 rfl hI o_a1
  refine u_X4_rainLine ?_
  refine u_X4_rainLine_0 ?_
  refine ⟨o_v0, ?_⟩
  refine ⟨a1, ea1, ?_⟩
  refine ⟨o_a1, ?_⟩
  obtain ⟨a4, ea4, o_a4, l_a4⟩ := shl 15 rfl hI o_a1
  refine ⟨a4, ea4, ?_⟩
  refine ⟨a1, ea1, ?_⟩
  refine ⟨o_a1, ?_⟩
  intro x6 ex6
  have r_x6 : (0 : Int32) ≤ x6 ∧ x6 ≤ (6 : Int32) := by rw [ex6]; exact nu 11 rfl hI o_a1
  have q_x6 : x6 = y2 := ex6.trans d_y2.symm
  have d_x6 := ex6
  refine ⟨o_a4, ?_⟩
  have i8 : vp_in x6 (hN _ a4) := (vin l_a4 (m := 6) (by decide) (q841 hr_y2 r_y2 r_x6 q_x6))
  obtain ⟨a7, ea7, o_a7⟩ := ae hI o_a4 (by decide) (by decide) i8
  replace o_a7 : ob _ a7 3 := o_a7
  refine ⟨i8, a7, ea7, ?_⟩
  refine m_X4_wordAndWhole hI o_v0 (by decide) hT (fun x9 S10 hI g11 fc12 b_x9 p_x9 => ?_)
  obtain ⟨hT, pf9_S10⟩ := p_x9
  have l_a4 := (gr_len g11 o_a4).trans l_a4
  have d_x6 := d_x6.trans (fri_at fc12 (by decide) (by decide) o_a1).symm
  have ea1 := (frr_at fc12 (by decide) (by decide) o_v0).trans ea1
  have ea4 := (frr_at fc12 (by decide) (by decide) o_a1).trans ea4
  have f0 := fri_tr (S := S) g0 f0 fc12 (by decide) (by decide)
  have o_a1 := gr_ob g11 o_a1
  have o_a4 := gr_ob g11 o_a4
  have o_a7 := gr_ob g11 o_a7
  have o_v0 := gr_ob g11 o_v0
  have g0 := gr_tr (T := S) g0 g11
  obtain ⟨y13, d_y13⟩ : ∃ z : Int32, z = fI S10 v0 9 := ⟨_, rfl⟩
  have p_y13 : x9 = 1 → (0 : Int32) ≤ y13 ∧ y13 ≤ (9 : Int32) := by rw [d_y13]; exact pf9_S10
  intro _ _
  have bb_x9 : x9 = 0 ∨ x9 = 1 := b_x9
  refine ⟨fun c14 => ?_, fun c14 => ?_⟩
  · intro x15 ex15
    have q_x15 : x15 = y13 := ex15.trans d_y13.symm
    have d_x15 := ex15
    refine ⟨o_a7, ?_⟩
    have hI := iv_sI (j := 0) (v := x15) hI o_a7 (by decide) (nu_free (by decide))
    have f0 : FRI _ _ _ (sI S10 a7 0 x15) := fri_sI (S := S10) g0 f0 o_a7 (by decide)
    have d_x6 : x6 = fI (sI S10 a7 0 x15) a1 1 := d_x6.trans (sI_ne (S := S10) o_a7 o_a1 (by decide) 1).symm
    have d_x15 : x15 = fI (sI S10 a7 0 x15) v0 9 := d_x15.trans (sI_ne (S := S10) o_a7 o_v0 (by decide) 9).symm
    have d_x15 : x15 = fI (sI S10 a7 0 x15) a7 0 := (u2_self _ _ _ _).symm
    refine m_X4_wordAndWhole hI o_v0 (by decide) hT (fun x16 S17 hI g18 fc19 b_x16 p_x16 => ?_)
    obtain ⟨hT, pf9_S17⟩ := p_x16
    have l_a4 := (gr_len g18 o_a4).trans l_a4
    have d_x6 := d_x6.trans (fri_at fc19 (by decide) (by decide) o_a1).symm
    have d_x15 := d_x15.trans (fri_at fc19 (by decide) (by decide) o_a7).symm
    have ea1 := (frr_at fc19 (by decide) (by decide) o_v0).trans ea1
    have ea4 := (frr_at fc19 (by decide) (by decide) o_a1).trans ea4
    have f0 := fri_tr (S := sI S10 a7 0 x15) g0 f0 fc19 (by decide) (by decide)
    have o_a1 := gr_ob g18 o_a1
    have o_a4 := gr_ob g18 o_a4
    have o_a7 := gr_ob g18 o_a7
    have o_v0 := gr_ob g18 o_v0
    have g0 := gr_tr (T := sI S10 a7 0 x15) g0 g18
    obtain ⟨y20, d_y20⟩ : ∃ z : Int32, z = fI S17 v0 9 := ⟨_, rfl⟩
    have p_y20 : x16 = 1 → (1 : Int32) ≤ y20 ∧ y20 ≤ (9 : Int32) := by rw [d_y20]; exact pf9_S17
    intro _ _
    have bb_x16 : x16 = 0 ∨ x16 = 1 := b_x16
    refine ⟨fun c21 => ?_, fun c21 => ?_⟩
    · intro x22 ex22
      have q_x22 : x22 = y20 := ex22.trans d_y20.symm
      have d_x22 := ex22
      have hI := iv_sI (j := 1) (v := x22) hI o_a7 (by decide) (nu_free (by decide))
      have f0 : FRI _ _ _ (sI S17 a7 1 x22) := fri_sI (S := S17) g0 f0 o_a7 (by decide)
      have d_x6 : x6 = fI (sI S17 a7 1 x22) a1 1 := d_x6.trans (sI_ne (S := S17) o_a7 o_a1 (by decide) 1).symm
      have d_x15 : x15 = fI (sI S17 a7 1 x22) a7 0 := d_x15.trans (rd_j (by decide)).symm
      have d_x22 : x22 = fI (sI S17 a7 1 x22) v0 9 := d_x22.trans (sI_ne (S := S17) o_a7 o_v0 (by decide) 9).symm
      have d_x22 : x22 = fI (sI S17 a7 1 x22) a7 1 := (u2_self _ _ _ _).symm
      refine m_X4_word hI o_v0 (by decide) hT (fun x23 S24 hI g25 fc26 b_x23 p_x23 => ?_)
      obtain hT := p_x23
      have l_a4 := (gr_len g25 o_a4).trans l_a4
      have d_x6 := d_x6.trans (fri_at fc26 (by decide) (by decide) o_a1).symm
      have d_x15 := d_x15.trans (fri_at fc26 (by decide) (by decide) o_a7).symm
      have d_x22 := d_x22.trans (fri_at fc26 (by decide) (by decide) o_v0).symm
      have d_x22 := d_x22.trans (fri_at fc26 (by decide) (by decide) o_a7).symm
      have ea1 := (frr_at fc26 (by decide) (by decide) o_v0).trans ea1
      have ea4 := (frr_at fc26 (by decide) (by decide) o_a1).trans ea4
      have f0 := fri_tr (S := sI S17 a7 1 x22) g0 f0 fc26 (by decide) (by decide)
      have o_a1 := gr_ob g25 o_a1
      have o_a4 := gr_ob g25 o_a4
      have o_a7 := gr_ob g25 o_a7
      have o_v0 := gr_ob g25 o_v0
      have g0 := gr_tr (T := sI S17 a7 1 x22) g0 g25
      intro _ _
      have bb_x23 : x23 = 0 ∨ x23 = 1 := b_x23
      refine ⟨fun c27 => ?_, fun c27 => ?_⟩
      · exact hq _ _ hI g0 f0 (Or.inl rfl) hT
      · refine m_X4_side hI o_v0 hT (fun x28 S29 hI g30 fc31 b_x28 p_x28 => ?_)
        obtain hT := p_x28
        have l_a4 := (gr_len g30 o_a4).trans l_a4
        have d_x6 := d_x6.trans (fri_at fc31 (by decide) (by decide) o_a1).symm
        have d_x15 := d_x15.trans (fri_at fc31 (by decide) (by decide) o_a7).symm
        have d_x22 := d_x22.trans (fri_at fc31 (by decide) (by decide) o_a7).symm
        have ea1 := (frr_at fc31 (by decide) (by decide) o_v0).trans ea1
        have ea4 := (frr_at fc31 (by decide) (by decide) o_a1).trans ea4
        have f0 := fri_tr (S := S24) g0 f0 fc31 (by decide) (by decide)
        have o_a1 := gr_ob g30 o_a1
        have o_a4 := gr_ob g30 o_a4
        have o_a7 := gr_ob g30 o_a7
        have o_v0 := gr_ob g30 o_v0
        have g0 := gr_tr (T := S24) g0 g30
        intro _ _
        have bb_x28 : x28 = 0 ∨ x28 = 1 := b_x28
        refine ⟨fun c32 => ?_, fun c32 => ?_⟩
        · intro x33 ex33
          have d_x33 := ex33
          have hI := iv_sI (j := 2) (v := x33) hI o_a7 (by decide) (nu_free (by decide))
          have f0 : FRI _ _ _ (sI S29 a7 2 x33) := fri_sI (S := S29) g0 f0 o_a7 (by decide)
          have d_x6 : x6 = fI (sI S29 a7 2 x33) a1 1 := d_x6.trans (sI_ne (S := S29) o_a7 o_a1 (by decide) 1).symm
          have d_x15 : x15 = fI (sI S29 a7 2 x33) a7 0 := d_x15.trans (rd_j (by decide)).symm
          have d_x22 : x22 = fI (sI S29 a7 2 x33) a7 1 := d_x22.trans (rd_j (by decide)).symm
          have d_x33 : x33 = fI (sI S29 a7 2 x33) v0 9 := d_x33.trans (sI_ne (S := S29) o_a7 o_v0 (by decide) 9).symm
          have d_x33 : x33 = fI (sI S29 a7 2 x33) a7 2 := (u2_self _ _ _ _).symm
          refine m_X4_whole hI o_v0 hT (fun x34 S35 hI g36 fc37 b_x34 p_x34 => ?_)
          obtain ⟨hT, pf9_S35⟩ := p_x34
          have l_a4 := (gr_len g36 o_a4).trans l_a4
          have d_x6 := d_x6.trans (fri_at fc37 (by decide) (by decide) o_a1).symm
          have d_x15 := d_x15.trans (fri_at fc37 (by decide) (by decide) o_a7).symm
          have d_x22 := d_x22.trans (fri_at fc37 (by decide) (by decide) o_a7).symm
          have d_x33 := d_x33.trans (fri_at fc37 (by decide) (by decide) o_a7).symm
          have ea1 := (frr_at fc37 (by decide) (by decide) o_v0).trans ea1
          have ea4 := (frr_at fc37 (by decide) (by decide) o_a1).trans ea4
          have f0 := fri_tr (S := sI S29 a7 2 x33) g0 f0 fc37 (by decide) (by decide)
          have o_a1 := gr_ob g36 o_a1
          have o_a4 := gr_ob g36 o_a4
          have o_a7 := gr_ob g36 o_a7
          have o_v0 := gr_ob g36 o_v0
          have g0 := gr_tr (T := sI S29 a7 2 x33) g0 g36
          obtain ⟨y38, d_y38⟩ : ∃ z : Int32, z = fI S35 v0 9 := ⟨_, rfl⟩
          have p_y38 : x34 = 1 → (0 : Int32) ≤ y38 ∧ y38 ≤ (9 : Int32) := by rw [d_y38]; exact pf9_S35
          intro _ _
          have bb_x34 : x34 = 0 ∨ x34 = 1 := b_x34
          refine ⟨fun c39 => ?_, fun c39 => ?_⟩
          · intro x40 ex40
            have q_x40 : x40 = y38 := ex40.trans d_y38.symm
            have d_x40 := ex40
            have hI := iv_sI (j := 3) (v := x40) hI o_a7 (by decide) (nu_free (by decide))
            have f0 : FRI _ _ _ (sI S35 a7 3 x40) := fri_sI (S := S35) g0 f0 o_a7 (by decide)
            have d_x6 : x6 = fI (sI S35 a7 3 x40) a1 1 := d_x6.trans (sI_ne (S := S35) o_a7 o_a1 (by decide) 1).symm
            have d_x15 : x15 = fI (sI S35 a7 3 x40) a7 0 := d_x15.trans (rd_j (by decide)).symm
            have d_x22 : x22 = fI (sI S35 a7 3 x40) a7 1 := d_x22.trans (rd_j (by decide)).symm
            have d_x33 : x33 = fI (sI S35 a7 3 x40) a7 2 := d_x33.trans (rd_j (by decide)).symm
            have d_x40 : x40 = fI (sI S35 a7 3 x40) v0 9 := d_x40.trans (sI_ne (S := S35) o_a7 o_v0 (by decide) 9).symm
            have d_x40 : x40 = fI (sI S35 a7 3 x40) a7 3 := (u2_self _ _ _ _).symm
            refine m_X4_wordAndWhole hI o_v0 (by decide) hT (fun x41 S42 hI g43 fc44 b_x41 p_x41 => ?_)
            obtain ⟨hT, pf9_S42⟩ := p_x41
            have l_a4 := (gr_len g43 o_a4).trans l_a4
            have d_x6 := d_x6.trans (fri_at fc44 (by decide) (by decide) o_a1).symm
            have d_x15 := d_x15.trans (fri_at fc44 (by decide) (by decide) o_a7).symm
            have d_x22 := d_x22.trans (fri_at fc44 (by decide) (by decide) o_a7).symm
            have d_x33 := d_x33.trans (fri_at fc44 (by decide) (by decide) o_a7).symm
            have d_x40 := d_x40.trans (fri_at fc44 (by decide) (by decide) o_a7).symm
            have ea1 := (frr_at fc44 (by decide) (by decide) o_v0).trans ea1
            have ea4 := (frr_at fc44 (by decide) (by decide) o_a1).trans ea4
            have f0 := fri_tr (S := sI S35 a7 3 x40) g0 f0 fc44 (by decide) (by decide)
            have o_a1 := gr_ob g43 o_a1
            have o_a4 := gr_ob g43 o_a4
            have o_a7 := gr_ob g43 o_a7
            have o_v0 := gr_ob g43 o_v0
            have g0 := gr_tr (T := sI S35 a7 3 x40) g0 g43
            obtain ⟨y45, d_y45⟩ : ∃ z : Int32, z = fI S42 v0 9 := ⟨_, rfl⟩
            have p_y45 : x41 = 1 → (0 : Int32) ≤ y45 ∧ y45 ≤ (100 : Int32) := by rw [d_y45]; exact pf9_S42
            intro _ _
            have bb_x41 : x41 = 0 ∨ x41 = 1 := b_x41
            refine ⟨fun c46 => ?_, fun c46 => ?_⟩
            · intro x47 ex47
              have q_x47 : x47 = y45 := ex47.trans d_y45.symm
              have d_x47 := ex47
              have hI := iv_sI (j := 4) (v := x47) hI o_a7 (by decide) (nu_free (by decide))
              have f0 : FRI _ _ _ (sI S42 a7 4 x47) := fri_sI (S := S42) g0 f0 o_a7 (by decide)
              have d_x6 : x6 = fI (sI S42 a7 4 x47) a1 1 := d_x6.trans (sI_ne (S := S42) o_a7 o_a1 (by decide) 1).symm
              have d_x15 : x15 = fI (sI S42 a7 4 x47) a7 0 := d_x15.trans (rd_j (by decide)).symm
              have d_x22 : x22 = fI (sI S42 a7 4 x47) a7 1 := d_x22.trans (rd_j (by decide)).symm
              have d_x33 : x33 = fI (sI S42 a7 4 x47) a7 2 := d_x33.trans (rd_j (by decide)).symm
              have d_x40 : x40 = fI (sI S42 a7 4 x47) a7 3 := d_x40.trans (rd_j (by decide)).symm
              have d_x47 : x47 = fI (sI S42 a7 4 x47) v0 9 := d_x47.trans (sI_ne (S := S42) o_a7 o_v0 (by decide) 9).symm
              have d_x47 : x47 = fI (sI S42 a7 4 x47) a7 4 := (u2_self _ _ _ _).symm
              refine ⟨a1, ea1, ?_⟩
              refine ⟨o_a1, ?_⟩
              intro x49 ex49
              have r_x49 : (0 : Int32) ≤ x49 ∧ x49 ≤ (6 : Int32) := by rw [ex49]; exact nu 11 rfl hI o_a1
              have q_x49 : x49 = x6 := ex49.trans d_x6.symm
              have d_x49 := ex49
              intro x50 ex50
              have hI := iv_sI (j := 1) (v := x50) hI o_a1 (by decide) (nu_one (lo := (0 : Int32)) (hi := (6 : Int32)) (by decide) (q842 hr_y2 r_y2 r_x6 q_x6 p_y13 bb_x9 c14 q_x15 p_y20 bb_x16 c21 q_x22 bb_x23 c27 bb_x28 c32 p_y38 bb_x34 c39 q_x40 p_y45 bb_x41 c46 q_x47 r_x49 q_x49 ex50))
              have f0 : FRI _ _ _ (sI (sI S42 a7 4 x47) a1 1 x50) := fri_sI (S := sI S42 a7 4 x47) g0 f0 o_a1 (by decide)
              have d_x15 : x15 = fI (sI (sI S42 a7 4 x47) a1 1 x50) a7 0 := d_x15.trans (sI_ne (S := sI S42 a7 4 x47) o_a1 o_a7 (by decide) 0).symm
              have d_x22 : x22 = fI (sI (sI S42 a7 4 x47) a1 1 x50) a7 1 := d_x22.trans (sI_ne (S := sI S42 a7 4 x47) o_a1 o_a7 (by decide) 1).symm
              have d_x33 : x33 = fI (sI (sI S42 a7 4 x47) a1 1 x50) a7 2 := d_x33.trans (sI_ne (S := sI S42 a7 4 x47) o_a1 o_a7 (by decide) 2).symm
              have d_x40 : x40 = fI (sI (sI S42 a7 4 x47) a1 1 x50) a7 3 := d_x40.trans (sI_ne (S := sI S42 a7 4 x47) o_a1 o_a7 (by decide) 3).symm
              have d_x47 : x47 = fI (sI (sI S42 a7 4 x47) a1 1 x50) v0 9 := d_x47.trans (sI_ne (S := sI S42 a7 4 x47) o_a1 o_v0 (by decide) 9).symm
              have d_x47 : x47 = fI (sI (sI S42 a7 4 x47) a1 1 x50) a7 4 := d_x47.trans (sI_ne (S := sI S42 a7 4 x47) o_a1 o_a7 (by decide) 4).symm
              have d_x50 : x50 = fI (sI (sI S42 a7 4 x47) a1 1 x50) a1 1 := (u2_self _ _ _ _).symm
              exact hq _ _ hI g0 f0 (Or.inr rfl) hT
            · exact hq _ _ hI g0 f0 (Or.inl rfl) hT
          · exact hq _ _ hI g0 f0 (Or.inl rfl) hT
        · exact hq _ _ hI g0 f0 (Or.inl rfl) hT
    · exact hq _ _ hI g0 f0 (Or.inl rfl) hT
  · exact hq _ _ hI g0 f0 (Or.inl rfl) hT
set_option maxHeartbeats 4000000 in
set_option maxRecDepth 20000 in
theorem m_X4_roadLine {v0 : Nat} {Q : Int32 → HS → Prop} {S : HS} (hI : IV S) (o_v0 : ob S v0 4)   (hrm : RM S v0 3 12) (hT : TX S v0) (hq : ∀ (r : Int32) (T : HS), IV T → Gr S T → FRI [(4, 0), (4, 1), (4, 4), (4, 6), (4, 7), (4, 9), (5, 0), (5, 1), (5, 2), (5, 3), (5, 4), (8, 3)] [] S T → bl r → (TX T v0) → Q r T) : P_X4_roadLine v0 Q S := by
  have g0 := gr_rf S
  have f0 := fri_rf [(4, 0), (4, 1), (4, 4), (4, 6), (4, 7), (4, 9), (5, 0), (5, 1), (5, 2), (5, 3), (5, 4), (8, 3)] [] S
  obtain ⟨a1, ea1, o_a1, -⟩ := sh 12 rfl hI o_v0
  obtain ⟨y2, d_y2⟩ : ∃ z : Int32, z = fI S a1 3 := ⟨_, rfl⟩
  have hr_y2 : y2 < (12 : Int32) := by rw [d_y2]; exact hrm _ ea1
  have r_y2 : (0 : Int32) ≤ y2 ∧ y2 ≤ (12 : Int32) := by rw [d_y2]; exact nu 13 rfl hI o_a1
  refine u_X4_roadLine ?_
  refine u_X4_roadLine_0 ?_
  refine ⟨o_v0, ?_⟩
  refine ⟨a1, ea1, ?_⟩
  refine ⟨o_a1, ?_⟩
  obtain ⟨a4, ea4, o_a4, l_a4⟩ := shl 17 rfl hI o_a1
  refine ⟨a4, ea4, ?_⟩
  refine ⟨a1, ea1, ?_⟩
  refine ⟨o_a1, ?_⟩
  intro x6 ex6
  have r_x6 : (0 : Int32) ≤ x6 ∧ x6 ≤ (12 : Int32) := by rw [ex6]; exact nu 13 rfl hI o_a1
  have q_x6 : x6 = y2 := ex6.trans d_y2.symm
  have d_x6 := ex6
  refine ⟨o_a4, ?_⟩
  have i8 : vp_in x6 (hN _ a4) := (vin l_a4 (m := 12) (by decide) (q838 hr_y2 r_y2 r_x6 q_x6))
  obtain ⟨a7, ea7, o_a7⟩ := ae hI o_a4 (by decide) (by decide) i8
  replace o_a7 : ob _ a7 5 := o_a7
  refine ⟨i8, a7, ea7, ?_⟩
  refine m_X4_placeBut hI o_v0 hT (fun x9 S10 hI g11 fc12 b_x9 p_x9 => ?_)
  obtain hT := p_x9
  have l_a4 := (gr_len g11 o_a4).trans l_a4
  have d_x6 := d_x6.trans (fri_at fc12 (by decide) (by decide) o_a1).symm
  have ea1 := (frr_at fc12 (by decide) (by decide) o_v0).trans ea1
  have ea4 := (frr_at fc12 (by decide) (by decide) o_a1).trans ea4
  have f0 := fri_tr (S := S) g0 f0 fc12 (by decide) (by decide)
  have o_a1 := gr_ob g11 o_a1
  have o_a4 := gr_ob g11 o_a4
  have o_a7 := gr_ob g11 o_a7
  have o_v0 := gr_ob g11 o_v0
  have g0 := gr_tr (T := S) g0 g11
  intro _ _
  have bb_x9 : x9 = 0 ∨ x9 = 1 := b_x9
  refine ⟨fun c13 => ?_, fun c13 => ?_⟩
  · intro x14 ex14
    have d_x14 := ex14
    refine ⟨o_a7, ?_⟩
    have hI := iv_sI (j := 0) (v := x14) hI o_a7 (by decide) (nu_free (by decide))
    have f0 : FRI _ _ _ (sI S10 a7 0 x14) := fri_sI (S := S10) g0 f0 o_a7 (by decide)
    have d_x6 : x6 = fI (sI S10 a7 0 x14) a1 3 := d_x6.trans (sI_ne (S := S10) o_a7 o_a1 (by decide) 3).symm
    have d_x14 : x14 = fI (sI S10 a7 0 x14) v0 9 := d_x14.trans (sI_ne (S := S10) o_a7 o_v0 (by decide) 9).symm
    have d_x14 : x14 = fI (sI S10 a7 0 x14) a7 0 := (u2_self _ _ _ _).symm
    refine m_X4_side hI o_v0 hT (fun x15 S16 hI g17 fc18 b_x15 p_x15 => ?_)
    obtain hT := p_x15
    have l_a4 := (gr_len g17 o_a4).trans l_a4
    have d_x6 := d_x6.trans (fri_at fc18 (by decide) (by decide) o_a1).symm
    have d_x14 := d_x14.trans (fri_at fc18 (by decide) (by decide) o_a7).symm
    have ea1 := (frr_at fc18 (by decide) (by decide) o_v0).trans ea1
    have ea4 := (frr_at fc18 (by decide) (by decide) o_a1).trans ea4
    have f0 := fri_tr (S := sI S10 a7 0 x14) g0 f0 fc18 (by decide) (by decide)
    have o_a1 := gr_ob g17 o_a1
    have o_a4 := gr_ob g17 o_a4
    have o_a7 := gr_ob g17 o_a7
    have o_v0 := gr_ob g17 o_v0
    have g0 := gr_tr (T := sI S10 a7 0 x14) g0 g17
    intro _ _
    have bb_x15 : x15 = 0 ∨ x15 = 1 := b_x15
    refine ⟨fun c19 => ?_, fun c19 => ?_⟩
    · intro x20 ex20
      have d_x20 := ex20
      have hI := iv_sI (j := 2) (v := x20) hI o_a7 (by decide) (nu_free (by decide))
      have f0 : FRI _ _ _ (sI S16 a7 2 x20) := fri_sI (S := S16) g0 f0 o_a7 (by decide)
      have d_x6 : x6 = fI (sI S16 a7 2 x20) a1 3 := d_x6.trans (sI_ne (S := S16) o_a7 o_a1 (by decide) 3).symm
      have d_x14 : x14 = fI (sI S16 a7 2 x20) a7 0 := d_x14.trans (rd_j (by decide)).symm
      have d_x20 : x20 = fI (sI S16 a7 2 x20) v0 9 := d_x20.trans (sI_ne (S := S16) o_a7 o_v0 (by decide) 9).symm
      have d_x20 : x20 = fI (sI S16 a7 2 x20) a7 2 := (u2_self _ _ _ _).symm
      refine m_X4_whole hI o_v0 hT (fun x21 S22 hI g23 fc24 b_x21 p_x21 => ?_)
      obtain ⟨hT, pf9_S22⟩ := p_x21
      have l_a4 := (gr_len g23 o_a4).trans l_a4
      have d_x6 := d_x6.trans (fri_at fc24 (by decide) (by decide) o_a1).symm
      have d_x14 := d_x14.trans (fri_at fc24 (by decide) (by decide) o_a7).symm
      have d_x20 := d_x20.trans (fri_at fc24 (by decide) (by decide) o_a7).symm
      have ea1 := (frr_at fc24 (by decide) (by decide) o_v0).trans ea1
      have ea4 := (frr_at fc24 (by decide) (by decide) o_a1).trans ea4
      have f0 := fri_tr (S := sI S16 a7 2 x20) g0 f0 fc24 (by decide) (by decide)
      have o_a1 := gr_ob g23 o_a1
      have o_a4 := gr_ob g23 o_a4
      have o_a7 := gr_ob g23 o_a7
      have o_v0 := gr_ob g23 o_v0
      have g0 := gr_tr (T := sI S16 a7 2 x20) g0 g23
      obtain ⟨y25, d_y25⟩ : ∃ z : Int32, z = fI S22 v0 9 := ⟨_, rfl⟩
      have p_y25 : x21 = 1 → (1 : Int32) ≤ y25 ∧ y25 ≤ (60 : Int32) := by rw [d_y25]; exact pf9_S22
      intro _ _
      have bb_x21 : x21 = 0 ∨ x21 = 1 := b_x21
      refine ⟨fun c26 => ?_, fun c26 => ?_⟩
      · intro x27 ex27
        have q_x27 : x27 = y25 := ex27.trans d_y25.symm
        have d_x27 := ex27
        have hI := iv_sI (j := 3) (v := x27) hI o_a7 (by decide) (nu_free (by decide))
        have f0 : FRI _ _ _ (sI S22 a7 3 x27) := fri_sI (S := S22) g0 f0 o_a7 (by decide)
        have d_x6 : x6 = fI (sI S22 a7 3 x27) a1 3 := d_x6.trans (sI_ne (S := S22) o_a7 o_a1 (by decide) 3).symm
        have d_x14 : x14 = fI (sI S22 a7 3 x27) a7 0 := d_x14.trans (rd_j (by decide)).symm
        have d_x20 : x20 = fI (sI S22 a7 3 x27) a7 2 := d_x20.trans (rd_j (by decide)).symm
        have d_x27 : x27 = fI (sI S22 a7 3 x27) v0 9 := d_x27.trans (sI_ne (S := S22) o_a7 o_v0 (by decide) 9).symm
        have d_x27 : x27 = fI (sI S22 a7 3 x27) a7 3 := (u2_self _ _ _ _).symm
        intro x28 ex28
        have q_x28 : x28 = x14 := ex28.trans d_x14.symm
        have d_x28 := ex28
        refine m_X4_placeBut hI o_v0 hT (fun x29 S30 hI g31 fc32 b_x29 p_x29 => ?_)
        obtain hT := p_x29
        have l_a4 := (gr_len g31 o_a4).trans l_a4
        have d_x6 := d_x6.trans (fri_at fc32 (by decide) (by decide) o_a1).symm
        have d_x28 := d_x28.trans (fri_at fc32 (by decide) (by decide) o_a7).symm
        have d_x20 := d_x20.trans (fri_at fc32 (by decide) (by decide) o_a7).symm
        have d_x27 := d_x27.trans (fri_at fc32 (by decide) (by decide) o_a7).symm
        have ea1 := (frr_at fc32 (by decide) (by decide) o_v0).trans ea1
        have ea4 := (frr_at fc32 (by decide) (by decide) o_a1).trans ea4
        have f0 := fri_tr (S := sI S22 a7 3 x27) g0 f0 fc32 (by decide) (by decide)
        have o_a1 := gr_ob g31 o_a1
        have o_a4 := gr_ob g31 o_a4
        have o_a7 := gr_ob g31 o_a7
        have o_v0 := gr_ob g31 o_v0
        have g0 := gr_tr (T := sI S22 a7 3 x27) g0 g31
        intro _ _
        have bb_x29 : x29 = 0 ∨ x29 = 1 := b_x29
        refine ⟨fun c33 => ?_, fun c33 => ?_⟩
        · intro x34 ex34
          have d_x34 := ex34
          have hI := iv_sI (j := 1) (v := x34) hI o_a7 (by decide) (nu_free (by decide))
          have f0 : FRI _ _ _ (sI S30 a7 1 x34) := fri_sI (S := S30) g0 f0 o_a7 (by decide)
          have d_x6 : x6 = fI (sI S30 a7 1 x34) a1 3 := d_x6.trans (sI_ne (S := S30) o_a7 o_a1 (by decide) 3).symm
          have d_x28 : x28 = fI (sI S30 a7 1 x34) a7 0 := d_x28.trans (rd_j (by decide)).symm
          have d_x20 : x20 = fI (sI S30 a7 1 x34) a7 2 := d_x20.trans (rd_j (by decide)).symm
          have d_x27 : x27 = fI (sI S30 a7 1 x34) a7 3 := d_x27.trans (rd_j (by decide)).symm
          have d_x34 : x34 = fI (sI S30 a7 1 x34) v0 9 := d_x34.trans (sI_ne (S := S30) o_a7 o_v0 (by decide) 9).symm
          have d_x34 : x34 = fI (sI S30 a7 1 x34) a7 1 := (u2_self _ _ _ _).symm
          have hI := iv_sI (j := 4) (v := (0 : Int32)) hI o_a7 (by decide) (nu_free (by decide))
          have f0 : FRI _ _ _ (sI (sI S30 a7 1 x34) a7 4 (0 : Int32)) := fri_sI (S := sI S30 a7 1 x34) g0 f0 o_a7 (by decide)
          have d_x6 : x6 = fI (sI (sI S30 a7 1 x34) a7 4 (0 : Int32)) a1 3 := d_x6.trans (sI_ne (S := sI S30 a7 1 x34) o_a7 o_a1 (by decide) 3).symm
          have d_x28 : x28 = fI (sI (sI S30 a7 1 x34) a7 4 (0 : Int32)) a7 0 := d_x28.trans (rd_j (by decide)).symm
          have d_x20 : x20 = fI (sI (sI S30 a7 1 x34) a7 4 (0 : Int32)) a7 2 := d_x20.trans (rd_j (by decide)).symm
          have d_x27 : x27 = fI (sI (sI S30 a7 1 x34) a7 4 (0 : Int32)) a7 3 := d_x27.trans (rd_j (by decide)).symm
          have d_x34 : x34 = fI (sI (sI S30 a7 1 x34) a7 4 (0 : Int32)) v0 9 := d_x34.trans (sI_ne (S := sI S30 a7 1 x34) o_a7 o_v0 (by decide) 9).symm
          have d_x34 : x34 = fI (sI (sI S30 a7 1 x34) a7 4 (0 : Int32)) a7 1 := d_x34.trans (rd_j (by decide)).symm
          obtain ⟨y35, hy35⟩ : ∃ z : Int32, z = (0 : Int32) := ⟨_, rfl⟩
          have d_y35 : y35 = fI (sI (sI S30 a7 1 x34) a7 4 (0 : Int32)) a7 4 := hy35.trans (u2_self _ _ _ _).symm
          refine m_X4_is hI o_v0 (by decide) hT (fun x36 S37 hI2 g38 b_x36 p_x36 => ?_)
          subst p_x36
          intro _ _
          have bb_x36 : x36 = 0 ∨ x36 = 1 := b_x36
          refine ⟨fun c40 => ?_, fun c40 => ?_⟩
          · refine u_X4_roadLine_130 ?_
            refine ⟨o_v0, ?_⟩
            refine ⟨a1, ea1, ?_⟩
            refine ⟨o_a1, ?_⟩
            intro x42 ex42
            have r_x42 : (0 : Int32) ≤ x42 ∧ x42 ≤ (12 : Int32) := by rw [ex42]; exact nu 13 rfl hI o_a1
            have q_x42 : x42 = x6 := ex42.trans d_x6.symm
            have d_x42 := ex42
            intro x43 ex43
            have hI := iv_sI (j := 3) (v := x43) hI o_a1 (by decide) (nu_one (lo := (0 : Int32)) (hi := (12 : Int32)) (by decide) (q839 hr_y2 r_y2 r_x6 q_x6 bb_x9 c13 bb_x15 c19 p_y25 bb_x21 c26 q_x27 bb_x29 c33 bb_x36 c40 r_x42 q_x42 ex43))
            have f0 : FRI _ _ _ (sI (sI (sI S30 a7 1 x34) a7 4 (0 : Int32)) a1 3 x43) := fri_sI (S := sI (sI S30 a7 1 x34) a7 4 (0 : Int32)) g0 f0 o_a1 (by decide)
            have d_x28 : x28 = fI (sI (sI (sI S30 a7 1 x34) a7 4 (0 : Int32)) a1 3 x43) a7 0 := d_x28.trans (sI_ne (S := sI (sI S30 a7 1 x34) a7 4 (0 : Int32)) o_a1 o_a7 (by decide) 0).symm
            have d_x20 : x20 = fI (sI (sI (sI S30 a7 1 x34) a7 4 (0 : Int32)) a1 3 x43) a7 2 := d_x20.trans (sI_ne (S := sI (sI S30 a7 1 x34) a7 4 (0 : Int32)) o_a1 o_a7 (by decide) 2).symm
            have d_x27 : x27 = fI (sI (sI (sI S30 a7 1 x34) a7 4 (0 : Int32)) a1 3 x43) a7 3 := d_x27.trans (sI_ne (S := sI (sI S30 a7 1 x34) a7 4 (0 : Int32)) o_a1 o_a7 (by decide) 3).symm
            have d_x34 : x34 = fI (sI (sI (sI S30 a7 1 x34) a7 4 (0 : Int32)) a1 3 x43) v0 9 := d_x34.trans (sI_ne (S := sI (sI S30 a7 1 x34) a7 4 (0 : Int32)) o_a1 o_v0 (by decide) 9).symm
            have d_x34 : x34 = fI (sI (sI (sI S30 a7 1 x34) a7 4 (0 : Int32)) a1 3 x43) a7 1 := d_x34.trans (sI_ne (S := sI (sI S30 a7 1 x34) a7 4 (0 : Int32)) o_a1 o_a7 (by decide) 1).symm
            have d_y35 : y35 = fI (sI (sI (sI S30 a7 1 x34) a7 4 (0 : Int32)) a1 3 x43) a7 4 := d_y35.trans (sI_ne (S := sI (sI S30 a7 1 x34) a7 4 (0 : Int32)) o_a1 o_a7 (by decide) 4).symm
            have d_x43 : x43 = fI (sI (sI (sI S30 a7 1 x34) a7 4 (0 : Int32)) a1 3 x43) a1 3 := (u2_self _ _ _ _).symm
            exact hq _ _ hI g0 f0 (Or.inr rfl) hT
          · intro x44 ex44
            have q_x44 : x44 = x27 := ex44.trans d_x27.symm
            have d_x44 := ex44
            refine m_X4_wordAndWhole hI o_v0 (by decide) hT (fun x45 S46 hI g47 fc48 b_x45 p_x45 => ?_)
            obtain ⟨hT, pf9_S46⟩ := p_x45
            have l_a4 := (gr_len g47 o_a4).trans l_a4
            have d_x6 := d_x6.trans (fri_at fc48 (by decide) (by decide) o_a1).symm
            have d_x28 := d_x28.trans (fri_at fc48 (by decide) (by decide) o_a7).symm
            have d_x20 := d_x20.trans (fri_at fc48 (by decide) (by decide) o_a7).symm
            have d_x44 := d_x44.trans (fri_at fc48 (by decide) (by decide) o_a7).symm
            have d_x34 := d_x34.trans (fri_at fc48 (by decide) (by decide) o_a7).symm
            have d_y35 := d_y35.trans (fri_at fc48 (by decide) (by decide) o_a7).symm
            have ea1 := (frr_at fc48 (by decide) (by decide) o_v0).trans ea1
            have ea4 := (frr_at fc48 (by decide) (by decide) o_a1).trans ea4
            have f0 := fri_tr (S := sI (sI S30 a7 1 x34) a7 4 (0 : Int32)) g0 f0 fc48 (by decide) (by decide)
            have o_a1 := gr_ob g47 o_a1
            have o_a4 := gr_ob g47 o_a4
            have o_a7 := gr_ob g47 o_a7
            have o_v0 := gr_ob g47 o_v0
            have g0 := gr_tr (T := sI (sI S30 a7 1 x34) a7 4 (0 : Int32)) g0 g47
            obtain ⟨y49, d_y49⟩ : ∃ z : Int32, z = fI S46 v0 9 := ⟨_, rfl⟩
            have p_y49 : x45 = 1 → (0 : Int32) ≤ y49 ∧ y49 ≤ x44 := by rw [d_y49]; exact pf9_S46
            intro _ _
            have bb_x45 : x45 = 0 ∨ x45 = 1 := b_x45
            refine ⟨fun c50 => ?_, fun c50 => ?_⟩
            · intro x51 ex51
              have q_x51 : x51 = y49 := ex51.trans d_y49.symm
              have d_x51 := ex51
              have hI := iv_sI (j := 4) (v := x51) hI o_a7 (by decide) (nu_free (by decide))
              have f0 : FRI _ _ _ (sI S46 a7 4 x51) := fri_sI (S := S46) g0 f0 o_a7 (by decide)
              have d_x6 : x6 = fI (sI S46 a7 4 x51) a1 3 := d_x6.trans (sI_ne (S := S46) o_a7 o_a1 (by decide) 3).symm
              have d_x28 : x28 = fI (sI S46 a7 4 x51) a7 0 := d_x28.trans (rd_j (by decide)).symm
              have d_x20 : x20 = fI (sI S46 a7 4 x51) a7 2 := d_x20.trans (rd_j (by decide)).symm
              have d_x44 : x44 = fI (sI S46 a7 4 x51) a7 3 := d_x44.trans (rd_j (by decide)).symm
              have d_x34 : x34 = fI (sI S46 a7 4 x51) a7 1 := d_x34.trans (rd_j (by decide)).symm
              have d_x51 : x51 = fI (sI S46 a7 4 x51) v0 9 := d_x51.trans (sI_ne (S := S46) o_a7 o_v0 (by decide) 9).symm
              have d_x51 : x51 = fI (sI S46 a7 4 x51) a7 4 := (u2_self _ _ _ _).symm
              refine u_X4_roadLine_130 ?_
              refine ⟨o_v0, ?_⟩
              refine ⟨a1, ea1, ?_⟩
              refine ⟨o_a1, ?_⟩
              intro x53 ex53
              have r_x53 : (0 : Int32) ≤ x53 ∧ x53 ≤ (12 : Int32) := by rw [ex53]; exact nu 13 rfl hI o_a1
              have q_x53 : x53 = x6 := ex53.trans d_x6.symm
              have d_x53 := ex53
              intro x54 ex54
              have hI := iv_sI (j := 3) (v := x54) hI o_a1 (by decide) (nu_one (lo := (0 : Int32)) (hi := (12 : Int32)) (by decide) (q840 hr_y2 r_y2 r_x6 q_x6 bb_x9 c13 bb_x15 c19 p_y25 bb_x21 c26 q_x27 bb_x29 c33 bb_x36 c40 q_x44 p_y49 bb_x45 c50 q_x51 r_x53 q_x53 ex54))
              have f0 : FRI _ _ _ (sI (sI S46 a7 4 x51) a1 3 x54) := fri_sI (S := sI S46 a7 4 x51) g0 f0 o_a1 (by decide)
              have d_x28 : x28 = fI (sI (sI S46 a7 4 x51) a1 3 x54) a7 0 := d_x28.trans (sI_ne (S := sI S46 a7 4 x51) o_a1 o_a7 (by decide) 0).symm
              have d_x20 : x20 = fI (sI (sI S46 a7 4 x51) a1 3 x54) a7 2 := d_x20.trans (sI_ne (S := sI S46 a7 4 x51) o_a1 o_a7 (by decide) 2).symm
              have d_x44 : x44 = fI (sI (sI S46 a7 4 x51) a1 3 x54) a7 3 := d_x44.trans (sI_ne (S := sI S46 a7 4 x51) o_a1 o_a7 (by decide) 3).symm
              have d_x34 : x34 = fI (sI (sI S46 a7 4 x51) a1 3 x54) a7 1 := d_x34.trans (sI_ne (S := sI S46 a7 4 x51) o_a1 o_a7 (by decide) 1).symm
              have d_x51 : x51 = fI (sI (sI S46 a7 4 x51) a1 3 x54) v0 9 := d_x51.trans (sI_ne (S := sI S46 a7 4 x51) o_a1 o_v0 (by decide) 9).symm
              have d_x51 : x51 = fI (sI (sI S46 a7 4 x51) a1 3 x54) a7 4 := d_x51.trans (sI_ne (S := sI S46 a7 4 x51) o_a1 o_a7 (by decide) 4).symm
              have d_x54 : x54 = fI (sI (sI S46 a7 4 x51) a1 3 x54) a1 3 := (u2_self _ _ _ _).symm
              exact hq _ _ hI g0 f0 (Or.inr rfl) hT
            · exact hq _ _ hI g0 f0 (Or.inl rfl) hT
        · exact hq _ _ hI g0 f0 (Or.inl rfl) hT
      · exact hq _ _ hI g0 f0 (Or.inl rfl) hT
    · exact hq _ _ hI g0 f0 (Or.inl rfl) hT
  · exact hq _ _ hI g0 f0 (Or.inl rfl) hT
