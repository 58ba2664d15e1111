set_option maxHeartbeats 4000000 in
set_option maxRecDepth 20000 in
theorem m_X4_sign {v0 : Nat} {v1 : Int32} {Q : Int32 → HS → Prop} {S : HS} (hI : IV S) (o_v0 : ob S v0 4)    (hT : TX S v0) (hq : ∀ (r : Int32) (T : HS), IV T → Gr S T → FRI [(4, 0), (4, 1), (4, 4), (4, 6), (4, 7)] [] S T → bl r → (TX T v0) → Q r T) : P_X4_sign v0 v1 Q S := by
  have g0 := gr_rf S
  have f0 := fri_rf [(4, 0), (4, 1), (4, 4), (4, 6), (4, 7)] [] S
  refine u_X4_sign ?_
  refine u_X4_sign_0 ?_
  refine ⟨o_v0, ?_⟩
  intro x1 ex1
  have d_x1 := ex1
  refine ⟨fun c2 => ?_, fun c2 => ?_⟩
  · refine m_X4_next hI o_v0 hT (fun S4 hI g5 fc6 p_S4 => ?_)
    obtain hT := p_S4
    have f0 := fri_tr g0 f0 fc6 (by decide) (by decide)
    have o_v0 := gr_ob g5 o_v0
    have g0 := gr_tr g0 g5
    intro _
    exact hq _ _ hI g0 f0 (Or.inr rfl) hT
  · refine u_X4_fail ?_
    refine u_X4_fail_0 ?_
    refine ⟨o_v0, ?_⟩
    have hI := iv_sI (j := 0) (v := (1 : Int32)) hI o_v0 (by decide) (nu_free (by decide))
    have f0 : FRI _ _ _ (sI S v0 0 (1 : Int32)) := fri_sI g0 f0 o_v0 (by decide)
    have d_x1 : x1 = fI (sI S v0 0 (1 : Int32)) v0 6 := d_x1.trans (rd_j (by decide)).symm
    obtain ⟨y7, hy7⟩ : ∃ z : Int32, z = (1 : Int32) := ⟨_, rfl⟩
    have d_y7 : y7 = fI (sI S v0 0 (1 : Int32)) v0 0 := hy7.trans (u2_self _ _ _ _).symm
    intro x8 ex8
    have d_x8 := ex8
    have hI := iv_sI (j := 1) (v := x8) hI o_v0 (by decide) (nu_free (by decide))
    have f0 : FRI _ _ _ (sI (sI S v0 0 (1 : Int32)) v0 1 x8) := fri_sI g0 f0 o_v0 (by decide)
    have d_x1 : x1 = fI (sI (sI S v0 0 (1 : Int32)) v0 1 x8) v0 6 := d_x1.trans (rd_j (by decide)).symm
    have d_y7 : y7 = fI (sI (sI S v0 0 (1 : Int32)) v0 1 x8) v0 0 := d_y7.trans (rd_j (by decide)).symm
    have d_x8 : x8 = fI (sI (sI S v0 0 (1 : Int32)) v0 1 x8) v0 7 := d_x8.trans (rd_j (by decide)).symm
    have d_x8 : x8 = fI (sI (sI S v0 0 (1 : Int32)) v0 1 x8) v0 1 := (u2_self _ _ _ _).symm
    intro _ _
    exact hq _ _ hI g0 f0 (Or.inl rfl) hT
set_option maxHeartbeats 4000000 in
set_option maxRecDepth 20000 in
theorem m_X4_someWalker {v0 : Nat} {Q : Int32 → HS → Prop} {S : HS} (hI : IV S) (o_v0 : ob S v0 4)    (hT : TX S v0) (hq : ∀ (r : Int32) (T : HS), IV T → Gr S T → FRI [(4, 0), (4, 1), (4, 4), (4, 6), (4, 7), (4, 9)] [] S T → bl r → (TX T v0) → Q r T) : P_X4_someWalker v0 Q S := by
  have g0 := gr_rf S
  have f0 := fri_rf [(4, 0), (4, 1), (4, 4), (4, 6), (4, 7), (4, 9)] [] S
  refine u_X4_someWalker ?_
  refine u_X4_someWalker_0 ?_
  refine ⟨o_v0, ?_⟩
  refine m_X4_canBeName hI o_v0 hT (fun x1 S2 hI2 g3 b_x1 p_x1 => ?_)
  subst p_x1
  intro _ _
  have bb_x1 : x1 = 0 ∨ x1 = 1 := b_x1
  refine ⟨fun c5 => ?_, fun c5 => ?_⟩
  · refine m_X4_findName hI o_v0 hT (fun x6 S7 hI2 g8 p_x6 => ?_)
    subst p_x6
    intro _
    refine ⟨fun c10 => ?_, fun c10 => ?_⟩
    · intro x11 ex11
      have hI := iv_sI (j := 9) (v := x11) hI o_v0 (by decide) (nu_free (by decide))
      have f0 : FRI _ _ _ (sI S v0 9 x11) := fri_sI g0 f0 o_v0 (by decide)
      have d_x11 : x11 = fI (sI S v0 9 x11) v0 9 := (u2_self _ _ _ _).symm
      refine m_X4_next hI o_v0 hT (fun S13 hI g14 fc15 p_S13 => ?_)
      obtain hT := p_S13
      have d_x11 := d_x11.trans (fri_at fc15 (by decide) (by decide) o_v0).symm
      have f0 := fri_tr g0 f0 fc15 (by decide) (by decide)
      have o_v0 := gr_ob g14 o_v0
      have g0 := gr_tr g0 g14
      intro _
      exact hq _ _ hI g0 f0 (Or.inr rfl) hT
    · refine u_X4_fail ?_
      refine u_X4_fail_0 ?_
      refine ⟨o_v0, ?_⟩
      have hI := iv_sI (j := 0) (v := (2 : Int32)) hI o_v0 (by decide) (nu_free (by decide))
      have f0 : FRI _ _ _ (sI S v0 0 (2 : Int32)) := fri_sI g0 f0 o_v0 (by decide)
      obtain ⟨y16, hy16⟩ : ∃ z : Int32, z = (2 : Int32) := ⟨_, rfl⟩
      have d_y16 : y16 = fI (sI S v0 0 (2 : Int32)) v0 0 := hy16.trans (u2_self _ _ _ _).symm
      intro x17 ex17
      have d_x17 := ex17
      have hI := iv_sI (j := 1) (v := x17) hI o_v0 (by decide) (nu_free (by decide))
      have f0 : FRI _ _ _ (sI (sI S v0 0 (2 : Int32)) v0 1 x17) := fri_sI g0 f0 o_v0 (by decide)
      have d_y16 : y16 = fI (sI (sI S v0 0 (2 : Int32)) v0 1 x17) v0 0 := d_y16.trans (rd_j (by decide)).symm
      have d_x17 : x17 = fI (sI (sI S v0 0 (2 : Int32)) v0 1 x17) v0 7 := d_x17.trans (rd_j (by decide)).symm
      have d_x17 : x17 = fI (sI (sI S v0 0 (2 : Int32)) v0 1 x17) v0 1 := (u2_self _ _ _ _).symm
      intro _ _
      exact hq _ _ hI g0 f0 (Or.inl rfl) hT
  · refine u_X4_fail ?_
    refine u_X4_fail_0 ?_
    refine ⟨o_v0, ?_⟩
    have hI := iv_sI (j := 0) (v := (1 : Int32)) hI o_v0 (by decide) (nu_free (by decide))
    have f0 : FRI _ _ _ (sI S v0 0 (1 : Int32)) := fri_sI g0 f0 o_v0 (by decide)
    obtain ⟨y18, hy18⟩ : ∃ z : Int32, z = (1 : Int32) := ⟨_, rfl⟩
    have d_y18 : y18 = fI (sI S v0 0 (1 : Int32)) v0 0 := hy18.trans (u2_self _ _ _ _).symm
    intro x19 ex19
    have d_x19 := ex19
    have hI := iv_sI (j := 1) (v := x19) hI o_v0 (by decide) (nu_free (by decide))
    have f0 : FRI _ _ _ (sI (sI S v0 0 (1 : Int32)) v0 1 x19) := fri_sI g0 f0 o_v0 (by decide)
    have d_y18 : y18 = fI (sI (sI S v0 0 (1 : Int32)) v0 1 x19) v0 0 := d_y18.trans (rd_j (by decide)).symm
    have d_x19 : x19 = fI (sI (sI S v0 0 (1 : Int32)) v0 1 x19) v0 7 := d_x19.trans (rd_j (by decide)).symm
    have d_x19 : x19 = fI (sI (sI S v0 0 (1 : Int32)) v0 1 x19) v0 1 := (u2_self _ _ _ _).symm
    intro _ _
    exact hq _ _ hI g0 f0 (Or.inl rfl) hT
set_option maxHeartbeats 4000000 in
set_option maxRecDepth 20000 in
theorem m_X4_seenLine {v0 : Nat} {Q : Int32 → HS → Prop} {S : HS} (hI : IV S) (o_v0 : ob S v0 4)   (hrm : RM S v0 5 4) (hT : TX S v0) (hq : ∀ (r : Int32) (T : HS), IV T → Gr S T → FRI [(4, 0), (4, 1), (4, 4), (4, 6), (4, 7), (4, 9), (8, 5)] [] S T → bl r → (TX T v0) → Q r T) : P_X4_seenLine v0 Q S := by
  have g0 := gr_rf S
  have f0 := fri_rf [(4, 0), (4, 1), (4, 4), (4, 6), (4, 7), (4, 9), (8, 5)] [] S
  obtain ⟨a1, ea1, o_a1, -⟩ := sh 12 rfl hI o_v0
  obtain ⟨y2, d_y2⟩ : ∃ z : Int32, z = fI S a1 5 := ⟨_, rfl⟩
  have hr_y2 : y2 < (4 : Int32) := by rw [d_y2]; exact hrm _ ea1
  have r_y2 : (0 : Int32) ≤ y2 ∧ y2 ≤ (4 : Int32) := by rw [d_y2]; exact nu 15 rfl hI o_a1
  refine u_X4_seenLine ?_
  refine u_X4_seenLine_0 ?_
  refine ⟨o_v0, ?_⟩
  refine m_X4_someWalker hI o_v0 hT (fun x3 S4 hI g5 fc6 b_x3 p_x3 => ?_)
  obtain hT := p_x3
  have d_y2 := d_y2.trans (fri_at fc6 (by decide) (by decide) o_a1).symm
  have ea1 := (frr_at fc6 (by decide) (by decide) o_v0).trans ea1
  have f0 := fri_tr g0 f0 fc6 (by decide) (by decide)
  have o_a1 := gr_ob g5 o_a1
  have o_v0 := gr_ob g5 o_v0
  have g0 := gr_tr g0 g5
  intro _ _
  have bb_x3 : x3 = 0 ∨ x3 = 1 := b_x3
  refine ⟨fun c7 => ?_, fun c7 => ?_⟩
  · refine ⟨a1, ea1, ?_⟩
    refine ⟨o_a1, ?_⟩
    obtain ⟨a9, ea9, o_a9, l_a9⟩ := shl 19 rfl hI o_a1
    refine ⟨a9, ea9, ?_⟩
    refine ⟨a1, ea1, ?_⟩
    refine ⟨o_a1, ?_⟩
    intro x11 ex11
    have r_x11 : (0 : Int32) ≤ x11 ∧ x11 ≤ (4 : Int32) := by rw [ex11]; exact nu 15 rfl hI o_a1
    have q_x11 : x11 = y2 := ex11.trans d_y2.symm
    have d_x11 := ex11
    intro x12 ex12
    have d_x12 := ex12
    refine ⟨o_a9, ?_⟩
    have i13 : vp_in x11 (hN _ a9) := (vin l_a9 (m := 4) (by decide) (q201 hr_y2 r_y2 bb_x3 c7 r_x11 q_x11))
    refine ⟨i13, ?_⟩
    have hI := iv_aI (i := x11.toNatClampNeg) (v := x12) hI o_a1 (by decide) ea9 o_a9 (by decide)
    have f0 : FRI _ _ _ (sI S4 a9 x11.toNatClampNeg x12) := fri_aI g0 f0 o_a9 (by decide)
    have d_x11 : x11 = fI (sI S4 a9 x11.toNatClampNeg x12) a1 5 := d_x11.trans (sI_ne o_a9 o_a1 (by decide) 5).symm
    have d_x12 : x12 = fI (sI S4 a9 x11.toNatClampNeg x12) v0 9 := d_x12.trans (sI_ne o_a9 o_v0 (by decide) 9).symm
    refine i_X4_seenLine_30 (fun (y0 : Nat) (y1 : Int32) (Z : HS) => ((2147483647 : Int32).toInt - y1.toInt).toNat) (fun (y0 : Nat) (y1 : Int32) (Z : HS) => (IV Z) ∧ (Gr (sI S4 a9 x11.toNatClampNeg x12) Z) ∧ (FRI [(4, 0), (4, 1), (4, 4), (4, 6), (4, 7), (4, 9)] [] (sI S4 a9 x11.toNatClampNeg x12) Z) ∧ (v0 = y0) ∧ (TX Z v0) ∧ (0 ≤ y1)) ?_ _ _ _ ⟨hI, (gr_rf _), (fri_rf _ _ _), rfl, hT, (q202 bb_x3 c7)⟩
    intro w17 w19 S14 X20 ⟨hI, gL15, fL16, q18, hT, i1⟩ ih21
    subst q18
    have l_a9 := (gr_len gL15 o_a9).trans l_a9
    have d_x11 := d_x11.trans (fri_at fL16 (by decide) (by decide) o_a1).symm
    have ea1 := (frr_at fL16 (by decide) (by decide) o_v0).trans ea1
    have ea9 := (frr_at fL16 (by decide) (by decide) o_a1).trans ea9
    have f0 := fri_tr g0 f0 fL16 (by decide) (by decide)
    have o_a1 := gr_ob gL15 o_a1
    have o_a9 := gr_ob gL15 o_a9
    have o_v0 := gr_ob gL15 o_v0
    have g0 := gr_tr g0 gL15
    refine u_X4_seenLine_30 ?_
    refine ⟨fun c22 => ?_, fun c22 => ?_⟩
    · refine ⟨o_v0, ?_⟩
      refine ⟨a1, ea1, ?_⟩
      refine ⟨o_a1, ?_⟩
      intro x24 ex24
      have r_x24 : (0 : Int32) ≤ x24 ∧ x24 ≤ (4 : Int32) := by rw [ex24]; exact nu 15 rfl hI o_a1
      have q_x24 : x24 = x11 := ex24.trans d_x11.symm
      have d_x24 := ex24
      intro x25 ex25
      have hI := iv_sI (j := 5) (v := x25) hI o_a1 (by decide) (nu_one (lo := (0 : Int32)) (hi := (4 : Int32)) (by decide) (q203 hr_y2 r_y2 bb_x3 c7 r_x11 q_x11 i1 c22 r_x24 q_x24 ex25))
      have f0 : FRI _ _ _ (sI S14 a1 5 x25) := fri_sI g0 f0 o_a1 (by decide)
      have fL16 : FRI _ _ _ (sI S14 a1 5 x25) := fri_sI gL15 fL16 o_a1 (by decide)
      have d_x25 : x25 = fI (sI S14 a1 5 x25) a1 5 := (u2_self _ _ _ _).symm
      exact hq _ _ hI g0 f0 (Or.inr rfl) hT
    · refine ⟨fun c26 => ?_, fun c26 => ?_⟩
      · refine u_X4_seenLine_47 ?_
        refine ⟨o_v0, ?_⟩
        refine m_X4_whole hI o_v0 hT (fun x27 S28 hI g29 fc30 b_x27 p_x27 => ?_)
        obtain ⟨hT, pf9_S28⟩ := p_x27
        have l_a9 := (gr_len g29 o_a9).trans l_a9
        have d_x11 := d_x11.trans (fri_at fc30 (by decide) (by decide) o_a1).symm
        have ea1 := (frr_at fc30 (by decide) (by decide) o_v0).trans ea1
        have ea9 := (frr_at fc30 (by decide) (by decide) o_a1).trans ea9
        have f0 := fri_tr g0 f0 fc30 (by decide) (by decide)
        have fL16 := fri_tr gL15 fL16 fc30 (by decide) (by decide)
        have o_a1 := gr_ob g29 o_a1
        have o_a9 := gr_ob g29 o_a9
        have o_v0 := gr_ob g29 o_v0
        have g0 := gr_tr g0 g29
        have gL15 := gr_tr gL15 g29
        obtain ⟨y31, d_y31⟩ : ∃ z : Int32, z = fI S28 v0 9 := ⟨_, rfl⟩
        have p_y31 : x27 = 1 → (0 : Int32) ≤ y31 ∧ y31 ≤ (999 : Int32) := by rw [d_y31]; exact pf9_S28
        intro _ _
        have bb_x27 : x27 = 0 ∨ x27 = 1 := b_x27
        refine ⟨fun c32 => ?_, fun c32 => ?_⟩
        · refine ⟨a1, ea1, ?_⟩
          refine ⟨o_a1, ?_⟩
          obtain ⟨a34, ea34, o_a34, l_a34⟩ := shl 20 rfl hI o_a1
          refine ⟨a34, ea34, ?_⟩
          refine ⟨a1, ea1, ?_⟩
          refine ⟨o_a1, ?_⟩
          intro x36 ex36
          have r_x36 : (0 : Int32) ≤ x36 ∧ x36 ≤ (4 : Int32) := by rw [ex36]; exact nu 15 rfl hI o_a1
          have q_x36 : x36 = x11 := ex36.trans d_x11.symm
          have d_x36 := ex36
          intro x37 ex37
          have q_x37 : x37 = y31 := ex37.trans d_y31.symm
          have d_x37 := ex37
          refine ⟨o_a34, ?_⟩
          have i38 : vp_in (x36 * (5 : Int32)) + w19 (hN _ a34) := (vin l_a34 (m := 20) (by decide) (q204 hr_y2 r_y2 bb_x3 c7 r_x11 q_x11 i1 c22 c26 p_y31 bb_x27 c32 r_x36 q_x36 q_x37))
          refine ⟨i38, ?_⟩
          have hI := iv_aI (i := ((x36 * (5 : Int32)) + w19).toNatClampNeg) (v := x37) hI o_a1 (by decide) ea34 o_a34 (by decide)
          have f0 : FRI _ _ _ (sI S28 a34 ((x36 * (5 : Int32)) + w19).toNatClampNeg x37) := fri_aI g0 f0 o_a34 (by decide)
          have fL16 : FRI _ _ _ (sI S28 a34 ((x36 * (5 : Int32)) + w19).toNatClampNeg x37) := fri_aI gL15 fL16 o_a34 (by decide)
          have d_x36 : x36 = fI (sI S28 a34 ((x36 * (5 : Int32)) + w19).toNatClampNeg x37) a1 5 := d_x36.trans (sI_ne o_a34 o_a1 (by decide) 5).symm
          have d_x37 : x37 = fI (sI S28 a34 ((x36 * (5 : Int32)) + w19).toNatClampNeg x37) v0 9 := d_x37.trans (sI_ne o_a34 o_v0 (by decide) 9).symm
          intro x39 ex39
          exact ih21 _ _ _ ⟨hI, gL15, fL16, rfl, hT, (q205 bb_x3 c7 i1 c22 c26 p_y31 bb_x27 c32 q_x37 ex39)⟩ (mu_up (q206 bb_x3 c7 i1 c22 c26 p_y31 bb_x27 c32 q_x37 ex39) (q207 bb_x3 c7 i1 c22 c26 p_y31 bb_x27 c32 q_x37 ex39))
        · exact hq _ _ hI g0 f0 (Or.inl rfl) hT
      · refine ⟨o_v0, ?_⟩
        refine m_X4_sign hI o_v0 hT (fun x40 S41 hI g42 fc43 b_x40 p_x40 => ?_)
        obtain hT := p_x40
        have l_a9 := (gr_len g42 o_a9).trans l_a9
        have d_x11 := d_x11.trans (fri_at fc43 (by decide) (by decide) o_a1).symm
        have ea1 := (frr_at fc43 (by decide) (by decide) o_v0).trans ea1
        have ea9 := (frr_at fc43 (by decide) (by decide) o_a1).trans ea9
        have f0 := fri_tr g0 f0 fc43 (by decide) (by decide)
        have fL16 := fri_tr gL15 fL16 fc43 (by decide) (by decide)
        have o_a1 := gr_ob g42 o_a1
        have o_a9 := gr_ob g42 o_a9
        have o_v0 := gr_ob g42 o_v0
        have g0 := gr_tr g0 g42
        have gL15 := gr_tr gL15 g42
        intro _ _
        have bb_x40 : x40 = 0 ∨ x40 = 1 := b_x40
        refine ⟨fun c44 => ?_, fun c44 => ?_⟩
        · exact hq _ _ hI g0 f0 (Or.inl rfl) hT
        · refine u_X4_seenLine_47 ?_
          refine ⟨o_v0, ?_⟩
          refine m_X4_whole hI o_v0 hT (fun x45 S46 hI g47 fc48 b_x45 p_x45 => ?_)
          obtain ⟨hT, pf9_S46⟩ := p_x45
          have l_a9 := (gr_len g47 o_a9).trans l_a9
          have d_x11 := d_x11.trans (fri_at fc48 (by decide) (by decide) o_a1).symm
          have ea1 := (frr_at fc48 (by decide) (by decide) o_v0).trans ea1
          have ea9 := (frr_at fc48 (by decide) (by decide) o_a1).trans ea9
          have f0 := fri_tr g0 f0 fc48 (by decide) (by decide)
          have fL16 := fri_tr gL15 fL16 fc48 (by decide) (by decide)
          have o_a1 := gr_ob g47 o_a1
          have o_a9 := gr_ob g47 o_a9
          have o_v0 := gr_ob g47 o_v0
          have g0 := gr_tr g0 g47
          have gL15 := gr_tr gL15 g47
          obtain ⟨y49, d_y49⟩ : ∃ z : Int32, z = fI S46 v0 9 := ⟨_, rfl⟩
          have p_y49 : x45 = 1 → (0 : Int32) ≤ y49 ∧ y49 ≤ (999 : Int32) := by rw [d_y49]; exact pf9_S46
          intro _ _
          have bb_x45 : x45 = 0 ∨ x45 = 1 := b_x45
          refine ⟨fun c50 => ?_, fun c50 => ?_⟩
          · refine ⟨a1, ea1, ?_⟩
            refine ⟨o_a1, ?_⟩
            obtain ⟨a52, ea52, o_a52, l_a52⟩ := shl 20 rfl hI o_a1
            refine ⟨a52, ea52, ?_⟩
            refine ⟨a1, ea1, ?_⟩
            refine ⟨o_a1, ?_⟩
            intro x54 ex54
            have r_x54 : (0 : Int32) ≤ x54 ∧ x54 ≤ (4 : Int32) := by rw [ex54]; exact nu 15 rfl hI o_a1
            have q_x54 : x54 = x11 := ex54.trans d_x11.symm
            have d_x54 := ex54
            intro x55 ex55
            have q_x55 : x55 = y49 := ex55.trans d_y49.symm
            have d_x55 := ex55
            refine ⟨o_a52, ?_⟩
            have i56 : vp_in (x54 * (5 : Int32)) + w19 (hN _ a52) := (vin l_a52 (m := 20) (by decide) (q208 hr_y2 r_y2 bb_x3 c7 r_x11 q_x11 i1 c22 c26 bb_x40 c44 p_y49 bb_x45 c50 r_x54 q_x54 q_x55))
            refine ⟨i56, ?_⟩
            have hI := iv_aI (i := ((x54 * (5 : Int32)) + w19).toNatClampNeg) (v := x55) hI o_a1 (by decide) ea52 o_a52 (by decide)
            have f0 : FRI _ _ _ (sI S46 a52 ((x54 * (5 : Int32)) + w19).toNatClampNeg x55) := fri_aI g0 f0 o_a52 (by decide)
            have fL16 : FRI _ _ _ (sI S46 a52 ((x54 * (5 : Int32)) + w19).toNatClampNeg x55) := fri_aI gL15 fL16 o_a52 (by decide)
            have d_x54 : x54 = fI (sI S46 a52 ((x54 * (5 : Int32)) + w19).toNatClampNeg x55) a1 5 := d_x54.trans (sI_ne o_a52 o_a1 (by decide) 5).symm
            have d_x55 : x55 = fI (sI S46 a52 ((x54 * (5 : Int32)) + w19).toNatClampNeg x55) v0 9 := d_x55.trans (sI_ne o_a52 o_v0 (by decide) 9).symm
            intro x57 ex57
            exact ih21 _ _ _ ⟨hI, gL15, fL16, rfl, hT, (q209 bb_x3 c7 i1 c22 c26 bb_x40 c44 p_y49 bb_x45 c50 q_x55 ex57)⟩ (mu_up (q210 bb_x3 c7 i1 c22 c26 bb_x40 c44 p_y49 bb_x45 c50 q_x55 ex57) (q211 bb_x3 c7 i1 c22 c26 bb_x40 c44 p_y49 bb_x45 c50 q_x55 ex57))
          · exact hq _ _ hI g0 f0 (Or.inl rfl) hT
  · exact hq _ _ hI g0 f0 (Or.inl rfl) hT
set_option maxHeartbeats 4000000 in
set_option maxRecDepth 20000 in
theorem m_X4_walkerLine {v0 : Nat} {Q : Int32 → HS → Prop} {S : HS} (hI : IV S) (o_v0 : ob S v0 4)   (hrm : RM S v0 4 4) (hT : TX S v0) (hq : ∀ (r : Int32) (T : HS), IV T → Gr S T → FRI [(4, 0), (4, 1), (4, 4), (4, 6), (4, 7), (4, 9), (4, 10), (6, 0), (6, 1), (6, 2), (6, 3), (6, 4), (6, 5), (6, 6), (8, 4)] [] S T → bl r → (TX T v0) → Q r T) : P_X4_walkerLine v0 Q S := by
  have g0 := gr_rf S
  have f0 := fri_rf [(4, 0), (4, 1), (4, 4), (4, 6), (4, 7), (4, 9), (4, 10), (6, 0), (6, 1), (6, 2), (6, 3), (6, 4), (6, 5), (6, 6), (8, 4)] [] S
  obtain ⟨a1, ea1, o_a1, -⟩ := sh 12 rfl hI o_v0
  obtain ⟨y2, d_y2⟩ : ∃ z : Int32, z = fI S a1 4 := ⟨_, rfl⟩
  have hr_y2 : y2 < (4 : Int32) := by rw [d_y2]; exact hrm _ ea1
  have r_y2 : (0 : Int32) ≤ y2 ∧ y2 ≤ (4 : Int32) := by rw [d_y2]; exact nu 14 rfl hI o_a1
  refine u_X4_walkerLine ?_
  refine u_X4_walkerLine_0 ?_
  refine ⟨o_v0, ?_⟩
  refine ⟨a1, ea1, ?_⟩
  refine ⟨o_a1, ?_⟩
  obtain ⟨a4, ea4, o_a4, l_a4⟩ := shl 18 rfl hI o_a1
  refine ⟨a4, ea4, ?_⟩
  refine ⟨a1, ea1, ?_⟩
  refine ⟨o_a1, ?_⟩
  intro x6 ex6
  have r_x6 : (0 : Int32) ≤ x6 ∧ x6 ≤ (4 : Int32) := by rw [ex6]; exact nu 14 rfl hI o_a1
  have q_x6 : x6 = y2 := ex6.trans d_y2.symm
  have d_x6 := ex6
  refine ⟨o_a4, ?_⟩
  have i8 : vp_in x6 (hN _ a4) := (vin l_a4 (m := 4) (by decide) (q197 hr_y2 r_y2 r_x6 q_x6))
  obtain ⟨a7, ea7, o_a7⟩ := ae hI o_a4 (by decide) (by decide) i8
  replace o_a7 : ob _ a7 6 := o_a7
  refine ⟨i8, a7, ea7, ?_⟩
  refine ⟨a1, ea1, ?_⟩
  refine ⟨o_a1, ?_⟩
  intro x10 ex10
  have r_x10 : (0 : Int32) ≤ x10 ∧ x10 ≤ (4 : Int32) := by rw [ex10]; exact nu 14 rfl hI o_a1
  have q_x10 : x10 = x6 := ex10.trans d_x6.symm
  have d_x10 := ex10
  refine m_X4_newName hI o_v0 hT (fun x11 S12 hI g13 fc14 b_x11 p_x11 => ?_)
  obtain hT := p_x11
  have l_a4 := (gr_len g13 o_a4).trans l_a4
  have d_x10 := d_x10.trans (fri_at fc14 (by decide) (by decide) o_a1).symm
  have ea1 := (frr_at fc14 (by decide) (by decide) o_v0).trans ea1
  have ea4 := (frr_at fc14 (by decide) (by decide) o_a1).trans ea4
  have f0 := fri_tr g0 f0 fc14 (by decide) (by decide)
  have o_a1 := gr_ob g13 o_a1
  have o_a4 := gr_ob g13 o_a4
  have o_a7 := gr_ob g13 o_a7
  have o_v0 := gr_ob g13 o_v0
  have g0 := gr_tr g0 g13
  intro _ _
  have bb_x11 : x11 = 0 ∨ x11 = 1 := b_x11
  refine ⟨fun c15 => ?_, fun c15 => ?_⟩
  · exact hq _ _ hI g0 f0 (Or.inl rfl) hT
  · refine m_X4_kindOf hI o_v0 o_a7 hT (fun x16 S17 hI g18 fc19 b_x16 p_x16 => ?_)
    obtain hT := p_x16
    have l_a4 := (gr_len g18 o_a4).trans l_a4
    have d_x10 := d_x10.trans (fri_at fc19 (by decide) (by decide) o_a1).symm
    have ea1 := (frr_at fc19 (by decide) (by decide) o_v0).trans ea1
    have ea4 := (frr_at fc19 (by decide) (by decide) o_a1).trans ea4
    have f0 := fri_tr g0 f0 fc19 (by decide) (by decide)
    have o_a1 := gr_ob g18 o_a1
    have o_a4 := gr_ob g18 o_a4
    have o_a7 := gr_ob g18 o_a7
    have o_v0 := gr_ob g18 o_v0
    have g0 := gr_tr g0 g18
    intro _ _
    have bb_x16 : x16 = 0 ∨ x16 = 1 := b_x16
    refine ⟨fun c20 => ?_, fun c20 => ?_⟩
    · exact hq _ _ hI g0 f0 (Or.inl rfl) hT
    · refine m_X4_bodyOf hI o_v0 o_a7 hT (fun x21 S22 hI g23 fc24 b_x21 p_x21 => ?_)
      obtain hT := p_x21
      have l_a4 := (gr_len g23 o_a4).trans l_a4
      have d_x10 := d_x10.trans (fri_at fc24 (by decide) (by decide) o_a1).symm
      have ea1 := (frr_at fc24 (by decide) (by decide) o_v0).trans ea1
      have ea4 := (frr_at fc24 (by decide) (by decide) o_a1).trans ea4
      have f0 := fri_tr g0 f0 fc24 (by decide) (by decide)
      have o_a1 := gr_ob g23 o_a1
      have o_a4 := gr_ob g23 o_a4
      have o_a7 := gr_ob g23 o_a7
      have o_v0 := gr_ob g23 o_v0
      have g0 := gr_tr g0 g23
      intro _ _
      have bb_x21 : x21 = 0 ∨ x21 = 1 := b_x21
      refine ⟨fun c25 => ?_, fun c25 => ?_⟩
      · refine m_X4_wordAndWhole hI o_v0 (by decide) hT (fun x26 S27 hI g28 fc29 b_x26 p_x26 => ?_)
        obtain ⟨hT, pf9_S27⟩ := p_x26
        have l_a4 := (gr_len g28 o_a4).trans l_a4
        have d_x10 := d_x10.trans (fri_at fc29 (by decide) (by decide) o_a1).symm
        have ea1 := (frr_at fc29 (by decide) (by decide) o_v0).trans ea1
        have ea4 := (frr_at fc29 (by decide) (by decide) o_a1).trans ea4
        have f0 := fri_tr g0 f0 fc29 (by decide) (by decide)
        have o_a1 := gr_ob g28 o_a1
        have o_a4 := gr_ob g28 o_a4
        have o_a7 := gr_ob g28 o_a7
        have o_v0 := gr_ob g28 o_v0
        have g0 := gr_tr g0 g28
        obtain ⟨y30, d_y30⟩ : ∃ z : Int32, z = fI S27 v0 9 := ⟨_, rfl⟩
        have p_y30 : x26 = 1 → (1 : Int32) ≤ y30 ∧ y30 ≤ (9 : Int32) := by rw [d_y30]; exact pf9_S27
        intro _ _
        have bb_x26 : x26 = 0 ∨ x26 = 1 := b_x26
        refine ⟨fun c31 => ?_, fun c31 => ?_⟩
        · intro x32 ex32
          have q_x32 : x32 = y30 := ex32.trans d_y30.symm
          have d_x32 := ex32
          refine ⟨o_a7, ?_⟩
          have hI := iv_sI (j := 5) (v := x32) hI o_a7 (by decide) (nu_one (lo := (0 : Int32)) (hi := (9 : Int32)) (by decide) (q198 bb_x11 c15 bb_x16 c20 bb_x21 c25 p_y30 bb_x26 c31 q_x32))
          have f0 : FRI _ _ _ (sI S27 a7 5 x32) := fri_sI g0 f0 o_a7 (by decide)
          have d_x10 : x10 = fI (sI S27 a7 5 x32) a1 4 := d_x10.trans (sI_ne o_a7 o_a1 (by decide) 4).symm
          have d_x32 : x32 = fI (sI S27 a7 5 x32) v0 9 := d_x32.trans (sI_ne o_a7 o_v0 (by decide) 9).symm
          have d_x32 : x32 = fI (sI S27 a7 5 x32) a7 5 := (u2_self _ _ _ _).symm
          intro x33 ex33
          have r_x33 : (0 : Int32) ≤ x33 ∧ x33 ≤ (9 : Int32) := by rw [ex33]; exact nu 4 rfl hI o_a7
          have q_x33 : x33 = x32 := ex33.trans d_x32.symm
          have d_x33 := ex33
          refine m_X4_wordAndWhole hI o_v0 (by decide) hT (fun x34 S35 hI g36 fc37 b_x34 p_x34 => ?_)
          obtain ⟨hT, pf9_S35⟩ := p_x34
          have l_a4 := (gr_len g36 o_a4).trans l_a4
          have d_x10 := d_x10.trans (fri_at fc37 (by decide) (by decide) o_a1).symm
          have d_x33 := d_x33.trans (fri_at fc37 (by decide) (by decide) o_a7).symm
          have ea1 := (frr_at fc37 (by decide) (by decide) o_v0).trans ea1
          have ea4 := (frr_at fc37 (by decide) (by decide) o_a1).trans ea4
          have f0 := fri_tr g0 f0 fc37 (by decide) (by decide)
          have o_a1 := gr_ob g36 o_a1
          have o_a4 := gr_ob g36 o_a4
          have o_a7 := gr_ob g36 o_a7
          have o_v0 := gr_ob g36 o_v0
          have g0 := gr_tr g0 g36
          obtain ⟨y38, d_y38⟩ : ∃ z : Int32, z = fI S35 v0 9 := ⟨_, rfl⟩
          have p_y38 : x34 = 1 → x33 ≤ y38 ∧ y38 ≤ (9 : Int32) := by rw [d_y38]; exact pf9_S35
          intro _ _
          have bb_x34 : x34 = 0 ∨ x34 = 1 := b_x34
          refine ⟨fun c39 => ?_, fun c39 => ?_⟩
          · intro x40 ex40
            have q_x40 : x40 = y38 := ex40.trans d_y38.symm
            have d_x40 := ex40
            have hI := iv_sI (j := 6) (v := x40) hI o_a7 (by decide) (nu_one (lo := (0 : Int32)) (hi := (9 : Int32)) (by decide) (q199 bb_x11 c15 bb_x16 c20 bb_x21 c25 p_y30 bb_x26 c31 q_x32 r_x33 q_x33 p_y38 bb_x34 c39 q_x40))
            have f0 : FRI _ _ _ (sI S35 a7 6 x40) := fri_sI g0 f0 o_a7 (by decide)
            have d_x10 : x10 = fI (sI S35 a7 6 x40) a1 4 := d_x10.trans (sI_ne o_a7 o_a1 (by decide) 4).symm
            have d_x33 : x33 = fI (sI S35 a7 6 x40) a7 5 := d_x33.trans (rd_j (by decide)).symm
            have d_x40 : x40 = fI (sI S35 a7 6 x40) v0 9 := d_x40.trans (sI_ne o_a7 o_v0 (by decide) 9).symm
            have d_x40 : x40 = fI (sI S35 a7 6 x40) a7 6 := (u2_self _ _ _ _).symm
            refine ⟨a1, ea1, ?_⟩
            refine ⟨o_a1, ?_⟩
            intro x42 ex42
            have r_x42 : (0 : Int32) ≤ x42 ∧ x42 ≤ (4 : Int32) := by rw [ex42]; exact nu 14 rfl hI o_a1
            have q_x42 : x42 = x10 := ex42.trans d_x10.symm
            have d_x42 := ex42
            intro x43 ex43
            have hI := iv_sI (j := 4) (v := x43) hI o_a1 (by decide) (nu_one (lo := (0 : Int32)) (hi := (4 : Int32)) (by decide) (q200 hr_y2 r_y2 r_x6 q_x6 r_x10 q_x10 bb_x11 c15 bb_x16 c20 bb_x21 c25 p_y30 bb_x26 c31 q_x32 r_x33 q_x33 p_y38 bb_x34 c39 q_x40 r_x42 q_x42 ex43))
            have f0 : FRI _ _ _ (sI (sI S35 a7 6 x40) a1 4 x43) := fri_sI g0 f0 o_a1 (by decide)
            have d_x33 : x33 = fI (sI (sI S35 a7 6 x40) a1 4 x43) a7 5 := d_x33.trans (sI_ne o_a1 o_a7 (by decide) 5).symm
            have d_x40 : x40 = fI (sI (sI S35 a7 6 x40) a1 4 x43) v0 9 := d_x40.trans (sI_ne o_a1 o_v0 (by decide) 9).symm
            have d_x40 : x40 = fI (sI (sI S35 a7 6 x40) a1 4 x43) a7 6 := d_x40.trans (sI_ne o_a1 o_a7 (by decide) 6).symm
            have d_x43 : x43 = fI (sI (sI S35 a7 6 x40) a1 4 x43) a1 4 := (u2_self _ _ _ _).symm
            exact hq _ _ hI g0 f0 (Or.inr rfl) hT
          · exact hq _ _ hI g0 f0 (Or.inl rfl) hT
        · exact hq _ _ hI g0 f0 (Or.inl rfl) hT
      · exact hq _ _ hI g0 f0 (Or.inl rfl) hT
set_option maxHeartbeats 4000000 in
set_option maxRecDepth 20000 in
theorem m_X4_worldLine {v0 : Nat} {Q : Int32 → HS → Prop} {S : HS} (hI : IV S) (o_v0 : ob S v0 4)    (hT : TX S v0) (hq : ∀ (r : Int32) (T : HS), IV T → Gr S T → FRI [(4, 0), (4, 1), (4, 4), (4, 6), (4, 7), (4, 9), (8, 0)] [] S T → bl r → (TX T v0) → Q r T) : P_X4_worldLine v0 Q S := by
  have g0 := gr_rf S
  have f0 := fri_rf [(4, 0), (4, 1), (4, 4), (4, 6), (4, 7), (4, 9), (8, 0)] [] S
  refine u_X4_worldLine ?_
  refine u_X4_worldLine_0 ?_
  refine ⟨o_v0, ?_⟩
  obtain ⟨a1, ea1, o_a1, -⟩ := sh 12 rfl hI o_v0
  refine ⟨a1, ea1, ?_⟩
  refine ⟨o_a1, ?_⟩
  refine m_X8_isTold hI o_a1 (fun x2 S3 hI2 g4 b_x2 p_x2 => ?_)
  subst p_x2
  intro _ _
  have bb_x2 : x2 = 0 ∨ x2 = 1 := b_x2
  refine ⟨fun c6 => ?_, fun c6 => ?_⟩
  · refine m_X4_next hI o_v0 hT (fun S8 hI g9 fc10 p_S8 => ?_)
    obtain hT := p_S8
    have ea1 := (frr_at fc10 (by decide) (by decide) o_v0).trans ea1
    have f0 := fri_tr g0 f0 fc10 (by decide) (by decide)
    have o_a1 := gr_ob g9 o_a1
    have o_v0 := gr_ob g9 o_v0
    have g0 := gr_tr g0 g9
    intro _
    refine m_X4_wordAndWhole hI o_v0 (by decide) hT (fun x11 S12 hI g13 fc14 b_x11 p_x11 => ?_)
    obtain ⟨hT, pf9_S12⟩ := p_x11
    have ea1 := (frr_at fc14 (by decide) (by decide) o_v0).trans ea1
    have f0 := fri_tr g0 f0 fc14 (by decide) (by decide)
    have o_a1 := gr_ob g13 o_a1
    have o_v0 := gr_ob g13 o_v0
    have g0 := gr_tr g0 g13
    obtain ⟨y15, d_y15⟩ : ∃ z : Int32, z = fI S12 v0 9 := ⟨_, rfl⟩
    have p_y15 : x11 = 1 → (5 : Int32) ≤ y15 ∧ y15 ≤ (60 : Int32) := by rw [d_y15]; exact pf9_S12
    intro _ _
    have bb_x11 : x11 = 0 ∨ x11 = 1 := b_x11
    refine ⟨fun c16 => ?_, fun c16 => ?_⟩
    · refine ⟨a1, ea1, ?_⟩
      intro x18 ex18
      have q_x18 : x18 = y15 := ex18.trans d_y15.symm
      have d_x18 := ex18
      refine ⟨o_a1, ?_⟩
      have hI := iv_sI (j := 0) (v := x18) hI o_a1 (by decide) (nu_one (lo := (0 : Int32)) (hi := (60 : Int32)) (by decide) (q190 bb_x2 c6 p_y15 bb_x11 c16 q_x18))
      have f0 : FRI _ _ _ (sI S12 a1 0 x18) := fri_sI g0 f0 o_a1 (by decide)
      have d_x18 : x18 = fI (sI S12 a1 0 x18) v0 9 := d_x18.trans (sI_ne o_a1 o_v0 (by decide) 9).symm
      have d_x18 : x18 = fI (sI S12 a1 0 x18) a1 0 := (u2_self _ _ _ _).symm
      exact hq _ _ hI g0 f0 (Or.inr rfl) hT
    · exact hq _ _ hI g0 f0 (Or.inl rfl) hT
  · refine u_X4_fail ?_
    refine u_X4_fail_0 ?_
    refine ⟨o_v0, ?_⟩
    have hI := iv_sI (j := 0) (v := (3 : Int32)) hI o_v0 (by decide) (nu_free (by decide))
    have f0 : FRI _ _ _ (sI S v0 0 (3 : Int32)) := fri_sI g0 f0 o_v0 (by decide)
    obtain ⟨y19, hy19⟩ : ∃ z : Int32, z = (3 : Int32) := ⟨_, rfl⟩
    have d_y19 : y19 = fI (sI S v0 0 (3 : Int32)) v0 0 := hy19.trans (u2_self _ _ _ _).symm
    intro x20 ex20
    have d_x20 := ex20
    have hI := iv_sI (j := 1) (v := x20) hI o_v0 (by decide) (nu_free (by decide))
    have f0 : FRI _ _ _ (sI (sI S v0 0 (3 : Int32)) v0 1 x20) := fri_sI g0 f0 o_v0 (by decide)
    have d_y19 : y19 = fI (sI (sI S v0 0 (3 : Int32)) v0 1 x20) v0 0 := d_y19.trans (rd_j (by decide)).symm
    have d_x20 : x20 = fI (sI (sI S v0 0 (3 : Int32)) v0 1 x20) v0 7 := d_x20.trans (rd_j (by decide)).symm
    have d_x20 : x20 = fI (sI (sI S v0 0 (3 : Int32)) v0 1 x20) v0 1 := (u2_self _ _ _ _).symm
    intro _ _
    exact hq _ _ hI g0 f0 (Or.inl rfl) hT
set_option maxHeartbeats 4000000 in
set_option maxRecDepth 20000 in
theorem m_X4_read {v0 : Nat} {v1 : Nat} {v2 : Int32} {Q : Int32 → HS → Prop} {S : HS} (hI : IV S) (o_v0 : ob S v0 4) (o_v1 : ob S v1 12) (l_v1 : hN S v1 = 900)  (h2 : 0 ≤ v2)  (hq : ∀ (r : Int32) (T : HS), IV T → Gr S T → FRI [(3, 0), (3, 1), (3, 2), (3, 3), (3, 4), (4, 0), (4, 1), (4, 3), (4, 4), (4, 6), (4, 7), (4, 9), (4, 10), (5, 0), (5, 1), (5, 2), (5, 3), (5, 4), (6, 0), (6, 1), (6, 2), (6, 3), (6, 4), (6, 5), (6, 6), (8, 0), (8, 1), (8, 2), (8, 3), (8, 4), (8, 5)] [(4, 2)] S T → bl r → Q r T) : P_X4_read v0 v1 v2 Q S := by
  have g0 := gr_rf S
  have f0 := fri_rf [(3, 0), (3, 1), (3, 2), (3, 3), (3, 4), (4, 0), (4, 1), (4, 3), (4, 4), (4, 6), (4, 7), (4, 9), (4, 10), (5, 0), (5, 1), (5, 2), (5, 3), (5, 4), (6, 0), (6, 1), (6, 2), (6, 3), (6, 4), (6, 5), (6, 6), (8, 0), (8, 1), (8, 2), (8, 3), (8, 4), (8, 5)] [(4, 2)] S
  refine u_X4_read ?_
  refine u_X4_read_0 ?_
  refine ⟨o_v0, ?_⟩
  refine m_X4_open hI o_v0 o_v1 l_v1 (q81 h2) (fun S2 hI g3 fc4 p_S2 => ?_)
  have l_v1 := (gr_len g3 o_v1).trans l_v1
  have f0 := fri_tr g0 f0 fc4 (by decide) (by decide)
  have o_v0 := gr_ob g3 o_v0
  have o_v1 := gr_ob g3 o_v1
  have g0 := gr_tr g0 g3
  intro _
  have hT := p_S2
  refine i_X4_read_8 (fun (y0 : Nat) (y3 : Int32) (Z : HS) => ((2147483647 : Int32).toInt - y3.toInt).toNat) (fun (y0 : Nat) (y3 : Int32) (Z : HS) => (IV Z) ∧ (Gr S2 Z) ∧ (FRI [(3, 0), (3, 1), (3, 2), (3, 3), (3, 4), (4, 0), (4, 1), (4, 4), (4, 6), (4, 7), (4, 9), (4, 10), (5, 0), (5, 1), (5, 2), (5, 3), (5, 4), (6, 0), (6, 1), (6, 2), (6, 3), (6, 4), (6, 5), (6, 6), (8, 0), (8, 1), (8, 2), (8, 3), (8, 4), (8, 5)] [] S2 Z) ∧ (v0 = y0) ∧ (TX Z v0) ∧ (0 ≤ y3)) ?_ _ _ _ ⟨hI, (gr_rf _), (fri_rf _ _ _), rfl, hT, (q82)⟩
  intro w8 w10 S5 X11 ⟨hI, gL6, fL7, q9, hT, i1⟩ ih12
  subst q9
  have l_v1 := (gr_len gL6 o_v1).trans l_v1
  have f0 := fri_tr g0 f0 fL7 (by decide) (by decide)
  have o_v0 := gr_ob gL6 o_v0
  have o_v1 := gr_ob gL6 o_v1
  have g0 := gr_tr g0 gL6
  refine u_X4_read_8 ?_
  refine ⟨fun c13 => ?_, fun c13 => ?_⟩
  · refine ⟨o_v0, ?_⟩
    refine u_X4_fail ?_
    refine u_X4_fail_0 ?_
    refine ⟨o_v0, ?_⟩
    have hI := iv_sI (j := 0) (v := (1 : Int32)) hI o_v0 (by decide) (nu_free (by decide))
    have f0 : FRI _ _ _ (sI S5 v0 0 (1 : Int32)) := fri_sI g0 f0 o_v0 (by decide)
    have fL7 : FRI _ _ _ (sI S5 v0 0 (1 : Int32)) := fri_sI gL6 fL7 o_v0 (by decide)
    obtain ⟨y14, hy14⟩ : ∃ z : Int32, z = (1 : Int32) := ⟨_, rfl⟩
    have d_y14 : y14 = fI (sI S5 v0 0 (1 : Int32)) v0 0 := hy14.trans (u2_self _ _ _ _).symm
    intro x15 ex15
    have d_x15 := ex15
    have hI := iv_sI (j := 1) (v := x15) hI o_v0 (by decide) (nu_free (by decide))
    have f0 : FRI _ _ _ (sI (sI S5 v0 0 (1 : Int32)) v0 1 x15) := fri_sI g0 f0 o_v0 (by decide)
    have fL7 : FRI _ _ _ (sI (sI S5 v0 0 (1 : Int32)) v0 1 x15) := fri_sI gL6 fL7 o_v0 (by decide)
    have d_y14 : y14 = fI (sI (sI S5 v0 0 (1 : Int32)) v0 1 x15) v0 0 := d_y14.trans (rd_j (by decide)).symm
    have d_x15 : x15 = fI (sI (sI S5 v0 0 (1 : Int32)) v0 1 x15) v0 7 := d_x15.trans (rd_j (by decide)).symm
    have d_x15 : x15 = fI (sI (sI S5 v0 0 (1 : Int32)) v0 1 x15) v0 1 := (u2_self _ _ _ _).symm
    intro _ _
    exact hq _ _ hI g0 f0 (Or.inl rfl)
  · refine ⟨o_v0, ?_⟩
    refine m_X4_is hI o_v0 (by decide) hT (fun x16 S17 hI2 g18 b_x16 p_x16 => ?_)
    subst p_x16
    intro _ _
    have bb_x16 : x16 = 0 ∨ x16 = 1 := b_x16
    refine ⟨fun c20 => ?_, fun c20 => ?_⟩
    · refine m_X4_is hI o_v0 (by decide) hT (fun x21 S22 hI2 g23 b_x21 p_x21 => ?_)
      subst p_x21
      intro _ _
      have bb_x21 : x21 = 0 ∨ x21 = 1 := b_x21
      refine ⟨fun c25 => ?_, fun c25 => ?_⟩
      · refine m_X4_is hI o_v0 (by decide) hT (fun x26 S27 hI2 g28 b_x26 p_x26 => ?_)
        subst p_x26
        intro _ _
        have bb_x26 : x26 = 0 ∨ x26 = 1 := b_x26
        refine ⟨fun c30 => ?_, fun c30 => ?_⟩
        · refine m_X4_is hI o_v0 (by decide) hT (fun x31 S32 hI2 g33 b_x31 p_x31 => ?_)
          subst p_x31
          intro _ _
          have bb_x31 : x31 = 0 ∨ x31 = 1 := b_x31
          refine ⟨fun c35 => ?_, fun c35 => ?_⟩
          · refine m_X4_is hI o_v0 (by decide) hT (fun x36 S37 hI2 g38 b_x36 p_x36 => ?_)
            subst p_x36
            intro _ _
            have bb_x36 : x36 = 0 ∨ x36 = 1 := b_x36
            refine ⟨fun c40 => ?_, fun c40 => ?_⟩
            · refine m_X4_is hI o_v0 (by decide) hT (fun x41 S42 hI2 g43 b_x41 p_x41 => ?_)
              subst p_x41
              intro _ _
              have bb_x41 : x41 = 0 ∨ x41 = 1 := b_x41
              refine ⟨fun c45 => ?_, fun c45 => ?_⟩
              · refine u_X4_fail ?_
                refine u_X4_fail_0 ?_
                refine ⟨o_v0, ?_⟩
                have hI := iv_sI (j := 0) (v := (1 : Int32)) hI o_v0 (by decide) (nu_free (by decide))
                have f0 : FRI _ _ _ (sI S5 v0 0 (1 : Int32)) := fri_sI g0 f0 o_v0 (by decide)
                have fL7 : FRI _ _ _ (sI S5 v0 0 (1 : Int32)) := fri_sI gL6 fL7 o_v0 (by decide)
                obtain ⟨y46, hy46⟩ : ∃ z : Int32, z = (1 : Int32) := ⟨_, rfl⟩
                have d_y46 : y46 = fI (sI S5 v0 0 (1 : Int32)) v0 0 := hy46.trans (u2_self _ _ _ _).symm
                intro x47 ex47
                have d_x47 := ex47
                have hI := iv_sI (j := 1) (v := x47) hI o_v0 (by decide) (nu_free (by decide))
                have f0 : FRI _ _ _ (sI (sI S5 v0 0 (1 : Int32)) v0 1 x47) := fri_sI g0 f0 o_v0 (by decide)
                have fL7 : FRI _ _ _ (sI (sI S5 v0 0 (1 : Int32)) v0 1 x47) := fri_sI gL6 fL7 o_v0 (by decide)
                have d_y46 : y46 = fI (sI (sI S5 v0 0 (1 : Int32)) v0 1 x47) v0 0 := d_y46.trans (rd_j (by decide)).symm
                have d_x47 : x47 = fI (sI (sI S5 v0 0 (1 : Int32)) v0 1 x47) v0 7 := d_x47.trans (rd_j (by decide)).symm
                have d_x47 : x47 = fI (sI (sI S5 v0 0 (1 : Int32)) v0 1 x47) v0 1 := (u2_self _ _ _ _).symm
                intro _ _
                refine u_X4_read_248 ?_
                refine ⟨fun c48 => ?_, fun c48 => ?_⟩
                · refine u_X4_read_295 ?_
                  refine ⟨fun c49 => ?_, fun c49 => ?_⟩
                  · exact hq _ _ hI g0 f0 (Or.inl rfl)
                  · refine ⟨o_v0, ?_⟩
                    refine m_X4_sign hI o_v0 hT (fun x50 S51 hI g52 fc53 b_x50 p_x50 => ?_)
                    obtain hT := p_x50
                    have l_v1 := (gr_len g52 o_v1).trans l_v1
                    have f0 := fri_tr g0 f0 fc53 (by decide) (by decide)
                    have fL7 := fri_tr gL6 fL7 fc53 (by decide) (by decide)
                    have o_v0 := gr_ob g52 o_v0
                    have o_v1 := gr_ob g52 o_v1
                    have g0 := gr_tr g0 g52
                    have gL6 := gr_tr gL6 g52
                    intro _ _
                    have bb_x50 : x50 = 0 ∨ x50 = 1 := b_x50
                    refine ⟨fun c54 => ?_, fun c54 => ?_⟩
                    · intro x55 ex55
                      exact ih12 _ _ _ ⟨hI, gL6, fL7, rfl, hT, (q83 i1 c13 bb_x16 c20 bb_x21 c25 bb_x26 c30 bb_x31 c35 bb_x36 c40 bb_x41 c45 c49 bb_x50 c54 ex55)⟩ (mu_up (q84 i1 c13 bb_x16 c20 bb_x21 c25 bb_x26 c30 bb_x31 c35 bb_x36 c40 bb_x41 c45 c49 bb_x50 c54 ex55) (q85 i1 c13 bb_x16 c20 bb_x21 c25 bb_x26 c30 bb_x31 c35 bb_x36 c40 bb_x41 c45 c49 bb_x50 c54 ex55))
                    · exact hq _ _ hI g0 f0 (Or.inl rfl)
                · refine ⟨o_v0, ?_⟩
                  intro x56 ex56
                  have d_x56 := ex56
                  refine ⟨fun c57 => ?_, fun c57 => ?_⟩
                  · refine u_X4_read_295 ?_
                    refine ⟨fun c58 => ?_, fun c58 => ?_⟩
                    · exact hq _ _ hI g0 f0 (Or.inl rfl)
                    · refine ⟨o_v0, ?_⟩
                      refine m_X4_sign hI o_v0 hT (fun x59 S60 hI g61 fc62 b_x59 p_x59 => ?_)
                      obtain hT := p_x59
                      have l_v1 := (gr_len g61 o_v1).trans l_v1
                      have f0 := fri_tr g0 f0 fc62 (by decide) (by decide)
                      have fL7 := fri_tr gL6 fL7 fc62 (by decide) (by decide)
                      have o_v0 := gr_ob g61 o_v0
                      have o_v1 := gr_ob g61 o_v1
                      have g0 := gr_tr g0 g61
                      have gL6 := gr_tr gL6 g61
                      intro _ _
                      have bb_x59 : x59 = 0 ∨ x59 = 1 := b_x59
                      refine ⟨fun c63 => ?_, fun c63 => ?_⟩
                      · intro x64 ex64
                        exact ih12 _ _ _ ⟨hI, gL6, fL7, rfl, hT, (q86 i1 c13 bb_x16 c20 bb_x21 c25 bb_x26 c30 bb_x31 c35 bb_x36 c40 bb_x41 c45 c48 c57 c58 bb_x59 c63 ex64)⟩ (mu_up (q87 i1 c13 bb_x16 c20 bb_x21 c25 bb_x26 c30 bb_x31 c35 bb_x36 c40 bb_x41 c45 c48 c57 c58 bb_x59 c63 ex64) (q88 i1 c13 bb_x16 c20 bb_x21 c25 bb_x26 c30 bb_x31 c35 bb_x36 c40 bb_x41 c45 c48 c57 c58 bb_x59 c63 ex64))
                      · exact hq _ _ hI g0 f0 (Or.inl rfl)
                  · obtain ⟨a65, ea65, o_a65, -⟩ := sh 12 rfl hI o_v0
                    refine ⟨a65, ea65, ?_⟩
                    refine ⟨o_a65, ?_⟩
                    intro x66 ex66
                    have r_x66 : (0 : Int32) ≤ x66 ∧ x66 ≤ (8 : Int32) := by rw [ex66]; exact nu 12 rfl hI o_a65
                    have d_x66 := ex66
                    refine ⟨fun c67 => ?_, fun c67 => ?_⟩
                    · refine u_X4_read_280 ?_
                      refine ⟨o_v0, ?_⟩
                      refine u_X4_fail ?_
                      refine u_X4_fail_0 ?_
                      refine ⟨o_v0, ?_⟩
                      have hI := iv_sI (j := 0) (v := (6 : Int32)) hI o_v0 (by decide) (nu_free (by decide))
                      have f0 : FRI _ _ _ (sI (sI (sI S5 v0 0 (1 : Int32)) v0 1 x47) v0 0 (6 : Int32)) := fri_sI g0 f0 o_v0 (by decide)
                      have fL7 : FRI _ _ _ (sI (sI (sI S5 v0 0 (1 : Int32)) v0 1 x47) v0 0 (6 : Int32)) := fri_sI gL6 fL7 o_v0 (by decide)
                      have d_x47 : x47 = fI (sI (sI (sI S5 v0 0 (1 : Int32)) v0 1 x47) v0 0 (6 : Int32)) v0 7 := d_x47.trans (rd_j (by decide)).symm
                      have d_x47 : x47 = fI (sI (sI (sI S5 v0 0 (1 : Int32)) v0 1 x47) v0 0 (6 : Int32)) v0 1 := d_x47.trans (rd_j (by decide)).symm
                      have d_x56 : x56 = fI (sI (sI (sI S5 v0 0 (1 : Int32)) v0 1 x47) v0 0 (6 : Int32)) v0 6 := d_x56.trans (rd_j (by decide)).symm
                      have d_x66 : x66 = fI (sI (sI (sI S5 v0 0 (1 : Int32)) v0 1 x47) v0 0 (6 : Int32)) a65 2 := d_x66.trans (sI_ne o_v0 o_a65 (by decide) 2).symm
                      obtain ⟨y68, hy68⟩ : ∃ z : Int32, z = (6 : Int32) := ⟨_, rfl⟩
                      have d_y68 : y68 = fI (sI (sI (sI S5 v0 0 (1 : Int32)) v0 1 x47) v0 0 (6 : Int32)) v0 0 := hy68.trans (u2_self _ _ _ _).symm
                      intro x69 ex69
                      have q_x69 : x69 = x47 := ex69.trans d_x47.symm
                      have d_x69 := ex69
                      have hI := iv_sI (j := 1) (v := x69) hI o_v0 (by decide) (nu_free (by decide))
                      have f0 : FRI _ _ _ (sI (sI (sI (sI S5 v0 0 (1 : Int32)) v0 1 x47) v0 0 (6 : Int32)) v0 1 x69) := fri_sI g0 f0 o_v0 (by decide)
                      have fL7 : FRI _ _ _ (sI (sI (sI (sI S5 v0 0 (1 : Int32)) v0 1 x47) v0 0 (6 : Int32)) v0 1 x69) := fri_sI gL6 fL7 o_v0 (by decide)
                      have d_x69 : x69 = fI (sI (sI (sI (sI S5 v0 0 (1 : Int32)) v0 1 x47) v0 0 (6 : Int32)) v0 1 x69) v0 7 := d_x69.trans (rd_j (by decide)).symm
                      have d_x56 : x56 = fI (sI (sI (sI (sI S5 v0 0 (1 : Int32)) v0 1 x47) v0 0 (6 : Int32)) v0 1 x69) v0 6 := d_x56.trans (rd_j (by decide)).symm
                      have d_x66 : x66 = fI (sI (sI (sI (sI S5 v0 0 (1 : Int32)) v0 1 x47) v0 0 (6 : Int32)) v0 1 x69) a65 2 := d_x66.trans (sI_ne o_v0 o_a65 (by decide) 2).symm
                      have d_y68 : y68 = fI (sI (sI (sI (sI S5 v0 0 (1 : Int32)) v0 1 x47) v0 0 (6 : Int32)) v0 1 x69) v0 0 := d_y68.trans (rd_j (by decide)).symm
                      have d_x69 : x69 = fI (sI (sI (sI (sI S5 v0 0 (1 : Int32)) v0 1 x47) v0 0 (6 : Int32)) v0 1 x69) v0 1 := (u2_self _ _ _ _).symm
                      intro _ _
                      refine ⟨fun c70 => ?_, fun c70 => ?_⟩
                      · exact hq _ _ hI g0 f0 (Or.inl rfl)
                      · exact hq _ _ hI g0 f0 (Or.inr rfl)
                    · refine ⟨a65, ea65, ?_⟩
                      refine ⟨o_a65, ?_⟩
                      intro x72 ex72
                      have r_x72 : (0 : Int32) ≤ x72 ∧ x72 ≤ (4 : Int32) := by rw [ex72]; exact nu 14 rfl hI o_a65
                      have d_x72 := ex72
                      refine ⟨fun c73 => ?_, fun c73 => ?_⟩
                      · exact hq _ _ hI g0 f0 (Or.inr rfl)
                      · refine u_X4_read_280 ?_
                        refine ⟨o_v0, ?_⟩
                        refine u_X4_fail ?_
                        refine u_X4_fail_0 ?_
                        refine ⟨o_v0, ?_⟩
                        have hI := iv_sI (j := 0) (v := (6 : Int32)) hI o_v0 (by decide) (nu_free (by decide))
                        have f0 : FRI _ _ _ (sI (sI (sI S5 v0 0 (1 : Int32)) v0 1 x47) v0 0 (6 : Int32)) := fri_sI g0 f0 o_v0 (by decide)
                        have fL7 : FRI _ _ _ (sI (sI (sI S5 v0 0 (1 : Int32)) v0 1 x47) v0 0 (6 : Int32)) := fri_sI gL6 fL7 o_v0 (by decide)
                        have d_x47 : x47 = fI (sI (sI (sI S5 v0 0 (1 : Int32)) v0 1 x47) v0 0 (6 : Int32)) v0 7 := d_x47.trans (rd_j (by decide)).symm
                        have d_x47 : x47 = fI (sI (sI (sI S5 v0 0 (1 : Int32)) v0 1 x47) v0 0 (6 : Int32)) v0 1 := d_x47.trans (rd_j (by decide)).symm
                        have d_x56 : x56 = fI (sI (sI (sI S5 v0 0 (1 : Int32)) v0 1 x47) v0 0 (6 : Int32)) v0 6 := d_x56.trans (rd_j (by decide)).symm
                        have d_x66 : x66 = fI (sI (sI (sI S5 v0 0 (1 : Int32)) v0 1 x47) v0 0 (6 : Int32)) a65 2 := d_x66.trans (sI_ne o_v0 o_a65 (by decide) 2).symm
                        have d_x72 : x72 = fI (sI (sI (sI S5 v0 0 (1 : Int32)) v0 1 x47) v0 0 (6 : Int32)) a65 4 := d_x72.trans (sI_ne o_v0 o_a65 (by decide) 4).symm
                        obtain ⟨y74, hy74⟩ : ∃ z : Int32, z = (6 : Int32) := ⟨_, rfl⟩
                        have d_y74 : y74 = fI (sI (sI (sI S5 v0 0 (1 : Int32)) v0 1 x47) v0 0 (6 : Int32)) v0 0 := hy74.trans (u2_self _ _ _ _).symm
                        intro x75 ex75
                        have q_x75 : x75 = x47 := ex75.trans d_x47.symm
                        have d_x75 := ex75
                        have hI := iv_sI (j := 1) (v := x75) hI o_v0 (by decide) (nu_free (by decide))
                        have f0 : FRI _ _ _ (sI (sI (sI (sI S5 v0 0 (1 : Int32)) v0 1 x47) v0 0 (6 : Int32)) v0 1 x75) := fri_sI g0 f0 o_v0 (by decide)
                        have fL7 : FRI _ _ _ (sI (sI (sI (sI S5 v0 0 (1 : Int32)) v0 1 x47) v0 0 (6 : Int32)) v0 1 x75) := fri_sI gL6 fL7 o_v0 (by decide)
                        have d_x75 : x75 = fI (sI (sI (sI (sI S5 v0 0 (1 : Int32)) v0 1 x47) v0 0 (6 : Int32)) v0 1 x75) v0 7 := d_x75.trans (rd_j (by decide)).symm
                        have d_x56 : x56 = fI (sI (sI (sI (sI S5 v0 0 (1 : Int32)) v0 1 x47) v0 0 (6 : Int32)) v0 1 x75) v0 6 := d_x56.trans (rd_j (by decide)).symm
                        have d_x66 : x66 = fI (sI (sI (sI (sI S5 v0 0 (1 : Int32)) v0 1 x47) v0 0 (6 : Int32)) v0 1 x75) a65 2 := d_x66.trans (sI_ne o_v0 o_a65 (by decide) 2).symm
                        have d_x72 : x72 = fI (sI (sI (sI (sI S5 v0 0 (1 : Int32)) v0 1 x47) v0 0 (6 : Int32)) v0 1 x75) a65 4 := d_x72.trans (sI_ne o_v0 o_a65 (by decide) 4).symm
                        have d_y74 : y74 = fI (sI (sI (sI (sI S5 v0 0 (1 : Int32)) v0 1 x47) v0 0 (6 : Int32)) v0 1 x75) v0 0 := d_y74.trans (rd_j (by decide)).symm
                        have d_x75 : x75 = fI (sI (sI (sI (sI S5 v0 0 (1 : Int32)) v0 1 x47) v0 0 (6 : Int32)) v0 1 x75) v0 1 := (u2_self _ _ _ _).symm
                        intro _ _
                        refine ⟨fun c76 => ?_, fun c76 => ?_⟩
                        · exact hq _ _ hI g0 f0 (Or.inl rfl)
                        · exact hq _ _ hI g0 f0 (Or.inr rfl)
              · obtain ⟨a77, ea77, o_a77, -⟩ := sh 12 rfl hI o_v0
                refine ⟨a77, ea77, ?_⟩
                refine ⟨o_a77, ?_⟩
                intro x78 ex78
                have r_x78 : (0 : Int32) ≤ x78 ∧ x78 ≤ (4 : Int32) := by rw [ex78]; exact nu 15 rfl hI o_a77
                have d_x78 := ex78
                refine m_X4_hasRoom hI o_v0 hT (fun x79 S80 hI g81 fc82 b_x79 p_x79 => ?_)
                obtain ⟨hT, p_x79⟩ := p_x79
                have l_v1 := (gr_len g81 o_v1).trans l_v1
                have d_x78 := d_x78.trans (fri_at fc82 (by decide) (by decide) o_a77).symm
                have ea77 := (frr_at fc82 (by decide) (by decide) o_v0).trans ea77
                have f0 := fri_tr g0 f0 fc82 (by decide) (by decide)
                have fL7 := fri_tr gL6 fL7 fc82 (by decide) (by decide)
                have o_a77 := gr_ob g81 o_a77
                have o_v0 := gr_ob g81 o_v0
                have o_v1 := gr_ob g81 o_v1
                have g0 := gr_tr g0 g81
                have gL6 := gr_tr gL6 g81
                intro _ _
                have bb_x79 : x79 = 0 ∨ x79 = 1 := b_x79
                refine ⟨fun c83 => ?_, fun c83 => ?_⟩
                · refine u_X4_read_235 ?_
                  refine u_X4_read_236 ?_
                  refine u_X4_read_248 ?_
                  refine ⟨fun c84 => ?_, fun c84 => ?_⟩
                  · refine u_X4_read_295 ?_
                    refine ⟨fun c85 => ?_, fun c85 => ?_⟩
                    · exact hq _ _ hI g0 f0 (Or.inl rfl)
                    · refine ⟨o_v0, ?_⟩
                      refine m_X4_sign hI o_v0 hT (fun x86 S87 hI g88 fc89 b_x86 p_x86 => ?_)
                      obtain hT := p_x86
                      have l_v1 := (gr_len g88 o_v1).trans l_v1
                      have d_x78 := d_x78.trans (fri_at fc89 (by decide) (by decide) o_a77).symm
                      have ea77 := (frr_at fc89 (by decide) (by decide) o_v0).trans ea77
                      have f0 := fri_tr g0 f0 fc89 (by decide) (by decide)
                      have fL7 := fri_tr gL6 fL7 fc89 (by decide) (by decide)
                      have o_a77 := gr_ob g88 o_a77
                      have o_v0 := gr_ob g88 o_v0
                      have o_v1 := gr_ob g88 o_v1
                      have g0 := gr_tr g0 g88
                      have gL6 := gr_tr gL6 g88
                      intro _ _
                      have bb_x86 : x86 = 0 ∨ x86 = 1 := b_x86
                      refine ⟨fun c90 => ?_, fun c90 => ?_⟩
                      · intro x91 ex91
                        exact ih12 _ _ _ ⟨hI, gL6, fL7, rfl, hT, (q89 i1 c13 bb_x16 c20 bb_x21 c25 bb_x26 c30 bb_x31 c35 bb_x36 c40 bb_x41 c45 r_x78 p_x79 bb_x79 c83 c85 bb_x86 c90 ex91)⟩ (mu_up (q90 i1 c13 bb_x16 c20 bb_x21 c25 bb_x26 c30 bb_x31 c35 bb_x36 c40 bb_x41 c45 r_x78 p_x79 bb_x79 c83 c85 bb_x86 c90 ex91) (q91 i1 c13 bb_x16 c20 bb_x21 c25 bb_x26 c30 bb_x31 c35 bb_x36 c40 bb_x41 c45 r_x78 p_x79 bb_x79 c83 c85 bb_x86 c90 ex91))
                      · exact hq _ _ hI g0 f0 (Or.inl rfl)
                  · refine ⟨o_v0, ?_⟩
                    intro x92 ex92
                    have d_x92 := ex92
                    refine ⟨fun c93 => ?_, fun c93 => ?_⟩
                    · refine u_X4_read_295 ?_
                      refine ⟨fun c94 => ?_, fun c94 => ?_⟩
                      · exact hq _ _ hI g0 f0 (Or.inl rfl)
                      · refine ⟨o_v0, ?_⟩
                        refine m_X4_sign hI o_v0 hT (fun x95 S96 hI g97 fc98 b_x95 p_x95 => ?_)
                        obtain hT := p_x95
                        have l_v1 := (gr_len g97 o_v1).trans l_v1
                        have d_x78 := d_x78.trans (fri_at fc98 (by decide) (by decide) o_a77).symm
                        have ea77 := (frr_at fc98 (by decide) (by decide) o_v0).trans ea77
                        have f0 := fri_tr g0 f0 fc98 (by decide) (by decide)
                        have fL7 := fri_tr gL6 fL7 fc98 (by decide) (by decide)
                        have o_a77 := gr_ob g97 o_a77
                        have o_v0 := gr_ob g97 o_v0
                        have o_v1 := gr_ob g97 o_v1
                        have g0 := gr_tr g0 g97
                        have gL6 := gr_tr gL6 g97
                        intro _ _
                        have bb_x95 : x95 = 0 ∨ x95 = 1 := b_x95
                        refine ⟨fun c99 => ?_, fun c99 => ?_⟩
                        · intro x100 ex100
                          exact ih12 _ _ _ ⟨hI, gL6, fL7, rfl, hT, (q92 i1 c13 bb_x16 c20 bb_x21 c25 bb_x26 c30 bb_x31 c35 bb_x36 c40 bb_x41 c45 r_x78 p_x79 bb_x79 c83 c84 c93 c94 bb_x95 c99 ex100)⟩ (mu_up (q93 i1 c13 bb_x16 c20 bb_x21 c25 bb_x26 c30 bb_x31 c35 bb_x36 c40 bb_x41 c45 r_x78 p_x79 bb_x79 c83 c84 c93 c94 bb_x95 c99 ex100) (q94 i1 c13 bb_x16 c20 bb_x21 c25 bb_x26 c30 bb_x31 c35 bb_x36 c40 bb_x41 c45 r_x78 p_x79 bb_x79 c83 c84 c93 c94 bb_x95 c99 ex100))
                        · exact hq _ _ hI g0 f0 (Or.inl rfl)
                    · refine ⟨a77, ea77, ?_⟩
                      refine ⟨o_a77, ?_⟩
                      intro x102 ex102
                      have r_x102 : (0 : Int32) ≤ x102 ∧ x102 ≤ (8 : Int32) := by rw [ex102]; exact nu 12 rfl hI o_a77
                      have d_x102 := ex102
                      refine ⟨fun c103 => ?_, fun c103 => ?_⟩
                      · refine u_X4_read_280 ?_
                        refine ⟨o_v0, ?_⟩
                        refine u_X4_fail ?_
                        refine u_X4_fail_0 ?_
                        refine ⟨o_v0, ?_⟩
                        have hI := iv_sI (j := 0) (v := (6 : Int32)) hI o_v0 (by decide) (nu_free (by decide))
                        have f0 : FRI _ _ _ (sI S80 v0 0 (6 : Int32)) := fri_sI g0 f0 o_v0 (by decide)
                        have fL7 : FRI _ _ _ (sI S80 v0 0 (6 : Int32)) := fri_sI gL6 fL7 o_v0 (by decide)
                        have d_x78 : x78 = fI (sI S80 v0 0 (6 : Int32)) a77 5 := d_x78.trans (sI_ne o_v0 o_a77 (by decide) 5).symm
                        have d_x92 : x92 = fI (sI S80 v0 0 (6 : Int32)) v0 6 := d_x92.trans (rd_j (by decide)).symm
                        have d_x102 : x102 = fI (sI S80 v0 0 (6 : Int32)) a77 2 := d_x102.trans (sI_ne o_v0 o_a77 (by decide) 2).symm
                        obtain ⟨y104, hy104⟩ : ∃ z : Int32, z = (6 : Int32) := ⟨_, rfl⟩
                        have d_y104 : y104 = fI (sI S80 v0 0 (6 : Int32)) v0 0 := hy104.trans (u2_self _ _ _ _).symm
                        intro x105 ex105
                        have d_x105 := ex105
                        have hI := iv_sI (j := 1) (v := x105) hI o_v0 (by decide) (nu_free (by decide))
                        have f0 : FRI _ _ _ (sI (sI S80 v0 0 (6 : Int32)) v0 1 x105) := fri_sI g0 f0 o_v0 (by decide)
                        have fL7 : FRI _ _ _ (sI (sI S80 v0 0 (6 : Int32)) v0 1 x105) := fri_sI gL6 fL7 o_v0 (by decide)
                        have d_x78 : x78 = fI (sI (sI S80 v0 0 (6 : Int32)) v0 1 x105) a77 5 := d_x78.trans (sI_ne o_v0 o_a77 (by decide) 5).symm
                        have d_x92 : x92 = fI (sI (sI S80 v0 0 (6 : Int32)) v0 1 x105) v0 6 := d_x92.trans (rd_j (by decide)).symm
                        have d_x102 : x102 = fI (sI (sI S80 v0 0 (6 : Int32)) v0 1 x105) a77 2 := d_x102.trans (sI_ne o_v0 o_a77 (by decide) 2).symm
                        have d_y104 : y104 = fI (sI (sI S80 v0 0 (6 : Int32)) v0 1 x105) v0 0 := d_y104.trans (rd_j (by decide)).symm
                        have d_x105 : x105 = fI (sI (sI S80 v0 0 (6 : Int32)) v0 1 x105) v0 7 := d_x105.trans (rd_j (by decide)).symm
                        have d_x105 : x105 = fI (sI (sI S80 v0 0 (6 : Int32)) v0 1 x105) v0 1 := (u2_self _ _ _ _).symm
                        intro _ _
                        refine ⟨fun c106 => ?_, fun c106 => ?_⟩
                        · exact hq _ _ hI g0 f0 (Or.inl rfl)
                        · exact hq _ _ hI g0 f0 (Or.inr rfl)
                      · refine ⟨a77, ea77, ?_⟩
                        refine ⟨o_a77, ?_⟩
                        intro x108 ex108
                        have r_x108 : (0 : Int32) ≤ x108 ∧ x108 ≤ (4 : Int32) := by rw [ex108]; exact nu 14 rfl hI o_a77
                        have d_x108 := ex108
                        refine ⟨fun c109 => ?_, fun c109 => ?_⟩
                        · exact hq _ _ hI g0 f0 (Or.inr rfl)
                        · refine u_X4_read_280 ?_
                          refine ⟨o_v0, ?_⟩
                          refine u_X4_fail ?_
                          refine u_X4_fail_0 ?_
                          refine ⟨o_v0, ?_⟩
                          have hI := iv_sI (j := 0) (v := (6 : Int32)) hI o_v0 (by decide) (nu_free (by decide))
                          have f0 : FRI _ _ _ (sI S80 v0 0 (6 : Int32)) := fri_sI g0 f0 o_v0 (by decide)
                          have fL7 : FRI _ _ _ (sI S80 v0 0 (6 : Int32)) := fri_sI gL6 fL7 o_v0 (by decide)
                          have d_x78 : x78 = fI (sI S80 v0 0 (6 : Int32)) a77 5 := d_x78.trans (sI_ne o_v0 o_a77 (by decide) 5).symm
                          have d_x92 : x92 = fI (sI S80 v0 0 (6 : Int32)) v0 6 := d_x92.trans (rd_j (by decide)).symm
                          have d_x102 : x102 = fI (sI S80 v0 0 (6 : Int32)) a77 2 := d_x102.trans (sI_ne o_v0 o_a77 (by decide) 2).symm
                          have d_x108 : x108 = fI (sI S80 v0 0 (6 : Int32)) a77 4 := d_x108.trans (sI_ne o_v0 o_a77 (by decide) 4).symm
                          obtain ⟨y110, hy110⟩ : ∃ z : Int32, z = (6 : Int32) := ⟨_, rfl⟩
                          have d_y110 : y110 = fI (sI S80 v0 0 (6 : Int32)) v0 0 := hy110.trans (u2_self _ _ _ _).symm
                          intro x111 ex111
                          have d_x111 := ex111
                          have hI := iv_sI (j := 1) (v := x111) hI o_v0 (by decide) (nu_free (by decide))
                          have f0 : FRI _ _ _ (sI (sI S80 v0 0 (6 : Int32)) v0 1 x111) := fri_sI g0 f0 o_v0 (by decide)
                          have fL7 : FRI _ _ _ (sI (sI S80 v0 0 (6 : Int32)) v0 1 x111) := fri_sI gL6 fL7 o_v0 (by decide)
                          have d_x78 : x78 = fI (sI (sI S80 v0 0 (6 : Int32)) v0 1 x111) a77 5 := d_x78.trans (sI_ne o_v0 o_a77 (by decide) 5).symm
                          have d_x92 : x92 = fI (sI (sI S80 v0 0 (6 : Int32)) v0 1 x111) v0 6 := d_x92.trans (rd_j (by decide)).symm
                          have d_x102 : x102 = fI (sI (sI S80 v0 0 (6 : Int32)) v0 1 x111) a77 2 := d_x102.trans (sI_ne o_v0 o_a77 (by decide) 2).symm
                          have d_x108 : x108 = fI (sI (sI S80 v0 0 (6 : Int32)) v0 1 x111) a77 4 := d_x108.trans (sI_ne o_v0 o_a77 (by decide) 4).symm
                          have d_y110 : y110 = fI (sI (sI S80 v0 0 (6 : Int32)) v0 1 x111) v0 0 := d_y110.trans (rd_j (by decide)).symm
                          have d_x111 : x111 = fI (sI (sI S80 v0 0 (6 : Int32)) v0 1 x111) v0 7 := d_x111.trans (rd_j (by decide)).symm
                          have d_x111 : x111 = fI (sI (sI S80 v0 0 (6 : Int32)) v0 1 x111) v0 1 := (u2_self _ _ _ _).symm
                          intro _ _
                          refine ⟨fun c112 => ?_, fun c112 => ?_⟩
                          · exact hq _ _ hI g0 f0 (Or.inl rfl)
                          · exact hq _ _ hI g0 f0 (Or.inr rfl)
                · refine m_X4_seenLine hI o_v0 (fun z hz => by cases ea77.symm.trans hz; rw [← d_x78]; exact (q95 i1 c13 bb_x16 c20 bb_x21 c25 bb_x26 c30 bb_x31 c35 bb_x36 c40 bb_x41 c45 r_x78 p_x79 bb_x79 c83)) hT (fun x113 S114 hI g115 fc116 b_x113 p_x113 => ?_)
                  obtain hT := p_x113
                  have l_v1 := (gr_len g115 o_v1).trans l_v1
                  have ea77 := (frr_at fc116 (by decide) (by decide) o_v0).trans ea77
                  have f0 := fri_tr g0 f0 fc116 (by decide) (by decide)
                  have fL7 := fri_tr gL6 fL7 fc116 (by decide) (by decide)
                  have o_a77 := gr_ob g115 o_a77
                  have o_v0 := gr_ob g115 o_v0
                  have o_v1 := gr_ob g115 o_v1
                  have g0 := gr_tr g0 g115
                  have gL6 := gr_tr gL6 g115
                  intro _ _
                  have bb_x113 : x113 = 0 ∨ x113 = 1 := b_x113
                  refine ⟨fun c117 => ?_, fun c117 => ?_⟩
                  · refine u_X4_read_235 ?_
                    refine u_X4_read_236 ?_
                    refine u_X4_read_248 ?_
                    refine ⟨fun c118 => ?_, fun c118 => ?_⟩
                    · refine u_X4_read_295 ?_
                      refine ⟨fun c119 => ?_, fun c119 => ?_⟩
                      · exact hq _ _ hI g0 f0 (Or.inl rfl)
                      · refine ⟨o_v0, ?_⟩
                        refine m_X4_sign hI o_v0 hT (fun x120 S121 hI g122 fc123 b_x120 p_x120 => ?_)
                        obtain hT := p_x120
                        have l_v1 := (gr_len g122 o_v1).trans l_v1
                        have ea77 := (frr_at fc123 (by decide) (by decide) o_v0).trans ea77
                        have f0 := fri_tr g0 f0 fc123 (by decide) (by decide)
                        have fL7 := fri_tr gL6 fL7 fc123 (by decide) (by decide)
                        have o_a77 := gr_ob g122 o_a77
                        have o_v0 := gr_ob g122 o_v0
                        have o_v1 := gr_ob g122 o_v1
                        have g0 := gr_tr g0 g122
                        have gL6 := gr_tr gL6 g122
                        intro _ _
                        have bb_x120 : x120 = 0 ∨ x120 = 1 := b_x120
                        refine ⟨fun c124 => ?_, fun c124 => ?_⟩
                        · intro x125 ex125
                          exact ih12 _ _ _ ⟨hI, gL6, fL7, rfl, hT, (q96 i1 c13 bb_x16 c20 bb_x21 c25 bb_x26 c30 bb_x31 c35 bb_x36 c40 bb_x41 c45 r_x78 p_x79 bb_x79 c83 bb_x113 c117 c119 bb_x120 c124 ex125)⟩ (mu_up (q97 i1 c13 bb_x16 c20 bb_x21 c25 bb_x26 c30 bb_x31 c35 bb_x36 c40 bb_x41 c45 r_x78 p_x79 bb_x79 c83 bb_x113 c117 c119 bb_x120 c124 ex125) (q98 i1 c13 bb_x16 c20 bb_x21 c25 bb_x26 c30 bb_x31 c35 bb_x36 c40 bb_x41 c45 r_x78 p_x79 bb_x79 c83 bb_x113 c117 c119 bb_x120 c124 ex125))
                        · exact hq _ _ hI g0 f0 (Or.inl rfl)
                    · refine ⟨o_v0, ?_⟩
                      intro x126 ex126
                      have d_x126 := ex126
                      refine ⟨fun c127 => ?_, fun c127 => ?_⟩
                      · refine u_X4_read_295 ?_
                        refine ⟨fun c128 => ?_, fun c128 => ?_⟩
                        · exact hq _ _ hI g0 f0 (Or.inl rfl)
                        · refine ⟨o_v0, ?_⟩
                          refine m_X4_sign hI o_v0 hT (fun x129 S130 hI g131 fc132 b_x129 p_x129 => ?_)
                          obtain hT := p_x129
                          have l_v1 := (gr_len g131 o_v1).trans l_v1
                          have ea77 := (frr_at fc132 (by decide) (by decide) o_v0).trans ea77
                          have f0 := fri_tr g0 f0 fc132 (by decide) (by decide)
                          have fL7 := fri_tr gL6 fL7 fc132 (by decide) (by decide)
                          have o_a77 := gr_ob g131 o_a77
                          have o_v0 := gr_ob g131 o_v0
                          have o_v1 := gr_ob g131 o_v1
                          have g0 := gr_tr g0 g131
                          have gL6 := gr_tr gL6 g131
                          intro _ _
                          have bb_x129 : x129 = 0 ∨ x129 = 1 := b_x129
                          refine ⟨fun c133 => ?_, fun c133 => ?_⟩
                          · intro x134 ex134
                            exact ih12 _ _ _ ⟨hI, gL6, fL7, rfl, hT, (q99 i1 c13 bb_x16 c20 bb_x21 c25 bb_x26 c30 bb_x31 c35 bb_x36 c40 bb_x41 c45 r_x78 p_x79 bb_x79 c83 bb_x113 c117 c118 c127 c128 bb_x129 c133 ex134)⟩ (mu_up (q100 i1 c13 bb_x16 c20 bb_x21 c25 bb_x26 c30 bb_x31 c35 bb_x36 c40 bb_x41 c45 r_x78 p_x79 bb_x79 c83 bb_x113 c117 c118 c127 c128 bb_x129 c133 ex134) (q101 i1 c13 bb_x16 c20 bb_x21 c25 bb_x26 c30 bb_x31 c35 bb_x36 c40 bb_x41 c45 r_x78 p_x79 bb_x79 c83 bb_x113 c117 c118 c127 c128 bb_x129 c133 ex134))
                          · exact hq _ _ hI g0 f0 (Or.inl rfl)
                      · refine ⟨a77, ea77, ?_⟩
                        refine ⟨o_a77, ?_⟩
                        intro x136 ex136
                        have r_x136 : (0 : Int32) ≤ x136 ∧ x136 ≤ (8 : Int32) := by rw [ex136]; exact nu 12 rfl hI o_a77
                        have d_x136 := ex136
                        refine ⟨fun c137 => ?_, fun c137 => ?_⟩
                        · refine u_X4_read_280 ?_
                          refine ⟨o_v0, ?_⟩
                          refine u_X4_fail ?_
                          refine u_X4_fail_0 ?_
                          refine ⟨o_v0, ?_⟩
                          have hI := iv_sI (j := 0) (v := (6 : Int32)) hI o_v0 (by decide) (nu_free (by decide))
                          have f0 : FRI _ _ _ (sI S114 v0 0 (6 : Int32)) := fri_sI g0 f0 o_v0 (by decide)
                          have fL7 : FRI _ _ _ (sI S114 v0 0 (6 : Int32)) := fri_sI gL6 fL7 o_v0 (by decide)
                          have d_x126 : x126 = fI (sI S114 v0 0 (6 : Int32)) v0 6 := d_x126.trans (rd_j (by decide)).symm
                          have d_x136 : x136 = fI (sI S114 v0 0 (6 : Int32)) a77 2 := d_x136.trans (sI_ne o_v0 o_a77 (by decide) 2).symm
                          obtain ⟨y138, hy138⟩ : ∃ z : Int32, z = (6 : Int32) := ⟨_, rfl⟩
                          have d_y138 : y138 = fI (sI S114 v0 0 (6 : Int32)) v0 0 := hy138.trans (u2_self _ _ _ _).symm
                          intro x139 ex139
                          have d_x139 := ex139
                          have hI := iv_sI (j := 1) (v := x139) hI o_v0 (by decide) (nu_free (by decide))
                          have f0 : FRI _ _ _ (sI (sI S114 v0 0 (6 : Int32)) v0 1 x139) := fri_sI g0 f0 o_v0 (by decide)
                          have fL7 : FRI _ _ _ (sI (sI S114 v0 0 (6 : Int32)) v0 1 x139) := fri_sI gL6 fL7 o_v0 (by decide)
                          have d_x126 : x126 = fI (sI (sI S114 v0 0 (6 : Int32)) v0 1 x139) v0 6 := d_x126.trans (rd_j (by decide)).symm
                          have d_x136 : x136 = fI (sI (sI S114 v0 0 (6 : Int32)) v0 1 x139) a77 2 := d_x136.trans (sI_ne o_v0 o_a77 (by decide) 2).symm
                          have d_y138 : y138 = fI (sI (sI S114 v0 0 (6 : Int32)) v0 1 x139) v0 0 := d_y138.trans (rd_j (by decide)).symm
                          have d_x139 : x139 = fI (sI (sI S114 v0 0 (6 : Int32)) v0 1 x139) v0 7 := d_x139.trans (rd_j (by decide)).symm
                          have d_x139 : x139 = fI (sI (sI S114 v0 0 (6 : Int32)) v0 1 x139) v0 1 := (u2_self _ _ _ _).symm
                          intro _ _
                          refine ⟨fun c140 => ?_, fun c140 => ?_⟩
                          · exact hq _ _ hI g0 f0 (Or.inl rfl)
                          · exact hq _ _ hI g0 f0 (Or.inr rfl)
                        · refine ⟨a77, ea77, ?_⟩
                          refine ⟨o_a77, ?_⟩
                          intro x142 ex142
                          have r_x142 : (0 : Int32) ≤ x142 ∧ x142 ≤ (4 : Int32) := by rw [ex142]; exact nu 14 rfl hI o_a77
                          have d_x142 := ex142
                          refine ⟨fun c143 => ?_, fun c143 => ?_⟩
                          · exact hq _ _ hI g0 f0 (Or.inr rfl)
                          · refine u_X4_read_280 ?_
                            refine ⟨o_v0, ?_⟩
                            refine u_X4_fail ?_
                            refine u_X4_fail_0 ?_
                            refine ⟨o_v0, ?_⟩
                            have hI := iv_sI (j := 0) (v := (6 : Int32)) hI o_v0 (by decide) (nu_free (by decide))
                            have f0 : FRI _ _ _ (sI S114 v0 0 (6 : Int32)) := fri_sI g0 f0 o_v0 (by decide)
                            have fL7 : FRI _ _ _ (sI S114 v0 0 (6 : Int32)) := fri_sI gL6 fL7 o_v0 (by decide)
                            have d_x126 : x126 = fI (sI S114 v0 0 (6 : Int32)) v0 6 := d_x126.trans (rd_j (by decide)).symm
                            have d_x136 : x136 = fI (sI S114 v0 0 (6 : Int32)) a77 2 := d_x136.trans (sI_ne o_v0 o_a77 (by decide) 2).symm
                            have d_x142 : x142 = fI (sI S114 v0 0 (6 : Int32)) a77 4 := d_x142.trans (sI_ne o_v0 o_a77 (by decide) 4).symm
                            obtain ⟨y144, hy144⟩ : ∃ z : Int32, z = (6 : Int32) := ⟨_, rfl⟩
                            have d_y144 : y144 = fI (sI S114 v0 0 (6 : Int32)) v0 0 := hy144.trans (u2_self _ _ _ _).symm
                            intro x145 ex145
                            have d_x145 := ex145
                            have hI := iv_sI (j := 1) (v := x145) hI o_v0 (by decide) (nu_free (by decide))
                            have f0 : FRI _ _ _ (sI (sI S114 v0 0 (6 : Int32)) v0 1 x145) := fri_sI g0 f0 o_v0 (by decide)
                            have fL7 : FRI _ _ _ (sI (sI S114 v0 0 (6 : Int32)) v0 1 x145) := fri_sI gL6 fL7 o_v0 (by decide)
                            have d_x126 : x126 = fI (sI (sI S114 v0 0 (6 : Int32)) v0 1 x145) v0 6 := d_x126.trans (rd_j (by decide)).symm
                            have d_x136 : x136 = fI (sI (sI S114 v0 0 (6 : Int32)) v0 1 x145) a77 2 := d_x136.trans (sI_ne o_v0 o_a77 (by decide) 2).symm
                            have d_x142 : x142 = fI (sI (sI S114 v0 0 (6 : Int32)) v0 1 x145) a77 4 := d_x142.trans (sI_ne o_v0 o_a77 (by decide) 4).symm
                            have d_y144 : y144 = fI (sI (sI S114 v0 0 (6 : Int32)) v0 1 x145) v0 0 := d_y144.trans (rd_j (by decide)).symm
                            have d_x145 : x145 = fI (sI (sI S114 v0 0 (6 : Int32)) v0 1 x145) v0 7 := d_x145.trans (rd_j (by decide)).symm
                            have d_x145 : x145 = fI (sI (sI S114 v0 0 (6 : Int32)) v0 1 x145) v0 1 := (u2_self _ _ _ _).symm
                            intro _ _
                            refine ⟨fun c146 => ?_, fun c146 => ?_⟩
                            · exact hq _ _ hI g0 f0 (Or.inl rfl)
                            · exact hq _ _ hI g0 f0 (Or.inr rfl)
                  · refine u_X4_read_236 ?_
                    refine u_X4_read_248 ?_
                    refine ⟨fun c147 => ?_, fun c147 => ?_⟩
                    · refine u_X4_read_295 ?_
                      refine ⟨fun c148 => ?_, fun c148 => ?_⟩
                      · exact hq _ _ hI g0 f0 (Or.inl rfl)
                      · refine ⟨o_v0, ?_⟩
                        refine m_X4_sign hI o_v0 hT (fun x149 S150 hI g151 fc152 b_x149 p_x149 => ?_)
                        obtain hT := p_x149
                        have l_v1 := (gr_len g151 o_v1).trans l_v1
                        have ea77 := (frr_at fc152 (by decide) (by decide) o_v0).trans ea77
                        have f0 := fri_tr g0 f0 fc152 (by decide) (by decide)
                        have fL7 := fri_tr gL6 fL7 fc152 (by decide) (by decide)
                        have o_a77 := gr_ob g151 o_a77
                        have o_v0 := gr_ob g151 o_v0
                        have o_v1 := gr_ob g151 o_v1
                        have g0 := gr_tr g0 g151
                        have gL6 := gr_tr gL6 g151
                        intro _ _
                        have bb_x149 : x149 = 0 ∨ x149 = 1 := b_x149
                        refine ⟨fun c153 => ?_, fun c153 => ?_⟩
                        · intro x154 ex154
                          exact ih12 _ _ _ ⟨hI, gL6, fL7, rfl, hT, (q102 i1 c13 bb_x16 c20 bb_x21 c25 bb_x26 c30 bb_x31 c35 bb_x36 c40 bb_x41 c45 r_x78 p_x79 bb_x79 c83 bb_x113 c117 c147 bb_x149 c153 ex154)⟩ (mu_up (q103 i1 c13 bb_x16 c20 bb_x21 c25 bb_x26 c30 bb_x31 c35 bb_x36 c40 bb_x41 c45 r_x78 p_x79 bb_x79 c83 bb_x113 c117 c147 bb_x149 c153 ex154) (q104 i1 c13 bb_x16 c20 bb_x21 c25 bb_x26 c30 bb_x31 c35 bb_x36 c40 bb_x41 c45 r_x78 p_x79 bb_x79 c83 bb_x113 c117 c147 bb_x149 c153 ex154))
                        · exact hq _ _ hI g0 f0 (Or.inl rfl)
                    · refine ⟨o_v0, ?_⟩
                      intro x155 ex155
                      have d_x155 := ex155
                      refine ⟨fun c156 => ?_, fun c156 => ?_⟩
                      · refine u_X4_read_295 ?_
                        refine ⟨fun c157 => ?_, fun c157 => ?_⟩
                        · exact hq _ _ hI g0 f0 (Or.inl rfl)
                        · refine ⟨o_v0, ?_⟩
                          refine m_X4_sign hI o_v0 hT (fun x158 S159 hI g160 fc161 b_x158 p_x158 => ?_)
                          obtain hT := p_x158
                          have l_v1 := (gr_len g160 o_v1).trans l_v1
                          have ea77 := (frr_at fc161 (by decide) (by decide) o_v0).trans ea77
                          have f0 := fri_tr g0 f0 fc161 (by decide) (by decide)
                          have fL7 := fri_tr gL6 fL7 fc161 (by decide) (by decide)
                          have o_a77 := gr_ob g160 o_a77
                          have o_v0 := gr_ob g160 o_v0
                          have o_v1 := gr_ob g160 o_v1
                          have g0 := gr_tr g0 g160
                          have gL6 := gr_tr gL6 g160
                          intro _ _
                          have bb_x158 : x158 = 0 ∨ x158 = 1 := b_x158
                          refine ⟨fun c162 => ?_, fun c162 => ?_⟩
                          · intro x163 ex163
                            exact ih12 _ _ _ ⟨hI, gL6, fL7, rfl, hT, (q105 i1 c13 bb_x16 c20 bb_x21 c25 bb_x26 c30 bb_x31 c35 bb_x36 c40 bb_x41 c45 r_x78 p_x79 bb_x79 c83 bb_x113 c117 c156 bb_x158 c162 ex163)⟩ (mu_up (q106 i1 c13 bb_x16 c20 bb_x21 c25 bb_x26 c30 bb_x31 c35 bb_x36 c40 bb_x41 c45 r_x78 p_x79 bb_x79 c83 bb_x113 c117 c156 bb_x158 c162 ex163) (q107 i1 c13 bb_x16 c20 bb_x21 c25 bb_x26 c30 bb_x31 c35 bb_x36 c40 bb_x41 c45 r_x78 p_x79 bb_x79 c83 bb_x113 c117 c156 bb_x158 c162 ex163))
                          · exact hq _ _ hI g0 f0 (Or.inl rfl)
                      · refine ⟨a77, ea77, ?_⟩
                        refine ⟨o_a77, ?_⟩
                        intro x165 ex165
                        have r_x165 : (0 : Int32) ≤ x165 ∧ x165 ≤ (8 : Int32) := by rw [ex165]; exact nu 12 rfl hI o_a77
                        have d_x165 := ex165
                        refine ⟨fun c166 => ?_, fun c166 => ?_⟩
                        · refine u_X4_read_280 ?_
                          refine ⟨o_v0, ?_⟩
                          refine u_X4_fail ?_
                          refine u_X4_fail_0 ?_
                          refine ⟨o_v0, ?_⟩
                          have hI := iv_sI (j := 0) (v := (6 : Int32)) hI o_v0 (by decide) (nu_free (by decide))
                          have f0 : FRI _ _ _ (sI S114 v0 0 (6 : Int32)) := fri_sI g0 f0 o_v0 (by decide)
                          have fL7 : FRI _ _ _ (sI S114 v0 0 (6 : Int32)) := fri_sI gL6 fL7 o_v0 (by decide)
                          have d_x155 : x155 = fI (sI S114 v0 0 (6 : Int32)) v0 6 := d_x155.trans (rd_j (by decide)).symm
                          have d_x165 : x165 = fI (sI S114 v0 0 (6 : Int32)) a77 2 := d_x165.trans (sI_ne o_v0 o_a77 (by decide) 2).symm
                          obtain ⟨y167, hy167⟩ : ∃ z : Int32, z = (6 : Int32) := ⟨_, rfl⟩
                          have d_y167 : y167 = fI (sI S114 v0 0 (6 : Int32)) v0 0 := hy167.trans (u2_self _ _ _ _).symm
                          intro x168 ex168
                          have d_x168 := ex168
                          have hI := iv_sI (j := 1) (v := x168) hI o_v0 (by decide) (nu_free (by decide))
                          have f0 : FRI _ _ _ (sI (sI S114 v0 0 (6 : Int32)) v0 1 x168) := fri_sI g0 f0 o_v0 (by decide)
                          have fL7 : FRI _ _ _ (sI (sI S114 v0 0 (6 : Int32)) v0 1 x168) := fri_sI gL6 fL7 o_v0 (by decide)
                          have d_x155 : x155 = fI (sI (sI S114 v0 0 (6 : Int32)) v0 1 x168) v0 6 := d_x155.trans (rd_j (by decide)).symm
                          have d_x165 : x165 = fI (sI (sI S114 v0 0 (6 : Int32)) v0 1 x168) a77 2 := d_x165.trans (sI_ne o_v0 o_a77 (by decide) 2).symm
                          have d_y167 : y167 = fI (sI (sI S114 v0 0 (6 : Int32)) v0 1 x168) v0 0 := d_y167.trans (rd_j (by decide)).symm
                          have d_x168 : x168 = fI (sI (sI S114 v0 0 (6 : Int32)) v0 1 x168) v0 7 := d_x168.trans (rd_j (by decide)).symm
                          have d_x168 : x168 = fI (sI (sI S114 v0 0 (6 : Int32)) v0 1 x168) v0 1 := (u2_self _ _ _ _).symm
                          intro _ _
                          refine ⟨fun c169 => ?_, fun c169 => ?_⟩
                          · exact hq _ _ hI g0 f0 (Or.inl rfl)
                          · exact hq _ _ hI g0 f0 (Or.inr rfl)
                        · refine ⟨a77, ea77, ?_⟩
                          refine ⟨o_a77, ?_⟩
                          intro x171 ex171
                          have r_x171 : (0 : Int32) ≤ x171 ∧ x171 ≤ (4 : Int32) := by rw [ex171]; exact nu 14 rfl hI o_a77
                          have d_x171 := ex171
                          refine ⟨fun c172 => ?_, fun c172 => ?_⟩
                          · exact hq _ _ hI g0 f0 (Or.inr rfl)
                          · refine u_X4_read_280 ?_
                            refine ⟨o_v0, ?_⟩
                            refine u_X4_fail ?_
                            refine u_X4_fail_0 ?_
                            refine ⟨o_v0, ?_⟩
                            have hI := iv_sI (j := 0) (v := (6 : Int32)) hI o_v0 (by decide) (nu_free (by decide))
                            have f0 : FRI _ _ _ (sI S114 v0 0 (6 : Int32)) := fri_sI g0 f0 o_v0 (by decide)
                            have fL7 : FRI _ _ _ (sI S114 v0 0 (6 : Int32)) := fri_sI gL6 fL7 o_v0 (by decide)
                            have d_x155 : x155 = fI (sI S114 v0 0 (6 : Int32)) v0 6 := d_x155.trans (rd_j (by decide)).symm
                            have d_x165 : x165 = fI (sI S114 v0 0 (6 : Int32)) a77 2 := d_x165.trans (sI_ne o_v0 o_a77 (by decide) 2).symm
                            have d_x171 : x171 = fI (sI S114 v0 0 (6 : Int32)) a77 4 := d_x171.trans (sI_ne o_v0 o_a77 (by decide) 4).symm
                            obtain ⟨y173, hy173⟩ : ∃ z : Int32, z = (6 : Int32) := ⟨_, rfl⟩
                            have d_y173 : y173 = fI (sI S114 v0 0 (6 : Int32)) v0 0 := hy173.trans (u2_self _ _ _ _).symm
                            intro x174 ex174
                            have d_x174 := ex174
                            have hI := iv_sI (j := 1) (v := x174) hI o_v0 (by decide) (nu_free (by decide))
                            have f0 : FRI _ _ _ (sI (sI S114 v0 0 (6 : Int32)) v0 1 x174) := fri_sI g0 f0 o_v0 (by decide)
                            have fL7 : FRI _ _ _ (sI (sI S114 v0 0 (6 : Int32)) v0 1 x174) := fri_sI gL6 fL7 o_v0 (by decide)
                            have d_x155 : x155 = fI (sI (sI S114 v0 0 (6 : Int32)) v0 1 x174) v0 6 := d_x155.trans (rd_j (by decide)).symm
                            have d_x165 : x165 = fI (sI (sI S114 v0 0 (6 : Int32)) v0 1 x174) a77 2 := d_x165.trans (sI_ne o_v0 o_a77 (by decide) 2).symm
                            have d_x171 : x171 = fI (sI (sI S114 v0 0 (6 : Int32)) v0 1 x174) a77 4 := d_x171.trans (sI_ne o_v0 o_a77 (by decide) 4).symm
                            have d_y173 : y173 = fI (sI (sI S114 v0 0 (6 : Int32)) v0 1 x174) v0 0 := d_y173.trans (rd_j (by decide)).symm
                            have d_x174 : x174 = fI (sI (sI S114 v0 0 (6 : Int32)) v0 1 x174) v0 7 := d_x174.trans (rd_j (by decide)).symm
                            have d_x174 : x174 = fI (sI (sI S114 v0 0 (6 : Int32)) v0 1 x174) v0 1 := (u2_self _ _ _ _).symm
                            intro _ _
                            refine ⟨fun c175 => ?_, fun c175 => ?_⟩
                            · exact hq _ _ hI g0 f0 (Or.inl rfl)
                            · exact hq _ _ hI g0 f0 (Or.inr rfl)
            · obtain ⟨a176, ea176, o_a176, -⟩ := sh 12 rfl hI o_v0
              refine ⟨a176, ea176, ?_⟩
              refine ⟨o_a176, ?_⟩
              intro x177 ex177
              have r_x177 : (0 : Int32) ≤ x177 ∧ x177 ≤ (4 : Int32) := by rw [ex177]; exact nu 14 rfl hI o_a176
              have d_x177 := ex177
              refine m_X4_hasRoom hI o_v0 hT (fun x178 S179 hI g180 fc181 b_x178 p_x178 => ?_)
              obtain ⟨hT, p_x178⟩ := p_x178
              have l_v1 := (gr_len g180 o_v1).trans l_v1
              have d_x177 := d_x177.trans (fri_at fc181 (by decide) (by decide) o_a176).symm
              have ea176 := (frr_at fc181 (by decide) (by decide) o_v0).trans ea176
              have f0 := fri_tr g0 f0 fc181 (by decide) (by decide)
              have fL7 := fri_tr gL6 fL7 fc181 (by decide) (by decide)
              have o_a176 := gr_ob g180 o_a176
              have o_v0 := gr_ob g180 o_v0
              have o_v1 := gr_ob g180 o_v1
              have g0 := gr_tr g0 g180
              have gL6 := gr_tr gL6 g180
              intro _ _
              have bb_x178 : x178 = 0 ∨ x178 = 1 := b_x178
              refine ⟨fun c182 => ?_, fun c182 => ?_⟩
              · refine u_X4_read_194 ?_
                refine u_X4_read_195 ?_
                refine u_X4_read_248 ?_
                refine ⟨fun c183 => ?_, fun c183 => ?_⟩
                · refine u_X4_read_295 ?_
                  refine ⟨fun c184 => ?_, fun c184 => ?_⟩
                  · exact hq _ _ hI g0 f0 (Or.inl rfl)
                  · refine ⟨o_v0, ?_⟩
                    refine m_X4_sign hI o_v0 hT (fun x185 S186 hI g187 fc188 b_x185 p_x185 => ?_)
                    obtain hT := p_x185
                    have l_v1 := (gr_len g187 o_v1).trans l_v1
                    have d_x177 := d_x177.trans (fri_at fc188 (by decide) (by decide) o_a176).symm
                    have ea176 := (frr_at fc188 (by decide) (by decide) o_v0).trans ea176
                    have f0 := fri_tr g0 f0 fc188 (by decide) (by decide)
                    have fL7 := fri_tr gL6 fL7 fc188 (by decide) (by decide)
                    have o_a176 := gr_ob g187 o_a176
                    have o_v0 := gr_ob g187 o_v0
                    have o_v1 := gr_ob g187 o_v1
                    have g0 := gr_tr g0 g187
                    have gL6 := gr_tr gL6 g187
                    intro _ _
                    have bb_x185 : x185 = 0 ∨ x185 = 1 := b_x185
                    refine ⟨fun c189 => ?_, fun c189 => ?_⟩
                    · intro x190 ex190
                      exact ih12 _ _ _ ⟨hI, gL6, fL7, rfl, hT, (q108 i1 c13 bb_x16 c20 bb_x21 c25 bb_x26 c30 bb_x31 c35 bb_x36 c40 r_x177 p_x178 bb_x178 c182 c184 bb_x185 c189 ex190)⟩ (mu_up (q109 i1 c13 bb_x16 c20 bb_x21 c25 bb_x26 c30 bb_x31 c35 bb_x36 c40 r_x177 p_x178 bb_x178 c182 c184 bb_x185 c189 ex190) (q110 i1 c13 bb_x16 c20 bb_x21 c25 bb_x26 c30 bb_x31 c35 bb_x36 c40 r_x177 p_x178 bb_x178 c182 c184 bb_x185 c189 ex190))
                    · exact hq _ _ hI g0 f0 (Or.inl rfl)
                · refine ⟨o_v0, ?_⟩
                  intro x191 ex191
                  have d_x191 := ex191
                  refine ⟨fun c192 => ?_, fun c192 => ?_⟩
                  · refine u_X4_read_295 ?_
                    refine ⟨fun c193 => ?_, fun c193 => ?_⟩
                    · exact hq _ _ hI g0 f0 (Or.inl rfl)
                    · refine ⟨o_v0, ?_⟩
                      refine m_X4_sign hI o_v0 hT (fun x194 S195 hI g196 fc197 b_x194 p_x194 => ?_)
                      obtain hT := p_x194
                      have l_v1 := (gr_len g196 o_v1).trans l_v1
                      have d_x177 := d_x177.trans (fri_at fc197 (by decide) (by decide) o_a176).symm
                      have ea176 := (frr_at fc197 (by decide) (by decide) o_v0).trans ea176
                      have f0 := fri_tr g0 f0 fc197 (by decide) (by decide)
                      have fL7 := fri_tr gL6 fL7 fc197 (by decide) (by decide)
                      have o_a176 := gr_ob g196 o_a176
                      have o_v0 := gr_ob g196 o_v0
                      have o_v1 := gr_ob g196 o_v1
                      have g0 := gr_tr g0 g196
                      have gL6 := gr_tr gL6 g196
                      intro _ _
                      have bb_x194 : x194 = 0 ∨ x194 = 1 := b_x194
                      refine ⟨fun c198 => ?_, fun c198 => ?_⟩
                      · intro x199 ex199
                        exact ih12 _ _ _ ⟨hI, gL6, fL7, rfl, hT, (q111 i1 c13 bb_x16 c20 bb_x21 c25 bb_x26 c30 bb_x31 c35 bb_x36 c40 r_x177 p_x178 bb_x178 c182 c183 c192 c193 bb_x194 c198 ex199)⟩ (mu_up (q112 i1 c13 bb_x16 c20 bb_x21 c25 bb_x26 c30 bb_x31 c35 bb_x36 c40 r_x177 p_x178 bb_x178 c182 c183 c192 c193 bb_x194 c198 ex199) (q113 i1 c13 bb_x16 c20 bb_x21 c25 bb_x26 c30 bb_x31 c35 bb_x36 c40 r_x177 p_x178 bb_x178 c182 c183 c192 c193 bb_x194 c198 ex199))
                      · exact hq _ _ hI g0 f0 (Or.inl rfl)
                  · refine ⟨a176, ea176, ?_⟩
                    refine ⟨o_a176, ?_⟩
                    intro x201 ex201
                    have r_x201 : (0 : Int32) ≤ x201 ∧ x201 ≤ (8 : Int32) := by rw [ex201]; exact nu 12 rfl hI o_a176
                    have d_x201 := ex201
                    refine ⟨fun c202 => ?_, fun c202 => ?_⟩
                    · refine u_X4_read_280 ?_
                      refine ⟨o_v0, ?_⟩
                      refine u_X4_fail ?_
                      refine u_X4_fail_0 ?_
                      refine ⟨o_v0, ?_⟩
                      have hI := iv_sI (j := 0) (v := (6 : Int32)) hI o_v0 (by decide) (nu_free (by decide))
                      have f0 : FRI _ _ _ (sI S179 v0 0 (6 : Int32)) := fri_sI g0 f0 o_v0 (by decide)
                      have fL7 : FRI _ _ _ (sI S179 v0 0 (6 : Int32)) := fri_sI gL6 fL7 o_v0 (by decide)
                      have d_x177 : x177 = fI (sI S179 v0 0 (6 : Int32)) a176 4 := d_x177.trans (sI_ne o_v0 o_a176 (by decide) 4).symm
                      have d_x191 : x191 = fI (sI S179 v0 0 (6 : Int32)) v0 6 := d_x191.trans (rd_j (by decide)).symm
                      have d_x201 : x201 = fI (sI S179 v0 0 (6 : Int32)) a176 2 := d_x201.trans (sI_ne o_v0 o_a176 (by decide) 2).symm
                      obtain ⟨y203, hy203⟩ : ∃ z : Int32, z = (6 : Int32) := ⟨_, rfl⟩
                      have d_y203 : y203 = fI (sI S179 v0 0 (6 : Int32)) v0 0 := hy203.trans (u2_self _ _ _ _).symm
                      intro x204 ex204
                      have d_x204 := ex204
                      have hI := iv_sI (j := 1) (v := x204) hI o_v0 (by decide) (nu_free (by decide))
                      have f0 : FRI _ _ _ (sI (sI S179 v0 0 (6 : Int32)) v0 1 x204) := fri_sI g0 f0 o_v0 (by decide)
                      have fL7 : FRI _ _ _ (sI (sI S179 v0 0 (6 : Int32)) v0 1 x204) := fri_sI gL6 fL7 o_v0 (by decide)
                      have d_x177 : x177 = fI (sI (sI S179 v0 0 (6 : Int32)) v0 1 x204) a176 4 := d_x177.trans (sI_ne o_v0 o_a176 (by decide) 4).symm
                      have d_x191 : x191 = fI (sI (sI S179 v0 0 (6 : Int32)) v0 1 x204) v0 6 := d_x191.trans (rd_j (by decide)).symm
                      have d_x201 : x201 = fI (sI (sI S179 v0 0 (6 : Int32)) v0 1 x204) a176 2 := d_x201.trans (sI_ne o_v0 o_a176 (by decide) 2).symm
                      have d_y203 : y203 = fI (sI (sI S179 v0 0 (6 : Int32)) v0 1 x204) v0 0 := d_y203.trans (rd_j (by decide)).symm
                      have d_x204 : x204 = fI (sI (sI S179 v0 0 (6 : Int32)) v0 1 x204) v0 7 := d_x204.trans (rd_j (by decide)).symm
                      have d_x204 : x204 = fI (sI (sI S179 v0 0 (6 : Int32)) v0 1 x204) v0 1 := (u2_self _ _ _ _).symm
                      intro _ _
                      refine ⟨fun c205 => ?_, fun c205 => ?_⟩
                      · exact hq _ _ hI g0 f0 (Or.inl rfl)
                      · exact hq _ _ hI g0 f0 (Or.inr rfl)
                    · refine ⟨a176, ea176, ?_⟩
                      refine ⟨o_a176, ?_⟩
                      intro x207 ex207
                      have r_x207 : (0 : Int32) ≤ x207 ∧ x207 ≤ (4 : Int32) := by rw [ex207]; exact nu 14 rfl hI o_a176
                      have q_x207 : x207 = x177 := ex207.trans d_x177.symm
                      have d_x207 := ex207
                      refine ⟨fun c208 => ?_, fun c208 => ?_⟩
                      · exact hq _ _ hI g0 f0 (Or.inr rfl)
                      · refine u_X4_read_280 ?_
                        refine ⟨o_v0, ?_⟩
                        refine u_X4_fail ?_
                        refine u_X4_fail_0 ?_
                        refine ⟨o_v0, ?_⟩
                        have hI := iv_sI (j := 0) (v := (6 : Int32)) hI o_v0 (by decide) (nu_free (by decide))
                        have f0 : FRI _ _ _ (sI S179 v0 0 (6 : Int32)) := fri_sI g0 f0 o_v0 (by decide)
                        have fL7 : FRI _ _ _ (sI S179 v0 0 (6 : Int32)) := fri_sI gL6 fL7 o_v0 (by decide)
                        have d_x207 : x207 = fI (sI S179 v0 0 (6 : Int32)) a176 4 := d_x207.trans (sI_ne o_v0 o_a176 (by decide) 4).symm
                        have d_x191 : x191 = fI (sI S179 v0 0 (6 : Int32)) v0 6 := d_x191.trans (rd_j (by decide)).symm
                        have d_x201 : x201 = fI (sI S179 v0 0 (6 : Int32)) a176 2 := d_x201.trans (sI_ne o_v0 o_a176 (by decide) 2).symm
                        obtain ⟨y209, hy209⟩ : ∃ z : Int32, z = (6 : Int32) := ⟨_, rfl⟩
                        have d_y209 : y209 = fI (sI S179 v0 0 (6 : Int32)) v0 0 := hy209.trans (u2_self _ _ _ _).symm
                        intro x210 ex210
                        have d_x210 := ex210
                        have hI := iv_sI (j := 1) (v := x210) hI o_v0 (by decide) (nu_free (by decide))
                        have f0 : FRI _ _ _ (sI (sI S179 v0 0 (6 : Int32)) v0 1 x210) := fri_sI g0 f0 o_v0 (by decide)
                        have fL7 : FRI _ _ _ (sI (sI S179 v0 0 (6 : Int32)) v0 1 x210) := fri_sI gL6 fL7 o_v0 (by decide)
                        have d_x207 : x207 = fI (sI (sI S179 v0 0 (6 : Int32)) v0 1 x210) a176 4 := d_x207.trans (sI_ne o_v0 o_a176 (by decide) 4).symm
                        have d_x191 : x191 = fI (sI (sI S179 v0 0 (6 : Int32)) v0 1 x210) v0 6 := d_x191.trans (rd_j (by decide)).symm
                        have d_x201 : x201 = fI (sI (sI S179 v0 0 (6 : Int32)) v0 1 x210) a176 2 := d_x201.trans (sI_ne o_v0 o_a176 (by decide) 2).symm
                        have d_y209 : y209 = fI (sI (sI S179 v0 0 (6 : Int32)) v0 1 x210) v0 0 := d_y209.trans (rd_j (by decide)).symm
                        have d_x210 : x210 = fI (sI (sI S179 v0 0 (6 : Int32)) v0 1 x210) v0 7 := d_x210.trans (rd_j (by decide)).symm
                        have d_x210 : x210 = fI (sI (sI S179 v0 0 (6 : Int32)) v0 1 x210) v0 1 := (u2_self _ _ _ _).symm
                        intro _ _
                        refine ⟨fun c211 => ?_, fun c211 => ?_⟩
                        · exact hq _ _ hI g0 f0 (Or.inl rfl)
                        · exact hq _ _ hI g0 f0 (Or.inr rfl)
              · refine m_X4_walkerLine hI o_v0 (fun z hz => by cases ea176.symm.trans hz; rw [← d_x177]; exact (q114 i1 c13 bb_x16 c20 bb_x21 c25 bb_x26 c30 bb_x31 c35 bb_x36 c40 r_x177 p_x178 bb_x178 c182)) hT (fun x212 S213 hI g214 fc215 b_x212 p_x212 => ?_)
                obtain hT := p_x212
                have l_v1 := (gr_len g214 o_v1).trans l_v1
                have ea176 := (frr_at fc215 (by decide) (by decide) o_v0).trans ea176
                have f0 := fri_tr g0 f0 fc215 (by decide) (by decide)
                have fL7 := fri_tr gL6 fL7 fc215 (by decide) (by decide)
                have o_a176 := gr_ob g214 o_a176
                have o_v0 := gr_ob g214 o_v0
                have o_v1 := gr_ob g214 o_v1
                have g0 := gr_tr g0 g214
                have gL6 := gr_tr gL6 g214
                intro _ _
                have bb_x212 : x212 = 0 ∨ x212 = 1 := b_x212
                refine ⟨fun c216 => ?_, fun c216 => ?_⟩
                · refine u_X4_read_194 ?_
                  refine u_X4_read_195 ?_
                  refine u_X4_read_248 ?_
                  refine ⟨fun c217 => ?_, fun c217 => ?_⟩
                  · refine u_X4_read_295 ?_
                    refine ⟨fun c218 => ?_, fun c218 => ?_⟩
                    · exact hq _ _ hI g0 f0 (Or.inl rfl)
                    · refine ⟨o_v0, ?_⟩
                      refine m_X4_sign hI o_v0 hT (fun x219 S220 hI g221 fc222 b_x219 p_x219 => ?_)
                      obtain hT := p_x219
                      have l_v1 := (gr_len g221 o_v1).trans l_v1
                      have ea176 := (frr_at fc222 (by decide) (by decide) o_v0).trans ea176
                      have f0 := fri_tr g0 f0 fc222 (by decide) (by decide)
                      have fL7 := fri_tr gL6 fL7 fc222 (by decide) (by decide)
                      have o_a176 := gr_ob g221 o_a176
                      have o_v0 := gr_ob g221 o_v0
                      have o_v1 := gr_ob g221 o_v1
                      have g0 := gr_tr g0 g221
                      have gL6 := gr_tr gL6 g221
                      intro _ _
                      have bb_x219 : x219 = 0 ∨ x219 = 1 := b_x219
                      refine ⟨fun c223 => ?_, fun c223 => ?_⟩
                      · intro x224 ex224
                        exact ih12 _ _ _ ⟨hI, gL6, fL7, rfl, hT, (q115 i1 c13 bb_x16 c20 bb_x21 c25 bb_x26 c30 bb_x31 c35 bb_x36 c40 r_x177 p_x178 bb_x178 c182 bb_x212 c216 c218 bb_x219 c223 ex224)⟩ (mu_up (q116 i1 c13 bb_x16 c20 bb_x21 c25 bb_x26 c30 bb_x31 c35 bb_x36 c40 r_x177 p_x178 bb_x178 c182 bb_x212 c216 c218 bb_x219 c223 ex224) (q117 i1 c13 bb_x16 c20 bb_x21 c25 bb_x26 c30 bb_x31 c35 bb_x36 c40 r_x177 p_x178 bb_x178 c182 bb_x212 c216 c218 bb_x219 c223 ex224))
                      · exact hq _ _ hI g0 f0 (Or.inl rfl)
                  · refine ⟨o_v0, ?_⟩
                    intro x225 ex225
                    have d_x225 := ex225
                    refine ⟨fun c226 => ?_, fun c226 => ?_⟩
                    · refine u_X4_read_295 ?_
                      refine ⟨fun c227 => ?_, fun c227 => ?_⟩
                      · exact hq _ _ hI g0 f0 (Or.inl rfl)
                      · refine ⟨o_v0, ?_⟩
                        refine m_X4_sign hI o_v0 hT (fun x228 S229 hI g230 fc231 b_x228 p_x228 => ?_)
                        obtain hT := p_x228
                        have l_v1 := (gr_len g230 o_v1).trans l_v1
                        have ea176 := (frr_at fc231 (by decide) (by decide) o_v0).trans ea176
                        have f0 := fri_tr g0 f0 fc231 (by decide) (by decide)
                        have fL7 := fri_tr gL6 fL7 fc231 (by decide) (by decide)
                        have o_a176 := gr_ob g230 o_a176
                        have o_v0 := gr_ob g230 o_v0
                        have o_v1 := gr_ob g230 o_v1
                        have g0 := gr_tr g0 g230
                        have gL6 := gr_tr gL6 g230
                        intro _ _
                        have bb_x228 : x228 = 0 ∨ x228 = 1 := b_x228
                        refine ⟨fun c232 => ?_, fun c232 => ?_⟩
                        · intro x233 ex233
                          exact ih12 _ _ _ ⟨hI, gL6, fL7, rfl, hT, (q118 i1 c13 bb_x16 c20 bb_x21 c25 bb_x26 c30 bb_x31 c35 bb_x36 c40 r_x177 p_x178 bb_x178 c182 bb_x212 c216 c217 c226 c227 bb_x228 c232 ex233)⟩ (mu_up (q119 i1 c13 bb_x16 c20 bb_x21 c25 bb_x26 c30 bb_x31 c35 bb_x36 c40 r_x177 p_x178 bb_x178 c182 bb_x212 c216 c217 c226 c227 bb_x228 c232 ex233) (q120 i1 c13 bb_x16 c20 bb_x21 c25 bb_x26 c30 bb_x31 c35 bb_x36 c40 r_x177 p_x178 bb_x178 c182 bb_x212 c216 c217 c226 c227 bb_x228 c232 ex233))
                        · exact hq _ _ hI g0 f0 (Or.inl rfl)
                    · refine ⟨a176, ea176, ?_⟩
                      refine ⟨o_a176, ?_⟩
                      intro x235 ex235
                      have r_x235 : (0 : Int32) ≤ x235 ∧ x235 ≤ (8 : Int32) := by rw [ex235]; exact nu 12 rfl hI o_a176
                      have d_x235 := ex235
                      refine ⟨fun c236 => ?_, fun c236 => ?_⟩
                      · refine u_X4_read_280 ?_
                        refine ⟨o_v0, ?_⟩
                        refine u_X4_fail ?_
                        refine u_X4_fail_0 ?_
                        refine ⟨o_v0, ?_⟩
                        have hI := iv_sI (j := 0) (v := (6 : Int32)) hI o_v0 (by decide) (nu_free (by decide))
                        have f0 : FRI _ _ _ (sI S213 v0 0 (6 : Int32)) := fri_sI g0 f0 o_v0 (by decide)
                        have fL7 : FRI _ _ _ (sI S213 v0 0 (6 : Int32)) := fri_sI gL6 fL7 o_v0 (by decide)
                        have d_x225 : x225 = fI (sI S213 v0 0 (6 : Int32)) v0 6 := d_x225.trans (rd_j (by decide)).symm
                        have d_x235 : x235 = fI (sI S213 v0 0 (6 : Int32)) a176 2 := d_x235.trans (sI_ne o_v0 o_a176 (by decide) 2).symm
                        obtain ⟨y237, hy237⟩ : ∃ z : Int32, z = (6 : Int32) := ⟨_, rfl⟩
                        have d_y237 : y237 = fI (sI S213 v0 0 (6 : Int32)) v0 0 := hy237.trans (u2_self _ _ _ _).symm
                        intro x238 ex238
                        have d_x238 := ex238
                        have hI := iv_sI (j := 1) (v := x238) hI o_v0 (by decide) (nu_free (by decide))
                        have f0 : FRI _ _ _ (sI (sI S213 v0 0 (6 : Int32)) v0 1 x238) := fri_sI g0 f0 o_v0 (by decide)
                        have fL7 : FRI _ _ _ (sI (sI S213 v0 0 (6 : Int32)) v0 1 x238) := fri_sI gL6 fL7 o_v0 (by decide)
                        have d_x225 : x225 = fI (sI (sI S213 v0 0 (6 : Int32)) v0 1 x238) v0 6 := d_x225.trans (rd_j (by decide)).symm
                        have d_x235 : x235 = fI (sI (sI S213 v0 0 (6 : Int32)) v0 1 x238) a176 2 := d_x235.trans (sI_ne o_v0 o_a176 (by decide) 2).symm
                        have d_y237 : y237 = fI (sI (sI S213 v0 0 (6 : Int32)) v0 1 x238) v0 0 := d_y237.trans (rd_j (by decide)).symm
                        have d_x238 : x238 = fI (sI (sI S213 v0 0 (6 : Int32)) v0 1 x238) v0 7 := d_x238.trans (rd_j (by decide)).symm
                        have d_x238 : x238 = fI (sI (sI S213 v0 0 (6 : Int32)) v0 1 x238) v0 1 := (u2_self _ _ _ _).symm
                        intro _ _
                        refine ⟨fun c239 => ?_, fun c239 => ?_⟩
                        · exact hq _ _ hI g0 f0 (Or.inl rfl)
                        · exact hq _ _ hI g0 f0 (Or.inr rfl)
                      · refine ⟨a176, ea176, ?_⟩
                        refine ⟨o_a176, ?_⟩
                        intro x241 ex241
                        have r_x241 : (0 : Int32) ≤ x241 ∧ x241 ≤ (4 : Int32) := by rw [ex241]; exact nu 14 rfl hI o_a176
                        have d_x241 := ex241
                        refine ⟨fun c242 => ?_, fun c242 => ?_⟩
                        · exact hq _ _ hI g0 f0 (Or.inr rfl)
                        · refine u_X4_read_280 ?_
                          refine ⟨o_v0, ?_⟩
                          refine u_X4_fail ?_
                          refine u_X4_fail_0 ?_
                          refine ⟨o_v0, ?_⟩
                          have hI := iv_sI (j := 0) (v := (6 : Int32)) hI o_v0 (by decide) (nu_free (by decide))
                          have f0 : FRI _ _ _ (sI S213 v0 0 (6 : Int32)) := fri_sI g0 f0 o_v0 (by decide)
                          have fL7 : FRI _ _ _ (sI S213 v0 0 (6 : Int32)) := fri_sI gL6 fL7 o_v0 (by decide)
                          have d_x225 : x225 = fI (sI S213 v0 0 (6 : Int32)) v0 6 := d_x225.trans (rd_j (by decide)).symm
                          have d_x235 : x235 = fI (sI S213 v0 0 (6 : Int32)) a176 2 := d_x235.trans (sI_ne o_v0 o_a176 (by decide) 2).symm
                          have d_x241 : x241 = fI (sI S213 v0 0 (6 : Int32)) a176 4 := d_x241.trans (sI_ne o_v0 o_a176 (by decide) 4).symm
                          obtain ⟨y243, hy243⟩ : ∃ z : Int32, z = (6 : Int32) := ⟨_, rfl⟩
                          have d_y243 : y243 = fI (sI S213 v0 0 (6 : Int32)) v0 0 := hy243.trans (u2_self _ _ _ _).symm
                          intro x244 ex244
                          have d_x244 := ex244
                          have hI := iv_sI (j := 1) (v := x244) hI o_v0 (by decide) (nu_free (by decide))
                          have f0 : FRI _ _ _ (sI (sI S213 v0 0 (6 : Int32)) v0 1 x244) := fri_sI g0 f0 o_v0 (by decide)
                          have fL7 : FRI _ _ _ (sI (sI S213 v0 0 (6 : Int32)) v0 1 x244) := fri_sI gL6 fL7 o_v0 (by decide)
                          have d_x225 : x225 = fI (sI (sI S213 v0 0 (6 : Int32)) v0 1 x244) v0 6 := d_x225.trans (rd_j (by decide)).symm
                          have d_x235 : x235 = fI (sI (sI S213 v0 0 (6 : Int32)) v0 1 x244) a176 2 := d_x235.trans (sI_ne o_v0 o_a176 (by decide) 2).symm
                          have d_x241 : x241 = fI (sI (sI S213 v0 0 (6 : Int32)) v0 1 x244) a176 4 := d_x241.trans (sI_ne o_v0 o_a176 (by decide) 4).symm
                          have d_y243 : y243 = fI (sI (sI S213 v0 0 (6 : Int32)) v0 1 x244) v0 0 := d_y243.trans (rd_j (by decide)).symm
                          have d_x244 : x244 = fI (sI (sI S213 v0 0 (6 : Int32)) v0 1 x244) v0 7 := d_x244.trans (rd_j (by decide)).symm
                          have d_x244 : x244 = fI (sI (sI S213 v0 0 (6 : Int32)) v0 1 x244) v0 1 := (u2_self _ _ _ _).symm
                          intro _ _
                          refine ⟨fun c245 => ?_, fun c245 => ?_⟩
                          · exact hq _ _ hI g0 f0 (Or.inl rfl)
                          · exact hq _ _ hI g0 f0 (Or.inr rfl)
                · refine u_X4_read_195 ?_
                  refine u_X4_read_248 ?_
                  refine ⟨fun c246 => ?_, fun c246 => ?_⟩
                  · refine u_X4_read_295 ?_
                    refine ⟨fun c247 => ?_, fun c247 => ?_⟩
                    · exact hq _ _ hI g0 f0 (Or.inl rfl)
                    · refine ⟨o_v0, ?_⟩
                      refine m_X4_sign hI o_v0 hT (fun x248 S249 hI g250 fc251 b_x248 p_x248 => ?_)
                      obtain hT := p_x248
                      have l_v1 := (gr_len g250 o_v1).trans l_v1
                      have ea176 := (frr_at fc251 (by decide) (by decide) o_v0).trans ea176
                      have f0 := fri_tr g0 f0 fc251 (by decide) (by decide)
                      have fL7 := fri_tr gL6 fL7 fc251 (by decide) (by decide)
                      have o_a176 := gr_ob g250 o_a176
                      have o_v0 := gr_ob g250 o_v0
                      have o_v1 := gr_ob g250 o_v1
                      have g0 := gr_tr g0 g250
                      have gL6 := gr_tr gL6 g250
                      intro _ _
                      have bb_x248 : x248 = 0 ∨ x248 = 1 := b_x248
                      refine ⟨fun c252 => ?_, fun c252 => ?_⟩
                      · intro x253 ex253
                        exact ih12 _ _ _ ⟨hI, gL6, fL7, rfl, hT, (q121 i1 c13 bb_x16 c20 bb_x21 c25 bb_x26 c30 bb_x31 c35 bb_x36 c40 r_x177 p_x178 bb_x178 c182 bb_x212 c216 c246 bb_x248 c252 ex253)⟩ (mu_up (q122 i1 c13 bb_x16 c20 bb_x21 c25 bb_x26 c30 bb_x31 c35 bb_x36 c40 r_x177 p_x178 bb_x178 c182 bb_x212 c216 c246 bb_x248 c252 ex253) (q123 i1 c13 bb_x16 c20 bb_x21 c25 bb_x26 c30 bb_x31 c35 bb_x36 c40 r_x177 p_x178 bb_x178 c182 bb_x212 c216 c246 bb_x248 c252 ex253))
                      · exact hq _ _ hI g0 f0 (Or.inl rfl)
                  · refine ⟨o_v0, ?_⟩
                    intro x254 ex254
                    have d_x254 := ex254
                    refine ⟨fun c255 => ?_, fun c255 => ?_⟩
                    · refine u_X4_read_295 ?_
                      refine ⟨fun c256 => ?_, fun c256 => ?_⟩
                      · exact hq _ _ hI g0 f0 (Or.inl rfl)
                      · refine ⟨o_v0, ?_⟩
                        refine m_X4_sign hI o_v0 hT (fun x257 S258 hI g259 fc260 b_x257 p_x257 => ?_)
                        obtain hT := p_x257
                        have l_v1 := (gr_len g259 o_v1).trans l_v1
                        have ea176 := (frr_at fc260 (by decide) (by decide) o_v0).trans ea176
                        have f0 := fri_tr g0 f0 fc260 (by decide) (by decide)
                        have fL7 := fri_tr gL6 fL7 fc260 (by decide) (by decide)
                        have o_a176 := gr_ob g259 o_a176
                        have o_v0 := gr_ob g259 o_v0
                        have o_v1 := gr_ob g259 o_v1
                        have g0 := gr_tr g0 g259
                        have gL6 := gr_tr gL6 g259
                        intro _ _
                        have bb_x257 : x257 = 0 ∨ x257 = 1 := b_x257
                        refine ⟨fun c261 => ?_, fun c261 => ?_⟩
                        · intro x262 ex262
                          exact ih12 _ _ _ ⟨hI, gL6, fL7, rfl, hT, (q124 i1 c13 bb_x16 c20 bb_x21 c25 bb_x26 c30 bb_x31 c35 bb_x36 c40 r_x177 p_x178 bb_x178 c182 bb_x212 c216 c255 bb_x257 c261 ex262)⟩ (mu_up (q125 i1 c13 bb_x16 c20 bb_x21 c25 bb_x26 c30 bb_x31 c35 bb_x36 c40 r_x177 p_x178 bb_x178 c182 bb_x212 c216 c255 bb_x257 c261 ex262) (q126 i1 c13 bb_x16 c20 bb_x21 c25 bb_x26 c30 bb_x31 c35 bb_x36 c40 r_x177 p_x178 bb_x178 c182 bb_x212 c216 c255 bb_x257 c261 ex262))
                        · exact hq _ _ hI g0 f0 (Or.inl rfl)
                    · refine ⟨a176, ea176, ?_⟩
                      refine ⟨o_a176, ?_⟩
                      intro x264 ex264
                      have r_x264 : (0 : Int32) ≤ x264 ∧ x264 ≤ (8 : Int32) := by rw [ex264]; exact nu 12 rfl hI o_a176
                      have d_x264 := ex264
                      refine ⟨fun c265 => ?_, fun c265 => ?_⟩
                      · refine u_X4_read_280 ?_
                        refine ⟨o_v0, ?_⟩
                        refine u_X4_fail ?_
                        refine u_X4_fail_0 ?_
                        refine ⟨o_v0, ?_⟩
                        have hI := iv_sI (j := 0) (v := (6 : Int32)) hI o_v0 (by decide) (nu_free (by decide))
                        have f0 : FRI _ _ _ (sI S213 v0 0 (6 : Int32)) := fri_sI g0 f0 o_v0 (by decide)
                        have fL7 : FRI _ _ _ (sI S213 v0 0 (6 : Int32)) := fri_sI gL6 fL7 o_v0 (by decide)
                        have d_x254 : x254 = fI (sI S213 v0 0 (6 : Int32)) v0 6 := d_x254.trans (rd_j (by decide)).symm
                        have d_x264 : x264 = fI (sI S213 v0 0 (6 : Int32)) a176 2 := d_x264.trans (sI_ne o_v0 o_a176 (by decide) 2).symm
                        obtain ⟨y266, hy266⟩ : ∃ z : Int32, z = (6 : Int32) := ⟨_, rfl⟩
                        have d_y266 : y266 = fI (sI S213 v0 0 (6 : Int32)) v0 0 := hy266.trans (u2_self _ _ _ _).symm
                        intro x267 ex267
                        have d_x267 := ex267
                        have hI := iv_sI (j := 1) (v := x267) hI o_v0 (by decide) (nu_free (by decide))
                        have f0 : FRI _ _ _ (sI (sI S213 v0 0 (6 : Int32)) v0 1 x267) := fri_sI g0 f0 o_v0 (by decide)
                        have fL7 : FRI _ _ _ (sI (sI S213 v0 0 (6 : Int32)) v0 1 x267) := fri_sI gL6 fL7 o_v0 (by decide)
                        have d_x254 : x254 = fI (sI (sI S213 v0 0 (6 : Int32)) v0 1 x267) v0 6 := d_x254.trans (rd_j (by decide)).symm
                        have d_x264 : x264 = fI (sI (sI S213 v0 0 (6 : Int32)) v0 1 x267) a176 2 := d_x264.trans (sI_ne o_v0 o_a176 (by decide) 2).symm
                        have d_y266 : y266 = fI (sI (sI S213 v0 0 (6 : Int32)) v0 1 x267) v0 0 := d_y266.trans (rd_j (by decide)).symm
                        have d_x267 : x267 = fI (sI (sI S213 v0 0 (6 : Int32)) v0 1 x267) v0 7 := d_x267.trans (rd_j (by decide)).symm
                        have d_x267 : x267 = fI (sI (sI S213 v0 0 (6 : Int32)) v0 1 x267) v0 1 := (u2_self _ _ _ _).symm
                        intro _ _
                        refine ⟨fun c268 => ?_, fun c268 => ?_⟩
                        · exact hq _ _ hI g0 f0 (Or.inl rfl)
                        · exact hq _ _ hI g0 f0 (Or.inr rfl)
                      · refine ⟨a176, ea176, ?_⟩
                        refine ⟨o_a176, ?_⟩
                        intro x270 ex270
                        have r_x270 : (0 : Int32) ≤ x270 ∧ x270 ≤ (4 : Int32) := by rw [ex270]; exact nu 14 rfl hI o_a176
                        have d_x270 := ex270
                        refine ⟨fun c271 => ?_, fun c271 => ?_⟩
                        · exact hq _ _ hI g0 f0 (Or.inr rfl)
                        · refine u_X4_read_280 ?_
                          refine ⟨o_v0, ?_⟩
                          refine u_X4_fail ?_
                          refine u_X4_fail_0 ?_
                          refine ⟨o_v0, ?_⟩
                          have hI := iv_sI (j := 0) (v := (6 : Int32)) hI o_v0 (by decide) (nu_free (by decide))
                          have f0 : FRI _ _ _ (sI S213 v0 0 (6 : Int32)) := fri_sI g0 f0 o_v0 (by decide)
                          have fL7 : FRI _ _ _ (sI S213 v0 0 (6 : Int32)) := fri_sI gL6 fL7 o_v0 (by decide)
                          have d_x254 : x254 = fI (sI S213 v0 0 (6 : Int32)) v0 6 := d_x254.trans (rd_j (by decide)).symm
                          have d_x264 : x264 = fI (sI S213 v0 0 (6 : Int32)) a176 2 := d_x264.trans (sI_ne o_v0 o_a176 (by decide) 2).symm
                          have d_x270 : x270 = fI (sI S213 v0 0 (6 : Int32)) a176 4 := d_x270.trans (sI_ne o_v0 o_a176 (by decide) 4).symm
                          obtain ⟨y272, hy272⟩ : ∃ z : Int32, z = (6 : Int32) := ⟨_, rfl⟩
                          have d_y272 : y272 = fI (sI S213 v0 0 (6 : Int32)) v0 0 := hy272.trans (u2_self _ _ _ _).symm
                          intro x273 ex273
                          have d_x273 := ex273
                          have hI := iv_sI (j := 1) (v := x273) hI o_v0 (by decide) (nu_free (by decide))
                          have f0 : FRI _ _ _ (sI (sI S213 v0 0 (6 : Int32)) v0 1 x273) := fri_sI g0 f0 o_v0 (by decide)
                          have fL7 : FRI _ _ _ (sI (sI S213 v0 0 (6 : Int32)) v0 1 x273) := fri_sI gL6 fL7 o_v0 (by decide)
                          have d_x254 : x254 = fI (sI (sI S213 v0 0 (6 : Int32)) v0 1 x273) v0 6 := d_x254.trans (rd_j (by decide)).symm
                          have d_x264 : x264 = fI (sI (sI S213 v0 0 (6 : Int32)) v0 1 x273) a176 2 := d_x264.trans (sI_ne o_v0 o_a176 (by decide) 2).symm
                          have d_x270 : x270 = fI (sI (sI S213 v0 0 (6 : Int32)) v0 1 x273) a176 4 := d_x270.trans (sI_ne o_v0 o_a176 (by decide) 4).symm
                          have d_y272 : y272 = fI (sI (sI S213 v0 0 (6 : Int32)) v0 1 x273) v0 0 := d_y272.trans (rd_j (by decide)).symm
                          have d_x273 : x273 = fI (sI (sI S213 v0 0 (6 : Int32)) v0 1 x273) v0 7 := d_x273.trans (rd_j (by decide)).symm
                          have d_x273 : x273 = fI (sI (sI S213 v0 0 (6 : Int32)) v0 1 x273) v0 1 := (u2_self _ _ _ _).symm
                          intro _ _
                          refine ⟨fun c274 => ?_, fun c274 => ?_⟩
                          · exact hq _ _ hI g0 f0 (Or.inl rfl)
                          · exact hq _ _ hI g0 f0 (Or.inr rfl)
          · obtain ⟨a275, ea275, o_a275, -⟩ := sh 12 rfl hI o_v0
            refine ⟨a275, ea275, ?_⟩
            refine ⟨o_a275, ?_⟩
            intro x276 ex276
            have r_x276 : (0 : Int32) ≤ x276 ∧ x276 ≤ (12 : Int32) := by rw [ex276]; exact nu 13 rfl hI o_a275
            have d_x276 := ex276
            refine m_X4_hasRoom hI o_v0 hT (fun x277 S278 hI g279 fc280 b_x277 p_x277 => ?_)
            obtain ⟨hT, p_x277⟩ := p_x277
            have l_v1 := (gr_len g279 o_v1).trans l_v1
            have d_x276 := d_x276.trans (fri_at fc280 (by decide) (by decide) o_a275).symm
            have ea275 := (frr_at fc280 (by decide) (by decide) o_v0).trans ea275
            have f0 := fri_tr g0 f0 fc280 (by decide) (by decide)
            have fL7 := fri_tr gL6 fL7 fc280 (by decide) (by decide)
            have o_a275 := gr_ob g279 o_a275
            have o_v0 := gr_ob g279 o_v0
            have o_v1 := gr_ob g279 o_v1
            have g0 := gr_tr g0 g279
            have gL6 := gr_tr gL6 g279
            intro _ _
            have bb_x277 : x277 = 0 ∨ x277 = 1 := b_x277
            refine ⟨fun c281 => ?_, fun c281 => ?_⟩
            · refine u_X4_read_153 ?_
              refine u_X4_read_154 ?_
              refine u_X4_read_248 ?_
              refine ⟨fun c282 => ?_, fun c282 => ?_⟩
              · refine u_X4_read_295 ?_
                refine ⟨fun c283 => ?_, fun c283 => ?_⟩
                · exact hq _ _ hI g0 f0 (Or.inl rfl)
                · refine ⟨o_v0, ?_⟩
                  refine m_X4_sign hI o_v0 hT (fun x284 S285 hI g286 fc287 b_x284 p_x284 => ?_)
                  obtain hT := p_x284
                  have l_v1 := (gr_len g286 o_v1).trans l_v1
                  have d_x276 := d_x276.trans (fri_at fc287 (by decide) (by decide) o_a275).symm
                  have ea275 := (frr_at fc287 (by decide) (by decide) o_v0).trans ea275
                  have f0 := fri_tr g0 f0 fc287 (by decide) (by decide)
                  have fL7 := fri_tr gL6 fL7 fc287 (by decide) (by decide)
                  have o_a275 := gr_ob g286 o_a275
                  have o_v0 := gr_ob g286 o_v0
                  have o_v1 := gr_ob g286 o_v1
                  have g0 := gr_tr g0 g286
                  have gL6 := gr_tr gL6 g286
                  intro _ _
                  have bb_x284 : x284 = 0 ∨ x284 = 1 := b_x284
                  refine ⟨fun c288 => ?_, fun c288 => ?_⟩
                  · intro x289 ex289
                    exact ih12 _ _ _ ⟨hI, gL6, fL7, rfl, hT, (q127 i1 c13 bb_x16 c20 bb_x21 c25 bb_x26 c30 bb_x31 c35 r_x276 p_x277 bb_x277 c281 c283 bb_x284 c288 ex289)⟩ (mu_up (q128 i1 c13 bb_x16 c20 bb_x21 c25 bb_x26 c30 bb_x31 c35 r_x276 p_x277 bb_x277 c281 c283 bb_x284 c288 ex289) (q129 i1 c13 bb_x16 c20 bb_x21 c25 bb_x26 c30 bb_x31 c35 r_x276 p_x277 bb_x277 c281 c283 bb_x284 c288 ex289))
                  · exact hq _ _ hI g0 f0 (Or.inl rfl)
              · refine ⟨o_v0, ?_⟩
                intro x290 ex290
                have d_x290 := ex290
                refine ⟨fun c291 => ?_, fun c291 => ?_⟩
                · refine u_X4_read_295 ?_
                  refine ⟨fun c292 => ?_, fun c292 => ?_⟩
                  · exact hq _ _ hI g0 f0 (Or.inl rfl)
                  · refine ⟨o_v0, ?_⟩
                    refine m_X4_sign hI o_v0 hT (fun x293 S294 hI g295 fc296 b_x293 p_x293 => ?_)
                    obtain hT := p_x293
                    have l_v1 := (gr_len g295 o_v1).trans l_v1
                    have d_x276 := d_x276.trans (fri_at fc296 (by decide) (by decide) o_a275).symm
                    have ea275 := (frr_at fc296 (by decide) (by decide) o_v0).trans ea275
                    have f0 := fri_tr g0 f0 fc296 (by decide) (by decide)
                    have fL7 := fri_tr gL6 fL7 fc296 (by decide) (by decide)
                    have o_a275 := gr_ob g295 o_a275
                    have o_v0 := gr_ob g295 o_v0
                    have o_v1 := gr_ob g295 o_v1
                    have g0 := gr_tr g0 g295
                    have gL6 := gr_tr gL6 g295
                    intro _ _
                    have bb_x293 : x293 = 0 ∨ x293 = 1 := b_x293
                    refine ⟨fun c297 => ?_, fun c297 => ?_⟩
                    · intro x298 ex298
                      exact ih12 _ _ _ ⟨hI, gL6, fL7, rfl, hT, (q130 i1 c13 bb_x16 c20 bb_x21 c25 bb_x26 c30 bb_x31 c35 r_x276 p_x277 bb_x277 c281 c282 c291 c292 bb_x293 c297 ex298)⟩ (mu_up (q131 i1 c13 bb_x16 c20 bb_x21 c25 bb_x26 c30 bb_x31 c35 r_x276 p_x277 bb_x277 c281 c282 c291 c292 bb_x293 c297 ex298) (q132 i1 c13 bb_x16 c20 bb_x21 c25 bb_x26 c30 bb_x31 c35 r_x276 p_x277 bb_x277 c281 c282 c291 c292 bb_x293 c297 ex298))
                    · exact hq _ _ hI g0 f0 (Or.inl rfl)
                · refine ⟨a275, ea275, ?_⟩
                  refine ⟨o_a275, ?_⟩
                  intro x300 ex300
                  have r_x300 : (0 : Int32) ≤ x300 ∧ x300 ≤ (8 : Int32) := by rw [ex300]; exact nu 12 rfl hI o_a275
                  have d_x300 := ex300
                  refine ⟨fun c301 => ?_, fun c301 => ?_⟩
                  · refine u_X4_read_280 ?_
                    refine ⟨o_v0, ?_⟩
                    refine u_X4_fail ?_
                    refine u_X4_fail_0 ?_
                    refine ⟨o_v0, ?_⟩
                    have hI := iv_sI (j := 0) (v := (6 : Int32)) hI o_v0 (by decide) (nu_free (by decide))
                    have f0 : FRI _ _ _ (sI S278 v0 0 (6 : Int32)) := fri_sI g0 f0 o_v0 (by decide)
                    have fL7 : FRI _ _ _ (sI S278 v0 0 (6 : Int32)) := fri_sI gL6 fL7 o_v0 (by decide)
                    have d_x276 : x276 = fI (sI S278 v0 0 (6 : Int32)) a275 3 := d_x276.trans (sI_ne o_v0 o_a275 (by decide) 3).symm
                    have d_x290 : x290 = fI (sI S278 v0 0 (6 : Int32)) v0 6 := d_x290.trans (rd_j (by decide)).symm
                    have d_x300 : x300 = fI (sI S278 v0 0 (6 : Int32)) a275 2 := d_x300.trans (sI_ne o_v0 o_a275 (by decide) 2).symm
                    obtain ⟨y302, hy302⟩ : ∃ z : Int32, z = (6 : Int32) := ⟨_, rfl⟩
                    have d_y302 : y302 = fI (sI S278 v0 0 (6 : Int32)) v0 0 := hy302.trans (u2_self _ _ _ _).symm
                    intro x303 ex303
                    have d_x303 := ex303
                    have hI := iv_sI (j := 1) (v := x303) hI o_v0 (by decide) (nu_free (by decide))
                    have f0 : FRI _ _ _ (sI (sI S278 v0 0 (6 : Int32)) v0 1 x303) := fri_sI g0 f0 o_v0 (by decide)
                    have fL7 : FRI _ _ _ (sI (sI S278 v0 0 (6 : Int32)) v0 1 x303) := fri_sI gL6 fL7 o_v0 (by decide)
                    have d_x276 : x276 = fI (sI (sI S278 v0 0 (6 : Int32)) v0 1 x303) a275 3 := d_x276.trans (sI_ne o_v0 o_a275 (by decide) 3).symm
                    have d_x290 : x290 = fI (sI (sI S278 v0 0 (6 : Int32)) v0 1 x303) v0 6 := d_x290.trans (rd_j (by decide)).symm
                    have d_x300 : x300 = fI (sI (sI S278 v0 0 (6 : Int32)) v0 1 x303) a275 2 := d_x300.trans (sI_ne o_v0 o_a275 (by decide) 2).symm
                    have d_y302 : y302 = fI (sI (sI S278 v0 0 (6 : Int32)) v0 1 x303) v0 0 := d_y302.trans (rd_j (by decide)).symm
                    have d_x303 : x303 = fI (sI (sI S278 v0 0 (6 : Int32)) v0 1 x303) v0 7 := d_x303.trans (rd_j (by decide)).symm
                    have d_x303 : x303 = fI (sI (sI S278 v0 0 (6 : Int32)) v0 1 x303) v0 1 := (u2_self _ _ _ _).symm
                    intro _ _
                    refine ⟨fun c304 => ?_, fun c304 => ?_⟩
                    · exact hq _ _ hI g0 f0 (Or.inl rfl)
                    · exact hq _ _ hI g0 f0 (Or.inr rfl)
                  · refine ⟨a275, ea275, ?_⟩
                    refine ⟨o_a275, ?_⟩
                    intro x306 ex306
                    have r_x306 : (0 : Int32) ≤ x306 ∧ x306 ≤ (4 : Int32) := by rw [ex306]; exact nu 14 rfl hI o_a275
                    have d_x306 := ex306
                    refine ⟨fun c307 => ?_, fun c307 => ?_⟩
                    · exact hq _ _ hI g0 f0 (Or.inr rfl)
                    · refine u_X4_read_280 ?_
                      refine ⟨o_v0, ?_⟩
                      refine u_X4_fail ?_
                      refine u_X4_fail_0 ?_
                      refine ⟨o_v0, ?_⟩
                      have hI := iv_sI (j := 0) (v := (6 : Int32)) hI o_v0 (by decide) (nu_free (by decide))
                      have f0 : FRI _ _ _ (sI S278 v0 0 (6 : Int32)) := fri_sI g0 f0 o_v0 (by decide)
                      have fL7 : FRI _ _ _ (sI S278 v0 0 (6 : Int32)) := fri_sI gL6 fL7 o_v0 (by decide)
                      have d_x276 : x276 = fI (sI S278 v0 0 (6 : Int32)) a275 3 := d_x276.trans (sI_ne o_v0 o_a275 (by decide) 3).symm
                      have d_x290 : x290 = fI (sI S278 v0 0 (6 : Int32)) v0 6 := d_x290.trans (rd_j (by decide)).symm
                      have d_x300 : x300 = fI (sI S278 v0 0 (6 : Int32)) a275 2 := d_x300.trans (sI_ne o_v0 o_a275 (by decide) 2).symm
                      have d_x306 : x306 = fI (sI S278 v0 0 (6 : Int32)) a275 4 := d_x306.trans (sI_ne o_v0 o_a275 (by decide) 4).symm
                      obtain ⟨y308, hy308⟩ : ∃ z : Int32, z = (6 : Int32) := ⟨_, rfl⟩
                      have d_y308 : y308 = fI (sI S278 v0 0 (6 : Int32)) v0 0 := hy308.trans (u2_self _ _ _ _).symm
                      intro x309 ex309
                      have d_x309 := ex309
                      have hI := iv_sI (j := 1) (v := x309) hI o_v0 (by decide) (nu_free (by decide))
                      have f0 : FRI _ _ _ (sI (sI S278 v0 0 (6 : Int32)) v0 1 x309) := fri_sI g0 f0 o_v0 (by decide)
                      have fL7 : FRI _ _ _ (sI (sI S278 v0 0 (6 : Int32)) v0 1 x309) := fri_sI gL6 fL7 o_v0 (by decide)
                      have d_x276 : x276 = fI (sI (sI S278 v0 0 (6 : Int32)) v0 1 x309) a275 3 := d_x276.trans (sI_ne o_v0 o_a275 (by decide) 3).symm
                      have d_x290 : x290 = fI (sI (sI S278 v0 0 (6 : Int32)) v0 1 x309) v0 6 := d_x290.trans (rd_j (by decide)).symm
                      have d_x300 : x300 = fI (sI (sI S278 v0 0 (6 : Int32)) v0 1 x309) a275 2 := d_x300.trans (sI_ne o_v0 o_a275 (by decide) 2).symm
                      have d_x306 : x306 = fI (sI (sI S278 v0 0 (6 : Int32)) v0 1 x309) a275 4 := d_x306.trans (sI_ne o_v0 o_a275 (by decide) 4).symm
                      have d_y308 : y308 = fI (sI (sI S278 v0 0 (6 : Int32)) v0 1 x309) v0 0 := d_y308.trans (rd_j (by decide)).symm
                      have d_x309 : x309 = fI (sI (sI S278 v0 0 (6 : Int32)) v0 1 x309) v0 7 := d_x309.trans (rd_j (by decide)).symm
                      have d_x309 : x309 = fI (sI (sI S278 v0 0 (6 : Int32)) v0 1 x309) v0 1 := (u2_self _ _ _ _).symm
                      intro _ _
                      refine ⟨fun c310 => ?_, fun c310 => ?_⟩
                      · exact hq _ _ hI g0 f0 (Or.inl rfl)
                      · exact hq _ _ hI g0 f0 (Or.inr rfl)
            · refine m_X4_roadLine hI o_v0 (fun z hz => by cases ea275.symm.trans hz; rw [← d_x276]; exact (q133 i1 c13 bb_x16 c20 bb_x21 c25 bb_x26 c30 bb_x31 c35 r_x276 p_x277 bb_x277 c281)) hT (fun x311 S312 hI g313 fc314 b_x311 p_x311 => ?_)
              obtain hT := p_x311
              have l_v1 := (gr_len g313 o_v1).trans l_v1
              have ea275 := (frr_at fc314 (by decide) (by decide) o_v0).trans ea275
              have f0 := fri_tr g0 f0 fc314 (by decide) (by decide)
              have fL7 := fri_tr gL6 fL7 fc314 (by decide) (by decide)
              have o_a275 := gr_ob g313 o_a275
              have o_v0 := gr_ob g313 o_v0
              have o_v1 := gr_ob g313 o_v1
              have g0 := gr_tr g0 g313
              have gL6 := gr_tr gL6 g313
              intro _ _
              have bb_x311 : x311 = 0 ∨ x311 = 1 := b_x311
              refine ⟨fun c315 => ?_, fun c315 => ?_⟩
              · refine u_X4_read_153 ?_
                refine u_X4_read_154 ?_
                refine u_X4_read_248 ?_
                refine ⟨fun c316 => ?_, fun c316 => ?_⟩
                · refine u_X4_read_295 ?_
                  refine ⟨fun c317 => ?_, fun c317 => ?_⟩
                  · exact hq _ _ hI g0 f0 (Or.inl rfl)
                  · refine ⟨o_v0, ?_⟩
                    refine m_X4_sign hI o_v0 hT (fun x318 S319 hI g320 fc321 b_x318 p_x318 => ?_)
                    obtain hT := p_x318
                    have l_v1 := (gr_len g320 o_v1).trans l_v1
                    have ea275 := (frr_at fc321 (by decide) (by decide) o_v0).trans ea275
                    have f0 := fri_tr g0 f0 fc321 (by decide) (by decide)
                    have fL7 := fri_tr gL6 fL7 fc321 (by decide) (by decide)
                    have o_a275 := gr_ob g320 o_a275
                    have o_v0 := gr_ob g320 o_v0
                    have o_v1 := gr_ob g320 o_v1
                    have g0 := gr_tr g0 g320
                    have gL6 := gr_tr gL6 g320
                    intro _ _
                    have bb_x318 : x318 = 0 ∨ x318 = 1 := b_x318
                    refine ⟨fun c322 => ?_, fun c322 => ?_⟩
                    · intro x323 ex323
                      exact ih12 _ _ _ ⟨hI, gL6, fL7, rfl, hT, (q134 i1 c13 bb_x16 c20 bb_x21 c25 bb_x26 c30 bb_x31 c35 r_x276 p_x277 bb_x277 c281 bb_x311 c315 c317 bb_x318 c322 ex323)⟩ (mu_up (q135 i1 c13 bb_x16 c20 bb_x21 c25 bb_x26 c30 bb_x31 c35 r_x276 p_x277 bb_x277 c281 bb_x311 c315 c317 bb_x318 c322 ex323) (q136 i1 c13 bb_x16 c20 bb_x21 c25 bb_x26 c30 bb_x31 c35 r_x276 p_x277 bb_x277 c281 bb_x311 c315 c317 bb_x318 c322 ex323))
                    · exact hq _ _ hI g0 f0 (Or.inl rfl)
                · refine ⟨o_v0, ?_⟩
                  intro x324 ex324
                  have d_x324 := ex324
                  refine ⟨fun c325 => ?_, fun c325 => ?_⟩
                  · refine u_X4_read_295 ?_
                    refine ⟨fun c326 => ?_, fun c326 => ?_⟩
                    · exact hq _ _ hI g0 f0 (Or.inl rfl)
                    · refine ⟨o_v0, ?_⟩
                      refine m_X4_sign hI o_v0 hT (fun x327 S328 hI g329 fc330 b_x327 p_x327 => ?_)
                      obtain hT := p_x327
                      have l_v1 := (gr_len g329 o_v1).trans l_v1
                      have ea275 := (frr_at fc330 (by decide) (by decide) o_v0).trans ea275
                      have f0 := fri_tr g0 f0 fc330 (by decide) (by decide)
                      have fL7 := fri_tr gL6 fL7 fc330 (by decide) (by decide)
                      have o_a275 := gr_ob g329 o_a275
                      have o_v0 := gr_ob g329 o_v0
                      have o_v1 := gr_ob g329 o_v1
                      have g0 := gr_tr g0 g329
                      have gL6 := gr_tr gL6 g329
                      intro _ _
                      have bb_x327 : x327 = 0 ∨ x327 = 1 := b_x327
                      refine ⟨fun c331 => ?_, fun c331 => ?_⟩
                      · intro x332 ex332
                        exact ih12 _ _ _ ⟨hI, gL6, fL7, rfl, hT, (q137 i1 c13 bb_x16 c20 bb_x21 c25 bb_x26 c30 bb_x31 c35 r_x276 p_x277 bb_x277 c281 bb_x311 c315 c316 c325 c326 bb_x327 c331 ex332)⟩ (mu_up (q138 i1 c13 bb_x16 c20 bb_x21 c25 bb_x26 c30 bb_x31 c35 r_x276 p_x277 bb_x277 c281 bb_x311 c315 c316 c325 c326 bb_x327 c331 ex332) (q139 i1 c13 bb_x16 c20 bb_x21 c25 bb_x26 c30 bb_x31 c35 r_x276 p_x277 bb_x277 c281 bb_x311 c315 c316 c325 c326 bb_x327 c331 ex332))
                      · exact hq _ _ hI g0 f0 (Or.inl rfl)
                  · refine ⟨a275, ea275, ?_⟩
                    refine ⟨o_a275, ?_⟩
                    intro x334 ex334
                    have r_x334 : (0 : Int32) ≤ x334 ∧ x334 ≤ (8 : Int32) := by rw [ex334]; exact nu 12 rfl hI o_a275
                    have d_x334 := ex334
                    refine ⟨fun c335 => ?_, fun c335 => ?_⟩
                    · refine u_X4_read_280 ?_
                      refine ⟨o_v0, ?_⟩
                      refine u_X4_fail ?_
                      refine u_X4_fail_0 ?_
                      refine ⟨o_v0, ?_⟩
                      have hI := iv_sI (j := 0) (v := (6 : Int32)) hI o_v0 (by decide) (nu_free (by decide))
                      have f0 : FRI _ _ _ (sI S312 v0 0 (6 : Int32)) := fri_sI g0 f0 o_v0 (by decide)
                      have fL7 : FRI _ _ _ (sI S312 v0 0 (6 : Int32)) := fri_sI gL6 fL7 o_v0 (by decide)
                      have d_x324 : x324 = fI (sI S312 v0 0 (6 : Int32)) v0 6 := d_x324.trans (rd_j (by decide)).symm
                      have d_x334 : x334 = fI (sI S312 v0 0 (6 : Int32)) a275 2 := d_x334.trans (sI_ne o_v0 o_a275 (by decide) 2).symm
                      obtain ⟨y336, hy336⟩ : ∃ z : Int32, z = (6 : Int32) := ⟨_, rfl⟩
                      have d_y336 : y336 = fI (sI S312 v0 0 (6 : Int32)) v0 0 := hy336.trans (u2_self _ _ _ _).symm
                      intro x337 ex337
                      have d_x337 := ex337
                      have hI := iv_sI (j := 1) (v := x337) hI o_v0 (by decide) (nu_free (by decide))
                      have f0 : FRI _ _ _ (sI (sI S312 v0 0 (6 : Int32)) v0 1 x337) := fri_sI g0 f0 o_v0 (by decide)
                      have fL7 : FRI _ _ _ (sI (sI S312 v0 0 (6 : Int32)) v0 1 x337) := fri_sI gL6 fL7 o_v0 (by decide)
                      have d_x324 : x324 = fI (sI (sI S312 v0 0 (6 : Int32)) v0 1 x337) v0 6 := d_x324.trans (rd_j (by decide)).symm
                      have d_x334 : x334 = fI (sI (sI S312 v0 0 (6 : Int32)) v0 1 x337) a275 2 := d_x334.trans (sI_ne o_v0 o_a275 (by decide) 2).symm
                      have d_y336 : y336 = fI (sI (sI S312 v0 0 (6 : Int32)) v0 1 x337) v0 0 := d_y336.trans (rd_j (by decide)).symm
                      have d_x337 : x337 = fI (sI (sI S312 v0 0 (6 : Int32)) v0 1 x337) v0 7 := d_x337.trans (rd_j (by decide)).symm
                      have d_x337 : x337 = fI (sI (sI S312 v0 0 (6 : Int32)) v0 1 x337) v0 1 := (u2_self _ _ _ _).symm
                      intro _ _
                      refine ⟨fun c338 => ?_, fun c338 => ?_⟩
                      · exact hq _ _ hI g0 f0 (Or.inl rfl)
                      · exact hq _ _ hI g0 f0 (Or.inr rfl)
                    · refine ⟨a275, ea275, ?_⟩
                      refine ⟨o_a275, ?_⟩
                      intro x340 ex340
                      have r_x340 : (0 : Int32) ≤ x340 ∧ x340 ≤ (4 : Int32) := by rw [ex340]; exact nu 14 rfl hI o_a275
                      have d_x340 := ex340
                      refine ⟨fun c341 => ?_, fun c341 => ?_⟩
                      · exact hq _ _ hI g0 f0 (Or.inr rfl)
                      · refine u_X4_read_280 ?_
                        refine ⟨o_v0, ?_⟩
                        refine u_X4_fail ?_
                        refine u_X4_fail_0 ?_
                        refine ⟨o_v0, ?_⟩
                        have hI := iv_sI (j := 0) (v := (6 : Int32)) hI o_v0 (by decide) (nu_free (by decide))
                        have f0 : FRI _ _ _ (sI S312 v0 0 (6 : Int32)) := fri_sI g0 f0 o_v0 (by decide)
                        have fL7 : FRI _ _ _ (sI S312 v0 0 (6 : Int32)) := fri_sI gL6 fL7 o_v0 (by decide)
                        have d_x324 : x324 = fI (sI S312 v0 0 (6 : Int32)) v0 6 := d_x324.trans (rd_j (by decide)).symm
                        have d_x334 : x334 = fI (sI S312 v0 0 (6 : Int32)) a275 2 := d_x334.trans (sI_ne o_v0 o_a275 (by decide) 2).symm
                        have d_x340 : x340 = fI (sI S312 v0 0 (6 : Int32)) a275 4 := d_x340.trans (sI_ne o_v0 o_a275 (by decide) 4).symm
                        obtain ⟨y342, hy342⟩ : ∃ z : Int32, z = (6 : Int32) := ⟨_, rfl⟩
                        have d_y342 : y342 = fI (sI S312 v0 0 (6 : Int32)) v0 0 := hy342.trans (u2_self _ _ _ _).symm
                        intro x343 ex343
                        have d_x343 := ex343
                        have hI := iv_sI (j := 1) (v := x343) hI o_v0 (by decide) (nu_free (by decide))
                        have f0 : FRI _ _ _ (sI (sI S312 v0 0 (6 : Int32)) v0 1 x343) := fri_sI g0 f0 o_v0 (by decide)
                        have fL7 : FRI _ _ _ (sI (sI S312 v0 0 (6 : Int32)) v0 1 x343) := fri_sI gL6 fL7 o_v0 (by decide)
                        have d_x324 : x324 = fI (sI (sI S312 v0 0 (6 : Int32)) v0 1 x343) v0 6 := d_x324.trans (rd_j (by decide)).symm
                        have d_x334 : x334 = fI (sI (sI S312 v0 0 (6 : Int32)) v0 1 x343) a275 2 := d_x334.trans (sI_ne o_v0 o_a275 (by decide) 2).symm
                        have d_x340 : x340 = fI (sI (sI S312 v0 0 (6 : Int32)) v0 1 x343) a275 4 := d_x340.trans (sI_ne o_v0 o_a275 (by decide) 4).symm
                        have d_y342 : y342 = fI (sI (sI S312 v0 0 (6 : Int32)) v0 1 x343) v0 0 := d_y342.trans (rd_j (by decide)).symm
                        have d_x343 : x343 = fI (sI (sI S312 v0 0 (6 : Int32)) v0 1 x343) v0 7 := d_x343.trans (rd_j (by decide)).symm
                        have d_x343 : x343 = fI (sI (sI S312 v0 0 (6 : Int32)) v0 1 x343) v0 1 := (u2_self _ _ _ _).symm
                        intro _ _
                        refine ⟨fun c344 => ?_, fun c344 => ?_⟩
                        · exact hq _ _ hI g0 f0 (Or.inl rfl)
                        · exact hq _ _ hI g0 f0 (Or.inr rfl)
              · refine u_X4_read_154 ?_
                refine u_X4_read_248 ?_
                refine ⟨fun c345 => ?_, fun c345 => ?_⟩
                · refine u_X4_read_295 ?_
                  refine ⟨fun c346 => ?_, fun c346 => ?_⟩
                  · exact hq _ _ hI g0 f0 (Or.inl rfl)
                  · refine ⟨o_v0, ?_⟩
                    refine m_X4_sign hI o_v0 hT (fun x347 S348 hI g349 fc350 b_x347 p_x347 => ?_)
                    obtain hT := p_x347
                    have l_v1 := (gr_len g349 o_v1).trans l_v1
                    have ea275 := (frr_at fc350 (by decide) (by decide) o_v0).trans ea275
                    have f0 := fri_tr g0 f0 fc350 (by decide) (by decide)
                    have fL7 := fri_tr gL6 fL7 fc350 (by decide) (by decide)
                    have o_a275 := gr_ob g349 o_a275
                    have o_v0 := gr_ob g349 o_v0
                    have o_v1 := gr_ob g349 o_v1
                    have g0 := gr_tr g0 g349
                    have gL6 := gr_tr gL6 g349
                    intro _ _
                    have bb_x347 : x347 = 0 ∨ x347 = 1 := b_x347
                    refine ⟨fun c351 => ?_, fun c351 => ?_⟩
                    · intro x352 ex352
                      exact ih12 _ _ _ ⟨hI, gL6, fL7, rfl, hT, (q140 i1 c13 bb_x16 c20 bb_x21 c25 bb_x26 c30 bb_x31 c35 r_x276 p_x277 bb_x277 c281 bb_x311 c315 c345 bb_x347 c351 ex352)⟩ (mu_up (q141 i1 c13 bb_x16 c20 bb_x21 c25 bb_x26 c30 bb_x31 c35 r_x276 p_x277 bb_x277 c281 bb_x311 c315 c345 bb_x347 c351 ex352) (q142 i1 c13 bb_x16 c20 bb_x21 c25 bb_x26 c30 bb_x31 c35 r_x276 p_x277 bb_x277 c281 bb_x311 c315 c345 bb_x347 c351 ex352))
                    · exact hq _ _ hI g0 f0 (Or.inl rfl)
                · refine ⟨o_v0, ?_⟩
                  intro x353 ex353
                  have d_x353 := ex353
                  refine ⟨fun c354 => ?_, fun c354 => ?_⟩
                  · refine u_X4_read_295 ?_
                    refine ⟨fun c355 => ?_, fun c355 => ?_⟩
                    · exact hq _ _ hI g0 f0 (Or.inl rfl)
                    · refine ⟨o_v0, ?_⟩
                      refine m_X4_sign hI o_v0 hT (fun x356 S357 hI g358 fc359 b_x356 p_x356 => ?_)
                      obtain hT := p_x356
                      have l_v1 := (gr_len g358 o_v1).trans l_v1
                      have ea275 := (frr_at fc359 (by decide) (by decide) o_v0).trans ea275
                      have f0 := fri_tr g0 f0 fc359 (by decide) (by decide)
                      have fL7 := fri_tr gL6 fL7 fc359 (by decide) (by decide)
                      have o_a275 := gr_ob g358 o_a275
                      have o_v0 := gr_ob g358 o_v0
                      have o_v1 := gr_ob g358 o_v1
                      have g0 := gr_tr g0 g358
                      have gL6 := gr_tr gL6 g358
                      intro _ _
                      have bb_x356 : x356 = 0 ∨ x356 = 1 := b_x356
                      refine ⟨fun c360 => ?_, fun c360 => ?_⟩
                      · intro x361 ex361
                        exact ih12 _ _ _ ⟨hI, gL6, fL7, rfl, hT, (q143 i1 c13 bb_x16 c20 bb_x21 c25 bb_x26 c30 bb_x31 c35 r_x276 p_x277 bb_x277 c281 bb_x311 c315 c354 bb_x356 c360 ex361)⟩ (mu_up (q144 i1 c13 bb_x16 c20 bb_x21 c25 bb_x26 c30 bb_x31 c35 r_x276 p_x277 bb_x277 c281 bb_x311 c315 c354 bb_x356 c360 ex361) (q145 i1 c13 bb_x16 c20 bb_x21 c25 bb_x26 c30 bb_x31 c35 r_x276 p_x277 bb_x277 c281 bb_x311 c315 c354 bb_x356 c360 ex361))
                      · exact hq _ _ hI g0 f0 (Or.inl rfl)
                  · refine ⟨a275, ea275, ?_⟩
                    refine ⟨o_a275, ?_⟩
                    intro x363 ex363
                    have r_x363 : (0 : Int32) ≤ x363 ∧ x363 ≤ (8 : Int32) := by rw [ex363]; exact nu 12 rfl hI o_a275
                    have d_x363 := ex363
                    refine ⟨fun c364 => ?_, fun c364 => ?_⟩
                    · refine u_X4_read_280 ?_
                      refine ⟨o_v0, ?_⟩
                      refine u_X4_fail ?_
                      refine u_X4_fail_0 ?_
                      refine ⟨o_v0, ?_⟩
                      have hI := iv_sI (j := 0) (v := (6 : Int32)) hI o_v0 (by decide) (nu_free (by decide))
                      have f0 : FRI _ _ _ (sI S312 v0 0 (6 : Int32)) := fri_sI g0 f0 o_v0 (by decide)
                      have fL7 : FRI _ _ _ (sI S312 v0 0 (6 : Int32)) := fri_sI gL6 fL7 o_v0 (by decide)
                      have d_x353 : x353 = fI (sI S312 v0 0 (6 : Int32)) v0 6 := d_x353.trans (rd_j (by decide)).symm
                      have d_x363 : x363 = fI (sI S312 v0 0 (6 : Int32)) a275 2 := d_x363.trans (sI_ne o_v0 o_a275 (by decide) 2).symm
                      obtain ⟨y365, hy365⟩ : ∃ z : Int32, z = (6 : Int32) := ⟨_, rfl⟩
                      have d_y365 : y365 = fI (sI S312 v0 0 (6 : Int32)) v0 0 := hy365.trans (u2_self _ _ _ _).symm
                      intro x366 ex366
                      have d_x366 := ex366
                      have hI := iv_sI (j := 1) (v := x366) hI o_v0 (by decide) (nu_free (by decide))
                      have f0 : FRI _ _ _ (sI (sI S312 v0 0 (6 : Int32)) v0 1 x366) := fri_sI g0 f0 o_v0 (by decide)
                      have fL7 : FRI _ _ _ (sI (sI S312 v0 0 (6 : Int32)) v0 1 x366) := fri_sI gL6 fL7 o_v0 (by decide)
                      have d_x353 : x353 = fI (sI (sI S312 v0 0 (6 : Int32)) v0 1 x366) v0 6 := d_x353.trans (rd_j (by decide)).symm
                      have d_x363 : x363 = fI (sI (sI S312 v0 0 (6 : Int32)) v0 1 x366) a275 2 := d_x363.trans (sI_ne o_v0 o_a275 (by decide) 2).symm
                      have d_y365 : y365 = fI (sI (sI S312 v0 0 (6 : Int32)) v0 1 x366) v0 0 := d_y365.trans (rd_j (by decide)).symm
                      have d_x366 : x366 = fI (sI (sI S312 v0 0 (6 : Int32)) v0 1 x366) v0 7 := d_x366.trans (rd_j (by decide)).symm
                      have d_x366 : x366 = fI (sI (sI S312 v0 0 (6 : Int32)) v0 1 x366) v0 1 := (u2_self _ _ _ _).symm
                      intro _ _
                      refine ⟨fun c367 => ?_, fun c367 => ?_⟩
                      · exact hq _ _ hI g0 f0 (Or.inl rfl)
                      · exact hq _ _ hI g0 f0 (Or.inr rfl)
                    · refine ⟨a275, ea275, ?_⟩
                      refine ⟨o_a275, ?_⟩
                      intro x369 ex369
                      have r_x369 : (0 : Int32) ≤ x369 ∧ x369 ≤ (4 : Int32) := by rw [ex369]; exact nu 14 rfl hI o_a275
                      have d_x369 := ex369
                      refine ⟨fun c370 => ?_, fun c370 => ?_⟩
                      · exact hq _ _ hI g0 f0 (Or.inr rfl)
                      · refine u_X4_read_280 ?_
                        refine ⟨o_v0, ?_⟩
                        refine u_X4_fail ?_
                        refine u_X4_fail_0 ?_
                        refine ⟨o_v0, ?_⟩
                        have hI := iv_sI (j := 0) (v := (6 : Int32)) hI o_v0 (by decide) (nu_free (by decide))
                        have f0 : FRI _ _ _ (sI S312 v0 0 (6 : Int32)) := fri_sI g0 f0 o_v0 (by decide)
                        have fL7 : FRI _ _ _ (sI S312 v0 0 (6 : Int32)) := fri_sI gL6 fL7 o_v0 (by decide)
                        have d_x353 : x353 = fI (sI S312 v0 0 (6 : Int32)) v0 6 := d_x353.trans (rd_j (by decide)).symm
                        have d_x363 : x363 = fI (sI S312 v0 0 (6 : Int32)) a275 2 := d_x363.trans (sI_ne o_v0 o_a275 (by decide) 2).symm
                        have d_x369 : x369 = fI (sI S312 v0 0 (6 : Int32)) a275 4 := d_x369.trans (sI_ne o_v0 o_a275 (by decide) 4).symm
                        obtain ⟨y371, hy371⟩ : ∃ z : Int32, z = (6 : Int32) := ⟨_, rfl⟩
                        have d_y371 : y371 = fI (sI S312 v0 0 (6 : Int32)) v0 0 := hy371.trans (u2_self _ _ _ _).symm
                        intro x372 ex372
                        have d_x372 := ex372
                        have hI := iv_sI (j := 1) (v := x372) hI o_v0 (by decide) (nu_free (by decide))
                        have f0 : FRI _ _ _ (sI (sI S312 v0 0 (6 : Int32)) v0 1 x372) := fri_sI g0 f0 o_v0 (by decide)
                        have fL7 : FRI _ _ _ (sI (sI S312 v0 0 (6 : Int32)) v0 1 x372) := fri_sI gL6 fL7 o_v0 (by decide)
                        have d_x353 : x353 = fI (sI (sI S312 v0 0 (6 : Int32)) v0 1 x372) v0 6 := d_x353.trans (rd_j (by decide)).symm
                        have d_x363 : x363 = fI (sI (sI S312 v0 0 (6 : Int32)) v0 1 x372) a275 2 := d_x363.trans (sI_ne o_v0 o_a275 (by decide) 2).symm
                        have d_x369 : x369 = fI (sI (sI S312 v0 0 (6 : Int32)) v0 1 x372) a275 4 := d_x369.trans (sI_ne o_v0 o_a275 (by decide) 4).symm
                        have d_y371 : y371 = fI (sI (sI S312 v0 0 (6 : Int32)) v0 1 x372) v0 0 := d_y371.trans (rd_j (by decide)).symm
                        have d_x372 : x372 = fI (sI (sI S312 v0 0 (6 : Int32)) v0 1 x372) v0 7 := d_x372.trans (rd_j (by decide)).symm
                        have d_x372 : x372 = fI (sI (sI S312 v0 0 (6 : Int32)) v0 1 x372) v0 1 := (u2_self _ _ _ _).symm
                        intro _ _
                        refine ⟨fun c373 => ?_, fun c373 => ?_⟩
                        · exact hq _ _ hI g0 f0 (Or.inl rfl)
                        · exact hq _ _ hI g0 f0 (Or.inr rfl)
        · obtain ⟨a374, ea374, o_a374, -⟩ := sh 12 rfl hI o_v0
          refine ⟨a374, ea374, ?_⟩
          refine ⟨o_a374, ?_⟩
          intro x375 ex375
          have r_x375 : (0 : Int32) ≤ x375 ∧ x375 ≤ (8 : Int32) := by rw [ex375]; exact nu 12 rfl hI o_a374
          have d_x375 := ex375
          refine m_X4_hasRoom hI o_v0 hT (fun x376 S377 hI g378 fc379 b_x376 p_x376 => ?_)
          obtain ⟨hT, p_x376⟩ := p_x376
          have l_v1 := (gr_len g378 o_v1).trans l_v1
          have d_x375 := d_x375.trans (fri_at fc379 (by decide) (by decide) o_a374).symm
          have ea374 := (frr_at fc379 (by decide) (by decide) o_v0).trans ea374
          have f0 := fri_tr g0 f0 fc379 (by decide) (by decide)
          have fL7 := fri_tr gL6 fL7 fc379 (by decide) (by decide)
          have o_a374 := gr_ob g378 o_a374
          have o_v0 := gr_ob g378 o_v0
          have o_v1 := gr_ob g378 o_v1
          have g0 := gr_tr g0 g378
          have gL6 := gr_tr gL6 g378
          intro _ _
          have bb_x376 : x376 = 0 ∨ x376 = 1 := b_x376
          refine ⟨fun c380 => ?_, fun c380 => ?_⟩
          · refine u_X4_read_111 ?_
            refine u_X4_read_112 ?_
            refine u_X4_read_248 ?_
            refine ⟨fun c381 => ?_, fun c381 => ?_⟩
            · refine u_X4_read_295 ?_
              refine ⟨fun c382 => ?_, fun c382 => ?_⟩
              · exact hq _ _ hI g0 f0 (Or.inl rfl)
              · refine ⟨o_v0, ?_⟩
                refine m_X4_sign hI o_v0 hT (fun x383 S384 hI g385 fc386 b_x383 p_x383 => ?_)
                obtain hT := p_x383
                have l_v1 := (gr_len g385 o_v1).trans l_v1
                have d_x375 := d_x375.trans (fri_at fc386 (by decide) (by decide) o_a374).symm
                have ea374 := (frr_at fc386 (by decide) (by decide) o_v0).trans ea374
                have f0 := fri_tr g0 f0 fc386 (by decide) (by decide)
                have fL7 := fri_tr gL6 fL7 fc386 (by decide) (by decide)
                have o_a374 := gr_ob g385 o_a374
                have o_v0 := gr_ob g385 o_v0
                have o_v1 := gr_ob g385 o_v1
                have g0 := gr_tr g0 g385
                have gL6 := gr_tr gL6 g385
                intro _ _
                have bb_x383 : x383 = 0 ∨ x383 = 1 := b_x383
                refine ⟨fun c387 => ?_, fun c387 => ?_⟩
                · intro x388 ex388
                  exact ih12 _ _ _ ⟨hI, gL6, fL7, rfl, hT, (q146 i1 c13 bb_x16 c20 bb_x21 c25 bb_x26 c30 r_x375 p_x376 bb_x376 c380 c382 bb_x383 c387 ex388)⟩ (mu_up (q147 i1 c13 bb_x16 c20 bb_x21 c25 bb_x26 c30 r_x375 p_x376 bb_x376 c380 c382 bb_x383 c387 ex388) (q148 i1 c13 bb_x16 c20 bb_x21 c25 bb_x26 c30 r_x375 p_x376 bb_x376 c380 c382 bb_x383 c387 ex388))
                · exact hq _ _ hI g0 f0 (Or.inl rfl)
            · refine ⟨o_v0, ?_⟩
              intro x389 ex389
              have d_x389 := ex389
              refine ⟨fun c390 => ?_, fun c390 => ?_⟩
              · refine u_X4_read_295 ?_
                refine ⟨fun c391 => ?_, fun c391 => ?_⟩
                · exact hq _ _ hI g0 f0 (Or.inl rfl)
                · refine ⟨o_v0, ?_⟩
                  refine m_X4_sign hI o_v0 hT (fun x392 S393 hI g394 fc395 b_x392 p_x392 => ?_)
                  obtain hT := p_x392
                  have l_v1 := (gr_len g394 o_v1).trans l_v1
                  have d_x375 := d_x375.trans (fri_at fc395 (by decide) (by decide) o_a374).symm
                  have ea374 := (frr_at fc395 (by decide) (by decide) o_v0).trans ea374
                  have f0 := fri_tr g0 f0 fc395 (by decide) (by decide)
                  have fL7 := fri_tr gL6 fL7 fc395 (by decide) (by decide)
                  have o_a374 := gr_ob g394 o_a374
                  have o_v0 := gr_ob g394 o_v0
                  have o_v1 := gr_ob g394 o_v1
                  have g0 := gr_tr g0 g394
                  have gL6 := gr_tr gL6 g394
                  intro _ _
                  have bb_x392 : x392 = 0 ∨ x392 = 1 := b_x392
                  refine ⟨fun c396 => ?_, fun c396 => ?_⟩
                  · intro x397 ex397
                    exact ih12 _ _ _ ⟨hI, gL6, fL7, rfl, hT, (q149 i1 c13 bb_x16 c20 bb_x21 c25 bb_x26 c30 r_x375 p_x376 bb_x376 c380 c381 c390 c391 bb_x392 c396 ex397)⟩ (mu_up (q150 i1 c13 bb_x16 c20 bb_x21 c25 bb_x26 c30 r_x375 p_x376 bb_x376 c380 c381 c390 c391 bb_x392 c396 ex397) (q151 i1 c13 bb_x16 c20 bb_x21 c25 bb_x26 c30 r_x375 p_x376 bb_x376 c380 c381 c390 c391 bb_x392 c396 ex397))
                  · exact hq _ _ hI g0 f0 (Or.inl rfl)
              · refine ⟨a374, ea374, ?_⟩
                refine ⟨o_a374, ?_⟩
                intro x399 ex399
                have r_x399 : (0 : Int32) ≤ x399 ∧ x399 ≤ (8 : Int32) := by rw [ex399]; exact nu 12 rfl hI o_a374
                have q_x399 : x399 = x375 := ex399.trans d_x375.symm
                have d_x399 := ex399
                refine ⟨fun c400 => ?_, fun c400 => ?_⟩
                · refine u_X4_read_280 ?_
                  refine ⟨o_v0, ?_⟩
                  refine u_X4_fail ?_
                  refine u_X4_fail_0 ?_
                  refine ⟨o_v0, ?_⟩
                  have hI := iv_sI (j := 0) (v := (6 : Int32)) hI o_v0 (by decide) (nu_free (by decide))
                  have f0 : FRI _ _ _ (sI S377 v0 0 (6 : Int32)) := fri_sI g0 f0 o_v0 (by decide)
                  have fL7 : FRI _ _ _ (sI S377 v0 0 (6 : Int32)) := fri_sI gL6 fL7 o_v0 (by decide)
                  have d_x399 : x399 = fI (sI S377 v0 0 (6 : Int32)) a374 2 := d_x399.trans (sI_ne o_v0 o_a374 (by decide) 2).symm
                  have d_x389 : x389 = fI (sI S377 v0 0 (6 : Int32)) v0 6 := d_x389.trans (rd_j (by decide)).symm
                  obtain ⟨y401, hy401⟩ : ∃ z : Int32, z = (6 : Int32) := ⟨_, rfl⟩
                  have d_y401 : y401 = fI (sI S377 v0 0 (6 : Int32)) v0 0 := hy401.trans (u2_self _ _ _ _).symm
                  intro x402 ex402
                  have d_x402 := ex402
                  have hI := iv_sI (j := 1) (v := x402) hI o_v0 (by decide) (nu_free (by decide))
                  have f0 : FRI _ _ _ (sI (sI S377 v0 0 (6 : Int32)) v0 1 x402) := fri_sI g0 f0 o_v0 (by decide)
                  have fL7 : FRI _ _ _ (sI (sI S377 v0 0 (6 : Int32)) v0 1 x402) := fri_sI gL6 fL7 o_v0 (by decide)
                  have d_x399 : x399 = fI (sI (sI S377 v0 0 (6 : Int32)) v0 1 x402) a374 2 := d_x399.trans (sI_ne o_v0 o_a374 (by decide) 2).symm
                  have d_x389 : x389 = fI (sI (sI S377 v0 0 (6 : Int32)) v0 1 x402) v0 6 := d_x389.trans (rd_j (by decide)).symm
                  have d_y401 : y401 = fI (sI (sI S377 v0 0 (6 : Int32)) v0 1 x402) v0 0 := d_y401.trans (rd_j (by decide)).symm
                  have d_x402 : x402 = fI (sI (sI S377 v0 0 (6 : Int32)) v0 1 x402) v0 7 := d_x402.trans (rd_j (by decide)).symm
                  have d_x402 : x402 = fI (sI (sI S377 v0 0 (6 : Int32)) v0 1 x402) v0 1 := (u2_self _ _ _ _).symm
                  intro _ _
                  refine ⟨fun c403 => ?_, fun c403 => ?_⟩
                  · exact hq _ _ hI g0 f0 (Or.inl rfl)
                  · exact hq _ _ hI g0 f0 (Or.inr rfl)
                · refine ⟨a374, ea374, ?_⟩
                  refine ⟨o_a374, ?_⟩
                  intro x405 ex405
                  have r_x405 : (0 : Int32) ≤ x405 ∧ x405 ≤ (4 : Int32) := by rw [ex405]; exact nu 14 rfl hI o_a374
                  have d_x405 := ex405
                  refine ⟨fun c406 => ?_, fun c406 => ?_⟩
                  · exact hq _ _ hI g0 f0 (Or.inr rfl)
                  · refine u_X4_read_280 ?_
                    refine ⟨o_v0, ?_⟩
                    refine u_X4_fail ?_
                    refine u_X4_fail_0 ?_
                    refine ⟨o_v0, ?_⟩
                    have hI := iv_sI (j := 0) (v := (6 : Int32)) hI o_v0 (by decide) (nu_free (by decide))
                    have f0 : FRI _ _ _ (sI S377 v0 0 (6 : Int32)) := fri_sI g0 f0 o_v0 (by decide)
                    have fL7 : FRI _ _ _ (sI S377 v0 0 (6 : Int32)) := fri_sI gL6 fL7 o_v0 (by decide)
                    have d_x399 : x399 = fI (sI S377 v0 0 (6 : Int32)) a374 2 := d_x399.trans (sI_ne o_v0 o_a374 (by decide) 2).symm
                    have d_x389 : x389 = fI (sI S377 v0 0 (6 : Int32)) v0 6 := d_x389.trans (rd_j (by decide)).symm
                    have d_x405 : x405 = fI (sI S377 v0 0 (6 : Int32)) a374 4 := d_x405.trans (sI_ne o_v0 o_a374 (by decide) 4).symm
                    obtain ⟨y407, hy407⟩ : ∃ z : Int32, z = (6 : Int32) := ⟨_, rfl⟩
                    have d_y407 : y407 = fI (sI S377 v0 0 (6 : Int32)) v0 0 := hy407.trans (u2_self _ _ _ _).symm
                    intro x408 ex408
                    have d_x408 := ex408
                    have hI := iv_sI (j := 1) (v := x408) hI o_v0 (by decide) (nu_free (by decide))
                    have f0 : FRI _ _ _ (sI (sI S377 v0 0 (6 : Int32)) v0 1 x408) := fri_sI g0 f0 o_v0 (by decide)
                    have fL7 : FRI _ _ _ (sI (sI S377 v0 0 (6 : Int32)) v0 1 x408) := fri_sI gL6 fL7 o_v0 (by decide)
                    have d_x399 : x399 = fI (sI (sI S377 v0 0 (6 : Int32)) v0 1 x408) a374 2 := d_x399.trans (sI_ne o_v0 o_a374 (by decide) 2).symm
                    have d_x389 : x389 = fI (sI (sI S377 v0 0 (6 : Int32)) v0 1 x408) v0 6 := d_x389.trans (rd_j (by decide)).symm
                    have d_x405 : x405 = fI (sI (sI S377 v0 0 (6 : Int32)) v0 1 x408) a374 4 := d_x405.trans (sI_ne o_v0 o_a374 (by decide) 4).symm
                    have d_y407 : y407 = fI (sI (sI S377 v0 0 (6 : Int32)) v0 1 x408) v0 0 := d_y407.trans (rd_j (by decide)).symm
                    have d_x408 : x408 = fI (sI (sI S377 v0 0 (6 : Int32)) v0 1 x408) v0 7 := d_x408.trans (rd_j (by decide)).symm
                    have d_x408 : x408 = fI (sI (sI S377 v0 0 (6 : Int32)) v0 1 x408) v0 1 := (u2_self _ _ _ _).symm
                    intro _ _
                    refine ⟨fun c409 => ?_, fun c409 => ?_⟩
                    · exact hq _ _ hI g0 f0 (Or.inl rfl)
                    · exact hq _ _ hI g0 f0 (Or.inr rfl)
          · refine m_X4_placeLine hI o_v0 (fun z hz => by cases ea374.symm.trans hz; rw [← d_x375]; exact (q152 i1 c13 bb_x16 c20 bb_x21 c25 bb_x26 c30 r_x375 p_x376 bb_x376 c380)) hT (fun x410 S411 hI g412 fc413 b_x410 p_x410 => ?_)
            obtain hT := p_x410
            have l_v1 := (gr_len g412 o_v1).trans l_v1
            have ea374 := (frr_at fc413 (by decide) (by decide) o_v0).trans ea374
            have f0 := fri_tr g0 f0 fc413 (by decide) (by decide)
            have fL7 := fri_tr gL6 fL7 fc413 (by decide) (by decide)
            have o_a374 := gr_ob g412 o_a374
            have o_v0 := gr_ob g412 o_v0
            have o_v1 := gr_ob g412 o_v1
            have g0 := gr_tr g0 g412
            have gL6 := gr_tr gL6 g412
            intro _ _
            have bb_x410 : x410 = 0 ∨ x410 = 1 := b_x410
            refine ⟨fun c414 => ?_, fun c414 => ?_⟩
            · refine u_X4_read_111 ?_
              refine u_X4_read_112 ?_
              refine u_X4_read_248 ?_
              refine ⟨fun c415 => ?_, fun c415 => ?_⟩
              · refine u_X4_read_295 ?_
                refine ⟨fun c416 => ?_, fun c416 => ?_⟩
                · exact hq _ _ hI g0 f0 (Or.inl rfl)
                · refine ⟨o_v0, ?_⟩
                  refine m_X4_sign hI o_v0 hT (fun x417 S418 hI g419 fc420 b_x417 p_x417 => ?_)
                  obtain hT := p_x417
                  have l_v1 := (gr_len g419 o_v1).trans l_v1
                  have ea374 := (frr_at fc420 (by decide) (by decide) o_v0).trans ea374
                  have f0 := fri_tr g0 f0 fc420 (by decide) (by decide)
                  have fL7 := fri_tr gL6 fL7 fc420 (by decide) (by decide)
                  have o_a374 := gr_ob g419 o_a374
                  have o_v0 := gr_ob g419 o_v0
                  have o_v1 := gr_ob g419 o_v1
                  have g0 := gr_tr g0 g419
                  have gL6 := gr_tr gL6 g419
                  intro _ _
                  have bb_x417 : x417 = 0 ∨ x417 = 1 := b_x417
                  refine ⟨fun c421 => ?_, fun c421 => ?_⟩
                  · intro x422 ex422
                    exact ih12 _ _ _ ⟨hI, gL6, fL7, rfl, hT, (q153 i1 c13 bb_x16 c20 bb_x21 c25 bb_x26 c30 r_x375 p_x376 bb_x376 c380 bb_x410 c414 c416 bb_x417 c421 ex422)⟩ (mu_up (q154 i1 c13 bb_x16 c20 bb_x21 c25 bb_x26 c30 r_x375 p_x376 bb_x376 c380 bb_x410 c414 c416 bb_x417 c421 ex422) (q155 i1 c13 bb_x16 c20 bb_x21 c25 bb_x26 c30 r_x375 p_x376 bb_x376 c380 bb_x410 c414 c416 bb_x417 c421 ex422))
                  · exact hq _ _ hI g0 f0 (Or.inl rfl)
              · refine ⟨o_v0, ?_⟩
                intro x423 ex423
                have d_x423 := ex423
                refine ⟨fun c424 => ?_, fun c424 => ?_⟩
                · refine u_X4_read_295 ?_
                  refine ⟨fun c425 => ?_, fun c425 => ?_⟩
                  · exact hq _ _ hI g0 f0 (Or.inl rfl)
                  · refine ⟨o_v0, ?_⟩
                    refine m_X4_sign hI o_v0 hT (fun x426 S427 hI g428 fc429 b_x426 p_x426 => ?_)
                    obtain hT := p_x426
                    have l_v1 := (gr_len g428 o_v1).trans l_v1
                    have ea374 := (frr_at fc429 (by decide) (by decide) o_v0).trans ea374
                    have f0 := fri_tr g0 f0 fc429 (by decide) (by decide)
                    have fL7 := fri_tr gL6 fL7 fc429 (by decide) (by decide)
                    have o_a374 := gr_ob g428 o_a374
                    have o_v0 := gr_ob g428 o_v0
                    have o_v1 := gr_ob g428 o_v1
                    have g0 := gr_tr g0 g428
                    have gL6 := gr_tr gL6 g428
                    intro _ _
                    have bb_x426 : x426 = 0 ∨ x426 = 1 := b_x426
                    refine ⟨fun c430 => ?_, fun c430 => ?_⟩
                    · intro x431 ex431
                      exact ih12 _ _ _ ⟨hI, gL6, fL7, rfl, hT, (q156 i1 c13 bb_x16 c20 bb_x21 c25 bb_x26 c30 r_x375 p_x376 bb_x376 c380 bb_x410 c414 c415 c424 c425 bb_x426 c430 ex431)⟩ (mu_up (q157 i1 c13 bb_x16 c20 bb_x21 c25 bb_x26 c30 r_x375 p_x376 bb_x376 c380 bb_x410 c414 c415 c424 c425 bb_x426 c430 ex431) (q158 i1 c13 bb_x16 c20 bb_x21 c25 bb_x26 c30 r_x375 p_x376 bb_x376 c380 bb_x410 c414 c415 c424 c425 bb_x426 c430 ex431))
                    · exact hq _ _ hI g0 f0 (Or.inl rfl)
                · refine ⟨a374, ea374, ?_⟩
                  refine ⟨o_a374, ?_⟩
                  intro x433 ex433
                  have r_x433 : (0 : Int32) ≤ x433 ∧ x433 ≤ (8 : Int32) := by rw [ex433]; exact nu 12 rfl hI o_a374
                  have d_x433 := ex433
                  refine ⟨fun c434 => ?_, fun c434 => ?_⟩
                  · refine u_X4_read_280 ?_
                    refine ⟨o_v0, ?_⟩
                    refine u_X4_fail ?_
                    refine u_X4_fail_0 ?_
                    refine ⟨o_v0, ?_⟩
                    have hI := iv_sI (j := 0) (v := (6 : Int32)) hI o_v0 (by decide) (nu_free (by decide))
                    have f0 : FRI _ _ _ (sI S411 v0 0 (6 : Int32)) := fri_sI g0 f0 o_v0 (by decide)
                    have fL7 : FRI _ _ _ (sI S411 v0 0 (6 : Int32)) := fri_sI gL6 fL7 o_v0 (by decide)
                    have d_x423 : x423 = fI (sI S411 v0 0 (6 : Int32)) v0 6 := d_x423.trans (rd_j (by decide)).symm
                    have d_x433 : x433 = fI (sI S411 v0 0 (6 : Int32)) a374 2 := d_x433.trans (sI_ne o_v0 o_a374 (by decide) 2).symm
                    obtain ⟨y435, hy435⟩ : ∃ z : Int32, z = (6 : Int32) := ⟨_, rfl⟩
                    have d_y435 : y435 = fI (sI S411 v0 0 (6 : Int32)) v0 0 := hy435.trans (u2_self _ _ _ _).symm
                    intro x436 ex436
                    have d_x436 := ex436
                    have hI := iv_sI (j := 1) (v := x436) hI o_v0 (by decide) (nu_free (by decide))
                    have f0 : FRI _ _ _ (sI (sI S411 v0 0 (6 : Int32)) v0 1 x436) := fri_sI g0 f0 o_v0 (by decide)
                    have fL7 : FRI _ _ _ (sI (sI S411 v0 0 (6 : Int32)) v0 1 x436) := fri_sI gL6 fL7 o_v0 (by decide)
                    have d_x423 : x423 = fI (sI (sI S411 v0 0 (6 : Int32)) v0 1 x436) v0 6 := d_x423.trans (rd_j (by decide)).symm
                    have d_x433 : x433 = fI (sI (sI S411 v0 0 (6 : Int32)) v0 1 x436) a374 2 := d_x433.trans (sI_ne o_v0 o_a374 (by decide) 2).symm
                    have d_y435 : y435 = fI (sI (sI S411 v0 0 (6 : Int32)) v0 1 x436) v0 0 := d_y435.trans (rd_j (by decide)).symm
                    have d_x436 : x436 = fI (sI (sI S411 v0 0 (6 : Int32)) v0 1 x436) v0 7 := d_x436.trans (rd_j (by decide)).symm
                    have d_x436 : x436 = fI (sI (sI S411 v0 0 (6 : Int32)) v0 1 x436) v0 1 := (u2_self _ _ _ _).symm
                    intro _ _
                    refine ⟨fun c437 => ?_, fun c437 => ?_⟩
                    · exact hq _ _ hI g0 f0 (Or.inl rfl)
                    · exact hq _ _ hI g0 f0 (Or.inr rfl)
                  · refine ⟨a374, ea374, ?_⟩
                    refine ⟨o_a374, ?_⟩
                    intro x439 ex439
                    have r_x439 : (0 : Int32) ≤ x439 ∧ x439 ≤ (4 : Int32) := by rw [ex439]; exact nu 14 rfl hI o_a374
                    have d_x439 := ex439
                    refine ⟨fun c440 => ?_, fun c440 => ?_⟩
                    · exact hq _ _ hI g0 f0 (Or.inr rfl)
                    · refine u_X4_read_280 ?_
                      refine ⟨o_v0, ?_⟩
                      refine u_X4_fail ?_
                      refine u_X4_fail_0 ?_
                      refine ⟨o_v0, ?_⟩
                      have hI := iv_sI (j := 0) (v := (6 : Int32)) hI o_v0 (by decide) (nu_free (by decide))
                      have f0 : FRI _ _ _ (sI S411 v0 0 (6 : Int32)) := fri_sI g0 f0 o_v0 (by decide)
                      have fL7 : FRI _ _ _ (sI S411 v0 0 (6 : Int32)) := fri_sI gL6 fL7 o_v0 (by decide)
                      have d_x423 : x423 = fI (sI S411 v0 0 (6 : Int32)) v0 6 := d_x423.trans (rd_j (by decide)).symm
                      have d_x433 : x433 = fI (sI S411 v0 0 (6 : Int32)) a374 2 := d_x433.trans (sI_ne o_v0 o_a374 (by decide) 2).symm
                      have d_x439 : x439 = fI (sI S411 v0 0 (6 : Int32)) a374 4 := d_x439.trans (sI_ne o_v0 o_a374 (by decide) 4).symm
                      obtain ⟨y441, hy441⟩ : ∃ z : Int32, z = (6 : Int32) := ⟨_, rfl⟩
                      have d_y441 : y441 = fI (sI S411 v0 0 (6 : Int32)) v0 0 := hy441.trans (u2_self _ _ _ _).symm
                      intro x442 ex442
                      have d_x442 := ex442
                      have hI := iv_sI (j := 1) (v := x442) hI o_v0 (by decide) (nu_free (by decide))
                      have f0 : FRI _ _ _ (sI (sI S411 v0 0 (6 : Int32)) v0 1 x442) := fri_sI g0 f0 o_v0 (by decide)
                      have fL7 : FRI _ _ _ (sI (sI S411 v0 0 (6 : Int32)) v0 1 x442) := fri_sI gL6 fL7 o_v0 (by decide)
                      have d_x423 : x423 = fI (sI (sI S411 v0 0 (6 : Int32)) v0 1 x442) v0 6 := d_x423.trans (rd_j (by decide)).symm
                      have d_x433 : x433 = fI (sI (sI S411 v0 0 (6 : Int32)) v0 1 x442) a374 2 := d_x433.trans (sI_ne o_v0 o_a374 (by decide) 2).symm
                      have d_x439 : x439 = fI (sI (sI S411 v0 0 (6 : Int32)) v0 1 x442) a374 4 := d_x439.trans (sI_ne o_v0 o_a374 (by decide) 4).symm
                      have d_y441 : y441 = fI (sI (sI S411 v0 0 (6 : Int32)) v0 1 x442) v0 0 := d_y441.trans (rd_j (by decide)).symm
                      have d_x442 : x442 = fI (sI (sI S411 v0 0 (6 : Int32)) v0 1 x442) v0 7 := d_x442.trans (rd_j (by decide)).symm
                      have d_x442 : x442 = fI (sI (sI S411 v0 0 (6 : Int32)) v0 1 x442) v0 1 := (u2_self _ _ _ _).symm
                      intro _ _
                      refine ⟨fun c443 => ?_, fun c443 => ?_⟩
                      · exact hq _ _ hI g0 f0 (Or.inl rfl)
                      · exact hq _ _ hI g0 f0 (Or.inr rfl)
            · refine u_X4_read_112 ?_
              refine u_X4_read_248 ?_
              refine ⟨fun c444 => ?_, fun c444 => ?_⟩
              · refine u_X4_read_295 ?_
                refine ⟨fun c445 => ?_, fun c445 => ?_⟩
                · exact hq _ _ hI g0 f0 (Or.inl rfl)
                · refine ⟨o_v0, ?_⟩
                  refine m_X4_sign hI o_v0 hT (fun x446 S447 hI g448 fc449 b_x446 p_x446 => ?_)
                  obtain hT := p_x446
                  have l_v1 := (gr_len g448 o_v1).trans l_v1
                  have ea374 := (frr_at fc449 (by decide) (by decide) o_v0).trans ea374
                  have f0 := fri_tr g0 f0 fc449 (by decide) (by decide)
                  have fL7 := fri_tr gL6 fL7 fc449 (by decide) (by decide)
                  have o_a374 := gr_ob g448 o_a374
                  have o_v0 := gr_ob g448 o_v0
                  have o_v1 := gr_ob g448 o_v1
                  have g0 := gr_tr g0 g448
                  have gL6 := gr_tr gL6 g448
                  intro _ _
                  have bb_x446 : x446 = 0 ∨ x446 = 1 := b_x446
                  refine ⟨fun c450 => ?_, fun c450 => ?_⟩
                  · intro x451 ex451
                    exact ih12 _ _ _ ⟨hI, gL6, fL7, rfl, hT, (q159 i1 c13 bb_x16 c20 bb_x21 c25 bb_x26 c30 r_x375 p_x376 bb_x376 c380 bb_x410 c414 c444 bb_x446 c450 ex451)⟩ (mu_up (q160 i1 c13 bb_x16 c20 bb_x21 c25 bb_x26 c30 r_x375 p_x376 bb_x376 c380 bb_x410 c414 c444 bb_x446 c450 ex451) (q161 i1 c13 bb_x16 c20 bb_x21 c25 bb_x26 c30 r_x375 p_x376 bb_x376 c380 bb_x410 c414 c444 bb_x446 c450 ex451))
                  · exact hq _ _ hI g0 f0 (Or.inl rfl)
              · refine ⟨o_v0, ?_⟩
                intro x452 ex452
                have d_x452 := ex452
                refine ⟨fun c453 => ?_, fun c453 => ?_⟩
                · refine u_X4_read_295 ?_
                  refine ⟨fun c454 => ?_, fun c454 => ?_⟩
                  · exact hq _ _ hI g0 f0 (Or.inl rfl)
                  · refine ⟨o_v0, ?_⟩
                    refine m_X4_sign hI o_v0 hT (fun x455 S456 hI g457 fc458 b_x455 p_x455 => ?_)
                    obtain hT := p_x455
                    have l_v1 := (gr_len g457 o_v1).trans l_v1
                    have ea374 := (frr_at fc458 (by decide) (by decide) o_v0).trans ea374
                    have f0 := fri_tr g0 f0 fc458 (by decide) (by decide)
                    have fL7 := fri_tr gL6 fL7 fc458 (by decide) (by decide)
                    have o_a374 := gr_ob g457 o_a374
                    have o_v0 := gr_ob g457 o_v0
                    have o_v1 := gr_ob g457 o_v1
                    have g0 := gr_tr g0 g457
                    have gL6 := gr_tr gL6 g457
                    intro _ _
                    have bb_x455 : x455 = 0 ∨ x455 = 1 := b_x455
                    refine ⟨fun c459 => ?_, fun c459 => ?_⟩
                    · intro x460 ex460
                      exact ih12 _ _ _ ⟨hI, gL6, fL7, rfl, hT, (q162 i1 c13 bb_x16 c20 bb_x21 c25 bb_x26 c30 r_x375 p_x376 bb_x376 c380 bb_x410 c414 c453 bb_x455 c459 ex460)⟩ (mu_up (q163 i1 c13 bb_x16 c20 bb_x21 c25 bb_x26 c30 r_x375 p_x376 bb_x376 c380 bb_x410 c414 c453 bb_x455 c459 ex460) (q164 i1 c13 bb_x16 c20 bb_x21 c25 bb_x26 c30 r_x375 p_x376 bb_x376 c380 bb_x410 c414 c453 bb_x455 c459 ex460))
                    · exact hq _ _ hI g0 f0 (Or.inl rfl)
                · refine ⟨a374, ea374, ?_⟩
                  refine ⟨o_a374, ?_⟩
                  intro x462 ex462
                  have r_x462 : (0 : Int32) ≤ x462 ∧ x462 ≤ (8 : Int32) := by rw [ex462]; exact nu 12 rfl hI o_a374
                  have d_x462 := ex462
                  refine ⟨fun c463 => ?_, fun c463 => ?_⟩
                  · refine u_X4_read_280 ?_
                    refine ⟨o_v0, ?_⟩
                    refine u_X4_fail ?_
                    refine u_X4_fail_0 ?_
                    refine ⟨o_v0, ?_⟩
                    have hI := iv_sI (j := 0) (v := (6 : Int32)) hI o_v0 (by decide) (nu_free (by decide))
                    have f0 : FRI _ _ _ (sI S411 v0 0 (6 : Int32)) := fri_sI g0 f0 o_v0 (by decide)
                    have fL7 : FRI _ _ _ (sI S411 v0 0 (6 : Int32)) := fri_sI gL6 fL7 o_v0 (by decide)
                    have d_x452 : x452 = fI (sI S411 v0 0 (6 : Int32)) v0 6 := d_x452.trans (rd_j (by decide)).symm
                    have d_x462 : x462 = fI (sI S411 v0 0 (6 : Int32)) a374 2 := d_x462.trans (sI_ne o_v0 o_a374 (by decide) 2).symm
                    obtain ⟨y464, hy464⟩ : ∃ z : Int32, z = (6 : Int32) := ⟨_, rfl⟩
                    have d_y464 : y464 = fI (sI S411 v0 0 (6 : Int32)) v0 0 := hy464.trans (u2_self _ _ _ _).symm
                    intro x465 ex465
                    have d_x465 := ex465
                    have hI := iv_sI (j := 1) (v := x465) hI o_v0 (by decide) (nu_free (by decide))
                    have f0 : FRI _ _ _ (sI (sI S411 v0 0 (6 : Int32)) v0 1 x465) := fri_sI g0 f0 o_v0 (by decide)
                    have fL7 : FRI _ _ _ (sI (sI S411 v0 0 (6 : Int32)) v0 1 x465) := fri_sI gL6 fL7 o_v0 (by decide)
                    have d_x452 : x452 = fI (sI (sI S411 v0 0 (6 : Int32)) v0 1 x465) v0 6 := d_x452.trans (rd_j (by decide)).symm
                    have d_x462 : x462 = fI (sI (sI S411 v0 0 (6 : Int32)) v0 1 x465) a374 2 := d_x462.trans (sI_ne o_v0 o_a374 (by decide) 2).symm
                    have d_y464 : y464 = fI (sI (sI S411 v0 0 (6 : Int32)) v0 1 x465) v0 0 := d_y464.trans (rd_j (by decide)).symm
                    have d_x465 : x465 = fI (sI (sI S411 v0 0 (6 : Int32)) v0 1 x465) v0 7 := d_x465.trans (rd_j (by decide)).symm
                    have d_x465 : x465 = fI (sI (sI S411 v0 0 (6 : Int32)) v0 1 x465) v0 1 := (u2_self _ _ _ _).symm
                    intro _ _
                    refine ⟨fun c466 => ?_, fun c466 => ?_⟩
                    · exact hq _ _ hI g0 f0 (Or.inl rfl)
                    · exact hq _ _ hI g0 f0 (Or.inr rfl)
                  · refine ⟨a374, ea374, ?_⟩
                    refine ⟨o_a374, ?_⟩
                    intro x468 ex468
                    have r_x468 : (0 : Int32) ≤ x468 ∧ x468 ≤ (4 : Int32) := by rw [ex468]; exact nu 14 rfl hI o_a374
                    have d_x468 := ex468
                    refine ⟨fun c469 => ?_, fun c469 => ?_⟩
                    · exact hq _ _ hI g0 f0 (Or.inr rfl)
                    · refine u_X4_read_280 ?_
                      refine ⟨o_v0, ?_⟩
                      refine u_X4_fail ?_
                      refine u_X4_fail_0 ?_
                      refine ⟨o_v0, ?_⟩
                      have hI := iv_sI (j := 0) (v := (6 : Int32)) hI o_v0 (by decide) (nu_free (by decide))
                      have f0 : FRI _ _ _ (sI S411 v0 0 (6 : Int32)) := fri_sI g0 f0 o_v0 (by decide)
                      have fL7 : FRI _ _ _ (sI S411 v0 0 (6 : Int32)) := fri_sI gL6 fL7 o_v0 (by decide)
                      have d_x452 : x452 = fI (sI S411 v0 0 (6 : Int32)) v0 6 := d_x452.trans (rd_j (by decide)).symm
                      have d_x462 : x462 = fI (sI S411 v0 0 (6 : Int32)) a374 2 := d_x462.trans (sI_ne o_v0 o_a374 (by decide) 2).symm
                      have d_x468 : x468 = fI (sI S411 v0 0 (6 : Int32)) a374 4 := d_x468.trans (sI_ne o_v0 o_a374 (by decide) 4).symm
                      obtain ⟨y470, hy470⟩ : ∃ z : Int32, z = (6 : Int32) := ⟨_, rfl⟩
                      have d_y470 : y470 = fI (sI S411 v0 0 (6 : Int32)) v0 0 := hy470.trans (u2_self _ _ _ _).symm
                      intro x471 ex471
                      have d_x471 := ex471
                      have hI := iv_sI (j := 1) (v := x471) hI o_v0 (by decide) (nu_free (by decide))
                      have f0 : FRI _ _ _ (sI (sI S411 v0 0 (6 : Int32)) v0 1 x471) := fri_sI g0 f0 o_v0 (by decide)
                      have fL7 : FRI _ _ _ (sI (sI S411 v0 0 (6 : Int32)) v0 1 x471) := fri_sI gL6 fL7 o_v0 (by decide)
                      have d_x452 : x452 = fI (sI (sI S411 v0 0 (6 : Int32)) v0 1 x471) v0 6 := d_x452.trans (rd_j (by decide)).symm
                      have d_x462 : x462 = fI (sI (sI S411 v0 0 (6 : Int32)) v0 1 x471) a374 2 := d_x462.trans (sI_ne o_v0 o_a374 (by decide) 2).symm
                      have d_x468 : x468 = fI (sI (sI S411 v0 0 (6 : Int32)) v0 1 x471) a374 4 := d_x468.trans (sI_ne o_v0 o_a374 (by decide) 4).symm
                      have d_y470 : y470 = fI (sI (sI S411 v0 0 (6 : Int32)) v0 1 x471) v0 0 := d_y470.trans (rd_j (by decide)).symm
                      have d_x471 : x471 = fI (sI (sI S411 v0 0 (6 : Int32)) v0 1 x471) v0 7 := d_x471.trans (rd_j (by decide)).symm
                      have d_x471 : x471 = fI (sI (sI S411 v0 0 (6 : Int32)) v0 1 x471) v0 1 := (u2_self _ _ _ _).symm
                      intro _ _
                      refine ⟨fun c472 => ?_, fun c472 => ?_⟩
                      · exact hq _ _ hI g0 f0 (Or.inl rfl)
                      · exact hq _ _ hI g0 f0 (Or.inr rfl)
      · obtain ⟨a473, ea473, o_a473, -⟩ := sh 12 rfl hI o_v0
        refine ⟨a473, ea473, ?_⟩
        refine ⟨o_a473, ?_⟩
        intro x474 ex474
        have r_x474 : (0 : Int32) ≤ x474 ∧ x474 ≤ (6 : Int32) := by rw [ex474]; exact nu 11 rfl hI o_a473
        have d_x474 := ex474
        refine m_X4_hasRoom hI o_v0 hT (fun x475 S476 hI g477 fc478 b_x475 p_x475 => ?_)
        obtain ⟨hT, p_x475⟩ := p_x475
        have l_v1 := (gr_len g477 o_v1).trans l_v1
        have d_x474 := d_x474.trans (fri_at fc478 (by decide) (by decide) o_a473).symm
        have ea473 := (frr_at fc478 (by decide) (by decide) o_v0).trans ea473
        have f0 := fri_tr g0 f0 fc478 (by decide) (by decide)
        have fL7 := fri_tr gL6 fL7 fc478 (by decide) (by decide)
        have o_a473 := gr_ob g477 o_a473
        have o_v0 := gr_ob g477 o_v0
        have o_v1 := gr_ob g477 o_v1
        have g0 := gr_tr g0 g477
        have gL6 := gr_tr gL6 g477
        intro _ _
        have bb_x475 : x475 = 0 ∨ x475 = 1 := b_x475
        refine ⟨fun c479 => ?_, fun c479 => ?_⟩
        · refine u_X4_read_69 ?_
          refine u_X4_read_70 ?_
          refine u_X4_read_248 ?_
          refine ⟨fun c480 => ?_, fun c480 => ?_⟩
          · refine u_X4_read_295 ?_
            refine ⟨fun c481 => ?_, fun c481 => ?_⟩
            · exact hq _ _ hI g0 f0 (Or.inl rfl)
            · refine ⟨o_v0, ?_⟩
              refine m_X4_sign hI o_v0 hT (fun x482 S483 hI g484 fc485 b_x482 p_x482 => ?_)
              obtain hT := p_x482
              have l_v1 := (gr_len g484 o_v1).trans l_v1
              have d_x474 := d_x474.trans (fri_at fc485 (by decide) (by decide) o_a473).symm
              have ea473 := (frr_at fc485 (by decide) (by decide) o_v0).trans ea473
              have f0 := fri_tr g0 f0 fc485 (by decide) (by decide)
              have fL7 := fri_tr gL6 fL7 fc485 (by decide) (by decide)
              have o_a473 := gr_ob g484 o_a473
              have o_v0 := gr_ob g484 o_v0
              have o_v1 := gr_ob g484 o_v1
              have g0 := gr_tr g0 g484
              have gL6 := gr_tr gL6 g484
              intro _ _
              have bb_x482 : x482 = 0 ∨ x482 = 1 := b_x482
              refine ⟨fun c486 => ?_, fun c486 => ?_⟩
              · intro x487 ex487
                exact ih12 _ _ _ ⟨hI, gL6, fL7, rfl, hT, (q165 i1 c13 bb_x16 c20 bb_x21 c25 r_x474 p_x475 bb_x475 c479 c481 bb_x482 c486 ex487)⟩ (mu_up (q166 i1 c13 bb_x16 c20 bb_x21 c25 r_x474 p_x475 bb_x475 c479 c481 bb_x482 c486 ex487) (q167 i1 c13 bb_x16 c20 bb_x21 c25 r_x474 p_x475 bb_x475 c479 c481 bb_x482 c486 ex487))
              · exact hq _ _ hI g0 f0 (Or.inl rfl)
          · refine ⟨o_v0, ?_⟩
            intro x488 ex488
            have d_x488 := ex488
            refine ⟨fun c489 => ?_, fun c489 => ?_⟩
            · refine u_X4_read_295 ?_
              refine ⟨fun c490 => ?_, fun c490 => ?_⟩
              · exact hq _ _ hI g0 f0 (Or.inl rfl)
              · refine ⟨o_v0, ?_⟩
                refine m_X4_sign hI o_v0 hT (fun x491 S492 hI g493 fc494 b_x491 p_x491 => ?_)
                obtain hT := p_x491
                have l_v1 := (gr_len g493 o_v1).trans l_v1
                have d_x474 := d_x474.trans (fri_at fc494 (by decide) (by decide) o_a473).symm
                have ea473 := (frr_at fc494 (by decide) (by decide) o_v0).trans ea473
                have f0 := fri_tr g0 f0 fc494 (by decide) (by decide)
                have fL7 := fri_tr gL6 fL7 fc494 (by decide) (by decide)
                have o_a473 := gr_ob g493 o_a473
                have o_v0 := gr_ob g493 o_v0
                have o_v1 := gr_ob g493 o_v1
                have g0 := gr_tr g0 g493
                have gL6 := gr_tr gL6 g493
                intro _ _
                have bb_x491 : x491 = 0 ∨ x491 = 1 := b_x491
                refine ⟨fun c495 => ?_, fun c495 => ?_⟩
                · intro x496 ex496
                  exact ih12 _ _ _ ⟨hI, gL6, fL7, rfl, hT, (q168 i1 c13 bb_x16 c20 bb_x21 c25 r_x474 p_x475 bb_x475 c479 c480 c489 c490 bb_x491 c495 ex496)⟩ (mu_up (q169 i1 c13 bb_x16 c20 bb_x21 c25 r_x474 p_x475 bb_x475 c479 c480 c489 c490 bb_x491 c495 ex496) (q170 i1 c13 bb_x16 c20 bb_x21 c25 r_x474 p_x475 bb_x475 c479 c480 c489 c490 bb_x491 c495 ex496))
                · exact hq _ _ hI g0 f0 (Or.inl rfl)
            · refine ⟨a473, ea473, ?_⟩
              refine ⟨o_a473, ?_⟩
              intro x498 ex498
              have r_x498 : (0 : Int32) ≤ x498 ∧ x498 ≤ (8 : Int32) := by rw [ex498]; exact nu 12 rfl hI o_a473
              have d_x498 := ex498
              refine ⟨fun c499 => ?_, fun c499 => ?_⟩
              · refine u_X4_read_280 ?_
                refine ⟨o_v0, ?_⟩
                refine u_X4_fail ?_
                refine u_X4_fail_0 ?_
                refine ⟨o_v0, ?_⟩
                have hI := iv_sI (j := 0) (v := (6 : Int32)) hI o_v0 (by decide) (nu_free (by decide))
                have f0 : FRI _ _ _ (sI S476 v0 0 (6 : Int32)) := fri_sI g0 f0 o_v0 (by decide)
                have fL7 : FRI _ _ _ (sI S476 v0 0 (6 : Int32)) := fri_sI gL6 fL7 o_v0 (by decide)
                have d_x474 : x474 = fI (sI S476 v0 0 (6 : Int32)) a473 1 := d_x474.trans (sI_ne o_v0 o_a473 (by decide) 1).symm
                have d_x488 : x488 = fI (sI S476 v0 0 (6 : Int32)) v0 6 := d_x488.trans (rd_j (by decide)).symm
                have d_x498 : x498 = fI (sI S476 v0 0 (6 : Int32)) a473 2 := d_x498.trans (sI_ne o_v0 o_a473 (by decide) 2).symm
                obtain ⟨y500, hy500⟩ : ∃ z : Int32, z = (6 : Int32) := ⟨_, rfl⟩
                have d_y500 : y500 = fI (sI S476 v0 0 (6 : Int32)) v0 0 := hy500.trans (u2_self _ _ _ _).symm
                intro x501 ex501
                have d_x501 := ex501
                have hI := iv_sI (j := 1) (v := x501) hI o_v0 (by decide) (nu_free (by decide))
                have f0 : FRI _ _ _ (sI (sI S476 v0 0 (6 : Int32)) v0 1 x501) := fri_sI g0 f0 o_v0 (by decide)
                have fL7 : FRI _ _ _ (sI (sI S476 v0 0 (6 : Int32)) v0 1 x501) := fri_sI gL6 fL7 o_v0 (by decide)
                have d_x474 : x474 = fI (sI (sI S476 v0 0 (6 : Int32)) v0 1 x501) a473 1 := d_x474.trans (sI_ne o_v0 o_a473 (by decide) 1).symm
                have d_x488 : x488 = fI (sI (sI S476 v0 0 (6 : Int32)) v0 1 x501) v0 6 := d_x488.trans (rd_j (by decide)).symm
                have d_x498 : x498 = fI (sI (sI S476 v0 0 (6 : Int32)) v0 1 x501) a473 2 := d_x498.trans (sI_ne o_v0 o_a473 (by decide) 2).symm
                have d_y500 : y500 = fI (sI (sI S476 v0 0 (6 : Int32)) v0 1 x501) v0 0 := d_y500.trans (rd_j (by decide)).symm
                have d_x501 : x501 = fI (sI (sI S476 v0 0 (6 : Int32)) v0 1 x501) v0 7 := d_x501.trans (rd_j (by decide)).symm
                have d_x501 : x501 = fI (sI (sI S476 v0 0 (6 : Int32)) v0 1 x501) v0 1 := (u2_self _ _ _ _).symm
                intro _ _
                refine ⟨fun c502 => ?_, fun c502 => ?_⟩
                · exact hq _ _ hI g0 f0 (Or.inl rfl)
                · exact hq _ _ hI g0 f0 (Or.inr rfl)
              · refine ⟨a473, ea473, ?_⟩
                refine ⟨o_a473, ?_⟩
                intro x504 ex504
                have r_x504 : (0 : Int32) ≤ x504 ∧ x504 ≤ (4 : Int32) := by rw [ex504]; exact nu 14 rfl hI o_a473
                have d_x504 := ex504
                refine ⟨fun c505 => ?_, fun c505 => ?_⟩
                · exact hq _ _ hI g0 f0 (Or.inr rfl)
                · refine u_X4_read_280 ?_
                  refine ⟨o_v0, ?_⟩
                  refine u_X4_fail ?_
                  refine u_X4_fail_0 ?_
                  refine ⟨o_v0, ?_⟩
                  have hI := iv_sI (j := 0) (v := (6 : Int32)) hI o_v0 (by decide) (nu_free (by decide))
                  have f0 : FRI _ _ _ (sI S476 v0 0 (6 : Int32)) := fri_sI g0 f0 o_v0 (by decide)
                  have fL7 : FRI _ _ _ (sI S476 v0 0 (6 : Int32)) := fri_sI gL6 fL7 o_v0 (by decide)
                  have d_x474 : x474 = fI (sI S476 v0 0 (6 : Int32)) a473 1 := d_x474.trans (sI_ne o_v0 o_a473 (by decide) 1).symm
                  have d_x488 : x488 = fI (sI S476 v0 0 (6 : Int32)) v0 6 := d_x488.trans (rd_j (by decide)).symm
                  have d_x498 : x498 = fI (sI S476 v0 0 (6 : Int32)) a473 2 := d_x498.trans (sI_ne o_v0 o_a473 (by decide) 2).symm
                  have d_x504 : x504 = fI (sI S476 v0 0 (6 : Int32)) a473 4 := d_x504.trans (sI_ne o_v0 o_a473 (by decide) 4).symm
                  obtain ⟨y506, hy506⟩ : ∃ z : Int32, z = (6 : Int32) := ⟨_, rfl⟩
                  have d_y506 : y506 = fI (sI S476 v0 0 (6 : Int32)) v0 0 := hy506.trans (u2_self _ _ _ _).symm
                  intro x507 ex507
                  have d_x507 := ex507
                  have hI := iv_sI (j := 1) (v := x507) hI o_v0 (by decide) (nu_free (by decide))
                  have f0 : FRI _ _ _ (sI (sI S476 v0 0 (6 : Int32)) v0 1 x507) := fri_sI g0 f0 o_v0 (by decide)
                  have fL7 : FRI _ _ _ (sI (sI S476 v0 0 (6 : Int32)) v0 1 x507) := fri_sI gL6 fL7 o_v0 (by decide)
                  have d_x474 : x474 = fI (sI (sI S476 v0 0 (6 : Int32)) v0 1 x507) a473 1 := d_x474.trans (sI_ne o_v0 o_a473 (by decide) 1).symm
                  have d_x488 : x488 = fI (sI (sI S476 v0 0 (6 : Int32)) v0 1 x507) v0 6 := d_x488.trans (rd_j (by decide)).symm
                  have d_x498 : x498 = fI (sI (sI S476 v0 0 (6 : Int32)) v0 1 x507) a473 2 := d_x498.trans (sI_ne o_v0 o_a473 (by decide) 2).symm
                  have d_x504 : x504 = fI (sI (sI S476 v0 0 (6 : Int32)) v0 1 x507) a473 4 := d_x504.trans (sI_ne o_v0 o_a473 (by decide) 4).symm
                  have d_y506 : y506 = fI (sI (sI S476 v0 0 (6 : Int32)) v0 1 x507) v0 0 := d_y506.trans (rd_j (by decide)).symm
                  have d_x507 : x507 = fI (sI (sI S476 v0 0 (6 : Int32)) v0 1 x507) v0 7 := d_x507.trans (rd_j (by decide)).symm
                  have d_x507 : x507 = fI (sI (sI S476 v0 0 (6 : Int32)) v0 1 x507) v0 1 := (u2_self _ _ _ _).symm
                  intro _ _
                  refine ⟨fun c508 => ?_, fun c508 => ?_⟩
                  · exact hq _ _ hI g0 f0 (Or.inl rfl)
                  · exact hq _ _ hI g0 f0 (Or.inr rfl)
        · refine m_X4_rainLine hI o_v0 (fun z hz => by cases ea473.symm.trans hz; rw [← d_x474]; exact (q171 i1 c13 bb_x16 c20 bb_x21 c25 r_x474 p_x475 bb_x475 c479)) hT (fun x509 S510 hI g511 fc512 b_x509 p_x509 => ?_)
          obtain hT := p_x509
          have l_v1 := (gr_len g511 o_v1).trans l_v1
          have ea473 := (frr_at fc512 (by decide) (by decide) o_v0).trans ea473
          have f0 := fri_tr g0 f0 fc512 (by decide) (by decide)
          have fL7 := fri_tr gL6 fL7 fc512 (by decide) (by decide)
          have o_a473 := gr_ob g511 o_a473
          have o_v0 := gr_ob g511 o_v0
          have o_v1 := gr_ob g511 o_v1
          have g0 := gr_tr g0 g511
          have gL6 := gr_tr gL6 g511
          intro _ _
          have bb_x509 : x509 = 0 ∨ x509 = 1 := b_x509
          refine ⟨fun c513 => ?_, fun c513 => ?_⟩
          · refine u_X4_read_69 ?_
            refine u_X4_read_70 ?_
            refine u_X4_read_248 ?_
            refine ⟨fun c514 => ?_, fun c514 => ?_⟩
            · refine u_X4_read_295 ?_
              refine ⟨fun c515 => ?_, fun c515 => ?_⟩
              · exact hq _ _ hI g0 f0 (Or.inl rfl)
              · refine ⟨o_v0, ?_⟩
                refine m_X4_sign hI o_v0 hT (fun x516 S517 hI g518 fc519 b_x516 p_x516 => ?_)
                obtain hT := p_x516
                have l_v1 := (gr_len g518 o_v1).trans l_v1
                have ea473 := (frr_at fc519 (by decide) (by decide) o_v0).trans ea473
                have f0 := fri_tr g0 f0 fc519 (by decide) (by decide)
                have fL7 := fri_tr gL6 fL7 fc519 (by decide) (by decide)
                have o_a473 := gr_ob g518 o_a473
                have o_v0 := gr_ob g518 o_v0
                have o_v1 := gr_ob g518 o_v1
                have g0 := gr_tr g0 g518
                have gL6 := gr_tr gL6 g518
                intro _ _
                have bb_x516 : x516 = 0 ∨ x516 = 1 := b_x516
                refine ⟨fun c520 => ?_, fun c520 => ?_⟩
                · intro x521 ex521
                  exact ih12 _ _ _ ⟨hI, gL6, fL7, rfl, hT, (q172 i1 c13 bb_x16 c20 bb_x21 c25 r_x474 p_x475 bb_x475 c479 bb_x509 c513 c515 bb_x516 c520 ex521)⟩ (mu_up (q173 i1 c13 bb_x16 c20 bb_x21 c25 r_x474 p_x475 bb_x475 c479 bb_x509 c513 c515 bb_x516 c520 ex521) (q174 i1 c13 bb_x16 c20 bb_x21 c25 r_x474 p_x475 bb_x475 c479 bb_x509 c513 c515 bb_x516 c520 ex521))
                · exact hq _ _ hI g0 f0 (Or.inl rfl)
            · refine ⟨o_v0, ?_⟩
              intro x522 ex522
              have d_x522 := ex522
              refine ⟨fun c523 => ?_, fun c523 => ?_⟩
              · refine u_X4_read_295 ?_
                refine ⟨fun c524 => ?_, fun c524 => ?_⟩
                · exact hq _ _ hI g0 f0 (Or.inl rfl)
                · refine ⟨o_v0, ?_⟩
                  refine m_X4_sign hI o_v0 hT (fun x525 S526 hI g527 fc528 b_x525 p_x525 => ?_)
                  obtain hT := p_x525
                  have l_v1 := (gr_len g527 o_v1).trans l_v1
                  have ea473 := (frr_at fc528 (by decide) (by decide) o_v0).trans ea473
                  have f0 := fri_tr g0 f0 fc528 (by decide) (by decide)
                  have fL7 := fri_tr gL6 fL7 fc528 (by decide) (by decide)
                  have o_a473 := gr_ob g527 o_a473
                  have o_v0 := gr_ob g527 o_v0
                  have o_v1 := gr_ob g527 o_v1
                  have g0 := gr_tr g0 g527
                  have gL6 := gr_tr gL6 g527
                  intro _ _
                  have bb_x525 : x525 = 0 ∨ x525 = 1 := b_x525
                  refine ⟨fun c529 => ?_, fun c529 => ?_⟩
                  · intro x530 ex530
                    exact ih12 _ _ _ ⟨hI, gL6, fL7, rfl, hT, (q175 i1 c13 bb_x16 c20 bb_x21 c25 r_x474 p_x475 bb_x475 c479 bb_x509 c513 c514 c523 c524 bb_x525 c529 ex530)⟩ (mu_up (q176 i1 c13 bb_x16 c20 bb_x21 c25 r_x474 p_x475 bb_x475 c479 bb_x509 c513 c514 c523 c524 bb_x525 c529 ex530) (q177 i1 c13 bb_x16 c20 bb_x21 c25 r_x474 p_x475 bb_x475 c479 bb_x509 c513 c514 c523 c524 bb_x525 c529 ex530))
                  · exact hq _ _ hI g0 f0 (Or.inl rfl)
              · refine ⟨a473, ea473, ?_⟩
                refine ⟨o_a473, ?_⟩
                intro x532 ex532
                have r_x532 : (0 : Int32) ≤ x532 ∧ x532 ≤ (8 : Int32) := by rw [ex532]; exact nu 12 rfl hI o_a473
                have d_x532 := ex532
                refine ⟨fun c533 => ?_, fun c533 => ?_⟩
                · refine u_X4_read_280 ?_
                  refine ⟨o_v0, ?_⟩
                  refine u_X4_fail ?_
                  refine u_X4_fail_0 ?_
                  refine ⟨o_v0, ?_⟩
                  have hI := iv_sI (j := 0) (v := (6 : Int32)) hI o_v0 (by decide) (nu_free (by decide))
                  have f0 : FRI _ _ _ (sI S510 v0 0 (6 : Int32)) := fri_sI g0 f0 o_v0 (by decide)
                  have fL7 : FRI _ _ _ (sI S510 v0 0 (6 : Int32)) := fri_sI gL6 fL7 o_v0 (by decide)
                  have d_x522 : x522 = fI (sI S510 v0 0 (6 : Int32)) v0 6 := d_x522.trans (rd_j (by decide)).symm
                  have d_x532 : x532 = fI (sI S510 v0 0 (6 : Int32)) a473 2 := d_x532.trans (sI_ne o_v0 o_a473 (by decide) 2).symm
                  obtain ⟨y534, hy534⟩ : ∃ z : Int32, z = (6 : Int32) := ⟨_, rfl⟩
                  have d_y534 : y534 = fI (sI S510 v0 0 (6 : Int32)) v0 0 := hy534.trans (u2_self _ _ _ _).symm
                  intro x535 ex535
                  have d_x535 := ex535
                  have hI := iv_sI (j := 1) (v := x535) hI o_v0 (by decide) (nu_free (by decide))
                  have f0 : FRI _ _ _ (sI (sI S510 v0 0 (6 : Int32)) v0 1 x535) := fri_sI g0 f0 o_v0 (by decide)
                  have fL7 : FRI _ _ _ (sI (sI S510 v0 0 (6 : Int32)) v0 1 x535) := fri_sI gL6 fL7 o_v0 (by decide)
                  have d_x522 : x522 = fI (sI (sI S510 v0 0 (6 : Int32)) v0 1 x535) v0 6 := d_x522.trans (rd_j (by decide)).symm
                  have d_x532 : x532 = fI (sI (sI S510 v0 0 (6 : Int32)) v0 1 x535) a473 2 := d_x532.trans (sI_ne o_v0 o_a473 (by decide) 2).symm
                  have d_y534 : y534 = fI (sI (sI S510 v0 0 (6 : Int32)) v0 1 x535) v0 0 := d_y534.trans (rd_j (by decide)).symm
                  have d_x535 : x535 = fI (sI (sI S510 v0 0 (6 : Int32)) v0 1 x535) v0 7 := d_x535.trans (rd_j (by decide)).symm
                  have d_x535 : x535 = fI (sI (sI S510 v0 0 (6 : Int32)) v0 1 x535) v0 1 := (u2_self _ _ _ _).symm
                  intro _ _
                  refine ⟨fun c536 => ?_, fun c536 => ?_⟩
                  · exact hq _ _ hI g0 f0 (Or.inl rfl)
                  · exact hq _ _ hI g0 f0 (Or.inr rfl)
                · refine ⟨a473, ea473, ?_⟩
                  refine ⟨o_a473, ?_⟩
                  intro x538 ex538
                  have r_x538 : (0 : Int32) ≤ x538 ∧ x538 ≤ (4 : Int32) := by rw [ex538]; exact nu 14 rfl hI o_a473
                  have d_x538 := ex538
                  refine ⟨fun c539 => ?_, fun c539 => ?_⟩
                  · exact hq _ _ hI g0 f0 (Or.inr rfl)
                  · refine u_X4_read_280 ?_
                    refine ⟨o_v0, ?_⟩
                    refine u_X4_fail ?_
                    refine u_X4_fail_0 ?_
                    refine ⟨o_v0, ?_⟩
                    have hI := iv_sI (j := 0) (v := (6 : Int32)) hI o_v0 (by decide) (nu_free (by decide))
                    have f0 : FRI _ _ _ (sI S510 v0 0 (6 : Int32)) := fri_sI g0 f0 o_v0 (by decide)
                    have fL7 : FRI _ _ _ (sI S510 v0 0 (6 : Int32)) := fri_sI gL6 fL7 o_v0 (by decide)
                    have d_x522 : x522 = fI (sI S510 v0 0 (6 : Int32)) v0 6 := d_x522.trans (rd_j (by decide)).symm
                    have d_x532 : x532 = fI (sI S510 v0 0 (6 : Int32)) a473 2 := d_x532.trans (sI_ne o_v0 o_a473 (by decide) 2).symm
                    have d_x538 : x538 = fI (sI S510 v0 0 (6 : Int32)) a473 4 := d_x538.trans (sI_ne o_v0 o_a473 (by decide) 4).symm
                    obtain ⟨y540, hy540⟩ : ∃ z : Int32, z = (6 : Int32) := ⟨_, rfl⟩
                    have d_y540 : y540 = fI (sI S510 v0 0 (6 : Int32)) v0 0 := hy540.trans (u2_self _ _ _ _).symm
                    intro x541 ex541
                    have d_x541 := ex541
                    have hI := iv_sI (j := 1) (v := x541) hI o_v0 (by decide) (nu_free (by decide))
                    have f0 : FRI _ _ _ (sI (sI S510 v0 0 (6 : Int32)) v0 1 x541) := fri_sI g0 f0 o_v0 (by decide)
                    have fL7 : FRI _ _ _ (sI (sI S510 v0 0 (6 : Int32)) v0 1 x541) := fri_sI gL6 fL7 o_v0 (by decide)
                    have d_x522 : x522 = fI (sI (sI S510 v0 0 (6 : Int32)) v0 1 x541) v0 6 := d_x522.trans (rd_j (by decide)).symm
                    have d_x532 : x532 = fI (sI (sI S510 v0 0 (6 : Int32)) v0 1 x541) a473 2 := d_x532.trans (sI_ne o_v0 o_a473 (by decide) 2).symm
                    have d_x538 : x538 = fI (sI (sI S510 v0 0 (6 : Int32)) v0 1 x541) a473 4 := d_x538.trans (sI_ne o_v0 o_a473 (by decide) 4).symm
                    have d_y540 : y540 = fI (sI (sI S510 v0 0 (6 : Int32)) v0 1 x541) v0 0 := d_y540.trans (rd_j (by decide)).symm
                    have d_x541 : x541 = fI (sI (sI S510 v0 0 (6 : Int32)) v0 1 x541) v0 7 := d_x541.trans (rd_j (by decide)).symm
                    have d_x541 : x541 = fI (sI (sI S510 v0 0 (6 : Int32)) v0 1 x541) v0 1 := (u2_self _ _ _ _).symm
                    intro _ _
                    refine ⟨fun c542 => ?_, fun c542 => ?_⟩
                    · exact hq _ _ hI g0 f0 (Or.inl rfl)
                    · exact hq _ _ hI g0 f0 (Or.inr rfl)
          · refine u_X4_read_70 ?_
            refine u_X4_read_248 ?_
            refine ⟨fun c543 => ?_, fun c543 => ?_⟩
            · refine u_X4_read_295 ?_
              refine ⟨fun c544 => ?_, fun c544 => ?_⟩
              · exact hq _ _ hI g0 f0 (Or.inl rfl)
              · refine ⟨o_v0, ?_⟩
                refine m_X4_sign hI o_v0 hT (fun x545 S546 hI g547 fc548 b_x545 p_x545 => ?_)
                obtain hT := p_x545
                have l_v1 := (gr_len g547 o_v1).trans l_v1
                have ea473 := (frr_at fc548 (by decide) (by decide) o_v0).trans ea473
                have f0 := fri_tr g0 f0 fc548 (by decide) (by decide)
                have fL7 := fri_tr gL6 fL7 fc548 (by decide) (by decide)
                have o_a473 := gr_ob g547 o_a473
                have o_v0 := gr_ob g547 o_v0
                have o_v1 := gr_ob g547 o_v1
                have g0 := gr_tr g0 g547
                have gL6 := gr_tr gL6 g547
                intro _ _
                have bb_x545 : x545 = 0 ∨ x545 = 1 := b_x545
                refine ⟨fun c549 => ?_, fun c549 => ?_⟩
                · intro x550 ex550
                  exact ih12 _ _ _ ⟨hI, gL6, fL7, rfl, hT, (q178 i1 c13 bb_x16 c20 bb_x21 c25 r_x474 p_x475 bb_x475 c479 bb_x509 c513 c543 bb_x545 c549 ex550)⟩ (mu_up (q179 i1 c13 bb_x16 c20 bb_x21 c25 r_x474 p_x475 bb_x475 c479 bb_x509 c513 c543 bb_x545 c549 ex550) (q180 i1 c13 bb_x16 c20 bb_x21 c25 r_x474 p_x475 bb_x475 c479 bb_x509 c513 c543 bb_x545 c549 ex550))
                · exact hq _ _ hI g0 f0 (Or.inl rfl)
            · refine ⟨o_v0, ?_⟩
              intro x551 ex551
              have d_x551 := ex551
              refine ⟨fun c552 => ?_, fun c552 => ?_⟩
              · refine u_X4_read_295 ?_
                refine ⟨fun c553 => ?_, fun c553 => ?_⟩
                · exact hq _ _ hI g0 f0 (Or.inl rfl)
                · refine ⟨o_v0, ?_⟩
                  refine m_X4_sign hI o_v0 hT (fun x554 S555 hI g556 fc557 b_x554 p_x554 => ?_)
                  obtain hT := p_x554
                  have l_v1 := (gr_len g556 o_v1).trans l_v1
                  have ea473 := (frr_at fc557 (by decide) (by decide) o_v0).trans ea473
                  have f0 := fri_tr g0 f0 fc557 (by decide) (by decide)
                  have fL7 := fri_tr gL6 fL7 fc557 (by decide) (by decide)
                  have o_a473 := gr_ob g556 o_a473
                  have o_v0 := gr_ob g556 o_v0
                  have o_v1 := gr_ob g556 o_v1
                  have g0 := gr_tr g0 g556
                  have gL6 := gr_tr gL6 g556
                  intro _ _
                  have bb_x554 : x554 = 0 ∨ x554 = 1 := b_x554
                  refine ⟨fun c558 => ?_, fun c558 => ?_⟩
                  · intro x559 ex559
                    exact ih12 _ _ _ ⟨hI, gL6, fL7, rfl, hT, (q181 i1 c13 bb_x16 c20 bb_x21 c25 r_x474 p_x475 bb_x475 c479 bb_x509 c513 c552 bb_x554 c558 ex559)⟩ (mu_up (q182 i1 c13 bb_x16 c20 bb_x21 c25 r_x474 p_x475 bb_x475 c479 bb_x509 c513 c552 bb_x554 c558 ex559) (q183 i1 c13 bb_x16 c20 bb_x21 c25 r_x474 p_x475 bb_x475 c479 bb_x509 c513 c552 bb_x554 c558 ex559))
                  · exact hq _ _ hI g0 f0 (Or.inl rfl)
              · refine ⟨a473, ea473, ?_⟩
                refine ⟨o_a473, ?_⟩
                intro x561 ex561
                have r_x561 : (0 : Int32) ≤ x561 ∧ x561 ≤ (8 : Int32) := by rw [ex561]; exact nu 12 rfl hI o_a473
                have d_x561 := ex561
                refine ⟨fun c562 => ?_, fun c562 => ?_⟩
                · refine u_X4_read_280 ?_
                  refine ⟨o_v0, ?_⟩
                  refine u_X4_fail ?_
                  refine u_X4_fail_0 ?_
                  refine ⟨o_v0, ?_⟩
                  have hI := iv_sI (j := 0) (v := (6 : Int32)) hI o_v0 (by decide) (nu_free (by decide))
                  have f0 : FRI _ _ _ (sI S510 v0 0 (6 : Int32)) := fri_sI g0 f0 o_v0 (by decide)
                  have fL7 : FRI _ _ _ (sI S510 v0 0 (6 : Int32)) := fri_sI gL6 fL7 o_v0 (by decide)
                  have d_x551 : x551 = fI (sI S510 v0 0 (6 : Int32)) v0 6 := d_x551.trans (rd_j (by decide)).symm
                  have d_x561 : x561 = fI (sI S510 v0 0 (6 : Int32)) a473 2 := d_x561.trans (sI_ne o_v0 o_a473 (by decide) 2).symm
                  obtain ⟨y563, hy563⟩ : ∃ z : Int32, z = (6 : Int32) := ⟨_, rfl⟩
                  have d_y563 : y563 = fI (sI S510 v0 0 (6 : Int32)) v0 0 := hy563.trans (u2_self _ _ _ _).symm
                  intro x564 ex564
                  have d_x564 := ex564
                  have hI := iv_sI (j := 1) (v := x564) hI o_v0 (by decide) (nu_free (by decide))
                  have f0 : FRI _ _ _ (sI (sI S510 v0 0 (6 : Int32)) v0 1 x564) := fri_sI g0 f0 o_v0 (by decide)
                  have fL7 : FRI _ _ _ (sI (sI S510 v0 0 (6 : Int32)) v0 1 x564) := fri_sI gL6 fL7 o_v0 (by decide)
                  have d_x551 : x551 = fI (sI (sI S510 v0 0 (6 : Int32)) v0 1 x564) v0 6 := d_x551.trans (rd_j (by decide)).symm
                  have d_x561 : x561 = fI (sI (sI S510 v0 0 (6 : Int32)) v0 1 x564) a473 2 := d_x561.trans (sI_ne o_v0 o_a473 (by decide) 2).symm
                  have d_y563 : y563 = fI (sI (sI S510 v0 0 (6 : Int32)) v0 1 x564) v0 0 := d_y563.trans (rd_j (by decide)).symm
                  have d_x564 : x564 = fI (sI (sI S510 v0 0 (6 : Int32)) v0 1 x564) v0 7 := d_x564.trans (rd_j (by decide)).symm
                  have d_x564 : x564 = fI (sI (sI S510 v0 0 (6 : Int32)) v0 1 x564) v0 1 := (u2_self _ _ _ _).symm
                  intro _ _
                  refine ⟨fun c565 => ?_, fun c565 => ?_⟩
                  · exact hq _ _ hI g0 f0 (Or.inl rfl)
                  · exact hq _ _ hI g0 f0 (Or.inr rfl)
                · refine ⟨a473, ea473, ?_⟩
                  refine ⟨o_a473, ?_⟩
                  intro x567 ex567
                  have r_x567 : (0 : Int32) ≤ x567 ∧ x567 ≤ (4 : Int32) := by rw [ex567]; exact nu 14 rfl hI o_a473
                  have d_x567 := ex567
                  refine ⟨fun c568 => ?_, fun c568 => ?_⟩
                  · exact hq _ _ hI g0 f0 (Or.inr rfl)
                  · refine u_X4_read_280 ?_
                    refine ⟨o_v0, ?_⟩
                    refine u_X4_fail ?_
                    refine u_X4_fail_0 ?_
                    refine ⟨o_v0, ?_⟩
                    have hI := iv_sI (j := 0) (v := (6 : Int32)) hI o_v0 (by decide) (nu_free (by decide))
                    have f0 : FRI _ _ _ (sI S510 v0 0 (6 : Int32)) := fri_sI g0 f0 o_v0 (by decide)
                    have fL7 : FRI _ _ _ (sI S510 v0 0 (6 : Int32)) := fri_sI gL6 fL7 o_v0 (by decide)
                    have d_x551 : x551 = fI (sI S510 v0 0 (6 : Int32)) v0 6 := d_x551.trans (rd_j (by decide)).symm
                    have d_x561 : x561 = fI (sI S510 v0 0 (6 : Int32)) a473 2 := d_x561.trans (sI_ne o_v0 o_a473 (by decide) 2).symm
                    have d_x567 : x567 = fI (sI S510 v0 0 (6 : Int32)) a473 4 := d_x567.trans (sI_ne o_v0 o_a473 (by decide) 4).symm
                    obtain ⟨y569, hy569⟩ : ∃ z : Int32, z = (6 : Int32) := ⟨_, rfl⟩
                    have d_y569 : y569 = fI (sI S510 v0 0 (6 : Int32)) v0 0 := hy569.trans (u2_self _ _ _ _).symm
                    intro x570 ex570
                    have d_x570 := ex570
                    have hI := iv_sI (j := 1) (v := x570) hI o_v0 (by decide) (nu_free (by decide))
                    have f0 : FRI _ _ _ (sI (sI S510 v0 0 (6 : Int32)) v0 1 x570) := fri_sI g0 f0 o_v0 (by decide)
                    have fL7 : FRI _ _ _ (sI (sI S510 v0 0 (6 : Int32)) v0 1 x570) := fri_sI gL6 fL7 o_v0 (by decide)
                    have d_x551 : x551 = fI (sI (sI S510 v0 0 (6 : Int32)) v0 1 x570) v0 6 := d_x551.trans (rd_j (by decide)).symm
                    have d_x561 : x561 = fI (sI (sI S510 v0 0 (6 : Int32)) v0 1 x570) a473 2 := d_x561.trans (sI_ne o_v0 o_a473 (by decide) 2).symm
                    have d_x567 : x567 = fI (sI (sI S510 v0 0 (6 : Int32)) v0 1 x570) a473 4 := d_x567.trans (sI_ne o_v0 o_a473 (by decide) 4).symm
                    have d_y569 : y569 = fI (sI (sI S510 v0 0 (6 : Int32)) v0 1 x570) v0 0 := d_y569.trans (rd_j (by decide)).symm
                    have d_x570 : x570 = fI (sI (sI S510 v0 0 (6 : Int32)) v0 1 x570) v0 7 := d_x570.trans (rd_j (by decide)).symm
                    have d_x570 : x570 = fI (sI (sI S510 v0 0 (6 : Int32)) v0 1 x570) v0 1 := (u2_self _ _ _ _).symm
                    intro _ _
                    refine ⟨fun c571 => ?_, fun c571 => ?_⟩
                    · exact hq _ _ hI g0 f0 (Or.inl rfl)
                    · exact hq _ _ hI g0 f0 (Or.inr rfl)
    · refine m_X4_worldLine hI o_v0 hT (fun x572 S573 hI g574 fc575 b_x572 p_x572 => ?_)
      obtain hT := p_x572
      have l_v1 := (gr_len g574 o_v1).trans l_v1
      have f0 := fri_tr g0 f0 fc575 (by decide) (by decide)
      have fL7 := fri_tr gL6 fL7 fc575 (by decide) (by decide)
      have o_v0 := gr_ob g574 o_v0
      have o_v1 := gr_ob g574 o_v1
      have g0 := gr_tr g0 g574
      have gL6 := gr_tr gL6 g574
      intro _ _
      have bb_x572 : x572 = 0 ∨ x572 = 1 := b_x572
      refine u_X4_read_248 ?_
      refine ⟨fun c576 => ?_, fun c576 => ?_⟩
      · refine u_X4_read_295 ?_
        refine ⟨fun c577 => ?_, fun c577 => ?_⟩
        · exact hq _ _ hI g0 f0 (Or.inl rfl)
        · refine ⟨o_v0, ?_⟩
          refine m_X4_sign hI o_v0 hT (fun x578 S579 hI g580 fc581 b_x578 p_x578 => ?_)
          obtain hT := p_x578
          have l_v1 := (gr_len g580 o_v1).trans l_v1
          have f0 := fri_tr g0 f0 fc581 (by decide) (by decide)
          have fL7 := fri_tr gL6 fL7 fc581 (by decide) (by decide)
          have o_v0 := gr_ob g580 o_v0
          have o_v1 := gr_ob g580 o_v1
          have g0 := gr_tr g0 g580
          have gL6 := gr_tr gL6 g580
          intro _ _
          have bb_x578 : x578 = 0 ∨ x578 = 1 := b_x578
          refine ⟨fun c582 => ?_, fun c582 => ?_⟩
          · intro x583 ex583
            exact ih12 _ _ _ ⟨hI, gL6, fL7, rfl, hT, (q184 i1 c13 bb_x16 c20 bb_x572 c576 c577 bb_x578 c582 ex583)⟩ (mu_up (q185 i1 c13 bb_x16 c20 bb_x572 c576 c577 bb_x578 c582 ex583) (q186 i1 c13 bb_x16 c20 bb_x572 c576 c577 bb_x578 c582 ex583))
          · exact hq _ _ hI g0 f0 (Or.inl rfl)
      · refine ⟨o_v0, ?_⟩
        intro x584 ex584
        have d_x584 := ex584
        refine ⟨fun c585 => ?_, fun c585 => ?_⟩
        · refine u_X4_read_295 ?_
          refine ⟨fun c586 => ?_, fun c586 => ?_⟩
          · exact hq _ _ hI g0 f0 (Or.inl rfl)
          · refine ⟨o_v0, ?_⟩
            refine m_X4_sign hI o_v0 hT (fun x587 S588 hI g589 fc590 b_x587 p_x587 => ?_)
            obtain hT := p_x587
            have l_v1 := (gr_len g589 o_v1).trans l_v1
            have f0 := fri_tr g0 f0 fc590 (by decide) (by decide)
            have fL7 := fri_tr gL6 fL7 fc590 (by decide) (by decide)
            have o_v0 := gr_ob g589 o_v0
            have o_v1 := gr_ob g589 o_v1
            have g0 := gr_tr g0 g589
            have gL6 := gr_tr gL6 g589
            intro _ _
            have bb_x587 : x587 = 0 ∨ x587 = 1 := b_x587
            refine ⟨fun c591 => ?_, fun c591 => ?_⟩
            · intro x592 ex592
              exact ih12 _ _ _ ⟨hI, gL6, fL7, rfl, hT, (q187 i1 c13 bb_x16 c20 bb_x572 c576 c585 c586 bb_x587 c591 ex592)⟩ (mu_up (q188 i1 c13 bb_x16 c20 bb_x572 c576 c585 c586 bb_x587 c591 ex592) (q189 i1 c13 bb_x16 c20 bb_x572 c576 c585 c586 bb_x587 c591 ex592))
            · exact hq _ _ hI g0 f0 (Or.inl rfl)
        · obtain ⟨a593, ea593, o_a593, -⟩ := sh 12 rfl hI o_v0
          refine ⟨a593, ea593, ?_⟩
          refine ⟨o_a593, ?_⟩
          intro x594 ex594
          have r_x594 : (0 : Int32) ≤ x594 ∧ x594 ≤ (8 : Int32) := by rw [ex594]; exact nu 12 rfl hI o_a593
          have d_x594 := ex594
          refine ⟨fun c595 => ?_, fun c595 => ?_⟩
          · refine u_X4_read_280 ?_
            refine ⟨o_v0, ?_⟩
            refine u_X4_fail ?_
            refine u_X4_fail_0 ?_
            refine ⟨o_v0, ?_⟩
            have hI := iv_sI (j := 0) (v := (6 : Int32)) hI o_v0 (by decide) (nu_free (by decide))
            have f0 : FRI _ _ _ (sI S573 v0 0 (6 : Int32)) := fri_sI g0 f0 o_v0 (by decide)
            have fL7 : FRI _ _ _ (sI S573 v0 0 (6 : Int32)) := fri_sI gL6 fL7 o_v0 (by decide)
            have d_x584 : x584 = fI (sI S573 v0 0 (6 : Int32)) v0 6 := d_x584.trans (rd_j (by decide)).symm
            have d_x594 : x594 = fI (sI S573 v0 0 (6 : Int32)) a593 2 := d_x594.trans (sI_ne o_v0 o_a593 (by decide) 2).symm
            obtain ⟨y596, hy596⟩ : ∃ z : Int32, z = (6 : Int32) := ⟨_, rfl⟩
            have d_y596 : y596 = fI (sI S573 v0 0 (6 : Int32)) v0 0 := hy596.trans (u2_self _ _ _ _).symm
            intro x597 ex597
            have d_x597 := ex597
            have hI := iv_sI (j := 1) (v := x597) hI o_v0 (by decide) (nu_free (by decide))
            have f0 : FRI _ _ _ (sI (sI S573 v0 0 (6 : Int32)) v0 1 x597) := fri_sI g0 f0 o_v0 (by decide)
            have fL7 : FRI _ _ _ (sI (sI S573 v0 0 (6 : Int32)) v0 1 x597) := fri_sI gL6 fL7 o_v0 (by decide)
            have d_x584 : x584 = fI (sI (sI S573 v0 0 (6 : Int32)) v0 1 x597) v0 6 := d_x584.trans (rd_j (by decide)).symm
            have d_x594 : x594 = fI (sI (sI S573 v0 0 (6 : Int32)) v0 1 x597) a593 2 := d_x594.trans (sI_ne o_v0 o_a593 (by decide) 2).symm
            have d_y596 : y596 = fI (sI (sI S573 v0 0 (6 : Int32)) v0 1 x597) v0 0 := d_y596.trans (rd_j (by decide)).symm
            have d_x597 : x597 = fI (sI (sI S573 v0 0 (6 : Int32)) v0 1 x597) v0 7 := d_x597.trans (rd_j (by decide)).symm
            have d_x597 : x597 = fI (sI (sI S573 v0 0 (6 : Int32)) v0 1 x597) v0 1 := (u2_self _ _ _ _).symm
            intro _ _
            refine ⟨fun c598 => ?_, fun c598 => ?_⟩
            · exact hq _ _ hI g0 f0 (Or.inl rfl)
            · exact hq _ _ hI g0 f0 (Or.inr rfl)
          · refine ⟨a593, ea593, ?_⟩
            refine ⟨o_a593, ?_⟩
            intro x600 ex600
            have r_x600 : (0 : Int32) ≤ x600 ∧ x600 ≤ (4 : Int32) := by rw [ex600]; exact nu 14 rfl hI o_a593
            have d_x600 := ex600
            refine ⟨fun c601 => ?_, fun c601 => ?_⟩
            · exact hq _ _ hI g0 f0 (Or.inr rfl)
            · refine u_X4_read_280 ?_
              refine ⟨o_v0, ?_⟩
              refine u_X4_fail ?_
              refine u_X4_fail_0 ?_
              refine ⟨o_v0, ?_⟩
              have hI := iv_sI (j := 0) (v := (6 : Int32)) hI o_v0 (by decide) (nu_free (by decide))
              have f0 : FRI _ _ _ (sI S573 v0 0 (6 : Int32)) := fri_sI g0 f0 o_v0 (by decide)
              have fL7 : FRI _ _ _ (sI S573 v0 0 (6 : Int32)) := fri_sI gL6 fL7 o_v0 (by decide)
              have d_x584 : x584 = fI (sI S573 v0 0 (6 : Int32)) v0 6 := d_x584.trans (rd_j (by decide)).symm
              have d_x594 : x594 = fI (sI S573 v0 0 (6 : Int32)) a593 2 := d_x594.trans (sI_ne o_v0 o_a593 (by decide) 2).symm
              have d_x600 : x600 = fI (sI S573 v0 0 (6 : Int32)) a593 4 := d_x600.trans (sI_ne o_v0 o_a593 (by decide) 4).symm
              obtain ⟨y602, hy602⟩ : ∃ z : Int32, z = (6 : Int32) := ⟨_, rfl⟩
              have d_y602 : y602 = fI (sI S573 v0 0 (6 : Int32)) v0 0 := hy602.trans (u2_self _ _ _ _).symm
              intro x603 ex603
              have d_x603 := ex603
              have hI := iv_sI (j := 1) (v := x603) hI o_v0 (by decide) (nu_free (by decide))
              have f0 : FRI _ _ _ (sI (sI S573 v0 0 (6 : Int32)) v0 1 x603) := fri_sI g0 f0 o_v0 (by decide)
              have fL7 : FRI _ _ _ (sI (sI S573 v0 0 (6 : Int32)) v0 1 x603) := fri_sI gL6 fL7 o_v0 (by decide)
              have d_x584 : x584 = fI (sI (sI S573 v0 0 (6 : Int32)) v0 1 x603) v0 6 := d_x584.trans (rd_j (by decide)).symm
              have d_x594 : x594 = fI (sI (sI S573 v0 0 (6 : Int32)) v0 1 x603) a593 2 := d_x594.trans (sI_ne o_v0 o_a593 (by decide) 2).symm
              have d_x600 : x600 = fI (sI (sI S573 v0 0 (6 : Int32)) v0 1 x603) a593 4 := d_x600.trans (sI_ne o_v0 o_a593 (by decide) 4).symm
              have d_y602 : y602 = fI (sI (sI S573 v0 0 (6 : Int32)) v0 1 x603) v0 0 := d_y602.trans (rd_j (by decide)).symm
              have d_x603 : x603 = fI (sI (sI S573 v0 0 (6 : Int32)) v0 1 x603) v0 7 := d_x603.trans (rd_j (by decide)).symm
              have d_x603 : x603 = fI (sI (sI S573 v0 0 (6 : Int32)) v0 1 x603) v0 1 := (u2_self _ _ _ _).symm
              intro _ _
              refine ⟨fun c604 => ?_, fun c604 => ?_⟩
              · exact hq _ _ hI g0 f0 (Or.inl rfl)
              · exact hq _ _ hI g0 f0 (Or.inr rfl)
