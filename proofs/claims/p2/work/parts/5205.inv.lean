set_option maxHeartbeats 4000000 in
set_option maxRecDepth 20000 in
theorem m_X4_sign {v0 : Nat} {v1 : Int32} {Q : Int32 → HS → Prop} {S : HS} (hI : IV S) (o_v0 : ob S v0 4)    (hT : TX S v0) (hq : ∀ (r : Int32) (T : HS), IV T → Gr S T → FRI [(4, 0), (4, 1), (4, 4), (4, 6), (4, 7)] [] S T → bl r → (TX T v0) → Q r T) : P_X4_sign v0 v1 Q S := by
  have g0 := gr_rf S
  have f0 := fri_rf [(4, 0), (4, 1), (4, 4), (4, 6), (4, 7)] [] S
  refine u_X4_sign ?_
  refine u_X4_sign_0 ?_
  refine ⟨o_v0, ?_⟩
  intro x1 ex1
  have d_x1 := ex1
  refine ⟨fun c2 => ?_, fun c2 => ?_⟩
  · refine m_X4_next hI o_v0 hT (fun S4 hI g5 fc6 p_S4 => ?_)
    obtain hT := p_S4
    have f0 := fri_tr (S := S) g0 f0 fc6 (by decide) (by decide)
    have o_v0 := gr_ob g5 o_v0
    have g0 := gr_tr (T := S) g0 g5
    intro _
    exact hq _ _ hI g0 f0 (Or.inr rfl) hT
  · refine u_X4_fail ?_
    refine u_X4_fail_0 ?_
    refine ⟨o_v0, ?_⟩
    have hI := iv_sI (j := 0) (v := (1 : Int32)) hI o_v0 (by decide) (nu_free (by decide))
    have f0 : FRI _ _ _ (sI S v0 0 (1 : Int32)) := fri_sI (S := S) g0 f0 o_v0 (by decide)
    have d_x1 : x1 = fI (sI S v0 0 (1 : Int32)) v0 6 := d_x1.trans (rd_j (by decide)).symm
    obtain ⟨y7, hy7⟩ : ∃ z : Int32, z = (1 : Int32) := ⟨_, rfl⟩
    have d_y7 : y7 = fI (sI S v0 0 (1 : Int32)) v0 0 := hy7.trans (u2_self _ _ _ _).symm
    intro x8 ex8
    have d_x8 := ex8
    have hI := iv_sI (j := 1) (v := x8) hI o_v0 (by decide) (nu_free (by decide))
    have f0 : FRI _ _ _ (sI (sI S v0 0 (1 : Int32)) v0 1 x8) := fri_sI (S := sI S v0 0 (1 : Int32)) g0 f0 o_v0 (by decide)
    have d_x1 : x1 = fI (sI (sI S v0 0 (1 : Int32)) v0 1 x8) v0 6 := d_x1.trans (rd_j (by decide)).symm
    have d_y7 : y7 = fI (sI (sI S v0 0 (1 : Int32)) v0 1 x8) v0 0 := d_y7.trans (rd_j (by decide)).symm
    have d_x8 : x8 = fI (sI (sI S v0 0 (1 : Int32)) v0 1 x8) v0 7 := d_x8.trans (rd_j (by decide)).symm
    have d_x8 : x8 = fI (sI (sI S v0 0 (1 : Int32)) v0 1 x8) v0 1 := (u2_self _ _ _ _).symm
    intro _ _
    exact hq _ _ hI g0 f0 (Or.inl rfl) hT
set_option maxHeartbeats 4000000 in
set_option maxRecDepth 20000 in
theorem m_X4_someWalker {v0 : Nat} {Q : Int32 → HS → Prop} {S : HS} (hI : IV S) (o_v0 : ob S v0 4)    (hT : TX S v0) (hq : ∀ (r : Int32) (T : HS), IV T → Gr S T → FRI [(4, 0), (4, 1), (4, 4), (4, 6), (4, 7), (4, 9)] [] S T → bl r → (TX T v0) → Q r T) : P_X4_someWalker v0 Q S := by
  have g0 := gr_rf S
  have f0 := fri_rf [(4, 0), (4, 1), (4, 4), (4, 6), (4, 7), (4, 9)] [] S
  refine u_X4_someWalker ?_
  refine u_X4_someWalker_0 ?_
  refine ⟨o_v0, ?_⟩
  refine m_X4_canBeName hI o_v0 hT (fun x1 S2 hI2 g3 b_x1 p_x1 => ?_)
  subst p_x1
  intro _ _
  have bb_x1 : x1 = 0 ∨ x1 = 1 := b_x1
  refine ⟨fun c5 => ?_, fun c5 => ?_⟩
  · refine m_X4_findName hI o_v0 hT (fun x6 S7 hI2 g8 p_x6 => ?_)
    subst p_x6
    intro _
    refine ⟨fun c10 => ?_, fun c10 => ?_⟩
    · intro x11 ex11
      have hI := iv_sI (j := 9) (v := x11) hI o_v0 (by decide) (nu_free (by decide))
      have f0 : FRI _ _ _ (sI S v0 9 x11) := fri_sI (S := S) g0 f0 o_v0 (by decide)
      have d_x11 : x11 = fI (sI S v0 9 x11) v0 9 := (u2_self _ _ _ _).symm
      refine m_X4_next hI o_v0 hT (fun S13 hI g14 fc15 p_S13 => ?_)
      obtain hT := p_S13
      have d_x11 := d_x11.trans (fri_at fc15 (by decide) (by decide) o_v0).symm
      have f0 := fri_tr (S := sI S v0 9 x11) g0 f0 fc15 (by decide) (by decide)
      have o_v0 := gr_ob g14 o_v0
      have g0 := gr_tr (T := sI S v0 9 x11) g0 g14
      intro _
      exact hq _ _ hI g0 f0 (Or.inr rfl) hT
    · refine u_X4_fail ?_
      refine u_X4_fail_0 ?_
      refine ⟨o_v0, ?_⟩
      have hI := iv_sI (j := 0) (v := (2 : Int32)) hI o_v0 (by decide) (nu_free (by decide))
      have f0 : FRI _ _ _ (sI S v0 0 (2 : Int32)) := fri_sI (S := S) g0 f0 o_v0 (by decide)
      obtain ⟨y16, hy16⟩ : ∃ z : Int32, z = (2 : Int32) := ⟨_, rfl⟩
      have d_y16 : y16 = fI (sI S v0 0 (2 : Int32)) v0 0 := hy16.trans (u2_self _ _ _ _).symm
      intro x17 ex17
      have d_x17 := ex17
      have hI := iv_sI (j := 1) (v := x17) hI o_v0 (by decide) (nu_free (by decide))
      have f0 : FRI _ _ _ (sI (sI S v0 0 (2 : Int32)) v0 1 x17) := fri_sI (S := sI S v0 0 (2 : Int32)) g0 f0 o_v0 (by decide)
      have d_y16 : y16 = fI (sI (sI S v0 0 (2 : Int32)) v0 1 x17) v0 0 := d_y16.trans (rd_j (by decide)).symm
      have d_x17 : x17 = fI (sI (sI S v0 0 (2 : Int32)) v0 1 x17) v0 7 := d_x17.trans (rd_j (by decide)).symm
      have d_x17 : x17 = fI (sI (sI S v0 0 (2 : Int32)) v0 1 x17) v0 1 := (u2_self _ _ _ _).symm
      intro _ _
      exact hq _ _ hI g0 f0 (Or.inl rfl) hT
  · refine u_X4_fail ?_
    refine u_X4_fail_0 ?_
    refine ⟨o_v0, ?_⟩
    have hI := iv_sI (j := 0) (v := (1 : Int32)) hI o_v0 (by decide) (nu_free (by decide))
    have f0 : FRI _ _ _ (sI S v0 0 (1 : Int32)) := fri_sI (S := S) g0 f0 o_v0 (by decide)
    obtain ⟨y18, hy18⟩ : ∃ z : Int32, z = (1 : Int32) := ⟨_, rfl⟩
    have d_y18 : y18 = fI (sI S v0 0 (1 : Int32)) v0 0 := hy18.trans (u2_self _ _ _ _).symm
    intro x19 ex19
    have d_x19 := ex19
    have hI := iv_sI (j := 1) (v := x19) hI o_v0 (by decide) (nu_free (by decide))
    have f0 : FRI _ _ _ (sI (sI S v0 0 (1 : Int32)) v0 1 x19) := fri_sI (S := sI S v0 0 (1 : Int32)) g0 f0 o_v0 (by decide)
    have d_y18 : y18 = fI (sI (sI S v0 0 (1 : Int32)) v0 1 x19) v0 0 := d_y18.trans (rd_j (by decide)).symm
    have d_x19 : x19 = fI (sI (sI S v0 0 (1 : Int32)) v0 1 x19) v0 7 := d_x19.trans (rd_j (by decide)).symm
    have d_x19 : x19 = fI (sI (sI S v0 0 (1 : Int32)) v0 1 x19) v0 1 := (u2_self _ _ _ _).symm
    intro _ _
    exact hq _ _ hI g0 f0 (Or.inl rfl) hT
set_option maxHeartbeats 4000000 in
set_option maxRecDepth 20000 in
theorem m_X4_seenLine {v0 : Nat} {Q : Int32 → HS → Prop} {S : HS} (hI : IV S) (o_v0 : ob S v0 4)   (hrm : RM S v0 5 4) (hT : TX S v0) (hq : ∀ (r : Int32) (T : HS), IV T → Gr S T → FRI [(4, 0), (4, 1), (4, 4), (4, 6), (4, 7), (4, 9), (8, 5)] [] S T → bl r → (TX T v0) → Q r T) : P_X4_seenLine v0 Q S := by
  have g0 := gr_rf S
  have f0 := fri_rf [(4, 0), (4, 1), (4, 4), (4, 6), (4, 7), (4, 9), (8, 5)] [] S
  obtain ⟨a1, ea1, o_a1, -⟩ := sh 12 rfl hI o_v0
  obtain ⟨y2, d_y2⟩ : ∃ z : Int32, z = fI S a1 5 := ⟨_, rfl⟩
  have hr_y2 : y2 < (4 : Int32) := by rw [d_y2]; exact hrm _ ea1
  have r_y2 : (0 : Int32) ≤ y2 ∧ y2 ≤ (4 : Int32) := by rw [d_y2]; exact nu 15 rfl hI o_a1
  refine u_X4_seenLine ?_
  refine u_X4_seenLine_0 ?_
  refine ⟨o_v0, ?_⟩
  refine m_X4_someWalker hI o_v0 hT (fun x3 S4 hI g5 fc6 b_x3 p_x3 => ?_)
  obtain hT := p_x3
  have d_y2 := d_y2.trans (fri_at fc6 (by decide) (by decide) o_a1).symm
  have ea1 := (frr_at fc6 (by decide) (by decide) o_v0).trans ea1
  have f0 := fri_tr (S := S) g0 f0 fc6 (by decide) (by decide)
  have o_a1 := gr_ob g5 o_a1
  have o_v0 := gr_ob g5 o_v0
  have g0 := gr_tr (T := S) g0 g5
  intro _ _
  have bb_x3 : x3 = 0 ∨ x3 = 1 := b_x3
  refine ⟨fun c7 => ?_, fun c7 => ?_⟩
  · refine ⟨a1, ea1, ?_⟩
    refine ⟨o_a1, ?_⟩
    obtain ⟨a9, ea9, o_a9, l_a9⟩ := shl 19 rfl hI o_a1
    refine ⟨a9, ea9, ?_⟩
    refine ⟨a1, ea1, ?_⟩
    refine ⟨o_a1, ?_⟩
    intro x11 ex11
    have r_x11 : (0 : Int32) ≤ x11 ∧ x11 ≤ (4 : Int32) := by rw [ex11]; exact nu 15 rfl hI o_a1
    have q_x11 : x11 = y2 := ex11.trans d_y2.symm
    have d_x11 := ex11
    intro x12 ex12
    have d_x12 := ex12
    refine ⟨o_a9, ?_⟩
    have i13 : vp_in x11 (hN _ a9) := (vin l_a9 (m := 4) (by decide) (q828 hr_y2 r_y2 bb_x3 c7 r_x11 q_x11))
    refine ⟨i13, ?_⟩
    have hI := iv_aI (i := x11.toNatClampNeg) (v := x12) hI o_a1 (by decide) ea9 o_a9 (by decide)
    have f0 : FRI _ _ _ (sI S4 a9 x11.toNatClampNeg x12) := fri_aI (S := S4) g0 f0 o_a9 (by decide)
    have d_x11 : x11 = fI (sI S4 a9 x11.toNatClampNeg x12) a1 5 := d_x11.trans (sI_ne (S := S4) o_a9 o_a1 (by decide) 5).symm
    have d_x12 : x12 = fI (sI S4 a9 x11.toNatClampNeg x12) v0 9 := d_x12.trans (sI_ne (S := S4) o_a9 o_v0 (by decide) 9).symm
    refine i_X4_seenLine_30 (fun (y0 : Nat) (y1 : Int32) (Z : HS) => ((2147483647 : Int32).toInt - y1.toInt).toNat) (fun (y0 : Nat) (y1 : Int32) (Z : HS) => (IV Z) ∧ (Gr (sI S4 a9 x11.toNatClampNeg x12) Z) ∧ (FRI [(4, 0), (4, 1), (4, 4), (4, 6), (4, 7), (4, 9)] [] (sI S4 a9 x11.toNatClampNeg x12) Z) ∧ (v0 = y0) ∧ (TX Z v0) ∧ (0 ≤ y1)) ?_ _ _ _ ⟨hI, (gr_rf _), (fri_rf _ _ _), rfl, hT, (q666 bb_x3 c7)⟩
    intro w17 w19 S14 X20 ⟨hI, gL15, fL16, q18, hT, i1⟩ ih21
    subst q18
    have l_a9 := (gr_len gL15 o_a9).trans l_a9
    have d_x11 := d_x11.trans (fri_at fL16 (by decide) (by decide) o_a1).symm
    have ea1 := (frr_at fL16 (by decide) (by decide) o_v0).trans ea1
    have ea9 := (frr_at fL16 (by decide) (by decide) o_a1).trans ea9
    have f0 := fri_tr (S := sI S4 a9 x11.toNatClampNeg x12) g0 f0 fL16 (by decide) (by decide)
    have o_a1 := gr_ob gL15 o_a1
    have o_a9 := gr_ob gL15 o_a9
    have o_v0 := gr_ob gL15 o_v0
    have g0 := gr_tr (T := sI S4 a9 x11.toNatClampNeg x12) g0 gL15
    refine u_X4_seenLine_30 ?_
    refine ⟨fun c22 => ?_, fun c22 => ?_⟩
    · refine ⟨o_v0, ?_⟩
      refine ⟨a1, ea1, ?_⟩
      refine ⟨o_a1, ?_⟩
      intro x24 ex24
      have r_x24 : (0 : Int32) ≤ x24 ∧ x24 ≤ (4 : Int32) := by rw [ex24]; exact nu 15 rfl hI o_a1
      have q_x24 : x24 = x11 := ex24.trans d_x11.symm
      have d_x24 := ex24
      intro x25 ex25
      have hI := iv_sI (j := 5) (v := x25) hI o_a1 (by decide) (nu_one (lo := (0 : Int32)) (hi := (4 : Int32)) (by decide) (q829 hr_y2 r_y2 bb_x3 c7 r_x11 q_x11 i1 c22 r_x24 q_x24 ex25))
      have f0 : FRI _ _ _ (sI S14 a1 5 x25) := fri_sI (S := S14) g0 f0 o_a1 (by decide)
      have fL16 : FRI _ _ _ (sI S14 a1 5 x25) := fri_sI (S := S14) gL15 fL16 o_a1 (by decide)
      have d_x25 : x25 = fI (sI S14 a1 5 x25) a1 5 := (u2_self _ _ _ _).symm
      exact hq _ _ hI g0 f0 (Or.inr rfl) hT
    · refine ⟨fun c26 => ?_, fun c26 => ?_⟩
      · refine u_X4_seenLine_47 ?_
        refine ⟨o_v0, ?_⟩
        refine m_X4_whole hI o_v0 hT (fun x27 S28 hI g29 fc30 b_x27 p_x27 => ?_)
        obtain ⟨hT, pf9_S28⟩ := p_x27
        have l_a9 := (gr_len g29 o_a9).trans l_a9
        have d_x11 := d_x11.trans (fri_at fc30 (by decide) (by decide) o_a1).symm
        have ea1 := (frr_at fc30 (by decide) (by decide) o_v0).trans ea1
        have ea9 := (frr_at fc30 (by decide) (by decide) o_a1).trans ea9
        have f0 := fri_tr (S := S14) g0 f0 fc30 (by decide) (by decide)
        have fL16 := fri_tr (S := S14) gL15 fL16 fc30 (by decide) (by decide)
        have o_a1 := gr_ob g29 o_a1
        have o_a9 := gr_ob g29 o_a9
        have o_v0 := gr_ob g29 o_v0
        have g0 := gr_tr (T := S14) g0 g29
        have gL15 := gr_tr (T := S14) gL15 g29
        obtain ⟨y31, d_y31⟩ : ∃ z : Int32, z = fI S28 v0 9 := ⟨_, rfl⟩
        have p_y31 : x27 = 1 → (0 : Int32) ≤ y31 ∧ y31 ≤ (999 : Int32) := by rw [d_y31]; exact pf9_S28
        intro _ _
        have bb_x27 : x27 = 0 ∨ x27 = 1 := b_x27
        refine ⟨fun c32 => ?_, fun c32 => ?_⟩
        · refine ⟨a1, ea1, ?_⟩
          refine ⟨o_a1, ?_⟩
          obtain ⟨a34, ea34, o_a34, l_a34⟩ := shl 20 rfl hI o_a1
          refine ⟨a34, ea34, ?_⟩
          refine ⟨a1, ea1, ?_⟩
          refine ⟨o_a1, ?_⟩
          intro x36 ex36
          have r_x36 : (0 : Int32) ≤ x36 ∧ x36 ≤ (4 : Int32) := by rw [ex36]; exact nu 15 rfl hI o_a1
          have q_x36 : x36 = x11 := ex36.trans d_x11.symm
          have d_x36 := ex36
          intro x37 ex37
          have q_x37 : x37 = y31 := ex37.trans d_y31.symm
          have d_x37 := ex37
          refine ⟨o_a34, ?_⟩
          have i38 : vp_in (x36 * (5 : Int32)) + w19 (hN _ a34) := (vin l_a34 (m := 20) (by decide) (q830 hr_y2 r_y2 bb_x3 c7 r_x11 q_x11 i1 c22 c26 p_y31 bb_x27 c32 r_x36 q_x36 q_x37))
          refine ⟨i38, ?_⟩
          have hI := iv_aI (i := ((x36 * (5 : Int32)) + w19).toNatClampNeg) (v := x37) hI o_a1 (by decide) ea34 o_a34 (by decide)
          have f0 : FRI _ _ _ (sI S28 a34 ((x36 * (5 : Int32)) + w19).toNatClampNeg x37) := fri_aI (S := S28) g0 f0 o_a34 (by decide)
          have fL16 : FRI _ _ _ (sI S28 a34 ((x36 * (5 : Int32)) + w19).toNatClampNeg x37) := fri_aI (S := S28) gL15 fL16 o_a34 (by decide)
          have d_x36 : x36 = fI (sI S28 a34 ((x36 * (5 : Int32)) + w19).toNatClampNeg x37) a1 5 := d_x36.trans (sI_ne (S := S28) o_a34 o_a1 (by decide) 5).symm
          have d_x37 : x37 = fI (sI S28 a34 ((x36 * (5 : Int32)) + w19).toNatClampNeg x37) v0 9 := d_x37.trans (sI_ne (S := S28) o_a34 o_v0 (by decide) 9).symm
          intro x39 ex39
          exact ih21 _ _ _ ⟨hI, gL15, fL16, rfl, hT, (q831 bb_x3 c7 i1 c22 c26 p_y31 bb_x27 c32 q_x37 ex39)⟩ (mu_up (q832 bb_x3 c7 i1 c22 c26 p_y31 bb_x27 c32 q_x37 ex39) (q833 bb_x3 c7 i1 c22 c26 p_y31 bb_x27 c32 q_x37 ex39))
        · exact hq _ _ hI g0 f0 (Or.inl rfl) hT
      · refine ⟨o_v0, ?_⟩
        refine m_X4_sign hI o_v0 hT (fun x40 S41 hI g42 fc43 b_x40 p_x40 => ?_)
        obtain hT := p_x40
        have l_a9 := (gr_len g42 o_a9).trans l_a9
        have d_x11 := d_x11.trans (fri_at fc43 (by decide) (by decide) o_a1).symm
        have ea1 := (frr_at fc43 (by decide) (by decide) o_v0).trans ea1
        have ea9 := (frr_at fc43 (by decide) (by decide) o_a1).trans ea9
        have f0 := fri_tr (S := S14) g0 f0 fc43 (by decide) (by decide)
        have fL16 := fri_tr (S := S14) gL15 fL16 fc43 (by decide) (by decide)
        have o_a1 := gr_ob g42 o_a1
        have o_a9 := gr_ob g42 o_a9
        have o_v0 := gr_ob g42 o_v0
        have g0 := gr_tr (T := S14) g0 g42
        have gL15 := gr_tr (T := S14) gL15 g42
        intro _ _
        have bb_x40 : x40 = 0 ∨ x40 = 1 := b_x40
        refine ⟨fun c44 => ?_, fun c44 => ?_⟩
        · exact hq _ _ hI g0 f0 (Or.inl rfl) hT
        · refine u_X4_seenLine_47 ?_
          refine ⟨o_v0, ?_⟩
          refine m_X4_whole hI o_v0 hT (fun x45 S46 hI g47 fc48 b_x45 p_x45 => ?_)
          obtain ⟨hT, pf9_S46⟩ := p_x45
          have l_a9 := (gr_len g47 o_a9).trans l_a9
          have d_x11 := d_x11.trans (fri_at fc48 (by decide) (by decide) o_a1).symm
          have ea1 := (frr_at fc48 (by decide) (by decide) o_v0).trans ea1
          have ea9 := (frr_at fc48 (by decide) (by decide) o_a1).trans ea9
          have f0 := fri_tr (S := S41) g0 f0 fc48 (by decide) (by decide)
          have fL16 := fri_tr (S := S41) gL15 fL16 fc48 (by decide) (by decide)
          have o_a1 := gr_ob g47 o_a1
          have o_a9 := gr_ob g47 o_a9
          have o_v0 := gr_ob g47 o_v0
          have g0 := gr_tr (T := S41) g0 g47
          have gL15 := gr_tr (T := S41) gL15 g47
          obtain ⟨y49, d_y49⟩ : ∃ z : Int32, z = fI S46 v0 9 := ⟨_, rfl⟩
          have p_y49 : x45 = 1 → (0 : Int32) ≤ y49 ∧ y49 ≤ (999 : Int32) := by rw [d_y49]; exact pf9_S46
          intro _ _
          have bb_x45 : x45 = 0 ∨ x45 = 1 := b_x45
          refine ⟨fun c50 => ?_, fun c50 => ?_⟩
          · refine ⟨a1, ea1, ?_⟩
            refine ⟨o_a1, ?_⟩
            obtain ⟨a52, ea52, o_a52, l_a52⟩ := shl 20 rfl hI o_a1
            refine ⟨a52, ea52, ?_⟩
            refine ⟨a1, ea1, ?_⟩
            refine ⟨o_a1, ?_⟩
            intro x54 ex54
            have r_x54 : (0 : Int32) ≤ x54 ∧ x54 ≤ (4 : Int32) := by rw [ex54]; exact nu 15 rfl hI o_a1
            have q_x54 : x54 = x11 := ex54.trans d_x11.symm
            have d_x54 := ex54
            intro x55 ex55
            have q_x55 : x55 = y49 := ex55.trans d_y49.symm
            have d_x55 := ex55
            refine ⟨o_a52, ?_⟩
            have i56 : vp_in (x54 * (5 : Int32)) + w19 (hN _ a52) := (vin l_a52 (m := 20) (by decide) (q834 hr_y2 r_y2 bb_x3 c7 r_x11 q_x11 i1 c22 c26 bb_x40 c44 p_y49 bb_x45 c50 r_x54 q_x54 q_x55))
            refine ⟨i56, ?_⟩
            have hI := iv_aI (i := ((x54 * (5 : Int32)) + w19).toNatClampNeg) (v := x55) hI o_a1 (by decide) ea52 o_a52 (by decide)
            have f0 : FRI _ _ _ (sI S46 a52 ((x54 * (5 : Int32)) + w19).toNatClampNeg x55) := fri_aI (S := S46) g0 f0 o_a52 (by decide)
            have fL16 : FRI _ _ _ (sI S46 a52 ((x54 * (5 : Int32)) + w19).toNatClampNeg x55) := fri_aI (S := S46) gL15 fL16 o_a52 (by decide)
            have d_x54 : x54 = fI (sI S46 a52 ((x54 * (5 : Int32)) + w19).toNatClampNeg x55) a1 5 := d_x54.trans (sI_ne (S := S46) o_a52 o_a1 (by decide) 5).symm
            have d_x55 : x55 = fI (sI S46 a52 ((x54 * (5 : Int32)) + w19).toNatClampNeg x55) v0 9 := d_x55.trans (sI_ne (S := S46) o_a52 o_v0 (by decide) 9).symm
            intro x57 ex57
            exact ih21 _ _ _ ⟨hI, gL15, fL16, rfl, hT, (q835 bb_x3 c7 i1 c22 c26 bb_x40 c44 p_y49 bb_x45 c50 q_x55 ex57)⟩ (mu_up (q836 bb_x3 c7 i1 c22 c26 bb_x40 c44 p_y49 bb_x45 c50 q_x55 ex57) (q837 bb_x3 c7 i1 c22 c26 bb_x40 c44 p_y49 bb_x45 c50 q_x55 ex57))
          · exact hq _ _ hI g0 f0 (Or.inl rfl) hT
  · exact hq _ _ hI g0 f0 (Or.inl rfl) hT
set_option maxHeartbeats 4000000 in
set_option maxRecDepth 20000 in
theorem m_X4_walkerLine {v0 : Nat} {Q : Int32 → HS → Prop} {S : HS} (hI : IV S) (o_v0 : ob S v0 4)   (hrm : RM S v0 4 4) (hT : TX S v0) (hq : ∀ (r : Int32) (T : HS), IV T → Gr S T → FRI [(4, 0), (4, 1), (4, 4), (4, 6), (4, 7), (4, 9), (4, 10), (6, 0), (6, 1), (6, 2), (6, 3), (6, 4), (6, 5), (6, 6), (8, 4)] [] S T → bl r → (TX T v0) → Q r T) : P_X4_walkerLine v0 Q S := by
  have g0 := gr_rf S
  have f0 := fri_rf [(4, 0), (4, 1), (4, 4), (4, 6), (4, 7), (4, 9), (4, 10), (6, 0), (6, 1), (6, 2), (6, 3), (6, 4), (6, 5), (6, 6), (8, 4)] [] S
  obtain ⟨a1, ea1, o_a1, -⟩ := sh 12 rfl hI o_v0
  obtain ⟨y2, d_y2⟩ : ∃ z : Int32, z = fI S a1 4 := ⟨_, rfl⟩
  have hr_y2 : y2 < (4 : Int32) := by rw [d_y2]; exact hrm _ ea1
  have r_y2 : (0 : Int32) ≤ y2 ∧ y2 ≤ (4 : Int32) := by rw [d_y2]; exact nu 14 rfl hI o_a1
  refine u_X4_walkerLine ?_
  refine u_X4_walkerLine_0 ?_
  refine ⟨o_v0, ?_⟩
  refine ⟨a1, ea1, ?_⟩
  refine ⟨o_a1, ?_⟩
  obtain ⟨a4, ea4, o_a4, l_a4⟩ := shl 18 rfl hI o_a1
  refine ⟨a4, ea4, ?_⟩
  refine ⟨a1, ea1, ?_⟩
  refine ⟨o_a1, ?_⟩
  intro x6 ex6
  have r_x6 : (0 : Int32) ≤ x6 ∧ x6 ≤ (4 : Int32) := by rw [ex6]; exact nu 14 rfl hI o_a1
  have q_x6 : x6 = y2 := ex6.trans d_y2.symm
  have d_x6 := ex6
  refine ⟨o_a4, ?_⟩
  have i8 : vp_in x6 (hN _ a4) := (vin l_a4 (m := 4) (by decide) (q793 hr_y2 r_y2 r_x6 q_x6))
  obtain ⟨a7, ea7, o_a7⟩ := ae hI o_a4 (by decide) (by decide) i8
  replace o_a7 : ob _ a7 6 := o_a7
  refine ⟨i8, a7, ea7, ?_⟩
  refine ⟨a1, ea1, ?_⟩
  refine ⟨o_a1, ?_⟩
  intro x10 ex10
  have r_x10 : (0 : Int32) ≤ x10 ∧ x10 ≤ (4 : Int32) := by rw [ex10]; exact nu 14 rfl hI o_a1
  have q_x10 : x10 = x6 := ex10.trans d_x6.symm
  have d_x10 := ex10
  refine m_X4_newName hI o_v0 hT (fun x11 S12 hI g13 fc14 b_x11 p_x11 => ?_)
  obtain hT := p_x11
  have l_a4 := (gr_len g13 o_a4).trans l_a4
  have d_x10 := d_x10.trans (fri_at fc14 (by decide) (by decide) o_a1).symm
  have ea1 := (frr_at fc14 (by decide) (by decide) o_v0).trans ea1
  have ea4 := (frr_at fc14 (by decide) (by decide) o_a1).trans ea4
  have f0 := fri_tr (S := S) g0 f0 fc14 (by decide) (by decide)
  have o_a1 := gr_ob g13 o_a1
  have o_a4 := gr_ob g13 o_a4
  have o_a7 := gr_ob g13 o_a7
  have o_v0 := gr_ob g13 o_v0
  have g0 := gr_tr (T := S) g0 g13
  intro _ _
  have bb_x11 : x11 = 0 ∨ x11 = 1 := b_x11
  refine ⟨fun c15 => ?_, fun c15 => ?_⟩
  · exact hq _ _ hI g0 f0 (Or.inl rfl) hT
  · refine m_X4_kindOf hI o_v0 o_a7 hT (fun x16 S17 hI g18 fc19 b_x16 p_x16 => ?_)
    obtain hT := p_x16
    have l_a4 := (gr_len g18 o_a4).trans l_a4
    have d_x10 := d_x10.trans (fri_at fc19 (by decide) (by decide) o_a1).symm
    have ea1 := (frr_at fc19 (by decide) (by decide) o_v0).trans ea1
    have ea4 := (frr_at fc19 (by decide) (by decide) o_a1).trans ea4
    have f0 := fri_tr (S := S12) g0 f0 fc19 (by decide) (by decide)
    have o_a1 := gr_ob g18 o_a1
    have o_a4 := gr_ob g18 o_a4
    have o_a7 := gr_ob g18 o_a7
    have o_v0 := gr_ob g18 o_v0
    have g0 := gr_tr (T := S12) g0 g18
    intro _ _
    have bb_x16 : x16 = 0 ∨ x16 = 1 := b_x16
    refine ⟨fun c20 => ?_, fun c20 => ?_⟩
    · exact hq _ _ hI g0 f0 (Or.inl rfl) hT
    · refine m_X4_bodyOf hI o_v0 o_a7 hT (fun x21 S22 hI g23 fc24 b_x21 p_x21 => ?_)
      obtain hT := p_x21
      have l_a4 := (gr_len g23 o_a4).trans l_a4
      have d_x10 := d_x10.trans (fri_at fc24 (by decide) (by decide) o_a1).symm
      have ea1 := (frr_at fc24 (by decide) (by decide) o_v0).trans ea1
      have ea4 := (frr_at fc24 (by decide) (by decide) o_a1).trans ea4
      have f0 := fri_tr (S := S17) g0 f0 fc24 (by decide) (by decide)
      have o_a1 := gr_ob g23 o_a1
      have o_a4 := gr_ob g23 o_a4
      have o_a7 := gr_ob g23 o_a7
      have o_v0 := gr_ob g23 o_v0
      have g0 := gr_tr (T := S17) g0 g23
      intro _ _
      have bb_x21 : x21 = 0 ∨ x21 = 1 := b_x21
      refine ⟨fun c25 => ?_, fun c25 => ?_⟩
      · refine m_X4_wordAndWhole hI o_v0 (by decide) hT (fun x26 S27 hI g28 fc29 b_x26 p_x26 => ?_)
        obtain ⟨hT, pf9_S27⟩ := p_x26
        have l_a4 := (gr_len g28 o_a4).trans l_a4
        have d_x10 := d_x10.trans (fri_at fc29 (by decide) (by decide) o_a1).symm
        have ea1 := (frr_at fc29 (by decide) (by decide) o_v0).trans ea1
        have ea4 := (frr_at fc29 (by decide) (by decide) o_a1).trans ea4
        have f0 := fri_tr (S := S22) g0 f0 fc29 (by decide) (by decide)
        have o_a1 := gr_ob g28 o_a1
        have o_a4 := gr_ob g28 o_a4
        have o_a7 := gr_ob g28 o_a7
        have o_v0 := gr_ob g28 o_v0
        have g0 := gr_tr (T := S22) g0 g28
        obtain ⟨y30, d_y30⟩ : ∃ z : Int32, z = fI S27 v0 9 := ⟨_, rfl⟩
        have p_y30 : x26 = 1 → (1 : Int32) ≤ y30 ∧ y30 ≤ (9 : Int32) := by rw [d_y30]; exact pf9_S27
        intro _ _
        have bb_x26 : x26 = 0 ∨ x26 = 1 := b_x26
        refine ⟨fun c31 => ?_, fun c31 => ?_⟩
        · intro x32 ex32
          have q_x32 : x32 = y30 := ex32.trans d_y30.symm
          have d_x32 := ex32
          refine ⟨o_a7, ?_⟩
          have hI := iv_sI (j := 5) (v := x32) hI o_a7 (by decide) (nu_one (lo := (0 : Int32)) (hi := (9 : Int32)) (by decide) (q794 bb_x11 c15 bb_x16 c20 bb_x21 c25 p_y30 bb_x26 c31 q_x32))
          have f0 : FRI _ _ _ (sI S27 a7 5 x32) := fri_sI (S := S27) g0 f0 o_a7 (by decide)
          have d_x10 : x10 = fI (sI S27 a7 5 x32) a1 4 := d_x10.trans (sI_ne (S := S27) o_a7 o_a1 (by decide) 4).symm
          have d_x32 : x32 = fI (sI S27 a7 5 x32) v0 9 := d_x32.trans (sI_ne (S := S27) o_a7 o_v0 (by decide) 9).symm
          have d_x32 : x32 = fI (sI S27 a7 5 x32) a7 5 := (u2_self _ _ _ _).symm
          intro x33 ex33
          have r_x33 : (0 : Int32) ≤ x33 ∧ x33 ≤ (9 : Int32) := by rw [ex33]; exact nu 4 rfl hI o_a7
          have q_x33 : x33 = x32 := ex33.trans d_x32.symm
          have d_x33 := ex33
          refine m_X4_wordAndWhole hI o_v0 (by decide) hT (fun x34 S35 hI g36 fc37 b_x34 p_x34 => ?_)
          obtain ⟨hT, pf9_S35⟩ := p_x34
          have l_a4 := (gr_len g36 o_a4).trans l_a4
          have d_x10 := d_x10.trans (fri_at fc37 (by decide) (by decide) o_a1).symm
          have d_x33 := d_x33.trans (fri_at fc37 (by decide) (by decide) o_a7).symm
          have ea1 := (frr_at fc37 (by decide) (by decide) o_v0).trans ea1
          have ea4 := (frr_at fc37 (by decide) (by decide) o_a1).trans ea4
          have f0 := fri_tr (S := sI S27 a7 5 x32) g0 f0 fc37 (by decide) (by decide)
          have o_a1 := gr_ob g36 o_a1
          have o_a4 := gr_ob g36 o_a4
          have o_a7 := gr_ob g36 o_a7
          have o_v0 := gr_ob g36 o_v0
          have g0 := gr_tr (T := sI S27 a7 5 x32) g0 g36
          obtain ⟨y38, d_y38⟩ : ∃ z : Int32, z = fI S35 v0 9 := ⟨_, rfl⟩
          have p_y38 : x34 = 1 → x33 ≤ y38 ∧ y38 ≤ (9 : Int32) := by rw [d_y38]; exact pf9_S35
          intro _ _
          have bb_x34 : x34 = 0 ∨ x34 = 1 := b_x34
          refine ⟨fun c39 => ?_, fun c39 => ?_⟩
          · intro x40 ex40
            have q_x40 : x40 = y38 := ex40.trans d_y38.symm
            have d_x40 := ex40
            have hI := iv_sI (j := 6) (v := x40) hI o_a7 (by decide) (nu_one (lo := (0 : Int32)) (hi := (9 : Int32)) (by decide) (q795 bb_x11 c15 bb_x16 c20 bb_x21 c25 p_y30 bb_x26 c31 q_x32 r_x33 q_x33 p_y38 bb_x34 c39 q_x40))
            have f0 : FRI _ _ _ (sI S35 a7 6 x40) := fri_sI (S := S35) g0 f0 o_a7 (by decide)
            have d_x10 : x10 = fI (sI S35 a7 6 x40) a1 4 := d_x10.trans (sI_ne (S := S35) o_a7 o_a1 (by decide) 4).symm
            have d_x33 : x33 = fI (sI S35 a7 6 x40) a7 5 := d_x33.trans (rd_j (by decide)).symm
            have d_x40 : x40 = fI (sI S35 a7 6 x40) v0 9 := d_x40.trans (sI_ne (S := S35) o_a7 o_v0 (by decide) 9).symm
            have d_x40 : x40 = fI (sI S35 a7 6 x40) a7 6 := (u2_self _ _ _ _).symm
            refine ⟨a1, ea1, ?_⟩
            refine ⟨o_a1, ?_⟩
            intro x42 ex42
            have r_x42 : (0 : Int32) ≤ x42 ∧ x42 ≤ (4 : Int32) := by rw [ex42]; exact nu 14 rfl hI o_a1
            have q_x42 : x42 = x10 := ex42.trans d_x10.symm
            have d_x42 := ex42
            intro x43 ex43
            have hI := iv_sI (j := 4) (v := x43) hI o_a1 (by decide) (nu_one (lo := (0 : Int32)) (hi := (4 : Int32)) (by decide) (q796 hr_y2 r_y2 r_x6 q_x6 r_x10 q_x10 bb_x11 c15 bb_x16 c20 bb_x21 c25 p_y30 bb_x26 c31 q_x32 r_x33 q_x33 p_y38 bb_x34 c39 q_x40 r_x42 q_x42 ex43))
            have f0 : FRI _ _ _ (sI (sI S35 a7 6 x40) a1 4 x43) := fri_sI (S := sI S35 a7 6 x40) g0 f0 o_a1 (by decide)
            have d_x33 : x33 = fI (sI (sI S35 a7 6 x40) a1 4 x43) a7 5 := d_x33.trans (sI_ne (S := sI S35 a7 6 x40) o_a1 o_a7 (by decide) 5).symm
            have d_x40 : x40 = fI (sI (sI S35 a7 6 x40) a1 4 x43) v0 9 := d_x40.trans (sI_ne (S := sI S35 a7 6 x40) o_a1 o_v0 (by decide) 9).symm
            have d_x40 : x40 = fI (sI (sI S35 a7 6 x40) a1 4 x43) a7 6 := d_x40.trans (sI_ne (S := sI S35 a7 6 x40) o_a1 o_a7 (by decide) 6).symm
            have d_x43 : x43 = fI (sI (sI S35 a7 6 x40) a1 4 x43) a1 4 := (u2_self _ _ _ _).symm
            exact hq _ _ hI g0 f0 (Or.inr rfl) hT
          · exact hq _ _ hI g0 f0 (Or.inl rfl) hT
        · exact hq _ _ hI g0 f0 (Or.inl rfl) hT
      · exact hq _ _ hI g0 f0 (Or.inl rfl) hT
set_option maxHeartbeats 4000000 in
set_option maxRecDepth 20000 in
theorem m_X4_worldLine {v0 : Nat} {Q : Int32 → HS → Prop} {S : HS} (hI : IV S) (o_v0 : ob S v0 4)    (hT : TX S v0) (hq : ∀ (r : Int32) (T : HS), IV T → Gr S T → FRI [(4, 0), (4, 1), (4, 4), (4, 6), (4, 7), (4, 9), (8, 0)] [] S T → bl r → (TX T v0) → Q r T) : P_X4_worldLine v0 Q S := by
  have g0 := gr_rf S
  have f0 := fri_rf [(4, 0), (4, 1), (4, 4), (4, 6), (4, 7), (4, 9), (8, 0)] [] S
  refine u_X4_worldLine ?_
  refine u_X4_worldLine_0 ?_
  refine ⟨o_v0, ?_⟩
  obtain ⟨a1, ea1, o_a1, -⟩ := sh 12 rfl hI o_v0
  refine ⟨a1, ea1, ?_⟩
  refine ⟨o_a1, ?_⟩
  refine m_X8_isTold hI o_a1 (fun x2 S3 hI2 g4 b_x2 p_x2 => ?_)
  subst p_x2
  intro _ _
  have bb_x2 : x2 = 0 ∨ x2 = 1 := b_x2
  refine ⟨fun c6 => ?_, fun c6 => ?_⟩
  · refine m_X4_next hI o_v0 hT (fun S8 hI g9 fc10 p_S8 => ?_)
    obtain hT := p_S8
    have ea1 := (frr_at fc10 (by decide) (by decide) o_v0).trans ea1
    have f0 := fri_tr (S := S) g0 f0 fc10 (by decide) (by decide)
    have o_a1 := gr_ob g9 o_a1
    have o_v0 := gr_ob g9 o_v0
    have g0 := gr_tr (T := S) g0 g9
    intro _
    refine m_X4_wordAndWhole hI o_v0 (by decide) hT (fun x11 S12 hI g13 fc14 b_x11 p_x11 => ?_)
    obtain ⟨hT, pf9_S12⟩ := p_x11
    have ea1 := (frr_at fc14 (by decide) (by decide) o_v0).trans ea1
    have f0 := fri_tr (S := S8) g0 f0 fc14 (by decide) (by decide)
    have o_a1 := gr_ob g13 o_a1
    have o_v0 := gr_ob g13 o_v0
    have g0 := gr_tr (T := S8) g0 g13
    obtain ⟨y15, d_y15⟩ : ∃ z : Int32, z = fI S12 v0 9 := ⟨_, rfl⟩
    have p_y15 : x11 = 1 → (5 : Int32) ≤ y15 ∧ y15 ≤ (60 : Int32) := by rw [d_y15]; exact pf9_S12
    intro _ _
    have bb_x11 : x11 = 0 ∨ x11 = 1 := b_x11
    refine ⟨fun c16 => ?_, fun c16 => ?_⟩
    · refine ⟨a1, ea1, ?_⟩
      intro x18 ex18
      have q_x18 : x18 = y15 := ex18.trans d_y15.symm
      have d_x18 := ex18
      refine ⟨o_a1, ?_⟩
      have hI := iv_sI (j := 0) (v := x18) hI o_a1 (by decide) (nu_one (lo := (0 : Int32)) (hi := (60 : Int32)) (by decide) (q782 bb_x2 c6 p_y15 bb_x11 c16 q_x18))
      have f0 : FRI _ _ _ (sI S12 a1 0 x18) := fri_sI (S := S12) g0 f0 o_a1 (by decide)
      have d_x18 : x18 = fI (sI S12 a1 0 x18) v0 9 := d_x18.trans (sI_ne (S := S12) o_a1 o_v0 (by decide) 9).symm
      have d_x18 : x18 = fI (sI S12 a1 0 x18) a1 0 := (u2_self _ _ _ _).symm
      exact hq _ _ hI g0 f0 (Or.inr rfl) hT
    · exact hq _ _ hI g0 f0 (Or.inl rfl) hT
  · refine u_X4_fail ?_
    refine u_X4_fail_0 ?_
    refine ⟨o_v0, ?_⟩
    have hI := iv_sI (j := 0) (v := (3 : Int32)) hI o_v0 (by decide) (nu_free (by decide))
    have f0 : FRI _ _ _ (sI S v0 0 (3 : Int32)) := fri_sI (S := S) g0 f0 o_v0 (by decide)
    obtain ⟨y19, hy19⟩ : ∃ z : Int32, z = (3 : Int32) := ⟨_, rfl⟩
    have d_y19 : y19 = fI (sI S v0 0 (3 : Int32)) v0 0 := hy19.trans (u2_self _ _ _ _).symm
    intro x20 ex20
    have d_x20 := ex20
    have hI := iv_sI (j := 1) (v := x20) hI o_v0 (by decide) (nu_free (by decide))
    have f0 : FRI _ _ _ (sI (sI S v0 0 (3 : Int32)) v0 1 x20) := fri_sI (S := sI S v0 0 (3 : Int32)) g0 f0 o_v0 (by decide)
    have d_y19 : y19 = fI (sI (sI S v0 0 (3 : Int32)) v0 1 x20) v0 0 := d_y19.trans (rd_j (by decide)).symm
    have d_x20 : x20 = fI (sI (sI S v0 0 (3 : Int32)) v0 1 x20) v0 7 := d_x20.trans (rd_j (by decide)).symm
    have d_x20 : x20 = fI (sI (sI S v0 0 (3 : Int32)) v0 1 x20) v0 1 := (u2_self _ _ _ _).symm
    intro _ _
    exact hq _ _ hI g0 f0 (Or.inl rfl) hT
set_option maxHeartbeats 4000000 in
set_option maxRecDepth 20000 in
theorem m_X4_read {v0 : Nat} {v1 : Nat} {v2 : Int32} {Q : Int32 → HS → Prop} {S : HS} (hI : IV S) (o_v0 : ob S v0 4) (o_v1 : ob S v1 12) (l_v1 : hN S v1 = 900)  (h2 : 0 ≤ v2)  (hq : ∀ (r : Int32) (T : HS), IV T → Gr S T → FRI [(3, 0), (3, 1), (3, 2), (3, 3), (3, 4), (4, 0), (4, 1), (4, 3), (4, 4), (4, 6), (4, 7), (4, 9), (4, 10), (5, 0), (5, 1), (5, 2), (5, 3), (5, 4), (6, 0), (6, 1), (6, 2), (6, 3), (6, 4), (6, 5), (6, 6), (8, 0), (8, 1), (8, 2), (8, 3), (8, 4), (8, 5)] [(4, 2)] S T → bl r → Q r T) : P_X4_read v0 v1 v2 Q S := sorry
set_option maxHeartbeats 4000000 in
set_option maxRecDepth 20000 in
theorem m_X5_endOf {v0 : Nat} {v1 : Int32} {Q : Int32 → HS → Prop} {S : HS} (hI : IV S) (o_v0 : ob S v0 5)     (hq : ∀ (r : Int32) (T : HS), IV T → Gr S T → (S = T) → Q r T) : P_X5_endOf v0 v1 Q S := by
  have g0 := gr_rf S
  refine u_X5_endOf ?_
  refine u_X5_endOf_0 ?_
  refine ⟨fun c1 => ?_, fun c1 => ?_⟩
  · refine ⟨o_v0, ?_⟩
    intro x2 ex2
    have d_x2 := ex2
    exact hq _ _ hI g0 rfl
  · refine ⟨o_v0, ?_⟩
    intro x3 ex3
    have d_x3 := ex3
    exact hq _ _ hI g0 rfl
set_option maxHeartbeats 4000000 in
set_option maxRecDepth 20000 in
theorem m_X5_minutesAt {v0 : Nat} {v1 : Int32} {Q : Int32 → HS → Prop} {S : HS} (hI : IV S) (o_v0 : ob S v0 5)     (hq : ∀ (r : Int32) (T : HS), IV T → Gr S T → (S = T) → Q r T) : P_X5_minutesAt v0 v1 Q S := by
  have g0 := gr_rf S
  refine u_X5_minutesAt ?_
  refine u_X5_minutesAt_0 ?_
  refine ⟨fun c1 => ?_, fun c1 => ?_⟩
  · exact hq _ _ hI g0 rfl
  · refine ⟨o_v0, ?_⟩
    intro x2 ex2
    have d_x2 := ex2
    refine ⟨(q64 c1), ?_⟩
    intro x3 ex3
    exact hq _ _ hI g0 rfl
set_option maxHeartbeats 4000000 in
set_option maxRecDepth 20000 in
theorem m_X5_startOf {v0 : Nat} {v1 : Int32} {Q : Int32 → HS → Prop} {S : HS} (hI : IV S) (o_v0 : ob S v0 5)     (hq : ∀ (r : Int32) (T : HS), IV T → Gr S T → (S = T) → Q r T) : P_X5_startOf v0 v1 Q S := by
  have g0 := gr_rf S
  refine u_X5_startOf ?_
  refine u_X5_startOf_0 ?_
  refine ⟨fun c1 => ?_, fun c1 => ?_⟩
  · refine ⟨o_v0, ?_⟩
    intro x2 ex2
    have d_x2 := ex2
    exact hq _ _ hI g0 rfl
  · refine ⟨o_v0, ?_⟩
    intro x3 ex3
    have d_x3 := ex3
    exact hq _ _ hI g0 rfl
set_option maxHeartbeats 4000000 in
set_option maxRecDepth 20000 in
theorem m_X5_tell {v0 : Nat} {v1 : Int32} {Q : Int32 → HS → Prop} {S : HS} (hI : IV S) (o_v0 : ob S v0 5)     (hq : ∀ (r : Int32) (T : HS), IV T → Gr S T → (S = T) → Q r T) : P_X5_tell v0 v1 Q S := by
  have g0 := gr_rf S
  refine u_X5_tell ?_
  refine u_X5_tell_0 ?_
  refine ⟨fun c1 => ?_, fun c1 => ?_, fun c1 => ?_, fun c1 => ?_, fun c1 => ?_⟩
  · refine ⟨o_v0, ?_⟩
    intro x2 ex2
    have d_x2 := ex2
    exact hq _ _ hI g0 rfl
  · refine ⟨o_v0, ?_⟩
    intro x3 ex3
    have d_x3 := ex3
    exact hq _ _ hI g0 rfl
  · refine ⟨o_v0, ?_⟩
    intro x4 ex4
    have d_x4 := ex4
    exact hq _ _ hI g0 rfl
  · refine ⟨o_v0, ?_⟩
    intro x5 ex5
    have d_x5 := ex5
    exact hq _ _ hI g0 rfl
  · refine ⟨o_v0, ?_⟩
    intro x6 ex6
    have d_x6 := ex6
    exact hq _ _ hI g0 rfl
set_option maxHeartbeats 4000000 in
set_option maxRecDepth 20000 in
theorem m_X5_touches {v0 : Nat} {v1 : Int32} {Q : Int32 → HS → Prop} {S : HS} (hI : IV S) (o_v0 : ob S v0 5)     (hq : ∀ (r : Int32) (T : HS), IV T → Gr S T → bl r → (S = T) → Q r T) : P_X5_touches v0 v1 Q S := by
  have g0 := gr_rf S
  refine u_X5_touches ?_
  refine u_X5_touches_0 ?_
  refine ⟨o_v0, ?_⟩
  intro x1 ex1
  have d_x1 := ex1
  refine ⟨fun c2 => ?_, fun c2 => ?_⟩
  · exact hq _ _ hI g0 (Or.inr rfl) rfl
  · intro x3 ex3
    have d_x3 := ex3
    refine ⟨fun c4 => ?_, fun c4 => ?_⟩
    · exact hq _ _ hI g0 (Or.inl rfl) rfl
    · exact hq _ _ hI g0 (Or.inr rfl) rfl
set_option maxHeartbeats 4000000 in
set_option maxRecDepth 20000 in
theorem m_X6_tell {v0 : Nat} {v1 : Int32} {Q : Int32 → HS → Prop} {S : HS} (hI : IV S) (o_v0 : ob S v0 6)     (hq : ∀ (r : Int32) (T : HS), IV T → Gr S T → (S = T) → Q r T) : P_X6_tell v0 v1 Q S := by
  have g0 := gr_rf S
  refine u_X6_tell ?_
  refine u_X6_tell_0 ?_
  refine ⟨fun c1 => ?_, fun c1 => ?_, fun c1 => ?_, fun c1 => ?_, fun c1 => ?_, fun c1 => ?_, fun c1 => ?_⟩
  · refine ⟨o_v0, ?_⟩
    intro x2 ex2
    have r_x2 : (0 : Int32) ≤ x2 ∧ x2 ≤ (9 : Int32) := by rw [ex2]; exact nu 5 rfl hI o_v0
    have d_x2 := ex2
    exact hq _ _ hI g0 rfl
  · refine ⟨o_v0, ?_⟩
    intro x3 ex3
    have d_x3 := ex3
    exact hq _ _ hI g0 rfl
  · refine ⟨o_v0, ?_⟩
    intro x4 ex4
    have d_x4 := ex4
    exact hq _ _ hI g0 rfl
  · refine ⟨o_v0, ?_⟩
    intro x5 ex5
    have d_x5 := ex5
    exact hq _ _ hI g0 rfl
  · refine ⟨o_v0, ?_⟩
    intro x6 ex6
    have d_x6 := ex6
    exact hq _ _ hI g0 rfl
  · refine ⟨o_v0, ?_⟩
    intro x7 ex7
    have d_x7 := ex7
    exact hq _ _ hI g0 rfl
  · refine ⟨o_v0, ?_⟩
    intro x8 ex8
    have r_x8 : (0 : Int32) ≤ x8 ∧ x8 ≤ (9 : Int32) := by rw [ex8]; exact nu 4 rfl hI o_v0
    have d_x8 := ex8
    exact hq _ _ hI g0 rfl
set_option maxHeartbeats 4000000 in
set_option maxRecDepth 20000 in
theorem m_X7_addMove {v0 : Nat} {v1 : Int32} {v2 : Int32} {v3 : Int32} {v4 : Int64} {v6 : Int32} {Q : HS → Prop} {S : HS} (hI : IV S) (o_v0 : ob S v0 7)    (hM : WM S v0) (hq : ∀ (T : HS), IV T → Gr S T → FRI [(7, 3)] [] S T → (WM T v0) → Q T) : P_X7_addMove v0 v1 v2 v3 v4 v6 Q S := by
  have g0 := gr_rf S
  have f0 := fri_rf [(7, 3)] [] S
  refine u_X7_addMove ?_
  refine u_X7_addMove_0 ?_
  refine ⟨o_v0, ?_⟩
  intro x1 ex1
  have d_x1 := ex1
  refine ⟨fun c2 => ?_, fun c2 => ?_⟩
  · exact hq _ hI g0 f0 hM
  · intro x3 ex3
    have r_x3 : (0 : Int32) ≤ x3 ∧ x3 ≤ (224 : Int32) := by rw [ex3]; exact nu 8 rfl hI o_v0
    have d_x3 := ex3
    refine ⟨fun c4 => ?_, fun c4 => ?_⟩
    · exact hq _ hI g0 f0 hM
    · intro x5 ex5
      have r_x5 : (0 : Int32) ≤ x5 ∧ x5 ≤ (224 : Int32) := by rw [ex5]; exact nu 8 rfl hI o_v0
      have q_x5 : x5 = x3 := ex5.trans d_x3.symm
      have d_x5 := ex5
      refine ⟨fun c6 => ?_, fun c6 => ?_⟩
      · obtain ⟨a7, ea7, o_a7, -⟩ := sh 24 rfl hI o_v0
        have l_a7 := wm hM 3 rfl ea7
        refine ⟨a7, ea7, ?_⟩
        intro x8 ex8
        have r_x8 : (0 : Int32) ≤ x8 ∧ x8 ≤ (224 : Int32) := by rw [ex8]; exact nu 8 rfl hI o_v0
        have q_x8 : x8 = x5 := ex8.trans d_x5.symm
        have d_x8 := ex8
        refine ⟨o_a7, ?_⟩
        intro x9 ex9
        have i10 : vp_in x8 (hN _ a7) := (vin l_a7 (m := 224) (by decide) (q389 c2 r_x3 c4 r_x5 q_x5 c6 r_x8 q_x8 ex9))
        refine ⟨i10, ?_⟩
        have hI := iv_aI (i := x8.toNatClampNeg) (v := x9) hI o_v0 (by decide) ea7 o_a7 (by decide)
        have f0 : FRI _ _ _ (sI S a7 x8.toNatClampNeg x9) := fri_aI (S := S) g0 f0 o_a7 (by decide)
        have d_x1 : x1 = fI (sI S a7 x8.toNatClampNeg x9) v0 11 := d_x1.trans (sI_ne (S := S) o_a7 o_v0 (by decide) 11).symm
        have d_x8 : x8 = fI (sI S a7 x8.toNatClampNeg x9) v0 3 := d_x8.trans (sI_ne (S := S) o_a7 o_v0 (by decide) 3).symm
        obtain ⟨a11, ea11, o_a11, -⟩ := sh 25 rfl hI o_v0
        have l_a11 := wm hM 4 rfl ea11
        refine ⟨a11, ea11, ?_⟩
        intro x12 ex12
        have r_x12 : (0 : Int32) ≤ x12 ∧ x12 ≤ (224 : Int32) := by rw [ex12]; exact nu 8 rfl hI o_v0
        have q_x12 : x12 = x8 := ex12.trans d_x8.symm
        have d_x12 := ex12
        refine ⟨o_a11, ?_⟩
        intro x13 ex13
        have i14 : vp_in x12 (hN _ a11) := (vin l_a11 (m := 224) (by decide) (q390 c2 r_x3 c4 r_x5 q_x5 c6 r_x8 q_x8 ex9 r_x12 q_x12))
        refine ⟨i14, ?_⟩
        have hI := iv_aI (i := x12.toNatClampNeg) (v := x13) hI o_v0 (by decide) ea11 o_a11 (by decide)
        have f0 : FRI _ _ _ (sI (sI S a7 x8.toNatClampNeg x9) a11 x12.toNatClampNeg x13) := fri_aI (S := sI S a7 x8.toNatClampNeg x9) g0 f0 o_a11 (by decide)
        have d_x1 : x1 = fI (sI (sI S a7 x8.toNatClampNeg x9) a11 x12.toNatClampNeg x13) v0 11 := d_x1.trans (sI_ne (S := sI S a7 x8.toNatClampNeg x9) o_a11 o_v0 (by decide) 11).symm
        have d_x12 : x12 = fI (sI (sI S a7 x8.toNatClampNeg x9) a11 x12.toNatClampNeg x13) v0 3 := d_x12.trans (sI_ne (S := sI S a7 x8.toNatClampNeg x9) o_a11 o_v0 (by decide) 3).symm
        obtain ⟨a15, ea15, o_a15, -⟩ := sh 26 rfl hI o_v0
        have l_a15 := wm hM 5 rfl ea15
        refine ⟨a15, ea15, ?_⟩
        intro x16 ex16
        have r_x16 : (0 : Int32) ≤ x16 ∧ x16 ≤ (224 : Int32) := by rw [ex16]; exact nu 8 rfl hI o_v0
        have q_x16 : x16 = x12 := ex16.trans d_x12.symm
        have d_x16 := ex16
        refine ⟨o_a15, ?_⟩
        have i17 : vp_in x16 (hN _ a15) := (vin l_a15 (m := 224) (by decide) (q391 c2 r_x3 c4 r_x5 q_x5 c6 r_x8 q_x8 ex9 r_x12 q_x12 r_x16 q_x16))
        refine ⟨i17, ?_⟩
        have hI := iv_aI (i := x16.toNatClampNeg) (v := v3) hI o_v0 (by decide) ea15 o_a15 (by decide)
        have f0 : FRI _ _ _ (sI (sI (sI S a7 x8.toNatClampNeg x9) a11 x12.toNatClampNeg x13) a15 x16.toNatClampNeg v3) := fri_aI (S := sI (sI S a7 x8.toNatClampNeg x9) a11 x12.toNatClampNeg x13) g0 f0 o_a15 (by decide)
        have d_x1 : x1 = fI (sI (sI (sI S a7 x8.toNatClampNeg x9) a11 x12.toNatClampNeg x13) a15 x16.toNatClampNeg v3) v0 11 := d_x1.trans (sI_ne (S := sI (sI S a7 x8.toNatClampNeg x9) a11 x12.toNatClampNeg x13) o_a15 o_v0 (by decide) 11).symm
        have d_x16 : x16 = fI (sI (sI (sI S a7 x8.toNatClampNeg x9) a11 x12.toNatClampNeg x13) a15 x16.toNatClampNeg v3) v0 3 := d_x16.trans (sI_ne (S := sI (sI S a7 x8.toNatClampNeg x9) a11 x12.toNatClampNeg x13) o_a15 o_v0 (by decide) 3).symm
        obtain ⟨a18, ea18, o_a18, -⟩ := sh 27 rfl hI o_v0
        have l_a18 := wm hM 6 rfl ea18
        refine ⟨a18, ea18, ?_⟩
        intro x19 ex19
        have r_x19 : (0 : Int32) ≤ x19 ∧ x19 ≤ (224 : Int32) := by rw [ex19]; exact nu 8 rfl hI o_v0
        have q_x19 : x19 = x16 := ex19.trans d_x16.symm
        have d_x19 := ex19
        refine ⟨o_a18, ?_⟩
        intro x20 ex20
        have i21 : vp_in x19 (hN _ a18) := (vin l_a18 (m := 224) (by decide) (q392 c2 r_x3 c4 r_x5 q_x5 c6 r_x8 q_x8 ex9 r_x12 q_x12 r_x16 q_x16 r_x19 q_x19))
        refine ⟨i21, ?_⟩
        have hI := iv_aJ (i := x19.toNatClampNeg) (v := x20) hI o_v0 (by decide) ea18 o_a18 (by decide)
        obtain ⟨a22, ea22, o_a22, -⟩ := sh 28 rfl hI o_v0
        have l_a22 := wm hM 7 rfl ea22
        refine ⟨a22, ea22, ?_⟩
        intro x23 ex23
        have r_x23 : (0 : Int32) ≤ x23 ∧ x23 ≤ (224 : Int32) := by rw [ex23]; exact nu 8 rfl hI o_v0
        have q_x23 : x23 = x19 := ex23.trans d_x19.symm
        have d_x23 := ex23
        refine ⟨o_a22, ?_⟩
        have i24 : vp_in x23 (hN _ a22) := (vin l_a22 (m := 224) (by decide) (q393 c2 r_x3 c4 r_x5 q_x5 c6 r_x8 q_x8 ex9 r_x12 q_x12 r_x16 q_x16 r_x19 q_x19 r_x23 q_x23))
        refine ⟨i24, ?_⟩
        have hI := iv_aI (i := x23.toNatClampNeg) (v := v6) hI o_v0 (by decide) ea22 o_a22 (by decide)
        have f0 : FRI _ _ _ (sI (sJ (sI (sI (sI S a7 x8.toNatClampNeg x9) a11 x12.toNatClampNeg x13) a15 x16.toNatClampNeg v3) a18 x19.toNatClampNeg x20) a22 x23.toNatClampNeg v6) := fri_aI (S := sJ (sI (sI (sI S a7 x8.toNatClampNeg x9) a11 x12.toNatClampNeg x13) a15 x16.toNatClampNeg v3) a18 x19.toNatClampNeg x20) g0 f0 o_a22 (by decide)
        have d_x1 : x1 = fI (sI (sJ (sI (sI (sI S a7 x8.toNatClampNeg x9) a11 x12.toNatClampNeg x13) a15 x16.toNatClampNeg v3) a18 x19.toNatClampNeg x20) a22 x23.toNatClampNeg v6) v0 11 := d_x1.trans (sI_ne (S := sJ (sI (sI (sI S a7 x8.toNatClampNeg x9) a11 x12.toNatClampNeg x13) a15 x16.toNatClampNeg v3) a18 x19.toNatClampNeg x20) o_a22 o_v0 (by decide) 11).symm
        have d_x23 : x23 = fI (sI (sJ (sI (sI (sI S a7 x8.toNatClampNeg x9) a11 x12.toNatClampNeg x13) a15 x16.toNatClampNeg v3) a18 x19.toNatClampNeg x20) a22 x23.toNatClampNeg v6) v0 3 := d_x23.trans (sI_ne (S := sJ (sI (sI (sI S a7 x8.toNatClampNeg x9) a11 x12.toNatClampNeg x13) a15 x16.toNatClampNeg v3) a18 x19.toNatClampNeg x20) o_a22 o_v0 (by decide) 3).symm
        intro x25 ex25
        have r_x25 : (0 : Int32) ≤ x25 ∧ x25 ≤ (224 : Int32) := by rw [ex25]; exact nu 8 rfl hI o_v0
        have q_x25 : x25 = x23 := ex25.trans d_x23.symm
        have d_x25 := ex25
        intro x26 ex26
        have hI := iv_sI (j := 3) (v := x26) hI o_v0 (by decide) (nu_one (lo := (0 : Int32)) (hi := (224 : Int32)) (by decide) (q394 c2 r_x3 c4 r_x5 q_x5 c6 r_x8 q_x8 ex9 r_x12 q_x12 r_x16 q_x16 r_x19 q_x19 r_x23 q_x23 r_x25 q_x25 ex26))
        have f0 : FRI _ _ _ (sI (sI (sJ (sI (sI (sI S a7 x8.toNatClampNeg x9) a11 x12.toNatClampNeg x13) a15 x16.toNatClampNeg v3) a18 x19.toNatClampNeg x20) a22 x23.toNatClampNeg v6) v0 3 x26) := fri_sI (S := sI (sJ (sI (sI (sI S a7 x8.toNatClampNeg x9) a11 x12.toNatClampNeg x13) a15 x16.toNatClampNeg v3) a18 x19.toNatClampNeg x20) a22 x23.toNatClampNeg v6) g0 f0 o_v0 (by decide)
        have d_x1 : x1 = fI (sI (sI (sJ (sI (sI (sI S a7 x8.toNatClampNeg x9) a11 x12.toNatClampNeg x13) a15 x16.toNatClampNeg v3) a18 x19.toNatClampNeg x20) a22 x23.toNatClampNeg v6) v0 3 x26) v0 11 := d_x1.trans (rd_j (by decide)).symm
        have d_x26 : x26 = fI (sI (sI (sJ (sI (sI (sI S a7 x8.toNatClampNeg x9) a11 x12.toNatClampNeg x13) a15 x16.toNatClampNeg v3) a18 x19.toNatClampNeg x20) a22 x23.toNatClampNeg v6) v0 3 x26) v0 3 := (u2_self _ _ _ _).symm
        exact hq _ hI g0 f0 hM
      · exact hq _ hI g0 f0 hM
