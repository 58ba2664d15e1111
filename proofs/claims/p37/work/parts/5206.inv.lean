set_option maxHeartbeats 4000000 in
set_option maxRecDepth 20000 in
theorem m_X4_seenLine {v0 : Nat} {Q : Int32 → HS → Prop} {S : HS} (hI : IV S) (o_v0 : ob S v0 4)   (hrm : RM S v0 5 4) (hT : TX S v0) (hq : ∀ (r : Int32) (T : HS), IV T → Gr S T → FRI [(4, 0), (4, 1), (4, 4), (4, 6), (4, 7), (4, 9), (8, 5)] [] S T → bl r → (TX T v0) → Q r T) : P_X4_seenLine v0 Q S := by
  have g0 := gr_rf S
  have f0 := fri_rf [(4, 0), (4, 1), (4, 4), (4, 6), (4, 7), (4, 9), (8, 5)] [] S
  obtain ⟨a1, ea1, o_a1, -⟩ := sh 12 rfl hI o_v0
  obtain ⟨y2, d_y2⟩ : ∃ z : Int32, z = fI S a1 5 := ⟨_, rfl⟩
  have hr_y2 : y2 < (4 : Int32) := by rw [d_y2]; exact hrm _ ea1
  have r_y2 : (0 : Int32) ≤ y2 ∧ y2 ≤ (4 : Int32) := by rw [d_y2]; exact nu 15 rfl hI o_a1
  refine u_X4_seenLine ?_
  refine u_X4_seenLine_0 ?_
  refine ⟨o_v0, ?_⟩
  refine m_X4_someWalker hI o_v0 hT (fun x3 S4 hJ g5 fc6 b_x3 p_x3 => ?_)
  have hT := p_x3
  have hI := hJ
  have d_y2 := d_y2.trans (fri_at fc6 (by decide) (by decide) o_a1).symm
  have ea1 := (frr_at fc6 (by decide) (by decide) o_v0).trans ea1
  have f0 := fri_tr (S := S) g0 f0 fc6 (by decide) (by decide)
  have o_a1 := gr_ob g5 o_a1
  have o_v0 := gr_ob g5 o_v0
  have g0 := gr_tr (T := S) g0 g5
  intro _ _
  have bb_x3 : x3 = 0 ∨ x3 = 1 := b_x3
  refine ⟨fun c7 => ?_, fun c7 => ?_⟩
  · refine ⟨a1, ea1, ?_⟩
    refine ⟨o_a1, ?_⟩
    obtain ⟨a9, ea9, o_a9, l_a9⟩ := shl 19 rfl hI o_a1
    refine ⟨a9, ea9, ?_⟩
    refine ⟨a1, ea1, ?_⟩
    refine ⟨o_a1, ?_⟩
    intro x11 ex11
    have r_x11 : (0 : Int32) ≤ x11 ∧ x11 ≤ (4 : Int32) := by rw [ex11]; exact nu 15 rfl hI o_a1
    have q_x11 : x11 = y2 := ex11.trans d_y2.symm
    have d_x11 := ex11
    intro x12 ex12
    have d_x12 := ex12
    refine ⟨o_a9, ?_⟩
    have i13 : vp_in x11 (hN _ a9) := (vin l_a9 (m := 4) (by decide) (q201 hr_y2 r_y2 bb_x3 c7 r_x11 q_x11))
    refine ⟨i13, ?_⟩
    intro S14 eS14
    have hI : IV S14 := by rw [eS14]; exact iv_aI hI o_a1 (by decide) ea9 o_a9 (by decide)
    have f0 := fr_A eS14 g0 f0 o_a9 (by decide)
    have d_x11 := rd_Ik eS14 o_a9 o_a1 (by decide) d_x11
    have d_x12 := rd_Ik eS14 o_a9 o_v0 (by decide) d_x12
    have ea1 := rf_I eS14 ea1
    have ea9 := rf_I eS14 ea9
    have hT := tx_I eS14 hT
    have l_a9 := ln_I eS14 l_a9
    have g0 := gr_I eS14 g0
    have o_a1 := ob_I eS14 o_a1
    have o_a9 := ob_I eS14 o_a9
    have o_v0 := ob_I eS14 o_v0
    refine i_X4_seenLine_30 (fun (y0 : Nat) (y1 : Int32) (Z : HS) => ((2147483647 : Int32).toInt - y1.toInt).toNat) (fun (y0 : Nat) (y1 : Int32) (Z : HS) => (IV Z) ∧ (Gr S14 Z) ∧ (FRI [(4, 0), (4, 1), (4, 4), (4, 6), (4, 7), (4, 9)] [] S14 Z) ∧ (v0 = y0) ∧ (TX Z v0) ∧ (0 ≤ y1)) ?_ _ _ _ ⟨hI, (gr_rf _), (fri_rf _ _ _), rfl, hT, (q202 bb_x3 c7)⟩
    intro w19 w21 S16 X22 ⟨hI, gL17, fL18, q20, hT, i1u15⟩ ih23
    subst q20
    have l_a9 := (gr_len gL17 o_a9).trans l_a9
    have d_x11 := d_x11.trans (fri_at fL18 (by decide) (by decide) o_a1).symm
    have ea1 := (frr_at fL18 (by decide) (by decide) o_v0).trans ea1
    have ea9 := (frr_at fL18 (by decide) (by decide) o_a1).trans ea9
    have f0 := fri_tr (S := S14) g0 f0 fL18 (by decide) (by decide)
    have o_a1 := gr_ob gL17 o_a1
    have o_a9 := gr_ob gL17 o_a9
    have o_v0 := gr_ob gL17 o_v0
    have g0 := gr_tr (T := S14) g0 gL17
    refine u_X4_seenLine_30 ?_
    refine ⟨fun c24 => ?_, fun c24 => ?_⟩
    · refine ⟨o_v0, ?_⟩
      refine ⟨a1, ea1, ?_⟩
      refine ⟨o_a1, ?_⟩
      intro x26 ex26
      have r_x26 : (0 : Int32) ≤ x26 ∧ x26 ≤ (4 : Int32) := by rw [ex26]; exact nu 15 rfl hI o_a1
      have q_x26 : x26 = x11 := ex26.trans d_x11.symm
      have d_x26 := ex26
      intro x27 ex27
      intro S28 eS28
      have hI : IV S28 := by rw [eS28]; exact iv_sI hI o_a1 (by decide) (nu_one (lo := (0 : Int32)) (hi := (4 : Int32)) (by decide) (q203 hr_y2 r_y2 bb_x3 c7 r_x11 q_x11 i1u15 c24 r_x26 q_x26 ex27))
      have f0 := fr_I eS28 g0 f0 o_a1 (by decide)
      have d_x27 := rd_Is eS28 (rfl : x27 = x27)
      have ea1 := rf_I eS28 ea1
      have ea9 := rf_I eS28 ea9
      have hT := tx_I eS28 hT
      have l_a9 := ln_I eS28 l_a9
      have g0 := gr_I eS28 g0
      have o_a1 := ob_I eS28 o_a1
      have o_a9 := ob_I eS28 o_a9
      have o_v0 := ob_I eS28 o_v0
      exact hq _ _ hI g0 f0 (Or.inr rfl) hT
    · refine ⟨fun c29 => ?_, fun c29 => ?_⟩
      · refine u_X4_seenLine_47 ?_
        refine ⟨o_v0, ?_⟩
        refine m_X4_whole hI o_v0 hT (fun x30 S31 hJ g32 fc33 b_x30 p_x30 => ?_)
        obtain ⟨hT, pf9_S31⟩ := p_x30
        have hI := hJ
        have l_a9 := (gr_len g32 o_a9).trans l_a9
        have d_x11 := d_x11.trans (fri_at fc33 (by decide) (by decide) o_a1).symm
        have ea1 := (frr_at fc33 (by decide) (by decide) o_v0).trans ea1
        have ea9 := (frr_at fc33 (by decide) (by decide) o_a1).trans ea9
        have f0 := fri_tr (S := S16) g0 f0 fc33 (by decide) (by decide)
        have fL18 := fri_tr (S := S16) gL17 fL18 fc33 (by decide) (by decide)
        have o_a1 := gr_ob g32 o_a1
        have o_a9 := gr_ob g32 o_a9
        have o_v0 := gr_ob g32 o_v0
        have g0 := gr_tr (T := S16) g0 g32
        have gL17 := gr_tr (T := S16) gL17 g32
        obtain ⟨y34, d_y34⟩ : ∃ z : Int32, z = fI S31 v0 9 := ⟨_, rfl⟩
        have p_y34 : x30 = 1 → (0 : Int32) ≤ y34 ∧ y34 ≤ (999 : Int32) := by rw [d_y34]; exact pf9_S31
        intro _ _
        have bb_x30 : x30 = 0 ∨ x30 = 1 := b_x30
        refine ⟨fun c35 => ?_, fun c35 => ?_⟩
        · refine ⟨a1, ea1, ?_⟩
          refine ⟨o_a1, ?_⟩
          obtain ⟨a37, ea37, o_a37, l_a37⟩ := shl 20 rfl hI o_a1
          refine ⟨a37, ea37, ?_⟩
          refine ⟨a1, ea1, ?_⟩
          refine ⟨o_a1, ?_⟩
          intro x39 ex39
          have r_x39 : (0 : Int32) ≤ x39 ∧ x39 ≤ (4 : Int32) := by rw [ex39]; exact nu 15 rfl hI o_a1
          have q_x39 : x39 = x11 := ex39.trans d_x11.symm
          have d_x39 := ex39
          intro x40 ex40
          have q_x40 : x40 = y34 := ex40.trans d_y34.symm
          have d_x40 := ex40
          refine ⟨o_a37, ?_⟩
          have i41 : vp_in ((x39 * (5 : Int32)) + w21) (hN _ a37) := (vin l_a37 (m := 20) (by decide) (q204 hr_y2 r_y2 bb_x3 c7 r_x11 q_x11 i1u15 c24 c29 p_y34 bb_x30 c35 r_x39 q_x39 q_x40))
          refine ⟨i41, ?_⟩
          intro S42 eS42
          have hI : IV S42 := by rw [eS42]; exact iv_aI hI o_a1 (by decide) ea37 o_a37 (by decide)
          have f0 := fr_A eS42 g0 f0 o_a37 (by decide)
          have fL18 := fr_A eS42 gL17 fL18 o_a37 (by decide)
          have d_x39 := rd_Ik eS42 o_a37 o_a1 (by decide) d_x39
          have d_x40 := rd_Ik eS42 o_a37 o_v0 (by decide) d_x40
          have ea1 := rf_I eS42 ea1
          have ea9 := rf_I eS42 ea9
          have ea37 := rf_I eS42 ea37
          have hT := tx_I eS42 hT
          have l_a37 := ln_I eS42 l_a37
          have l_a9 := ln_I eS42 l_a9
          have g0 := gr_I eS42 g0
          have gL17 := gr_I eS42 gL17
          have o_a1 := ob_I eS42 o_a1
          have o_a37 := ob_I eS42 o_a37
          have o_a9 := ob_I eS42 o_a9
          have o_v0 := ob_I eS42 o_v0
          intro x43 ex43
          exact ih23 _ _ _ ⟨hI, gL17, fL18, rfl, hT, (q205 bb_x3 c7 i1u15 c24 c29 p_y34 bb_x30 c35 q_x40 ex43)⟩ (mu_up (q206 bb_x3 c7 i1u15 c24 c29 p_y34 bb_x30 c35 q_x40 ex43) (q207 bb_x3 c7 i1u15 c24 c29 p_y34 bb_x30 c35 q_x40 ex43))
        · exact hq _ _ hI g0 f0 (Or.inl rfl) hT
      · refine ⟨o_v0, ?_⟩
        refine m_X4_sign hI o_v0 hT (fun x44 S45 hJ g46 fc47 b_x44 p_x44 => ?_)
        have hT := p_x44
        have hI := hJ
        have l_a9 := (gr_len g46 o_a9).trans l_a9
        have d_x11 := d_x11.trans (fri_at fc47 (by decide) (by decide) o_a1).symm
        have ea1 := (frr_at fc47 (by decide) (by decide) o_v0).trans ea1
        have ea9 := (frr_at fc47 (by decide) (by decide) o_a1).trans ea9
        have f0 := fri_tr (S := S16) g0 f0 fc47 (by decide) (by decide)
        have fL18 := fri_tr (S := S16) gL17 fL18 fc47 (by decide) (by decide)
        have o_a1 := gr_ob g46 o_a1
        have o_a9 := gr_ob g46 o_a9
        have o_v0 := gr_ob g46 o_v0
        have g0 := gr_tr (T := S16) g0 g46
        have gL17 := gr_tr (T := S16) gL17 g46
        intro _ _
        have bb_x44 : x44 = 0 ∨ x44 = 1 := b_x44
        refine ⟨fun c48 => ?_, fun c48 => ?_⟩
        · exact hq _ _ hI g0 f0 (Or.inl rfl) hT
        · refine u_X4_seenLine_47 ?_
          refine ⟨o_v0, ?_⟩
          refine m_X4_whole hI o_v0 hT (fun x49 S50 hJ g51 fc52 b_x49 p_x49 => ?_)
          obtain ⟨hT, pf9_S50⟩ := p_x49
          have hI := hJ
          have l_a9 := (gr_len g51 o_a9).trans l_a9
          have d_x11 := d_x11.trans (fri_at fc52 (by decide) (by decide) o_a1).symm
          have ea1 := (frr_at fc52 (by decide) (by decide) o_v0).trans ea1
          have ea9 := (frr_at fc52 (by decide) (by decide) o_a1).trans ea9
          have f0 := fri_tr (S := S45) g0 f0 fc52 (by decide) (by decide)
          have fL18 := fri_tr (S := S45) gL17 fL18 fc52 (by decide) (by decide)
          have o_a1 := gr_ob g51 o_a1
          have o_a9 := gr_ob g51 o_a9
          have o_v0 := gr_ob g51 o_v0
          have g0 := gr_tr (T := S45) g0 g51
          have gL17 := gr_tr (T := S45) gL17 g51
          obtain ⟨y53, d_y53⟩ : ∃ z : Int32, z = fI S50 v0 9 := ⟨_, rfl⟩
          have p_y53 : x49 = 1 → (0 : Int32) ≤ y53 ∧ y53 ≤ (999 : Int32) := by rw [d_y53]; exact pf9_S50
          intro _ _
          have bb_x49 : x49 = 0 ∨ x49 = 1 := b_x49
          refine ⟨fun c54 => ?_, fun c54 => ?_⟩
          · refine ⟨a1, ea1, ?_⟩
            refine ⟨o_a1, ?_⟩
            obtain ⟨a56, ea56, o_a56, l_a56⟩ := shl 20 rfl hI o_a1
            refine ⟨a56, ea56, ?_⟩
            refine ⟨a1, ea1, ?_⟩
            refine ⟨o_a1, ?_⟩
            intro x58 ex58
            have r_x58 : (0 : Int32) ≤ x58 ∧ x58 ≤ (4 : Int32) := by rw [ex58]; exact nu 15 rfl hI o_a1
            have q_x58 : x58 = x11 := ex58.trans d_x11.symm
            have d_x58 := ex58
            intro x59 ex59
            have q_x59 : x59 = y53 := ex59.trans d_y53.symm
            have d_x59 := ex59
            refine ⟨o_a56, ?_⟩
            have i60 : vp_in ((x58 * (5 : Int32)) + w21) (hN _ a56) := (vin l_a56 (m := 20) (by decide) (q208 hr_y2 r_y2 bb_x3 c7 r_x11 q_x11 i1u15 c24 c29 bb_x44 c48 p_y53 bb_x49 c54 r_x58 q_x58 q_x59))
            refine ⟨i60, ?_⟩
            intro S61 eS61
            have hI : IV S61 := by rw [eS61]; exact iv_aI hI o_a1 (by decide) ea56 o_a56 (by decide)
            have f0 := fr_A eS61 g0 f0 o_a56 (by decide)
            have fL18 := fr_A eS61 gL17 fL18 o_a56 (by decide)
            have d_x58 := rd_Ik eS61 o_a56 o_a1 (by decide) d_x58
            have d_x59 := rd_Ik eS61 o_a56 o_v0 (by decide) d_x59
            have ea1 := rf_I eS61 ea1
            have ea9 := rf_I eS61 ea9
            have ea56 := rf_I eS61 ea56
            have hT := tx_I eS61 hT
            have l_a56 := ln_I eS61 l_a56
            have l_a9 := ln_I eS61 l_a9
            have g0 := gr_I eS61 g0
            have gL17 := gr_I eS61 gL17
            have o_a1 := ob_I eS61 o_a1
            have o_a56 := ob_I eS61 o_a56
            have o_a9 := ob_I eS61 o_a9
            have o_v0 := ob_I eS61 o_v0
            intro x62 ex62
            exact ih23 _ _ _ ⟨hI, gL17, fL18, rfl, hT, (q209 bb_x3 c7 i1u15 c24 c29 bb_x44 c48 p_y53 bb_x49 c54 q_x59 ex62)⟩ (mu_up (q210 bb_x3 c7 i1u15 c24 c29 bb_x44 c48 p_y53 bb_x49 c54 q_x59 ex62) (q211 bb_x3 c7 i1u15 c24 c29 bb_x44 c48 p_y53 bb_x49 c54 q_x59 ex62))
          · exact hq _ _ hI g0 f0 (Or.inl rfl) hT
  · exact hq _ _ hI g0 f0 (Or.inl rfl) hT
set_option maxHeartbeats 4000000 in
set_option maxRecDepth 20000 in
theorem m_X4_walkerLine {v0 : Nat} {Q : Int32 → HS → Prop} {S : HS} (hI : IV S) (o_v0 : ob S v0 4)   (hrm : RM S v0 4 4) (hT : TX S v0) (hq : ∀ (r : Int32) (T : HS), IV T → Gr S T → FRI [(4, 0), (4, 1), (4, 4), (4, 6), (4, 7), (4, 9), (4, 10), (6, 0), (6, 1), (6, 2), (6, 3), (6, 4), (6, 5), (6, 6), (8, 4)] [] S T → bl r → (TX T v0) → Q r T) : P_X4_walkerLine v0 Q S := by
  have g0 := gr_rf S
  have f0 := fri_rf [(4, 0), (4, 1), (4, 4), (4, 6), (4, 7), (4, 9), (4, 10), (6, 0), (6, 1), (6, 2), (6, 3), (6, 4), (6, 5), (6, 6), (8, 4)] [] S
  obtain ⟨a1, ea1, o_a1, -⟩ := sh 12 rfl hI o_v0
  obtain ⟨y2, d_y2⟩ : ∃ z : Int32, z = fI S a1 4 := ⟨_, rfl⟩
  have hr_y2 : y2 < (4 : Int32) := by rw [d_y2]; exact hrm _ ea1
  have r_y2 : (0 : Int32) ≤ y2 ∧ y2 ≤ (4 : Int32) := by rw [d_y2]; exact nu 14 rfl hI o_a1
  refine u_X4_walkerLine ?_
  refine u_X4_walkerLine_0 ?_
  refine ⟨o_v0, ?_⟩
  refine ⟨a1, ea1, ?_⟩
  refine ⟨o_a1, ?_⟩
  obtain ⟨a4, ea4, o_a4, l_a4⟩ := shl 18 rfl hI o_a1
  refine ⟨a4, ea4, ?_⟩
  refine ⟨a1, ea1, ?_⟩
  refine ⟨o_a1, ?_⟩
  intro x6 ex6
  have r_x6 : (0 : Int32) ≤ x6 ∧ x6 ≤ (4 : Int32) := by rw [ex6]; exact nu 14 rfl hI o_a1
  have q_x6 : x6 = y2 := ex6.trans d_y2.symm
  have d_x6 := ex6
  refine ⟨o_a4, ?_⟩
  have i8 : vp_in x6 (hN _ a4) := (vin l_a4 (m := 4) (by decide) (q197 hr_y2 r_y2 r_x6 q_x6))
  obtain ⟨a7, ea7, o_a7⟩ := ae hI o_a4 (by decide) (by decide) i8
  replace o_a7 : ob _ a7 6 := o_a7
  refine ⟨i8, a7, ea7, ?_⟩
  refine ⟨a1, ea1, ?_⟩
  refine ⟨o_a1, ?_⟩
  intro x10 ex10
  have r_x10 : (0 : Int32) ≤ x10 ∧ x10 ≤ (4 : Int32) := by rw [ex10]; exact nu 14 rfl hI o_a1
  have q_x10 : x10 = x6 := ex10.trans d_x6.symm
  have d_x10 := ex10
  refine m_X4_newName hI o_v0 hT (fun x11 S12 hJ g13 fc14 b_x11 p_x11 => ?_)
  have hT := p_x11
  have hI := hJ
  have l_a4 := (gr_len g13 o_a4).trans l_a4
  have d_x10 := d_x10.trans (fri_at fc14 (by decide) (by decide) o_a1).symm
  have ea1 := (frr_at fc14 (by decide) (by decide) o_v0).trans ea1
  have ea4 := (frr_at fc14 (by decide) (by decide) o_a1).trans ea4
  have f0 := fri_tr (S := S) g0 f0 fc14 (by decide) (by decide)
  have o_a1 := gr_ob g13 o_a1
  have o_a4 := gr_ob g13 o_a4
  have o_a7 := gr_ob g13 o_a7
  have o_v0 := gr_ob g13 o_v0
  have g0 := gr_tr (T := S) g0 g13
  intro _ _
  have bb_x11 : x11 = 0 ∨ x11 = 1 := b_x11
  refine ⟨fun c15 => ?_, fun c15 => ?_⟩
  · exact hq _ _ hI g0 f0 (Or.inl rfl) hT
  · refine m_X4_kindOf hI o_v0 o_a7 hT (fun x16 S17 hJ g18 fc19 b_x16 p_x16 => ?_)
    have hT := p_x16
    have hI := hJ
    have l_a4 := (gr_len g18 o_a4).trans l_a4
    have d_x10 := d_x10.trans (fri_at fc19 (by decide) (by decide) o_a1).symm
    have ea1 := (frr_at fc19 (by decide) (by decide) o_v0).trans ea1
    have ea4 := (frr_at fc19 (by decide) (by decide) o_a1).trans ea4
    have f0 := fri_tr (S := S12) g0 f0 fc19 (by decide) (by decide)
    have o_a1 := gr_ob g18 o_a1
    have o_a4 := gr_ob g18 o_a4
    have o_a7 := gr_ob g18 o_a7
    have o_v0 := gr_ob g18 o_v0
    have g0 := gr_tr (T := S12) g0 g18
    intro _ _
    have bb_x16 : x16 = 0 ∨ x16 = 1 := b_x16
    refine ⟨fun c20 => ?_, fun c20 => ?_⟩
    · exact hq _ _ hI g0 f0 (Or.inl rfl) hT
    · refine m_X4_bodyOf hI o_v0 o_a7 hT (fun x21 S22 hJ g23 fc24 b_x21 p_x21 => ?_)
      have hT := p_x21
      have hI := hJ
      have l_a4 := (gr_len g23 o_a4).trans l_a4
      have d_x10 := d_x10.trans (fri_at fc24 (by decide) (by decide) o_a1).symm
      have ea1 := (frr_at fc24 (by decide) (by decide) o_v0).trans ea1
      have ea4 := (frr_at fc24 (by decide) (by decide) o_a1).trans ea4
      have f0 := fri_tr (S := S17) g0 f0 fc24 (by decide) (by decide)
      have o_a1 := gr_ob g23 o_a1
      have o_a4 := gr_ob g23 o_a4
      have o_a7 := gr_ob g23 o_a7
      have o_v0 := gr_ob g23 o_v0
      have g0 := gr_tr (T := S17) g0 g23
      intro _ _
      have bb_x21 : x21 = 0 ∨ x21 = 1 := b_x21
      refine ⟨fun c25 => ?_, fun c25 => ?_⟩
      · refine m_X4_wordAndWhole hI o_v0 (by decide) hT (fun x26 S27 hJ g28 fc29 b_x26 p_x26 => ?_)
        obtain ⟨hT, pf9_S27⟩ := p_x26
        have hI := hJ
        have l_a4 := (gr_len g28 o_a4).trans l_a4
        have d_x10 := d_x10.trans (fri_at fc29 (by decide) (by decide) o_a1).symm
        have ea1 := (frr_at fc29 (by decide) (by decide) o_v0).trans ea1
        have ea4 := (frr_at fc29 (by decide) (by decide) o_a1).trans ea4
        have f0 := fri_tr (S := S22) g0 f0 fc29 (by decide) (by decide)
        have o_a1 := gr_ob g28 o_a1
        have o_a4 := gr_ob g28 o_a4
        have o_a7 := gr_ob g28 o_a7
        have o_v0 := gr_ob g28 o_v0
        have g0 := gr_tr (T := S22) g0 g28
        obtain ⟨y30, d_y30⟩ : ∃ z : Int32, z = fI S27 v0 9 := ⟨_, rfl⟩
        have p_y30 : x26 = 1 → (1 : Int32) ≤ y30 ∧ y30 ≤ (9 : Int32) := by rw [d_y30]; exact pf9_S27
        intro _ _
        have bb_x26 : x26 = 0 ∨ x26 = 1 := b_x26
        refine ⟨fun c31 => ?_, fun c31 => ?_⟩
        · intro x32 ex32
          have q_x32 : x32 = y30 := ex32.trans d_y30.symm
          have d_x32 := ex32
          refine ⟨o_a7, ?_⟩
          intro S33 eS33
          have hI : IV S33 := by rw [eS33]; exact iv_sI hI o_a7 (by decide) (nu_one (lo := (0 : Int32)) (hi := (9 : Int32)) (by decide) (q198 bb_x11 c15 bb_x16 c20 bb_x21 c25 p_y30 bb_x26 c31 q_x32))
          have f0 := fr_I eS33 g0 f0 o_a7 (by decide)
          have d_x10 := rd_Ik eS33 o_a7 o_a1 (by decide) d_x10
          have d_x32 := rd_Ik eS33 o_a7 o_v0 (by decide) d_x32
          obtain ⟨y34, hy34⟩ : ∃ z : Int32, z = x32 := ⟨_, rfl⟩
          have d_y34 := rd_Is eS33 hy34
          have ea1 := rf_I eS33 ea1
          have ea4 := rf_I eS33 ea4
          have hT := tx_I eS33 hT
          have l_a4 := ln_I eS33 l_a4
          have g0 := gr_I eS33 g0
          have o_a1 := ob_I eS33 o_a1
          have o_a4 := ob_I eS33 o_a4
          have o_a7 := ob_I eS33 o_a7
          have o_v0 := ob_I eS33 o_v0
          intro x35 ex35
          have r_x35 : (0 : Int32) ≤ x35 ∧ x35 ≤ (9 : Int32) := by rw [ex35]; exact nu 4 rfl hI o_a7
          have q_x35 : x35 = y34 := ex35.trans d_y34.symm
          have d_x35 := ex35
          refine m_X4_wordAndWhole hI o_v0 (by decide) hT (fun x36 S37 hJ g38 fc39 b_x36 p_x36 => ?_)
          obtain ⟨hT, pf9_S37⟩ := p_x36
          have hI := hJ
          have l_a4 := (gr_len g38 o_a4).trans l_a4
          have d_x10 := d_x10.trans (fri_at fc39 (by decide) (by decide) o_a1).symm
          have d_x35 := d_x35.trans (fri_at fc39 (by decide) (by decide) o_a7).symm
          have ea1 := (frr_at fc39 (by decide) (by decide) o_v0).trans ea1
          have ea4 := (frr_at fc39 (by decide) (by decide) o_a1).trans ea4
          have f0 := fri_tr (S := S33) g0 f0 fc39 (by decide) (by decide)
          have o_a1 := gr_ob g38 o_a1
          have o_a4 := gr_ob g38 o_a4
          have o_a7 := gr_ob g38 o_a7
          have o_v0 := gr_ob g38 o_v0
          have g0 := gr_tr (T := S33) g0 g38
          obtain ⟨y40, d_y40⟩ : ∃ z : Int32, z = fI S37 v0 9 := ⟨_, rfl⟩
          have p_y40 : x36 = 1 → x35 ≤ y40 ∧ y40 ≤ (9 : Int32) := by rw [d_y40]; exact pf9_S37
          intro _ _
          have bb_x36 : x36 = 0 ∨ x36 = 1 := b_x36
          refine ⟨fun c41 => ?_, fun c41 => ?_⟩
          · intro x42 ex42
            have q_x42 : x42 = y40 := ex42.trans d_y40.symm
            have d_x42 := ex42
            intro S43 eS43
            have hI : IV S43 := by rw [eS43]; exact iv_sI hI o_a7 (by decide) (nu_one (lo := (0 : Int32)) (hi := (9 : Int32)) (by decide) (q199 bb_x11 c15 bb_x16 c20 bb_x21 c25 p_y30 bb_x26 c31 q_x32 hy34 r_x35 q_x35 p_y40 bb_x36 c41 q_x42))
            have f0 := fr_I eS43 g0 f0 o_a7 (by decide)
            have d_x10 := rd_Ik eS43 o_a7 o_a1 (by decide) d_x10
            have d_x35 := rd_Ij eS43 (by decide) d_x35
            have d_x42 := rd_Ik eS43 o_a7 o_v0 (by decide) d_x42
            obtain ⟨y44, hy44⟩ : ∃ z : Int32, z = x42 := ⟨_, rfl⟩
            have d_y44 := rd_Is eS43 hy44
            have ea1 := rf_I eS43 ea1
            have ea4 := rf_I eS43 ea4
            have hT := tx_I eS43 hT
            have l_a4 := ln_I eS43 l_a4
            have g0 := gr_I eS43 g0
            have o_a1 := ob_I eS43 o_a1
            have o_a4 := ob_I eS43 o_a4
            have o_a7 := ob_I eS43 o_a7
            have o_v0 := ob_I eS43 o_v0
            refine ⟨a1, ea1, ?_⟩
            refine ⟨o_a1, ?_⟩
            intro x46 ex46
            have r_x46 : (0 : Int32) ≤ x46 ∧ x46 ≤ (4 : Int32) := by rw [ex46]; exact nu 14 rfl hI o_a1
            have q_x46 : x46 = x10 := ex46.trans d_x10.symm
            have d_x46 := ex46
            intro x47 ex47
            intro S48 eS48
            have hI : IV S48 := by rw [eS48]; exact iv_sI hI o_a1 (by decide) (nu_one (lo := (0 : Int32)) (hi := (4 : Int32)) (by decide) (q200 hr_y2 r_y2 r_x6 q_x6 r_x10 q_x10 bb_x11 c15 bb_x16 c20 bb_x21 c25 p_y30 bb_x26 c31 q_x32 hy34 r_x35 q_x35 p_y40 bb_x36 c41 q_x42 hy44 r_x46 q_x46 ex47))
            have f0 := fr_I eS48 g0 f0 o_a1 (by decide)
            have d_x35 := rd_Ik eS48 o_a1 o_a7 (by decide) d_x35
            have d_x42 := rd_Ik eS48 o_a1 o_v0 (by decide) d_x42
            have d_y44 := rd_Ik eS48 o_a1 o_a7 (by decide) d_y44
            have d_x47 := rd_Is eS48 (rfl : x47 = x47)
            have ea1 := rf_I eS48 ea1
            have ea4 := rf_I eS48 ea4
            have hT := tx_I eS48 hT
            have l_a4 := ln_I eS48 l_a4
            have g0 := gr_I eS48 g0
            have o_a1 := ob_I eS48 o_a1
            have o_a4 := ob_I eS48 o_a4
            have o_a7 := ob_I eS48 o_a7
            have o_v0 := ob_I eS48 o_v0
            exact hq _ _ hI g0 f0 (Or.inr rfl) hT
          · exact hq _ _ hI g0 f0 (Or.inl rfl) hT
        · exact hq _ _ hI g0 f0 (Or.inl rfl) hT
      · exact hq _ _ hI g0 f0 (Or.inl rfl) hT
set_option maxHeartbeats 4000000 in
set_option maxRecDepth 20000 in
theorem m_X4_worldLine {v0 : Nat} {Q : Int32 → HS → Prop} {S : HS} (hI : IV S) (o_v0 : ob S v0 4)    (hT : TX S v0) (hq : ∀ (r : Int32) (T : HS), IV T → Gr S T → FRI [(4, 0), (4, 1), (4, 4), (4, 6), (4, 7), (4, 9), (8, 0)] [] S T → bl r → (TX T v0) → Q r T) : P_X4_worldLine v0 Q S := by
  have g0 := gr_rf S
  have f0 := fri_rf [(4, 0), (4, 1), (4, 4), (4, 6), (4, 7), (4, 9), (8, 0)] [] S
  refine u_X4_worldLine ?_
  refine u_X4_worldLine_0 ?_
  refine ⟨o_v0, ?_⟩
  obtain ⟨a1, ea1, o_a1, -⟩ := sh 12 rfl hI o_v0
  refine ⟨a1, ea1, ?_⟩
  refine ⟨o_a1, ?_⟩
  refine m_X8_isTold hI o_a1 (fun x2 S3 hI2 g4 b_x2 p_x2 => ?_)
  subst p_x2
  intro _ _
  have bb_x2 : x2 = 0 ∨ x2 = 1 := b_x2
  refine ⟨fun c6 => ?_, fun c6 => ?_⟩
  · refine m_X4_next hI o_v0 hT (fun S8 hJ g9 fc10 p_S8 => ?_)
    have hT := p_S8
    have hI := hJ
    have ea1 := (frr_at fc10 (by decide) (by decide) o_v0).trans ea1
    have f0 := fri_tr (S := S) g0 f0 fc10 (by decide) (by decide)
    have o_a1 := gr_ob g9 o_a1
    have o_v0 := gr_ob g9 o_v0
    have g0 := gr_tr (T := S) g0 g9
    intro _
    refine m_X4_wordAndWhole hI o_v0 (by decide) hT (fun x11 S12 hJ g13 fc14 b_x11 p_x11 => ?_)
    obtain ⟨hT, pf9_S12⟩ := p_x11
    have hI := hJ
    have ea1 := (frr_at fc14 (by decide) (by decide) o_v0).trans ea1
    have f0 := fri_tr (S := S8) g0 f0 fc14 (by decide) (by decide)
    have o_a1 := gr_ob g13 o_a1
    have o_v0 := gr_ob g13 o_v0
    have g0 := gr_tr (T := S8) g0 g13
    obtain ⟨y15, d_y15⟩ : ∃ z : Int32, z = fI S12 v0 9 := ⟨_, rfl⟩
    have p_y15 : x11 = 1 → (5 : Int32) ≤ y15 ∧ y15 ≤ (60 : Int32) := by rw [d_y15]; exact pf9_S12
    intro _ _
    have bb_x11 : x11 = 0 ∨ x11 = 1 := b_x11
    refine ⟨fun c16 => ?_, fun c16 => ?_⟩
    · refine ⟨a1, ea1, ?_⟩
      intro x18 ex18
      have q_x18 : x18 = y15 := ex18.trans d_y15.symm
      have d_x18 := ex18
      refine ⟨o_a1, ?_⟩
      intro S19 eS19
      have hI : IV S19 := by rw [eS19]; exact iv_sI hI o_a1 (by decide) (nu_one (lo := (0 : Int32)) (hi := (60 : Int32)) (by decide) (q190 bb_x2 c6 p_y15 bb_x11 c16 q_x18))
      have f0 := fr_I eS19 g0 f0 o_a1 (by decide)
      have d_x18 := rd_Ik eS19 o_a1 o_v0 (by decide) d_x18
      obtain ⟨y20, hy20⟩ : ∃ z : Int32, z = x18 := ⟨_, rfl⟩
      have d_y20 := rd_Is eS19 hy20
      have ea1 := rf_I eS19 ea1
      have hT := tx_I eS19 hT
      have g0 := gr_I eS19 g0
      have o_a1 := ob_I eS19 o_a1
      have o_v0 := ob_I eS19 o_v0
      exact hq _ _ hI g0 f0 (Or.inr rfl) hT
    · exact hq _ _ hI g0 f0 (Or.inl rfl) hT
  · refine u_X4_fail ?_
    refine u_X4_fail_0 ?_
    refine ⟨o_v0, ?_⟩
    intro S21 eS21
    have hI : IV S21 := by rw [eS21]; exact iv_sI hI o_v0 (by decide) (nu_free (by decide))
    have f0 := fr_I eS21 g0 f0 o_v0 (by decide)
    obtain ⟨y22, hy22⟩ : ∃ z : Int32, z = (3 : Int32) := ⟨_, rfl⟩
    have d_y22 := rd_Is eS21 hy22
    have ea1 := rf_I eS21 ea1
    have hT := tx_I eS21 hT
    have g0 := gr_I eS21 g0
    have o_a1 := ob_I eS21 o_a1
    have o_v0 := ob_I eS21 o_v0
    intro x23 ex23
    have d_x23 := ex23
    intro S24 eS24
    have hI : IV S24 := by rw [eS24]; exact iv_sI hI o_v0 (by decide) (nu_free (by decide))
    have f0 := fr_I eS24 g0 f0 o_v0 (by decide)
    have d_y22 := rd_Ij eS24 (by decide) d_y22
    have d_x23 := rd_Ij eS24 (by decide) d_x23
    obtain ⟨y25, hy25⟩ : ∃ z : Int32, z = x23 := ⟨_, rfl⟩
    have d_y25 := rd_Is eS24 hy25
    have ea1 := rf_I eS24 ea1
    have hT := tx_I eS24 hT
    have g0 := gr_I eS24 g0
    have o_a1 := ob_I eS24 o_a1
    have o_v0 := ob_I eS24 o_v0
    intro _ _
    refine ⟨(Or.inl rfl), ?_⟩
    exact hq _ _ hI g0 f0 (Or.inl rfl) hT
set_option maxHeartbeats 4000000 in
set_option maxRecDepth 20000 in
theorem m_X4_read {v0 : Nat} {v1 : Nat} {v2 : Int32} {Q : Int32 → HS → Prop} {S : HS} (hI : IV S) (o_v0 : ob S v0 4) (o_v1 : ob S v1 12) (l_v1 : hN S v1 = 900)  (h2 : 0 ≤ v2)  (hq : ∀ (r : Int32) (T : HS), IV T → Gr S T → FRI [(3, 0), (3, 1), (3, 2), (3, 3), (3, 4), (4, 0), (4, 1), (4, 3), (4, 4), (4, 6), (4, 7), (4, 9), (4, 10), (5, 0), (5, 1), (5, 2), (5, 3), (5, 4), (6, 0), (6, 1), (6, 2), (6, 3), (6, 4), (6, 5), (6, 6), (8, 0), (8, 1), (8, 2), (8, 3), (8, 4), (8, 5)] [(4, 2)] S T → bl r → Q r T) : P_X4_read v0 v1 v2 Q S := by
  have g0 := gr_rf S
  have f0 := fri_rf [(3, 0), (3, 1), (3, 2), (3, 3), (3, 4), (4, 0), (4, 1), (4, 3), (4, 4), (4, 6), (4, 7), (4, 9), (4, 10), (5, 0), (5, 1), (5, 2), (5, 3), (5, 4), (6, 0), (6, 1), (6, 2), (6, 3), (6, 4), (6, 5), (6, 6), (8, 0), (8, 1), (8, 2), (8, 3), (8, 4), (8, 5)] [(4, 2)] S
  refine u_X4_read ?_
  refine u_X4_read_0 ?_
  refine ⟨o_v0, ?_⟩
  refine m_X4_open hI o_v0 o_v1 l_v1 (q81 h2) (fun S2 hJ g3 fc4 p_S2 => ?_)
  have hI := hJ
  have l_v1 := (gr_len g3 o_v1).trans l_v1
  have f0 := fri_tr (S := S) g0 f0 fc4 (by decide) (by decide)
  have o_v0 := gr_ob g3 o_v0
  have o_v1 := gr_ob g3 o_v1
  have g0 := gr_tr (T := S) g0 g3
  intro _
  have hT := p_S2
  refine i_X4_read_8 (fun (y0 : Nat) (y3 : Int32) (Z : HS) => ((2147483647 : Int32).toInt - y3.toInt).toNat) (fun (y0 : Nat) (y3 : Int32) (Z : HS) => (IV Z) ∧ (Gr S2 Z) ∧ (FRI [(3, 0), (3, 1), (3, 2), (3, 3), (3, 4), (4, 0), (4, 1), (4, 4), (4, 6), (4, 7), (4, 9), (4, 10), (5, 0), (5, 1), (5, 2), (5, 3), (5, 4), (6, 0), (6, 1), (6, 2), (6, 3), (6, 4), (6, 5), (6, 6), (8, 0), (8, 1), (8, 2), (8, 3), (8, 4), (8, 5)] [] S2 Z) ∧ (v0 = y0) ∧ (TX Z v0) ∧ (0 ≤ y3)) ?_ _ _ _ ⟨hI, (gr_rf _), (fri_rf _ _ _), rfl, hT, (q82)⟩
  intro w9 w11 S6 X12 ⟨hI, gL7, fL8, q10, hT, i1u5⟩ ih13
  subst q10
  have l_v1 := (gr_len gL7 o_v1).trans l_v1
  have f0 := fri_tr (S := S2) g0 f0 fL8 (by decide) (by decide)
  have o_v0 := gr_ob gL7 o_v0
  have o_v1 := gr_ob gL7 o_v1
  have g0 := gr_tr (T := S2) g0 gL7
  refine u_X4_read_8 ?_
  refine ⟨fun c14 => ?_, fun c14 => ?_⟩
  · refine ⟨o_v0, ?_⟩
    refine u_X4_fail ?_
    refine u_X4_fail_0 ?_
    refine ⟨o_v0, ?_⟩
    intro S15 eS15
    have hI : IV S15 := by rw [eS15]; exact iv_sI hI o_v0 (by decide) (nu_free (by decide))
    have f0 := fr_I eS15 g0 f0 o_v0 (by decide)
    obtain ⟨y16, hy16⟩ : ∃ z : Int32, z = (1 : Int32) := ⟨_, rfl⟩
    have d_y16 := rd_Is eS15 hy16
    have hT := tx_I eS15 hT
    have l_v1 := ln_I eS15 l_v1
    have g0 := gr_I eS15 g0
    have o_v0 := ob_I eS15 o_v0
    have o_v1 := ob_I eS15 o_v1
    intro x17 ex17
    have d_x17 := ex17
    intro S18 eS18
    have hI : IV S18 := by rw [eS18]; exact iv_sI hI o_v0 (by decide) (nu_free (by decide))
    have f0 := fr_I eS18 g0 f0 o_v0 (by decide)
    have d_y16 := rd_Ij eS18 (by decide) d_y16
    have d_x17 := rd_Ij eS18 (by decide) d_x17
    obtain ⟨y19, hy19⟩ : ∃ z : Int32, z = x17 := ⟨_, rfl⟩
    have d_y19 := rd_Is eS18 hy19
    have hT := tx_I eS18 hT
    have l_v1 := ln_I eS18 l_v1
    have g0 := gr_I eS18 g0
    have o_v0 := ob_I eS18 o_v0
    have o_v1 := ob_I eS18 o_v1
    intro _ _
    refine ⟨(Or.inl rfl), ?_⟩
    exact hq _ _ hI g0 f0 (Or.inl rfl)
  · refine ⟨o_v0, ?_⟩
    refine m_X4_is hI o_v0 (by decide) hT (fun x21 S22 hI2 g23 b_x21 p_x21 => ?_)
    subst p_x21
    intro _ _
    have bb_x21 : x21 = 0 ∨ x21 = 1 := b_x21
    refine ⟨fun c25 => ?_, fun c25 => ?_⟩
    · refine m_X4_is hI o_v0 (by decide) hT (fun x26 S27 hI2 g28 b_x26 p_x26 => ?_)
      subst p_x26
      intro _ _
      have bb_x26 : x26 = 0 ∨ x26 = 1 := b_x26
      refine ⟨fun c30 => ?_, fun c30 => ?_⟩
      · refine m_X4_is hI o_v0 (by decide) hT (fun x31 S32 hI2 g33 b_x31 p_x31 => ?_)
        subst p_x31
        intro _ _
        have bb_x31 : x31 = 0 ∨ x31 = 1 := b_x31
        refine ⟨fun c35 => ?_, fun c35 => ?_⟩
        · refine m_X4_is hI o_v0 (by decide) hT (fun x36 S37 hI2 g38 b_x36 p_x36 => ?_)
          subst p_x36
          intro _ _
          have bb_x36 : x36 = 0 ∨ x36 = 1 := b_x36
          refine ⟨fun c40 => ?_, fun c40 => ?_⟩
          · refine m_X4_is hI o_v0 (by decide) hT (fun x41 S42 hI2 g43 b_x41 p_x41 => ?_)
            subst p_x41
            intro _ _
            have bb_x41 : x41 = 0 ∨ x41 = 1 := b_x41
            refine ⟨fun c45 => ?_, fun c45 => ?_⟩
            · refine m_X4_is hI o_v0 (by decide) hT (fun x46 S47 hI2 g48 b_x46 p_x46 => ?_)
              subst p_x46
              intro _ _
              have bb_x46 : x46 = 0 ∨ x46 = 1 := b_x46
              refine ⟨fun c50 => ?_, fun c50 => ?_⟩
              · refine u_X4_fail ?_
                refine u_X4_fail_0 ?_
                refine ⟨o_v0, ?_⟩
                intro S51 eS51
                have hI : IV S51 := by rw [eS51]; exact iv_sI hI o_v0 (by decide) (nu_free (by decide))
                have f0 := fr_I eS51 g0 f0 o_v0 (by decide)
                have fL8 := fr_I eS51 gL7 fL8 o_v0 (by decide)
                obtain ⟨y52, hy52⟩ : ∃ z : Int32, z = (1 : Int32) := ⟨_, rfl⟩
                have d_y52 := rd_Is eS51 hy52
                have hT := tx_I eS51 hT
                have l_v1 := ln_I eS51 l_v1
                have g0 := gr_I eS51 g0
                have gL7 := gr_I eS51 gL7
                have o_v0 := ob_I eS51 o_v0
                have o_v1 := ob_I eS51 o_v1
                intro x53 ex53
                have d_x53 := ex53
                intro S54 eS54
                have hI : IV S54 := by rw [eS54]; exact iv_sI hI o_v0 (by decide) (nu_free (by decide))
                have f0 := fr_I eS54 g0 f0 o_v0 (by decide)
                have fL8 := fr_I eS54 gL7 fL8 o_v0 (by decide)
                have d_y52 := rd_Ij eS54 (by decide) d_y52
                have d_x53 := rd_Ij eS54 (by decide) d_x53
                obtain ⟨y55, hy55⟩ : ∃ z : Int32, z = x53 := ⟨_, rfl⟩
                have d_y55 := rd_Is eS54 hy55
                have hT := tx_I eS54 hT
                have l_v1 := ln_I eS54 l_v1
                have g0 := gr_I eS54 g0
                have gL7 := gr_I eS54 gL7
                have o_v0 := ob_I eS54 o_v0
                have o_v1 := ob_I eS54 o_v1
                intro _ _
                refine u_X4_read_248 ?_
                refine ⟨fun c57 => ?_, fun c57 => ?_⟩
                · refine u_X4_read_295 ?_
                  refine ⟨fun c58 => ?_, fun c58 => ?_⟩
                  · exact hq _ _ hI g0 f0 (Or.inl rfl)
                  · refine ⟨o_v0, ?_⟩
                    refine m_X4_sign hI o_v0 hT (fun x59 S60 hJ g61 fc62 b_x59 p_x59 => ?_)
                    have hT := p_x59
                    have hI := hJ
                    have l_v1 := (gr_len g61 o_v1).trans l_v1
                    have f0 := fri_tr (S := S54) g0 f0 fc62 (by decide) (by decide)
                    have fL8 := fri_tr (S := S54) gL7 fL8 fc62 (by decide) (by decide)
                    have o_v0 := gr_ob g61 o_v0
                    have o_v1 := gr_ob g61 o_v1
                    have g0 := gr_tr (T := S54) g0 g61
                    have gL7 := gr_tr (T := S54) gL7 g61
                    intro _ _
                    have bb_x59 : x59 = 0 ∨ x59 = 1 := b_x59
                    refine ⟨fun c63 => ?_, fun c63 => ?_⟩
                    · intro x64 ex64
                      exact ih13 _ _ _ ⟨hI, gL7, fL8, rfl, hT, (q83 i1u5 c14 bb_x21 c25 bb_x26 c30 bb_x31 c35 bb_x36 c40 bb_x41 c45 bb_x46 c50 c58 bb_x59 c63 ex64)⟩ (mu_up (q84 i1u5 c14 bb_x21 c25 bb_x26 c30 bb_x31 c35 bb_x36 c40 bb_x41 c45 bb_x46 c50 c58 bb_x59 c63 ex64) (q85 i1u5 c14 bb_x21 c25 bb_x26 c30 bb_x31 c35 bb_x36 c40 bb_x41 c45 bb_x46 c50 c58 bb_x59 c63 ex64))
                    · exact hq _ _ hI g0 f0 (Or.inl rfl)
                · refine ⟨o_v0, ?_⟩
                  intro x65 ex65
                  have d_x65 := ex65
                  refine ⟨fun c66 => ?_, fun c66 => ?_⟩
                  · refine u_X4_read_295 ?_
                    refine ⟨fun c67 => ?_, fun c67 => ?_⟩
                    · exact hq _ _ hI g0 f0 (Or.inl rfl)
                    · refine ⟨o_v0, ?_⟩
                      refine m_X4_sign hI o_v0 hT (fun x68 S69 hJ g70 fc71 b_x68 p_x68 => ?_)
                      have hT := p_x68
                      have hI := hJ
                      have l_v1 := (gr_len g70 o_v1).trans l_v1
                      have f0 := fri_tr (S := S54) g0 f0 fc71 (by decide) (by decide)
                      have fL8 := fri_tr (S := S54) gL7 fL8 fc71 (by decide) (by decide)
                      have o_v0 := gr_ob g70 o_v0
                      have o_v1 := gr_ob g70 o_v1
                      have g0 := gr_tr (T := S54) g0 g70
                      have gL7 := gr_tr (T := S54) gL7 g70
                      intro _ _
                      have bb_x68 : x68 = 0 ∨ x68 = 1 := b_x68
                      refine ⟨fun c72 => ?_, fun c72 => ?_⟩
                      · intro x73 ex73
                        exact ih13 _ _ _ ⟨hI, gL7, fL8, rfl, hT, (q86 i1u5 c14 bb_x21 c25 bb_x26 c30 bb_x31 c35 bb_x36 c40 bb_x41 c45 bb_x46 c50 c57 c66 c67 bb_x68 c72 ex73)⟩ (mu_up (q87 i1u5 c14 bb_x21 c25 bb_x26 c30 bb_x31 c35 bb_x36 c40 bb_x41 c45 bb_x46 c50 c57 c66 c67 bb_x68 c72 ex73) (q88 i1u5 c14 bb_x21 c25 bb_x26 c30 bb_x31 c35 bb_x36 c40 bb_x41 c45 bb_x46 c50 c57 c66 c67 bb_x68 c72 ex73))
                      · exact hq _ _ hI g0 f0 (Or.inl rfl)
                  · obtain ⟨a74, ea74, o_a74, -⟩ := sh 12 rfl hI o_v0
                    refine ⟨a74, ea74, ?_⟩
                    refine ⟨o_a74, ?_⟩
                    intro x75 ex75
                    have r_x75 : (0 : Int32) ≤ x75 ∧ x75 ≤ (8 : Int32) := by rw [ex75]; exact nu 12 rfl hI o_a74
                    have d_x75 := ex75
                    refine ⟨fun c76 => ?_, fun c76 => ?_⟩
                    · refine u_X4_read_280 ?_
                      refine ⟨o_v0, ?_⟩
                      refine u_X4_fail ?_
                      refine u_X4_fail_0 ?_
                      refine ⟨o_v0, ?_⟩
                      intro S77 eS77
                      have hI : IV S77 := by rw [eS77]; exact iv_sI hI o_v0 (by decide) (nu_free (by decide))
                      have f0 := fr_I eS77 g0 f0 o_v0 (by decide)
                      have d_x53 := rd_Ij eS77 (by decide) d_x53
                      have d_y55 := rd_Ij eS77 (by decide) d_y55
                      have d_x65 := rd_Ij eS77 (by decide) d_x65
                      have d_x75 := rd_Ik eS77 o_v0 o_a74 (by decide) d_x75
                      obtain ⟨y78, hy78⟩ : ∃ z : Int32, z = (6 : Int32) := ⟨_, rfl⟩
                      have d_y78 := rd_Is eS77 hy78
                      have ea74 := rf_I eS77 ea74
                      have hT := tx_I eS77 hT
                      have l_v1 := ln_I eS77 l_v1
                      have g0 := gr_I eS77 g0
                      have o_a74 := ob_I eS77 o_a74
                      have o_v0 := ob_I eS77 o_v0
                      have o_v1 := ob_I eS77 o_v1
                      intro x79 ex79
                      have q_x79 : x79 = x53 := ex79.trans d_x53.symm
                      have d_x79 := ex79
                      intro S80 eS80
                      have hI : IV S80 := by rw [eS80]; exact iv_sI hI o_v0 (by decide) (nu_free (by decide))
                      have f0 := fr_I eS80 g0 f0 o_v0 (by decide)
                      have d_x79 := rd_Ij eS80 (by decide) d_x79
                      have d_x65 := rd_Ij eS80 (by decide) d_x65
                      have d_x75 := rd_Ik eS80 o_v0 o_a74 (by decide) d_x75
                      have d_y78 := rd_Ij eS80 (by decide) d_y78
                      obtain ⟨y81, hy81⟩ : ∃ z : Int32, z = x79 := ⟨_, rfl⟩
                      have d_y81 := rd_Is eS80 hy81
                      have ea74 := rf_I eS80 ea74
                      have hT := tx_I eS80 hT
                      have l_v1 := ln_I eS80 l_v1
                      have g0 := gr_I eS80 g0
                      have o_a74 := ob_I eS80 o_a74
                      have o_v0 := ob_I eS80 o_v0
                      have o_v1 := ob_I eS80 o_v1
                      intro _ _
                      refine ⟨fun c83 => ?_, fun c83 => ?_⟩
                      · exact hq _ _ hI g0 f0 (Or.inl rfl)
                      · exact hq _ _ hI g0 f0 (Or.inr rfl)
                    · refine ⟨a74, ea74, ?_⟩
                      refine ⟨o_a74, ?_⟩
                      intro x85 ex85
                      have r_x85 : (0 : Int32) ≤ x85 ∧ x85 ≤ (4 : Int32) := by rw [ex85]; exact nu 14 rfl hI o_a74
                      have d_x85 := ex85
                      refine ⟨fun c86 => ?_, fun c86 => ?_⟩
                      · exact hq _ _ hI g0 f0 (Or.inr rfl)
                      · refine u_X4_read_280 ?_
                        refine ⟨o_v0, ?_⟩
                        refine u_X4_fail ?_
                        refine u_X4_fail_0 ?_
                        refine ⟨o_v0, ?_⟩
                        intro S87 eS87
                        have hI : IV S87 := by rw [eS87]; exact iv_sI hI o_v0 (by decide) (nu_free (by decide))
                        have f0 := fr_I eS87 g0 f0 o_v0 (by decide)
                        have d_x53 := rd_Ij eS87 (by decide) d_x53
                        have d_y55 := rd_Ij eS87 (by decide) d_y55
                        have d_x65 := rd_Ij eS87 (by decide) d_x65
                        have d_x75 := rd_Ik eS87 o_v0 o_a74 (by decide) d_x75
                        have d_x85 := rd_Ik eS87 o_v0 o_a74 (by decide) d_x85
                        obtain ⟨y88, hy88⟩ : ∃ z : Int32, z = (6 : Int32) := ⟨_, rfl⟩
                        have d_y88 := rd_Is eS87 hy88
                        have ea74 := rf_I eS87 ea74
                        have hT := tx_I eS87 hT
                        have l_v1 := ln_I eS87 l_v1
                        have g0 := gr_I eS87 g0
                        have o_a74 := ob_I eS87 o_a74
                        have o_v0 := ob_I eS87 o_v0
                        have o_v1 := ob_I eS87 o_v1
                        intro x89 ex89
                        have q_x89 : x89 = x53 := ex89.trans d_x53.symm
                        have d_x89 := ex89
                        intro S90 eS90
                        have hI : IV S90 := by rw [eS90]; exact iv_sI hI o_v0 (by decide) (nu_free (by decide))
                        have f0 := fr_I eS90 g0 f0 o_v0 (by decide)
                        have d_x89 := rd_Ij eS90 (by decide) d_x89
                        have d_x65 := rd_Ij eS90 (by decide) d_x65
                        have d_x75 := rd_Ik eS90 o_v0 o_a74 (by decide) d_x75
                        have d_x85 := rd_Ik eS90 o_v0 o_a74 (by decide) d_x85
                        have d_y88 := rd_Ij eS90 (by decide) d_y88
                        obtain ⟨y91, hy91⟩ : ∃ z : Int32, z = x89 := ⟨_, rfl⟩
                        have d_y91 := rd_Is eS90 hy91
                        have ea74 := rf_I eS90 ea74
                        have hT := tx_I eS90 hT
                        have l_v1 := ln_I eS90 l_v1
                        have g0 := gr_I eS90 g0
                        have o_a74 := ob_I eS90 o_a74
                        have o_v0 := ob_I eS90 o_v0
                        have o_v1 := ob_I eS90 o_v1
                        intro _ _
                        refine ⟨fun c93 => ?_, fun c93 => ?_⟩
                        · exact hq _ _ hI g0 f0 (Or.inl rfl)
                        · exact hq _ _ hI g0 f0 (Or.inr rfl)
              · obtain ⟨a94, ea94, o_a94, -⟩ := sh 12 rfl hI o_v0
                refine ⟨a94, ea94, ?_⟩
                refine ⟨o_a94, ?_⟩
                intro x95 ex95
                have r_x95 : (0 : Int32) ≤ x95 ∧ x95 ≤ (4 : Int32) := by rw [ex95]; exact nu 15 rfl hI o_a94
                have d_x95 := ex95
                refine m_X4_hasRoom hI o_v0 hT (fun x96 S97 hJ g98 fc99 b_x96 p_x96 => ?_)
                obtain ⟨hT, p_x96⟩ := p_x96
                have hI := hJ
                have l_v1 := (gr_len g98 o_v1).trans l_v1
                have d_x95 := d_x95.trans (fri_at fc99 (by decide) (by decide) o_a94).symm
                have ea94 := (frr_at fc99 (by decide) (by decide) o_v0).trans ea94
                have f0 := fri_tr (S := S6) g0 f0 fc99 (by decide) (by decide)
                have fL8 := fri_tr (S := S6) gL7 fL8 fc99 (by decide) (by decide)
                have o_a94 := gr_ob g98 o_a94
                have o_v0 := gr_ob g98 o_v0
                have o_v1 := gr_ob g98 o_v1
                have g0 := gr_tr (T := S6) g0 g98
                have gL7 := gr_tr (T := S6) gL7 g98
                intro _ _
                have bb_x96 : x96 = 0 ∨ x96 = 1 := b_x96
                refine ⟨fun c100 => ?_, fun c100 => ?_⟩
                · refine u_X4_read_235 ?_
                  refine u_X4_read_236 ?_
                  refine u_X4_read_248 ?_
                  refine ⟨fun c101 => ?_, fun c101 => ?_⟩
                  · refine u_X4_read_295 ?_
                    refine ⟨fun c102 => ?_, fun c102 => ?_⟩
                    · exact hq _ _ hI g0 f0 (Or.inl rfl)
                    · refine ⟨o_v0, ?_⟩
                      refine m_X4_sign hI o_v0 hT (fun x103 S104 hJ g105 fc106 b_x103 p_x103 => ?_)
                      have hT := p_x103
                      have hI := hJ
                      have l_v1 := (gr_len g105 o_v1).trans l_v1
                      have d_x95 := d_x95.trans (fri_at fc106 (by decide) (by decide) o_a94).symm
                      have ea94 := (frr_at fc106 (by decide) (by decide) o_v0).trans ea94
                      have f0 := fri_tr (S := S97) g0 f0 fc106 (by decide) (by decide)
                      have fL8 := fri_tr (S := S97) gL7 fL8 fc106 (by decide) (by decide)
                      have o_a94 := gr_ob g105 o_a94
                      have o_v0 := gr_ob g105 o_v0
                      have o_v1 := gr_ob g105 o_v1
                      have g0 := gr_tr (T := S97) g0 g105
                      have gL7 := gr_tr (T := S97) gL7 g105
                      intro _ _
                      have bb_x103 : x103 = 0 ∨ x103 = 1 := b_x103
                      refine ⟨fun c107 => ?_, fun c107 => ?_⟩
                      · intro x108 ex108
                        exact ih13 _ _ _ ⟨hI, gL7, fL8, rfl, hT, (q89 i1u5 c14 bb_x21 c25 bb_x26 c30 bb_x31 c35 bb_x36 c40 bb_x41 c45 bb_x46 c50 r_x95 p_x96 bb_x96 c100 c102 bb_x103 c107 ex108)⟩ (mu_up (q90 i1u5 c14 bb_x21 c25 bb_x26 c30 bb_x31 c35 bb_x36 c40 bb_x41 c45 bb_x46 c50 r_x95 p_x96 bb_x96 c100 c102 bb_x103 c107 ex108) (q91 i1u5 c14 bb_x21 c25 bb_x26 c30 bb_x31 c35 bb_x36 c40 bb_x41 c45 bb_x46 c50 r_x95 p_x96 bb_x96 c100 c102 bb_x103 c107 ex108))
                      · exact hq _ _ hI g0 f0 (Or.inl rfl)
                  · refine ⟨o_v0, ?_⟩
                    intro x109 ex109
                    have d_x109 := ex109
                    refine ⟨fun c110 => ?_, fun c110 => ?_⟩
                    · refine u_X4_read_295 ?_
                      refine ⟨fun c111 => ?_, fun c111 => ?_⟩
                      · exact hq _ _ hI g0 f0 (Or.inl rfl)
                      · refine ⟨o_v0, ?_⟩
                        refine m_X4_sign hI o_v0 hT (fun x112 S113 hJ g114 fc115 b_x112 p_x112 => ?_)
                        have hT := p_x112
                        have hI := hJ
                        have l_v1 := (gr_len g114 o_v1).trans l_v1
                        have d_x95 := d_x95.trans (fri_at fc115 (by decide) (by decide) o_a94).symm
                        have ea94 := (frr_at fc115 (by decide) (by decide) o_v0).trans ea94
                        have f0 := fri_tr (S := S97) g0 f0 fc115 (by decide) (by decide)
                        have fL8 := fri_tr (S := S97) gL7 fL8 fc115 (by decide) (by decide)
                        have o_a94 := gr_ob g114 o_a94
                        have o_v0 := gr_ob g114 o_v0
                        have o_v1 := gr_ob g114 o_v1
                        have g0 := gr_tr (T := S97) g0 g114
                        have gL7 := gr_tr (T := S97) gL7 g114
                        intro _ _
                        have bb_x112 : x112 = 0 ∨ x112 = 1 := b_x112
                        refine ⟨fun c116 => ?_, fun c116 => ?_⟩
                        · intro x117 ex117
                          exact ih13 _ _ _ ⟨hI, gL7, fL8, rfl, hT, (q92 i1u5 c14 bb_x21 c25 bb_x26 c30 bb_x31 c35 bb_x36 c40 bb_x41 c45 bb_x46 c50 r_x95 p_x96 bb_x96 c100 c101 c110 c111 bb_x112 c116 ex117)⟩ (mu_up (q93 i1u5 c14 bb_x21 c25 bb_x26 c30 bb_x31 c35 bb_x36 c40 bb_x41 c45 bb_x46 c50 r_x95 p_x96 bb_x96 c100 c101 c110 c111 bb_x112 c116 ex117) (q94 i1u5 c14 bb_x21 c25 bb_x26 c30 bb_x31 c35 bb_x36 c40 bb_x41 c45 bb_x46 c50 r_x95 p_x96 bb_x96 c100 c101 c110 c111 bb_x112 c116 ex117))
                        · exact hq _ _ hI g0 f0 (Or.inl rfl)
                    · refine ⟨a94, ea94, ?_⟩
                      refine ⟨o_a94, ?_⟩
                      intro x119 ex119
                      have r_x119 : (0 : Int32) ≤ x119 ∧ x119 ≤ (8 : Int32) := by rw [ex119]; exact nu 12 rfl hI o_a94
                      have d_x119 := ex119
                      refine ⟨fun c120 => ?_, fun c120 => ?_⟩
                      · refine u_X4_read_280 ?_
                        refine ⟨o_v0, ?_⟩
                        refine u_X4_fail ?_
                        refine u_X4_fail_0 ?_
                        refine ⟨o_v0, ?_⟩
                        intro S121 eS121
                        have hI : IV S121 := by rw [eS121]; exact iv_sI hI o_v0 (by decide) (nu_free (by decide))
                        have f0 := fr_I eS121 g0 f0 o_v0 (by decide)
                        have d_x95 := rd_Ik eS121 o_v0 o_a94 (by decide) d_x95
                        have d_x109 := rd_Ij eS121 (by decide) d_x109
                        have d_x119 := rd_Ik eS121 o_v0 o_a94 (by decide) d_x119
                        obtain ⟨y122, hy122⟩ : ∃ z : Int32, z = (6 : Int32) := ⟨_, rfl⟩
                        have d_y122 := rd_Is eS121 hy122
                        have ea94 := rf_I eS121 ea94
                        have hT := tx_I eS121 hT
                        have l_v1 := ln_I eS121 l_v1
                        have g0 := gr_I eS121 g0
                        have o_a94 := ob_I eS121 o_a94
                        have o_v0 := ob_I eS121 o_v0
                        have o_v1 := ob_I eS121 o_v1
                        intro x123 ex123
                        have d_x123 := ex123
                        intro S124 eS124
                        have hI : IV S124 := by rw [eS124]; exact iv_sI hI o_v0 (by decide) (nu_free (by decide))
                        have f0 := fr_I eS124 g0 f0 o_v0 (by decide)
                        have d_x95 := rd_Ik eS124 o_v0 o_a94 (by decide) d_x95
                        have d_x109 := rd_Ij eS124 (by decide) d_x109
                        have d_x119 := rd_Ik eS124 o_v0 o_a94 (by decide) d_x119
                        have d_y122 := rd_Ij eS124 (by decide) d_y122
                        have d_x123 := rd_Ij eS124 (by decide) d_x123
                        obtain ⟨y125, hy125⟩ : ∃ z : Int32, z = x123 := ⟨_, rfl⟩
                        have d_y125 := rd_Is eS124 hy125
                        have ea94 := rf_I eS124 ea94
                        have hT := tx_I eS124 hT
                        have l_v1 := ln_I eS124 l_v1
                        have g0 := gr_I eS124 g0
                        have o_a94 := ob_I eS124 o_a94
                        have o_v0 := ob_I eS124 o_v0
                        have o_v1 := ob_I eS124 o_v1
                        intro _ _
                        refine ⟨fun c127 => ?_, fun c127 => ?_⟩
                        · exact hq _ _ hI g0 f0 (Or.inl rfl)
                        · exact hq _ _ hI g0 f0 (Or.inr rfl)
                      · refine ⟨a94, ea94, ?_⟩
                        refine ⟨o_a94, ?_⟩
                        intro x129 ex129
                        have r_x129 : (0 : Int32) ≤ x129 ∧ x129 ≤ (4 : Int32) := by rw [ex129]; exact nu 14 rfl hI o_a94
                        have d_x129 := ex129
                        refine ⟨fun c130 => ?_, fun c130 => ?_⟩
                        · exact hq _ _ hI g0 f0 (Or.inr rfl)
                        · refine u_X4_read_280 ?_
                          refine ⟨o_v0, ?_⟩
                          refine u_X4_fail ?_
                          refine u_X4_fail_0 ?_
                          refine ⟨o_v0, ?_⟩
                          intro S131 eS131
                          have hI : IV S131 := by rw [eS131]; exact iv_sI hI o_v0 (by decide) (nu_free (by decide))
                          have f0 := fr_I eS131 g0 f0 o_v0 (by decide)
                          have d_x95 := rd_Ik eS131 o_v0 o_a94 (by decide) d_x95
                          have d_x109 := rd_Ij eS131 (by decide) d_x109
                          have d_x119 := rd_Ik eS131 o_v0 o_a94 (by decide) d_x119
                          have d_x129 := rd_Ik eS131 o_v0 o_a94 (by decide) d_x129
                          obtain ⟨y132, hy132⟩ : ∃ z : Int32, z = (6 : Int32) := ⟨_, rfl⟩
                          have d_y132 := rd_Is eS131 hy132
                          have ea94 := rf_I eS131 ea94
                          have hT := tx_I eS131 hT
                          have l_v1 := ln_I eS131 l_v1
                          have g0 := gr_I eS131 g0
                          have o_a94 := ob_I eS131 o_a94
                          have o_v0 := ob_I eS131 o_v0
                          have o_v1 := ob_I eS131 o_v1
                          intro x133 ex133
                          have d_x133 := ex133
                          intro S134 eS134
                          have hI : IV S134 := by rw [eS134]; exact iv_sI hI o_v0 (by decide) (nu_free (by decide))
                          have f0 := fr_I eS134 g0 f0 o_v0 (by decide)
                          have d_x95 := rd_Ik eS134 o_v0 o_a94 (by decide) d_x95
                          have d_x109 := rd_Ij eS134 (by decide) d_x109
                          have d_x119 := rd_Ik eS134 o_v0 o_a94 (by decide) d_x119
                          have d_x129 := rd_Ik eS134 o_v0 o_a94 (by decide) d_x129
                          have d_y132 := rd_Ij eS134 (by decide) d_y132
                          have d_x133 := rd_Ij eS134 (by decide) d_x133
                          obtain ⟨y135, hy135⟩ : ∃ z : Int32, z = x133 := ⟨_, rfl⟩
                          have d_y135 := rd_Is eS134 hy135
                          have ea94 := rf_I eS134 ea94
                          have hT := tx_I eS134 hT
                          have l_v1 := ln_I eS134 l_v1
                          have g0 := gr_I eS134 g0
                          have o_a94 := ob_I eS134 o_a94
                          have o_v0 := ob_I eS134 o_v0
                          have o_v1 := ob_I eS134 o_v1
                          intro _ _
                          refine ⟨fun c137 => ?_, fun c137 => ?_⟩
                          · exact hq _ _ hI g0 f0 (Or.inl rfl)
                          · exact hq _ _ hI g0 f0 (Or.inr rfl)
                · refine m_X4_seenLine hI o_v0 (fun z hz => by cases ea94.symm.trans hz; rw [← d_x95]; exact (q95 i1u5 c14 bb_x21 c25 bb_x26 c30 bb_x31 c35 bb_x36 c40 bb_x41 c45 bb_x46 c50 r_x95 p_x96 bb_x96 c100)) hT (fun x138 S139 hJ g140 fc141 b_x138 p_x138 => ?_)
                  have hT := p_x138
                  have hI := hJ
                  have l_v1 := (gr_len g140 o_v1).trans l_v1
                  have ea94 := (frr_at fc141 (by decide) (by decide) o_v0).trans ea94
                  have f0 := fri_tr (S := S97) g0 f0 fc141 (by decide) (by decide)
                  have fL8 := fri_tr (S := S97) gL7 fL8 fc141 (by decide) (by decide)
                  have o_a94 := gr_ob g140 o_a94
                  have o_v0 := gr_ob g140 o_v0
                  have o_v1 := gr_ob g140 o_v1
                  have g0 := gr_tr (T := S97) g0 g140
                  have gL7 := gr_tr (T := S97) gL7 g140
                  intro _ _
                  have bb_x138 : x138 = 0 ∨ x138 = 1 := b_x138
                  refine ⟨fun c142 => ?_, fun c142 => ?_⟩
                  · refine u_X4_read_235 ?_
                    refine u_X4_read_236 ?_
                    refine u_X4_read_248 ?_
                    refine ⟨fun c143 => ?_, fun c143 => ?_⟩
                    · refine u_X4_read_295 ?_
                      refine ⟨fun c144 => ?_, fun c144 => ?_⟩
                      · exact hq _ _ hI g0 f0 (Or.inl rfl)
                      · refine ⟨o_v0, ?_⟩
                        refine m_X4_sign hI o_v0 hT (fun x145 S146 hJ g147 fc148 b_x145 p_x145 => ?_)
                        have hT := p_x145
                        have hI := hJ
                        have l_v1 := (gr_len g147 o_v1).trans l_v1
                        have ea94 := (frr_at fc148 (by decide) (by decide) o_v0).trans ea94
                        have f0 := fri_tr (S := S139) g0 f0 fc148 (by decide) (by decide)
                        have fL8 := fri_tr (S := S139) gL7 fL8 fc148 (by decide) (by decide)
                        have o_a94 := gr_ob g147 o_a94
                        have o_v0 := gr_ob g147 o_v0
                        have o_v1 := gr_ob g147 o_v1
                        have g0 := gr_tr (T := S139) g0 g147
                        have gL7 := gr_tr (T := S139) gL7 g147
                        intro _ _
                        have bb_x145 : x145 = 0 ∨ x145 = 1 := b_x145
                        refine ⟨fun c149 => ?_, fun c149 => ?_⟩
                        · intro x150 ex150
                          exact ih13 _ _ _ ⟨hI, gL7, fL8, rfl, hT, (q96 i1u5 c14 bb_x21 c25 bb_x26 c30 bb_x31 c35 bb_x36 c40 bb_x41 c45 bb_x46 c50 r_x95 p_x96 bb_x96 c100 bb_x138 c142 c144 bb_x145 c149 ex150)⟩ (mu_up (q97 i1u5 c14 bb_x21 c25 bb_x26 c30 bb_x31 c35 bb_x36 c40 bb_x41 c45 bb_x46 c50 r_x95 p_x96 bb_x96 c100 bb_x138 c142 c144 bb_x145 c149 ex150) (q98 i1u5 c14 bb_x21 c25 bb_x26 c30 bb_x31 c35 bb_x36 c40 bb_x41 c45 bb_x46 c50 r_x95 p_x96 bb_x96 c100 bb_x138 c142 c144 bb_x145 c149 ex150))
                        · exact hq _ _ hI g0 f0 (Or.inl rfl)
                    · refine ⟨o_v0, ?_⟩
                      intro x151 ex151
                      have d_x151 := ex151
                      refine ⟨fun c152 => ?_, fun c152 => ?_⟩
                      · refine u_X4_read_295 ?_
                        refine ⟨fun c153 => ?_, fun c153 => ?_⟩
                        · exact hq _ _ hI g0 f0 (Or.inl rfl)
                        · refine ⟨o_v0, ?_⟩
                          refine m_X4_sign hI o_v0 hT (fun x154 S155 hJ g156 fc157 b_x154 p_x154 => ?_)
                          have hT := p_x154
                          have hI := hJ
                          have l_v1 := (gr_len g156 o_v1).trans l_v1
                          have ea94 := (frr_at fc157 (by decide) (by decide) o_v0).trans ea94
                          have f0 := fri_tr (S := S139) g0 f0 fc157 (by decide) (by decide)
                          have fL8 := fri_tr (S := S139) gL7 fL8 fc157 (by decide) (by decide)
                          have o_a94 := gr_ob g156 o_a94
                          have o_v0 := gr_ob g156 o_v0
                          have o_v1 := gr_ob g156 o_v1
                          have g0 := gr_tr (T := S139) g0 g156
                          have gL7 := gr_tr (T := S139) gL7 g156
                          intro _ _
                          have bb_x154 : x154 = 0 ∨ x154 = 1 := b_x154
                          refine ⟨fun c158 => ?_, fun c158 => ?_⟩
                          · intro x159 ex159
                            exact ih13 _ _ _ ⟨hI, gL7, fL8, rfl, hT, (q99 i1u5 c14 bb_x21 c25 bb_x26 c30 bb_x31 c35 bb_x36 c40 bb_x41 c45 bb_x46 c50 r_x95 p_x96 bb_x96 c100 bb_x138 c142 c143 c152 c153 bb_x154 c158 ex159)⟩ (mu_up (q100 i1u5 c14 bb_x21 c25 bb_x26 c30 bb_x31 c35 bb_x36 c40 bb_x41 c45 bb_x46 c50 r_x95 p_x96 bb_x96 c100 bb_x138 c142 c143 c152 c153 bb_x154 c158 ex159) (q101 i1u5 c14 bb_x21 c25 bb_x26 c30 bb_x31 c35 bb_x36 c40 bb_x41 c45 bb_x46 c50 r_x95 p_x96 bb_x96 c100 bb_x138 c142 c143 c152 c153 bb_x154 c158 ex159))
                          · exact hq _ _ hI g0 f0 (Or.inl rfl)
                      · refine ⟨a94, ea94, ?_⟩
                        refine ⟨o_a94, ?_⟩
                        intro x161 ex161
                        have r_x161 : (0 : Int32) ≤ x161 ∧ x161 ≤ (8 : Int32) := by rw [ex161]; exact nu 12 rfl hI o_a94
                        have d_x161 := ex161
                        refine ⟨fun c162 => ?_, fun c162 => ?_⟩
                        · refine u_X4_read_280 ?_
                          refine ⟨o_v0, ?_⟩
                          refine u_X4_fail ?_
                          refine u_X4_fail_0 ?_
                          refine ⟨o_v0, ?_⟩
                          intro S163 eS163
                          have hI : IV S163 := by rw [eS163]; exact iv_sI hI o_v0 (by decide) (nu_free (by decide))
                          have f0 := fr_I eS163 g0 f0 o_v0 (by decide)
                          have d_x151 := rd_Ij eS163 (by decide) d_x151
                          have d_x161 := rd_Ik eS163 o_v0 o_a94 (by decide) d_x161
                          obtain ⟨y164, hy164⟩ : ∃ z : Int32, z = (6 : Int32) := ⟨_, rfl⟩
                          have d_y164 := rd_Is eS163 hy164
                          have ea94 := rf_I eS163 ea94
                          have hT := tx_I eS163 hT
                          have l_v1 := ln_I eS163 l_v1
                          have g0 := gr_I eS163 g0
                          have o_a94 := ob_I eS163 o_a94
                          have o_v0 := ob_I eS163 o_v0
                          have o_v1 := ob_I eS163 o_v1
                          intro x165 ex165
                          have d_x165 := ex165
                          intro S166 eS166
                          have hI : IV S166 := by rw [eS166]; exact iv_sI hI o_v0 (by decide) (nu_free (by decide))
                          have f0 := fr_I eS166 g0 f0 o_v0 (by decide)
                          have d_x151 := rd_Ij eS166 (by decide) d_x151
                          have d_x161 := rd_Ik eS166 o_v0 o_a94 (by decide) d_x161
                          have d_y164 := rd_Ij eS166 (by decide) d_y164
                          have d_x165 := rd_Ij eS166 (by decide) d_x165
                          obtain ⟨y167, hy167⟩ : ∃ z : Int32, z = x165 := ⟨_, rfl⟩
                          have d_y167 := rd_Is eS166 hy167
                          have ea94 := rf_I eS166 ea94
                          have hT := tx_I eS166 hT
                          have l_v1 := ln_I eS166 l_v1
                          have g0 := gr_I eS166 g0
                          have o_a94 := ob_I eS166 o_a94
                          have o_v0 := ob_I eS166 o_v0
                          have o_v1 := ob_I eS166 o_v1
                          intro _ _
                          refine ⟨fun c169 => ?_, fun c169 => ?_⟩
                          · exact hq _ _ hI g0 f0 (Or.inl rfl)
                          · exact hq _ _ hI g0 f0 (Or.inr rfl)
                        · refine ⟨a94, ea94, ?_⟩
                          refine ⟨o_a94, ?_⟩
                          intro x171 ex171
                          have r_x171 : (0 : Int32) ≤ x171 ∧ x171 ≤ (4 : Int32) := by rw [ex171]; exact nu 14 rfl hI o_a94
                          have d_x171 := ex171
                          refine ⟨fun c172 => ?_, fun c172 => ?_⟩
                          · exact hq _ _ hI g0 f0 (Or.inr rfl)
                          · refine u_X4_read_280 ?_
                            refine ⟨o_v0, ?_⟩
                            refine u_X4_fail ?_
                            refine u_X4_fail_0 ?_
                            refine ⟨o_v0, ?_⟩
                            intro S173 eS173
                            have hI : IV S173 := by rw [eS173]; exact iv_sI hI o_v0 (by decide) (nu_free (by decide))
                            have f0 := fr_I eS173 g0 f0 o_v0 (by decide)
                            have d_x151 := rd_Ij eS173 (by decide) d_x151
                            have d_x161 := rd_Ik eS173 o_v0 o_a94 (by decide) d_x161
                            have d_x171 := rd_Ik eS173 o_v0 o_a94 (by decide) d_x171
                            obtain ⟨y174, hy174⟩ : ∃ z : Int32, z = (6 : Int32) := ⟨_, rfl⟩
                            have d_y174 := rd_Is eS173 hy174
                            have ea94 := rf_I eS173 ea94
                            have hT := tx_I eS173 hT
                            have l_v1 := ln_I eS173 l_v1
                            have g0 := gr_I eS173 g0
                            have o_a94 := ob_I eS173 o_a94
                            have o_v0 := ob_I eS173 o_v0
                            have o_v1 := ob_I eS173 o_v1
                            intro x175 ex175
                            have d_x175 := ex175
                            intro S176 eS176
                            have hI : IV S176 := by rw [eS176]; exact iv_sI hI o_v0 (by decide) (nu_free (by decide))
                            have f0 := fr_I eS176 g0 f0 o_v0 (by decide)
                            have d_x151 := rd_Ij eS176 (by decide) d_x151
                            have d_x161 := rd_Ik eS176 o_v0 o_a94 (by decide) d_x161
                            have d_x171 := rd_Ik eS176 o_v0 o_a94 (by decide) d_x171
                            have d_y174 := rd_Ij eS176 (by decide) d_y174
                            have d_x175 := rd_Ij eS176 (by decide) d_x175
                            obtain ⟨y177, hy177⟩ : ∃ z : Int32, z = x175 := ⟨_, rfl⟩
                            have d_y177 := rd_Is eS176 hy177
                            have ea94 := rf_I eS176 ea94
                            have hT := tx_I eS176 hT
                            have l_v1 := ln_I eS176 l_v1
                            have g0 := gr_I eS176 g0
                            have o_a94 := ob_I eS176 o_a94
                            have o_v0 := ob_I eS176 o_v0
                            have o_v1 := ob_I eS176 o_v1
                            intro _ _
                            refine ⟨fun c179 => ?_, fun c179 => ?_⟩
                            · exact hq _ _ hI g0 f0 (Or.inl rfl)
                            · exact hq _ _ hI g0 f0 (Or.inr rfl)
                  · refine u_X4_read_236 ?_
                    refine u_X4_read_248 ?_
                    refine ⟨fun c180 => ?_, fun c180 => ?_⟩
                    · refine u_X4_read_295 ?_
                      refine ⟨fun c181 => ?_, fun c181 => ?_⟩
                      · exact hq _ _ hI g0 f0 (Or.inl rfl)
                      · refine ⟨o_v0, ?_⟩
                        refine m_X4_sign hI o_v0 hT (fun x182 S183 hJ g184 fc185 b_x182 p_x182 => ?_)
                        have hT := p_x182
                        have hI := hJ
                        have l_v1 := (gr_len g184 o_v1).trans l_v1
                        have ea94 := (frr_at fc185 (by decide) (by decide) o_v0).trans ea94
                        have f0 := fri_tr (S := S139) g0 f0 fc185 (by decide) (by decide)
                        have fL8 := fri_tr (S := S139) gL7 fL8 fc185 (by decide) (by decide)
                        have o_a94 := gr_ob g184 o_a94
                        have o_v0 := gr_ob g184 o_v0
                        have o_v1 := gr_ob g184 o_v1
                        have g0 := gr_tr (T := S139) g0 g184
                        have gL7 := gr_tr (T := S139) gL7 g184
                        intro _ _
                        have bb_x182 : x182 = 0 ∨ x182 = 1 := b_x182
                        refine ⟨fun c186 => ?_, fun c186 => ?_⟩
                        · intro x187 ex187
                          exact ih13 _ _ _ ⟨hI, gL7, fL8, rfl, hT, (q102 i1u5 c14 bb_x21 c25 bb_x26 c30 bb_x31 c35 bb_x36 c40 bb_x41 c45 bb_x46 c50 r_x95 p_x96 bb_x96 c100 bb_x138 c142 c180 bb_x182 c186 ex187)⟩ (mu_up (q103 i1u5 c14 bb_x21 c25 bb_x26 c30 bb_x31 c35 bb_x36 c40 bb_x41 c45 bb_x46 c50 r_x95 p_x96 bb_x96 c100 bb_x138 c142 c180 bb_x182 c186 ex187) (q104 i1u5 c14 bb_x21 c25 bb_x26 c30 bb_x31 c35 bb_x36 c40 bb_x41 c45 bb_x46 c50 r_x95 p_x96 bb_x96 c100 bb_x138 c142 c180 bb_x182 c186 ex187))
                        · exact hq _ _ hI g0 f0 (Or.inl rfl)
                    · refine ⟨o_v0, ?_⟩
                      intro x188 ex188
                      have d_x188 := ex188
                      refine ⟨fun c189 => ?_, fun c189 => ?_⟩
                      · refine u_X4_read_295 ?_
                        refine ⟨fun c190 => ?_, fun c190 => ?_⟩
                        · exact hq _ _ hI g0 f0 (Or.inl rfl)
                        · refine ⟨o_v0, ?_⟩
                          refine m_X4_sign hI o_v0 hT (fun x191 S192 hJ g193 fc194 b_x191 p_x191 => ?_)
                          have hT := p_x191
                          have hI := hJ
                          have l_v1 := (gr_len g193 o_v1).trans l_v1
                          have ea94 := (frr_at fc194 (by decide) (by decide) o_v0).trans ea94
                          have f0 := fri_tr (S := S139) g0 f0 fc194 (by decide) (by decide)
                          have fL8 := fri_tr (S := S139) gL7 fL8 fc194 (by decide) (by decide)
                          have o_a94 := gr_ob g193 o_a94
                          have o_v0 := gr_ob g193 o_v0
                          have o_v1 := gr_ob g193 o_v1
                          have g0 := gr_tr (T := S139) g0 g193
                          have gL7 := gr_tr (T := S139) gL7 g193
                          intro _ _
                          have bb_x191 : x191 = 0 ∨ x191 = 1 := b_x191
                          refine ⟨fun c195 => ?_, fun c195 => ?_⟩
                          · intro x196 ex196
                            exact ih13 _ _ _ ⟨hI, gL7, fL8, rfl, hT, (q105 i1u5 c14 bb_x21 c25 bb_x26 c30 bb_x31 c35 bb_x36 c40 bb_x41 c45 bb_x46 c50 r_x95 p_x96 bb_x96 c100 bb_x138 c142 c189 bb_x191 c195 ex196)⟩ (mu_up (q106 i1u5 c14 bb_x21 c25 bb_x26 c30 bb_x31 c35 bb_x36 c40 bb_x41 c45 bb_x46 c50 r_x95 p_x96 bb_x96 c100 bb_x138 c142 c189 bb_x191 c195 ex196) (q107 i1u5 c14 bb_x21 c25 bb_x26 c30 bb_x31 c35 bb_x36 c40 bb_x41 c45 bb_x46 c50 r_x95 p_x96 bb_x96 c100 bb_x138 c142 c189 bb_x191 c195 ex196))
                          · exact hq _ _ hI g0 f0 (Or.inl rfl)
                      · refine ⟨a94, ea94, ?_⟩
                        refine ⟨o_a94, ?_⟩
                        intro x198 ex198
                        have r_x198 : (0 : Int32) ≤ x198 ∧ x198 ≤ (8 : Int32) := by rw [ex198]; exact nu 12 rfl hI o_a94
                        have d_x198 := ex198
                        refine ⟨fun c199 => ?_, fun c199 => ?_⟩
                        · refine u_X4_read_280 ?_
                          refine ⟨o_v0, ?_⟩
                          refine u_X4_fail ?_
                          refine u_X4_fail_0 ?_
                          refine ⟨o_v0, ?_⟩
                          intro S200 eS200
                          have hI : IV S200 := by rw [eS200]; exact iv_sI hI o_v0 (by decide) (nu_free (by decide))
                          have f0 := fr_I eS200 g0 f0 o_v0 (by decide)
                          have d_x188 := rd_Ij eS200 (by decide) d_x188
                          have d_x198 := rd_Ik eS200 o_v0 o_a94 (by decide) d_x198
                          obtain ⟨y201, hy201⟩ : ∃ z : Int32, z = (6 : Int32) := ⟨_, rfl⟩
                          have d_y201 := rd_Is eS200 hy201
                          have ea94 := rf_I eS200 ea94
                          have hT := tx_I eS200 hT
                          have l_v1 := ln_I eS200 l_v1
                          have g0 := gr_I eS200 g0
                          have o_a94 := ob_I eS200 o_a94
                          have o_v0 := ob_I eS200 o_v0
                          have o_v1 := ob_I eS200 o_v1
                          intro x202 ex202
                          have d_x202 := ex202
                          intro S203 eS203
                          have hI : IV S203 := by rw [eS203]; exact iv_sI hI o_v0 (by decide) (nu_free (by decide))
                          have f0 := fr_I eS203 g0 f0 o_v0 (by decide)
                          have d_x188 := rd_Ij eS203 (by decide) d_x188
                          have d_x198 := rd_Ik eS203 o_v0 o_a94 (by decide) d_x198
                          have d_y201 := rd_Ij eS203 (by decide) d_y201
                          have d_x202 := rd_Ij eS203 (by decide) d_x202
                          obtain ⟨y204, hy204⟩ : ∃ z : Int32, z = x202 := ⟨_, rfl⟩
                          have d_y204 := rd_Is eS203 hy204
                          have ea94 := rf_I eS203 ea94
                          have hT := tx_I eS203 hT
                          have l_v1 := ln_I eS203 l_v1
                          have g0 := gr_I eS203 g0
                          have o_a94 := ob_I eS203 o_a94
                          have o_v0 := ob_I eS203 o_v0
                          have o_v1 := ob_I eS203 o_v1
                          intro _ _
                          refine ⟨fun c206 => ?_, fun c206 => ?_⟩
                          · exact hq _ _ hI g0 f0 (Or.inl rfl)
                          · exact hq _ _ hI g0 f0 (Or.inr rfl)
                        · refine ⟨a94, ea94, ?_⟩
                          refine ⟨o_a94, ?_⟩
                          intro x208 ex208
                          have r_x208 : (0 : Int32) ≤ x208 ∧ x208 ≤ (4 : Int32) := by rw [ex208]; exact nu 14 rfl hI o_a94
                          have d_x208 := ex208
                          refine ⟨fun c209 => ?_, fun c209 => ?_⟩
                          · exact hq _ _ hI g0 f0 (Or.inr rfl)
                          · refine u_X4_read_280 ?_
                            refine ⟨o_v0, ?_⟩
                            refine u_X4_fail ?_
                            refine u_X4_fail_0 ?_
                            refine ⟨o_v0, ?_⟩
                            intro S210 eS210
                            have hI : IV S210 := by rw [eS210]; exact iv_sI hI o_v0 (by decide) (nu_free (by decide))
                            have f0 := fr_I eS210 g0 f0 o_v0 (by decide)
                            have d_x188 := rd_Ij eS210 (by decide) d_x188
                            have d_x198 := rd_Ik eS210 o_v0 o_a94 (by decide) d_x198
                            have d_x208 := rd_Ik eS210 o_v0 o_a94 (by decide) d_x208
                            obtain ⟨y211, hy211⟩ : ∃ z : Int32, z = (6 : Int32) := ⟨_, rfl⟩
                            have d_y211 := rd_Is eS210 hy211
                            have ea94 := rf_I eS210 ea94
                            have hT := tx_I eS210 hT
                            have l_v1 := ln_I eS210 l_v1
                            have g0 := gr_I eS210 g0
                            have o_a94 := ob_I eS210 o_a94
                            have o_v0 := ob_I eS210 o_v0
                            have o_v1 := ob_I eS210 o_v1
                            intro x212 ex212
                            have d_x212 := ex212
                            intro S213 eS213
                            have hI : IV S213 := by rw [eS213]; exact iv_sI hI o_v0 (by decide) (nu_free (by decide))
                            have f0 := fr_I eS213 g0 f0 o_v0 (by decide)
                            have d_x188 := rd_Ij eS213 (by decide) d_x188
                            have d_x198 := rd_Ik eS213 o_v0 o_a94 (by decide) d_x198
                            have d_x208 := rd_Ik eS213 o_v0 o_a94 (by decide) d_x208
                            have d_y211 := rd_Ij eS213 (by decide) d_y211
                            have d_x212 := rd_Ij eS213 (by decide) d_x212
                            obtain ⟨y214, hy214⟩ : ∃ z : Int32, z = x212 := ⟨_, rfl⟩
                            have d_y214 := rd_Is eS213 hy214
                            have ea94 := rf_I eS213 ea94
                            have hT := tx_I eS213 hT
                            have l_v1 := ln_I eS213 l_v1
                            have g0 := gr_I eS213 g0
                            have o_a94 := ob_I eS213 o_a94
                            have o_v0 := ob_I eS213 o_v0
                            have o_v1 := ob_I eS213 o_v1
                            intro _ _
                            refine ⟨fun c216 => ?_, fun c216 => ?_⟩
                            · exact hq _ _ hI g0 f0 (Or.inl rfl)
                            · exact hq _ _ hI g0 f0 (Or.inr rfl)
            · obtain ⟨a217, ea217, o_a217, -⟩ := sh 12 rfl hI o_v0
              refine ⟨a217, ea217, ?_⟩
              refine ⟨o_a217, ?_⟩
              intro x218 ex218
              have r_x218 : (0 : Int32) ≤ x218 ∧ x218 ≤ (4 : Int32) := by rw [ex218]; exact nu 14 rfl hI o_a217
              have d_x218 := ex218
              refine m_X4_hasRoom hI o_v0 hT (fun x219 S220 hJ g221 fc222 b_x219 p_x219 => ?_)
              obtain ⟨hT, p_x219⟩ := p_x219
              have hI := hJ
              have l_v1 := (gr_len g221 o_v1).trans l_v1
              have d_x218 := d_x218.trans (fri_at fc222 (by decide) (by decide) o_a217).symm
              have ea217 := (frr_at fc222 (by decide) (by decide) o_v0).trans ea217
              have f0 := fri_tr (S := S6) g0 f0 fc222 (by decide) (by decide)
              have fL8 := fri_tr (S := S6) gL7 fL8 fc222 (by decide) (by decide)
              have o_a217 := gr_ob g221 o_a217
              have o_v0 := gr_ob g221 o_v0
              have o_v1 := gr_ob g221 o_v1
              have g0 := gr_tr (T := S6) g0 g221
              have gL7 := gr_tr (T := S6) gL7 g221
              intro _ _
              have bb_x219 : x219 = 0 ∨ x219 = 1 := b_x219
              refine ⟨fun c223 => ?_, fun c223 => ?_⟩
              · refine u_X4_read_194 ?_
                refine u_X4_read_195 ?_
                refine u_X4_read_248 ?_
                refine ⟨fun c224 => ?_, fun c224 => ?_⟩
                · refine u_X4_read_295 ?_
                  refine ⟨fun c225 => ?_, fun c225 => ?_⟩
                  · exact hq _ _ hI g0 f0 (Or.inl rfl)
                  · refine ⟨o_v0, ?_⟩
                    refine m_X4_sign hI o_v0 hT (fun x226 S227 hJ g228 fc229 b_x226 p_x226 => ?_)
                    have hT := p_x226
                    have hI := hJ
                    have l_v1 := (gr_len g228 o_v1).trans l_v1
                    have d_x218 := d_x218.trans (fri_at fc229 (by decide) (by decide) o_a217).symm
                    have ea217 := (frr_at fc229 (by decide) (by decide) o_v0).trans ea217
                    have f0 := fri_tr (S := S220) g0 f0 fc229 (by decide) (by decide)
                    have fL8 := fri_tr (S := S220) gL7 fL8 fc229 (by decide) (by decide)
                    have o_a217 := gr_ob g228 o_a217
                    have o_v0 := gr_ob g228 o_v0
                    have o_v1 := gr_ob g228 o_v1
                    have g0 := gr_tr (T := S220) g0 g228
                    have gL7 := gr_tr (T := S220) gL7 g228
                    intro _ _
                    have bb_x226 : x226 = 0 ∨ x226 = 1 := b_x226
                    refine ⟨fun c230 => ?_, fun c230 => ?_⟩
                    · intro x231 ex231
                      exact ih13 _ _ _ ⟨hI, gL7, fL8, rfl, hT, (q108 i1u5 c14 bb_x21 c25 bb_x26 c30 bb_x31 c35 bb_x36 c40 bb_x41 c45 r_x218 p_x219 bb_x219 c223 c225 bb_x226 c230 ex231)⟩ (mu_up (q109 i1u5 c14 bb_x21 c25 bb_x26 c30 bb_x31 c35 bb_x36 c40 bb_x41 c45 r_x218 p_x219 bb_x219 c223 c225 bb_x226 c230 ex231) (q110 i1u5 c14 bb_x21 c25 bb_x26 c30 bb_x31 c35 bb_x36 c40 bb_x41 c45 r_x218 p_x219 bb_x219 c223 c225 bb_x226 c230 ex231))
                    · exact hq _ _ hI g0 f0 (Or.inl rfl)
                · refine ⟨o_v0, ?_⟩
                  intro x232 ex232
                  have d_x232 := ex232
                  refine ⟨fun c233 => ?_, fun c233 => ?_⟩
                  · refine u_X4_read_295 ?_
                    refine ⟨fun c234 => ?_, fun c234 => ?_⟩
                    · exact hq _ _ hI g0 f0 (Or.inl rfl)
                    · refine ⟨o_v0, ?_⟩
                      refine m_X4_sign hI o_v0 hT (fun x235 S236 hJ g237 fc238 b_x235 p_x235 => ?_)
                      have hT := p_x235
                      have hI := hJ
                      have l_v1 := (gr_len g237 o_v1).trans l_v1
                      have d_x218 := d_x218.trans (fri_at fc238 (by decide) (by decide) o_a217).symm
                      have ea217 := (frr_at fc238 (by decide) (by decide) o_v0).trans ea217
                      have f0 := fri_tr (S := S220) g0 f0 fc238 (by decide) (by decide)
                      have fL8 := fri_tr (S := S220) gL7 fL8 fc238 (by decide) (by decide)
                      have o_a217 := gr_ob g237 o_a217
                      have o_v0 := gr_ob g237 o_v0
                      have o_v1 := gr_ob g237 o_v1
                      have g0 := gr_tr (T := S220) g0 g237
                      have gL7 := gr_tr (T := S220) gL7 g237
                      intro _ _
                      have bb_x235 : x235 = 0 ∨ x235 = 1 := b_x235
                      refine ⟨fun c239 => ?_, fun c239 => ?_⟩
                      · intro x240 ex240
                        exact ih13 _ _ _ ⟨hI, gL7, fL8, rfl, hT, (q111 i1u5 c14 bb_x21 c25 bb_x26 c30 bb_x31 c35 bb_x36 c40 bb_x41 c45 r_x218 p_x219 bb_x219 c223 c224 c233 c234 bb_x235 c239 ex240)⟩ (mu_up (q112 i1u5 c14 bb_x21 c25 bb_x26 c30 bb_x31 c35 bb_x36 c40 bb_x41 c45 r_x218 p_x219 bb_x219 c223 c224 c233 c234 bb_x235 c239 ex240) (q113 i1u5 c14 bb_x21 c25 bb_x26 c30 bb_x31 c35 bb_x36 c40 bb_x41 c45 r_x218 p_x219 bb_x219 c223 c224 c233 c234 bb_x235 c239 ex240))
                      · exact hq _ _ hI g0 f0 (Or.inl rfl)
                  · refine ⟨a217, ea217, ?_⟩
                    refine ⟨o_a217, ?_⟩
                    intro x242 ex242
                    have r_x242 : (0 : Int32) ≤ x242 ∧ x242 ≤ (8 : Int32) := by rw [ex242]; exact nu 12 rfl hI o_a217
                    have d_x242 := ex242
                    refine ⟨fun c243 => ?_, fun c243 => ?_⟩
                    · refine u_X4_read_280 ?_
                      refine ⟨o_v0, ?_⟩
                      refine u_X4_fail ?_
                      refine u_X4_fail_0 ?_
                      refine ⟨o_v0, ?_⟩
                      intro S244 eS244
                      have hI : IV S244 := by rw [eS244]; exact iv_sI hI o_v0 (by decide) (nu_free (by decide))
                      have f0 := fr_I eS244 g0 f0 o_v0 (by decide)
                      have d_x218 := rd_Ik eS244 o_v0 o_a217 (by decide) d_x218
                      have d_x232 := rd_Ij eS244 (by decide) d_x232
                      have d_x242 := rd_Ik eS244 o_v0 o_a217 (by decide) d_x242
                      obtain ⟨y245, hy245⟩ : ∃ z : Int32, z = (6 : Int32) := ⟨_, rfl⟩
                      have d_y245 := rd_Is eS244 hy245
                      have ea217 := rf_I eS244 ea217
                      have hT := tx_I eS244 hT
                      have l_v1 := ln_I eS244 l_v1
                      have g0 := gr_I eS244 g0
                      have o_a217 := ob_I eS244 o_a217
                      have o_v0 := ob_I eS244 o_v0
                      have o_v1 := ob_I eS244 o_v1
                      intro x246 ex246
                      have d_x246 := ex246
                      intro S247 eS247
                      have hI : IV S247 := by rw [eS247]; exact iv_sI hI o_v0 (by decide) (nu_free (by decide))
                      have f0 := fr_I eS247 g0 f0 o_v0 (by decide)
                      have d_x218 := rd_Ik eS247 o_v0 o_a217 (by decide) d_x218
                      have d_x232 := rd_Ij eS247 (by decide) d_x232
                      have d_x242 := rd_Ik eS247 o_v0 o_a217 (by decide) d_x242
                      have d_y245 := rd_Ij eS247 (by decide) d_y245
                      have d_x246 := rd_Ij eS247 (by decide) d_x246
                      obtain ⟨y248, hy248⟩ : ∃ z : Int32, z = x246 := ⟨_, rfl⟩
                      have d_y248 := rd_Is eS247 hy248
                      have ea217 := rf_I eS247 ea217
                      have hT := tx_I eS247 hT
                      have l_v1 := ln_I eS247 l_v1
                      have g0 := gr_I eS247 g0
                      have o_a217 := ob_I eS247 o_a217
                      have o_v0 := ob_I eS247 o_v0
                      have o_v1 := ob_I eS247 o_v1
                      intro _ _
                      refine ⟨fun c250 => ?_, fun c250 => ?_⟩
                      · exact hq _ _ hI g0 f0 (Or.inl rfl)
                      · exact hq _ _ hI g0 f0 (Or.inr rfl)
                    · refine ⟨a217, ea217, ?_⟩
                      refine ⟨o_a217, ?_⟩
                      intro x252 ex252
                      have r_x252 : (0 : Int32) ≤ x252 ∧ x252 ≤ (4 : Int32) := by rw [ex252]; exact nu 14 rfl hI o_a217
                      have q_x252 : x252 = x218 := ex252.trans d_x218.symm
                      have d_x252 := ex252
                      refine ⟨fun c253 => ?_, fun c253 => ?_⟩
                      · exact hq _ _ hI g0 f0 (Or.inr rfl)
                      · refine u_X4_read_280 ?_
                        refine ⟨o_v0, ?_⟩
                        refine u_X4_fail ?_
                        refine u_X4_fail_0 ?_
                        refine ⟨o_v0, ?_⟩
                        intro S254 eS254
                        have hI : IV S254 := by rw [eS254]; exact iv_sI hI o_v0 (by decide) (nu_free (by decide))
                        have f0 := fr_I eS254 g0 f0 o_v0 (by decide)
                        have d_x252 := rd_Ik eS254 o_v0 o_a217 (by decide) d_x252
                        have d_x232 := rd_Ij eS254 (by decide) d_x232
                        have d_x242 := rd_Ik eS254 o_v0 o_a217 (by decide) d_x242
                        obtain ⟨y255, hy255⟩ : ∃ z : Int32, z = (6 : Int32) := ⟨_, rfl⟩
                        have d_y255 := rd_Is eS254 hy255
                        have ea217 := rf_I eS254 ea217
                        have hT := tx_I eS254 hT
                        have l_v1 := ln_I eS254 l_v1
                        have g0 := gr_I eS254 g0
                        have o_a217 := ob_I eS254 o_a217
                        have o_v0 := ob_I eS254 o_v0
                        have o_v1 := ob_I eS254 o_v1
                        intro x256 ex256
                        have d_x256 := ex256
                        intro S257 eS257
                        have hI : IV S257 := by rw [eS257]; exact iv_sI hI o_v0 (by decide) (nu_free (by decide))
                        have f0 := fr_I eS257 g0 f0 o_v0 (by decide)
                        have d_x252 := rd_Ik eS257 o_v0 o_a217 (by decide) d_x252
                        have d_x232 := rd_Ij eS257 (by decide) d_x232
                        have d_x242 := rd_Ik eS257 o_v0 o_a217 (by decide) d_x242
                        have d_y255 := rd_Ij eS257 (by decide) d_y255
                        have d_x256 := rd_Ij eS257 (by decide) d_x256
                        obtain ⟨y258, hy258⟩ : ∃ z : Int32, z = x256 := ⟨_, rfl⟩
                        have d_y258 := rd_Is eS257 hy258
                        have ea217 := rf_I eS257 ea217
                        have hT := tx_I eS257 hT
                        have l_v1 := ln_I eS257 l_v1
                        have g0 := gr_I eS257 g0
                        have o_a217 := ob_I eS257 o_a217
                        have o_v0 := ob_I eS257 o_v0
                        have o_v1 := ob_I eS257 o_v1
                        intro _ _
                        refine ⟨fun c260 => ?_, fun c260 => ?_⟩
                        · exact hq _ _ hI g0 f0 (Or.inl rfl)
                        · exact hq _ _ hI g0 f0 (Or.inr rfl)
              · refine m_X4_walkerLine hI o_v0 (fun z hz => by cases ea217.symm.trans hz; rw [← d_x218]; exact (q114 i1u5 c14 bb_x21 c25 bb_x26 c30 bb_x31 c35 bb_x36 c40 bb_x41 c45 r_x218 p_x219 bb_x219 c223)) hT (fun x261 S262 hJ g263 fc264 b_x261 p_x261 => ?_)
                have hT := p_x261
                have hI := hJ
                have l_v1 := (gr_len g263 o_v1).trans l_v1
                have ea217 := (frr_at fc264 (by decide) (by decide) o_v0).trans ea217
                have f0 := fri_tr (S := S220) g0 f0 fc264 (by decide) (by decide)
                have fL8 := fri_tr (S := S220) gL7 fL8 fc264 (by decide) (by decide)
                have o_a217 := gr_ob g263 o_a217
                have o_v0 := gr_ob g263 o_v0
                have o_v1 := gr_ob g263 o_v1
                have g0 := gr_tr (T := S220) g0 g263
                have gL7 := gr_tr (T := S220) gL7 g263
                intro _ _
                have bb_x261 : x261 = 0 ∨ x261 = 1 := b_x261
                refine ⟨fun c265 => ?_, fun c265 => ?_⟩
                · refine u_X4_read_194 ?_
                  refine u_X4_read_195 ?_
                  refine u_X4_read_248 ?_
                  refine ⟨fun c266 => ?_, fun c266 => ?_⟩
                  · refine u_X4_read_295 ?_
                    refine ⟨fun c267 => ?_, fun c267 => ?_⟩
                    · exact hq _ _ hI g0 f0 (Or.inl rfl)
                    · refine ⟨o_v0, ?_⟩
                      refine m_X4_sign hI o_v0 hT (fun x268 S269 hJ g270 fc271 b_x268 p_x268 => ?_)
                      have hT := p_x268
                      have hI := hJ
                      have l_v1 := (gr_len g270 o_v1).trans l_v1
                      have ea217 := (frr_at fc271 (by decide) (by decide) o_v0).trans ea217
                      have f0 := fri_tr (S := S262) g0 f0 fc271 (by decide) (by decide)
                      have fL8 := fri_tr (S := S262) gL7 fL8 fc271 (by decide) (by decide)
                      have o_a217 := gr_ob g270 o_a217
                      have o_v0 := gr_ob g270 o_v0
                      have o_v1 := gr_ob g270 o_v1
                      have g0 := gr_tr (T := S262) g0 g270
                      have gL7 := gr_tr (T := S262) gL7 g270
                      intro _ _
                      have bb_x268 : x268 = 0 ∨ x268 = 1 := b_x268
                      refine ⟨fun c272 => ?_, fun c272 => ?_⟩
                      · intro x273 ex273
                        exact ih13 _ _ _ ⟨hI, gL7, fL8, rfl, hT, (q115 i1u5 c14 bb_x21 c25 bb_x26 c30 bb_x31 c35 bb_x36 c40 bb_x41 c45 r_x218 p_x219 bb_x219 c223 bb_x261 c265 c267 bb_x268 c272 ex273)⟩ (mu_up (q116 i1u5 c14 bb_x21 c25 bb_x26 c30 bb_x31 c35 bb_x36 c40 bb_x41 c45 r_x218 p_x219 bb_x219 c223 bb_x261 c265 c267 bb_x268 c272 ex273) (q117 i1u5 c14 bb_x21 c25 bb_x26 c30 bb_x31 c35 bb_x36 c40 bb_x41 c45 r_x218 p_x219 bb_x219 c223 bb_x261 c265 c267 bb_x268 c272 ex273))
                      · exact hq _ _ hI g0 f0 (Or.inl rfl)
                  · refine ⟨o_v0, ?_⟩
                    intro x274 ex274
                    have d_x274 := ex274
                    refine ⟨fun c275 => ?_, fun c275 => ?_⟩
                    · refine u_X4_read_295 ?_
                      refine ⟨fun c276 => ?_, fun c276 => ?_⟩
                      · exact hq _ _ hI g0 f0 (Or.inl rfl)
                      · refine ⟨o_v0, ?_⟩
                        refine m_X4_sign hI o_v0 hT (fun x277 S278 hJ g279 fc280 b_x277 p_x277 => ?_)
                        have hT := p_x277
                        have hI := hJ
                        have l_v1 := (gr_len g279 o_v1).trans l_v1
                        have ea217 := (frr_at fc280 (by decide) (by decide) o_v0).trans ea217
                        have f0 := fri_tr (S := S262) g0 f0 fc280 (by decide) (by decide)
                        have fL8 := fri_tr (S := S262) gL7 fL8 fc280 (by decide) (by decide)
                        have o_a217 := gr_ob g279 o_a217
                        have o_v0 := gr_ob g279 o_v0
                        have o_v1 := gr_ob g279 o_v1
                        have g0 := gr_tr (T := S262) g0 g279
                        have gL7 := gr_tr (T := S262) gL7 g279
                        intro _ _
                        have bb_x277 : x277 = 0 ∨ x277 = 1 := b_x277
                        refine ⟨fun c281 => ?_, fun c281 => ?_⟩
                        · intro x282 ex282
                          exact ih13 _ _ _ ⟨hI, gL7, fL8, rfl, hT, (q118 i1u5 c14 bb_x21 c25 bb_x26 c30 bb_x31 c35 bb_x36 c40 bb_x41 c45 r_x218 p_x219 bb_x219 c223 bb_x261 c265 c266 c275 c276 bb_x277 c281 ex282)⟩ (mu_up (q119 i1u5 c14 bb_x21 c25 bb_x26 c30 bb_x31 c35 bb_x36 c40 bb_x41 c45 r_x218 p_x219 bb_x219 c223 bb_x261 c265 c266 c275 c276 bb_x277 c281 ex282) (q120 i1u5 c14 bb_x21 c25 bb_x26 c30 bb_x31 c35 bb_x36 c40 bb_x41 c45 r_x218 p_x219 bb_x219 c223 bb_x261 c265 c266 c275 c276 bb_x277 c281 ex282))
                        · exact hq _ _ hI g0 f0 (Or.inl rfl)
                    · refine ⟨a217, ea217, ?_⟩
                      refine ⟨o_a217, ?_⟩
                      intro x284 ex284
                      have r_x284 : (0 : Int32) ≤ x284 ∧ x284 ≤ (8 : Int32) := by rw [ex284]; exact nu 12 rfl hI o_a217
                      have d_x284 := ex284
                      refine ⟨fun c285 => ?_, fun c285 => ?_⟩
                      · refine u_X4_read_280 ?_
                        refine ⟨o_v0, ?_⟩
                        refine u_X4_fail ?_
                        refine u_X4_fail_0 ?_
                        refine ⟨o_v0, ?_⟩
                        intro S286 eS286
                        have hI : IV S286 := by rw [eS286]; exact iv_sI hI o_v0 (by decide) (nu_free (by decide))
                        have f0 := fr_I eS286 g0 f0 o_v0 (by decide)
                        have d_x274 := rd_Ij eS286 (by decide) d_x274
                        have d_x284 := rd_Ik eS286 o_v0 o_a217 (by decide) d_x284
                        obtain ⟨y287, hy287⟩ : ∃ z : Int32, z = (6 : Int32) := ⟨_, rfl⟩
                        have d_y287 := rd_Is eS286 hy287
                        have ea217 := rf_I eS286 ea217
                        have hT := tx_I eS286 hT
                        have l_v1 := ln_I eS286 l_v1
                        have g0 := gr_I eS286 g0
                        have o_a217 := ob_I eS286 o_a217
                        have o_v0 := ob_I eS286 o_v0
                        have o_v1 := ob_I eS286 o_v1
                        intro x288 ex288
                        have d_x288 := ex288
                        intro S289 eS289
                        have hI : IV S289 := by rw [eS289]; exact iv_sI hI o_v0 (by decide) (nu_free (by decide))
                        have f0 := fr_I eS289 g0 f0 o_v0 (by decide)
                        have d_x274 := rd_Ij eS289 (by decide) d_x274
                        have d_x284 := rd_Ik eS289 o_v0 o_a217 (by decide) d_x284
                        have d_y287 := rd_Ij eS289 (by decide) d_y287
                        have d_x288 := rd_Ij eS289 (by decide) d_x288
                        obtain ⟨y290, hy290⟩ : ∃ z : Int32, z = x288 := ⟨_, rfl⟩
                        have d_y290 := rd_Is eS289 hy290
                        have ea217 := rf_I eS289 ea217
                        have hT := tx_I eS289 hT
                        have l_v1 := ln_I eS289 l_v1
                        have g0 := gr_I eS289 g0
                        have o_a217 := ob_I eS289 o_a217
                        have o_v0 := ob_I eS289 o_v0
                        have o_v1 := ob_I eS289 o_v1
                        intro _ _
                        refine ⟨fun c292 => ?_, fun c292 => ?_⟩
                        · exact hq _ _ hI g0 f0 (Or.inl rfl)
                        · exact hq _ _ hI g0 f0 (Or.inr rfl)
                      · refine ⟨a217, ea217, ?_⟩
                        refine ⟨o_a217, ?_⟩
                        intro x294 ex294
                        have r_x294 : (0 : Int32) ≤ x294 ∧ x294 ≤ (4 : Int32) := by rw [ex294]; exact nu 14 rfl hI o_a217
                        have d_x294 := ex294
                        refine ⟨fun c295 => ?_, fun c295 => ?_⟩
                        · exact hq _ _ hI g0 f0 (Or.inr rfl)
                        · refine u_X4_read_280 ?_
                          refine ⟨o_v0, ?_⟩
                          refine u_X4_fail ?_
                          refine u_X4_fail_0 ?_
                          refine ⟨o_v0, ?_⟩
                          intro S296 eS296
                          have hI : IV S296 := by rw [eS296]; exact iv_sI hI o_v0 (by decide) (nu_free (by decide))
                          have f0 := fr_I eS296 g0 f0 o_v0 (by decide)
                          have d_x274 := rd_Ij eS296 (by decide) d_x274
                          have d_x284 := rd_Ik eS296 o_v0 o_a217 (by decide) d_x284
                          have d_x294 := rd_Ik eS296 o_v0 o_a217 (by decide) d_x294
                          obtain ⟨y297, hy297⟩ : ∃ z : Int32, z = (6 : Int32) := ⟨_, rfl⟩
                          have d_y297 := rd_Is eS296 hy297
                          have ea217 := rf_I eS296 ea217
                          have hT := tx_I eS296 hT
                          have l_v1 := ln_I eS296 l_v1
                          have g0 := gr_I eS296 g0
                          have o_a217 := ob_I eS296 o_a217
                          have o_v0 := ob_I eS296 o_v0
                          have o_v1 := ob_I eS296 o_v1
                          intro x298 ex298
                          have d_x298 := ex298
                          intro S299 eS299
                          have hI : IV S299 := by rw [eS299]; exact iv_sI hI o_v0 (by decide) (nu_free (by decide))
                          have f0 := fr_I eS299 g0 f0 o_v0 (by decide)
                          have d_x274 := rd_Ij eS299 (by decide) d_x274
                          have d_x284 := rd_Ik eS299 o_v0 o_a217 (by decide) d_x284
                          have d_x294 := rd_Ik eS299 o_v0 o_a217 (by decide) d_x294
                          have d_y297 := rd_Ij eS299 (by decide) d_y297
                          have d_x298 := rd_Ij eS299 (by decide) d_x298
                          obtain ⟨y300, hy300⟩ : ∃ z : Int32, z = x298 := ⟨_, rfl⟩
                          have d_y300 := rd_Is eS299 hy300
                          have ea217 := rf_I eS299 ea217
                          have hT := tx_I eS299 hT
                          have l_v1 := ln_I eS299 l_v1
                          have g0 := gr_I eS299 g0
                          have o_a217 := ob_I eS299 o_a217
                          have o_v0 := ob_I eS299 o_v0
                          have o_v1 := ob_I eS299 o_v1
                          intro _ _
                          refine ⟨fun c302 => ?_, fun c302 => ?_⟩
                          · exact hq _ _ hI g0 f0 (Or.inl rfl)
                          · exact hq _ _ hI g0 f0 (Or.inr rfl)
                · refine u_X4_read_195 ?_
                  refine u_X4_read_248 ?_
                  refine ⟨fun c303 => ?_, fun c303 => ?_⟩
                  · refine u_X4_read_295 ?_
                    refine ⟨fun c304 => ?_, fun c304 => ?_⟩
                    · exact hq _ _ hI g0 f0 (Or.inl rfl)
                    · refine ⟨o_v0, ?_⟩
                      refine m_X4_sign hI o_v0 hT (fun x305 S306 hJ g307 fc308 b_x305 p_x305 => ?_)
                      have hT := p_x305
                      have hI := hJ
                      have l_v1 := (gr_len g307 o_v1).trans l_v1
                      have ea217 := (frr_at fc308 (by decide) (by decide) o_v0).trans ea217
                      have f0 := fri_tr (S := S262) g0 f0 fc308 (by decide) (by decide)
                      have fL8 := fri_tr (S := S262) gL7 fL8 fc308 (by decide) (by decide)
                      have o_a217 := gr_ob g307 o_a217
                      have o_v0 := gr_ob g307 o_v0
                      have o_v1 := gr_ob g307 o_v1
                      have g0 := gr_tr (T := S262) g0 g307
                      have gL7 := gr_tr (T := S262) gL7 g307
                      intro _ _
                      have bb_x305 : x305 = 0 ∨ x305 = 1 := b_x305
                      refine ⟨fun c309 => ?_, fun c309 => ?_⟩
                      · intro x310 ex310
                        exact ih13 _ _ _ ⟨hI, gL7, fL8, rfl, hT, (q121 i1u5 c14 bb_x21 c25 bb_x26 c30 bb_x31 c35 bb_x36 c40 bb_x41 c45 r_x218 p_x219 bb_x219 c223 bb_x261 c265 c303 bb_x305 c309 ex310)⟩ (mu_up (q122 i1u5 c14 bb_x21 c25 bb_x26 c30 bb_x31 c35 bb_x36 c40 bb_x41 c45 r_x218 p_x219 bb_x219 c223 bb_x261 c265 c303 bb_x305 c309 ex310) (q123 i1u5 c14 bb_x21 c25 bb_x26 c30 bb_x31 c35 bb_x36 c40 bb_x41 c45 r_x218 p_x219 bb_x219 c223 bb_x261 c265 c303 bb_x305 c309 ex310))
                      · exact hq _ _ hI g0 f0 (Or.inl rfl)
                  · refine ⟨o_v0, ?_⟩
                    intro x311 ex311
                    have d_x311 := ex311
                    refine ⟨fun c312 => ?_, fun c312 => ?_⟩
                    · refine u_X4_read_295 ?_
                      refine ⟨fun c313 => ?_, fun c313 => ?_⟩
                      · exact hq _ _ hI g0 f0 (Or.inl rfl)
                      · refine ⟨o_v0, ?_⟩
                        refine m_X4_sign hI o_v0 hT (fun x314 S315 hJ g316 fc317 b_x314 p_x314 => ?_)
                        have hT := p_x314
                        have hI := hJ
                        have l_v1 := (gr_len g316 o_v1).trans l_v1
                        have ea217 := (frr_at fc317 (by decide) (by decide) o_v0).trans ea217
                        have f0 := fri_tr (S := S262) g0 f0 fc317 (by decide) (by decide)
                        have fL8 := fri_tr (S := S262) gL7 fL8 fc317 (by decide) (by decide)
                        have o_a217 := gr_ob g316 o_a217
                        have o_v0 := gr_ob g316 o_v0
                        have o_v1 := gr_ob g316 o_v1
                        have g0 := gr_tr (T := S262) g0 g316
                        have gL7 := gr_tr (T := S262) gL7 g316
                        intro _ _
                        have bb_x314 : x314 = 0 ∨ x314 = 1 := b_x314
                        refine ⟨fun c318 => ?_, fun c318 => ?_⟩
                        · intro x319 ex319
                          exact ih13 _ _ _ ⟨hI, gL7, fL8, rfl, hT, (q124 i1u5 c14 bb_x21 c25 bb_x26 c30 bb_x31 c35 bb_x36 c40 bb_x41 c45 r_x218 p_x219 bb_x219 c223 bb_x261 c265 c312 bb_x314 c318 ex319)⟩ (mu_up (q125 i1u5 c14 bb_x21 c25 bb_x26 c30 bb_x31 c35 bb_x36 c40 bb_x41 c45 r_x218 p_x219 bb_x219 c223 bb_x261 c265 c312 bb_x314 c318 ex319) (q126 i1u5 c14 bb_x21 c25 bb_x26 c30 bb_x31 c35 bb_x36 c40 bb_x41 c45 r_x218 p_x219 bb_x219 c223 bb_x261 c265 c312 bb_x314 c318 ex319))
                        · exact hq _ _ hI g0 f0 (Or.inl rfl)
                    · refine ⟨a217, ea217, ?_⟩
                      refine ⟨o_a217, ?_⟩
                      intro x321 ex321
                      have r_x321 : (0 : Int32) ≤ x321 ∧ x321 ≤ (8 : Int32) := by rw [ex321]; exact nu 12 rfl hI o_a217
                      have d_x321 := ex321
                      refine ⟨fun c322 => ?_, fun c322 => ?_⟩
                      · refine u_X4_read_280 ?_
                        refine ⟨o_v0, ?_⟩
                        refine u_X4_fail ?_
                        refine u_X4_fail_0 ?_
                        refine ⟨o_v0, ?_⟩
                        intro S323 eS323
                        have hI : IV S323 := by rw [eS323]; exact iv_sI hI o_v0 (by decide) (nu_free (by decide))
                        have f0 := fr_I eS323 g0 f0 o_v0 (by decide)
                        have d_x311 := rd_Ij eS323 (by decide) d_x311
                        have d_x321 := rd_Ik eS323 o_v0 o_a217 (by decide) d_x321
                        obtain ⟨y324, hy324⟩ : ∃ z : Int32, z = (6 : Int32) := ⟨_, rfl⟩
                        have d_y324 := rd_Is eS323 hy324
                        have ea217 := rf_I eS323 ea217
                        have hT := tx_I eS323 hT
                        have l_v1 := ln_I eS323 l_v1
                        have g0 := gr_I eS323 g0
                        have o_a217 := ob_I eS323 o_a217
                        have o_v0 := ob_I eS323 o_v0
                        have o_v1 := ob_I eS323 o_v1
                        intro x325 ex325
                        have d_x325 := ex325
                        intro S326 eS326
                        have hI : IV S326 := by rw [eS326]; exact iv_sI hI o_v0 (by decide) (nu_free (by decide))
                        have f0 := fr_I eS326 g0 f0 o_v0 (by decide)
                        have d_x311 := rd_Ij eS326 (by decide) d_x311
                        have d_x321 := rd_Ik eS326 o_v0 o_a217 (by decide) d_x321
                        have d_y324 := rd_Ij eS326 (by decide) d_y324
                        have d_x325 := rd_Ij eS326 (by decide) d_x325
                        obtain ⟨y327, hy327⟩ : ∃ z : Int32, z = x325 := ⟨_, rfl⟩
                        have d_y327 := rd_Is eS326 hy327
                        have ea217 := rf_I eS326 ea217
                        have hT := tx_I eS326 hT
                        have l_v1 := ln_I eS326 l_v1
                        have g0 := gr_I eS326 g0
                        have o_a217 := ob_I eS326 o_a217
                        have o_v0 := ob_I eS326 o_v0
                        have o_v1 := ob_I eS326 o_v1
                        intro _ _
                        refine ⟨fun c329 => ?_, fun c329 => ?_⟩
                        · exact hq _ _ hI g0 f0 (Or.inl rfl)
                        · exact hq _ _ hI g0 f0 (Or.inr rfl)
                      · refine ⟨a217, ea217, ?_⟩
                        refine ⟨o_a217, ?_⟩
                        intro x331 ex331
                        have r_x331 : (0 : Int32) ≤ x331 ∧ x331 ≤ (4 : Int32) := by rw [ex331]; exact nu 14 rfl hI o_a217
                        have d_x331 := ex331
                        refine ⟨fun c332 => ?_, fun c332 => ?_⟩
                        · exact hq _ _ hI g0 f0 (Or.inr rfl)
                        · refine u_X4_read_280 ?_
                          refine ⟨o_v0, ?_⟩
                          refine u_X4_fail ?_
                          refine u_X4_fail_0 ?_
                          refine ⟨o_v0, ?_⟩
                          intro S333 eS333
                          have hI : IV S333 := by rw [eS333]; exact iv_sI hI o_v0 (by decide) (nu_free (by decide))
                          have f0 := fr_I eS333 g0 f0 o_v0 (by decide)
                          have d_x311 := rd_Ij eS333 (by decide) d_x311
                          have d_x321 := rd_Ik eS333 o_v0 o_a217 (by decide) d_x321
                          have d_x331 := rd_Ik eS333 o_v0 o_a217 (by decide) d_x331
                          obtain ⟨y334, hy334⟩ : ∃ z : Int32, z = (6 : Int32) := ⟨_, rfl⟩
                          have d_y334 := rd_Is eS333 hy334
                          have ea217 := rf_I eS333 ea217
                          have hT := tx_I eS333 hT
                          have l_v1 := ln_I eS333 l_v1
                          have g0 := gr_I eS333 g0
                          have o_a217 := ob_I eS333 o_a217
                          have o_v0 := ob_I eS333 o_v0
                          have o_v1 := ob_I eS333 o_v1
                          intro x335 ex335
                          have d_x335 := ex335
                          intro S336 eS336
                          have hI : IV S336 := by rw [eS336]; exact iv_sI hI o_v0 (by decide) (nu_free (by decide))
                          have f0 := fr_I eS336 g0 f0 o_v0 (by decide)
                          have d_x311 := rd_Ij eS336 (by decide) d_x311
                          have d_x321 := rd_Ik eS336 o_v0 o_a217 (by decide) d_x321
                          have d_x331 := rd_Ik eS336 o_v0 o_a217 (by decide) d_x331
                          have d_y334 := rd_Ij eS336 (by decide) d_y334
                          have d_x335 := rd_Ij eS336 (by decide) d_x335
                          obtain ⟨y337, hy337⟩ : ∃ z : Int32, z = x335 := ⟨_, rfl⟩
                          have d_y337 := rd_Is eS336 hy337
                          have ea217 := rf_I eS336 ea217
                          have hT := tx_I eS336 hT
                          have l_v1 := ln_I eS336 l_v1
                          have g0 := gr_I eS336 g0
                          have o_a217 := ob_I eS336 o_a217
                          have o_v0 := ob_I eS336 o_v0
                          have o_v1 := ob_I eS336 o_v1
                          intro _ _
                          refine ⟨fun c339 => ?_, fun c339 => ?_⟩
                          · exact hq _ _ hI g0 f0 (Or.inl rfl)
                          · exact hq _ _ hI g0 f0 (Or.inr rfl)
          · obtain ⟨a340, ea340, o_a340, -⟩ := sh 12 rfl hI o_v0
            refine ⟨a340, ea340, ?_⟩
            refine ⟨o_a340, ?_⟩
            intro x341 ex341
            have r_x341 : (0 : Int32) ≤ x341 ∧ x341 ≤ (12 : Int32) := by rw [ex341]; exact nu 13 rfl hI o_a340
            have d_x341 := ex341
            refine m_X4_hasRoom hI o_v0 hT (fun x342 S343 hJ g344 fc345 b_x342 p_x342 => ?_)
            obtain ⟨hT, p_x342⟩ := p_x342
            have hI := hJ
            have l_v1 := (gr_len g344 o_v1).trans l_v1
            have d_x341 := d_x341.trans (fri_at fc345 (by decide) (by decide) o_a340).symm
            have ea340 := (frr_at fc345 (by decide) (by decide) o_v0).trans ea340
            have f0 := fri_tr (S := S6) g0 f0 fc345 (by decide) (by decide)
            have fL8 := fri_tr (S := S6) gL7 fL8 fc345 (by decide) (by decide)
            have o_a340 := gr_ob g344 o_a340
            have o_v0 := gr_ob g344 o_v0
            have o_v1 := gr_ob g344 o_v1
            have g0 := gr_tr (T := S6) g0 g344
            have gL7 := gr_tr (T := S6) gL7 g344
            intro _ _
            have bb_x342 : x342 = 0 ∨ x342 = 1 := b_x342
            refine ⟨fun c346 => ?_, fun c346 => ?_⟩
            · refine u_X4_read_153 ?_
              refine u_X4_read_154 ?_
              refine u_X4_read_248 ?_
              refine ⟨fun c347 => ?_, fun c347 => ?_⟩
              · refine u_X4_read_295 ?_
                refine ⟨fun c348 => ?_, fun c348 => ?_⟩
                · exact hq _ _ hI g0 f0 (Or.inl rfl)
                · refine ⟨o_v0, ?_⟩
                  refine m_X4_sign hI o_v0 hT (fun x349 S350 hJ g351 fc352 b_x349 p_x349 => ?_)
                  have hT := p_x349
                  have hI := hJ
                  have l_v1 := (gr_len g351 o_v1).trans l_v1
                  have d_x341 := d_x341.trans (fri_at fc352 (by decide) (by decide) o_a340).symm
                  have ea340 := (frr_at fc352 (by decide) (by decide) o_v0).trans ea340
                  have f0 := fri_tr (S := S343) g0 f0 fc352 (by decide) (by decide)
                  have fL8 := fri_tr (S := S343) gL7 fL8 fc352 (by decide) (by decide)
                  have o_a340 := gr_ob g351 o_a340
                  have o_v0 := gr_ob g351 o_v0
                  have o_v1 := gr_ob g351 o_v1
                  have g0 := gr_tr (T := S343) g0 g351
                  have gL7 := gr_tr (T := S343) gL7 g351
                  intro _ _
                  have bb_x349 : x349 = 0 ∨ x349 = 1 := b_x349
                  refine ⟨fun c353 => ?_, fun c353 => ?_⟩
                  · intro x354 ex354
                    exact ih13 _ _ _ ⟨hI, gL7, fL8, rfl, hT, (q127 i1u5 c14 bb_x21 c25 bb_x26 c30 bb_x31 c35 bb_x36 c40 r_x341 p_x342 bb_x342 c346 c348 bb_x349 c353 ex354)⟩ (mu_up (q128 i1u5 c14 bb_x21 c25 bb_x26 c30 bb_x31 c35 bb_x36 c40 r_x341 p_x342 bb_x342 c346 c348 bb_x349 c353 ex354) (q129 i1u5 c14 bb_x21 c25 bb_x26 c30 bb_x31 c35 bb_x36 c40 r_x341 p_x342 bb_x342 c346 c348 bb_x349 c353 ex354))
                  · exact hq _ _ hI g0 f0 (Or.inl rfl)
              · refine ⟨o_v0, ?_⟩
                intro x355 ex355
                have d_x355 := ex355
                refine ⟨fun c356 => ?_, fun c356 => ?_⟩
                · refine u_X4_read_295 ?_
                  refine ⟨fun c357 => ?_, fun c357 => ?_⟩
                  · exact hq _ _ hI g0 f0 (Or.inl rfl)
                  · refine ⟨o_v0, ?_⟩
                    refine m_X4_sign hI o_v0 hT (fun x358 S359 hJ g360 fc361 b_x358 p_x358 => ?_)
                    have hT := p_x358
                    have hI := hJ
                    have l_v1 := (gr_len g360 o_v1).trans l_v1
                    have d_x341 := d_x341.trans (fri_at fc361 (by decide) (by decide) o_a340).symm
                    have ea340 := (frr_at fc361 (by decide) (by decide) o_v0).trans ea340
                    have f0 := fri_tr (S := S343) g0 f0 fc361 (by decide) (by decide)
                    have fL8 := fri_tr (S := S343) gL7 fL8 fc361 (by decide) (by decide)
                    have o_a340 := gr_ob g360 o_a340
                    have o_v0 := gr_ob g360 o_v0
                    have o_v1 := gr_ob g360 o_v1
                    have g0 := gr_tr (T := S343) g0 g360
                    have gL7 := gr_tr (T := S343) gL7 g360
                    intro _ _
                    have bb_x358 : x358 = 0 ∨ x358 = 1 := b_x358
                    refine ⟨fun c362 => ?_, fun c362 => ?_⟩
                    · intro x363 ex363
                      exact ih13 _ _ _ ⟨hI, gL7, fL8, rfl, hT, (q130 i1u5 c14 bb_x21 c25 bb_x26 c30 bb_x31 c35 bb_x36 c40 r_x341 p_x342 bb_x342 c346 c347 c356 c357 bb_x358 c362 ex363)⟩ (mu_up (q131 i1u5 c14 bb_x21 c25 bb_x26 c30 bb_x31 c35 bb_x36 c40 r_x341 p_x342 bb_x342 c346 c347 c356 c357 bb_x358 c362 ex363) (q132 i1u5 c14 bb_x21 c25 bb_x26 c30 bb_x31 c35 bb_x36 c40 r_x341 p_x342 bb_x342 c346 c347 c356 c357 bb_x358 c362 ex363))
                    · exact hq _ _ hI g0 f0 (Or.inl rfl)
                · refine ⟨a340, ea340, ?_⟩
                  refine ⟨o_a340, ?_⟩
                  intro x365 ex365
                  have r_x365 : (0 : Int32) ≤ x365 ∧ x365 ≤ (8 : Int32) := by rw [ex365]; exact nu 12 rfl hI o_a340
                  have d_x365 := ex365
                  refine ⟨fun c366 => ?_, fun c366 => ?_⟩
                  · refine u_X4_read_280 ?_
                    refine ⟨o_v0, ?_⟩
                    refine u_X4_fail ?_
                    refine u_X4_fail_0 ?_
                    refine ⟨o_v0, ?_⟩
                    intro S367 eS367
                    have hI : IV S367 := by rw [eS367]; exact iv_sI hI o_v0 (by decide) (nu_free (by decide))
                    have f0 := fr_I eS367 g0 f0 o_v0 (by decide)
                    have d_x341 := rd_Ik eS367 o_v0 o_a340 (by decide) d_x341
                    have d_x355 := rd_Ij eS367 (by decide) d_x355
                    have d_x365 := rd_Ik eS367 o_v0 o_a340 (by decide) d_x365
                    obtain ⟨y368, hy368⟩ : ∃ z : Int32, z = (6 : Int32) := ⟨_, rfl⟩
                    have d_y368 := rd_Is eS367 hy368
                    have ea340 := rf_I eS367 ea340
                    have hT := tx_I eS367 hT
                    have l_v1 := ln_I eS367 l_v1
                    have g0 := gr_I eS367 g0
                    have o_a340 := ob_I eS367 o_a340
                    have o_v0 := ob_I eS367 o_v0
                    have o_v1 := ob_I eS367 o_v1
                    intro x369 ex369
                    have d_x369 := ex369
                    intro S370 eS370
                    have hI : IV S370 := by rw [eS370]; exact iv_sI hI o_v0 (by decide) (nu_free (by decide))
                    have f0 := fr_I eS370 g0 f0 o_v0 (by decide)
                    have d_x341 := rd_Ik eS370 o_v0 o_a340 (by decide) d_x341
                    have d_x355 := rd_Ij eS370 (by decide) d_x355
                    have d_x365 := rd_Ik eS370 o_v0 o_a340 (by decide) d_x365
                    have d_y368 := rd_Ij eS370 (by decide) d_y368
                    have d_x369 := rd_Ij eS370 (by decide) d_x369
                    obtain ⟨y371, hy371⟩ : ∃ z : Int32, z = x369 := ⟨_, rfl⟩
                    have d_y371 := rd_Is eS370 hy371
                    have ea340 := rf_I eS370 ea340
                    have hT := tx_I eS370 hT
                    have l_v1 := ln_I eS370 l_v1
                    have g0 := gr_I eS370 g0
                    have o_a340 := ob_I eS370 o_a340
                    have o_v0 := ob_I eS370 o_v0
                    have o_v1 := ob_I eS370 o_v1
                    intro _ _
                    refine ⟨fun c373 => ?_, fun c373 => ?_⟩
                    · exact hq _ _ hI g0 f0 (Or.inl rfl)
                    · exact hq _ _ hI g0 f0 (Or.inr rfl)
                  · refine ⟨a340, ea340, ?_⟩
                    refine ⟨o_a340, ?_⟩
                    intro x375 ex375
                    have r_x375 : (0 : Int32) ≤ x375 ∧ x375 ≤ (4 : Int32) := by rw [ex375]; exact nu 14 rfl hI o_a340
                    have d_x375 := ex375
                    refine ⟨fun c376 => ?_, fun c376 => ?_⟩
                    · exact hq _ _ hI g0 f0 (Or.inr rfl)
                    · refine u_X4_read_280 ?_
                      refine ⟨o_v0, ?_⟩
                      refine u_X4_fail ?_
                      refine u_X4_fail_0 ?_
                      refine ⟨o_v0, ?_⟩
                      intro S377 eS377
                      have hI : IV S377 := by rw [eS377]; exact iv_sI hI o_v0 (by decide) (nu_free (by decide))
                      have f0 := fr_I eS377 g0 f0 o_v0 (by decide)
                      have d_x341 := rd_Ik eS377 o_v0 o_a340 (by decide) d_x341
                      have d_x355 := rd_Ij eS377 (by decide) d_x355
                      have d_x365 := rd_Ik eS377 o_v0 o_a340 (by decide) d_x365
                      have d_x375 := rd_Ik eS377 o_v0 o_a340 (by decide) d_x375
                      obtain ⟨y378, hy378⟩ : ∃ z : Int32, z = (6 : Int32) := ⟨_, rfl⟩
                      have d_y378 := rd_Is eS377 hy378
                      have ea340 := rf_I eS377 ea340
                      have hT := tx_I eS377 hT
                      have l_v1 := ln_I eS377 l_v1
                      have g0 := gr_I eS377 g0
                      have o_a340 := ob_I eS377 o_a340
                      have o_v0 := ob_I eS377 o_v0
                      have o_v1 := ob_I eS377 o_v1
                      intro x379 ex379
                      have d_x379 := ex379
                      intro S380 eS380
                      have hI : IV S380 := by rw [eS380]; exact iv_sI hI o_v0 (by decide) (nu_free (by decide))
                      have f0 := fr_I eS380 g0 f0 o_v0 (by decide)
                      have d_x341 := rd_Ik eS380 o_v0 o_a340 (by decide) d_x341
                      have d_x355 := rd_Ij eS380 (by decide) d_x355
                      have d_x365 := rd_Ik eS380 o_v0 o_a340 (by decide) d_x365
                      have d_x375 := rd_Ik eS380 o_v0 o_a340 (by decide) d_x375
                      have d_y378 := rd_Ij eS380 (by decide) d_y378
                      have d_x379 := rd_Ij eS380 (by decide) d_x379
                      obtain ⟨y381, hy381⟩ : ∃ z : Int32, z = x379 := ⟨_, rfl⟩
                      have d_y381 := rd_Is eS380 hy381
                      have ea340 := rf_I eS380 ea340
                      have hT := tx_I eS380 hT
                      have l_v1 := ln_I eS380 l_v1
                      have g0 := gr_I eS380 g0
                      have o_a340 := ob_I eS380 o_a340
                      have o_v0 := ob_I eS380 o_v0
                      have o_v1 := ob_I eS380 o_v1
                      intro _ _
                      refine ⟨fun c383 => ?_, fun c383 => ?_⟩
                      · exact hq _ _ hI g0 f0 (Or.inl rfl)
                      · exact hq _ _ hI g0 f0 (Or.inr rfl)
            · refine m_X4_roadLine hI o_v0 (fun z hz => by cases ea340.symm.trans hz; rw [← d_x341]; exact (q133 i1u5 c14 bb_x21 c25 bb_x26 c30 bb_x31 c35 bb_x36 c40 r_x341 p_x342 bb_x342 c346)) hT (fun x384 S385 hJ g386 fc387 b_x384 p_x384 => ?_)
              have hT := p_x384
              have hI := hJ
              have l_v1 := (gr_len g386 o_v1).trans l_v1
              have ea340 := (frr_at fc387 (by decide) (by decide) o_v0).trans ea340
              have f0 := fri_tr (S := S343) g0 f0 fc387 (by decide) (by decide)
              have fL8 := fri_tr (S := S343) gL7 fL8 fc387 (by decide) (by decide)
              have o_a340 := gr_ob g386 o_a340
              have o_v0 := gr_ob g386 o_v0
              have o_v1 := gr_ob g386 o_v1
              have g0 := gr_tr (T := S343) g0 g386
              have gL7 := gr_tr (T := S343) gL7 g386
              intro _ _
              have bb_x384 : x384 = 0 ∨ x384 = 1 := b_x384
              refine ⟨fun c388 => ?_, fun c388 => ?_⟩
              · refine u_X4_read_153 ?_
                refine u_X4_read_154 ?_
                refine u_X4_read_248 ?_
                refine ⟨fun c389 => ?_, fun c389 => ?_⟩
                · refine u_X4_read_295 ?_
                  refine ⟨fun c390 => ?_, fun c390 => ?_⟩
                  · exact hq _ _ hI g0 f0 (Or.inl rfl)
                  · refine ⟨o_v0, ?_⟩
                    refine m_X4_sign hI o_v0 hT (fun x391 S392 hJ g393 fc394 b_x391 p_x391 => ?_)
                    have hT := p_x391
                    have hI := hJ
                    have l_v1 := (gr_len g393 o_v1).trans l_v1
                    have ea340 := (frr_at fc394 (by decide) (by decide) o_v0).trans ea340
                    have f0 := fri_tr (S := S385) g0 f0 fc394 (by decide) (by decide)
                    have fL8 := fri_tr (S := S385) gL7 fL8 fc394 (by decide) (by decide)
                    have o_a340 := gr_ob g393 o_a340
                    have o_v0 := gr_ob g393 o_v0
                    have o_v1 := gr_ob g393 o_v1
                    have g0 := gr_tr (T := S385) g0 g393
                    have gL7 := gr_tr (T := S385) gL7 g393
                    intro _ _
                    have bb_x391 : x391 = 0 ∨ x391 = 1 := b_x391
                    refine ⟨fun c395 => ?_, fun c395 => ?_⟩
                    · intro x396 ex396
                      exact ih13 _ _ _ ⟨hI, gL7, fL8, rfl, hT, (q134 i1u5 c14 bb_x21 c25 bb_x26 c30 bb_x31 c35 bb_x36 c40 r_x341 p_x342 bb_x342 c346 bb_x384 c388 c390 bb_x391 c395 ex396)⟩ (mu_up (q135 i1u5 c14 bb_x21 c25 bb_x26 c30 bb_x31 c35 bb_x36 c40 r_x341 p_x342 bb_x342 c346 bb_x384 c388 c390 bb_x391 c395 ex396) (q136 i1u5 c14 bb_x21 c25 bb_x26 c30 bb_x31 c35 bb_x36 c40 r_x341 p_x342 bb_x342 c346 bb_x384 c388 c390 bb_x391 c395 ex396))
                    · exact hq _ _ hI g0 f0 (Or.inl rfl)
                · refine ⟨o_v0, ?_⟩
                  intro x397 ex397
                  have d_x397 := ex397
                  refine ⟨fun c398 => ?_, fun c398 => ?_⟩
                  · refine u_X4_read_295 ?_
                    refine ⟨fun c399 => ?_, fun c399 => ?_⟩
                    · exact hq _ _ hI g0 f0 (Or.inl rfl)
                    · refine ⟨o_v0, ?_⟩
                      refine m_X4_sign hI o_v0 hT (fun x400 S401 hJ g402 fc403 b_x400 p_x400 => ?_)
                      have hT := p_x400
                      have hI := hJ
                      have l_v1 := (gr_len g402 o_v1).trans l_v1
                      have ea340 := (frr_at fc403 (by decide) (by decide) o_v0).trans ea340
                      have f0 := fri_tr (S := S385) g0 f0 fc403 (by decide) (by decide)
                      have fL8 := fri_tr (S := S385) gL7 fL8 fc403 (by decide) (by decide)
                      have o_a340 := gr_ob g402 o_a340
                      have o_v0 := gr_ob g402 o_v0
                      have o_v1 := gr_ob g402 o_v1
                      have g0 := gr_tr (T := S385) g0 g402
                      have gL7 := gr_tr (T := S385) gL7 g402
                      intro _ _
                      have bb_x400 : x400 = 0 ∨ x400 = 1 := b_x400
                      refine ⟨fun c404 => ?_, fun c404 => ?_⟩
                      · intro x405 ex405
                        exact ih13 _ _ _ ⟨hI, gL7, fL8, rfl, hT, (q137 i1u5 c14 bb_x21 c25 bb_x26 c30 bb_x31 c35 bb_x36 c40 r_x341 p_x342 bb_x342 c346 bb_x384 c388 c389 c398 c399 bb_x400 c404 ex405)⟩ (mu_up (q138 i1u5 c14 bb_x21 c25 bb_x26 c30 bb_x31 c35 bb_x36 c40 r_x341 p_x342 bb_x342 c346 bb_x384 c388 c389 c398 c399 bb_x400 c404 ex405) (q139 i1u5 c14 bb_x21 c25 bb_x26 c30 bb_x31 c35 bb_x36 c40 r_x341 p_x342 bb_x342 c346 bb_x384 c388 c389 c398 c399 bb_x400 c404 ex405))
                      · exact hq _ _ hI g0 f0 (Or.inl rfl)
                  · refine ⟨a340, ea340, ?_⟩
                    refine ⟨o_a340, ?_⟩
                    intro x407 ex407
                    have r_x407 : (0 : Int32) ≤ x407 ∧ x407 ≤ (8 : Int32) := by rw [ex407]; exact nu 12 rfl hI o_a340
                    have d_x407 := ex407
                    refine ⟨fun c408 => ?_, fun c408 => ?_⟩
                    · refine u_X4_read_280 ?_
                      refine ⟨o_v0, ?_⟩
                      refine u_X4_fail ?_
                      refine u_X4_fail_0 ?_
                      refine ⟨o_v0, ?_⟩
                      intro S409 eS409
                      have hI : IV S409 := by rw [eS409]; exact iv_sI hI o_v0 (by decide) (nu_free (by decide))
                      have f0 := fr_I eS409 g0 f0 o_v0 (by decide)
                      have d_x397 := rd_Ij eS409 (by decide) d_x397
                      have d_x407 := rd_Ik eS409 o_v0 o_a340 (by decide) d_x407
                      obtain ⟨y410, hy410⟩ : ∃ z : Int32, z = (6 : Int32) := ⟨_, rfl⟩
                      have d_y410 := rd_Is eS409 hy410
                      have ea340 := rf_I eS409 ea340
                      have hT := tx_I eS409 hT
                      have l_v1 := ln_I eS409 l_v1
                      have g0 := gr_I eS409 g0
                      have o_a340 := ob_I eS409 o_a340
                      have o_v0 := ob_I eS409 o_v0
                      have o_v1 := ob_I eS409 o_v1
                      intro x411 ex411
                      have d_x411 := ex411
                      intro S412 eS412
                      have hI : IV S412 := by rw [eS412]; exact iv_sI hI o_v0 (by decide) (nu_free (by decide))
                      have f0 := fr_I eS412 g0 f0 o_v0 (by decide)
                      have d_x397 := rd_Ij eS412 (by decide) d_x397
                      have d_x407 := rd_Ik eS412 o_v0 o_a340 (by decide) d_x407
                      have d_y410 := rd_Ij eS412 (by decide) d_y410
                      have d_x411 := rd_Ij eS412 (by decide) d_x411
                      obtain ⟨y413, hy413⟩ : ∃ z : Int32, z = x411 := ⟨_, rfl⟩
                      have d_y413 := rd_Is eS412 hy413
                      have ea340 := rf_I eS412 ea340
                      have hT := tx_I eS412 hT
                      have l_v1 := ln_I eS412 l_v1
                      have g0 := gr_I eS412 g0
                      have o_a340 := ob_I eS412 o_a340
                      have o_v0 := ob_I eS412 o_v0
                      have o_v1 := ob_I eS412 o_v1
                      intro _ _
                      refine ⟨fun c415 => ?_, fun c415 => ?_⟩
                      · exact hq _ _ hI g0 f0 (Or.inl rfl)
                      · exact hq _ _ hI g0 f0 (Or.inr rfl)
                    · refine ⟨a340, ea340, ?_⟩
                      refine ⟨o_a340, ?_⟩
                      intro x417 ex417
                      have r_x417 : (0 : Int32) ≤ x417 ∧ x417 ≤ (4 : Int32) := by rw [ex417]; exact nu 14 rfl hI o_a340
                      have d_x417 := ex417
                      refine ⟨fun c418 => ?_, fun c418 => ?_⟩
                      · exact hq _ _ hI g0 f0 (Or.inr rfl)
                      · refine u_X4_read_280 ?_
                        refine ⟨o_v0, ?_⟩
                        refine u_X4_fail ?_
                        refine u_X4_fail_0 ?_
                        refine ⟨o_v0, ?_⟩
                        intro S419 eS419
                        have hI : IV S419 := by rw [eS419]; exact iv_sI hI o_v0 (by decide) (nu_free (by decide))
                        have f0 := fr_I eS419 g0 f0 o_v0 (by decide)
                        have d_x397 := rd_Ij eS419 (by decide) d_x397
                        have d_x407 := rd_Ik eS419 o_v0 o_a340 (by decide) d_x407
                        have d_x417 := rd_Ik eS419 o_v0 o_a340 (by decide) d_x417
                        obtain ⟨y420, hy420⟩ : ∃ z : Int32, z = (6 : Int32) := ⟨_, rfl⟩
                        have d_y420 := rd_Is eS419 hy420
                        have ea340 := rf_I eS419 ea340
                        have hT := tx_I eS419 hT
                        have l_v1 := ln_I eS419 l_v1
                        have g0 := gr_I eS419 g0
                        have o_a340 := ob_I eS419 o_a340
                        have o_v0 := ob_I eS419 o_v0
                        have o_v1 := ob_I eS419 o_v1
                        intro x421 ex421
                        have d_x421 := ex421
                        intro S422 eS422
                        have hI : IV S422 := by rw [eS422]; exact iv_sI hI o_v0 (by decide) (nu_free (by decide))
                        have f0 := fr_I eS422 g0 f0 o_v0 (by decide)
                        have d_x397 := rd_Ij eS422 (by decide) d_x397
                        have d_x407 := rd_Ik eS422 o_v0 o_a340 (by decide) d_x407
                        have d_x417 := rd_Ik eS422 o_v0 o_a340 (by decide) d_x417
                        have d_y420 := rd_Ij eS422 (by decide) d_y420
                        have d_x421 := rd_Ij eS422 (by decide) d_x421
                        obtain ⟨y423, hy423⟩ : ∃ z : Int32, z = x421 := ⟨_, rfl⟩
                        have d_y423 := rd_Is eS422 hy423
                        have ea340 := rf_I eS422 ea340
                        have hT := tx_I eS422 hT
                        have l_v1 := ln_I eS422 l_v1
                        have g0 := gr_I eS422 g0
                        have o_a340 := ob_I eS422 o_a340
                        have o_v0 := ob_I eS422 o_v0
                        have o_v1 := ob_I eS422 o_v1
                        intro _ _
                        refine ⟨fun c425 => ?_, fun c425 => ?_⟩
                        · exact hq _ _ hI g0 f0 (Or.inl rfl)
                        · exact hq _ _ hI g0 f0 (Or.inr rfl)
              · refine u_X4_read_154 ?_
                refine u_X4_read_248 ?_
                refine ⟨fun c426 => ?_, fun c426 => ?_⟩
                · refine u_X4_read_295 ?_
                  refine ⟨fun c427 => ?_, fun c427 => ?_⟩
                  · exact hq _ _ hI g0 f0 (Or.inl rfl)
                  · refine ⟨o_v0, ?_⟩
                    refine m_X4_sign hI o_v0 hT (fun x428 S429 hJ g430 fc431 b_x428 p_x428 => ?_)
                    have hT := p_x428
                    have hI := hJ
                    have l_v1 := (gr_len g430 o_v1).trans l_v1
                    have ea340 := (frr_at fc431 (by decide) (by decide) o_v0).trans ea340
                    have f0 := fri_tr (S := S385) g0 f0 fc431 (by decide) (by decide)
                    have fL8 := fri_tr (S := S385) gL7 fL8 fc431 (by decide) (by decide)
                    have o_a340 := gr_ob g430 o_a340
                    have o_v0 := gr_ob g430 o_v0
                    have o_v1 := gr_ob g430 o_v1
                    have g0 := gr_tr (T := S385) g0 g430
                    have gL7 := gr_tr (T := S385) gL7 g430
                    intro _ _
                    have bb_x428 : x428 = 0 ∨ x428 = 1 := b_x428
                    refine ⟨fun c432 => ?_, fun c432 => ?_⟩
                    · intro x433 ex433
                      exact ih13 _ _ _ ⟨hI, gL7, fL8, rfl, hT, (q140 i1u5 c14 bb_x21 c25 bb_x26 c30 bb_x31 c35 bb_x36 c40 r_x341 p_x342 bb_x342 c346 bb_x384 c388 c426 bb_x428 c432 ex433)⟩ (mu_up (q141 i1u5 c14 bb_x21 c25 bb_x26 c30 bb_x31 c35 bb_x36 c40 r_x341 p_x342 bb_x342 c346 bb_x384 c388 c426 bb_x428 c432 ex433) (q142 i1u5 c14 bb_x21 c25 bb_x26 c30 bb_x31 c35 bb_x36 c40 r_x341 p_x342 bb_x342 c346 bb_x384 c388 c426 bb_x428 c432 ex433))
                    · exact hq _ _ hI g0 f0 (Or.inl rfl)
                · refine ⟨o_v0, ?_⟩
                  intro x434 ex434
                  have d_x434 := ex434
                  refine ⟨fun c435 => ?_, fun c435 => ?_⟩
                  · refine u_X4_read_295 ?_
                    refine ⟨fun c436 => ?_, fun c436 => ?_⟩
                    · exact hq _ _ hI g0 f0 (Or.inl rfl)
                    · refine ⟨o_v0, ?_⟩
                      refine m_X4_sign hI o_v0 hT (fun x437 S438 hJ g439 fc440 b_x437 p_x437 => ?_)
                      have hT := p_x437
                      have hI := hJ
                      have l_v1 := (gr_len g439 o_v1).trans l_v1
                      have ea340 := (frr_at fc440 (by decide) (by decide) o_v0).trans ea340
                      have f0 := fri_tr (S := S385) g0 f0 fc440 (by decide) (by decide)
                      have fL8 := fri_tr (S := S385) gL7 fL8 fc440 (by decide) (by decide)
                      have o_a340 := gr_ob g439 o_a340
                      have o_v0 := gr_ob g439 o_v0
                      have o_v1 := gr_ob g439 o_v1
                      have g0 := gr_tr (T := S385) g0 g439
                      have gL7 := gr_tr (T := S385) gL7 g439
                      intro _ _
                      have bb_x437 : x437 = 0 ∨ x437 = 1 := b_x437
                      refine ⟨fun c441 => ?_, fun c441 => ?_⟩
                      · intro x442 ex442
                        exact ih13 _ _ _ ⟨hI, gL7, fL8, rfl, hT, (q143 i1u5 c14 bb_x21 c25 bb_x26 c30 bb_x31 c35 bb_x36 c40 r_x341 p_x342 bb_x342 c346 bb_x384 c388 c435 bb_x437 c441 ex442)⟩ (mu_up (q144 i1u5 c14 bb_x21 c25 bb_x26 c30 bb_x31 c35 bb_x36 c40 r_x341 p_x342 bb_x342 c346 bb_x384 c388 c435 bb_x437 c441 ex442) (q145 i1u5 c14 bb_x21 c25 bb_x26 c30 bb_x31 c35 bb_x36 c40 r_x341 p_x342 bb_x342 c346 bb_x384 c388 c435 bb_x437 c441 ex442))
                      · exact hq _ _ hI g0 f0 (Or.inl rfl)
                  · refine ⟨a340, ea340, ?_⟩
                    refine ⟨o_a340, ?_⟩
                    intro x444 ex444
                    have r_x444 : (0 : Int32) ≤ x444 ∧ x444 ≤ (8 : Int32) := by rw [ex444]; exact nu 12 rfl hI o_a340
                    have d_x444 := ex444
                    refine ⟨fun c445 => ?_, fun c445 => ?_⟩
                    · refine u_X4_read_280 ?_
                      refine ⟨o_v0, ?_⟩
                      refine u_X4_fail ?_
                      refine u_X4_fail_0 ?_
                      refine ⟨o_v0, ?_⟩
                      intro S446 eS446
                      have hI : IV S446 := by rw [eS446]; exact iv_sI hI o_v0 (by decide) (nu_free (by decide))
                      have f0 := fr_I eS446 g0 f0 o_v0 (by decide)
                      have d_x434 := rd_Ij eS446 (by decide) d_x434
                      have d_x444 := rd_Ik eS446 o_v0 o_a340 (by decide) d_x444
                      obtain ⟨y447, hy447⟩ : ∃ z : Int32, z = (6 : Int32) := ⟨_, rfl⟩
                      have d_y447 := rd_Is eS446 hy447
                      have ea340 := rf_I eS446 ea340
                      have hT := tx_I eS446 hT
                      have l_v1 := ln_I eS446 l_v1
                      have g0 := gr_I eS446 g0
                      have o_a340 := ob_I eS446 o_a340
                      have o_v0 := ob_I eS446 o_v0
                      have o_v1 := ob_I eS446 o_v1
                      intro x448 ex448
                      have d_x448 := ex448
                      intro S449 eS449
                      have hI : IV S449 := by rw [eS449]; exact iv_sI hI o_v0 (by decide) (nu_free (by decide))
                      have f0 := fr_I eS449 g0 f0 o_v0 (by decide)
                      have d_x434 := rd_Ij eS449 (by decide) d_x434
                      have d_x444 := rd_Ik eS449 o_v0 o_a340 (by decide) d_x444
                      have d_y447 := rd_Ij eS449 (by decide) d_y447
                      have d_x448 := rd_Ij eS449 (by decide) d_x448
                      obtain ⟨y450, hy450⟩ : ∃ z : Int32, z = x448 := ⟨_, rfl⟩
                      have d_y450 := rd_Is eS449 hy450
                      have ea340 := rf_I eS449 ea340
                      have hT := tx_I eS449 hT
                      have l_v1 := ln_I eS449 l_v1
                      have g0 := gr_I eS449 g0
                      have o_a340 := ob_I eS449 o_a340
                      have o_v0 := ob_I eS449 o_v0
                      have o_v1 := ob_I eS449 o_v1
                      intro _ _
                      refine ⟨fun c452 => ?_, fun c452 => ?_⟩
                      · exact hq _ _ hI g0 f0 (Or.inl rfl)
                      · exact hq _ _ hI g0 f0 (Or.inr rfl)
                    · refine ⟨a340, ea340, ?_⟩
                      refine ⟨o_a340, ?_⟩
                      intro x454 ex454
                      have r_x454 : (0 : Int32) ≤ x454 ∧ x454 ≤ (4 : Int32) := by rw [ex454]; exact nu 14 rfl hI o_a340
                      have d_x454 := ex454
                      refine ⟨fun c455 => ?_, fun c455 => ?_⟩
                      · exact hq _ _ hI g0 f0 (Or.inr rfl)
                      · refine u_X4_read_280 ?_
                        refine ⟨o_v0, ?_⟩
                        refine u_X4_fail ?_
                        refine u_X4_fail_0 ?_
                        refine ⟨o_v0, ?_⟩
                        intro S456 eS456
                        have hI : IV S456 := by rw [eS456]; exact iv_sI hI o_v0 (by decide) (nu_free (by decide))
                        have f0 := fr_I eS456 g0 f0 o_v0 (by decide)
                        have d_x434 := rd_Ij eS456 (by decide) d_x434
                        have d_x444 := rd_Ik eS456 o_v0 o_a340 (by decide) d_x444
                        have d_x454 := rd_Ik eS456 o_v0 o_a340 (by decide) d_x454
                        obtain ⟨y457, hy457⟩ : ∃ z : Int32, z = (6 : Int32) := ⟨_, rfl⟩
                        have d_y457 := rd_Is eS456 hy457
                        have ea340 := rf_I eS456 ea340
                        have hT := tx_I eS456 hT
                        have l_v1 := ln_I eS456 l_v1
                        have g0 := gr_I eS456 g0
                        have o_a340 := ob_I eS456 o_a340
                        have o_v0 := ob_I eS456 o_v0
                        have o_v1 := ob_I eS456 o_v1
                        intro x458 ex458
                        have d_x458 := ex458
                        intro S459 eS459
                        have hI : IV S459 := by rw [eS459]; exact iv_sI hI o_v0 (by decide) (nu_free (by decide))
                        have f0 := fr_I eS459 g0 f0 o_v0 (by decide)
                        have d_x434 := rd_Ij eS459 (by decide) d_x434
                        have d_x444 := rd_Ik eS459 o_v0 o_a340 (by decide) d_x444
                        have d_x454 := rd_Ik eS459 o_v0 o_a340 (by decide) d_x454
                        have d_y457 := rd_Ij eS459 (by decide) d_y457
                        have d_x458 := rd_Ij eS459 (by decide) d_x458
                        obtain ⟨y460, hy460⟩ : ∃ z : Int32, z = x458 := ⟨_, rfl⟩
                        have d_y460 := rd_Is eS459 hy460
                        have ea340 := rf_I eS459 ea340
                        have hT := tx_I eS459 hT
                        have l_v1 := ln_I eS459 l_v1
                        have g0 := gr_I eS459 g0
                        have o_a340 := ob_I eS459 o_a340
                        have o_v0 := ob_I eS459 o_v0
                        have o_v1 := ob_I eS459 o_v1
                        intro _ _
                        refine ⟨fun c462 => ?_, fun c462 => ?_⟩
                        · exact hq _ _ hI g0 f0 (Or.inl rfl)
                        · exact hq _ _ hI g0 f0 (Or.inr rfl)
        · obtain ⟨a463, ea463, o_a463, -⟩ := sh 12 rfl hI o_v0
          refine ⟨a463, ea463, ?_⟩
          refine ⟨o_a463, ?_⟩
          intro x464 ex464
          have r_x464 : (0 : Int32) ≤ x464 ∧ x464 ≤ (8 : Int32) := by rw [ex464]; exact nu 12 rfl hI o_a463
          have d_x464 := ex464
          refine m_X4_hasRoom hI o_v0 hT (fun x465 S466 hJ g467 fc468 b_x465 p_x465 => ?_)
          obtain ⟨hT, p_x465⟩ := p_x465
          have hI := hJ
          have l_v1 := (gr_len g467 o_v1).trans l_v1
          have d_x464 := d_x464.trans (fri_at fc468 (by decide) (by decide) o_a463).symm
          have ea463 := (frr_at fc468 (by decide) (by decide) o_v0).trans ea463
          have f0 := fri_tr (S := S6) g0 f0 fc468 (by decide) (by decide)
          have fL8 := fri_tr (S := S6) gL7 fL8 fc468 (by decide) (by decide)
          have o_a463 := gr_ob g467 o_a463
          have o_v0 := gr_ob g467 o_v0
          have o_v1 := gr_ob g467 o_v1
          have g0 := gr_tr (T := S6) g0 g467
          have gL7 := gr_tr (T := S6) gL7 g467
          intro _ _
          have bb_x465 : x465 = 0 ∨ x465 = 1 := b_x465
          refine ⟨fun c469 => ?_, fun c469 => ?_⟩
          · refine u_X4_read_111 ?_
            refine u_X4_read_112 ?_
            refine u_X4_read_248 ?_
            refine ⟨fun c470 => ?_, fun c470 => ?_⟩
            · refine u_X4_read_295 ?_
              refine ⟨fun c471 => ?_, fun c471 => ?_⟩
              · exact hq _ _ hI g0 f0 (Or.inl rfl)
              · refine ⟨o_v0, ?_⟩
                refine m_X4_sign hI o_v0 hT (fun x472 S473 hJ g474 fc475 b_x472 p_x472 => ?_)
                have hT := p_x472
                have hI := hJ
                have l_v1 := (gr_len g474 o_v1).trans l_v1
                have d_x464 := d_x464.trans (fri_at fc475 (by decide) (by decide) o_a463).symm
                have ea463 := (frr_at fc475 (by decide) (by decide) o_v0).trans ea463
                have f0 := fri_tr (S := S466) g0 f0 fc475 (by decide) (by decide)
                have fL8 := fri_tr (S := S466) gL7 fL8 fc475 (by decide) (by decide)
                have o_a463 := gr_ob g474 o_a463
                have o_v0 := gr_ob g474 o_v0
                have o_v1 := gr_ob g474 o_v1
                have g0 := gr_tr (T := S466) g0 g474
                have gL7 := gr_tr (T := S466) gL7 g474
                intro _ _
                have bb_x472 : x472 = 0 ∨ x472 = 1 := b_x472
                refine ⟨fun c476 => ?_, fun c476 => ?_⟩
                · intro x477 ex477
                  exact ih13 _ _ _ ⟨hI, gL7, fL8, rfl, hT, (q146 i1u5 c14 bb_x21 c25 bb_x26 c30 bb_x31 c35 r_x464 p_x465 bb_x465 c469 c471 bb_x472 c476 ex477)⟩ (mu_up (q147 i1u5 c14 bb_x21 c25 bb_x26 c30 bb_x31 c35 r_x464 p_x465 bb_x465 c469 c471 bb_x472 c476 ex477) (q148 i1u5 c14 bb_x21 c25 bb_x26 c30 bb_x31 c35 r_x464 p_x465 bb_x465 c469 c471 bb_x472 c476 ex477))
                · exact hq _ _ hI g0 f0 (Or.inl rfl)
            · refine ⟨o_v0, ?_⟩
              intro x478 ex478
              have d_x478 := ex478
              refine ⟨fun c479 => ?_, fun c479 => ?_⟩
              · refine u_X4_read_295 ?_
                refine ⟨fun c480 => ?_, fun c480 => ?_⟩
                · exact hq _ _ hI g0 f0 (Or.inl rfl)
                · refine ⟨o_v0, ?_⟩
                  refine m_X4_sign hI o_v0 hT (fun x481 S482 hJ g483 fc484 b_x481 p_x481 => ?_)
                  have hT := p_x481
                  have hI := hJ
                  have l_v1 := (gr_len g483 o_v1).trans l_v1
                  have d_x464 := d_x464.trans (fri_at fc484 (by decide) (by decide) o_a463).symm
                  have ea463 := (frr_at fc484 (by decide) (by decide) o_v0).trans ea463
                  have f0 := fri_tr (S := S466) g0 f0 fc484 (by decide) (by decide)
                  have fL8 := fri_tr (S := S466) gL7 fL8 fc484 (by decide) (by decide)
                  have o_a463 := gr_ob g483 o_a463
                  have o_v0 := gr_ob g483 o_v0
                  have o_v1 := gr_ob g483 o_v1
                  have g0 := gr_tr (T := S466) g0 g483
                  have gL7 := gr_tr (T := S466) gL7 g483
                  intro _ _
                  have bb_x481 : x481 = 0 ∨ x481 = 1 := b_x481
                  refine ⟨fun c485 => ?_, fun c485 => ?_⟩
                  · intro x486 ex486
                    exact ih13 _ _ _ ⟨hI, gL7, fL8, rfl, hT, (q149 i1u5 c14 bb_x21 c25 bb_x26 c30 bb_x31 c35 r_x464 p_x465 bb_x465 c469 c470 c479 c480 bb_x481 c485 ex486)⟩ (mu_up (q150 i1u5 c14 bb_x21 c25 bb_x26 c30 bb_x31 c35 r_x464 p_x465 bb_x465 c469 c470 c479 c480 bb_x481 c485 ex486) (q151 i1u5 c14 bb_x21 c25 bb_x26 c30 bb_x31 c35 r_x464 p_x465 bb_x465 c469 c470 c479 c480 bb_x481 c485 ex486))
                  · exact hq _ _ hI g0 f0 (Or.inl rfl)
              · refine ⟨a463, ea463, ?_⟩
                refine ⟨o_a463, ?_⟩
                intro x488 ex488
                have r_x488 : (0 : Int32) ≤ x488 ∧ x488 ≤ (8 : Int32) := by rw [ex488]; exact nu 12 rfl hI o_a463
                have q_x488 : x488 = x464 := ex488.trans d_x464.symm
                have d_x488 := ex488
                refine ⟨fun c489 => ?_, fun c489 => ?_⟩
                · refine u_X4_read_280 ?_
                  refine ⟨o_v0, ?_⟩
                  refine u_X4_fail ?_
                  refine u_X4_fail_0 ?_
                  refine ⟨o_v0, ?_⟩
                  intro S490 eS490
                  have hI : IV S490 := by rw [eS490]; exact iv_sI hI o_v0 (by decide) (nu_free (by decide))
                  have f0 := fr_I eS490 g0 f0 o_v0 (by decide)
                  have d_x488 := rd_Ik eS490 o_v0 o_a463 (by decide) d_x488
                  have d_x478 := rd_Ij eS490 (by decide) d_x478
                  obtain ⟨y491, hy491⟩ : ∃ z : Int32, z = (6 : Int32) := ⟨_, rfl⟩
                  have d_y491 := rd_Is eS490 hy491
                  have ea463 := rf_I eS490 ea463
                  have hT := tx_I eS490 hT
                  have l_v1 := ln_I eS490 l_v1
                  have g0 := gr_I eS490 g0
                  have o_a463 := ob_I eS490 o_a463
                  have o_v0 := ob_I eS490 o_v0
                  have o_v1 := ob_I eS490 o_v1
                  intro x492 ex492
                  have d_x492 := ex492
                  intro S493 eS493
                  have hI : IV S493 := by rw [eS493]; exact iv_sI hI o_v0 (by decide) (nu_free (by decide))
                  have f0 := fr_I eS493 g0 f0 o_v0 (by decide)
                  have d_x488 := rd_Ik eS493 o_v0 o_a463 (by decide) d_x488
                  have d_x478 := rd_Ij eS493 (by decide) d_x478
                  have d_y491 := rd_Ij eS493 (by decide) d_y491
                  have d_x492 := rd_Ij eS493 (by decide) d_x492
                  obtain ⟨y494, hy494⟩ : ∃ z : Int32, z = x492 := ⟨_, rfl⟩
                  have d_y494 := rd_Is eS493 hy494
                  have ea463 := rf_I eS493 ea463
                  have hT := tx_I eS493 hT
                  have l_v1 := ln_I eS493 l_v1
                  have g0 := gr_I eS493 g0
                  have o_a463 := ob_I eS493 o_a463
                  have o_v0 := ob_I eS493 o_v0
                  have o_v1 := ob_I eS493 o_v1
                  intro _ _
                  refine ⟨fun c496 => ?_, fun c496 => ?_⟩
                  · exact hq _ _ hI g0 f0 (Or.inl rfl)
                  · exact hq _ _ hI g0 f0 (Or.inr rfl)
                · refine ⟨a463, ea463, ?_⟩
                  refine ⟨o_a463, ?_⟩
                  intro x498 ex498
                  have r_x498 : (0 : Int32) ≤ x498 ∧ x498 ≤ (4 : Int32) := by rw [ex498]; exact nu 14 rfl hI o_a463
                  have d_x498 := ex498
                  refine ⟨fun c499 => ?_, fun c499 => ?_⟩
                  · exact hq _ _ hI g0 f0 (Or.inr rfl)
                  · refine u_X4_read_280 ?_
                    refine ⟨o_v0, ?_⟩
                    refine u_X4_fail ?_
                    refine u_X4_fail_0 ?_
                    refine ⟨o_v0, ?_⟩
                    intro S500 eS500
                    have hI : IV S500 := by rw [eS500]; exact iv_sI hI o_v0 (by decide) (nu_free (by decide))
                    have f0 := fr_I eS500 g0 f0 o_v0 (by decide)
                    have d_x488 := rd_Ik eS500 o_v0 o_a463 (by decide) d_x488
                    have d_x478 := rd_Ij eS500 (by decide) d_x478
                    have d_x498 := rd_Ik eS500 o_v0 o_a463 (by decide) d_x498
                    obtain ⟨y501, hy501⟩ : ∃ z : Int32, z = (6 : Int32) := ⟨_, rfl⟩
                    have d_y501 := rd_Is eS500 hy501
                    have ea463 := rf_I eS500 ea463
                    have hT := tx_I eS500 hT
                    have l_v1 := ln_I eS500 l_v1
                    have g0 := gr_I eS500 g0
                    have o_a463 := ob_I eS500 o_a463
                    have o_v0 := ob_I eS500 o_v0
                    have o_v1 := ob_I eS500 o_v1
                    intro x502 ex502
                    have d_x502 := ex502
                    intro S503 eS503
                    have hI : IV S503 := by rw [eS503]; exact iv_sI hI o_v0 (by decide) (nu_free (by decide))
                    have f0 := fr_I eS503 g0 f0 o_v0 (by decide)
                    have d_x488 := rd_Ik eS503 o_v0 o_a463 (by decide) d_x488
                    have d_x478 := rd_Ij eS503 (by decide) d_x478
                    have d_x498 := rd_Ik eS503 o_v0 o_a463 (by decide) d_x498
                    have d_y501 := rd_Ij eS503 (by decide) d_y501
                    have d_x502 := rd_Ij eS503 (by decide) d_x502
                    obtain ⟨y504, hy504⟩ : ∃ z : Int32, z = x502 := ⟨_, rfl⟩
                    have d_y504 := rd_Is eS503 hy504
                    have ea463 := rf_I eS503 ea463
                    have hT := tx_I eS503 hT
                    have l_v1 := ln_I eS503 l_v1
                    have g0 := gr_I eS503 g0
                    have o_a463 := ob_I eS503 o_a463
                    have o_v0 := ob_I eS503 o_v0
                    have o_v1 := ob_I eS503 o_v1
                    intro _ _
                    refine ⟨fun c506 => ?_, fun c506 => ?_⟩
                    · exact hq _ _ hI g0 f0 (Or.inl rfl)
                    · exact hq _ _ hI g0 f0 (Or.inr rfl)
          · refine m_X4_placeLine hI o_v0 (fun z hz => by cases ea463.symm.trans hz; rw [← d_x464]; exact (q152 i1u5 c14 bb_x21 c25 bb_x26 c30 bb_x31 c35 r_x464 p_x465 bb_x465 c469)) hT (fun x507 S508 hJ g509 fc510 b_x507 p_x507 => ?_)
            have hT := p_x507
            have hI := hJ
            have l_v1 := (gr_len g509 o_v1).trans l_v1
            have ea463 := (frr_at fc510 (by decide) (by decide) o_v0).trans ea463
            have f0 := fri_tr (S := S466) g0 f0 fc510 (by decide) (by decide)
            have fL8 := fri_tr (S := S466) gL7 fL8 fc510 (by decide) (by decide)
            have o_a463 := gr_ob g509 o_a463
            have o_v0 := gr_ob g509 o_v0
            have o_v1 := gr_ob g509 o_v1
            have g0 := gr_tr (T := S466) g0 g509
            have gL7 := gr_tr (T := S466) gL7 g509
            intro _ _
            have bb_x507 : x507 = 0 ∨ x507 = 1 := b_x507
            refine ⟨fun c511 => ?_, fun c511 => ?_⟩
            · refine u_X4_read_111 ?_
              refine u_X4_read_112 ?_
              refine u_X4_read_248 ?_
              refine ⟨fun c512 => ?_, fun c512 => ?_⟩
              · refine u_X4_read_295 ?_
                refine ⟨fun c513 => ?_, fun c513 => ?_⟩
                · exact hq _ _ hI g0 f0 (Or.inl rfl)
                · refine ⟨o_v0, ?_⟩
                  refine m_X4_sign hI o_v0 hT (fun x514 S515 hJ g516 fc517 b_x514 p_x514 => ?_)
                  have hT := p_x514
                  have hI := hJ
                  have l_v1 := (gr_len g516 o_v1).trans l_v1
                  have ea463 := (frr_at fc517 (by decide) (by decide) o_v0).trans ea463
                  have f0 := fri_tr (S := S508) g0 f0 fc517 (by decide) (by decide)
                  have fL8 := fri_tr (S := S508) gL7 fL8 fc517 (by decide) (by decide)
                  have o_a463 := gr_ob g516 o_a463
                  have o_v0 := gr_ob g516 o_v0
                  have o_v1 := gr_ob g516 o_v1
                  have g0 := gr_tr (T := S508) g0 g516
                  have gL7 := gr_tr (T := S508) gL7 g516
                  intro _ _
                  have bb_x514 : x514 = 0 ∨ x514 = 1 := b_x514
                  refine ⟨fun c518 => ?_, fun c518 => ?_⟩
                  · intro x519 ex519
                    exact ih13 _ _ _ ⟨hI, gL7, fL8, rfl, hT, (q153 i1u5 c14 bb_x21 c25 bb_x26 c30 bb_x31 c35 r_x464 p_x465 bb_x465 c469 bb_x507 c511 c513 bb_x514 c518 ex519)⟩ (mu_up (q154 i1u5 c14 bb_x21 c25 bb_x26 c30 bb_x31 c35 r_x464 p_x465 bb_x465 c469 bb_x507 c511 c513 bb_x514 c518 ex519) (q155 i1u5 c14 bb_x21 c25 bb_x26 c30 bb_x31 c35 r_x464 p_x465 bb_x465 c469 bb_x507 c511 c513 bb_x514 c518 ex519))
                  · exact hq _ _ hI g0 f0 (Or.inl rfl)
              · refine ⟨o_v0, ?_⟩
                intro x520 ex520
                have d_x520 := ex520
                refine ⟨fun c521 => ?_, fun c521 => ?_⟩
                · refine u_X4_read_295 ?_
                  refine ⟨fun c522 => ?_, fun c522 => ?_⟩
                  · exact hq _ _ hI g0 f0 (Or.inl rfl)
                  · refine ⟨o_v0, ?_⟩
                    refine m_X4_sign hI o_v0 hT (fun x523 S524 hJ g525 fc526 b_x523 p_x523 => ?_)
                    have hT := p_x523
                    have hI := hJ
                    have l_v1 := (gr_len g525 o_v1).trans l_v1
                    have ea463 := (frr_at fc526 (by decide) (by decide) o_v0).trans ea463
                    have f0 := fri_tr (S := S508) g0 f0 fc526 (by decide) (by decide)
                    have fL8 := fri_tr (S := S508) gL7 fL8 fc526 (by decide) (by decide)
                    have o_a463 := gr_ob g525 o_a463
                    have o_v0 := gr_ob g525 o_v0
                    have o_v1 := gr_ob g525 o_v1
                    have g0 := gr_tr (T := S508) g0 g525
                    have gL7 := gr_tr (T := S508) gL7 g525
                    intro _ _
                    have bb_x523 : x523 = 0 ∨ x523 = 1 := b_x523
                    refine ⟨fun c527 => ?_, fun c527 => ?_⟩
                    · intro x528 ex528
                      exact ih13 _ _ _ ⟨hI, gL7, fL8, rfl, hT, (q156 i1u5 c14 bb_x21 c25 bb_x26 c30 bb_x31 c35 r_x464 p_x465 bb_x465 c469 bb_x507 c511 c512 c521 c522 bb_x523 c527 ex528)⟩ (mu_up (q157 i1u5 c14 bb_x21 c25 bb_x26 c30 bb_x31 c35 r_x464 p_x465 bb_x465 c469 bb_x507 c511 c512 c521 c522 bb_x523 c527 ex528) (q158 i1u5 c14 bb_x21 c25 bb_x26 c30 bb_x31 c35 r_x464 p_x465 bb_x465 c469 bb_x507 c511 c512 c521 c522 bb_x523 c527 ex528))
                    · exact hq _ _ hI g0 f0 (Or.inl rfl)
                · refine ⟨a463, ea463, ?_⟩
                  refine ⟨o_a463, ?_⟩
                  intro x530 ex530
                  have r_x530 : (0 : Int32) ≤ x530 ∧ x530 ≤ (8 : Int32) := by rw [ex530]; exact nu 12 rfl hI o_a463
                  have d_x530 := ex530
                  refine ⟨fun c531 => ?_, fun c531 => ?_⟩
                  · refine u_X4_read_280 ?_
                    refine ⟨o_v0, ?_⟩
                    refine u_X4_fail ?_
                    refine u_X4_fail_0 ?_
                    refine ⟨o_v0, ?_⟩
                    intro S532 eS532
                    have hI : IV S532 := by rw [eS532]; exact iv_sI hI o_v0 (by decide) (nu_free (by decide))
                    have f0 := fr_I eS532 g0 f0 o_v0 (by decide)
                    have d_x520 := rd_Ij eS532 (by decide) d_x520
                    have d_x530 := rd_Ik eS532 o_v0 o_a463 (by decide) d_x530
                    obtain ⟨y533, hy533⟩ : ∃ z : Int32, z = (6 : Int32) := ⟨_, rfl⟩
                    have d_y533 := rd_Is eS532 hy533
                    have ea463 := rf_I eS532 ea463
                    have hT := tx_I eS532 hT
                    have l_v1 := ln_I eS532 l_v1
                    have g0 := gr_I eS532 g0
                    have o_a463 := ob_I eS532 o_a463
                    have o_v0 := ob_I eS532 o_v0
                    have o_v1 := ob_I eS532 o_v1
                    intro x534 ex534
                    have d_x534 := ex534
                    intro S535 eS535
                    have hI : IV S535 := by rw [eS535]; exact iv_sI hI o_v0 (by decide) (nu_free (by decide))
                    have f0 := fr_I eS535 g0 f0 o_v0 (by decide)
                    have d_x520 := rd_Ij eS535 (by decide) d_x520
                    have d_x530 := rd_Ik eS535 o_v0 o_a463 (by decide) d_x530
                    have d_y533 := rd_Ij eS535 (by decide) d_y533
                    have d_x534 := rd_Ij eS535 (by decide) d_x534
                    obtain ⟨y536, hy536⟩ : ∃ z : Int32, z = x534 := ⟨_, rfl⟩
                    have d_y536 := rd_Is eS535 hy536
                    have ea463 := rf_I eS535 ea463
                    have hT := tx_I eS535 hT
                    have l_v1 := ln_I eS535 l_v1
                    have g0 := gr_I eS535 g0
                    have o_a463 := ob_I eS535 o_a463
                    have o_v0 := ob_I eS535 o_v0
                    have o_v1 := ob_I eS535 o_v1
                    intro _ _
                    refine ⟨fun c538 => ?_, fun c538 => ?_⟩
                    · exact hq _ _ hI g0 f0 (Or.inl rfl)
                    · exact hq _ _ hI g0 f0 (Or.inr rfl)
                  · refine ⟨a463, ea463, ?_⟩
                    refine ⟨o_a463, ?_⟩
                    intro x540 ex540
                    have r_x540 : (0 : Int32) ≤ x540 ∧ x540 ≤ (4 : Int32) := by rw [ex540]; exact nu 14 rfl hI o_a463
                    have d_x540 := ex540
                    refine ⟨fun c541 => ?_, fun c541 => ?_⟩
                    · exact hq _ _ hI g0 f0 (Or.inr rfl)
                    · refine u_X4_read_280 ?_
                      refine ⟨o_v0, ?_⟩
                      refine u_X4_fail ?_
                      refine u_X4_fail_0 ?_
                      refine ⟨o_v0, ?_⟩
                      intro S542 eS542
                      have hI : IV S542 := by rw [eS542]; exact iv_sI hI o_v0 (by decide) (nu_free (by decide))
                      have f0 := fr_I eS542 g0 f0 o_v0 (by decide)
                      have d_x520 := rd_Ij eS542 (by decide) d_x520
                      have d_x530 := rd_Ik eS542 o_v0 o_a463 (by decide) d_x530
                      have d_x540 := rd_Ik eS542 o_v0 o_a463 (by decide) d_x540
                      obtain ⟨y543, hy543⟩ : ∃ z : Int32, z = (6 : Int32) := ⟨_, rfl⟩
                      have d_y543 := rd_Is eS542 hy543
                      have ea463 := rf_I eS542 ea463
                      have hT := tx_I eS542 hT
                      have l_v1 := ln_I eS542 l_v1
                      have g0 := gr_I eS542 g0
                      have o_a463 := ob_I eS542 o_a463
                      have o_v0 := ob_I eS542 o_v0
                      have o_v1 := ob_I eS542 o_v1
                      intro x544 ex544
                      have d_x544 := ex544
                      intro S545 eS545
                      have hI : IV S545 := by rw [eS545]; exact iv_sI hI o_v0 (by decide) (nu_free (by decide))
                      have f0 := fr_I eS545 g0 f0 o_v0 (by decide)
                      have d_x520 := rd_Ij eS545 (by decide) d_x520
                      have d_x530 := rd_Ik eS545 o_v0 o_a463 (by decide) d_x530
                      have d_x540 := rd_Ik eS545 o_v0 o_a463 (by decide) d_x540
                      have d_y543 := rd_Ij eS545 (by decide) d_y543
                      have d_x544 := rd_Ij eS545 (by decide) d_x544
                      obtain ⟨y546, hy546⟩ : ∃ z : Int32, z = x544 := ⟨_, rfl⟩
                      have d_y546 := rd_Is eS545 hy546
                      have ea463 := rf_I eS545 ea463
                      have hT := tx_I eS545 hT
                      have l_v1 := ln_I eS545 l_v1
                      have g0 := gr_I eS545 g0
                      have o_a463 := ob_I eS545 o_a463
                      have o_v0 := ob_I eS545 o_v0
                      have o_v1 := ob_I eS545 o_v1
                      intro _ _
                      refine ⟨fun c548 => ?_, fun c548 => ?_⟩
                      · exact hq _ _ hI g0 f0 (Or.inl rfl)
                      · exact hq _ _ hI g0 f0 (Or.inr rfl)
            · refine u_X4_read_112 ?_
              refine u_X4_read_248 ?_
              refine ⟨fun c549 => ?_, fun c549 => ?_⟩
              · refine u_X4_read_295 ?_
                refine ⟨fun c550 => ?_, fun c550 => ?_⟩
                · exact hq _ _ hI g0 f0 (Or.inl rfl)
                · refine ⟨o_v0, ?_⟩
                  refine m_X4_sign hI o_v0 hT (fun x551 S552 hJ g553 fc554 b_x551 p_x551 => ?_)
                  have hT := p_x551
                  have hI := hJ
                  have l_v1 := (gr_len g553 o_v1).trans l_v1
                  have ea463 := (frr_at fc554 (by decide) (by decide) o_v0).trans ea463
                  have f0 := fri_tr (S := S508) g0 f0 fc554 (by decide) (by decide)
                  have fL8 := fri_tr (S := S508) gL7 fL8 fc554 (by decide) (by decide)
                  have o_a463 := gr_ob g553 o_a463
                  have o_v0 := gr_ob g553 o_v0
                  have o_v1 := gr_ob g553 o_v1
                  have g0 := gr_tr (T := S508) g0 g553
                  have gL7 := gr_tr (T := S508) gL7 g553
                  intro _ _
                  have bb_x551 : x551 = 0 ∨ x551 = 1 := b_x551
                  refine ⟨fun c555 => ?_, fun c555 => ?_⟩
                  · intro x556 ex556
                    exact ih13 _ _ _ ⟨hI, gL7, fL8, rfl, hT, (q159 i1u5 c14 bb_x21 c25 bb_x26 c30 bb_x31 c35 r_x464 p_x465 bb_x465 c469 bb_x507 c511 c549 bb_x551 c555 ex556)⟩ (mu_up (q160 i1u5 c14 bb_x21 c25 bb_x26 c30 bb_x31 c35 r_x464 p_x465 bb_x465 c469 bb_x507 c511 c549 bb_x551 c555 ex556) (q161 i1u5 c14 bb_x21 c25 bb_x26 c30 bb_x31 c35 r_x464 p_x465 bb_x465 c469 bb_x507 c511 c549 bb_x551 c555 ex556))
                  · exact hq _ _ hI g0 f0 (Or.inl rfl)
              · refine ⟨o_v0, ?_⟩
                intro x557 ex557
                have d_x557 := ex557
                refine ⟨fun c558 => ?_, fun c558 => ?_⟩
                · refine u_X4_read_295 ?_
                  refine ⟨fun c559 => ?_, fun c559 => ?_⟩
                  · exact hq _ _ hI g0 f0 (Or.inl rfl)
                  · refine ⟨o_v0, ?_⟩
                    refine m_X4_sign hI o_v0 hT (fun x560 S561 hJ g562 fc563 b_x560 p_x560 => ?_)
                    have hT := p_x560
                    have hI := hJ
                    have l_v1 := (gr_len g562 o_v1).trans l_v1
                    have ea463 := (frr_at fc563 (by decide) (by decide) o_v0).trans ea463
                    have f0 := fri_tr (S := S508) g0 f0 fc563 (by decide) (by decide)
                    have fL8 := fri_tr (S := S508) gL7 fL8 fc563 (by decide) (by decide)
                    have o_a463 := gr_ob g562 o_a463
                    have o_v0 := gr_ob g562 o_v0
                    have o_v1 := gr_ob g562 o_v1
                    have g0 := gr_tr (T := S508) g0 g562
                    have gL7 := gr_tr (T := S508) gL7 g562
                    intro _ _
                    have bb_x560 : x560 = 0 ∨ x560 = 1 := b_x560
                    refine ⟨fun c564 => ?_, fun c564 => ?_⟩
                    · intro x565 ex565
                      exact ih13 _ _ _ ⟨hI, gL7, fL8, rfl, hT, (q162 i1u5 c14 bb_x21 c25 bb_x26 c30 bb_x31 c35 r_x464 p_x465 bb_x465 c469 bb_x507 c511 c558 bb_x560 c564 ex565)⟩ (mu_up (q163 i1u5 c14 bb_x21 c25 bb_x26 c30 bb_x31 c35 r_x464 p_x465 bb_x465 c469 bb_x507 c511 c558 bb_x560 c564 ex565) (q164 i1u5 c14 bb_x21 c25 bb_x26 c30 bb_x31 c35 r_x464 p_x465 bb_x465 c469 bb_x507 c511 c558 bb_x560 c564 ex565))
                    · exact hq _ _ hI g0 f0 (Or.inl rfl)
                · refine ⟨a463, ea463, ?_⟩
                  refine ⟨o_a463, ?_⟩
                  intro x567 ex567
                  have r_x567 : (0 : Int32) ≤ x567 ∧ x567 ≤ (8 : Int32) := by rw [ex567]; exact nu 12 rfl hI o_a463
                  have d_x567 := ex567
                  refine ⟨fun c568 => ?_, fun c568 => ?_⟩
                  · refine u_X4_read_280 ?_
                    refine ⟨o_v0, ?_⟩
                    refine u_X4_fail ?_
                    refine u_X4_fail_0 ?_
                    refine ⟨o_v0, ?_⟩
                    intro S569 eS569
                    have hI : IV S569 := by rw [eS569]; exact iv_sI hI o_v0 (by decide) (nu_free (by decide))
                    have f0 := fr_I eS569 g0 f0 o_v0 (by decide)
                    have d_x557 := rd_Ij eS569 (by decide) d_x557
                    have d_x567 := rd_Ik eS569 o_v0 o_a463 (by decide) d_x567
                    obtain ⟨y570, hy570⟩ : ∃ z : Int32, z = (6 : Int32) := ⟨_, rfl⟩
                    have d_y570 := rd_Is eS569 hy570
                    have ea463 := rf_I eS569 ea463
                    have hT := tx_I eS569 hT
                    have l_v1 := ln_I eS569 l_v1
                    have g0 := gr_I eS569 g0
                    have o_a463 := ob_I eS569 o_a463
                    have o_v0 := ob_I eS569 o_v0
                    have o_v1 := ob_I eS569 o_v1
                    intro x571 ex571
                    have d_x571 := ex571
                    intro S572 eS572
                    have hI : IV S572 := by rw [eS572]; exact iv_sI hI o_v0 (by decide) (nu_free (by decide))
                    have f0 := fr_I eS572 g0 f0 o_v0 (by decide)
                    have d_x557 := rd_Ij eS572 (by decide) d_x557
                    have d_x567 := rd_Ik eS572 o_v0 o_a463 (by decide) d_x567
                    have d_y570 := rd_Ij eS572 (by decide) d_y570
                    have d_x571 := rd_Ij eS572 (by decide) d_x571
                    obtain ⟨y573, hy573⟩ : ∃ z : Int32, z = x571 := ⟨_, rfl⟩
                    have d_y573 := rd_Is eS572 hy573
                    have ea463 := rf_I eS572 ea463
                    have hT := tx_I eS572 hT
                    have l_v1 := ln_I eS572 l_v1
                    have g0 := gr_I eS572 g0
                    have o_a463 := ob_I eS572 o_a463
                    have o_v0 := ob_I eS572 o_v0
                    have o_v1 := ob_I eS572 o_v1
                    intro _ _
                    refine ⟨fun c575 => ?_, fun c575 => ?_⟩
                    · exact hq _ _ hI g0 f0 (Or.inl rfl)
                    · exact hq _ _ hI g0 f0 (Or.inr rfl)
                  · refine ⟨a463, ea463, ?_⟩
                    refine ⟨o_a463, ?_⟩
                    intro x577 ex577
                    have r_x577 : (0 : Int32) ≤ x577 ∧ x577 ≤ (4 : Int32) := by rw [ex577]; exact nu 14 rfl hI o_a463
                    have d_x577 := ex577
                    refine ⟨fun c578 => ?_, fun c578 => ?_⟩
                    · exact hq _ _ hI g0 f0 (Or.inr rfl)
                    · refine u_X4_read_280 ?_
                      refine ⟨o_v0, ?_⟩
                      refine u_X4_fail ?_
                      refine u_X4_fail_0 ?_
                      refine ⟨o_v0, ?_⟩
                      intro S579 eS579
                      have hI : IV S579 := by rw [eS579]; exact iv_sI hI o_v0 (by decide) (nu_free (by decide))
                      have f0 := fr_I eS579 g0 f0 o_v0 (by decide)
                      have d_x557 := rd_Ij eS579 (by decide) d_x557
                      have d_x567 := rd_Ik eS579 o_v0 o_a463 (by decide) d_x567
                      have d_x577 := rd_Ik eS579 o_v0 o_a463 (by decide) d_x577
                      obtain ⟨y580, hy580⟩ : ∃ z : Int32, z = (6 : Int32) := ⟨_, rfl⟩
                      have d_y580 := rd_Is eS579 hy580
                      have ea463 := rf_I eS579 ea463
                      have hT := tx_I eS579 hT
                      have l_v1 := ln_I eS579 l_v1
                      have g0 := gr_I eS579 g0
                      have o_a463 := ob_I eS579 o_a463
                      have o_v0 := ob_I eS579 o_v0
                      have o_v1 := ob_I eS579 o_v1
                      intro x581 ex581
                      have d_x581 := ex581
                      intro S582 eS582
                      have hI : IV S582 := by rw [eS582]; exact iv_sI hI o_v0 (by decide) (nu_free (by decide))
                      have f0 := fr_I eS582 g0 f0 o_v0 (by decide)
                      have d_x557 := rd_Ij eS582 (by decide) d_x557
                      have d_x567 := rd_Ik eS582 o_v0 o_a463 (by decide) d_x567
                      have d_x577 := rd_Ik eS582 o_v0 o_a463 (by decide) d_x577
                      have d_y580 := rd_Ij eS582 (by decide) d_y580
                      have d_x581 := rd_Ij eS582 (by decide) d_x581
                      obtain ⟨y583, hy583⟩ : ∃ z : Int32, z = x581 := ⟨_, rfl⟩
                      have d_y583 := rd_Is eS582 hy583
                      have ea463 := rf_I eS582 ea463
                      have hT := tx_I eS582 hT
                      have l_v1 := ln_I eS582 l_v1
                      have g0 := gr_I eS582 g0
                      have o_a463 := ob_I eS582 o_a463
                      have o_v0 := ob_I eS582 o_v0
                      have o_v1 := ob_I eS582 o_v1
                      intro _ _
                      refine ⟨fun c585 => ?_, fun c585 => ?_⟩
                      · exact hq _ _ hI g0 f0 (Or.inl rfl)
                      · exact hq _ _ hI g0 f0 (Or.inr rfl)
      · obtain ⟨a586, ea586, o_a586, -⟩ := sh 12 rfl hI o_v0
        refine ⟨a586, ea586, ?_⟩
        refine ⟨o_a586, ?_⟩
        intro x587 ex587
        have r_x587 : (0 : Int32) ≤ x587 ∧ x587 ≤ (6 : Int32) := by rw [ex587]; exact nu 11 rfl hI o_a586
        have d_x587 := ex587
        refine m_X4_hasRoom hI o_v0 hT (fun x588 S589 hJ g590 fc591 b_x588 p_x588 => ?_)
        obtain ⟨hT, p_x588⟩ := p_x588
        have hI := hJ
        have l_v1 := (gr_len g590 o_v1).trans l_v1
        have d_x587 := d_x587.trans (fri_at fc591 (by decide) (by decide) o_a586).symm
        have ea586 := (frr_at fc591 (by decide) (by decide) o_v0).trans ea586
        have f0 := fri_tr (S := S6) g0 f0 fc591 (by decide) (by decide)
        have fL8 := fri_tr (S := S6) gL7 fL8 fc591 (by decide) (by decide)
        have o_a586 := gr_ob g590 o_a586
        have o_v0 := gr_ob g590 o_v0
        have o_v1 := gr_ob g590 o_v1
        have g0 := gr_tr (T := S6) g0 g590
        have gL7 := gr_tr (T := S6) gL7 g590
        intro _ _
        have bb_x588 : x588 = 0 ∨ x588 = 1 := b_x588
        refine ⟨fun c592 => ?_, fun c592 => ?_⟩
        · refine u_X4_read_69 ?_
          refine u_X4_read_70 ?_
          refine u_X4_read_248 ?_
          refine ⟨fun c593 => ?_, fun c593 => ?_⟩
          · refine u_X4_read_295 ?_
            refine ⟨fun c594 => ?_, fun c594 => ?_⟩
            · exact hq _ _ hI g0 f0 (Or.inl rfl)
            · refine ⟨o_v0, ?_⟩
              refine m_X4_sign hI o_v0 hT (fun x595 S596 hJ g597 fc598 b_x595 p_x595 => ?_)
              have hT := p_x595
              have hI := hJ
              have l_v1 := (gr_len g597 o_v1).trans l_v1
              have d_x587 := d_x587.trans (fri_at fc598 (by decide) (by decide) o_a586).symm
              have ea586 := (frr_at fc598 (by decide) (by decide) o_v0).trans ea586
              have f0 := fri_tr (S := S589) g0 f0 fc598 (by decide) (by decide)
              have fL8 := fri_tr (S := S589) gL7 fL8 fc598 (by decide) (by decide)
              have o_a586 := gr_ob g597 o_a586
              have o_v0 := gr_ob g597 o_v0
              have o_v1 := gr_ob g597 o_v1
              have g0 := gr_tr (T := S589) g0 g597
              have gL7 := gr_tr (T := S589) gL7 g597
              intro _ _
              have bb_x595 : x595 = 0 ∨ x595 = 1 := b_x595
              refine ⟨fun c599 => ?_, fun c599 => ?_⟩
              · intro x600 ex600
                exact ih13 _ _ _ ⟨hI, gL7, fL8, rfl, hT, (q165 i1u5 c14 bb_x21 c25 bb_x26 c30 r_x587 p_x588 bb_x588 c592 c594 bb_x595 c599 ex600)⟩ (mu_up (q166 i1u5 c14 bb_x21 c25 bb_x26 c30 r_x587 p_x588 bb_x588 c592 c594 bb_x595 c599 ex600) (q167 i1u5 c14 bb_x21 c25 bb_x26 c30 r_x587 p_x588 bb_x588 c592 c594 bb_x595 c599 ex600))
              · exact hq _ _ hI g0 f0 (Or.inl rfl)
          · refine ⟨o_v0, ?_⟩
            intro x601 ex601
            have d_x601 := ex601
            refine ⟨fun c602 => ?_, fun c602 => ?_⟩
            · refine u_X4_read_295 ?_
              refine ⟨fun c603 => ?_, fun c603 => ?_⟩
              · exact hq _ _ hI g0 f0 (Or.inl rfl)
              · refine ⟨o_v0, ?_⟩
                refine m_X4_sign hI o_v0 hT (fun x604 S605 hJ g606 fc607 b_x604 p_x604 => ?_)
                have hT := p_x604
                have hI := hJ
                have l_v1 := (gr_len g606 o_v1).trans l_v1
                have d_x587 := d_x587.trans (fri_at fc607 (by decide) (by decide) o_a586).symm
                have ea586 := (frr_at fc607 (by decide) (by decide) o_v0).trans ea586
                have f0 := fri_tr (S := S589) g0 f0 fc607 (by decide) (by decide)
                have fL8 := fri_tr (S := S589) gL7 fL8 fc607 (by decide) (by decide)
                have o_a586 := gr_ob g606 o_a586
                have o_v0 := gr_ob g606 o_v0
                have o_v1 := gr_ob g606 o_v1
                have g0 := gr_tr (T := S589) g0 g606
                have gL7 := gr_tr (T := S589) gL7 g606
                intro _ _
                have bb_x604 : x604 = 0 ∨ x604 = 1 := b_x604
                refine ⟨fun c608 => ?_, fun c608 => ?_⟩
                · intro x609 ex609
                  exact ih13 _ _ _ ⟨hI, gL7, fL8, rfl, hT, (q168 i1u5 c14 bb_x21 c25 bb_x26 c30 r_x587 p_x588 bb_x588 c592 c593 c602 c603 bb_x604 c608 ex609)⟩ (mu_up (q169 i1u5 c14 bb_x21 c25 bb_x26 c30 r_x587 p_x588 bb_x588 c592 c593 c602 c603 bb_x604 c608 ex609) (q170 i1u5 c14 bb_x21 c25 bb_x26 c30 r_x587 p_x588 bb_x588 c592 c593 c602 c603 bb_x604 c608 ex609))
                · exact hq _ _ hI g0 f0 (Or.inl rfl)
            · refine ⟨a586, ea586, ?_⟩
              refine ⟨o_a586, ?_⟩
              intro x611 ex611
              have r_x611 : (0 : Int32) ≤ x611 ∧ x611 ≤ (8 : Int32) := by rw [ex611]; exact nu 12 rfl hI o_a586
              have d_x611 := ex611
              refine ⟨fun c612 => ?_, fun c612 => ?_⟩
              · refine u_X4_read_280 ?_
                refine ⟨o_v0, ?_⟩
                refine u_X4_fail ?_
                refine u_X4_fail_0 ?_
                refine ⟨o_v0, ?_⟩
                intro S613 eS613
                have hI : IV S613 := by rw [eS613]; exact iv_sI hI o_v0 (by decide) (nu_free (by decide))
                have f0 := fr_I eS613 g0 f0 o_v0 (by decide)
                have d_x587 := rd_Ik eS613 o_v0 o_a586 (by decide) d_x587
                have d_x601 := rd_Ij eS613 (by decide) d_x601
                have d_x611 := rd_Ik eS613 o_v0 o_a586 (by decide) d_x611
                obtain ⟨y614, hy614⟩ : ∃ z : Int32, z = (6 : Int32) := ⟨_, rfl⟩
                have d_y614 := rd_Is eS613 hy614
                have ea586 := rf_I eS613 ea586
                have hT := tx_I eS613 hT
                have l_v1 := ln_I eS613 l_v1
                have g0 := gr_I eS613 g0
                have o_a586 := ob_I eS613 o_a586
                have o_v0 := ob_I eS613 o_v0
                have o_v1 := ob_I eS613 o_v1
                intro x615 ex615
                have d_x615 := ex615
                intro S616 eS616
                have hI : IV S616 := by rw [eS616]; exact iv_sI hI o_v0 (by decide) (nu_free (by decide))
                have f0 := fr_I eS616 g0 f0 o_v0 (by decide)
                have d_x587 := rd_Ik eS616 o_v0 o_a586 (by decide) d_x587
                have d_x601 := rd_Ij eS616 (by decide) d_x601
                have d_x611 := rd_Ik eS616 o_v0 o_a586 (by decide) d_x611
                have d_y614 := rd_Ij eS616 (by decide) d_y614
                have d_x615 := rd_Ij eS616 (by decide) d_x615
                obtain ⟨y617, hy617⟩ : ∃ z : Int32, z = x615 := ⟨_, rfl⟩
                have d_y617 := rd_Is eS616 hy617
                have ea586 := rf_I eS616 ea586
                have hT := tx_I eS616 hT
                have l_v1 := ln_I eS616 l_v1
                have g0 := gr_I eS616 g0
                have o_a586 := ob_I eS616 o_a586
                have o_v0 := ob_I eS616 o_v0
                have o_v1 := ob_I eS616 o_v1
                intro _ _
                refine ⟨fun c619 => ?_, fun c619 => ?_⟩
                · exact hq _ _ hI g0 f0 (Or.inl rfl)
                · exact hq _ _ hI g0 f0 (Or.inr rfl)
              · refine ⟨a586, ea586, ?_⟩
                refine ⟨o_a586, ?_⟩
                intro x621 ex621
                have r_x621 : (0 : Int32) ≤ x621 ∧ x621 ≤ (4 : Int32) := by rw [ex621]; exact nu 14 rfl hI o_a586
                have d_x621 := ex621
                refine ⟨fun c622 => ?_, fun c622 => ?_⟩
                · exact hq _ _ hI g0 f0 (Or.inr rfl)
                · refine u_X4_read_280 ?_
                  refine ⟨o_v0, ?_⟩
                  refine u_X4_fail ?_
                  refine u_X4_fail_0 ?_
                  refine ⟨o_v0, ?_⟩
                  intro S623 eS623
                  have hI : IV S623 := by rw [eS623]; exact iv_sI hI o_v0 (by decide) (nu_free (by decide))
                  have f0 := fr_I eS623 g0 f0 o_v0 (by decide)
                  have d_x587 := rd_Ik eS623 o_v0 o_a586 (by decide) d_x587
                  have d_x601 := rd_Ij eS623 (by decide) d_x601
                  have d_x611 := rd_Ik eS623 o_v0 o_a586 (by decide) d_x611
                  have d_x621 := rd_Ik eS623 o_v0 o_a586 (by decide) d_x621
                  obtain ⟨y624, hy624⟩ : ∃ z : Int32, z = (6 : Int32) := ⟨_, rfl⟩
                  have d_y624 := rd_Is eS623 hy624
                  have ea586 := rf_I eS623 ea586
                  have hT := tx_I eS623 hT
                  have l_v1 := ln_I eS623 l_v1
                  have g0 := gr_I eS623 g0
                  have o_a586 := ob_I eS623 o_a586
                  have o_v0 := ob_I eS623 o_v0
                  have o_v1 := ob_I eS623 o_v1
                  intro x625 ex625
                  have d_x625 := ex625
                  intro S626 eS626
                  have hI : IV S626 := by rw [eS626]; exact iv_sI hI o_v0 (by decide) (nu_free (by decide))
                  have f0 := fr_I eS626 g0 f0 o_v0 (by decide)
                  have d_x587 := rd_Ik eS626 o_v0 o_a586 (by decide) d_x587
                  have d_x601 := rd_Ij eS626 (by decide) d_x601
                  have d_x611 := rd_Ik eS626 o_v0 o_a586 (by decide) d_x611
                  have d_x621 := rd_Ik eS626 o_v0 o_a586 (by decide) d_x621
                  have d_y624 := rd_Ij eS626 (by decide) d_y624
                  have d_x625 := rd_Ij eS626 (by decide) d_x625
                  obtain ⟨y627, hy627⟩ : ∃ z : Int32, z = x625 := ⟨_, rfl⟩
                  have d_y627 := rd_Is eS626 hy627
                  have ea586 := rf_I eS626 ea586
                  have hT := tx_I eS626 hT
                  have l_v1 := ln_I eS626 l_v1
                  have g0 := gr_I eS626 g0
                  have o_a586 := ob_I eS626 o_a586
                  have o_v0 := ob_I eS626 o_v0
                  have o_v1 := ob_I eS626 o_v1
                  intro _ _
                  refine ⟨fun c629 => ?_, fun c629 => ?_⟩
                  · exact hq _ _ hI g0 f0 (Or.inl rfl)
                  · exact hq _ _ hI g0 f0 (Or.inr rfl)
        · refine m_X4_rainLine hI o_v0 (fun z hz => by cases ea586.symm.trans hz; rw [← d_x587]; exact (q171 i1u5 c14 bb_x21 c25 bb_x26 c30 r_x587 p_x588 bb_x588 c592)) hT (fun x630 S631 hJ g632 fc633 b_x630 p_x630 => ?_)
          have hT := p_x630
          have hI := hJ
          have l_v1 := (gr_len g632 o_v1).trans l_v1
          have ea586 := (frr_at fc633 (by decide) (by decide) o_v0).trans ea586
          have f0 := fri_tr (S := S589) g0 f0 fc633 (by decide) (by decide)
          have fL8 := fri_tr (S := S589) gL7 fL8 fc633 (by decide) (by decide)
          have o_a586 := gr_ob g632 o_a586
          have o_v0 := gr_ob g632 o_v0
          have o_v1 := gr_ob g632 o_v1
          have g0 := gr_tr (T := S589) g0 g632
          have gL7 := gr_tr (T := S589) gL7 g632
          intro _ _
          have bb_x630 : x630 = 0 ∨ x630 = 1 := b_x630
          refine ⟨fun c634 => ?_, fun c634 => ?_⟩
          · refine u_X4_read_69 ?_
            refine u_X4_read_70 ?_
            refine u_X4_read_248 ?_
            refine ⟨fun c635 => ?_, fun c635 => ?_⟩
            · refine u_X4_read_295 ?_
              refine ⟨fun c636 => ?_, fun c636 => ?_⟩
              · exact hq _ _ hI g0 f0 (Or.inl rfl)
              · refine ⟨o_v0, ?_⟩
                refine m_X4_sign hI o_v0 hT (fun x637 S638 hJ g639 fc640 b_x637 p_x637 => ?_)
                have hT := p_x637
                have hI := hJ
                have l_v1 := (gr_len g639 o_v1).trans l_v1
                have ea586 := (frr_at fc640 (by decide) (by decide) o_v0).trans ea586
                have f0 := fri_tr (S := S631) g0 f0 fc640 (by decide) (by decide)
                have fL8 := fri_tr (S := S631) gL7 fL8 fc640 (by decide) (by decide)
                have o_a586 := gr_ob g639 o_a586
                have o_v0 := gr_ob g639 o_v0
                have o_v1 := gr_ob g639 o_v1
                have g0 := gr_tr (T := S631) g0 g639
                have gL7 := gr_tr (T := S631) gL7 g639
                intro _ _
                have bb_x637 : x637 = 0 ∨ x637 = 1 := b_x637
                refine ⟨fun c641 => ?_, fun c641 => ?_⟩
                · intro x642 ex642
                  exact ih13 _ _ _ ⟨hI, gL7, fL8, rfl, hT, (q172 i1u5 c14 bb_x21 c25 bb_x26 c30 r_x587 p_x588 bb_x588 c592 bb_x630 c634 c636 bb_x637 c641 ex642)⟩ (mu_up (q173 i1u5 c14 bb_x21 c25 bb_x26 c30 r_x587 p_x588 bb_x588 c592 bb_x630 c634 c636 bb_x637 c641 ex642) (q174 i1u5 c14 bb_x21 c25 bb_x26 c30 r_x587 p_x588 bb_x588 c592 bb_x630 c634 c636 bb_x637 c641 ex642))
                · exact hq _ _ hI g0 f0 (Or.inl rfl)
            · refine ⟨o_v0, ?_⟩
              intro x643 ex643
              have d_x643 := ex643
              refine ⟨fun c644 => ?_, fun c644 => ?_⟩
              · refine u_X4_read_295 ?_
                refine ⟨fun c645 => ?_, fun c645 => ?_⟩
                · exact hq _ _ hI g0 f0 (Or.inl rfl)
                · refine ⟨o_v0, ?_⟩
                  refine m_X4_sign hI o_v0 hT (fun x646 S647 hJ g648 fc649 b_x646 p_x646 => ?_)
                  have hT := p_x646
                  have hI := hJ
                  have l_v1 := (gr_len g648 o_v1).trans l_v1
                  have ea586 := (frr_at fc649 (by decide) (by decide) o_v0).trans ea586
                  have f0 := fri_tr (S := S631) g0 f0 fc649 (by decide) (by decide)
                  have fL8 := fri_tr (S := S631) gL7 fL8 fc649 (by decide) (by decide)
                  have o_a586 := gr_ob g648 o_a586
                  have o_v0 := gr_ob g648 o_v0
                  have o_v1 := gr_ob g648 o_v1
                  have g0 := gr_tr (T := S631) g0 g648
                  have gL7 := gr_tr (T := S631) gL7 g648
                  intro _ _
                  have bb_x646 : x646 = 0 ∨ x646 = 1 := b_x646
                  refine ⟨fun c650 => ?_, fun c650 => ?_⟩
                  · intro x651 ex651
                    exact ih13 _ _ _ ⟨hI, gL7, fL8, rfl, hT, (q175 i1u5 c14 bb_x21 c25 bb_x26 c30 r_x587 p_x588 bb_x588 c592 bb_x630 c634 c635 c644 c645 bb_x646 c650 ex651)⟩ (mu_up (q176 i1u5 c14 bb_x21 c25 bb_x26 c30 r_x587 p_x588 bb_x588 c592 bb_x630 c634 c635 c644 c645 bb_x646 c650 ex651) (q177 i1u5 c14 bb_x21 c25 bb_x26 c30 r_x587 p_x588 bb_x588 c592 bb_x630 c634 c635 c644 c645 bb_x646 c650 ex651))
                  · exact hq _ _ hI g0 f0 (Or.inl rfl)
              · refine ⟨a586, ea586, ?_⟩
                refine ⟨o_a586, ?_⟩
                intro x653 ex653
                have r_x653 : (0 : Int32) ≤ x653 ∧ x653 ≤ (8 : Int32) := by rw [ex653]; exact nu 12 rfl hI o_a586
                have d_x653 := ex653
                refine ⟨fun c654 => ?_, fun c654 => ?_⟩
                · refine u_X4_read_280 ?_
                  refine ⟨o_v0, ?_⟩
                  refine u_X4_fail ?_
                  refine u_X4_fail_0 ?_
                  refine ⟨o_v0, ?_⟩
                  intro S655 eS655
                  have hI : IV S655 := by rw [eS655]; exact iv_sI hI o_v0 (by decide) (nu_free (by decide))
                  have f0 := fr_I eS655 g0 f0 o_v0 (by decide)
                  have d_x643 := rd_Ij eS655 (by decide) d_x643
                  have d_x653 := rd_Ik eS655 o_v0 o_a586 (by decide) d_x653
                  obtain ⟨y656, hy656⟩ : ∃ z : Int32, z = (6 : Int32) := ⟨_, rfl⟩
                  have d_y656 := rd_Is eS655 hy656
                  have ea586 := rf_I eS655 ea586
                  have hT := tx_I eS655 hT
                  have l_v1 := ln_I eS655 l_v1
                  have g0 := gr_I eS655 g0
                  have o_a586 := ob_I eS655 o_a586
                  have o_v0 := ob_I eS655 o_v0
                  have o_v1 := ob_I eS655 o_v1
                  intro x657 ex657
                  have d_x657 := ex657
                  intro S658 eS658
                  have hI : IV S658 := by rw [eS658]; exact iv_sI hI o_v0 (by decide) (nu_free (by decide))
                  have f0 := fr_I eS658 g0 f0 o_v0 (by decide)
                  have d_x643 := rd_Ij eS658 (by decide) d_x643
                  have d_x653 := rd_Ik eS658 o_v0 o_a586 (by decide) d_x653
                  have d_y656 := rd_Ij eS658 (by decide) d_y656
                  have d_x657 := rd_Ij eS658 (by decide) d_x657
                  obtain ⟨y659, hy659⟩ : ∃ z : Int32, z = x657 := ⟨_, rfl⟩
                  have d_y659 := rd_Is eS658 hy659
                  have ea586 := rf_I eS658 ea586
                  have hT := tx_I eS658 hT
                  have l_v1 := ln_I eS658 l_v1
                  have g0 := gr_I eS658 g0
                  have o_a586 := ob_I eS658 o_a586
                  have o_v0 := ob_I eS658 o_v0
                  have o_v1 := ob_I eS658 o_v1
                  intro _ _
                  refine ⟨fun c661 => ?_, fun c661 => ?_⟩
                  · exact hq _ _ hI g0 f0 (Or.inl rfl)
                  · exact hq _ _ hI g0 f0 (Or.inr rfl)
                · refine ⟨a586, ea586, ?_⟩
                  refine ⟨o_a586, ?_⟩
                  intro x663 ex663
                  have r_x663 : (0 : Int32) ≤ x663 ∧ x663 ≤ (4 : Int32) := by rw [ex663]; exact nu 14 rfl hI o_a586
                  have d_x663 := ex663
                  refine ⟨fun c664 => ?_, fun c664 => ?_⟩
                  · exact hq _ _ hI g0 f0 (Or.inr rfl)
                  · refine u_X4_read_280 ?_
                    refine ⟨o_v0, ?_⟩
                    refine u_X4_fail ?_
                    refine u_X4_fail_0 ?_
                    refine ⟨o_v0, ?_⟩
                    intro S665 eS665
                    have hI : IV S665 := by rw [eS665]; exact iv_sI hI o_v0 (by decide) (nu_free (by decide))
                    have f0 := fr_I eS665 g0 f0 o_v0 (by decide)
                    have d_x643 := rd_Ij eS665 (by decide) d_x643
                    have d_x653 := rd_Ik eS665 o_v0 o_a586 (by decide) d_x653
                    have d_x663 := rd_Ik eS665 o_v0 o_a586 (by decide) d_x663
                    obtain ⟨y666, hy666⟩ : ∃ z : Int32, z = (6 : Int32) := ⟨_, rfl⟩
                    have d_y666 := rd_Is eS665 hy666
                    have ea586 := rf_I eS665 ea586
                    have hT := tx_I eS665 hT
                    have l_v1 := ln_I eS665 l_v1
                    have g0 := gr_I eS665 g0
                    have o_a586 := ob_I eS665 o_a586
                    have o_v0 := ob_I eS665 o_v0
                    have o_v1 := ob_I eS665 o_v1
                    intro x667 ex667
                    have d_x667 := ex667
                    intro S668 eS668
                    have hI : IV S668 := by rw [eS668]; exact iv_sI hI o_v0 (by decide) (nu_free (by decide))
                    have f0 := fr_I eS668 g0 f0 o_v0 (by decide)
                    have d_x643 := rd_Ij eS668 (by decide) d_x643
                    have d_x653 := rd_Ik eS668 o_v0 o_a586 (by decide) d_x653
                    have d_x663 := rd_Ik eS668 o_v0 o_a586 (by decide) d_x663
                    have d_y666 := rd_Ij eS668 (by decide) d_y666
                    have d_x667 := rd_Ij eS668 (by decide) d_x667
                    obtain ⟨y669, hy669⟩ : ∃ z : Int32, z = x667 := ⟨_, rfl⟩
                    have d_y669 := rd_Is eS668 hy669
                    have ea586 := rf_I eS668 ea586
                    have hT := tx_I eS668 hT
                    have l_v1 := ln_I eS668 l_v1
                    have g0 := gr_I eS668 g0
                    have o_a586 := ob_I eS668 o_a586
                    have o_v0 := ob_I eS668 o_v0
                    have o_v1 := ob_I eS668 o_v1
                    intro _ _
                    refine ⟨fun c671 => ?_, fun c671 => ?_⟩
                    · exact hq _ _ hI g0 f0 (Or.inl rfl)
                    · exact hq _ _ hI g0 f0 (Or.inr rfl)
          · refine u_X4_read_70 ?_
            refine u_X4_read_248 ?_
            refine ⟨fun c672 => ?_, fun c672 => ?_⟩
            · refine u_X4_read_295 ?_
              refine ⟨fun c673 => ?_, fun c673 => ?_⟩
              · exact hq _ _ hI g0 f0 (Or.inl rfl)
              · refine ⟨o_v0, ?_⟩
                refine m_X4_sign hI o_v0 hT (fun x674 S675 hJ g676 fc677 b_x674 p_x674 => ?_)
                have hT := p_x674
                have hI := hJ
                have l_v1 := (gr_len g676 o_v1).trans l_v1
                have ea586 := (frr_at fc677 (by decide) (by decide) o_v0).trans ea586
                have f0 := fri_tr (S := S631) g0 f0 fc677 (by decide) (by decide)
                have fL8 := fri_tr (S := S631) gL7 fL8 fc677 (by decide) (by decide)
                have o_a586 := gr_ob g676 o_a586
                have o_v0 := gr_ob g676 o_v0
                have o_v1 := gr_ob g676 o_v1
                have g0 := gr_tr (T := S631) g0 g676
                have gL7 := gr_tr (T := S631) gL7 g676
                intro _ _
                have bb_x674 : x674 = 0 ∨ x674 = 1 := b_x674
                refine ⟨fun c678 => ?_, fun c678 => ?_⟩
                · intro x679 ex679
                  exact ih13 _ _ _ ⟨hI, gL7, fL8, rfl, hT, (q178 i1u5 c14 bb_x21 c25 bb_x26 c30 r_x587 p_x588 bb_x588 c592 bb_x630 c634 c672 bb_x674 c678 ex679)⟩ (mu_up (q179 i1u5 c14 bb_x21 c25 bb_x26 c30 r_x587 p_x588 bb_x588 c592 bb_x630 c634 c672 bb_x674 c678 ex679) (q180 i1u5 c14 bb_x21 c25 bb_x26 c30 r_x587 p_x588 bb_x588 c592 bb_x630 c634 c672 bb_x674 c678 ex679))
                · exact hq _ _ hI g0 f0 (Or.inl rfl)
            · refine ⟨o_v0, ?_⟩
              intro x680 ex680
              have d_x680 := ex680
              refine ⟨fun c681 => ?_, fun c681 => ?_⟩
              · refine u_X4_read_295 ?_
                refine ⟨fun c682 => ?_, fun c682 => ?_⟩
                · exact hq _ _ hI g0 f0 (Or.inl rfl)
                · refine ⟨o_v0, ?_⟩
                  refine m_X4_sign hI o_v0 hT (fun x683 S684 hJ g685 fc686 b_x683 p_x683 => ?_)
                  have hT := p_x683
                  have hI := hJ
                  have l_v1 := (gr_len g685 o_v1).trans l_v1
                  have ea586 := (frr_at fc686 (by decide) (by decide) o_v0).trans ea586
                  have f0 := fri_tr (S := S631) g0 f0 fc686 (by decide) (by decide)
                  have fL8 := fri_tr (S := S631) gL7 fL8 fc686 (by decide) (by decide)
                  have o_a586 := gr_ob g685 o_a586
                  have o_v0 := gr_ob g685 o_v0
                  have o_v1 := gr_ob g685 o_v1
                  have g0 := gr_tr (T := S631) g0 g685
                  have gL7 := gr_tr (T := S631) gL7 g685
                  intro _ _
                  have bb_x683 : x683 = 0 ∨ x683 = 1 := b_x683
                  refine ⟨fun c687 => ?_, fun c687 => ?_⟩
                  · intro x688 ex688
                    exact ih13 _ _ _ ⟨hI, gL7, fL8, rfl, hT, (q181 i1u5 c14 bb_x21 c25 bb_x26 c30 r_x587 p_x588 bb_x588 c592 bb_x630 c634 c681 bb_x683 c687 ex688)⟩ (mu_up (q182 i1u5 c14 bb_x21 c25 bb_x26 c30 r_x587 p_x588 bb_x588 c592 bb_x630 c634 c681 bb_x683 c687 ex688) (q183 i1u5 c14 bb_x21 c25 bb_x26 c30 r_x587 p_x588 bb_x588 c592 bb_x630 c634 c681 bb_x683 c687 ex688))
                  · exact hq _ _ hI g0 f0 (Or.inl rfl)
              · refine ⟨a586, ea586, ?_⟩
                refine ⟨o_a586, ?_⟩
                intro x690 ex690
                have r_x690 : (0 : Int32) ≤ x690 ∧ x690 ≤ (8 : Int32) := by rw [ex690]; exact nu 12 rfl hI o_a586
                have d_x690 := ex690
                refine ⟨fun c691 => ?_, fun c691 => ?_⟩
                · refine u_X4_read_280 ?_
                  refine ⟨o_v0, ?_⟩
                  refine u_X4_fail ?_
                  refine u_X4_fail_0 ?_
                  refine ⟨o_v0, ?_⟩
                  intro S692 eS692
                  have hI : IV S692 := by rw [eS692]; exact iv_sI hI o_v0 (by decide) (nu_free (by decide))
                  have f0 := fr_I eS692 g0 f0 o_v0 (by decide)
                  have d_x680 := rd_Ij eS692 (by decide) d_x680
                  have d_x690 := rd_Ik eS692 o_v0 o_a586 (by decide) d_x690
                  obtain ⟨y693, hy693⟩ : ∃ z : Int32, z = (6 : Int32) := ⟨_, rfl⟩
                  have d_y693 := rd_Is eS692 hy693
                  have ea586 := rf_I eS692 ea586
                  have hT := tx_I eS692 hT
                  have l_v1 := ln_I eS692 l_v1
                  have g0 := gr_I eS692 g0
                  have o_a586 := ob_I eS692 o_a586
                  have o_v0 := ob_I eS692 o_v0
                  have o_v1 := ob_I eS692 o_v1
                  intro x694 ex694
                  have d_x694 := ex694
                  intro S695 eS695
                  have hI : IV S695 := by rw [eS695]; exact iv_sI hI o_v0 (by decide) (nu_free (by decide))
                  have f0 := fr_I eS695 g0 f0 o_v0 (by decide)
                  have d_x680 := rd_Ij eS695 (by decide) d_x680
                  have d_x690 := rd_Ik eS695 o_v0 o_a586 (by decide) d_x690
                  have d_y693 := rd_Ij eS695 (by decide) d_y693
                  have d_x694 := rd_Ij eS695 (by decide) d_x694
                  obtain ⟨y696, hy696⟩ : ∃ z : Int32, z = x694 := ⟨_, rfl⟩
                  have d_y696 := rd_Is eS695 hy696
                  have ea586 := rf_I eS695 ea586
                  have hT := tx_I eS695 hT
                  have l_v1 := ln_I eS695 l_v1
                  have g0 := gr_I eS695 g0
                  have o_a586 := ob_I eS695 o_a586
                  have o_v0 := ob_I eS695 o_v0
                  have o_v1 := ob_I eS695 o_v1
                  intro _ _
                  refine ⟨fun c698 => ?_, fun c698 => ?_⟩
                  · exact hq _ _ hI g0 f0 (Or.inl rfl)
                  · exact hq _ _ hI g0 f0 (Or.inr rfl)
                · refine ⟨a586, ea586, ?_⟩
                  refine ⟨o_a586, ?_⟩
                  intro x700 ex700
                  have r_x700 : (0 : Int32) ≤ x700 ∧ x700 ≤ (4 : Int32) := by rw [ex700]; exact nu 14 rfl hI o_a586
                  have d_x700 := ex700
                  refine ⟨fun c701 => ?_, fun c701 => ?_⟩
                  · exact hq _ _ hI g0 f0 (Or.inr rfl)
                  · refine u_X4_read_280 ?_
                    refine ⟨o_v0, ?_⟩
                    refine u_X4_fail ?_
                    refine u_X4_fail_0 ?_
                    refine ⟨o_v0, ?_⟩
                    intro S702 eS702
                    have hI : IV S702 := by rw [eS702]; exact iv_sI hI o_v0 (by decide) (nu_free (by decide))
                    have f0 := fr_I eS702 g0 f0 o_v0 (by decide)
                    have d_x680 := rd_Ij eS702 (by decide) d_x680
                    have d_x690 := rd_Ik eS702 o_v0 o_a586 (by decide) d_x690
                    have d_x700 := rd_Ik eS702 o_v0 o_a586 (by decide) d_x700
                    obtain ⟨y703, hy703⟩ : ∃ z : Int32, z = (6 : Int32) := ⟨_, rfl⟩
                    have d_y703 := rd_Is eS702 hy703
                    have ea586 := rf_I eS702 ea586
                    have hT := tx_I eS702 hT
                    have l_v1 := ln_I eS702 l_v1
                    have g0 := gr_I eS702 g0
                    have o_a586 := ob_I eS702 o_a586
                    have o_v0 := ob_I eS702 o_v0
                    have o_v1 := ob_I eS702 o_v1
                    intro x704 ex704
                    have d_x704 := ex704
                    intro S705 eS705
                    have hI : IV S705 := by rw [eS705]; exact iv_sI hI o_v0 (by decide) (nu_free (by decide))
                    have f0 := fr_I eS705 g0 f0 o_v0 (by decide)
                    have d_x680 := rd_Ij eS705 (by decide) d_x680
                    have d_x690 := rd_Ik eS705 o_v0 o_a586 (by decide) d_x690
                    have d_x700 := rd_Ik eS705 o_v0 o_a586 (by decide) d_x700
                    have d_y703 := rd_Ij eS705 (by decide) d_y703
                    have d_x704 := rd_Ij eS705 (by decide) d_x704
                    obtain ⟨y706, hy706⟩ : ∃ z : Int32, z = x704 := ⟨_, rfl⟩
                    have d_y706 := rd_Is eS705 hy706
                    have ea586 := rf_I eS705 ea586
                    have hT := tx_I eS705 hT
                    have l_v1 := ln_I eS705 l_v1
                    have g0 := gr_I eS705 g0
                    have o_a586 := ob_I eS705 o_a586
                    have o_v0 := ob_I eS705 o_v0
                    have o_v1 := ob_I eS705 o_v1
                    intro _ _
                    refine ⟨fun c708 => ?_, fun c708 => ?_⟩
                    · exact hq _ _ hI g0 f0 (Or.inl rfl)
                    · exact hq _ _ hI g0 f0 (Or.inr rfl)
    · refine m_X4_worldLine hI o_v0 hT (fun x709 S710 hJ g711 fc712 b_x709 p_x709 => ?_)
      have hT := p_x709
      have hI := hJ
      have l_v1 := (gr_len g711 o_v1).trans l_v1
      have f0 := fri_tr (S := S6) g0 f0 fc712 (by decide) (by decide)
      have fL8 := fri_tr (S := S6) gL7 fL8 fc712 (by decide) (by decide)
      have o_v0 := gr_ob g711 o_v0
      have o_v1 := gr_ob g711 o_v1
      have g0 := gr_tr (T := S6) g0 g711
      have gL7 := gr_tr (T := S6) gL7 g711
      intro _ _
      have bb_x709 : x709 = 0 ∨ x709 = 1 := b_x709
      refine u_X4_read_248 ?_
      refine ⟨fun c713 => ?_, fun c713 => ?_⟩
      · refine u_X4_read_295 ?_
        refine ⟨fun c714 => ?_, fun c714 => ?_⟩
        · exact hq _ _ hI g0 f0 (Or.inl rfl)
        · refine ⟨o_v0, ?_⟩
          refine m_X4_sign hI o_v0 hT (fun x715 S716 hJ g717 fc718 b_x715 p_x715 => ?_)
          have hT := p_x715
          have hI := hJ
          have l_v1 := (gr_len g717 o_v1).trans l_v1
          have f0 := fri_tr (S := S710) g0 f0 fc718 (by decide) (by decide)
          have fL8 := fri_tr (S := S710) gL7 fL8 fc718 (by decide) (by decide)
          have o_v0 := gr_ob g717 o_v0
          have o_v1 := gr_ob g717 o_v1
          have g0 := gr_tr (T := S710) g0 g717
          have gL7 := gr_tr (T := S710) gL7 g717
          intro _ _
          have bb_x715 : x715 = 0 ∨ x715 = 1 := b_x715
          refine ⟨fun c719 => ?_, fun c719 => ?_⟩
          · intro x720 ex720
            exact ih13 _ _ _ ⟨hI, gL7, fL8, rfl, hT, (q184 i1u5 c14 bb_x21 c25 bb_x709 c713 c714 bb_x715 c719 ex720)⟩ (mu_up (q185 i1u5 c14 bb_x21 c25 bb_x709 c713 c714 bb_x715 c719 ex720) (q186 i1u5 c14 bb_x21 c25 bb_x709 c713 c714 bb_x715 c719 ex720))
          · exact hq _ _ hI g0 f0 (Or.inl rfl)
      · refine ⟨o_v0, ?_⟩
        intro x721 ex721
        have d_x721 := ex721
        refine ⟨fun c722 => ?_, fun c722 => ?_⟩
        · refine u_X4_read_295 ?_
          refine ⟨fun c723 => ?_, fun c723 => ?_⟩
          · exact hq _ _ hI g0 f0 (Or.inl rfl)
          · refine ⟨o_v0, ?_⟩
            refine m_X4_sign hI o_v0 hT (fun x724 S725 hJ g726 fc727 b_x724 p_x724 => ?_)
            have hT := p_x724
            have hI := hJ
            have l_v1 := (gr_len g726 o_v1).trans l_v1
            have f0 := fri_tr (S := S710) g0 f0 fc727 (by decide) (by decide)
            have fL8 := fri_tr (S := S710) gL7 fL8 fc727 (by decide) (by decide)
            have o_v0 := gr_ob g726 o_v0
            have o_v1 := gr_ob g726 o_v1
            have g0 := gr_tr (T := S710) g0 g726
            have gL7 := gr_tr (T := S710) gL7 g726
            intro _ _
            have bb_x724 : x724 = 0 ∨ x724 = 1 := b_x724
            refine ⟨fun c728 => ?_, fun c728 => ?_⟩
            · intro x729 ex729
              exact ih13 _ _ _ ⟨hI, gL7, fL8, rfl, hT, (q187 i1u5 c14 bb_x21 c25 bb_x709 c713 c722 c723 bb_x724 c728 ex729)⟩ (mu_up (q188 i1u5 c14 bb_x21 c25 bb_x709 c713 c722 c723 bb_x724 c728 ex729) (q189 i1u5 c14 bb_x21 c25 bb_x709 c713 c722 c723 bb_x724 c728 ex729))
            · exact hq _ _ hI g0 f0 (Or.inl rfl)
        · obtain ⟨a730, ea730, o_a730, -⟩ := sh 12 rfl hI o_v0
          refine ⟨a730, ea730, ?_⟩
          refine ⟨o_a730, ?_⟩
          intro x731 ex731
          have r_x731 : (0 : Int32) ≤ x731 ∧ x731 ≤ (8 : Int32) := by rw [ex731]; exact nu 12 rfl hI o_a730
          have d_x731 := ex731
          refine ⟨fun c732 => ?_, fun c732 => ?_⟩
          · refine u_X4_read_280 ?_
            refine ⟨o_v0, ?_⟩
            refine u_X4_fail ?_
            refine u_X4_fail_0 ?_
            refine ⟨o_v0, ?_⟩
            intro S733 eS733
            have hI : IV S733 := by rw [eS733]; exact iv_sI hI o_v0 (by decide) (nu_free (by decide))
            have f0 := fr_I eS733 g0 f0 o_v0 (by decide)
            have d_x721 := rd_Ij eS733 (by decide) d_x721
            have d_x731 := rd_Ik eS733 o_v0 o_a730 (by decide) d_x731
            obtain ⟨y734, hy734⟩ : ∃ z : Int32, z = (6 : Int32) := ⟨_, rfl⟩
            have d_y734 := rd_Is eS733 hy734
            have ea730 := rf_I eS733 ea730
            have hT := tx_I eS733 hT
            have l_v1 := ln_I eS733 l_v1
            have g0 := gr_I eS733 g0
            have o_a730 := ob_I eS733 o_a730
            have o_v0 := ob_I eS733 o_v0
            have o_v1 := ob_I eS733 o_v1
            intro x735 ex735
            have d_x735 := ex735
            intro S736 eS736
            have hI : IV S736 := by rw [eS736]; exact iv_sI hI o_v0 (by decide) (nu_free (by decide))
            have f0 := fr_I eS736 g0 f0 o_v0 (by decide)
            have d_x721 := rd_Ij eS736 (by decide) d_x721
            have d_x731 := rd_Ik eS736 o_v0 o_a730 (by decide) d_x731
            have d_y734 := rd_Ij eS736 (by decide) d_y734
            have d_x735 := rd_Ij eS736 (by decide) d_x735
            obtain ⟨y737, hy737⟩ : ∃ z : Int32, z = x735 := ⟨_, rfl⟩
            have d_y737 := rd_Is eS736 hy737
            have ea730 := rf_I eS736 ea730
            have hT := tx_I eS736 hT
            have l_v1 := ln_I eS736 l_v1
            have g0 := gr_I eS736 g0
            have o_a730 := ob_I eS736 o_a730
            have o_v0 := ob_I eS736 o_v0
            have o_v1 := ob_I eS736 o_v1
            intro _ _
            refine ⟨fun c739 => ?_, fun c739 => ?_⟩
            · exact hq _ _ hI g0 f0 (Or.inl rfl)
            · exact hq _ _ hI g0 f0 (Or.inr rfl)
          · refine ⟨a730, ea730, ?_⟩
            refine ⟨o_a730, ?_⟩
            intro x741 ex741
            have r_x741 : (0 : Int32) ≤ x741 ∧ x741 ≤ (4 : Int32) := by rw [ex741]; exact nu 14 rfl hI o_a730
            have d_x741 := ex741
            refine ⟨fun c742 => ?_, fun c742 => ?_⟩
            · exact hq _ _ hI g0 f0 (Or.inr rfl)
            · refine u_X4_read_280 ?_
              refine ⟨o_v0, ?_⟩
              refine u_X4_fail ?_
              refine u_X4_fail_0 ?_
              refine ⟨o_v0, ?_⟩
              intro S743 eS743
              have hI : IV S743 := by rw [eS743]; exact iv_sI hI o_v0 (by decide) (nu_free (by decide))
              have f0 := fr_I eS743 g0 f0 o_v0 (by decide)
              have d_x721 := rd_Ij eS743 (by decide) d_x721
              have d_x731 := rd_Ik eS743 o_v0 o_a730 (by decide) d_x731
              have d_x741 := rd_Ik eS743 o_v0 o_a730 (by decide) d_x741
              obtain ⟨y744, hy744⟩ : ∃ z : Int32, z = (6 : Int32) := ⟨_, rfl⟩
              have d_y744 := rd_Is eS743 hy744
              have ea730 := rf_I eS743 ea730
              have hT := tx_I eS743 hT
              have l_v1 := ln_I eS743 l_v1
              have g0 := gr_I eS743 g0
              have o_a730 := ob_I eS743 o_a730
              have o_v0 := ob_I eS743 o_v0
              have o_v1 := ob_I eS743 o_v1
              intro x745 ex745
              have d_x745 := ex745
              intro S746 eS746
              have hI : IV S746 := by rw [eS746]; exact iv_sI hI o_v0 (by decide) (nu_free (by decide))
              have f0 := fr_I eS746 g0 f0 o_v0 (by decide)
              have d_x721 := rd_Ij eS746 (by decide) d_x721
              have d_x731 := rd_Ik eS746 o_v0 o_a730 (by decide) d_x731
              have d_x741 := rd_Ik eS746 o_v0 o_a730 (by decide) d_x741
              have d_y744 := rd_Ij eS746 (by decide) d_y744
              have d_x745 := rd_Ij eS746 (by decide) d_x745
              obtain ⟨y747, hy747⟩ : ∃ z : Int32, z = x745 := ⟨_, rfl⟩
              have d_y747 := rd_Is eS746 hy747
              have ea730 := rf_I eS746 ea730
              have hT := tx_I eS746 hT
              have l_v1 := ln_I eS746 l_v1
              have g0 := gr_I eS746 g0
              have o_a730 := ob_I eS746 o_a730
              have o_v0 := ob_I eS746 o_v0
              have o_v1 := ob_I eS746 o_v1
              intro _ _
              refine ⟨fun c749 => ?_, fun c749 => ?_⟩
              · exact hq _ _ hI g0 f0 (Or.inl rfl)
              · exact hq _ _ hI g0 f0 (Or.inr rfl)
