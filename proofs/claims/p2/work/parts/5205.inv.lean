set_option maxHeartbeats 4000000 in
set_option maxRecDepth 20000 in
theorem m_X4_sign {v0 : Nat} {v1 : Int32} {Q : Int32 → HS → Prop} {S : HS} (hI : IV S) (o_v0 : ob S v0 4)    (hT : TX S v0) (hq : ∀ (r : Int32) (T : HS), IV T → Gr S T → FRI [(4, 0), (4, 1), (4, 4), (4, 6), (4, 7)] [] S T → bl r → (TX T v0) → Q r T) : P_X4_sign v0 v1 Q S := by
  have g0 := gr_rf S
  have f0 := fri_rf [(4, 0), (4, 1), (4, 4), (4, 6), (4, 7)] [] S
  refine u_X4_sign ?_
  refine u_X4_sign_0 ?_
  refine ⟨o_v0, ?_⟩
  intro x1 ex1
  have d_x1 := ex1
  refine ⟨fun c2 => ?_, fun c2 => ?_⟩
  · refine m_X4_next hI o_v0 hT (fun S4 hJ g5 fc6 p_S4 => ?_)
    have hT := p_S4
    have hI := hJ
    have f0 := fri_tr (S := S) g0 f0 fc6 (by decide) (by decide)
    have o_v0 := gr_ob g5 o_v0
    have g0 := gr_tr (T := S) g0 g5
    intro _
    exact hq _ _ hI g0 f0 (Or.inr rfl) hT
  · refine u_X4_fail ?_
    refine u_X4_fail_0 ?_
    refine ⟨o_v0, ?_⟩
    intro S7 eS7
    have hI : IV S7 := by rw [eS7]; exact iv_sI hI o_v0 (by decide) (nu_free (by decide))
    have f0 := fr_I eS7 g0 f0 o_v0 (by decide)
    have d_x1 := rd_Ij eS7 (by decide) d_x1
    obtain ⟨y8, hy8⟩ : ∃ z : Int32, z = (1 : Int32) := ⟨_, rfl⟩
    have d_y8 := rd_Is eS7 hy8
    have hT := tx_I eS7 hT
    have g0 := gr_I eS7 g0
    have o_v0 := ob_I eS7 o_v0
    intro x9 ex9
    have d_x9 := ex9
    intro S10 eS10
    have hI : IV S10 := by rw [eS10]; exact iv_sI hI o_v0 (by decide) (nu_free (by decide))
    have f0 := fr_I eS10 g0 f0 o_v0 (by decide)
    have d_x1 := rd_Ij eS10 (by decide) d_x1
    have d_y8 := rd_Ij eS10 (by decide) d_y8
    have d_x9 := rd_Ij eS10 (by decide) d_x9
    obtain ⟨y11, hy11⟩ : ∃ z : Int32, z = x9 := ⟨_, rfl⟩
    have d_y11 := rd_Is eS10 hy11
    have hT := tx_I eS10 hT
    have g0 := gr_I eS10 g0
    have o_v0 := ob_I eS10 o_v0
    intro _ _
    refine ⟨(Or.inl rfl), ?_⟩
    exact hq _ _ hI g0 f0 (Or.inl rfl) hT
set_option maxHeartbeats 4000000 in
set_option maxRecDepth 20000 in
theorem m_X4_someWalker {v0 : Nat} {Q : Int32 → HS → Prop} {S : HS} (hI : IV S) (o_v0 : ob S v0 4)    (hT : TX S v0) (hq : ∀ (r : Int32) (T : HS), IV T → Gr S T → FRI [(4, 0), (4, 1), (4, 4), (4, 6), (4, 7), (4, 9)] [] S T → bl r → (TX T v0) → Q r T) : P_X4_someWalker v0 Q S := by
  have g0 := gr_rf S
  have f0 := fri_rf [(4, 0), (4, 1), (4, 4), (4, 6), (4, 7), (4, 9)] [] S
  refine u_X4_someWalker ?_
  refine u_X4_someWalker_0 ?_
  refine ⟨o_v0, ?_⟩
  refine m_X4_canBeName hI o_v0 hT (fun x1 S2 hI2 g3 b_x1 p_x1 => ?_)
  subst p_x1
  intro _ _
  have bb_x1 : x1 = 0 ∨ x1 = 1 := b_x1
  refine ⟨fun c5 => ?_, fun c5 => ?_⟩
  · refine m_X4_findName hI o_v0 hT (fun x6 S7 hI2 g8 p_x6 => ?_)
    subst p_x6
    intro _
    refine ⟨fun c10 => ?_, fun c10 => ?_⟩
    · intro x11 ex11
      intro S12 eS12
      have hI : IV S12 := by rw [eS12]; exact iv_sI hI o_v0 (by decide) (nu_free (by decide))
      have f0 := fr_I eS12 g0 f0 o_v0 (by decide)
      have d_x11 := rd_Is eS12 (rfl : x11 = x11)
      have hT := tx_I eS12 hT
      have g0 := gr_I eS12 g0
      have o_v0 := ob_I eS12 o_v0
      refine m_X4_next hI o_v0 hT (fun S14 hJ g15 fc16 p_S14 => ?_)
      have hT := p_S14
      have hI := hJ
      have d_x11 := d_x11.trans (fri_at fc16 (by decide) (by decide) o_v0).symm
      have f0 := fri_tr (S := S12) g0 f0 fc16 (by decide) (by decide)
      have o_v0 := gr_ob g15 o_v0
      have g0 := gr_tr (T := S12) g0 g15
      intro _
      exact hq _ _ hI g0 f0 (Or.inr rfl) hT
    · refine u_X4_fail ?_
      refine u_X4_fail_0 ?_
      refine ⟨o_v0, ?_⟩
      intro S17 eS17
      have hI : IV S17 := by rw [eS17]; exact iv_sI hI o_v0 (by decide) (nu_free (by decide))
      have f0 := fr_I eS17 g0 f0 o_v0 (by decide)
      obtain ⟨y18, hy18⟩ : ∃ z : Int32, z = (2 : Int32) := ⟨_, rfl⟩
      have d_y18 := rd_Is eS17 hy18
      have hT := tx_I eS17 hT
      have g0 := gr_I eS17 g0
      have o_v0 := ob_I eS17 o_v0
      intro x19 ex19
      have d_x19 := ex19
      intro S20 eS20
      have hI : IV S20 := by rw [eS20]; exact iv_sI hI o_v0 (by decide) (nu_free (by decide))
      have f0 := fr_I eS20 g0 f0 o_v0 (by decide)
      have d_y18 := rd_Ij eS20 (by decide) d_y18
      have d_x19 := rd_Ij eS20 (by decide) d_x19
      obtain ⟨y21, hy21⟩ : ∃ z : Int32, z = x19 := ⟨_, rfl⟩
      have d_y21 := rd_Is eS20 hy21
      have hT := tx_I eS20 hT
      have g0 := gr_I eS20 g0
      have o_v0 := ob_I eS20 o_v0
      intro _ _
      refine ⟨(Or.inl rfl), ?_⟩
      exact hq _ _ hI g0 f0 (Or.inl rfl) hT
  · refine u_X4_fail ?_
    refine u_X4_fail_0 ?_
    refine ⟨o_v0, ?_⟩
    intro S23 eS23
    have hI : IV S23 := by rw [eS23]; exact iv_sI hI o_v0 (by decide) (nu_free (by decide))
    have f0 := fr_I eS23 g0 f0 o_v0 (by decide)
    obtain ⟨y24, hy24⟩ : ∃ z : Int32, z = (1 : Int32) := ⟨_, rfl⟩
    have d_y24 := rd_Is eS23 hy24
    have hT := tx_I eS23 hT
    have g0 := gr_I eS23 g0
    have o_v0 := ob_I eS23 o_v0
    intro x25 ex25
    have d_x25 := ex25
    intro S26 eS26
    have hI : IV S26 := by rw [eS26]; exact iv_sI hI o_v0 (by decide) (nu_free (by decide))
    have f0 := fr_I eS26 g0 f0 o_v0 (by decide)
    have d_y24 := rd_Ij eS26 (by decide) d_y24
    have d_x25 := rd_Ij eS26 (by decide) d_x25
    obtain ⟨y27, hy27⟩ : ∃ z : Int32, z = x25 := ⟨_, rfl⟩
    have d_y27 := rd_Is eS26 hy27
    have hT := tx_I eS26 hT
    have g0 := gr_I eS26 g0
    have o_v0 := ob_I eS26 o_v0
    intro _ _
    refine ⟨(Or.inl rfl), ?_⟩
    exact hq _ _ hI g0 f0 (Or.inl rfl) hT
set_option maxHeartbeats 4000000 in
set_option maxRecDepth 20000 in
theorem m_X4_seenLine {v0 : Nat} {Q : Int32 → HS → Prop} {S : HS} (hI : IV S) (o_v0 : ob S v0 4)   (hrm : RM S v0 5 4) (hT : TX S v0) (hq : ∀ (r : Int32) (T : HS), IV T → Gr S T → FRI [(4, 0), (4, 1), (4, 4), (4, 6), (4, 7), (4, 9), (8, 5)] [] S T → bl r → (TX T v0) → Q r T) : P_X4_seenLine v0 Q S := by
  have g0 := gr_rf S
  have f0 := fri_rf [(4, 0), (4, 1), (4, 4), (4, 6), (4, 7), (4, 9), (8, 5)] [] S
  obtain ⟨a1, ea1, o_a1, -⟩ := sh 12 rfl hI o_v0
  obtain ⟨y2, d_y2⟩ : ∃ z : Int32, z = fI S a1 5 := ⟨_, rfl⟩
  have hr_y2 : y2 < (4 : Int32) := by rw [d_y2]; exact hrm _ ea1
  have r_y2 : (0 : Int32) ≤ y2 ∧ y2 ≤ (4 : Int32) := by rw [d_y2]; exact nu 15 rfl hI o_a1
  refine u_X4_seenLine ?_
  refine u_X4_seenLine_0 ?_
  refine ⟨o_v0, ?_⟩
  refine m_X4_someWalker hI o_v0 hT (fun x3 S4 hJ g5 fc6 b_x3 p_x3 => ?_)
  have hT := p_x3
  have hI := hJ
  have d_y2 := d_y2.trans (fri_at fc6 (by decide) (by decide) o_a1).symm
  have ea1 := (frr_at fc6 (by decide) (by decide) o_v0).trans ea1
  have f0 := fri_tr (S := S) g0 f0 fc6 (by decide) (by decide)
  have o_a1 := gr_ob g5 o_a1
  have o_v0 := gr_ob g5 o_v0
  have g0 := gr_tr (T := S) g0 g5
  intro _ _
  have bb_x3 : x3 = 0 ∨ x3 = 1 := b_x3
  refine ⟨fun c7 => ?_, fun c7 => ?_⟩
  · refine ⟨a1, ea1, ?_⟩
    refine ⟨o_a1, ?_⟩
    obtain ⟨a9, ea9, o_a9, l_a9⟩ := shl 19 rfl hI o_a1
    refine ⟨a9, ea9, ?_⟩
    refine ⟨a1, ea1, ?_⟩
    refine ⟨o_a1, ?_⟩
    intro x11 ex11
    have r_x11 : (0 : Int32) ≤ x11 ∧ x11 ≤ (4 : Int32) := by rw [ex11]; exact nu 15 rfl hI o_a1
    have q_x11 : x11 = y2 := ex11.trans d_y2.symm
    have d_x11 := ex11
    intro x12 ex12
    have d_x12 := ex12
    refine ⟨o_a9, ?_⟩
    have i13 : vp_in x11 (hN _ a9) := (vin l_a9 (m := 4) (by decide) (q829 hr_y2 r_y2 bb_x3 c7 r_x11 q_x11))
    refine ⟨i13, ?_⟩
    intro S14 eS14
    have hI : IV S14 := by rw [eS14]; exact iv_aI hI o_a1 (by decide) ea9 o_a9 (by decide)
    have f0 := fr_A eS14 g0 f0 o_a9 (by decide)
    have d_x11 := rd_Ik eS14 o_a9 o_a1 (by decide) d_x11
    have d_x12 := rd_Ik eS14 o_a9 o_v0 (by decide) d_x12
    have ea1 := rf_I eS14 ea1
    have ea9 := rf_I eS14 ea9
    have hT := tx_I eS14 hT
    have l_a9 := ln_I eS14 l_a9
    have g0 := gr_I eS14 g0
    have o_a1 := ob_I eS14 o_a1
    have o_a9 := ob_I eS14 o_a9
    have o_v0 := ob_I eS14 o_v0
    refine i_X4_seenLine_30 (fun (y0 : Nat) (y1 : Int32) (Z : HS) => ((2147483647 : Int32).toInt - y1.toInt).toNat) (fun (y0 : Nat) (y1 : Int32) (Z : HS) => (IV Z) ∧ (Gr S14 Z) ∧ (FRI [(4, 0), (4, 1), (4, 4), (4, 6), (4, 7), (4, 9)] [] S14 Z) ∧ (v0 = y0) ∧ (TX Z v0) ∧ (0 ≤ y1)) ?_ _ _ _ ⟨hI, (gr_rf _), (fri_rf _ _ _), rfl, hT, (q666 bb_x3 c7)⟩
    intro w19 w21 S16 X22 ⟨hI, gL17, fL18, q20, hT, i1u15⟩ ih23
    subst q20
    have l_a9 := (gr_len gL17 o_a9).trans l_a9
    have d_x11 := d_x11.trans (fri_at fL18 (by decide) (by decide) o_a1).symm
    have ea1 := (frr_at fL18 (by decide) (by decide) o_v0).trans ea1
    have ea9 := (frr_at fL18 (by decide) (by decide) o_a1).trans ea9
    have f0 := fri_tr (S := S14) g0 f0 fL18 (by decide) (by decide)
    have o_a1 := gr_ob gL17 o_a1
    have o_a9 := gr_ob gL17 o_a9
    have o_v0 := gr_ob gL17 o_v0
    have g0 := gr_tr (T := S14) g0 gL17
    refine u_X4_seenLine_30 ?_
    refine ⟨fun c24 => ?_, fun c24 => ?_⟩
    · refine ⟨o_v0, ?_⟩
      refine ⟨a1, ea1, ?_⟩
      refine ⟨o_a1, ?_⟩
      intro x26 ex26
      have r_x26 : (0 : Int32) ≤ x26 ∧ x26 ≤ (4 : Int32) := by rw [ex26]; exact nu 15 rfl hI o_a1
      have q_x26 : x26 = x11 := ex26.trans d_x11.symm
      have d_x26 := ex26
      intro x27 ex27
      intro S28 eS28
      have hI : IV S28 := by rw [eS28]; exact iv_sI hI o_a1 (by decide) (nu_one (lo := (0 : Int32)) (hi := (4 : Int32)) (by decide) (q830 hr_y2 r_y2 bb_x3 c7 r_x11 q_x11 i1u15 c24 r_x26 q_x26 ex27))
      have f0 := fr_I eS28 g0 f0 o_a1 (by decide)
      have d_x27 := rd_Is eS28 (rfl : x27 = x27)
      have ea1 := rf_I eS28 ea1
      have ea9 := rf_I eS28 ea9
      have hT := tx_I eS28 hT
      have l_a9 := ln_I eS28 l_a9
      have g0 := gr_I eS28 g0
      have o_a1 := ob_I eS28 o_a1
      have o_a9 := ob_I eS28 o_a9
      have o_v0 := ob_I eS28 o_v0
      exact hq _ _ hI g0 f0 (Or.inr rfl) hT
    · refine ⟨fun c29 => ?_, fun c29 => ?_⟩
      · refine u_X4_seenLine_47 ?_
        refine ⟨o_v0, ?_⟩
        refine m_X4_whole hI o_v0 hT (fun x30 S31 hJ g32 fc33 b_x30 p_x30 => ?_)
        obtain ⟨hT, pf9_S31⟩ := p_x30
        have hI := hJ
        have l_a9 := (gr_len g32 o_a9).trans l_a9
        have d_x11 := d_x11.trans (fri_at fc33 (by decide) (by decide) o_a1).symm
        have ea1 := (frr_at fc33 (by decide) (by decide) o_v0).trans ea1
        have ea9 := (frr_at fc33 (by decide) (by decide) o_a1).trans ea9
        have f0 := fri_tr (S := S16) g0 f0 fc33 (by decide) (by decide)
        have fL18 := fri_tr (S := S16) gL17 fL18 fc33 (by decide) (by decide)
        have o_a1 := gr_ob g32 o_a1
        have o_a9 := gr_ob g32 o_a9
        have o_v0 := gr_ob g32 o_v0
        have g0 := gr_tr (T := S16) g0 g32
        have gL17 := gr_tr (T := S16) gL17 g32
        obtain ⟨y34, d_y34⟩ : ∃ z : Int32, z = fI S31 v0 9 := ⟨_, rfl⟩
        have p_y34 : x30 = 1 → (0 : Int32) ≤ y34 ∧ y34 ≤ (999 : Int32) := by rw [d_y34]; exact pf9_S31
        intro _ _
        have bb_x30 : x30 = 0 ∨ x30 = 1 := b_x30
        refine ⟨fun c35 => ?_, fun c35 => ?_⟩
        · refine ⟨a1, ea1, ?_⟩
          refine ⟨o_a1, ?_⟩
          obtain ⟨a37, ea37, o_a37, l_a37⟩ := shl 20 rfl hI o_a1
          refine ⟨a37, ea37, ?_⟩
          refine ⟨a1, ea1, ?_⟩
          refine ⟨o_a1, ?_⟩
          intro x39 ex39
          have r_x39 : (0 : Int32) ≤ x39 ∧ x39 ≤ (4 : Int32) := by rw [ex39]; exact nu 15 rfl hI o_a1
          have q_x39 : x39 = x11 := ex39.trans d_x11.symm
          have d_x39 := ex39
          intro x40 ex40
          have q_x40 : x40 = y34 := ex40.trans d_y34.symm
          have d_x40 := ex40
          refine ⟨o_a37, ?_⟩
          have i41 : vp_in ((x39 * (5 : Int32)) + w21) (hN _ a37) := (vin l_a37 (m := 20) (by decide) (q831 hr_y2 r_y2 bb_x3 c7 r_x11 q_x11 i1u15 c24 c29 p_y34 bb_x30 c35 r_x39 q_x39 q_x40))
          refine ⟨i41, ?_⟩
          intro S42 eS42
          have hI : IV S42 := by rw [eS42]; exact iv_aI hI o_a1 (by decide) ea37 o_a37 (by decide)
          have f0 := fr_A eS42 g0 f0 o_a37 (by decide)
          have fL18 := fr_A eS42 gL17 fL18 o_a37 (by decide)
          have d_x39 := rd_Ik eS42 o_a37 o_a1 (by decide) d_x39
          have d_x40 := rd_Ik eS42 o_a37 o_v0 (by decide) d_x40
          have ea1 := rf_I eS42 ea1
          have ea9 := rf_I eS42 ea9
          have ea37 := rf_I eS42 ea37
          have hT := tx_I eS42 hT
          have l_a37 := ln_I eS42 l_a37
          have l_a9 := ln_I eS42 l_a9
          have g0 := gr_I eS42 g0
          have gL17 := gr_I eS42 gL17
          have o_a1 := ob_I eS42 o_a1
          have o_a37 := ob_I eS42 o_a37
          have o_a9 := ob_I eS42 o_a9
          have o_v0 := ob_I eS42 o_v0
          intro x43 ex43
          exact ih23 _ _ _ ⟨hI, gL17, fL18, rfl, hT, (q832 bb_x3 c7 i1u15 c24 c29 p_y34 bb_x30 c35 q_x40 ex43)⟩ (mu_up (q833 bb_x3 c7 i1u15 c24 c29 p_y34 bb_x30 c35 q_x40 ex43) (q834 bb_x3 c7 i1u15 c24 c29 p_y34 bb_x30 c35 q_x40 ex43))
        · exact hq _ _ hI g0 f0 (Or.inl rfl) hT
      · refine ⟨o_v0, ?_⟩
        refine m_X4_sign hI o_v0 hT (fun x44 S45 hJ g46 fc47 b_x44 p_x44 => ?_)
        have hT := p_x44
        have hI := hJ
        have l_a9 := (gr_len g46 o_a9).trans l_a9
        have d_x11 := d_x11.trans (fri_at fc47 (by decide) (by decide) o_a1).symm
        have ea1 := (frr_at fc47 (by decide) (by decide) o_v0).trans ea1
        have ea9 := (frr_at fc47 (by decide) (by decide) o_a1).trans ea9
        have f0 := fri_tr (S := S16) g0 f0 fc47 (by decide) (by decide)
        have fL18 := fri_tr (S := S16) gL17 fL18 fc47 (by decide) (by decide)
        have o_a1 := gr_ob g46 o_a1
        have o_a9 := gr_ob g46 o_a9
        have o_v0 := gr_ob g46 o_v0
        have g0 := gr_tr (T := S16) g0 g46
        have gL17 := gr_tr (T := S16) gL17 g46
        intro _ _
        have bb_x44 : x44 = 0 ∨ x44 = 1 := b_x44
        refine ⟨fun c48 => ?_, fun c48 => ?_⟩
        · exact hq _ _ hI g0 f0 (Or.inl rfl) hT
        · refine u_X4_seenLine_47 ?_
          refine ⟨o_v0, ?_⟩
          refine m_X4_whole hI o_v0 hT (fun x49 S50 hJ g51 fc52 b_x49 p_x49 => ?_)
          obtain ⟨hT, pf9_S50⟩ := p_x49
          have hI := hJ
          have l_a9 := (gr_len g51 o_a9).trans l_a9
          have d_x11 := d_x11.trans (fri_at fc52 (by decide) (by decide) o_a1).symm
          have ea1 := (frr_at fc52 (by decide) (by decide) o_v0).trans ea1
          have ea9 := (frr_at fc52 (by decide) (by decide) o_a1).trans ea9
          have f0 := fri_tr (S := S45) g0 f0 fc52 (by decide) (by decide)
          have fL18 := fri_tr (S := S45) gL17 fL18 fc52 (by decide) (by decide)
          have o_a1 := gr_ob g51 o_a1
          have o_a9 := gr_ob g51 o_a9
          have o_v0 := gr_ob g51 o_v0
          have g0 := gr_tr (T := S45) g0 g51
          have gL17 := gr_tr (T := S45) gL17 g51
          obtain ⟨y53, d_y53⟩ : ∃ z : Int32, z = fI S50 v0 9 := ⟨_, rfl⟩
          have p_y53 : x49 = 1 → (0 : Int32) ≤ y53 ∧ y53 ≤ (999 : Int32) := by rw [d_y53]; exact pf9_S50
          intro _ _
          have bb_x49 : x49 = 0 ∨ x49 = 1 := b_x49
          refine ⟨fun c54 => ?_, fun c54 => ?_⟩
          · refine ⟨a1, ea1, ?_⟩
            refine ⟨o_a1, ?_⟩
            obtain ⟨a56, ea56, o_a56, l_a56⟩ := shl 20 rfl hI o_a1
            refine ⟨a56, ea56, ?_⟩
            refine ⟨a1, ea1, ?_⟩
            refine ⟨o_a1, ?_⟩
            intro x58 ex58
            have r_x58 : (0 : Int32) ≤ x58 ∧ x58 ≤ (4 : Int32) := by rw [ex58]; exact nu 15 rfl hI o_a1
            have q_x58 : x58 = x11 := ex58.trans d_x11.symm
            have d_x58 := ex58
            intro x59 ex59
            have q_x59 : x59 = y53 := ex59.trans d_y53.symm
            have d_x59 := ex59
            refine ⟨o_a56, ?_⟩
            have i60 : vp_in ((x58 * (5 : Int32)) + w21) (hN _ a56) := (vin l_a56 (m := 20) (by decide) (q835 hr_y2 r_y2 bb_x3 c7 r_x11 q_x11 i1u15 c24 c29 bb_x44 c48 p_y53 bb_x49 c54 r_x58 q_x58 q_x59))
            refine ⟨i60, ?_⟩
            intro S61 eS61
            have hI : IV S61 := by rw [eS61]; exact iv_aI hI o_a1 (by decide) ea56 o_a56 (by decide)
            have f0 := fr_A eS61 g0 f0 o_a56 (by decide)
            have fL18 := fr_A eS61 gL17 fL18 o_a56 (by decide)
            have d_x58 := rd_Ik eS61 o_a56 o_a1 (by decide) d_x58
            have d_x59 := rd_Ik eS61 o_a56 o_v0 (by decide) d_x59
            have ea1 := rf_I eS61 ea1
            have ea9 := rf_I eS61 ea9
            have ea56 := rf_I eS61 ea56
            have hT := tx_I eS61 hT
            have l_a56 := ln_I eS61 l_a56
            have l_a9 := ln_I eS61 l_a9
            have g0 := gr_I eS61 g0
            have gL17 := gr_I eS61 gL17
            have o_a1 := ob_I eS61 o_a1
            have o_a56 := ob_I eS61 o_a56
            have o_a9 := ob_I eS61 o_a9
            have o_v0 := ob_I eS61 o_v0
            intro x62 ex62
            exact ih23 _ _ _ ⟨hI, gL17, fL18, rfl, hT, (q836 bb_x3 c7 i1u15 c24 c29 bb_x44 c48 p_y53 bb_x49 c54 q_x59 ex62)⟩ (mu_up (q837 bb_x3 c7 i1u15 c24 c29 bb_x44 c48 p_y53 bb_x49 c54 q_x59 ex62) (q838 bb_x3 c7 i1u15 c24 c29 bb_x44 c48 p_y53 bb_x49 c54 q_x59 ex62))
          · exact hq _ _ hI g0 f0 (Or.inl rfl) hT
  · exact hq _ _ hI g0 f0 (Or.inl rfl) hT
set_option maxHeartbeats 4000000 in
set_option maxRecDepth 20000 in
theorem m_X4_walkerLine {v0 : Nat} {Q : Int32 → HS → Prop} {S : HS} (hI : IV S) (o_v0 : ob S v0 4)   (hrm : RM S v0 4 4) (hT : TX S v0) (hq : ∀ (r : Int32) (T : HS), IV T → Gr S T → FRI [(4, 0), (4, 1), (4, 4), (4, 6), (4, 7), (4, 9), (4, 10), (6, 0), (6, 1), (6, 2), (6, 3), (6, 4), (6, 5), (6, 6), (8, 4)] [] S T → bl r → (TX T v0) → Q r T) : P_X4_walkerLine v0 Q S := by
  have g0 := gr_rf S
  have f0 := fri_rf [(4, 0), (4, 1), (4, 4), (4, 6), (4, 7), (4, 9), (4, 10), (6, 0), (6, 1), (6, 2), (6, 3), (6, 4), (6, 5), (6, 6), (8, 4)] [] S
  obtain ⟨a1, ea1, o_a1, -⟩ := sh 12 rfl hI o_v0
  obtain ⟨y2, d_y2⟩ : ∃ z : Int32, z = fI S a1 4 := ⟨_, rfl⟩
  have hr_y2 : y2 < (4 : Int32) := by rw [d_y2]; exact hrm _ ea1
  have r_y2 : (0 : Int32) ≤ y2 ∧ y2 ≤ (4 : Int32) := by rw [d_y2]; exact nu 14 rfl hI o_a1
  refine u_X4_walkerLine ?_
  refine u_X4_walkerLine_0 ?_
  refine ⟨o_v0, ?_⟩
  refine ⟨a1, ea1, ?_⟩
  refine ⟨o_a1, ?_⟩
  obtain ⟨a4, ea4, o_a4, l_a4⟩ := shl 18 rfl hI o_a1
  refine ⟨a4, ea4, ?_⟩
  refine ⟨a1, ea1, ?_⟩
  refine ⟨o_a1, ?_⟩
  intro x6 ex6
  have r_x6 : (0 : Int32) ≤ x6 ∧ x6 ≤ (4 : Int32) := by rw [ex6]; exact nu 14 rfl hI o_a1
  have q_x6 : x6 = y2 := ex6.trans d_y2.symm
  have d_x6 := ex6
  refine ⟨o_a4, ?_⟩
  have i8 : vp_in x6 (hN _ a4) := (vin l_a4 (m := 4) (by decide) (q794 hr_y2 r_y2 r_x6 q_x6))
  obtain ⟨a7, ea7, o_a7⟩ := ae hI o_a4 (by decide) (by decide) i8
  replace o_a7 : ob _ a7 6 := o_a7
  refine ⟨i8, a7, ea7, ?_⟩
  refine ⟨a1, ea1, ?_⟩
  refine ⟨o_a1, ?_⟩
  intro x10 ex10
  have r_x10 : (0 : Int32) ≤ x10 ∧ x10 ≤ (4 : Int32) := by rw [ex10]; exact nu 14 rfl hI o_a1
  have q_x10 : x10 = x6 := ex10.trans d_x6.symm
  have d_x10 := ex10
  refine m_X4_newName hI o_v0 hT (fun x11 S12 hJ g13 fc14 b_x11 p_x11 => ?_)
  have hT := p_x11
  have hI := hJ
  have l_a4 := (gr_len g13 o_a4).trans l_a4
  have d_x10 := d_x10.trans (fri_at fc14 (by decide) (by decide) o_a1).symm
  have ea1 := (frr_at fc14 (by decide) (by decide) o_v0).trans ea1
  have ea4 := (frr_at fc14 (by decide) (by decide) o_a1).trans ea4
  have f0 := fri_tr (S := S) g0 f0 fc14 (by decide) (by decide)
  have o_a1 := gr_ob g13 o_a1
  have o_a4 := gr_ob g13 o_a4
  have o_a7 := gr_ob g13 o_a7
  have o_v0 := gr_ob g13 o_v0
  have g0 := gr_tr (T := S) g0 g13
  intro _ _
  have bb_x11 : x11 = 0 ∨ x11 = 1 := b_x11
  refine ⟨fun c15 => ?_, fun c15 => ?_⟩
  · exact hq _ _ hI g0 f0 (Or.inl rfl) hT
  · refine m_X4_kindOf hI o_v0 o_a7 hT (fun x16 S17 hJ g18 fc19 b_x16 p_x16 => ?_)
    have hT := p_x16
    have hI := hJ
    have l_a4 := (gr_len g18 o_a4).trans l_a4
    have d_x10 := d_x10.trans (fri_at fc19 (by decide) (by decide) o_a1).symm
    have ea1 := (frr_at fc19 (by decide) (by decide) o_v0).trans ea1
    have ea4 := (frr_at fc19 (by decide) (by decide) o_a1).trans ea4
    have f0 := fri_tr (S := S12) g0 f0 fc19 (by decide) (by decide)
    have o_a1 := gr_ob g18 o_a1
    have o_a4 := gr_ob g18 o_a4
    have o_a7 := gr_ob g18 o_a7
    have o_v0 := gr_ob g18 o_v0
    have g0 := gr_tr (T := S12) g0 g18
    intro _ _
    have bb_x16 : x16 = 0 ∨ x16 = 1 := b_x16
    refine ⟨fun c20 => ?_, fun c20 => ?_⟩
    · exact hq _ _ hI g0 f0 (Or.inl rfl) hT
    · refine m_X4_bodyOf hI o_v0 o_a7 hT (fun x21 S22 hJ g23 fc24 b_x21 p_x21 => ?_)
      have hT := p_x21
      have hI := hJ
      have l_a4 := (gr_len g23 o_a4).trans l_a4
      have d_x10 := d_x10.trans (fri_at fc24 (by decide) (by decide) o_a1).symm
      have ea1 := (frr_at fc24 (by decide) (by decide) o_v0).trans ea1
      have ea4 := (frr_at fc24 (by decide) (by decide) o_a1).trans ea4
      have f0 := fri_tr (S := S17) g0 f0 fc24 (by decide) (by decide)
      have o_a1 := gr_ob g23 o_a1
      have o_a4 := gr_ob g23 o_a4
      have o_a7 := gr_ob g23 o_a7
      have o_v0 := gr_ob g23 o_v0
      have g0 := gr_tr (T := S17) g0 g23
      intro _ _
      have bb_x21 : x21 = 0 ∨ x21 = 1 := b_x21
      refine ⟨fun c25 => ?_, fun c25 => ?_⟩
      · refine m_X4_wordAndWhole hI o_v0 (by decide) hT (fun x26 S27 hJ g28 fc29 b_x26 p_x26 => ?_)
        obtain ⟨hT, pf9_S27⟩ := p_x26
        have hI := hJ
        have l_a4 := (gr_len g28 o_a4).trans l_a4
        have d_x10 := d_x10.trans (fri_at fc29 (by decide) (by decide) o_a1).symm
        have ea1 := (frr_at fc29 (by decide) (by decide) o_v0).trans ea1
        have ea4 := (frr_at fc29 (by decide) (by decide) o_a1).trans ea4
        have f0 := fri_tr (S := S22) g0 f0 fc29 (by decide) (by decide)
        have o_a1 := gr_ob g28 o_a1
        have o_a4 := gr_ob g28 o_a4
        have o_a7 := gr_ob g28 o_a7
        have o_v0 := gr_ob g28 o_v0
        have g0 := gr_tr (T := S22) g0 g28
        obtain ⟨y30, d_y30⟩ : ∃ z : Int32, z = fI S27 v0 9 := ⟨_, rfl⟩
        have p_y30 : x26 = 1 → (1 : Int32) ≤ y30 ∧ y30 ≤ (9 : Int32) := by rw [d_y30]; exact pf9_S27
        intro _ _
        have bb_x26 : x26 = 0 ∨ x26 = 1 := b_x26
        refine ⟨fun c31 => ?_, fun c31 => ?_⟩
        · intro x32 ex32
          have q_x32 : x32 = y30 := ex32.trans d_y30.symm
          have d_x32 := ex32
          refine ⟨o_a7, ?_⟩
          intro S33 eS33
          have hI : IV S33 := by rw [eS33]; exact iv_sI hI o_a7 (by decide) (nu_one (lo := (0 : Int32)) (hi := (9 : Int32)) (by decide) (q795 bb_x11 c15 bb_x16 c20 bb_x21 c25 p_y30 bb_x26 c31 q_x32))
          have f0 := fr_I eS33 g0 f0 o_a7 (by decide)
          have d_x10 := rd_Ik eS33 o_a7 o_a1 (by decide) d_x10
          have d_x32 := rd_Ik eS33 o_a7 o_v0 (by decide) d_x32
          obtain ⟨y34, hy34⟩ : ∃ z : Int32, z = x32 := ⟨_, rfl⟩
          have d_y34 := rd_Is eS33 hy34
          have ea1 := rf_I eS33 ea1
          have ea4 := rf_I eS33 ea4
          have hT := tx_I eS33 hT
          have l_a4 := ln_I eS33 l_a4
          have g0 := gr_I eS33 g0
          have o_a1 := ob_I eS33 o_a1
          have o_a4 := ob_I eS33 o_a4
          have o_a7 := ob_I eS33 o_a7
          have o_v0 := ob_I eS33 o_v0
          intro x35 ex35
          have r_x35 : (0 : Int32) ≤ x35 ∧ x35 ≤ (9 : Int32) := by rw [ex35]; exact nu 4 rfl hI o_a7
          have q_x35 : x35 = y34 := ex35.trans d_y34.symm
          have d_x35 := ex35
          refine m_X4_wordAndWhole hI o_v0 (by decide) hT (fun x36 S37 hJ g38 fc39 b_x36 p_x36 => ?_)
          obtain ⟨hT, pf9_S37⟩ := p_x36
          have hI := hJ
          have l_a4 := (gr_len g38 o_a4).trans l_a4
          have d_x10 := d_x10.trans (fri_at fc39 (by decide) (by decide) o_a1).symm
          have d_x35 := d_x35.trans (fri_at fc39 (by decide) (by decide) o_a7).symm
          have ea1 := (frr_at fc39 (by decide) (by decide) o_v0).trans ea1
          have ea4 := (frr_at fc39 (by decide) (by decide) o_a1).trans ea4
          have f0 := fri_tr (S := S33) g0 f0 fc39 (by decide) (by decide)
          have o_a1 := gr_ob g38 o_a1
          have o_a4 := gr_ob g38 o_a4
          have o_a7 := gr_ob g38 o_a7
          have o_v0 := gr_ob g38 o_v0
          have g0 := gr_tr (T := S33) g0 g38
          obtain ⟨y40, d_y40⟩ : ∃ z : Int32, z = fI S37 v0 9 := ⟨_, rfl⟩
          have p_y40 : x36 = 1 → x35 ≤ y40 ∧ y40 ≤ (9 : Int32) := by rw [d_y40]; exact pf9_S37
          intro _ _
          have bb_x36 : x36 = 0 ∨ x36 = 1 := b_x36
          refine ⟨fun c41 => ?_, fun c41 => ?_⟩
          · intro x42 ex42
            have q_x42 : x42 = y40 := ex42.trans d_y40.symm
            have d_x42 := ex42
            intro S43 eS43
            have hI : IV S43 := by rw [eS43]; exact iv_sI hI o_a7 (by decide) (nu_one (lo := (0 : Int32)) (hi := (9 : Int32)) (by decide) (q796 bb_x11 c15 bb_x16 c20 bb_x21 c25 p_y30 bb_x26 c31 q_x32 hy34 r_x35 q_x35 p_y40 bb_x36 c41 q_x42))
            have f0 := fr_I eS43 g0 f0 o_a7 (by decide)
            have d_x10 := rd_Ik eS43 o_a7 o_a1 (by decide) d_x10
            have d_x35 := rd_Ij eS43 (by decide) d_x35
            have d_x42 := rd_Ik eS43 o_a7 o_v0 (by decide) d_x42
            obtain ⟨y44, hy44⟩ : ∃ z : Int32, z = x42 := ⟨_, rfl⟩
            have d_y44 := rd_Is eS43 hy44
            have ea1 := rf_I eS43 ea1
            have ea4 := rf_I eS43 ea4
            have hT := tx_I eS43 hT
            have l_a4 := ln_I eS43 l_a4
            have g0 := gr_I eS43 g0
            have o_a1 := ob_I eS43 o_a1
            have o_a4 := ob_I eS43 o_a4
            have o_a7 := ob_I eS43 o_a7
            have o_v0 := ob_I eS43 o_v0
            refine ⟨a1, ea1, ?_⟩
            refine ⟨o_a1, ?_⟩
            intro x46 ex46
            have r_x46 : (0 : Int32) ≤ x46 ∧ x46 ≤ (4 : Int32) := by rw [ex46]; exact nu 14 rfl hI o_a1
            have q_x46 : x46 = x10 := ex46.trans d_x10.symm
            have d_x46 := ex46
            intro x47 ex47
            intro S48 eS48
            have hI : IV S48 := by rw [eS48]; exact iv_sI hI o_a1 (by decide) (nu_one (lo := (0 : Int32)) (hi := (4 : Int32)) (by decide) (q797 hr_y2 r_y2 r_x6 q_x6 r_x10 q_x10 bb_x11 c15 bb_x16 c20 bb_x21 c25 p_y30 bb_x26 c31 q_x32 hy34 r_x35 q_x35 p_y40 bb_x36 c41 q_x42 hy44 r_x46 q_x46 ex47))
            have f0 := fr_I eS48 g0 f0 o_a1 (by decide)
            have d_x35 := rd_Ik eS48 o_a1 o_a7 (by decide) d_x35
            have d_x42 := rd_Ik eS48 o_a1 o_v0 (by decide) d_x42
            have d_y44 := rd_Ik eS48 o_a1 o_a7 (by decide) d_y44
            have d_x47 := rd_Is eS48 (rfl : x47 = x47)
            have ea1 := rf_I eS48 ea1
            have ea4 := rf_I eS48 ea4
            have hT := tx_I eS48 hT
            have l_a4 := ln_I eS48 l_a4
            have g0 := gr_I eS48 g0
            have o_a1 := ob_I eS48 o_a1
            have o_a4 := ob_I eS48 o_a4
            have o_a7 := ob_I eS48 o_a7
            have o_v0 := ob_I eS48 o_v0
            exact hq _ _ hI g0 f0 (Or.inr rfl) hT
          · exact hq _ _ hI g0 f0 (Or.inl rfl) hT
        · exact hq _ _ hI g0 f0 (Or.inl rfl) hT
      · exact hq _ _ hI g0 f0 (Or.inl rfl) hT
set_option maxHeartbeats 4000000 in
set_option maxRecDepth 20000 in
theorem m_X4_worldLine {v0 : Nat} {Q : Int32 → HS → Prop} {S : HS} (hI : IV S) (o_v0 : ob S v0 4)    (hT : TX S v0) (hq : ∀ (r : Int32) (T : HS), IV T → Gr S T → FRI [(4, 0), (4, 1), (4, 4), (4, 6), (4, 7), (4, 9), (8, 0)] [] S T → bl r → (TX T v0) → Q r T) : P_X4_worldLine v0 Q S := by
  have g0 := gr_rf S
  have f0 := fri_rf [(4, 0), (4, 1), (4, 4), (4, 6), (4, 7), (4, 9), (8, 0)] [] S
  refine u_X4_worldLine ?_
  refine u_X4_worldLine_0 ?_
  refine ⟨o_v0, ?_⟩
  obtain ⟨a1, ea1, o_a1, -⟩ := sh 12 rfl hI o_v0
  refine ⟨a1, ea1, ?_⟩
  refine ⟨o_a1, ?_⟩
  refine m_X8_isTold hI o_a1 (fun x2 S3 hI2 g4 b_x2 p_x2 => ?_)
  subst p_x2
  intro _ _
  have bb_x2 : x2 = 0 ∨ x2 = 1 := b_x2
  refine ⟨fun c6 => ?_, fun c6 => ?_⟩
  · refine m_X4_next hI o_v0 hT (fun S8 hJ g9 fc10 p_S8 => ?_)
    have hT := p_S8
    have hI := hJ
    have ea1 := (frr_at fc10 (by decide) (by decide) o_v0).trans ea1
    have f0 := fri_tr (S := S) g0 f0 fc10 (by decide) (by decide)
    have o_a1 := gr_ob g9 o_a1
    have o_v0 := gr_ob g9 o_v0
    have g0 := gr_tr (T := S) g0 g9
    intro _
    refine m_X4_wordAndWhole hI o_v0 (by decide) hT (fun x11 S12 hJ g13 fc14 b_x11 p_x11 => ?_)
    obtain ⟨hT, pf9_S12⟩ := p_x11
    have hI := hJ
    have ea1 := (frr_at fc14 (by decide) (by decide) o_v0).trans ea1
    have f0 := fri_tr (S := S8) g0 f0 fc14 (by decide) (by decide)
    have o_a1 := gr_ob g13 o_a1
    have o_v0 := gr_ob g13 o_v0
    have g0 := gr_tr (T := S8) g0 g13
    obtain ⟨y15, d_y15⟩ : ∃ z : Int32, z = fI S12 v0 9 := ⟨_, rfl⟩
    have p_y15 : x11 = 1 → (5 : Int32) ≤ y15 ∧ y15 ≤ (60 : Int32) := by rw [d_y15]; exact pf9_S12
    intro _ _
    have bb_x11 : x11 = 0 ∨ x11 = 1 := b_x11
    refine ⟨fun c16 => ?_, fun c16 => ?_⟩
    · refine ⟨a1, ea1, ?_⟩
      intro x18 ex18
      have q_x18 : x18 = y15 := ex18.trans d_y15.symm
      have d_x18 := ex18
      refine ⟨o_a1, ?_⟩
      intro S19 eS19
      have hI : IV S19 := by rw [eS19]; exact iv_sI hI o_a1 (by decide) (nu_one (lo := (0 : Int32)) (hi := (60 : Int32)) (by decide) (q782 bb_x2 c6 p_y15 bb_x11 c16 q_x18))
      have f0 := fr_I eS19 g0 f0 o_a1 (by decide)
      have d_x18 := rd_Ik eS19 o_a1 o_v0 (by decide) d_x18
      obtain ⟨y20, hy20⟩ : ∃ z : Int32, z = x18 := ⟨_, rfl⟩
      have d_y20 := rd_Is eS19 hy20
      have ea1 := rf_I eS19 ea1
      have hT := tx_I eS19 hT
      have g0 := gr_I eS19 g0
      have o_a1 := ob_I eS19 o_a1
      have o_v0 := ob_I eS19 o_v0
      exact hq _ _ hI g0 f0 (Or.inr rfl) hT
    · exact hq _ _ hI g0 f0 (Or.inl rfl) hT
  · refine u_X4_fail ?_
    refine u_X4_fail_0 ?_
    refine ⟨o_v0, ?_⟩
    intro S21 eS21
    have hI : IV S21 := by rw [eS21]; exact iv_sI hI o_v0 (by decide) (nu_free (by decide))
    have f0 := fr_I eS21 g0 f0 o_v0 (by decide)
    obtain ⟨y22, hy22⟩ : ∃ z : Int32, z = (3 : Int32) := ⟨_, rfl⟩
    have d_y22 := rd_Is eS21 hy22
    have ea1 := rf_I eS21 ea1
    have hT := tx_I eS21 hT
    have g0 := gr_I eS21 g0
    have o_a1 := ob_I eS21 o_a1
    have o_v0 := ob_I eS21 o_v0
    intro x23 ex23
    have d_x23 := ex23
    intro S24 eS24
    have hI : IV S24 := by rw [eS24]; exact iv_sI hI o_v0 (by decide) (nu_free (by decide))
    have f0 := fr_I eS24 g0 f0 o_v0 (by decide)
    have d_y22 := rd_Ij eS24 (by decide) d_y22
    have d_x23 := rd_Ij eS24 (by decide) d_x23
    obtain ⟨y25, hy25⟩ : ∃ z : Int32, z = x23 := ⟨_, rfl⟩
    have d_y25 := rd_Is eS24 hy25
    have ea1 := rf_I eS24 ea1
    have hT := tx_I eS24 hT
    have g0 := gr_I eS24 g0
    have o_a1 := ob_I eS24 o_a1
    have o_v0 := ob_I eS24 o_v0
    intro _ _
    refine ⟨(Or.inl rfl), ?_⟩
    exact hq _ _ hI g0 f0 (Or.inl rfl) hT
set_option maxHeartbeats 4000000 in
set_option maxRecDepth 20000 in
theorem m_X4_read {v0 : Nat} {v1 : Nat} {v2 : Int32} {Q : Int32 → HS → Prop} {S : HS} (hI : IV S) (o_v0 : ob S v0 4) (o_v1 : ob S v1 12) (l_v1 : hN S v1 = 900)  (h2 : 0 ≤ v2)  (hq : ∀ (r : Int32) (T : HS), IV T → Gr S T → FRI [(3, 0), (3, 1), (3, 2), (3, 3), (3, 4), (4, 0), (4, 1), (4, 3), (4, 4), (4, 6), (4, 7), (4, 9), (4, 10), (5, 0), (5, 1), (5, 2), (5, 3), (5, 4), (6, 0), (6, 1), (6, 2), (6, 3), (6, 4), (6, 5), (6, 6), (8, 0), (8, 1), (8, 2), (8, 3), (8, 4), (8, 5)] [(4, 2)] S T → bl r → Q r T) : P_X4_read v0 v1 v2 Q S := sorry
set_option maxHeartbeats 4000000 in
set_option maxRecDepth 20000 in
theorem m_X5_endOf {v0 : Nat} {v1 : Int32} {Q : Int32 → HS → Prop} {S : HS} (hI : IV S) (o_v0 : ob S v0 5)     (hq : ∀ (r : Int32) (T : HS), IV T → Gr S T → (S = T) → Q r T) : P_X5_endOf v0 v1 Q S := by
  have g0 := gr_rf S
  refine u_X5_endOf ?_
  refine u_X5_endOf_0 ?_
  refine ⟨fun c1 => ?_, fun c1 => ?_⟩
  · refine ⟨o_v0, ?_⟩
    intro x2 ex2
    have d_x2 := ex2
    exact hq _ _ hI g0 rfl
  · refine ⟨o_v0, ?_⟩
    intro x3 ex3
    have d_x3 := ex3
    exact hq _ _ hI g0 rfl
set_option maxHeartbeats 4000000 in
set_option maxRecDepth 20000 in
theorem m_X5_minutesAt {v0 : Nat} {v1 : Int32} {Q : Int32 → HS → Prop} {S : HS} (hI : IV S) (o_v0 : ob S v0 5)     (hq : ∀ (r : Int32) (T : HS), IV T → Gr S T → (S = T) → Q r T) : P_X5_minutesAt v0 v1 Q S := by
  have g0 := gr_rf S
  refine u_X5_minutesAt ?_
  refine u_X5_minutesAt_0 ?_
  refine ⟨fun c1 => ?_, fun c1 => ?_⟩
  · exact hq _ _ hI g0 rfl
  · refine ⟨o_v0, ?_⟩
    intro x2 ex2
    have d_x2 := ex2
    refine ⟨(q64 c1), ?_⟩
    intro x3 ex3
    exact hq _ _ hI g0 rfl
set_option maxHeartbeats 4000000 in
set_option maxRecDepth 20000 in
theorem m_X5_startOf {v0 : Nat} {v1 : Int32} {Q : Int32 → HS → Prop} {S : HS} (hI : IV S) (o_v0 : ob S v0 5)     (hq : ∀ (r : Int32) (T : HS), IV T → Gr S T → (S = T) → Q r T) : P_X5_startOf v0 v1 Q S := by
  have g0 := gr_rf S
  refine u_X5_startOf ?_
  refine u_X5_startOf_0 ?_
  refine ⟨fun c1 => ?_, fun c1 => ?_⟩
  · refine ⟨o_v0, ?_⟩
    intro x2 ex2
    have d_x2 := ex2
    exact hq _ _ hI g0 rfl
  · refine ⟨o_v0, ?_⟩
    intro x3 ex3
    have d_x3 := ex3
    exact hq _ _ hI g0 rfl
set_option maxHeartbeats 4000000 in
set_option maxRecDepth 20000 in
theorem m_X5_tell {v0 : Nat} {v1 : Int32} {Q : Int32 → HS → Prop} {S : HS} (hI : IV S) (o_v0 : ob S v0 5)     (hq : ∀ (r : Int32) (T : HS), IV T → Gr S T → (S = T) → Q r T) : P_X5_tell v0 v1 Q S := by
  have g0 := gr_rf S
  refine u_X5_tell ?_
  refine u_X5_tell_0 ?_
  refine ⟨fun c1 => ?_, fun c1 => ?_, fun c1 => ?_, fun c1 => ?_, fun c1 => ?_⟩
  · refine ⟨o_v0, ?_⟩
    intro x2 ex2
    have d_x2 := ex2
    exact hq _ _ hI g0 rfl
  · refine ⟨o_v0, ?_⟩
    intro x3 ex3
    have d_x3 := ex3
    exact hq _ _ hI g0 rfl
  · refine ⟨o_v0, ?_⟩
    intro x4 ex4
    have d_x4 := ex4
    exact hq _ _ hI g0 rfl
  · refine ⟨o_v0, ?_⟩
    intro x5 ex5
    have d_x5 := ex5
    exact hq _ _ hI g0 rfl
  · refine ⟨o_v0, ?_⟩
    intro x6 ex6
    have d_x6 := ex6
    exact hq _ _ hI g0 rfl
set_option maxHeartbeats 4000000 in
set_option maxRecDepth 20000 in
theorem m_X5_touches {v0 : Nat} {v1 : Int32} {Q : Int32 → HS → Prop} {S : HS} (hI : IV S) (o_v0 : ob S v0 5)     (hq : ∀ (r : Int32) (T : HS), IV T → Gr S T → bl r → (S = T) → Q r T) : P_X5_touches v0 v1 Q S := by
  have g0 := gr_rf S
  refine u_X5_touches ?_
  refine u_X5_touches_0 ?_
  refine ⟨o_v0, ?_⟩
  intro x1 ex1
  have d_x1 := ex1
  refine ⟨fun c2 => ?_, fun c2 => ?_⟩
  · exact hq _ _ hI g0 (Or.inr rfl) rfl
  · intro x3 ex3
    have d_x3 := ex3
    refine ⟨fun c4 => ?_, fun c4 => ?_⟩
    · exact hq _ _ hI g0 (Or.inl rfl) rfl
    · exact hq _ _ hI g0 (Or.inr rfl) rfl
set_option maxHeartbeats 4000000 in
set_option maxRecDepth 20000 in
theorem m_X6_tell {v0 : Nat} {v1 : Int32} {Q : Int32 → HS → Prop} {S : HS} (hI : IV S) (o_v0 : ob S v0 6)     (hq : ∀ (r : Int32) (T : HS), IV T → Gr S T → (S = T) → Q r T) : P_X6_tell v0 v1 Q S := by
  have g0 := gr_rf S
  refine u_X6_tell ?_
  refine u_X6_tell_0 ?_
  refine ⟨fun c1 => ?_, fun c1 => ?_, fun c1 => ?_, fun c1 => ?_, fun c1 => ?_, fun c1 => ?_, fun c1 => ?_⟩
  · refine ⟨o_v0, ?_⟩
    intro x2 ex2
    have r_x2 : (0 : Int32) ≤ x2 ∧ x2 ≤ (9 : Int32) := by rw [ex2]; exact nu 5 rfl hI o_v0
    have d_x2 := ex2
    exact hq _ _ hI g0 rfl
  · refine ⟨o_v0, ?_⟩
    intro x3 ex3
    have d_x3 := ex3
    exact hq _ _ hI g0 rfl
  · refine ⟨o_v0, ?_⟩
    intro x4 ex4
    have d_x4 := ex4
    exact hq _ _ hI g0 rfl
  · refine ⟨o_v0, ?_⟩
    intro x5 ex5
    have d_x5 := ex5
    exact hq _ _ hI g0 rfl
  · refine ⟨o_v0, ?_⟩
    intro x6 ex6
    have d_x6 := ex6
    exact hq _ _ hI g0 rfl
  · refine ⟨o_v0, ?_⟩
    intro x7 ex7
    have d_x7 := ex7
    exact hq _ _ hI g0 rfl
  · refine ⟨o_v0, ?_⟩
    intro x8 ex8
    have r_x8 : (0 : Int32) ≤ x8 ∧ x8 ≤ (9 : Int32) := by rw [ex8]; exact nu 4 rfl hI o_v0
    have d_x8 := ex8
    exact hq _ _ hI g0 rfl
set_option maxHeartbeats 4000000 in
set_option maxRecDepth 20000 in
theorem m_X7_addMove {v0 : Nat} {v1 : Int32} {v2 : Int32} {v3 : Int32} {v4 : Int64} {v6 : Int32} {Q : HS → Prop} {S : HS} (hI : IV S) (o_v0 : ob S v0 7)    (hM : WM S v0) (hq : ∀ (T : HS), IV T → Gr S T → FRI [(7, 3)] [] S T → (WM T v0) → Q T) : P_X7_addMove v0 v1 v2 v3 v4 v6 Q S := by
  have g0 := gr_rf S
  have f0 := fri_rf [(7, 3)] [] S
  refine u_X7_addMove ?_
  refine u_X7_addMove_0 ?_
  refine ⟨o_v0, ?_⟩
  intro x1 ex1
  have d_x1 := ex1
  refine ⟨fun c2 => ?_, fun c2 => ?_⟩
  · exact hq _ hI g0 f0 hM
  · intro x3 ex3
    have r_x3 : (0 : Int32) ≤ x3 ∧ x3 ≤ (224 : Int32) := by rw [ex3]; exact nu 8 rfl hI o_v0
    have d_x3 := ex3
    refine ⟨fun c4 => ?_, fun c4 => ?_⟩
    · exact hq _ hI g0 f0 hM
    · intro x5 ex5
      have r_x5 : (0 : Int32) ≤ x5 ∧ x5 ≤ (224 : Int32) := by rw [ex5]; exact nu 8 rfl hI o_v0
      have q_x5 : x5 = x3 := ex5.trans d_x3.symm
      have d_x5 := ex5
      refine ⟨fun c6 => ?_, fun c6 => ?_⟩
      · obtain ⟨a7, ea7, o_a7, -⟩ := sh 24 rfl hI o_v0
        have l_a7 := wm hM 3 rfl ea7
        refine ⟨a7, ea7, ?_⟩
        intro x8 ex8
        have r_x8 : (0 : Int32) ≤ x8 ∧ x8 ≤ (224 : Int32) := by rw [ex8]; exact nu 8 rfl hI o_v0
        have q_x8 : x8 = x5 := ex8.trans d_x5.symm
        have d_x8 := ex8
        refine ⟨o_a7, ?_⟩
        intro x9 ex9
        have i10 : vp_in x8 (hN _ a7) := (vin l_a7 (m := 224) (by decide) (q389 c2 r_x3 c4 r_x5 q_x5 c6 r_x8 q_x8 ex9))
        refine ⟨i10, ?_⟩
        intro S11 eS11
        have hI : IV S11 := by rw [eS11]; exact iv_aI hI o_v0 (by decide) ea7 o_a7 (by decide)
        have f0 := fr_A eS11 g0 f0 o_a7 (by decide)
        have d_x1 := rd_Ik eS11 o_a7 o_v0 (by decide) d_x1
        have d_x8 := rd_Ik eS11 o_a7 o_v0 (by decide) d_x8
        have ea7 := rf_I eS11 ea7
        have hM := wm_I eS11 hM
        have l_a7 := ln_I eS11 l_a7
        have g0 := gr_I eS11 g0
        have o_a7 := ob_I eS11 o_a7
        have o_v0 := ob_I eS11 o_v0
        obtain ⟨a12, ea12, o_a12, -⟩ := sh 25 rfl hI o_v0
        have l_a12 := wm hM 4 rfl ea12
        refine ⟨a12, ea12, ?_⟩
        intro x13 ex13
        have r_x13 : (0 : Int32) ≤ x13 ∧ x13 ≤ (224 : Int32) := by rw [ex13]; exact nu 8 rfl hI o_v0
        have q_x13 : x13 = x8 := ex13.trans d_x8.symm
        have d_x13 := ex13
        refine ⟨o_a12, ?_⟩
        intro x14 ex14
        have i15 : vp_in x13 (hN _ a12) := (vin l_a12 (m := 224) (by decide) (q390 c2 r_x3 c4 r_x5 q_x5 c6 r_x8 q_x8 ex9 r_x13 q_x13))
        refine ⟨i15, ?_⟩
        intro S16 eS16
        have hI : IV S16 := by rw [eS16]; exact iv_aI hI o_v0 (by decide) ea12 o_a12 (by decide)
        have f0 := fr_A eS16 g0 f0 o_a12 (by decide)
        have d_x1 := rd_Ik eS16 o_a12 o_v0 (by decide) d_x1
        have d_x13 := rd_Ik eS16 o_a12 o_v0 (by decide) d_x13
        have ea7 := rf_I eS16 ea7
        have ea12 := rf_I eS16 ea12
        have hM := wm_I eS16 hM
        have l_a12 := ln_I eS16 l_a12
        have l_a7 := ln_I eS16 l_a7
        have g0 := gr_I eS16 g0
        have o_a12 := ob_I eS16 o_a12
        have o_a7 := ob_I eS16 o_a7
        have o_v0 := ob_I eS16 o_v0
        obtain ⟨a17, ea17, o_a17, -⟩ := sh 26 rfl hI o_v0
        have l_a17 := wm hM 5 rfl ea17
        refine ⟨a17, ea17, ?_⟩
        intro x18 ex18
        have r_x18 : (0 : Int32) ≤ x18 ∧ x18 ≤ (224 : Int32) := by rw [ex18]; exact nu 8 rfl hI o_v0
        have q_x18 : x18 = x13 := ex18.trans d_x13.symm
        have d_x18 := ex18
        refine ⟨o_a17, ?_⟩
        have i19 : vp_in x18 (hN _ a17) := (vin l_a17 (m := 224) (by decide) (q391 c2 r_x3 c4 r_x5 q_x5 c6 r_x8 q_x8 ex9 r_x13 q_x13 r_x18 q_x18))
        refine ⟨i19, ?_⟩
        intro S20 eS20
        have hI : IV S20 := by rw [eS20]; exact iv_aI hI o_v0 (by decide) ea17 o_a17 (by decide)
        have f0 := fr_A eS20 g0 f0 o_a17 (by decide)
        have d_x1 := rd_Ik eS20 o_a17 o_v0 (by decide) d_x1
        have d_x18 := rd_Ik eS20 o_a17 o_v0 (by decide) d_x18
        have ea7 := rf_I eS20 ea7
        have ea12 := rf_I eS20 ea12
        have ea17 := rf_I eS20 ea17
        have hM := wm_I eS20 hM
        have l_a12 := ln_I eS20 l_a12
        have l_a17 := ln_I eS20 l_a17
        have l_a7 := ln_I eS20 l_a7
        have g0 := gr_I eS20 g0
        have o_a12 := ob_I eS20 o_a12
        have o_a17 := ob_I eS20 o_a17
        have o_a7 := ob_I eS20 o_a7
        have o_v0 := ob_I eS20 o_v0
        obtain ⟨a21, ea21, o_a21, -⟩ := sh 27 rfl hI o_v0
        have l_a21 := wm hM 6 rfl ea21
        refine ⟨a21, ea21, ?_⟩
        intro x22 ex22
        have r_x22 : (0 : Int32) ≤ x22 ∧ x22 ≤ (224 : Int32) := by rw [ex22]; exact nu 8 rfl hI o_v0
        have q_x22 : x22 = x18 := ex22.trans d_x18.symm
        have d_x22 := ex22
        refine ⟨o_a21, ?_⟩
        intro x23 ex23
        have i24 : vp_in x22 (hN _ a21) := (vin l_a21 (m := 224) (by decide) (q392 c2 r_x3 c4 r_x5 q_x5 c6 r_x8 q_x8 ex9 r_x13 q_x13 r_x18 q_x18 r_x22 q_x22))
        refine ⟨i24, ?_⟩
        intro S25 eS25
        have hI : IV S25 := by rw [eS25]; exact iv_aJ hI o_v0 (by decide) ea21 o_a21 (by decide)
        have f0 := fr_J eS25 f0
        have d_x1 := rd_J eS25 d_x1
        have d_x22 := rd_J eS25 d_x22
        have ea7 := rf_J eS25 ea7
        have ea12 := rf_J eS25 ea12
        have ea17 := rf_J eS25 ea17
        have ea21 := rf_J eS25 ea21
        have hM := wm_J eS25 hM
        have l_a12 := ln_J eS25 l_a12
        have l_a17 := ln_J eS25 l_a17
        have l_a21 := ln_J eS25 l_a21
        have l_a7 := ln_J eS25 l_a7
        have g0 := gr_J eS25 g0
        have o_a12 := ob_J eS25 o_a12
        have o_a17 := ob_J eS25 o_a17
        have o_a21 := ob_J eS25 o_a21
        have o_a7 := ob_J eS25 o_a7
        have o_v0 := ob_J eS25 o_v0
        obtain ⟨a26, ea26, o_a26, -⟩ := sh 28 rfl hI o_v0
        have l_a26 := wm hM 7 rfl ea26
        refine ⟨a26, ea26, ?_⟩
        intro x27 ex27
        have r_x27 : (0 : Int32) ≤ x27 ∧ x27 ≤ (224 : Int32) := by rw [ex27]; exact nu 8 rfl hI o_v0
        have q_x27 : x27 = x22 := ex27.trans d_x22.symm
        have d_x27 := ex27
        refine ⟨o_a26, ?_⟩
        have i28 : vp_in x27 (hN _ a26) := (vin l_a26 (m := 224) (by decide) (q393 c2 r_x3 c4 r_x5 q_x5 c6 r_x8 q_x8 ex9 r_x13 q_x13 r_x18 q_x18 r_x22 q_x22 r_x27 q_x27))
        refine ⟨i28, ?_⟩
        intro S29 eS29
        have hI : IV S29 := by rw [eS29]; exact iv_aI hI o_v0 (by decide) ea26 o_a26 (by decide)
        have f0 := fr_A eS29 g0 f0 o_a26 (by decide)
        have d_x1 := rd_Ik eS29 o_a26 o_v0 (by decide) d_x1
        have d_x27 := rd_Ik eS29 o_a26 o_v0 (by decide) d_x27
        have ea7 := rf_I eS29 ea7
        have ea12 := rf_I eS29 ea12
        have ea17 := rf_I eS29 ea17
        have ea21 := rf_I eS29 ea21
        have ea26 := rf_I eS29 ea26
        have hM := wm_I eS29 hM
        have l_a12 := ln_I eS29 l_a12
        have l_a17 := ln_I eS29 l_a17
        have l_a21 := ln_I eS29 l_a21
        have l_a26 := ln_I eS29 l_a26
        have l_a7 := ln_I eS29 l_a7
        have g0 := gr_I eS29 g0
        have o_a12 := ob_I eS29 o_a12
        have o_a17 := ob_I eS29 o_a17
        have o_a21 := ob_I eS29 o_a21
        have o_a26 := ob_I eS29 o_a26
        have o_a7 := ob_I eS29 o_a7
        have o_v0 := ob_I eS29 o_v0
        intro x30 ex30
        have r_x30 : (0 : Int32) ≤ x30 ∧ x30 ≤ (224 : Int32) := by rw [ex30]; exact nu 8 rfl hI o_v0
        have q_x30 : x30 = x27 := ex30.trans d_x27.symm
        have d_x30 := ex30
        intro x31 ex31
        intro S32 eS32
        have hI : IV S32 := by rw [eS32]; exact iv_sI hI o_v0 (by decide) (nu_one (lo := (0 : Int32)) (hi := (224 : Int32)) (by decide) (q394 c2 r_x3 c4 r_x5 q_x5 c6 r_x8 q_x8 ex9 r_x13 q_x13 r_x18 q_x18 r_x22 q_x22 r_x27 q_x27 r_x30 q_x30 ex31))
        have f0 := fr_I eS32 g0 f0 o_v0 (by decide)
        have d_x1 := rd_Ij eS32 (by decide) d_x1
        have d_x31 := rd_Is eS32 (rfl : x31 = x31)
        have ea7 := rf_I eS32 ea7
        have ea12 := rf_I eS32 ea12
        have ea17 := rf_I eS32 ea17
        have ea21 := rf_I eS32 ea21
        have ea26 := rf_I eS32 ea26
        have hM := wm_I eS32 hM
        have l_a12 := ln_I eS32 l_a12
        have l_a17 := ln_I eS32 l_a17
        have l_a21 := ln_I eS32 l_a21
        have l_a26 := ln_I eS32 l_a26
        have l_a7 := ln_I eS32 l_a7
        have g0 := gr_I eS32 g0
        have o_a12 := ob_I eS32 o_a12
        have o_a17 := ob_I eS32 o_a17
        have o_a21 := ob_I eS32 o_a21
        have o_a26 := ob_I eS32 o_a26
        have o_a7 := ob_I eS32 o_a7
        have o_v0 := ob_I eS32 o_v0
        exact hq _ hI g0 f0 hM
      · exact hq _ hI g0 f0 hM
