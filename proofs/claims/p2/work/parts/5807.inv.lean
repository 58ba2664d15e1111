set_option maxHeartbeats 4000000 in
set_option maxRecDepth 20000 in
theorem m_X11_readWorld {v0 : Nat} {Q : HS → Prop} {S : HS} (hI : IV S) (o_v0 : ob S v0 11)    (hG : RG S v0) (hn : RN S v0) (hO : fI S v0 9 = 5 → 0 < fI S v0 13) (hq : ∀ (T : HS), IV T → Gr S T → FRI [(10, 0), (11, 8), (11, 9), (11, 10), (11, 11), (11, 12), (11, 13), (11, 14)] [] S T → (RG T v0) ∧ (RN T v0) ∧ (fI T v0 9 = 5 → 0 < fI T v0 13) ∧ (fI T v0 9 = 5 ∨ ¬ fI S v0 9 = 5) ∧ (fI S v0 8 ≤ fI T v0 8 ∧ (fI T v0 9 = 4 → fI S v0 8 < fI T v0 8 ∨ fI S v0 9 = 4)) → Q T) : P_X11_readWorld v0 Q S := by
  have g0 := gr_rf S
  have f0 := fri_rf [(10, 0), (11, 8), (11, 9), (11, 10), (11, 11), (11, 12), (11, 13), (11, 14)] [] S
  obtain ⟨kv1, d_kv1⟩ : ∃ z : Int32, z = fI S v0 8 := ⟨_, rfl⟩
  have r_kv1 : (0 : Int32) ≤ kv1 ∧ kv1 ≤ (900 : Int32) := by rw [d_kv1]; exact nu 25 rfl hI o_v0
  have di_8 := d_kv1
  obtain ⟨kv2, d_kv2⟩ : ∃ z : Int32, z = fI S v0 9 := ⟨_, rfl⟩
  have di_9 := d_kv2
  obtain ⟨kv3, d_kv3⟩ : ∃ z : Int32, z = fI S v0 13 := ⟨_, rfl⟩
  have di_13 := d_kv3
  have hO : kv2 = 5 → 0 < kv3 := by rw [d_kv2, d_kv3]; exact hO
  obtain ⟨a4, ea4, o_a4, -⟩ := id hG
  obtain ⟨kv5, d_kv5⟩ : ∃ z : Int32, z = fI S a4 6 := ⟨_, rfl⟩
  have r_kv5 : (0 : Int32) ≤ kv5 ∧ kv5 ≤ (12 : Int32) := by rw [d_kv5]; exact nu 22 rfl hI o_a4
  obtain ⟨kv6, d_kv6⟩ : ∃ z : Int32, z = fI S a4 2 := ⟨_, rfl⟩
  have r_kv6 : (0 : Int32) ≤ kv6 ∧ kv6 ≤ (8 : Int32) := by rw [d_kv6]; exact nu 18 rfl hI o_a4
  obtain ⟨kv7, d_kv7⟩ : ∃ z : Int32, z = fI S a4 4 := ⟨_, rfl⟩
  have r_kv7 : (0 : Int32) ≤ kv7 ∧ kv7 ≤ (4 : Int32) := by rw [d_kv7]; exact nu 20 rfl hI o_a4
  have hnf : kv5 = kv6 + kv7 := by rw [d_kv5, d_kv6, d_kv7]; exact hn _ ea4
  refine u_X11_readWorld ?_
  refine u_X11_readWorld_0 ?_
  refine ⟨o_v0, ?_⟩
  refine ⟨a4, ea4, ?_⟩
  refine ⟨o_a4, ?_⟩
  intro x9 ex9
  have r_x9 : (0 : Int32) ≤ x9 ∧ x9 ≤ (60 : Int32) := by rw [ex9]; exact nu 16 rfl hI o_a4
  have d_x9 := ex9
  refine ⟨fun c10 => ?_, fun c10 => ?_⟩
  · refine u_X11_readWorld_15 ?_
    refine ⟨o_v0, ?_⟩
    have do10_kv1 := d_kv1
    have do10_kv2 := d_kv2
    have do10_kv3 := d_kv3
    refine m_X11_goesOn hI o_v0 hG (by have t : kv2 = 5 → 0 < kv3 := (qr62 hO r_x9 c10); rw [d_kv2, d_kv3] at t; exact t) (fun S12 hJ g13 fc14 p_S12 => ?_)
    obtain ⟨hG, pg0_S12, pg1_S12, pg2_S12⟩ := p_S12
    have hn := rn_fr fc14 g13 hI o_v0 (by decide) hn
    have hI := hJ
    have d_kv3 := d_kv3.trans (fri_at fc14 (by decide) (by decide) o_v0).symm
    have d_kv5 := d_kv5.trans (fri_at fc14 (by decide) (by decide) o_a4).symm
    have d_kv6 := d_kv6.trans (fri_at fc14 (by decide) (by decide) o_a4).symm
    have d_kv7 := d_kv7.trans (fri_at fc14 (by decide) (by decide) o_a4).symm
    have d_x9 := d_x9.trans (fri_at fc14 (by decide) (by decide) o_a4).symm
    have ea4 := (frr_at fc14 (by decide) (by decide) o_v0).trans ea4
    have f0 := fri_tr (S := S) g0 f0 fc14 (by decide) (by decide)
    have o_a4 := gr_ob g13 o_a4
    have o_v0 := gr_ob g13 o_v0
    have g0 := gr_tr (T := S) g0 g13
    obtain ⟨kv15, d_kv15⟩ : ∃ z : Int32, z = fI S12 v0 9 := ⟨_, rfl⟩
    have ph0_S12 : kv15 = 5 → 0 < kv3 := by rw [d_kv15, d_kv3]; exact pg0_S12
    have ph1_S12 : kv15 = 5 ∨ ¬ kv2 = 5 := by rw [do10_kv2, d_kv15]; exact pg1_S12
    obtain ⟨kv16, d_kv16⟩ : ∃ z : Int32, z = fI S12 v0 8 := ⟨_, rfl⟩
    have r_kv16 : (0 : Int32) ≤ kv16 ∧ kv16 ≤ (900 : Int32) := by rw [d_kv16]; exact nu 25 rfl hI o_v0
    have ph2_S12 : kv1 ≤ kv16 ∧ (kv15 = 4 → kv1 < kv16 ∨ kv2 = 4) := by rw [do10_kv1, do10_kv2, d_kv16, d_kv15]; exact pg2_S12
    intro _
    have do16_kv16 := d_kv16
    have do16_kv15 := d_kv15
    have do16_kv3 := d_kv3
    refine m_X11_readPart hI o_v0 (by decide) hG (by have t : kv15 = 5 → 0 < kv3 := (qr63 hO r_x9 c10 ph0_S12 ph1_S12); rw [d_kv15, d_kv3] at t; exact t) (fun x17 S18 hJ g19 fc20 p_x17 => ?_)
    obtain ⟨hG, p_x17, pg0_S18, pg1_S18, pg2_S18⟩ := p_x17
    have hn := rn_fr fc20 g19 hI o_v0 (by decide) hn
    have hI := hJ
    have d_kv5 := d_kv5.trans (fri_at fc20 (by decide) (by decide) o_a4).symm
    have d_kv6 := d_kv6.trans (fri_at fc20 (by decide) (by decide) o_a4).symm
    have d_kv7 := d_kv7.trans (fri_at fc20 (by decide) (by decide) o_a4).symm
    have d_x9 := d_x9.trans (fri_at fc20 (by decide) (by decide) o_a4).symm
    have ea4 := (frr_at fc20 (by decide) (by decide) o_v0).trans ea4
    have f0 := fri_tr (S := S12) g0 f0 fc20 (by decide) (by decide)
    have o_a4 := gr_ob g19 o_a4
    have o_v0 := gr_ob g19 o_v0
    have g0 := gr_tr (T := S12) g0 g19
    obtain ⟨kv21, d_kv21⟩ : ∃ z : Int32, z = fI S18 v0 9 := ⟨_, rfl⟩
    obtain ⟨kv22, d_kv22⟩ : ∃ z : Int32, z = fI S18 v0 13 := ⟨_, rfl⟩
    have ph0_S18 : kv21 = 5 → 0 < kv22 := by rw [d_kv21, d_kv22]; exact pg0_S18
    have ph1_S18 : kv21 = 5 ∨ ¬ kv15 = 5 := by rw [do16_kv15, d_kv21]; exact pg1_S18
    obtain ⟨kv23, d_kv23⟩ : ∃ z : Int32, z = fI S18 v0 8 := ⟨_, rfl⟩
    have r_kv23 : (0 : Int32) ≤ kv23 ∧ kv23 ≤ (900 : Int32) := by rw [d_kv23]; exact nu 25 rfl hI o_v0
    have ph2_S18 : kv16 ≤ kv23 ∧ (kv21 = 4 → kv16 < kv23 ∨ kv15 = 4) := by rw [do16_kv16, do16_kv15, d_kv23, d_kv21]; exact pg2_S18
    intro _
    intro x24 ex24
    have q_x24 : x24 = kv21 := ex24.trans d_kv21.symm
    have d_x24 := ex24
    refine ⟨fun c25 => ?_, fun c25 => ?_⟩
    · exact hq _ hI g0 f0 ⟨hG, hn, (by have t : x24 = 5 → 0 < kv22 := (qr64 hO r_x9 c10 ph0_S12 ph1_S12 ph0_S18 ph1_S18 q_x24 c25); rw [d_x24, d_kv22] at t; exact t), (by have t : x24 = 5 ∨ ¬ kv2 = 5 := (qr65 r_x9 c10 ph1_S12 ph1_S18 q_x24 c25); rw [di_9, d_x24] at t; exact t), (by have t : kv1 ≤ kv23 ∧ (x24 = 4 → kv1 < kv23 ∨ kv2 = 4) := (qr66 r_kv1 r_x9 c10 ph1_S12 r_kv16 ph2_S12 ph1_S18 r_kv23 ph2_S18 q_x24 c25); rw [di_8, di_9, d_kv23, d_x24] at t; exact t)⟩
    · refine ⟨a4, ea4, ?_⟩
      refine ⟨o_a4, ?_⟩
      intro S27 eS27
      have hIn : IV S27 := by rw [eS27]; exact iv10_sI hI o_a4 (rg_nw hG ea4) (nu_one (lo := (0 : Int32)) (hi := (60 : Int32)) (by decide) (qr67 r_x9 c10 ph1_S12 ph1_S18 p_x17 q_x24 c25))
      have hG := rg_c eS27 hI ea4 o_a4 (by decide) hG
      have hn := rn_c eS27 (by decide) hn
      have hI := hIn
      have f0 := fr_I eS27 g0 f0 o_a4 (by decide)
      have d_kv5 := rd_Ij eS27 (by decide) d_kv5
      have d_kv6 := rd_Ij eS27 (by decide) d_kv6
      have d_kv7 := rd_Ij eS27 (by decide) d_kv7
      have d_x24 := rd_Ik eS27 o_a4 o_v0 (by decide) d_x24
      have d_kv22 := rd_Ik eS27 o_a4 o_v0 (by decide) d_kv22
      have d_kv23 := rd_Ik eS27 o_a4 o_v0 (by decide) d_kv23
      have d_x17 := rd_Is eS27 (rfl : x17 = x17)
      have ea4 := rf_I eS27 ea4
      have g0 := gr_I eS27 g0
      have o_a4 := ob_I eS27 o_a4
      have o_v0 := ob_I eS27 o_v0
      exact hq _ hI g0 f0 ⟨hG, hn, (by have t : x24 = 5 → 0 < kv22 := (qr68 hO r_x9 c10 ph0_S12 ph1_S12 ph0_S18 ph1_S18 q_x24 c25); rw [d_x24, d_kv22] at t; exact t), (by have t : x24 = 5 ∨ ¬ kv2 = 5 := (qr69 r_x9 c10 ph1_S12 ph1_S18 q_x24 c25); rw [di_9, d_x24] at t; exact t), (by have t : kv1 ≤ kv23 ∧ (x24 = 4 → kv1 < kv23 ∨ kv2 = 4) := (qr70 r_kv1 r_x9 c10 ph1_S12 r_kv16 ph2_S12 ph1_S18 r_kv23 ph2_S18 q_x24 c25); rw [di_8, di_9, d_kv23, d_x24] at t; exact t)⟩
  · have do27_kv1 := d_kv1
    have do27_kv2 := d_kv2
    have do27_kv3 := d_kv3
    refine m_X11_flaw hI o_v0 (qr71 r_x9 c10) hG (by have t : kv2 = 5 → 0 < kv3 := (qr72 hO r_x9 c10); rw [d_kv2, d_kv3] at t; exact t) (fun S29 hJ g30 fc31 p_S29 => ?_)
    obtain ⟨hG, pg0_S29, pg1_S29, pg2_S29, pg3_S29⟩ := p_S29
    have hn := rn_fr fc31 g30 hI o_v0 (by decide) hn
    have hI := hJ
    have d_kv1 := d_kv1.trans (fri_at fc31 (by decide) (by decide) o_v0).symm
    have d_kv5 := d_kv5.trans (fri_at fc31 (by decide) (by decide) o_a4).symm
    have d_kv6 := d_kv6.trans (fri_at fc31 (by decide) (by decide) o_a4).symm
    have d_kv7 := d_kv7.trans (fri_at fc31 (by decide) (by decide) o_a4).symm
    have d_x9 := d_x9.trans (fri_at fc31 (by decide) (by decide) o_a4).symm
    have ea4 := (frr_at fc31 (by decide) (by decide) o_v0).trans ea4
    have f0 := fri_tr (S := S) g0 f0 fc31 (by decide) (by decide)
    have o_a4 := gr_ob g30 o_a4
    have o_v0 := gr_ob g30 o_v0
    have g0 := gr_tr (T := S) g0 g30
    obtain ⟨kv32, d_kv32⟩ : ∃ z : Int32, z = fI S29 v0 9 := ⟨_, rfl⟩
    obtain ⟨kv33, d_kv33⟩ : ∃ z : Int32, z = fI S29 v0 13 := ⟨_, rfl⟩
    have ph0_S29 : kv32 = 5 → 0 < kv33 := by rw [d_kv32, d_kv33]; exact pg0_S29
    have ph1_S29 : kv32 = 5 ∨ ¬ kv2 = 5 := by rw [do27_kv2, d_kv32]; exact pg1_S29
    have ph2_S29 : kv1 ≤ kv1 ∧ (kv32 = 4 → kv1 < kv1 ∨ kv2 = 4) := by rw [d_kv1, do27_kv2, d_kv32]; exact pg2_S29
    have ph3_S29 : kv32 = 5 := by rw [d_kv32]; exact pg3_S29
    intro _
    refine u_X11_readWorld_15 ?_
    refine ⟨o_v0, ?_⟩
    have do33_kv1 := d_kv1
    have do33_kv32 := d_kv32
    have do33_kv33 := d_kv33
    refine m_X11_goesOn hI o_v0 hG (by have t : kv32 = 5 → 0 < kv33 := (qr73 hO r_x9 c10 ph0_S29 ph1_S29 ph3_S29); rw [d_kv32, d_kv33] at t; exact t) (fun S35 hJ g36 fc37 p_S35 => ?_)
    obtain ⟨hG, pg0_S35, pg1_S35, pg2_S35⟩ := p_S35
    have hn := rn_fr fc37 g36 hI o_v0 (by decide) hn
    have hI := hJ
    have d_kv5 := d_kv5.trans (fri_at fc37 (by decide) (by decide) o_a4).symm
    have d_kv6 := d_kv6.trans (fri_at fc37 (by decide) (by decide) o_a4).symm
    have d_kv7 := d_kv7.trans (fri_at fc37 (by decide) (by decide) o_a4).symm
    have d_x9 := d_x9.trans (fri_at fc37 (by decide) (by decide) o_a4).symm
    have d_kv33 := d_kv33.trans (fri_at fc37 (by decide) (by decide) o_v0).symm
    have ea4 := (frr_at fc37 (by decide) (by decide) o_v0).trans ea4
    have f0 := fri_tr (S := S29) g0 f0 fc37 (by decide) (by decide)
    have o_a4 := gr_ob g36 o_a4
    have o_v0 := gr_ob g36 o_v0
    have g0 := gr_tr (T := S29) g0 g36
    obtain ⟨kv38, d_kv38⟩ : ∃ z : Int32, z = fI S35 v0 9 := ⟨_, rfl⟩
    have ph0_S35 : kv38 = 5 → 0 < kv33 := by rw [d_kv38, d_kv33]; exact pg0_S35
    have ph1_S35 : kv38 = 5 ∨ ¬ kv32 = 5 := by rw [do33_kv32, d_kv38]; exact pg1_S35
    obtain ⟨kv39, d_kv39⟩ : ∃ z : Int32, z = fI S35 v0 8 := ⟨_, rfl⟩
    have r_kv39 : (0 : Int32) ≤ kv39 ∧ kv39 ≤ (900 : Int32) := by rw [d_kv39]; exact nu 25 rfl hI o_v0
    have ph2_S35 : kv1 ≤ kv39 ∧ (kv38 = 4 → kv1 < kv39 ∨ kv32 = 4) := by rw [do33_kv1, do33_kv32, d_kv39, d_kv38]; exact pg2_S35
    intro _
    have do39_kv39 := d_kv39
    have do39_kv38 := d_kv38
    have do39_kv33 := d_kv33
    refine m_X11_readPart hI o_v0 (by decide) hG (by have t : kv38 = 5 → 0 < kv33 := (qr74 hO r_x9 c10 ph0_S29 ph1_S29 ph3_S29 ph0_S35 ph1_S35); rw [d_kv38, d_kv33] at t; exact t) (fun x40 S41 hJ g42 fc43 p_x40 => ?_)
    obtain ⟨hG, p_x40, pg0_S41, pg1_S41, pg2_S41⟩ := p_x40
    have hn := rn_fr fc43 g42 hI o_v0 (by decide) hn
    have hI := hJ
    have d_kv5 := d_kv5.trans (fri_at fc43 (by decide) (by decide) o_a4).symm
    have d_kv6 := d_kv6.trans (fri_at fc43 (by decide) (by decide) o_a4).symm
    have d_kv7 := d_kv7.trans (fri_at fc43 (by decide) (by decide) o_a4).symm
    have d_x9 := d_x9.trans (fri_at fc43 (by decide) (by decide) o_a4).symm
    have ea4 := (frr_at fc43 (by decide) (by decide) o_v0).trans ea4
    have f0 := fri_tr (S := S35) g0 f0 fc43 (by decide) (by decide)
    have o_a4 := gr_ob g42 o_a4
    have o_v0 := gr_ob g42 o_v0
    have g0 := gr_tr (T := S35) g0 g42
    obtain ⟨kv44, d_kv44⟩ : ∃ z : Int32, z = fI S41 v0 9 := ⟨_, rfl⟩
    obtain ⟨kv45, d_kv45⟩ : ∃ z : Int32, z = fI S41 v0 13 := ⟨_, rfl⟩
    have ph0_S41 : kv44 = 5 → 0 < kv45 := by rw [d_kv44, d_kv45]; exact pg0_S41
    have ph1_S41 : kv44 = 5 ∨ ¬ kv38 = 5 := by rw [do39_kv38, d_kv44]; exact pg1_S41
    obtain ⟨kv46, d_kv46⟩ : ∃ z : Int32, z = fI S41 v0 8 := ⟨_, rfl⟩
    have r_kv46 : (0 : Int32) ≤ kv46 ∧ kv46 ≤ (900 : Int32) := by rw [d_kv46]; exact nu 25 rfl hI o_v0
    have ph2_S41 : kv39 ≤ kv46 ∧ (kv44 = 4 → kv39 < kv46 ∨ kv38 = 4) := by rw [do39_kv39, do39_kv38, d_kv46, d_kv44]; exact pg2_S41
    intro _
    intro x47 ex47
    have q_x47 : x47 = kv44 := ex47.trans d_kv44.symm
    have d_x47 := ex47
    refine ⟨fun c48 => ?_, fun c48 => ?_⟩
    · exact hq _ hI g0 f0 ⟨hG, hn, (by have t : x47 = 5 → 0 < kv45 := (qr75 hO r_x9 c10 ph0_S29 ph1_S29 ph3_S29 ph0_S35 ph1_S35 ph0_S41 ph1_S41 q_x47 c48); rw [d_x47, d_kv45] at t; exact t), (by have t : x47 = 5 ∨ ¬ kv2 = 5 := (qr76 r_x9 c10 ph1_S29 ph3_S29 ph1_S35 ph1_S41 q_x47 c48); rw [di_9, d_x47] at t; exact t), (by have t : kv1 ≤ kv46 ∧ (x47 = 4 → kv1 < kv46 ∨ kv2 = 4) := (qr77 r_kv1 r_x9 c10 ph1_S29 ph2_S29 ph3_S29 ph1_S35 r_kv39 ph2_S35 ph1_S41 r_kv46 ph2_S41 q_x47 c48); rw [di_8, di_9, d_kv46, d_x47] at t; exact t)⟩
    · refine ⟨a4, ea4, ?_⟩
      refine ⟨o_a4, ?_⟩
      intro S50 eS50
      have hIn : IV S50 := by rw [eS50]; exact iv10_sI hI o_a4 (rg_nw hG ea4) (nu_one (lo := (0 : Int32)) (hi := (60 : Int32)) (by decide) (qr78 r_x9 c10 ph1_S29 ph3_S29 ph1_S35 ph1_S41 p_x40 q_x47 c48))
      have hG := rg_c eS50 hI ea4 o_a4 (by decide) hG
      have hn := rn_c eS50 (by decide) hn
      have hI := hIn
      have f0 := fr_I eS50 g0 f0 o_a4 (by decide)
      have d_kv5 := rd_Ij eS50 (by decide) d_kv5
      have d_kv6 := rd_Ij eS50 (by decide) d_kv6
      have d_kv7 := rd_Ij eS50 (by decide) d_kv7
      have d_x47 := rd_Ik eS50 o_a4 o_v0 (by decide) d_x47
      have d_kv45 := rd_Ik eS50 o_a4 o_v0 (by decide) d_kv45
      have d_kv46 := rd_Ik eS50 o_a4 o_v0 (by decide) d_kv46
      have d_x40 := rd_Is eS50 (rfl : x40 = x40)
      have ea4 := rf_I eS50 ea4
      have g0 := gr_I eS50 g0
      have o_a4 := ob_I eS50 o_a4
      have o_v0 := ob_I eS50 o_v0
      exact hq _ hI g0 f0 ⟨hG, hn, (by have t : x47 = 5 → 0 < kv45 := (qr79 hO r_x9 c10 ph0_S29 ph1_S29 ph3_S29 ph0_S35 ph1_S35 ph0_S41 ph1_S41 q_x47 c48); rw [d_x47, d_kv45] at t; exact t), (by have t : x47 = 5 ∨ ¬ kv2 = 5 := (qr80 r_x9 c10 ph1_S29 ph3_S29 ph1_S35 ph1_S41 q_x47 c48); rw [di_9, d_x47] at t; exact t), (by have t : kv1 ≤ kv46 ∧ (x47 = 4 → kv1 < kv46 ∨ kv2 = 4) := (qr81 r_kv1 r_x9 c10 ph1_S29 ph2_S29 ph3_S29 ph1_S35 r_kv39 ph2_S35 ph1_S41 r_kv46 ph2_S41 q_x47 c48); rw [di_8, di_9, d_kv46, d_x47] at t; exact t)⟩
set_option maxHeartbeats 4000000 in
set_option maxRecDepth 20000 in
theorem m_X11_readLine {v0 : Nat} {Q : HS → Prop} {S : HS} (hI : IV S) (o_v0 : ob S v0 11)    (hG : RG S v0) (hn : RN S v0) (hO : fI S v0 9 = 5 → 0 < fI S v0 13) (hq : ∀ (T : HS), IV T → Gr S T → FRI [(10, 0), (10, 1), (10, 2), (10, 3), (10, 4), (10, 5), (10, 6), (11, 8), (11, 9), (11, 10), (11, 11), (11, 12), (11, 13), (11, 14)] [] S T → (RG T v0) ∧ (RN T v0) ∧ (fI T v0 9 = 5 → 0 < fI T v0 13) ∧ (fI S v0 8 ≤ fI T v0 8 ∧ (fI T v0 9 = 4 → fI S v0 8 < fI T v0 8)) → Q T) : P_X11_readLine v0 Q S := by
  have g0 := gr_rf S
  have f0 := fri_rf [(10, 0), (10, 1), (10, 2), (10, 3), (10, 4), (10, 5), (10, 6), (11, 8), (11, 9), (11, 10), (11, 11), (11, 12), (11, 13), (11, 14)] [] S
  obtain ⟨kv1, d_kv1⟩ : ∃ z : Int32, z = fI S v0 8 := ⟨_, rfl⟩
  have r_kv1 : (0 : Int32) ≤ kv1 ∧ kv1 ≤ (900 : Int32) := by rw [d_kv1]; exact nu 25 rfl hI o_v0
  have di_8 := d_kv1
  obtain ⟨kv2, d_kv2⟩ : ∃ z : Int32, z = fI S v0 9 := ⟨_, rfl⟩
  have di_9 := d_kv2
  obtain ⟨kv3, d_kv3⟩ : ∃ z : Int32, z = fI S v0 13 := ⟨_, rfl⟩
  have di_13 := d_kv3
  have hO : kv2 = 5 → 0 < kv3 := by rw [d_kv2, d_kv3]; exact hO
  refine u_X11_readLine ?_
  refine u_X11_readLine_0 ?_
  refine ⟨o_v0, ?_⟩
  refine m_X11_isWord hI o_v0 (by decide) (fun x4 S5 hI2 g6 b_x4 p_x4 => ?_)
  obtain ⟨z_S5, p_x4⟩ := p_x4
  subst z_S5
  intro _ _
  have bb_x4 : x4 = 0 ∨ x4 = 1 := b_x4
  have iw_x4 : x4 = 0 ∨ kv2 = 2 := by rw [d_kv2]; exact p_x4
  refine ⟨fun c8 => ?_, fun c8 => ?_⟩
  · refine m_X11_isWord hI o_v0 (by decide) (fun x9 S10 hI2 g11 b_x9 p_x9 => ?_)
    obtain ⟨z_S10, p_x9⟩ := p_x9
    subst z_S10
    intro _ _
    have bb_x9 : x9 = 0 ∨ x9 = 1 := b_x9
    have iw_x9 : x9 = 0 ∨ kv2 = 2 := by rw [d_kv2]; exact p_x9
    refine ⟨fun c13 => ?_, fun c13 => ?_⟩
    · refine m_X11_isWord hI o_v0 (by decide) (fun x14 S15 hI2 g16 b_x14 p_x14 => ?_)
      obtain ⟨z_S15, p_x14⟩ := p_x14
      subst z_S15
      intro _ _
      have bb_x14 : x14 = 0 ∨ x14 = 1 := b_x14
      have iw_x14 : x14 = 0 ∨ kv2 = 2 := by rw [d_kv2]; exact p_x14
      refine ⟨fun c18 => ?_, fun c18 => ?_⟩
      · refine m_X11_isWord hI o_v0 (by decide) (fun x19 S20 hI2 g21 b_x19 p_x19 => ?_)
        obtain ⟨z_S20, p_x19⟩ := p_x19
        subst z_S20
        intro _ _
        have bb_x19 : x19 = 0 ∨ x19 = 1 := b_x19
        have iw_x19 : x19 = 0 ∨ kv2 = 2 := by rw [d_kv2]; exact p_x19
        refine ⟨fun c23 => ?_, fun c23 => ?_⟩
        · refine m_X11_isWord hI o_v0 (by decide) (fun x24 S25 hI2 g26 b_x24 p_x24 => ?_)
          obtain ⟨z_S25, p_x24⟩ := p_x24
          subst z_S25
          intro _ _
          have bb_x24 : x24 = 0 ∨ x24 = 1 := b_x24
          have iw_x24 : x24 = 0 ∨ kv2 = 2 := by rw [d_kv2]; exact p_x24
          refine ⟨fun c28 => ?_, fun c28 => ?_⟩
          · refine m_X11_isWord hI o_v0 (by decide) (fun x29 S30 hI2 g31 b_x29 p_x29 => ?_)
            obtain ⟨z_S30, p_x29⟩ := p_x29
            subst z_S30
            intro _ _
            have bb_x29 : x29 = 0 ∨ x29 = 1 := b_x29
            have iw_x29 : x29 = 0 ∨ kv2 = 2 := by rw [d_kv2]; exact p_x29
            refine ⟨fun c33 => ?_, fun c33 => ?_⟩
            · have do33_kv1 := d_kv1
              have do33_kv2 := d_kv2
              have do33_kv3 := d_kv3
              refine m_X11_flaw hI o_v0 (qr40 bb_x4 iw_x4 c8 bb_x9 iw_x9 c13 bb_x14 iw_x14 c18 bb_x19 iw_x19 c23 bb_x24 iw_x24 c28 bb_x29 iw_x29 c33) hG (by have t : kv2 = 5 → 0 < kv3 := (qr41 hO bb_x4 iw_x4 c8 bb_x9 iw_x9 c13 bb_x14 iw_x14 c18 bb_x19 iw_x19 c23 bb_x24 iw_x24 c28 bb_x29 iw_x29 c33); rw [d_kv2, d_kv3] at t; exact t) (fun S35 hJ g36 fc37 p_S35 => ?_)
              obtain ⟨hG, pg0_S35, pg1_S35, pg2_S35, pg3_S35⟩ := p_S35
              have hn := rn_fr fc37 g36 hI o_v0 (by decide) hn
              have hI := hJ
              have d_kv1 := d_kv1.trans (fri_at fc37 (by decide) (by decide) o_v0).symm
              have f0 := fri_tr (S := S) g0 f0 fc37 (by decide) (by decide)
              have o_v0 := gr_ob g36 o_v0
              have g0 := gr_tr (T := S) g0 g36
              obtain ⟨kv38, d_kv38⟩ : ∃ z : Int32, z = fI S35 v0 9 := ⟨_, rfl⟩
              obtain ⟨kv39, d_kv39⟩ : ∃ z : Int32, z = fI S35 v0 13 := ⟨_, rfl⟩
              have ph0_S35 : kv38 = 5 → 0 < kv39 := by rw [d_kv38, d_kv39]; exact pg0_S35
              have ph1_S35 : kv38 = 5 ∨ ¬ kv2 = 5 := by rw [do33_kv2, d_kv38]; exact pg1_S35
              have ph2_S35 : kv1 ≤ kv1 ∧ (kv38 = 4 → kv1 < kv1 ∨ kv2 = 4) := by rw [d_kv1, do33_kv2, d_kv38]; exact pg2_S35
              have ph3_S35 : kv38 = 5 := by rw [d_kv38]; exact pg3_S35
              intro _
              exact hq _ hI g0 f0 ⟨hG, hn, (by have t : kv38 = 5 → 0 < kv39 := (qr42 hO bb_x4 iw_x4 c8 bb_x9 iw_x9 c13 bb_x14 iw_x14 c18 bb_x19 iw_x19 c23 bb_x24 iw_x24 c28 bb_x29 iw_x29 c33 ph0_S35 ph1_S35 ph3_S35); rw [d_kv38, d_kv39] at t; exact t), (by have t : kv1 ≤ kv1 ∧ (kv38 = 4 → kv1 < kv1) := (qr43 r_kv1 bb_x4 iw_x4 c8 bb_x9 iw_x9 c13 bb_x14 iw_x14 c18 bb_x19 iw_x19 c23 bb_x24 iw_x24 c28 bb_x29 iw_x29 c33 ph1_S35 ph2_S35 ph3_S35); rw [d_kv1, d_kv38] at t; exact t)⟩
            · have do39_kv1 := d_kv1
              have do39_kv2 := d_kv2
              have do39_kv3 := d_kv3
              refine m_X11_readSeen hI o_v0 hG hn (by have t : kv2 = 5 → 0 < kv3 := (qr44 hO bb_x4 iw_x4 c8 bb_x9 iw_x9 c13 bb_x14 iw_x14 c18 bb_x19 iw_x19 c23 bb_x24 iw_x24 c28 bb_x29 iw_x29 c33); rw [d_kv2, d_kv3] at t; exact t) (fun S41 hJ g42 fc43 p_S41 => ?_)
              obtain ⟨hG, hn, pg0_S41, pg1_S41, pg2_S41⟩ := p_S41
              have hI := hJ
              have f0 := fri_tr (S := S) g0 f0 fc43 (by decide) (by decide)
              have o_v0 := gr_ob g42 o_v0
              have g0 := gr_tr (T := S) g0 g42
              obtain ⟨kv44, d_kv44⟩ : ∃ z : Int32, z = fI S41 v0 9 := ⟨_, rfl⟩
              obtain ⟨kv45, d_kv45⟩ : ∃ z : Int32, z = fI S41 v0 13 := ⟨_, rfl⟩
              have ph0_S41 : kv44 = 5 → 0 < kv45 := by rw [d_kv44, d_kv45]; exact pg0_S41
              have ph1_S41 : kv44 = 5 ∨ ¬ kv2 = 5 := by rw [do39_kv2, d_kv44]; exact pg1_S41
              obtain ⟨kv46, d_kv46⟩ : ∃ z : Int32, z = fI S41 v0 8 := ⟨_, rfl⟩
              have r_kv46 : (0 : Int32) ≤ kv46 ∧ kv46 ≤ (900 : Int32) := by rw [d_kv46]; exact nu 25 rfl hI o_v0
              have ph2_S41 : kv1 ≤ kv46 ∧ (kv44 = 4 → kv1 < kv46 ∨ kv2 = 4) := by rw [do39_kv1, do39_kv2, d_kv46, d_kv44]; exact pg2_S41
              intro _
              exact hq _ hI g0 f0 ⟨hG, hn, (by have t : kv44 = 5 → 0 < kv45 := (qr45 hO bb_x4 iw_x4 c8 bb_x9 iw_x9 c13 bb_x14 iw_x14 c18 bb_x19 iw_x19 c23 bb_x24 iw_x24 c28 bb_x29 iw_x29 c33 ph0_S41 ph1_S41); rw [d_kv44, d_kv45] at t; exact t), (by have t : kv1 ≤ kv46 ∧ (kv44 = 4 → kv1 < kv46) := (qr46 r_kv1 bb_x4 iw_x4 c8 bb_x9 iw_x9 c13 bb_x14 iw_x14 c18 bb_x19 iw_x19 c23 bb_x24 iw_x24 c28 bb_x29 iw_x29 c33 ph1_S41 r_kv46 ph2_S41); rw [di_8, d_kv46, d_kv44] at t; exact t)⟩
          · have do46_kv1 := d_kv1
            have do46_kv2 := d_kv2
            have do46_kv3 := d_kv3
            refine m_X11_readWalker hI o_v0 hG hn (by have t : kv2 = 5 → 0 < kv3 := (qr47 hO bb_x4 iw_x4 c8 bb_x9 iw_x9 c13 bb_x14 iw_x14 c18 bb_x19 iw_x19 c23 bb_x24 iw_x24 c28); rw [d_kv2, d_kv3] at t; exact t) (fun S48 hJ g49 fc50 p_S48 => ?_)
            obtain ⟨hG, hn, pg0_S48, pg1_S48, pg2_S48⟩ := p_S48
            have hI := hJ
            have f0 := fri_tr (S := S) g0 f0 fc50 (by decide) (by decide)
            have o_v0 := gr_ob g49 o_v0
            have g0 := gr_tr (T := S) g0 g49
            obtain ⟨kv51, d_kv51⟩ : ∃ z : Int32, z = fI S48 v0 9 := ⟨_, rfl⟩
            obtain ⟨kv52, d_kv52⟩ : ∃ z : Int32, z = fI S48 v0 13 := ⟨_, rfl⟩
            have ph0_S48 : kv51 = 5 → 0 < kv52 := by rw [d_kv51, d_kv52]; exact pg0_S48
            have ph1_S48 : kv51 = 5 ∨ ¬ kv2 = 5 := by rw [do46_kv2, d_kv51]; exact pg1_S48
            obtain ⟨kv53, d_kv53⟩ : ∃ z : Int32, z = fI S48 v0 8 := ⟨_, rfl⟩
            have r_kv53 : (0 : Int32) ≤ kv53 ∧ kv53 ≤ (900 : Int32) := by rw [d_kv53]; exact nu 25 rfl hI o_v0
            have ph2_S48 : kv1 ≤ kv53 ∧ (kv51 = 4 → kv1 < kv53 ∨ kv2 = 4) := by rw [do46_kv1, do46_kv2, d_kv53, d_kv51]; exact pg2_S48
            intro _
            exact hq _ hI g0 f0 ⟨hG, hn, (by have t : kv51 = 5 → 0 < kv52 := (qr48 hO bb_x4 iw_x4 c8 bb_x9 iw_x9 c13 bb_x14 iw_x14 c18 bb_x19 iw_x19 c23 bb_x24 iw_x24 c28 ph0_S48 ph1_S48); rw [d_kv51, d_kv52] at t; exact t), (by have t : kv1 ≤ kv53 ∧ (kv51 = 4 → kv1 < kv53) := (qr49 r_kv1 bb_x4 iw_x4 c8 bb_x9 iw_x9 c13 bb_x14 iw_x14 c18 bb_x19 iw_x19 c23 bb_x24 iw_x24 c28 ph1_S48 r_kv53 ph2_S48); rw [di_8, d_kv53, d_kv51] at t; exact t)⟩
        · have do53_kv1 := d_kv1
          have do53_kv2 := d_kv2
          have do53_kv3 := d_kv3
          refine m_X11_readRoad hI o_v0 hG hn (by have t : kv2 = 5 → 0 < kv3 := (qr50 hO bb_x4 iw_x4 c8 bb_x9 iw_x9 c13 bb_x14 iw_x14 c18 bb_x19 iw_x19 c23); rw [d_kv2, d_kv3] at t; exact t) (fun S55 hJ g56 fc57 p_S55 => ?_)
          obtain ⟨hG, hn, pg0_S55, pg1_S55, pg2_S55⟩ := p_S55
          have hI := hJ
          have f0 := fri_tr (S := S) g0 f0 fc57 (by decide) (by decide)
          have o_v0 := gr_ob g56 o_v0
          have g0 := gr_tr (T := S) g0 g56
          obtain ⟨kv58, d_kv58⟩ : ∃ z : Int32, z = fI S55 v0 9 := ⟨_, rfl⟩
          obtain ⟨kv59, d_kv59⟩ : ∃ z : Int32, z = fI S55 v0 13 := ⟨_, rfl⟩
          have ph0_S55 : kv58 = 5 → 0 < kv59 := by rw [d_kv58, d_kv59]; exact pg0_S55
          have ph1_S55 : kv58 = 5 ∨ ¬ kv2 = 5 := by rw [do53_kv2, d_kv58]; exact pg1_S55
          obtain ⟨kv60, d_kv60⟩ : ∃ z : Int32, z = fI S55 v0 8 := ⟨_, rfl⟩
          have r_kv60 : (0 : Int32) ≤ kv60 ∧ kv60 ≤ (900 : Int32) := by rw [d_kv60]; exact nu 25 rfl hI o_v0
          have ph2_S55 : kv1 ≤ kv60 ∧ (kv58 = 4 → kv1 < kv60 ∨ kv2 = 4) := by rw [do53_kv1, do53_kv2, d_kv60, d_kv58]; exact pg2_S55
          intro _
          exact hq _ hI g0 f0 ⟨hG, hn, (by have t : kv58 = 5 → 0 < kv59 := (qr51 hO bb_x4 iw_x4 c8 bb_x9 iw_x9 c13 bb_x14 iw_x14 c18 bb_x19 iw_x19 c23 ph0_S55 ph1_S55); rw [d_kv58, d_kv59] at t; exact t), (by have t : kv1 ≤ kv60 ∧ (kv58 = 4 → kv1 < kv60) := (qr52 r_kv1 bb_x4 iw_x4 c8 bb_x9 iw_x9 c13 bb_x14 iw_x14 c18 bb_x19 iw_x19 c23 ph1_S55 r_kv60 ph2_S55); rw [di_8, d_kv60, d_kv58] at t; exact t)⟩
      · have do60_kv1 := d_kv1
        have do60_kv2 := d_kv2
        have do60_kv3 := d_kv3
        refine m_X11_readPlace hI o_v0 hG hn (by have t : kv2 = 5 → 0 < kv3 := (qr53 hO bb_x4 iw_x4 c8 bb_x9 iw_x9 c13 bb_x14 iw_x14 c18); rw [d_kv2, d_kv3] at t; exact t) (fun S62 hJ g63 fc64 p_S62 => ?_)
        obtain ⟨hG, hn, pg0_S62, pg1_S62, pg2_S62⟩ := p_S62
        have hI := hJ
        have f0 := fri_tr (S := S) g0 f0 fc64 (by decide) (by decide)
        have o_v0 := gr_ob g63 o_v0
        have g0 := gr_tr (T := S) g0 g63
        obtain ⟨kv65, d_kv65⟩ : ∃ z : Int32, z = fI S62 v0 9 := ⟨_, rfl⟩
        obtain ⟨kv66, d_kv66⟩ : ∃ z : Int32, z = fI S62 v0 13 := ⟨_, rfl⟩
        have ph0_S62 : kv65 = 5 → 0 < kv66 := by rw [d_kv65, d_kv66]; exact pg0_S62
        have ph1_S62 : kv65 = 5 ∨ ¬ kv2 = 5 := by rw [do60_kv2, d_kv65]; exact pg1_S62
        obtain ⟨kv67, d_kv67⟩ : ∃ z : Int32, z = fI S62 v0 8 := ⟨_, rfl⟩
        have r_kv67 : (0 : Int32) ≤ kv67 ∧ kv67 ≤ (900 : Int32) := by rw [d_kv67]; exact nu 25 rfl hI o_v0
        have ph2_S62 : kv1 ≤ kv67 ∧ (kv65 = 4 → kv1 < kv67 ∨ kv2 = 4) := by rw [do60_kv1, do60_kv2, d_kv67, d_kv65]; exact pg2_S62
        intro _
        exact hq _ hI g0 f0 ⟨hG, hn, (by have t : kv65 = 5 → 0 < kv66 := (qr54 hO bb_x4 iw_x4 c8 bb_x9 iw_x9 c13 bb_x14 iw_x14 c18 ph0_S62 ph1_S62); rw [d_kv65, d_kv66] at t; exact t), (by have t : kv1 ≤ kv67 ∧ (kv65 = 4 → kv1 < kv67) := (qr55 r_kv1 bb_x4 iw_x4 c8 bb_x9 iw_x9 c13 bb_x14 iw_x14 c18 ph1_S62 r_kv67 ph2_S62); rw [di_8, d_kv67, d_kv65] at t; exact t)⟩
    · have do67_kv1 := d_kv1
      have do67_kv2 := d_kv2
      have do67_kv3 := d_kv3
      refine m_X11_readRain hI o_v0 hG hn (by have t : kv2 = 5 → 0 < kv3 := (qr56 hO bb_x4 iw_x4 c8 bb_x9 iw_x9 c13); rw [d_kv2, d_kv3] at t; exact t) (fun S69 hJ g70 fc71 p_S69 => ?_)
      obtain ⟨hG, hn, pg0_S69, pg1_S69, pg2_S69⟩ := p_S69
      have hI := hJ
      have f0 := fri_tr (S := S) g0 f0 fc71 (by decide) (by decide)
      have o_v0 := gr_ob g70 o_v0
      have g0 := gr_tr (T := S) g0 g70
      obtain ⟨kv72, d_kv72⟩ : ∃ z : Int32, z = fI S69 v0 9 := ⟨_, rfl⟩
      obtain ⟨kv73, d_kv73⟩ : ∃ z : Int32, z = fI S69 v0 13 := ⟨_, rfl⟩
      have ph0_S69 : kv72 = 5 → 0 < kv73 := by rw [d_kv72, d_kv73]; exact pg0_S69
      have ph1_S69 : kv72 = 5 ∨ ¬ kv2 = 5 := by rw [do67_kv2, d_kv72]; exact pg1_S69
      obtain ⟨kv74, d_kv74⟩ : ∃ z : Int32, z = fI S69 v0 8 := ⟨_, rfl⟩
      have r_kv74 : (0 : Int32) ≤ kv74 ∧ kv74 ≤ (900 : Int32) := by rw [d_kv74]; exact nu 25 rfl hI o_v0
      have ph2_S69 : kv1 ≤ kv74 ∧ (kv72 = 4 → kv1 < kv74 ∨ kv2 = 4) := by rw [do67_kv1, do67_kv2, d_kv74, d_kv72]; exact pg2_S69
      intro _
      exact hq _ hI g0 f0 ⟨hG, hn, (by have t : kv72 = 5 → 0 < kv73 := (qr57 hO bb_x4 iw_x4 c8 bb_x9 iw_x9 c13 ph0_S69 ph1_S69); rw [d_kv72, d_kv73] at t; exact t), (by have t : kv1 ≤ kv74 ∧ (kv72 = 4 → kv1 < kv74) := (qr58 r_kv1 bb_x4 iw_x4 c8 bb_x9 iw_x9 c13 ph1_S69 r_kv74 ph2_S69); rw [di_8, d_kv74, d_kv72] at t; exact t)⟩
  · have do74_kv1 := d_kv1
    have do74_kv2 := d_kv2
    have do74_kv3 := d_kv3
    refine m_X11_readWorld hI o_v0 hG hn (by have t : kv2 = 5 → 0 < kv3 := (qr59 hO bb_x4 iw_x4 c8); rw [d_kv2, d_kv3] at t; exact t) (fun S76 hJ g77 fc78 p_S76 => ?_)
    obtain ⟨hG, hn, pg0_S76, pg1_S76, pg2_S76⟩ := p_S76
    have hI := hJ
    have f0 := fri_tr (S := S) g0 f0 fc78 (by decide) (by decide)
    have o_v0 := gr_ob g77 o_v0
    have g0 := gr_tr (T := S) g0 g77
    obtain ⟨kv79, d_kv79⟩ : ∃ z : Int32, z = fI S76 v0 9 := ⟨_, rfl⟩
    obtain ⟨kv80, d_kv80⟩ : ∃ z : Int32, z = fI S76 v0 13 := ⟨_, rfl⟩
    have ph0_S76 : kv79 = 5 → 0 < kv80 := by rw [d_kv79, d_kv80]; exact pg0_S76
    have ph1_S76 : kv79 = 5 ∨ ¬ kv2 = 5 := by rw [do74_kv2, d_kv79]; exact pg1_S76
    obtain ⟨kv81, d_kv81⟩ : ∃ z : Int32, z = fI S76 v0 8 := ⟨_, rfl⟩
    have r_kv81 : (0 : Int32) ≤ kv81 ∧ kv81 ≤ (900 : Int32) := by rw [d_kv81]; exact nu 25 rfl hI o_v0
    have ph2_S76 : kv1 ≤ kv81 ∧ (kv79 = 4 → kv1 < kv81 ∨ kv2 = 4) := by rw [do74_kv1, do74_kv2, d_kv81, d_kv79]; exact pg2_S76
    intro _
    exact hq _ hI g0 f0 ⟨hG, hn, (by have t : kv79 = 5 → 0 < kv80 := (qr60 hO bb_x4 iw_x4 c8 ph0_S76 ph1_S76); rw [d_kv79, d_kv80] at t; exact t), (by have t : kv1 ≤ kv81 ∧ (kv79 = 4 → kv1 < kv81) := (qr61 r_kv1 bb_x4 iw_x4 c8 ph1_S76 r_kv81 ph2_S76); rw [di_8, d_kv81, d_kv79] at t; exact t)⟩
set_option maxHeartbeats 4000000 in
set_option maxRecDepth 20000 in
theorem m_X11_readAll {v0 : Nat} {Q : HS → Prop} {S : HS} (hI : IV S) (o_v0 : ob S v0 11)    (hG : RG S v0) (hn : RN S v0) (hO : fI S v0 9 = 5 → 0 < fI S v0 13) (hq : ∀ (T : HS), IV T → Gr S T → FRI [(10, 0), (10, 1), (10, 2), (10, 3), (10, 4), (10, 5), (10, 6), (11, 8), (11, 9), (11, 10), (11, 11), (11, 12), (11, 13), (11, 14)] [] S T → (RG T v0) ∧ (RN T v0) ∧ (RA T v0) ∧ (fI T v0 9 = 5 → 0 < fI T v0 13) → Q T) : P_X11_readAll v0 Q S := by
  have g0 := gr_rf S
  have f0 := fri_rf [(10, 0), (10, 1), (10, 2), (10, 3), (10, 4), (10, 5), (10, 6), (11, 8), (11, 9), (11, 10), (11, 11), (11, 12), (11, 13), (11, 14)] [] S
  obtain ⟨kv1, d_kv1⟩ : ∃ z : Int32, z = fI S v0 9 := ⟨_, rfl⟩
  have di_9 := d_kv1
  obtain ⟨kv2, d_kv2⟩ : ∃ z : Int32, z = fI S v0 13 := ⟨_, rfl⟩
  have di_13 := d_kv2
  have hO : kv1 = 5 → 0 < kv2 := by rw [d_kv1, d_kv2]; exact hO
  refine u_X11_readAll ?_
  refine u_X11_readAll_0 ?_
  refine i_X11_readAll_2 (fun (y0 : Nat) (y1 : Int32) (Z : HS) => (2 * (901 - (fI Z v0 8).toInt) + y1.toInt).toNat) (fun (y0 : Nat) (y1 : Int32) (Z : HS) => (IV Z) ∧ (Gr S Z) ∧ (FRI [(10, 0), (10, 1), (10, 2), (10, 3), (10, 4), (10, 5), (10, 6), (11, 8), (11, 9), (11, 10), (11, 11), (11, 12), (11, 13), (11, 14)] [] S Z) ∧ (v0 = y0) ∧ (RG Z v0) ∧ (RN Z v0) ∧ (y1 = 0 ∨ y1 = 1) ∧ (fI Z v0 9 = 5 → 0 < fI Z v0 13)) ?_ _ _ _ ⟨hI, (gr_rf _), (fri_rf _ _ _), rfl, hG, hn, (qr0), (by rw [← d_kv1, ← d_kv2]; exact (qr1 hO))⟩
  intro w7 w9 S4 X10 ⟨hI, gL5, fL6, q8, hG, hn, i1u3, k5u3⟩ ih11
  subst q8
  have f0 := fri_tr (S := S) g0 f0 fL6 (by decide) (by decide)
  have o_v0 := gr_ob gL5 o_v0
  have g0 := gr_tr (T := S) g0 gL5
  obtain ⟨kv12, d_kv12⟩ : ∃ z : Int32, z = fI S4 v0 9 := ⟨_, rfl⟩
  obtain ⟨kv13, d_kv13⟩ : ∃ z : Int32, z = fI S4 v0 13 := ⟨_, rfl⟩
  have p_k5u3 : kv12 = 5 → 0 < kv13 := by rw [d_kv12, d_kv13]; exact k5u3
  obtain ⟨kv14, d_kv14⟩ : ∃ z : Int32, z = fI S4 v0 8 := ⟨_, rfl⟩
  have r_kv14 : (0 : Int32) ≤ kv14 ∧ kv14 ≤ (900 : Int32) := by rw [d_kv14]; exact nu 25 rfl hI o_v0
  have d0_kv14 := d_kv14
  refine u_X11_readAll_2 ?_
  refine ⟨fun c15 => ?_, fun c15 => ?_⟩
  · refine ⟨o_v0, ?_⟩
    intro x16 ex16
    have q_x16 : x16 = kv12 := ex16.trans d_kv12.symm
    have d_x16 := ex16
    refine ⟨fun c17 => ?_, fun c17 => ?_⟩
    · refine u_X11_readAll_33 ?_
      refine ⟨o_v0, ?_⟩
      obtain ⟨a18, ea18, o_a18, -⟩ := id hG
      refine ⟨a18, ea18, ?_⟩
      refine ⟨o_a18, ?_⟩
      intro x19 ex19
      have r_x19 : (0 : Int32) ≤ x19 ∧ x19 ≤ (60 : Int32) := by rw [ex19]; exact nu 16 rfl hI o_a18
      have d_x19 := ex19
      refine ⟨fun c20 => ?_, fun c20 => ?_⟩
      · refine u_X11_readAll_63 ?_
        refine ⟨o_v0, ?_⟩
        have do20_kv14 := d_kv14
        have do20_x16 := d_x16
        have do20_kv13 := d_kv13
        refine m_X11_flaw hI o_v0 (qr2 i1u3 c15 q_x16 c17 r_x19 c20) hG (by have t : x16 = 5 → 0 < kv13 := (qr3 i1u3 p_k5u3 c15 q_x16 c17 r_x19 c20); rw [d_x16, d_kv13] at t; exact t) (fun S22 hJ g23 fc24 p_S22 => ?_)
        obtain ⟨hG, pg0_S22, pg1_S22, pg2_S22, pg3_S22⟩ := p_S22
        have hn := rn_fr fc24 g23 hI o_v0 (by decide) hn
        have hI := hJ
        have d_kv14 := d_kv14.trans (fri_at fc24 (by decide) (by decide) o_v0).symm
        have d_x19 := d_x19.trans (fri_at fc24 (by decide) (by decide) o_a18).symm
        have ea18 := (frr_at fc24 (by decide) (by decide) o_v0).trans ea18
        have f0 := fri_tr (S := S4) g0 f0 fc24 (by decide) (by decide)
        have o_a18 := gr_ob g23 o_a18
        have o_v0 := gr_ob g23 o_v0
        have g0 := gr_tr (T := S4) g0 g23
        obtain ⟨kv25, d_kv25⟩ : ∃ z : Int32, z = fI S22 v0 9 := ⟨_, rfl⟩
        obtain ⟨kv26, d_kv26⟩ : ∃ z : Int32, z = fI S22 v0 13 := ⟨_, rfl⟩
        have ph0_S22 : kv25 = 5 → 0 < kv26 := by rw [d_kv25, d_kv26]; exact pg0_S22
        have ph1_S22 : kv25 = 5 ∨ ¬ x16 = 5 := by rw [do20_x16, d_kv25]; exact pg1_S22
        have ph2_S22 : kv14 ≤ kv14 ∧ (kv25 = 4 → kv14 < kv14 ∨ x16 = 4) := by rw [d_kv14, do20_x16, d_kv25]; exact pg2_S22
        have ph3_S22 : kv25 = 5 := by rw [d_kv25]; exact pg3_S22
        intro _
        exact hq _ hI g0 f0 ⟨hG, hn, (ra_l d_kv26 (qr4 i1u3 p_k5u3 c15 q_x16 c17 r_x19 c20 ph0_S22 ph1_S22 ph3_S22)), (by have t : kv25 = 5 → 0 < kv26 := (qr5 i1u3 p_k5u3 c15 q_x16 c17 r_x19 c20 ph0_S22 ph1_S22 ph3_S22); rw [d_kv25, d_kv26] at t; exact t)⟩
      · refine ⟨a18, ea18, ?_⟩
        refine ⟨o_a18, ?_⟩
        intro x28 ex28
        have r_x28 : (0 : Int32) ≤ x28 ∧ x28 ≤ (8 : Int32) := by rw [ex28]; exact nu 18 rfl hI o_a18
        have d_x28 := ex28
        refine ⟨fun c29 => ?_, fun c29 => ?_⟩
        · refine u_X11_readAll_63 ?_
          refine ⟨o_v0, ?_⟩
          have do29_kv14 := d_kv14
          have do29_x16 := d_x16
          have do29_kv13 := d_kv13
          refine m_X11_flaw hI o_v0 (qr6 i1u3 c15 q_x16 c17 r_x19 c20 r_x28 c29) hG (by have t : x16 = 5 → 0 < kv13 := (qr7 i1u3 p_k5u3 c15 q_x16 c17 r_x19 c20 r_x28 c29); rw [d_x16, d_kv13] at t; exact t) (fun S31 hJ g32 fc33 p_S31 => ?_)
          obtain ⟨hG, pg0_S31, pg1_S31, pg2_S31, pg3_S31⟩ := p_S31
          have hn := rn_fr fc33 g32 hI o_v0 (by decide) hn
          have hI := hJ
          have d_kv14 := d_kv14.trans (fri_at fc33 (by decide) (by decide) o_v0).symm
          have d_x19 := d_x19.trans (fri_at fc33 (by decide) (by decide) o_a18).symm
          have d_x28 := d_x28.trans (fri_at fc33 (by decide) (by decide) o_a18).symm
          have ea18 := (frr_at fc33 (by decide) (by decide) o_v0).trans ea18
          have f0 := fri_tr (S := S4) g0 f0 fc33 (by decide) (by decide)
          have o_a18 := gr_ob g32 o_a18
          have o_v0 := gr_ob g32 o_v0
          have g0 := gr_tr (T := S4) g0 g32
          obtain ⟨kv34, d_kv34⟩ : ∃ z : Int32, z = fI S31 v0 9 := ⟨_, rfl⟩
          obtain ⟨kv35, d_kv35⟩ : ∃ z : Int32, z = fI S31 v0 13 := ⟨_, rfl⟩
          have ph0_S31 : kv34 = 5 → 0 < kv35 := by rw [d_kv34, d_kv35]; exact pg0_S31
          have ph1_S31 : kv34 = 5 ∨ ¬ x16 = 5 := by rw [do29_x16, d_kv34]; exact pg1_S31
          have ph2_S31 : kv14 ≤ kv14 ∧ (kv34 = 4 → kv14 < kv14 ∨ x16 = 4) := by rw [d_kv14, do29_x16, d_kv34]; exact pg2_S31
          have ph3_S31 : kv34 = 5 := by rw [d_kv34]; exact pg3_S31
          intro _
          exact hq _ hI g0 f0 ⟨hG, hn, (ra_l d_kv35 (qr8 i1u3 p_k5u3 c15 q_x16 c17 r_x19 c20 r_x28 c29 ph0_S31 ph1_S31 ph3_S31)), (by have t : kv34 = 5 → 0 < kv35 := (qr9 i1u3 p_k5u3 c15 q_x16 c17 r_x19 c20 r_x28 c29 ph0_S31 ph1_S31 ph3_S31); rw [d_kv34, d_kv35] at t; exact t)⟩
        · refine ⟨a18, ea18, ?_⟩
          refine ⟨o_a18, ?_⟩
          intro x37 ex37
          have r_x37 : (0 : Int32) ≤ x37 ∧ x37 ≤ (4 : Int32) := by rw [ex37]; exact nu 20 rfl hI o_a18
          have d_x37 := ex37
          refine ⟨fun c38 => ?_, fun c38 => ?_⟩
          · exact hq _ hI g0 f0 ⟨hG, hn, (ra_r ea18 d_x19 (qr10 i1u3 c15 q_x16 c17 r_x19 c20 r_x28 c29 r_x37 c38)), (by have t : x16 = 5 → 0 < kv13 := (qr11 i1u3 p_k5u3 c15 q_x16 c17 r_x19 c20 r_x28 c29 r_x37 c38); rw [d_x16, d_kv13] at t; exact t)⟩
          · refine u_X11_readAll_63 ?_
            refine ⟨o_v0, ?_⟩
            have do38_kv14 := d_kv14
            have do38_x16 := d_x16
            have do38_kv13 := d_kv13
            refine m_X11_flaw hI o_v0 (qr12 i1u3 c15 q_x16 c17 r_x19 c20 r_x28 c29 r_x37 c38) hG (by have t : x16 = 5 → 0 < kv13 := (qr13 i1u3 p_k5u3 c15 q_x16 c17 r_x19 c20 r_x28 c29 r_x37 c38); rw [d_x16, d_kv13] at t; exact t) (fun S40 hJ g41 fc42 p_S40 => ?_)
            obtain ⟨hG, pg0_S40, pg1_S40, pg2_S40, pg3_S40⟩ := p_S40
            have hn := rn_fr fc42 g41 hI o_v0 (by decide) hn
            have hI := hJ
            have d_kv14 := d_kv14.trans (fri_at fc42 (by decide) (by decide) o_v0).symm
            have d_x19 := d_x19.trans (fri_at fc42 (by decide) (by decide) o_a18).symm
            have d_x28 := d_x28.trans (fri_at fc42 (by decide) (by decide) o_a18).symm
            have d_x37 := d_x37.trans (fri_at fc42 (by decide) (by decide) o_a18).symm
            have ea18 := (frr_at fc42 (by decide) (by decide) o_v0).trans ea18
            have f0 := fri_tr (S := S4) g0 f0 fc42 (by decide) (by decide)
            have o_a18 := gr_ob g41 o_a18
            have o_v0 := gr_ob g41 o_v0
            have g0 := gr_tr (T := S4) g0 g41
            obtain ⟨kv43, d_kv43⟩ : ∃ z : Int32, z = fI S40 v0 9 := ⟨_, rfl⟩
            obtain ⟨kv44, d_kv44⟩ : ∃ z : Int32, z = fI S40 v0 13 := ⟨_, rfl⟩
            have ph0_S40 : kv43 = 5 → 0 < kv44 := by rw [d_kv43, d_kv44]; exact pg0_S40
            have ph1_S40 : kv43 = 5 ∨ ¬ x16 = 5 := by rw [do38_x16, d_kv43]; exact pg1_S40
            have ph2_S40 : kv14 ≤ kv14 ∧ (kv43 = 4 → kv14 < kv14 ∨ x16 = 4) := by rw [d_kv14, do38_x16, d_kv43]; exact pg2_S40
            have ph3_S40 : kv43 = 5 := by rw [d_kv43]; exact pg3_S40
            intro _
            exact hq _ hI g0 f0 ⟨hG, hn, (ra_l d_kv44 (qr14 i1u3 p_k5u3 c15 q_x16 c17 r_x19 c20 r_x28 c29 r_x37 c38 ph0_S40 ph1_S40 ph3_S40)), (by have t : kv43 = 5 → 0 < kv44 := (qr15 i1u3 p_k5u3 c15 q_x16 c17 r_x19 c20 r_x28 c29 r_x37 c38 ph0_S40 ph1_S40 ph3_S40); rw [d_kv43, d_kv44] at t; exact t)⟩
    · have do44_kv14 := d_kv14
      have do44_x16 := d_x16
      have do44_kv13 := d_kv13
      refine m_X11_flaw hI o_v0 (qr16 i1u3 c15 q_x16 c17) hG (by have t : x16 = 5 → 0 < kv13 := (qr17 i1u3 p_k5u3 c15 q_x16 c17); rw [d_x16, d_kv13] at t; exact t) (fun S46 hJ g47 fc48 p_S46 => ?_)
      obtain ⟨hG, pg0_S46, pg1_S46, pg2_S46, pg3_S46⟩ := p_S46
      have hn := rn_fr fc48 g47 hI o_v0 (by decide) hn
      have hI := hJ
      have d_kv14 := d_kv14.trans (fri_at fc48 (by decide) (by decide) o_v0).symm
      have f0 := fri_tr (S := S4) g0 f0 fc48 (by decide) (by decide)
      have o_v0 := gr_ob g47 o_v0
      have g0 := gr_tr (T := S4) g0 g47
      obtain ⟨kv49, d_kv49⟩ : ∃ z : Int32, z = fI S46 v0 9 := ⟨_, rfl⟩
      obtain ⟨kv50, d_kv50⟩ : ∃ z : Int32, z = fI S46 v0 13 := ⟨_, rfl⟩
      have ph0_S46 : kv49 = 5 → 0 < kv50 := by rw [d_kv49, d_kv50]; exact pg0_S46
      have ph1_S46 : kv49 = 5 ∨ ¬ x16 = 5 := by rw [do44_x16, d_kv49]; exact pg1_S46
      have ph2_S46 : kv14 ≤ kv14 ∧ (kv49 = 4 → kv14 < kv14 ∨ x16 = 4) := by rw [d_kv14, do44_x16, d_kv49]; exact pg2_S46
      have ph3_S46 : kv49 = 5 := by rw [d_kv49]; exact pg3_S46
      intro _
      refine u_X11_readAll_33 ?_
      refine ⟨o_v0, ?_⟩
      obtain ⟨a51, ea51, o_a51, -⟩ := id hG
      refine ⟨a51, ea51, ?_⟩
      refine ⟨o_a51, ?_⟩
      intro x52 ex52
      have r_x52 : (0 : Int32) ≤ x52 ∧ x52 ≤ (60 : Int32) := by rw [ex52]; exact nu 16 rfl hI o_a51
      have d_x52 := ex52
      refine ⟨fun c53 => ?_, fun c53 => ?_⟩
      · refine u_X11_readAll_63 ?_
        refine ⟨o_v0, ?_⟩
        have do53_kv14 := d_kv14
        have do53_kv49 := d_kv49
        have do53_kv50 := d_kv50
        refine m_X11_flaw hI o_v0 (qr18 i1u3 c15 q_x16 c17 ph1_S46 ph3_S46 r_x52 c53) hG (by have t : kv49 = 5 → 0 < kv50 := (qr19 i1u3 p_k5u3 c15 q_x16 c17 ph0_S46 ph1_S46 ph3_S46 r_x52 c53); rw [d_kv49, d_kv50] at t; exact t) (fun S55 hJ g56 fc57 p_S55 => ?_)
        obtain ⟨hG, pg0_S55, pg1_S55, pg2_S55, pg3_S55⟩ := p_S55
        have hn := rn_fr fc57 g56 hI o_v0 (by decide) hn
        have hI := hJ
        have d_kv14 := d_kv14.trans (fri_at fc57 (by decide) (by decide) o_v0).symm
        have d_x52 := d_x52.trans (fri_at fc57 (by decide) (by decide) o_a51).symm
        have ea51 := (frr_at fc57 (by decide) (by decide) o_v0).trans ea51
        have f0 := fri_tr (S := S46) g0 f0 fc57 (by decide) (by decide)
        have o_a51 := gr_ob g56 o_a51
        have o_v0 := gr_ob g56 o_v0
        have g0 := gr_tr (T := S46) g0 g56
        obtain ⟨kv58, d_kv58⟩ : ∃ z : Int32, z = fI S55 v0 9 := ⟨_, rfl⟩
        obtain ⟨kv59, d_kv59⟩ : ∃ z : Int32, z = fI S55 v0 13 := ⟨_, rfl⟩
        have ph0_S55 : kv58 = 5 → 0 < kv59 := by rw [d_kv58, d_kv59]; exact pg0_S55
        have ph1_S55 : kv58 = 5 ∨ ¬ kv49 = 5 := by rw [do53_kv49, d_kv58]; exact pg1_S55
        have ph2_S55 : kv14 ≤ kv14 ∧ (kv58 = 4 → kv14 < kv14 ∨ kv49 = 4) := by rw [d_kv14, do53_kv49, d_kv58]; exact pg2_S55
        have ph3_S55 : kv58 = 5 := by rw [d_kv58]; exact pg3_S55
        intro _
        exact hq _ hI g0 f0 ⟨hG, hn, (ra_l d_kv59 (qr20 i1u3 p_k5u3 c15 q_x16 c17 ph0_S46 ph1_S46 ph3_S46 r_x52 c53 ph0_S55 ph1_S55 ph3_S55)), (by have t : kv58 = 5 → 0 < kv59 := (qr21 i1u3 p_k5u3 c15 q_x16 c17 ph0_S46 ph1_S46 ph3_S46 r_x52 c53 ph0_S55 ph1_S55 ph3_S55); rw [d_kv58, d_kv59] at t; exact t)⟩
      · refine ⟨a51, ea51, ?_⟩
        refine ⟨o_a51, ?_⟩
        intro x61 ex61
        have r_x61 : (0 : Int32) ≤ x61 ∧ x61 ≤ (8 : Int32) := by rw [ex61]; exact nu 18 rfl hI o_a51
        have d_x61 := ex61
        refine ⟨fun c62 => ?_, fun c62 => ?_⟩
        · refine u_X11_readAll_63 ?_
          refine ⟨o_v0, ?_⟩
          have do62_kv14 := d_kv14
          have do62_kv49 := d_kv49
          have do62_kv50 := d_kv50
          refine m_X11_flaw hI o_v0 (qr22 i1u3 c15 q_x16 c17 ph1_S46 ph3_S46 r_x52 c53 r_x61 c62) hG (by have t : kv49 = 5 → 0 < kv50 := (qr23 i1u3 p_k5u3 c15 q_x16 c17 ph0_S46 ph1_S46 ph3_S46 r_x52 c53 r_x61 c62); rw [d_kv49, d_kv50] at t; exact t) (fun S64 hJ g65 fc66 p_S64 => ?_)
          obtain ⟨hG, pg0_S64, pg1_S64, pg2_S64, pg3_S64⟩ := p_S64
          have hn := rn_fr fc66 g65 hI o_v0 (by decide) hn
          have hI := hJ
          have d_kv14 := d_kv14.trans (fri_at fc66 (by decide) (by decide) o_v0).symm
          have d_x52 := d_x52.trans (fri_at fc66 (by decide) (by decide) o_a51).symm
          have d_x61 := d_x61.trans (fri_at fc66 (by decide) (by decide) o_a51).symm
          have ea51 := (frr_at fc66 (by decide) (by decide) o_v0).trans ea51
          have f0 := fri_tr (S := S46) g0 f0 fc66 (by decide) (by decide)
          have o_a51 := gr_ob g65 o_a51
          have o_v0 := gr_ob g65 o_v0
          have g0 := gr_tr (T := S46) g0 g65
          obtain ⟨kv67, d_kv67⟩ : ∃ z : Int32, z = fI S64 v0 9 := ⟨_, rfl⟩
          obtain ⟨kv68, d_kv68⟩ : ∃ z : Int32, z = fI S64 v0 13 := ⟨_, rfl⟩
          have ph0_S64 : kv67 = 5 → 0 < kv68 := by rw [d_kv67, d_kv68]; exact pg0_S64
          have ph1_S64 : kv67 = 5 ∨ ¬ kv49 = 5 := by rw [do62_kv49, d_kv67]; exact pg1_S64
          have ph2_S64 : kv14 ≤ kv14 ∧ (kv67 = 4 → kv14 < kv14 ∨ kv49 = 4) := by rw [d_kv14, do62_kv49, d_kv67]; exact pg2_S64
          have ph3_S64 : kv67 = 5 := by rw [d_kv67]; exact pg3_S64
          intro _
          exact hq _ hI g0 f0 ⟨hG, hn, (ra_l d_kv68 (qr24 i1u3 p_k5u3 c15 q_x16 c17 ph0_S46 ph1_S46 ph3_S46 r_x52 c53 r_x61 c62 ph0_S64 ph1_S64 ph3_S64)), (by have t : kv67 = 5 → 0 < kv68 := (qr25 i1u3 p_k5u3 c15 q_x16 c17 ph0_S46 ph1_S46 ph3_S46 r_x52 c53 r_x61 c62 ph0_S64 ph1_S64 ph3_S64); rw [d_kv67, d_kv68] at t; exact t)⟩
        · refine ⟨a51, ea51, ?_⟩
          refine ⟨o_a51, ?_⟩
          intro x70 ex70
          have r_x70 : (0 : Int32) ≤ x70 ∧ x70 ≤ (4 : Int32) := by rw [ex70]; exact nu 20 rfl hI o_a51
          have d_x70 := ex70
          refine ⟨fun c71 => ?_, fun c71 => ?_⟩
          · exact hq _ hI g0 f0 ⟨hG, hn, (ra_l d_kv50 (qr26 i1u3 p_k5u3 c15 q_x16 c17 ph0_S46 ph1_S46 ph3_S46 r_x52 c53 r_x61 c62 r_x70 c71)), (by have t : kv49 = 5 → 0 < kv50 := (qr27 i1u3 p_k5u3 c15 q_x16 c17 ph0_S46 ph1_S46 ph3_S46 r_x52 c53 r_x61 c62 r_x70 c71); rw [d_kv49, d_kv50] at t; exact t)⟩
          · refine u_X11_readAll_63 ?_
            refine ⟨o_v0, ?_⟩
            have do71_kv14 := d_kv14
            have do71_kv49 := d_kv49
            have do71_kv50 := d_kv50
            refine m_X11_flaw hI o_v0 (qr28 i1u3 c15 q_x16 c17 ph1_S46 ph3_S46 r_x52 c53 r_x61 c62 r_x70 c71) hG (by have t : kv49 = 5 → 0 < kv50 := (qr29 i1u3 p_k5u3 c15 q_x16 c17 ph0_S46 ph1_S46 ph3_S46 r_x52 c53 r_x61 c62 r_x70 c71); rw [d_kv49, d_kv50] at t; exact t) (fun S73 hJ g74 fc75 p_S73 => ?_)
            obtain ⟨hG, pg0_S73, pg1_S73, pg2_S73, pg3_S73⟩ := p_S73
            have hn := rn_fr fc75 g74 hI o_v0 (by decide) hn
            have hI := hJ
            have d_kv14 := d_kv14.trans (fri_at fc75 (by decide) (by decide) o_v0).symm
            have d_x52 := d_x52.trans (fri_at fc75 (by decide) (by decide) o_a51).symm
            have d_x61 := d_x61.trans (fri_at fc75 (by decide) (by decide) o_a51).symm
            have d_x70 := d_x70.trans (fri_at fc75 (by decide) (by decide) o_a51).symm
            have ea51 := (frr_at fc75 (by decide) (by decide) o_v0).trans ea51
            have f0 := fri_tr (S := S46) g0 f0 fc75 (by decide) (by decide)
            have o_a51 := gr_ob g74 o_a51
            have o_v0 := gr_ob g74 o_v0
            have g0 := gr_tr (T := S46) g0 g74
            obtain ⟨kv76, d_kv76⟩ : ∃ z : Int32, z = fI S73 v0 9 := ⟨_, rfl⟩
            obtain ⟨kv77, d_kv77⟩ : ∃ z : Int32, z = fI S73 v0 13 := ⟨_, rfl⟩
            have ph0_S73 : kv76 = 5 → 0 < kv77 := by rw [d_kv76, d_kv77]; exact pg0_S73
            have ph1_S73 : kv76 = 5 ∨ ¬ kv49 = 5 := by rw [do71_kv49, d_kv76]; exact pg1_S73
            have ph2_S73 : kv14 ≤ kv14 ∧ (kv76 = 4 → kv14 < kv14 ∨ kv49 = 4) := by rw [d_kv14, do71_kv49, d_kv76]; exact pg2_S73
            have ph3_S73 : kv76 = 5 := by rw [d_kv76]; exact pg3_S73
            intro _
            exact hq _ hI g0 f0 ⟨hG, hn, (ra_l d_kv77 (qr30 i1u3 p_k5u3 c15 q_x16 c17 ph0_S46 ph1_S46 ph3_S46 r_x52 c53 r_x61 c62 r_x70 c71 ph0_S73 ph1_S73 ph3_S73)), (by have t : kv76 = 5 → 0 < kv77 := (qr31 i1u3 p_k5u3 c15 q_x16 c17 ph0_S46 ph1_S46 ph3_S46 r_x52 c53 r_x61 c62 r_x70 c71 ph0_S73 ph1_S73 ph3_S73); rw [d_kv76, d_kv77] at t; exact t)⟩
  · refine ⟨o_v0, ?_⟩
    have do77_kv14 := d_kv14
    have do77_kv12 := d_kv12
    have do77_kv13 := d_kv13
    refine m_X11_readLine hI o_v0 hG hn (by have t : kv12 = 5 → 0 < kv13 := (qr32 i1u3 p_k5u3 c15); rw [d_kv12, d_kv13] at t; exact t) (fun S79 hJ g80 fc81 p_S79 => ?_)
    obtain ⟨hG, hn, pg0_S79, pg1_S79⟩ := p_S79
    have hI := hJ
    have f0 := fri_tr (S := S4) g0 f0 fc81 (by decide) (by decide)
    have fL6 := fri_tr (S := S4) gL5 fL6 fc81 (by decide) (by decide)
    have o_v0 := gr_ob g80 o_v0
    have g0 := gr_tr (T := S4) g0 g80
    have gL5 := gr_tr (T := S4) gL5 g80
    obtain ⟨kv82, d_kv82⟩ : ∃ z : Int32, z = fI S79 v0 9 := ⟨_, rfl⟩
    obtain ⟨kv83, d_kv83⟩ : ∃ z : Int32, z = fI S79 v0 13 := ⟨_, rfl⟩
    have ph0_S79 : kv82 = 5 → 0 < kv83 := by rw [d_kv82, d_kv83]; exact pg0_S79
    obtain ⟨kv84, d_kv84⟩ : ∃ z : Int32, z = fI S79 v0 8 := ⟨_, rfl⟩
    have r_kv84 : (0 : Int32) ≤ kv84 ∧ kv84 ≤ (900 : Int32) := by rw [d_kv84]; exact nu 25 rfl hI o_v0
    have ph1_S79 : kv14 ≤ kv84 ∧ (kv82 = 4 → kv14 < kv84) := by rw [do77_kv14, d_kv84, d_kv82]; exact pg1_S79
    intro _
    have do84_kv84 := d_kv84
    have do84_kv82 := d_kv82
    have do84_kv83 := d_kv83
    refine m_X11_eatsSign hI o_v0 hG (by have t : kv82 = 5 → 0 < kv83 := (qr33 i1u3 c15 ph0_S79); rw [d_kv82, d_kv83] at t; exact t) (fun x85 S86 hJ g87 fc88 b_x85 p_x85 => ?_)
    obtain ⟨hG, pg0_S86, pg1_S86, pg2_S86, pg3_S86⟩ := p_x85
    have hn := rn_fr fc88 g87 hI o_v0 (by decide) hn
    have hI := hJ
    have d_kv83 := d_kv83.trans (fri_at fc88 (by decide) (by decide) o_v0).symm
    have f0 := fri_tr (S := S79) g0 f0 fc88 (by decide) (by decide)
    have fL6 := fri_tr (S := S79) gL5 fL6 fc88 (by decide) (by decide)
    have o_v0 := gr_ob g87 o_v0
    have g0 := gr_tr (T := S79) g0 g87
    have gL5 := gr_tr (T := S79) gL5 g87
    obtain ⟨kv89, d_kv89⟩ : ∃ z : Int32, z = fI S86 v0 9 := ⟨_, rfl⟩
    have ph0_S86 : kv89 = 5 → 0 < kv83 := by rw [d_kv89, d_kv83]; exact pg0_S86
    have ph1_S86 : kv89 = 5 ∨ ¬ kv82 = 5 := by rw [do84_kv82, d_kv89]; exact pg1_S86
    obtain ⟨kv90, d_kv90⟩ : ∃ z : Int32, z = fI S86 v0 8 := ⟨_, rfl⟩
    have r_kv90 : (0 : Int32) ≤ kv90 ∧ kv90 ≤ (900 : Int32) := by rw [d_kv90]; exact nu 25 rfl hI o_v0
    have ph2_S86 : kv84 ≤ kv90 ∧ (kv89 = 4 → kv84 < kv90 ∨ kv82 = 4) := by rw [do84_kv84, do84_kv82, d_kv90, d_kv89]; exact pg2_S86
    have ph3_S86 : x85 = 0 ∨ kv82 = 4 := by rw [do84_kv82]; exact pg3_S86
    intro _ _
    have bb_x85 : x85 = 0 ∨ x85 = 1 := b_x85
    exact ih11 _ _ _ ⟨hI, gL5, fL6, rfl, hG, hn, (qr34 i1u3 c15 ph1_S86 ph3_S86 bb_x85), (by rw [← d_kv89, ← d_kv83]; exact (qr35 i1u3 c15 ph0_S79 ph0_S86 ph1_S86 ph3_S86 bb_x85))⟩ (by rw [← d0_kv14, ← d_kv90]; exact mu_ra (qr36 i1u3 r_kv14 c15 r_kv84 ph1_S79 ph1_S86 r_kv90 ph2_S86 ph3_S86 bb_x85) (qr37 i1u3 r_kv14 c15 r_kv84 ph1_S79 ph1_S86 r_kv90 ph2_S86 ph3_S86 bb_x85) (qr38 i1u3 c15) (qr39 i1u3 r_kv14 c15 r_kv84 ph1_S79 ph1_S86 r_kv90 ph2_S86 ph3_S86 bb_x85))
