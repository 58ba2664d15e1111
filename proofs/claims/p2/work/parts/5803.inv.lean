set_option maxHeartbeats 4000000 in
set_option maxRecDepth 20000 in
theorem m_X11_readPlace {v0 : Nat} {Q : HS → Prop} {S : HS} (hI : IV S) (o_v0 : ob S v0 11)    (hG : RG S v0) (hn : RN S v0) (hO : fI S v0 9 = 5 → 0 < fI S v0 13) (hq : ∀ (T : HS), IV T → Gr S T → FRI [(10, 2), (10, 6), (11, 8), (11, 9), (11, 10), (11, 11), (11, 12), (11, 13), (11, 14)] [] S T → (RG T v0) ∧ (RN T v0) ∧ (fI T v0 9 = 5 → 0 < fI T v0 13) ∧ (fI T v0 9 = 5 ∨ ¬ fI S v0 9 = 5) ∧ (fI S v0 8 ≤ fI T v0 8 ∧ (fI T v0 9 = 4 → fI S v0 8 < fI T v0 8 ∨ fI S v0 9 = 4)) → Q T) : P_X11_readPlace v0 Q S := by
  have g0 := gr_rf S
  have f0 := fri_rf [(10, 2), (10, 6), (11, 8), (11, 9), (11, 10), (11, 11), (11, 12), (11, 13), (11, 14)] [] S
  obtain ⟨kv1, d_kv1⟩ : ∃ z : Int32, z = fI S v0 8 := ⟨_, rfl⟩
  have r_kv1 : (0 : Int32) ≤ kv1 ∧ kv1 ≤ (900 : Int32) := by rw [d_kv1]; exact nu 25 rfl hI o_v0
  have di_8 := d_kv1
  obtain ⟨kv2, d_kv2⟩ : ∃ z : Int32, z = fI S v0 9 := ⟨_, rfl⟩
  have di_9 := d_kv2
  obtain ⟨kv3, d_kv3⟩ : ∃ z : Int32, z = fI S v0 13 := ⟨_, rfl⟩
  have di_13 := d_kv3
  have hO : kv2 = 5 → 0 < kv3 := by rw [d_kv2, d_kv3]; exact hO
  obtain ⟨a4, ea4, o_a4, -⟩ := id hG
  obtain ⟨kv5, d_kv5⟩ : ∃ z : Int32, z = fI S a4 6 := ⟨_, rfl⟩
  have r_kv5 : (0 : Int32) ≤ kv5 ∧ kv5 ≤ (12 : Int32) := by rw [d_kv5]; exact nu 22 rfl hI o_a4
  obtain ⟨kv6, d_kv6⟩ : ∃ z : Int32, z = fI S a4 2 := ⟨_, rfl⟩
  have r_kv6 : (0 : Int32) ≤ kv6 ∧ kv6 ≤ (8 : Int32) := by rw [d_kv6]; exact nu 18 rfl hI o_a4
  obtain ⟨kv7, d_kv7⟩ : ∃ z : Int32, z = fI S a4 4 := ⟨_, rfl⟩
  have r_kv7 : (0 : Int32) ≤ kv7 ∧ kv7 ≤ (4 : Int32) := by rw [d_kv7]; exact nu 20 rfl hI o_a4
  have hnf : kv5 = kv6 + kv7 := by rw [d_kv5, d_kv6, d_kv7]; exact hn _ ea4
  refine u_X11_readPlace ?_
  refine u_X11_readPlace_0 ?_
  refine ⟨o_v0, ?_⟩
  refine ⟨a4, ea4, ?_⟩
  refine ⟨o_a4, ?_⟩
  intro x9 ex9
  have r_x9 : (0 : Int32) ≤ x9 ∧ x9 ≤ (8 : Int32) := by rw [ex9]; exact nu 18 rfl hI o_a4
  have q_x9 : x9 = kv6 := ex9.trans d_kv6.symm
  have d_x9 := ex9
  have do9_kv1 := d_kv1
  have do9_kv2 := d_kv2
  have do9_kv3 := d_kv3
  refine m_X11_begins hI o_v0 hG (by have t : kv2 = 5 → 0 < kv3 := (qr1 hO); rw [d_kv2, d_kv3] at t; exact t) (fun S11 hJ g12 fc13 p_S11 => ?_)
  obtain ⟨hG, pg0_S11, pg1_S11, pg2_S11, pg3_S11⟩ := p_S11
  have hn := rn_fr fc13 g12 hI o_v0 (by decide) hn
  have hI := hJ
  have d_kv5 := d_kv5.trans (fri_at fc13 (by decide) (by decide) o_a4).symm
  have d_x9 := d_x9.trans (fri_at fc13 (by decide) (by decide) o_a4).symm
  have d_kv7 := d_kv7.trans (fri_at fc13 (by decide) (by decide) o_a4).symm
  have ea4 := (frr_at fc13 (by decide) (by decide) o_v0).trans ea4
  have f0 := fri_tr (S := S) g0 f0 fc13 (by decide) (by decide)
  have o_a4 := gr_ob g12 o_a4
  have o_v0 := gr_ob g12 o_v0
  have g0 := gr_tr (T := S) g0 g12
  obtain ⟨kv14, d_kv14⟩ : ∃ z : Int32, z = fI S11 v0 9 := ⟨_, rfl⟩
  obtain ⟨kv15, d_kv15⟩ : ∃ z : Int32, z = fI S11 v0 13 := ⟨_, rfl⟩
  have ph0_S11 : kv14 = 5 → 0 < kv15 := by rw [d_kv14, d_kv15]; exact pg0_S11
  have ph1_S11 : kv14 = 5 ∨ ¬ kv2 = 5 := by rw [do9_kv2, d_kv14]; exact pg1_S11
  obtain ⟨kv16, d_kv16⟩ : ∃ z : Int32, z = fI S11 v0 8 := ⟨_, rfl⟩
  have r_kv16 : (0 : Int32) ≤ kv16 ∧ kv16 ≤ (900 : Int32) := by rw [d_kv16]; exact nu 25 rfl hI o_v0
  have ph2_S11 : kv1 ≤ kv16 ∧ (kv14 = 4 → kv1 < kv16 ∨ kv2 = 4) := by rw [do9_kv1, do9_kv2, d_kv16, d_kv14]; exact pg2_S11
  have ph3_S11 : kv14 = 5 ∨ ¬ x9 = (8 : Int32) := by rw [d_kv14]; exact pg3_S11
  intro _
  have do16_kv16 := d_kv16
  have do16_kv14 := d_kv14
  have do16_kv15 := d_kv15
  refine m_X11_readFresh hI o_v0 hG (by have t : kv14 = 5 → 0 < kv15 := (qr538 hO r_kv5 r_kv6 r_kv7 hnf r_x9 q_x9 ph0_S11 ph1_S11 ph3_S11); rw [d_kv14, d_kv15] at t; exact t) (fun x17 S18 hJ g19 fc20 p_x17 => ?_)
  obtain ⟨hG, pg0_S18, pg1_S18, pg2_S18⟩ := p_x17
  have hn := rn_fr fc20 g19 hI o_v0 (by decide) hn
  have hI := hJ
  have d_kv5 := d_kv5.trans (fri_at fc20 (by decide) (by decide) o_a4).symm
  have d_x9 := d_x9.trans (fri_at fc20 (by decide) (by decide) o_a4).symm
  have d_kv7 := d_kv7.trans (fri_at fc20 (by decide) (by decide) o_a4).symm
  have ea4 := (frr_at fc20 (by decide) (by decide) o_v0).trans ea4
  have f0 := fri_tr (S := S11) g0 f0 fc20 (by decide) (by decide)
  have o_a4 := gr_ob g19 o_a4
  have o_v0 := gr_ob g19 o_v0
  have g0 := gr_tr (T := S11) g0 g19
  obtain ⟨kv21, d_kv21⟩ : ∃ z : Int32, z = fI S18 v0 9 := ⟨_, rfl⟩
  obtain ⟨kv22, d_kv22⟩ : ∃ z : Int32, z = fI S18 v0 13 := ⟨_, rfl⟩
  have ph0_S18 : kv21 = 5 → 0 < kv22 := by rw [d_kv21, d_kv22]; exact pg0_S18
  have ph1_S18 : kv21 = 5 ∨ ¬ kv14 = 5 := by rw [do16_kv14, d_kv21]; exact pg1_S18
  obtain ⟨kv23, d_kv23⟩ : ∃ z : Int32, z = fI S18 v0 8 := ⟨_, rfl⟩
  have r_kv23 : (0 : Int32) ≤ kv23 ∧ kv23 ≤ (900 : Int32) := by rw [d_kv23]; exact nu 25 rfl hI o_v0
  have ph2_S18 : kv16 ≤ kv23 ∧ (kv21 = 4 → kv16 < kv23 ∨ kv14 = 4) := by rw [do16_kv16, do16_kv14, d_kv23, d_kv21]; exact pg2_S18
  intro _
  have do23_kv23 := d_kv23
  have do23_kv21 := d_kv21
  have do23_kv22 := d_kv22
  refine m_X11_eatsWord hI o_v0 (by decide) hG (by have t : kv21 = 5 → 0 < kv22 := (qr539 hO r_kv5 r_kv6 r_kv7 hnf r_x9 q_x9 ph0_S11 ph1_S11 ph3_S11 ph0_S18 ph1_S18); rw [d_kv21, d_kv22] at t; exact t) (fun x24 S25 hJ g26 fc27 b_x24 p_x24 => ?_)
  obtain ⟨hG, pg0_S25, pg1_S25, pg2_S25⟩ := p_x24
  have hn := rn_fr fc27 g26 hI o_v0 (by decide) hn
  have hI := hJ
  have d_kv5 := d_kv5.trans (fri_at fc27 (by decide) (by decide) o_a4).symm
  have d_x9 := d_x9.trans (fri_at fc27 (by decide) (by decide) o_a4).symm
  have d_kv7 := d_kv7.trans (fri_at fc27 (by decide) (by decide) o_a4).symm
  have d_kv22 := d_kv22.trans (fri_at fc27 (by decide) (by decide) o_v0).symm
  have ea4 := (frr_at fc27 (by decide) (by decide) o_v0).trans ea4
  have f0 := fri_tr (S := S18) g0 f0 fc27 (by decide) (by decide)
  have o_a4 := gr_ob g26 o_a4
  have o_v0 := gr_ob g26 o_v0
  have g0 := gr_tr (T := S18) g0 g26
  obtain ⟨kv28, d_kv28⟩ : ∃ z : Int32, z = fI S25 v0 9 := ⟨_, rfl⟩
  have ph0_S25 : kv28 = 5 → 0 < kv22 := by rw [d_kv28, d_kv22]; exact pg0_S25
  have ph1_S25 : kv28 = 5 ∨ ¬ kv21 = 5 := by rw [do23_kv21, d_kv28]; exact pg1_S25
  obtain ⟨kv29, d_kv29⟩ : ∃ z : Int32, z = fI S25 v0 8 := ⟨_, rfl⟩
  have r_kv29 : (0 : Int32) ≤ kv29 ∧ kv29 ≤ (900 : Int32) := by rw [d_kv29]; exact nu 25 rfl hI o_v0
  have ph2_S25 : kv23 ≤ kv29 ∧ (kv28 = 4 → kv23 < kv29 ∨ kv21 = 4) := by rw [do23_kv23, do23_kv21, d_kv29, d_kv28]; exact pg2_S25
  intro _ _
  have bb_x24 : x24 = 0 ∨ x24 = 1 := b_x24
  refine ⟨fun c30 => ?_, fun c30 => ?_⟩
  · refine u_X11_readPlace_48 ?_
    refine u_X11_readPlace_50 ?_
    refine ⟨o_v0, ?_⟩
    intro x31 ex31
    have q_x31 : x31 = kv28 := ex31.trans d_kv28.symm
    have d_x31 := ex31
    refine ⟨fun c32 => ?_, fun c32 => ?_⟩
    · refine ⟨a4, ea4, ?_⟩
      refine ⟨o_a4, ?_⟩
      intro x34 ex34
      have r_x34 : (0 : Int32) ≤ x34 ∧ x34 ≤ (8 : Int32) := by rw [ex34]; exact nu 18 rfl hI o_a4
      have q_x34 : x34 = x9 := ex34.trans d_x9.symm
      have d_x34 := ex34
      refine u_X11_names ?_
      refine u_X11_names_0 ?_
      refine ⟨o_v0, ?_⟩
      refine ⟨a4, ea4, ?_⟩
      refine ⟨o_a4, ?_⟩
      obtain ⟨a36, ea36, o_a36, l_a36⟩ := shl 50 rfl hI o_a4
      refine ⟨a36, ea36, ?_⟩
      refine ⟨a4, ea4, ?_⟩
      refine ⟨o_a4, ?_⟩
      intro x38 ex38
      have r_x38 : (0 : Int32) ≤ x38 ∧ x38 ≤ (12 : Int32) := by rw [ex38]; exact nu 22 rfl hI o_a4
      have q_x38 : x38 = kv5 := ex38.trans d_kv5.symm
      have d_x38 := ex38
      refine ⟨o_a36, ?_⟩
      have i39 : vp_in x38 (hN _ a36) := (vin l_a36 (m := 12) (by decide) (qr540 r_kv5 r_kv6 r_kv7 hnf r_x9 q_x9 ph1_S11 ph3_S11 ph1_S18 ph1_S25 bb_x24 c30 q_x31 c32 r_x34 q_x34 r_x38 q_x38))
      refine ⟨i39, ?_⟩
      intro S40 eS40
      have hIn : IV S40 := by rw [eS40]; exact iv10_aJ hI o_a4 (by decide) ea36
      have hG := rg_J eS40 hG
      have hn := rn_J eS40 hn
      have hI := hIn
      have f0 := fr_J eS40 f0
      have d_x38 := rd_J eS40 d_x38
      have d_x34 := rd_J eS40 d_x34
      have d_kv7 := rd_J eS40 d_kv7
      have d_kv22 := rd_J eS40 d_kv22
      have d_x31 := rd_J eS40 d_x31
      have d_kv29 := rd_J eS40 d_kv29
      have ea4 := rf_J eS40 ea4
      have ea36 := rf_J eS40 ea36
      have l_a36 := ln_J eS40 l_a36
      have g0 := gr_J eS40 g0
      have o_a36 := ob_J eS40 o_a36
      have o_a4 := ob_J eS40 o_a4
      have o_v0 := ob_J eS40 o_v0
      refine ⟨a4, ea4, ?_⟩
      refine ⟨o_a4, ?_⟩
      obtain ⟨a42, ea42, o_a42, l_a42⟩ := shl 51 rfl hI o_a4
      refine ⟨a42, ea42, ?_⟩
      refine ⟨a4, ea4, ?_⟩
      refine ⟨o_a4, ?_⟩
      intro x44 ex44
      have r_x44 : (0 : Int32) ≤ x44 ∧ x44 ≤ (12 : Int32) := by rw [ex44]; exact nu 22 rfl hI o_a4
      have q_x44 : x44 = x38 := ex44.trans d_x38.symm
      have d_x44 := ex44
      refine ⟨o_a42, ?_⟩
      have i45 : vp_in x44 (hN _ a42) := (vin l_a42 (m := 12) (by decide) (qr541 r_kv5 r_kv6 r_kv7 hnf r_x9 q_x9 ph1_S11 ph3_S11 ph1_S18 ph1_S25 bb_x24 c30 q_x31 c32 r_x34 q_x34 r_x38 q_x38 r_x44 q_x44))
      refine ⟨i45, ?_⟩
      intro S46 eS46
      have hIn : IV S46 := by rw [eS46]; exact iv10_aI hI o_a4 (rg_nw hG ea4) ea42 o_a42 (by decide)
      have hG := rg_a (jj := 29) (x := x44) eS46 hI ea4 o_a4 ea42 o_a42 (by decide) (h1_no (by decide)) (fun _ => by rw [← d_x34, ← d_kv7]; exact (qr542 r_kv5 r_kv6 r_kv7 hnf r_x9 q_x9 ph1_S11 ph3_S11 ph1_S18 ph1_S25 bb_x24 c30 q_x31 c32 r_x34 q_x34 r_x38 q_x38 r_x44 q_x44)) hG
      have hn := rn_11 eS46 hI o_v0 o_a42 (by decide) hn
      have hI := hIn
      have f0 := fr_A eS46 g0 f0 o_a42 (by decide)
      have d_x44 := rd_Ik eS46 o_a42 o_a4 (by decide) d_x44
      have d_x34 := rd_Ik eS46 o_a42 o_a4 (by decide) d_x34
      have d_kv7 := rd_Ik eS46 o_a42 o_a4 (by decide) d_kv7
      have d_kv22 := rd_Ik eS46 o_a42 o_v0 (by decide) d_kv22
      have d_x31 := rd_Ik eS46 o_a42 o_v0 (by decide) d_x31
      have d_kv29 := rd_Ik eS46 o_a42 o_v0 (by decide) d_kv29
      have ea4 := rf_I eS46 ea4
      have ea36 := rf_I eS46 ea36
      have ea42 := rf_I eS46 ea42
      have l_a36 := ln_I eS46 l_a36
      have l_a42 := ln_I eS46 l_a42
      have g0 := gr_I eS46 g0
      have o_a36 := ob_I eS46 o_a36
      have o_a4 := ob_I eS46 o_a4
      have o_a42 := ob_I eS46 o_a42
      have o_v0 := ob_I eS46 o_v0
      have el47 : fI S46 a42 x44.toNatClampNeg = (0 : Int32) := by rw [eS46]; exact u2_self _ _ _ _
      refine ⟨a4, ea4, ?_⟩
      refine ⟨o_a4, ?_⟩
      obtain ⟨a49, ea49, o_a49, l_a49⟩ := shl 52 rfl hI o_a4
      refine ⟨a49, ea49, ?_⟩
      refine ⟨a4, ea4, ?_⟩
      refine ⟨o_a4, ?_⟩
      intro x51 ex51
      have r_x51 : (0 : Int32) ≤ x51 ∧ x51 ≤ (12 : Int32) := by rw [ex51]; exact nu 22 rfl hI o_a4
      have q_x51 : x51 = x44 := ex51.trans d_x44.symm
      have d_x51 := ex51
      refine ⟨o_a49, ?_⟩
      have i52 : vp_in x51 (hN _ a49) := (vin l_a49 (m := 12) (by decide) (qr543 r_kv5 r_kv6 r_kv7 hnf r_x9 q_x9 ph1_S11 ph3_S11 ph1_S18 ph1_S25 bb_x24 c30 q_x31 c32 r_x34 q_x34 r_x38 q_x38 r_x44 q_x44 r_x51 q_x51))
      refine ⟨i52, ?_⟩
      intro S53 eS53
      have hIn : IV S53 := by rw [eS53]; exact iv10_aI hI o_a4 (rg_nw hG ea4) ea49 o_a49 (by decide)
      have hG := rg_a (jj := 30) (x := x51) eS53 hI ea4 o_a4 ea49 o_a49 (by decide) (h1_no (by decide)) (fun _ => by rw [← d_x34, ← d_kv7]; exact (qr544 r_kv5 r_kv6 r_kv7 hnf r_x9 q_x9 ph1_S11 ph3_S11 ph1_S18 ph1_S25 bb_x24 c30 q_x31 c32 r_x34 q_x34 r_x38 q_x38 r_x44 q_x44 r_x51 q_x51)) hG
      have hn := rn_11 eS53 hI o_v0 o_a49 (by decide) hn
      have el47 := el_ar eS53 (ow_ne hI o_a4 (by decide) o_a4 (by decide) ea49 ea42 (by decide)) el47
      have hI := hIn
      have f0 := fr_A eS53 g0 f0 o_a49 (by decide)
      have d_x51 := rd_Ik eS53 o_a49 o_a4 (by decide) d_x51
      have d_x34 := rd_Ik eS53 o_a49 o_a4 (by decide) d_x34
      have d_kv7 := rd_Ik eS53 o_a49 o_a4 (by decide) d_kv7
      have d_kv22 := rd_Ik eS53 o_a49 o_v0 (by decide) d_kv22
      have d_x31 := rd_Ik eS53 o_a49 o_v0 (by decide) d_x31
      have d_kv29 := rd_Ik eS53 o_a49 o_v0 (by decide) d_kv29
      have ea4 := rf_I eS53 ea4
      have ea36 := rf_I eS53 ea36
      have ea42 := rf_I eS53 ea42
      have ea49 := rf_I eS53 ea49
      have l_a36 := ln_I eS53 l_a36
      have l_a42 := ln_I eS53 l_a42
      have l_a49 := ln_I eS53 l_a49
      have g0 := gr_I eS53 g0
      have o_a36 := ob_I eS53 o_a36
      have o_a4 := ob_I eS53 o_a4
      have o_a42 := ob_I eS53 o_a42
      have o_a49 := ob_I eS53 o_a49
      have o_v0 := ob_I eS53 o_v0
      have el54 : fI S53 a49 x51.toNatClampNeg = x34 := by rw [eS53]; exact u2_self _ _ _ _
      refine ⟨a4, ea4, ?_⟩
      refine ⟨o_a4, ?_⟩
      intro x56 ex56
      have r_x56 : (0 : Int32) ≤ x56 ∧ x56 ≤ (12 : Int32) := by rw [ex56]; exact nu 22 rfl hI o_a4
      have q_x56 : x56 = x51 := ex56.trans d_x51.symm
      have d_x56 := ex56
      intro x57 ex57
      intro S58 eS58
      have hIn : IV S58 := by rw [eS58]; exact iv10_sI hI o_a4 (rg_nw hG ea4) (nu_one (lo := (0 : Int32)) (hi := (12 : Int32)) (by decide) (qr545 r_kv5 r_kv6 r_kv7 hnf r_x9 q_x9 ph1_S11 ph3_S11 ph1_S18 ph1_S25 bb_x24 c30 q_x31 c32 r_x34 q_x34 r_x38 q_x38 r_x44 q_x44 r_x51 q_x51 r_x56 q_x56 ex57))
      have hG := rg_c eS58 hI ea4 o_a4 (by decide) hG
      have el47 := el_ob eS58 o_a4 o_a42 (by decide) el47
      have el54 := el_ob eS58 o_a4 o_a49 (by decide) el54
      have hI := hIn
      have f0 := fr_I eS58 g0 f0 o_a4 (by decide)
      have d_x34 := rd_Ij eS58 (by decide) d_x34
      have d_kv7 := rd_Ij eS58 (by decide) d_kv7
      have d_kv22 := rd_Ik eS58 o_a4 o_v0 (by decide) d_kv22
      have d_x31 := rd_Ik eS58 o_a4 o_v0 (by decide) d_x31
      have d_kv29 := rd_Ik eS58 o_a4 o_v0 (by decide) d_kv29
      have d_x57 := rd_Is eS58 (rfl : x57 = x57)
      have ea4 := rf_I eS58 ea4
      have ea36 := rf_I eS58 ea36
      have ea42 := rf_I eS58 ea42
      have ea49 := rf_I eS58 ea49
      have l_a36 := ln_I eS58 l_a36
      have l_a42 := ln_I eS58 l_a42
      have l_a49 := ln_I eS58 l_a49
      have g0 := gr_I eS58 g0
      have o_a36 := ob_I eS58 o_a36
      have o_a4 := ob_I eS58 o_a4
      have o_a42 := ob_I eS58 o_a42
      have o_a49 := ob_I eS58 o_a49
      have o_v0 := ob_I eS58 o_v0
      intro _
      refine ⟨a4, ea4, ?_⟩
      refine ⟨o_a4, ?_⟩
      obtain ⟨a60, ea60, o_a60, l_a60⟩ := shl 40 rfl hI o_a4
      refine ⟨a60, ea60, ?_⟩
      refine ⟨a4, ea4, ?_⟩
      refine ⟨o_a4, ?_⟩
      intro x62 ex62
      have r_x62 : (0 : Int32) ≤ x62 ∧ x62 ≤ (8 : Int32) := by rw [ex62]; exact nu 18 rfl hI o_a4
      have q_x62 : x62 = x34 := ex62.trans d_x34.symm
      have d_x62 := ex62
      refine ⟨o_a60, ?_⟩
      have i63 : vp_in x62 (hN _ a60) := (vin l_a60 (m := 8) (by decide) (qr546 r_kv5 r_kv6 r_kv7 hnf r_x9 q_x9 ph1_S11 ph3_S11 ph1_S18 ph1_S25 bb_x24 c30 q_x31 c32 r_x34 q_x34 r_x38 q_x38 r_x44 q_x44 r_x51 q_x51 r_x56 q_x56 ex57 r_x62 q_x62))
      refine ⟨i63, ?_⟩
      intro S64 eS64
      have hIn : IV S64 := by rw [eS64]; exact iv10_aI hI o_a4 (rg_nw hG ea4) ea60 o_a60 (by decide)
      have hG := rg_a (jj := 18) (x := x62) eS64 hI ea4 o_a4 ea60 o_a60 (by decide) (h1_no (by decide)) (h2_no (y := 0) (by decide)) hG
      have el47 := el_ar eS64 (ow_ne hI o_a4 (by decide) o_a4 (by decide) ea60 ea42 (by decide)) el47
      have el54 := el_ar eS64 (ow_ne hI o_a4 (by decide) o_a4 (by decide) ea60 ea49 (by decide)) el54
      have hI := hIn
      have f0 := fr_A eS64 g0 f0 o_a60 (by decide)
      have d_x62 := rd_Ik eS64 o_a60 o_a4 (by decide) d_x62
      have d_kv7 := rd_Ik eS64 o_a60 o_a4 (by decide) d_kv7
      have d_kv22 := rd_Ik eS64 o_a60 o_v0 (by decide) d_kv22
      have d_x31 := rd_Ik eS64 o_a60 o_v0 (by decide) d_x31
      have d_kv29 := rd_Ik eS64 o_a60 o_v0 (by decide) d_kv29
      have d_x57 := rd_Ik eS64 o_a60 o_a4 (by decide) d_x57
      have ea4 := rf_I eS64 ea4
      have ea36 := rf_I eS64 ea36
      have ea42 := rf_I eS64 ea42
      have ea49 := rf_I eS64 ea49
      have ea60 := rf_I eS64 ea60
      have l_a36 := ln_I eS64 l_a36
      have l_a42 := ln_I eS64 l_a42
      have l_a49 := ln_I eS64 l_a49
      have l_a60 := ln_I eS64 l_a60
      have g0 := gr_I eS64 g0
      have o_a36 := ob_I eS64 o_a36
      have o_a4 := ob_I eS64 o_a4
      have o_a42 := ob_I eS64 o_a42
      have o_a49 := ob_I eS64 o_a49
      have o_a60 := ob_I eS64 o_a60
      have o_v0 := ob_I eS64 o_v0
      refine ⟨a4, ea4, ?_⟩
      refine ⟨o_a4, ?_⟩
      obtain ⟨a66, ea66, o_a66, l_a66⟩ := shl 34 rfl hI o_a4
      refine ⟨a66, ea66, ?_⟩
      refine ⟨a4, ea4, ?_⟩
      refine ⟨o_a4, ?_⟩
      intro x68 ex68
      have r_x68 : (0 : Int32) ≤ x68 ∧ x68 ≤ (8 : Int32) := by rw [ex68]; exact nu 18 rfl hI o_a4
      have q_x68 : x68 = x62 := ex68.trans d_x62.symm
      have d_x68 := ex68
      refine ⟨o_a66, ?_⟩
      have i69 : vp_in x68 (hN _ a66) := (vin l_a66 (m := 8) (by decide) (qr547 r_kv5 r_kv6 r_kv7 hnf r_x9 q_x9 ph1_S11 ph3_S11 ph1_S18 ph1_S25 bb_x24 c30 q_x31 c32 r_x34 q_x34 r_x38 q_x38 r_x44 q_x44 r_x51 q_x51 r_x56 q_x56 ex57 r_x62 q_x62 r_x68 q_x68))
      refine ⟨i69, ?_⟩
      intro S70 eS70
      have hIn : IV S70 := by rw [eS70]; exact iv10_aI hI o_a4 (rg_nw hG ea4) ea66 o_a66 (by decide)
      have hG := rg_a (jj := 12) (x := x68) eS70 hI ea4 o_a4 ea66 o_a66 (by decide) (h1_no (by decide)) (h2_no (y := 0) (by decide)) hG
      have el47 := el_ar eS70 (ow_ne hI o_a4 (by decide) o_a4 (by decide) ea66 ea42 (by decide)) el47
      have el54 := el_ar eS70 (ow_ne hI o_a4 (by decide) o_a4 (by decide) ea66 ea49 (by decide)) el54
      have hI := hIn
      have f0 := fr_A eS70 g0 f0 o_a66 (by decide)
      have d_x68 := rd_Ik eS70 o_a66 o_a4 (by decide) d_x68
      have d_kv7 := rd_Ik eS70 o_a66 o_a4 (by decide) d_kv7
      have d_kv22 := rd_Ik eS70 o_a66 o_v0 (by decide) d_kv22
      have d_x31 := rd_Ik eS70 o_a66 o_v0 (by decide) d_x31
      have d_kv29 := rd_Ik eS70 o_a66 o_v0 (by decide) d_kv29
      have d_x57 := rd_Ik eS70 o_a66 o_a4 (by decide) d_x57
      have ea4 := rf_I eS70 ea4
      have ea36 := rf_I eS70 ea36
      have ea42 := rf_I eS70 ea42
      have ea49 := rf_I eS70 ea49
      have ea60 := rf_I eS70 ea60
      have ea66 := rf_I eS70 ea66
      have l_a36 := ln_I eS70 l_a36
      have l_a42 := ln_I eS70 l_a42
      have l_a49 := ln_I eS70 l_a49
      have l_a60 := ln_I eS70 l_a60
      have l_a66 := ln_I eS70 l_a66
      have g0 := gr_I eS70 g0
      have o_a36 := ob_I eS70 o_a36
      have o_a4 := ob_I eS70 o_a4
      have o_a42 := ob_I eS70 o_a42
      have o_a49 := ob_I eS70 o_a49
      have o_a60 := ob_I eS70 o_a60
      have o_a66 := ob_I eS70 o_a66
      have o_v0 := ob_I eS70 o_v0
      refine ⟨a4, ea4, ?_⟩
      refine ⟨o_a4, ?_⟩
      intro x72 ex72
      have r_x72 : (0 : Int32) ≤ x72 ∧ x72 ≤ (8 : Int32) := by rw [ex72]; exact nu 18 rfl hI o_a4
      have q_x72 : x72 = x68 := ex72.trans d_x68.symm
      have d_x72 := ex72
      intro x73 ex73
      intro S74 eS74
      have hIn : IV S74 := by rw [eS74]; exact iv10_sI hI o_a4 (rg_nw hG ea4) (nu_one (lo := (0 : Int32)) (hi := (8 : Int32)) (by decide) (qr548 r_kv5 r_kv6 r_kv7 hnf r_x9 q_x9 ph1_S11 ph3_S11 ph1_S18 ph1_S25 bb_x24 c30 q_x31 c32 r_x34 q_x34 r_x38 q_x38 r_x44 q_x44 r_x51 q_x51 r_x56 q_x56 ex57 r_x62 q_x62 r_x68 q_x68 r_x72 q_x72 ex73))
      have hG := rg_inc (c := 2) (y := x72) eS74 hI ea4 o_a4 d_x72.symm (qr549 r_kv5 r_kv6 r_kv7 hnf r_x9 q_x9 ph1_S11 ph3_S11 ph1_S18 ph1_S25 bb_x24 c30 q_x31 c32 r_x34 q_x34 r_x38 q_x38 r_x44 q_x44 r_x51 q_x51 r_x56 q_x56 ex57 r_x62 q_x62 r_x68 q_x68 r_x72 q_x72 ex73) (qr550 r_kv5 r_kv6 r_kv7 hnf r_x9 q_x9 ph1_S11 ph3_S11 ph1_S18 ph1_S25 bb_x24 c30 q_x31 c32 r_x34 q_x34 r_x38 q_x38 r_x44 q_x44 r_x51 q_x51 r_x56 q_x56 ex57 r_x62 q_x62 r_x68 q_x68 r_x72 q_x72 ex73) hn_2 (hs_2 eS74 d_x72.symm d_kv7.symm (qr549 r_kv5 r_kv6 r_kv7 hnf r_x9 q_x9 ph1_S11 ph3_S11 ph1_S18 ph1_S25 bb_x24 c30 q_x31 c32 r_x34 q_x34 r_x38 q_x38 r_x44 q_x44 r_x51 q_x51 r_x56 q_x56 ex57 r_x62 q_x62 r_x68 q_x68 r_x72 q_x72 ex73) (qr550 r_kv5 r_kv6 r_kv7 hnf r_x9 q_x9 ph1_S11 ph3_S11 ph1_S18 ph1_S25 bb_x24 c30 q_x31 c32 r_x34 q_x34 r_x38 q_x38 r_x44 q_x44 r_x51 q_x51 r_x56 q_x56 ex57 r_x62 q_x62 r_x68 q_x68 r_x72 q_x72 ex73) (qr551 r_kv5 r_kv6 r_kv7 hnf r_x9 q_x9 ph1_S11 ph3_S11 ph1_S18 ph1_S25 bb_x24 c30 q_x31 c32 r_x34 q_x34 r_x38 q_x38 r_x44 q_x44 r_x51 q_x51 r_x56 q_x56 ex57 r_x62 q_x62 r_x68 q_x68 r_x72 q_x72 ex73) ea42 ea49 el47 (el54.trans (qr552 r_kv5 r_kv6 r_kv7 hnf r_x9 q_x9 ph1_S11 ph3_S11 ph1_S18 ph1_S25 bb_x24 c30 q_x31 c32 r_x34 q_x34 r_x38 q_x38 r_x44 q_x44 r_x51 q_x51 r_x56 q_x56 ex57 r_x62 q_x62 r_x68 q_x68 r_x72 q_x72 ex73)) (qr553 r_kv5 r_kv6 r_kv7 hnf r_x9 q_x9 ph1_S11 ph3_S11 ph1_S18 ph1_S25 bb_x24 c30 q_x31 c32 r_x34 q_x34 r_x38 q_x38 r_x44 q_x44 r_x51 q_x51 r_x56 q_x56 ex57 r_x62 q_x62 r_x68 q_x68 r_x72 q_x72 ex73) (qr554 r_kv5 r_kv6 r_kv7 hnf r_x9 q_x9 ph1_S11 ph3_S11 ph1_S18 ph1_S25 bb_x24 c30 q_x31 c32 r_x34 q_x34 r_x38 q_x38 r_x44 q_x44 r_x51 q_x51 r_x56 q_x56 ex57 r_x62 q_x62 r_x68 q_x68 r_x72 q_x72 ex73)) hG
      have el47 := el_ob eS74 o_a4 o_a42 (by decide) el47
      have el54 := el_ob eS74 o_a4 o_a49 (by decide) el54
      have hI := hIn
      have f0 := fr_I eS74 g0 f0 o_a4 (by decide)
      have d_kv7 := rd_Ij eS74 (by decide) d_kv7
      have d_kv22 := rd_Ik eS74 o_a4 o_v0 (by decide) d_kv22
      have d_x31 := rd_Ik eS74 o_a4 o_v0 (by decide) d_x31
      have d_kv29 := rd_Ik eS74 o_a4 o_v0 (by decide) d_kv29
      have d_x57 := rd_Ij eS74 (by decide) d_x57
      have d_x73 := rd_Is eS74 (rfl : x73 = x73)
      have ea4 := rf_I eS74 ea4
      have ea36 := rf_I eS74 ea36
      have ea42 := rf_I eS74 ea42
      have ea49 := rf_I eS74 ea49
      have ea60 := rf_I eS74 ea60
      have ea66 := rf_I eS74 ea66
      have l_a36 := ln_I eS74 l_a36
      have l_a42 := ln_I eS74 l_a42
      have l_a49 := ln_I eS74 l_a49
      have l_a60 := ln_I eS74 l_a60
      have l_a66 := ln_I eS74 l_a66
      have g0 := gr_I eS74 g0
      have o_a36 := ob_I eS74 o_a36
      have o_a4 := ob_I eS74 o_a4
      have o_a42 := ob_I eS74 o_a42
      have o_a49 := ob_I eS74 o_a49
      have o_a60 := ob_I eS74 o_a60
      have o_a66 := ob_I eS74 o_a66
      have o_v0 := ob_I eS74 o_v0
      have hn : RN S74 v0 := fun z ez => by obtain rfl : a4 = z := Option.some.inj (ea4.symm.trans ez); rw [← d_x57, ← d_x73, ← d_kv7]; exact (qr555 r_kv5 r_kv6 r_kv7 hnf r_x9 q_x9 ph1_S11 ph3_S11 ph1_S18 ph1_S25 bb_x24 c30 q_x31 c32 r_x34 q_x34 r_x38 q_x38 r_x44 q_x44 r_x51 q_x51 r_x56 q_x56 ex57 r_x62 q_x62 r_x68 q_x68 r_x72 q_x72 ex73)
      exact hq _ hI g0 f0 ⟨hG, hn, (by have t : x31 = 5 → 0 < kv22 := (qr556 hO r_kv5 r_kv6 r_kv7 hnf r_x9 q_x9 ph0_S11 ph1_S11 ph3_S11 ph0_S18 ph1_S18 ph0_S25 ph1_S25 bb_x24 c30 q_x31 c32 r_x34 q_x34 r_x38 q_x38 r_x44 q_x44 r_x51 q_x51 r_x56 q_x56 ex57 r_x62 q_x62 r_x68 q_x68 r_x72 q_x72 ex73); rw [d_x31, d_kv22] at t; exact t), (by have t : x31 = 5 ∨ ¬ kv2 = 5 := (qr557 r_kv5 r_kv6 r_kv7 hnf r_x9 q_x9 ph1_S11 ph3_S11 ph1_S18 ph1_S25 bb_x24 c30 q_x31 c32 r_x34 q_x34 r_x38 q_x38 r_x44 q_x44 r_x51 q_x51 r_x56 q_x56 ex57 r_x62 q_x62 r_x68 q_x68 r_x72 q_x72 ex73); rw [di_9, d_x31] at t; exact t), (by have t : kv1 ≤ kv29 ∧ (x31 = 4 → kv1 < kv29 ∨ kv2 = 4) := (qr558 r_kv1 r_kv5 r_kv6 r_kv7 hnf r_x9 q_x9 ph1_S11 r_kv16 ph2_S11 ph3_S11 ph1_S18 r_kv23 ph2_S18 ph1_S25 r_kv29 ph2_S25 bb_x24 c30 q_x31 c32 r_x34 q_x34 r_x38 q_x38 r_x44 q_x44 r_x51 q_x51 r_x56 q_x56 ex57 r_x62 q_x62 r_x68 q_x68 r_x72 q_x72 ex73); rw [di_8, di_9, d_kv29, d_x31] at t; exact t)⟩
    · exact hq _ hI g0 f0 ⟨hG, hn, (by have t : x31 = 5 → 0 < kv22 := (qr559 hO r_kv5 r_kv6 r_kv7 hnf r_x9 q_x9 ph0_S11 ph1_S11 ph3_S11 ph0_S18 ph1_S18 ph0_S25 ph1_S25 bb_x24 c30 q_x31 c32); rw [d_x31, d_kv22] at t; exact t), (by have t : x31 = 5 ∨ ¬ kv2 = 5 := (qr560 r_kv5 r_kv6 r_kv7 hnf r_x9 q_x9 ph1_S11 ph3_S11 ph1_S18 ph1_S25 bb_x24 c30 q_x31 c32); rw [di_9, d_x31] at t; exact t), (by have t : kv1 ≤ kv29 ∧ (x31 = 4 → kv1 < kv29 ∨ kv2 = 4) := (qr561 r_kv1 r_kv5 r_kv6 r_kv7 hnf r_x9 q_x9 ph1_S11 r_kv16 ph2_S11 ph3_S11 ph1_S18 r_kv23 ph2_S18 ph1_S25 r_kv29 ph2_S25 bb_x24 c30 q_x31 c32); rw [di_8, di_9, d_kv29, d_x31] at t; exact t)⟩
  · have do74_kv29 := d_kv29
    have do74_kv28 := d_kv28
    have do74_kv22 := d_kv22
    refine m_X11_eatsWord hI o_v0 (by decide) hG (by have t : kv28 = 5 → 0 < kv22 := (qr562 hO r_kv5 r_kv6 r_kv7 hnf r_x9 q_x9 ph0_S11 ph1_S11 ph3_S11 ph0_S18 ph1_S18 ph0_S25 ph1_S25 bb_x24 c30); rw [d_kv28, d_kv22] at t; exact t) (fun x75 S76 hJ g77 fc78 b_x75 p_x75 => ?_)
    obtain ⟨hG, pg0_S76, pg1_S76, pg2_S76⟩ := p_x75
    have hn := rn_fr fc78 g77 hI o_v0 (by decide) hn
    have hI := hJ
    have d_kv5 := d_kv5.trans (fri_at fc78 (by decide) (by decide) o_a4).symm
    have d_x9 := d_x9.trans (fri_at fc78 (by decide) (by decide) o_a4).symm
    have d_kv7 := d_kv7.trans (fri_at fc78 (by decide) (by decide) o_a4).symm
    have d_kv22 := d_kv22.trans (fri_at fc78 (by decide) (by decide) o_v0).symm
    have ea4 := (frr_at fc78 (by decide) (by decide) o_v0).trans ea4
    have f0 := fri_tr (S := S25) g0 f0 fc78 (by decide) (by decide)
    have o_a4 := gr_ob g77 o_a4
    have o_v0 := gr_ob g77 o_v0
    have g0 := gr_tr (T := S25) g0 g77
    obtain ⟨kv79, d_kv79⟩ : ∃ z : Int32, z = fI S76 v0 9 := ⟨_, rfl⟩
    have ph0_S76 : kv79 = 5 → 0 < kv22 := by rw [d_kv79, d_kv22]; exact pg0_S76
    have ph1_S76 : kv79 = 5 ∨ ¬ kv28 = 5 := by rw [do74_kv28, d_kv79]; exact pg1_S76
    obtain ⟨kv80, d_kv80⟩ : ∃ z : Int32, z = fI S76 v0 8 := ⟨_, rfl⟩
    have r_kv80 : (0 : Int32) ≤ kv80 ∧ kv80 ≤ (900 : Int32) := by rw [d_kv80]; exact nu 25 rfl hI o_v0
    have ph2_S76 : kv29 ≤ kv80 ∧ (kv79 = 4 → kv29 < kv80 ∨ kv28 = 4) := by rw [do74_kv29, do74_kv28, d_kv80, d_kv79]; exact pg2_S76
    intro _ _
    have bb_x75 : x75 = 0 ∨ x75 = 1 := b_x75
    refine ⟨fun c81 => ?_, fun c81 => ?_⟩
    · refine u_X11_readPlace_48 ?_
      refine u_X11_readPlace_50 ?_
      refine ⟨o_v0, ?_⟩
      intro x82 ex82
      have q_x82 : x82 = kv79 := ex82.trans d_kv79.symm
      have d_x82 := ex82
      refine ⟨fun c83 => ?_, fun c83 => ?_⟩
      · refine ⟨a4, ea4, ?_⟩
        refine ⟨o_a4, ?_⟩
        intro x85 ex85
        have r_x85 : (0 : Int32) ≤ x85 ∧ x85 ≤ (8 : Int32) := by rw [ex85]; exact nu 18 rfl hI o_a4
        have q_x85 : x85 = x9 := ex85.trans d_x9.symm
        have d_x85 := ex85
        refine u_X11_names ?_
        refine u_X11_names_0 ?_
        refine ⟨o_v0, ?_⟩
        refine ⟨a4, ea4, ?_⟩
        refine ⟨o_a4, ?_⟩
        obtain ⟨a87, ea87, o_a87, l_a87⟩ := shl 50 rfl hI o_a4
        refine ⟨a87, ea87, ?_⟩
        refine ⟨a4, ea4, ?_⟩
        refine ⟨o_a4, ?_⟩
        intro x89 ex89
        have r_x89 : (0 : Int32) ≤ x89 ∧ x89 ≤ (12 : Int32) := by rw [ex89]; exact nu 22 rfl hI o_a4
        have q_x89 : x89 = kv5 := ex89.trans d_kv5.symm
        have d_x89 := ex89
        refine ⟨o_a87, ?_⟩
        have i90 : vp_in x89 (hN _ a87) := (vin l_a87 (m := 12) (by decide) (qr563 r_kv5 r_kv6 r_kv7 hnf r_x9 q_x9 ph1_S11 ph3_S11 ph1_S18 ph1_S25 bb_x24 c30 ph1_S76 bb_x75 c81 q_x82 c83 r_x85 q_x85 r_x89 q_x89))
        refine ⟨i90, ?_⟩
        intro S91 eS91
        have hIn : IV S91 := by rw [eS91]; exact iv10_aJ hI o_a4 (by decide) ea87
        have hG := rg_J eS91 hG
        have hn := rn_J eS91 hn
        have hI := hIn
        have f0 := fr_J eS91 f0
        have d_x89 := rd_J eS91 d_x89
        have d_x85 := rd_J eS91 d_x85
        have d_kv7 := rd_J eS91 d_kv7
        have d_kv22 := rd_J eS91 d_kv22
        have d_x82 := rd_J eS91 d_x82
        have d_kv80 := rd_J eS91 d_kv80
        have ea4 := rf_J eS91 ea4
        have ea87 := rf_J eS91 ea87
        have l_a87 := ln_J eS91 l_a87
        have g0 := gr_J eS91 g0
        have o_a4 := ob_J eS91 o_a4
        have o_a87 := ob_J eS91 o_a87
        have o_v0 := ob_J eS91 o_v0
        refine ⟨a4, ea4, ?_⟩
        refine ⟨o_a4, ?_⟩
        obtain ⟨a93, ea93, o_a93, l_a93⟩ := shl 51 rfl hI o_a4
        refine ⟨a93, ea93, ?_⟩
        refine ⟨a4, ea4, ?_⟩
        refine ⟨o_a4, ?_⟩
        intro x95 ex95
        have r_x95 : (0 : Int32) ≤ x95 ∧ x95 ≤ (12 : Int32) := by rw [ex95]; exact nu 22 rfl hI o_a4
        have q_x95 : x95 = x89 := ex95.trans d_x89.symm
        have d_x95 := ex95
        refine ⟨o_a93, ?_⟩
        have i96 : vp_in x95 (hN _ a93) := (vin l_a93 (m := 12) (by decide) (qr564 r_kv5 r_kv6 r_kv7 hnf r_x9 q_x9 ph1_S11 ph3_S11 ph1_S18 ph1_S25 bb_x24 c30 ph1_S76 bb_x75 c81 q_x82 c83 r_x85 q_x85 r_x89 q_x89 r_x95 q_x95))
        refine ⟨i96, ?_⟩
        intro S97 eS97
        have hIn : IV S97 := by rw [eS97]; exact iv10_aI hI o_a4 (rg_nw hG ea4) ea93 o_a93 (by decide)
        have hG := rg_a (jj := 29) (x := x95) eS97 hI ea4 o_a4 ea93 o_a93 (by decide) (h1_no (by decide)) (fun _ => by rw [← d_x85, ← d_kv7]; exact (qr565 r_kv5 r_kv6 r_kv7 hnf r_x9 q_x9 ph1_S11 ph3_S11 ph1_S18 ph1_S25 bb_x24 c30 ph1_S76 bb_x75 c81 q_x82 c83 r_x85 q_x85 r_x89 q_x89 r_x95 q_x95)) hG
        have hn := rn_11 eS97 hI o_v0 o_a93 (by decide) hn
        have hI := hIn
        have f0 := fr_A eS97 g0 f0 o_a93 (by decide)
        have d_x95 := rd_Ik eS97 o_a93 o_a4 (by decide) d_x95
        have d_x85 := rd_Ik eS97 o_a93 o_a4 (by decide) d_x85
        have d_kv7 := rd_Ik eS97 o_a93 o_a4 (by decide) d_kv7
        have d_kv22 := rd_Ik eS97 o_a93 o_v0 (by decide) d_kv22
        have d_x82 := rd_Ik eS97 o_a93 o_v0 (by decide) d_x82
        have d_kv80 := rd_Ik eS97 o_a93 o_v0 (by decide) d_kv80
        have ea4 := rf_I eS97 ea4
        have ea87 := rf_I eS97 ea87
        have ea93 := rf_I eS97 ea93
        have l_a87 := ln_I eS97 l_a87
        have l_a93 := ln_I eS97 l_a93
        have g0 := gr_I eS97 g0
        have o_a4 := ob_I eS97 o_a4
        have o_a87 := ob_I eS97 o_a87
        have o_a93 := ob_I eS97 o_a93
        have o_v0 := ob_I eS97 o_v0
        have el98 : fI S97 a93 x95.toNatClampNeg = (0 : Int32) := by rw [eS97]; exact u2_self _ _ _ _
        refine ⟨a4, ea4, ?_⟩
        refine ⟨o_a4, ?_⟩
        obtain ⟨a100, ea100, o_a100, l_a100⟩ := shl 52 rfl hI o_a4
        refine ⟨a100, ea100, ?_⟩
        refine ⟨a4, ea4, ?_⟩
        refine ⟨o_a4, ?_⟩
        intro x102 ex102
        have r_x102 : (0 : Int32) ≤ x102 ∧ x102 ≤ (12 : Int32) := by rw [ex102]; exact nu 22 rfl hI o_a4
        have q_x102 : x102 = x95 := ex102.trans d_x95.symm
        have d_x102 := ex102
        refine ⟨o_a100, ?_⟩
        have i103 : vp_in x102 (hN _ a100) := (vin l_a100 (m := 12) (by decide) (qr566 r_kv5 r_kv6 r_kv7 hnf r_x9 q_x9 ph1_S11 ph3_S11 ph1_S18 ph1_S25 bb_x24 c30 ph1_S76 bb_x75 c81 q_x82 c83 r_x85 q_x85 r_x89 q_x89 r_x95 q_x95 r_x102 q_x102))
        refine ⟨i103, ?_⟩
        intro S104 eS104
        have hIn : IV S104 := by rw [eS104]; exact iv10_aI hI o_a4 (rg_nw hG ea4) ea100 o_a100 (by decide)
        have hG := rg_a (jj := 30) (x := x102) eS104 hI ea4 o_a4 ea100 o_a100 (by decide) (h1_no (by decide)) (fun _ => by rw [← d_x85, ← d_kv7]; exact (qr567 r_kv5 r_kv6 r_kv7 hnf r_x9 q_x9 ph1_S11 ph3_S11 ph1_S18 ph1_S25 bb_x24 c30 ph1_S76 bb_x75 c81 q_x82 c83 r_x85 q_x85 r_x89 q_x89 r_x95 q_x95 r_x102 q_x102)) hG
        have hn := rn_11 eS104 hI o_v0 o_a100 (by decide) hn
        have el98 := el_ar eS104 (ow_ne hI o_a4 (by decide) o_a4 (by decide) ea100 ea93 (by decide)) el98
        have hI := hIn
        have f0 := fr_A eS104 g0 f0 o_a100 (by decide)
        have d_x102 := rd_Ik eS104 o_a100 o_a4 (by decide) d_x102
        have d_x85 := rd_Ik eS104 o_a100 o_a4 (by decide) d_x85
        have d_kv7 := rd_Ik eS104 o_a100 o_a4 (by decide) d_kv7
        have d_kv22 := rd_Ik eS104 o_a100 o_v0 (by decide) d_kv22
        have d_x82 := rd_Ik eS104 o_a100 o_v0 (by decide) d_x82
        have d_kv80 := rd_Ik eS104 o_a100 o_v0 (by decide) d_kv80
        have ea4 := rf_I eS104 ea4
        have ea87 := rf_I eS104 ea87
        have ea93 := rf_I eS104 ea93
        have ea100 := rf_I eS104 ea100
        have l_a100 := ln_I eS104 l_a100
        have l_a87 := ln_I eS104 l_a87
        have l_a93 := ln_I eS104 l_a93
        have g0 := gr_I eS104 g0
        have o_a100 := ob_I eS104 o_a100
        have o_a4 := ob_I eS104 o_a4
        have o_a87 := ob_I eS104 o_a87
        have o_a93 := ob_I eS104 o_a93
        have o_v0 := ob_I eS104 o_v0
        have el105 : fI S104 a100 x102.toNatClampNeg = x85 := by rw [eS104]; exact u2_self _ _ _ _
        refine ⟨a4, ea4, ?_⟩
        refine ⟨o_a4, ?_⟩
        intro x107 ex107
        have r_x107 : (0 : Int32) ≤ x107 ∧ x107 ≤ (12 : Int32) := by rw [ex107]; exact nu 22 rfl hI o_a4
        have q_x107 : x107 = x102 := ex107.trans d_x102.symm
        have d_x107 := ex107
        intro x108 ex108
        intro S109 eS109
        have hIn : IV S109 := by rw [eS109]; exact iv10_sI hI o_a4 (rg_nw hG ea4) (nu_one (lo := (0 : Int32)) (hi := (12 : Int32)) (by decide) (qr568 r_kv5 r_kv6 r_kv7 hnf r_x9 q_x9 ph1_S11 ph3_S11 ph1_S18 ph1_S25 bb_x24 c30 ph1_S76 bb_x75 c81 q_x82 c83 r_x85 q_x85 r_x89 q_x89 r_x95 q_x95 r_x102 q_x102 r_x107 q_x107 ex108))
        have hG := rg_c eS109 hI ea4 o_a4 (by decide) hG
        have el98 := el_ob eS109 o_a4 o_a93 (by decide) el98
        have el105 := el_ob eS109 o_a4 o_a100 (by decide) el105
        have hI := hIn
        have f0 := fr_I eS109 g0 f0 o_a4 (by decide)
        have d_x85 := rd_Ij eS109 (by decide) d_x85
        have d_kv7 := rd_Ij eS109 (by decide) d_kv7
        have d_kv22 := rd_Ik eS109 o_a4 o_v0 (by decide) d_kv22
        have d_x82 := rd_Ik eS109 o_a4 o_v0 (by decide) d_x82
        have d_kv80 := rd_Ik eS109 o_a4 o_v0 (by decide) d_kv80
        have d_x108 := rd_Is eS109 (rfl : x108 = x108)
        have ea4 := rf_I eS109 ea4
        have ea87 := rf_I eS109 ea87
        have ea93 := rf_I eS109 ea93
        have ea100 := rf_I eS109 ea100
        have l_a100 := ln_I eS109 l_a100
        have l_a87 := ln_I eS109 l_a87
        have l_a93 := ln_I eS109 l_a93
        have g0 := gr_I eS109 g0
        have o_a100 := ob_I eS109 o_a100
        have o_a4 := ob_I eS109 o_a4
        have o_a87 := ob_I eS109 o_a87
        have o_a93 := ob_I eS109 o_a93
        have o_v0 := ob_I eS109 o_v0
        intro _
        refine ⟨a4, ea4, ?_⟩
        refine ⟨o_a4, ?_⟩
        obtain ⟨a111, ea111, o_a111, l_a111⟩ := shl 40 rfl hI o_a4
        refine ⟨a111, ea111, ?_⟩
        refine ⟨a4, ea4, ?_⟩
        refine ⟨o_a4, ?_⟩
        intro x113 ex113
        have r_x113 : (0 : Int32) ≤ x113 ∧ x113 ≤ (8 : Int32) := by rw [ex113]; exact nu 18 rfl hI o_a4
        have q_x113 : x113 = x85 := ex113.trans d_x85.symm
        have d_x113 := ex113
        refine ⟨o_a111, ?_⟩
        have i114 : vp_in x113 (hN _ a111) := (vin l_a111 (m := 8) (by decide) (qr569 r_kv5 r_kv6 r_kv7 hnf r_x9 q_x9 ph1_S11 ph3_S11 ph1_S18 ph1_S25 bb_x24 c30 ph1_S76 bb_x75 c81 q_x82 c83 r_x85 q_x85 r_x89 q_x89 r_x95 q_x95 r_x102 q_x102 r_x107 q_x107 ex108 r_x113 q_x113))
        refine ⟨i114, ?_⟩
        intro S115 eS115
        have hIn : IV S115 := by rw [eS115]; exact iv10_aI hI o_a4 (rg_nw hG ea4) ea111 o_a111 (by decide)
        have hG := rg_a (jj := 18) (x := x113) eS115 hI ea4 o_a4 ea111 o_a111 (by decide) (h1_no (by decide)) (h2_no (y := 0) (by decide)) hG
        have el98 := el_ar eS115 (ow_ne hI o_a4 (by decide) o_a4 (by decide) ea111 ea93 (by decide)) el98
        have el105 := el_ar eS115 (ow_ne hI o_a4 (by decide) o_a4 (by decide) ea111 ea100 (by decide)) el105
        have hI := hIn
        have f0 := fr_A eS115 g0 f0 o_a111 (by decide)
        have d_x113 := rd_Ik eS115 o_a111 o_a4 (by decide) d_x113
        have d_kv7 := rd_Ik eS115 o_a111 o_a4 (by decide) d_kv7
        have d_kv22 := rd_Ik eS115 o_a111 o_v0 (by decide) d_kv22
        have d_x82 := rd_Ik eS115 o_a111 o_v0 (by decide) d_x82
        have d_kv80 := rd_Ik eS115 o_a111 o_v0 (by decide) d_kv80
        have d_x108 := rd_Ik eS115 o_a111 o_a4 (by decide) d_x108
        have ea4 := rf_I eS115 ea4
        have ea87 := rf_I eS115 ea87
        have ea93 := rf_I eS115 ea93
        have ea100 := rf_I eS115 ea100
        have ea111 := rf_I eS115 ea111
        have l_a100 := ln_I eS115 l_a100
        have l_a111 := ln_I eS115 l_a111
        have l_a87 := ln_I eS115 l_a87
        have l_a93 := ln_I eS115 l_a93
        have g0 := gr_I eS115 g0
        have o_a100 := ob_I eS115 o_a100
        have o_a111 := ob_I eS115 o_a111
        have o_a4 := ob_I eS115 o_a4
        have o_a87 := ob_I eS115 o_a87
        have o_a93 := ob_I eS115 o_a93
        have o_v0 := ob_I eS115 o_v0
        refine ⟨a4, ea4, ?_⟩
        refine ⟨o_a4, ?_⟩
        obtain ⟨a117, ea117, o_a117, l_a117⟩ := shl 34 rfl hI o_a4
        refine ⟨a117, ea117, ?_⟩
        refine ⟨a4, ea4, ?_⟩
        refine ⟨o_a4, ?_⟩
        intro x119 ex119
        have r_x119 : (0 : Int32) ≤ x119 ∧ x119 ≤ (8 : Int32) := by rw [ex119]; exact nu 18 rfl hI o_a4
        have q_x119 : x119 = x113 := ex119.trans d_x113.symm
        have d_x119 := ex119
        refine ⟨o_a117, ?_⟩
        have i120 : vp_in x119 (hN _ a117) := (vin l_a117 (m := 8) (by decide) (qr570 r_kv5 r_kv6 r_kv7 hnf r_x9 q_x9 ph1_S11 ph3_S11 ph1_S18 ph1_S25 bb_x24 c30 ph1_S76 bb_x75 c81 q_x82 c83 r_x85 q_x85 r_x89 q_x89 r_x95 q_x95 r_x102 q_x102 r_x107 q_x107 ex108 r_x113 q_x113 r_x119 q_x119))
        refine ⟨i120, ?_⟩
        intro S121 eS121
        have hIn : IV S121 := by rw [eS121]; exact iv10_aI hI o_a4 (rg_nw hG ea4) ea117 o_a117 (by decide)
        have hG := rg_a (jj := 12) (x := x119) eS121 hI ea4 o_a4 ea117 o_a117 (by decide) (h1_no (by decide)) (h2_no (y := 0) (by decide)) hG
        have el98 := el_ar eS121 (ow_ne hI o_a4 (by decide) o_a4 (by decide) ea117 ea93 (by decide)) el98
        have el105 := el_ar eS121 (ow_ne hI o_a4 (by decide) o_a4 (by decide) ea117 ea100 (by decide)) el105
        have hI := hIn
        have f0 := fr_A eS121 g0 f0 o_a117 (by decide)
        have d_x119 := rd_Ik eS121 o_a117 o_a4 (by decide) d_x119
        have d_kv7 := rd_Ik eS121 o_a117 o_a4 (by decide) d_kv7
        have d_kv22 := rd_Ik eS121 o_a117 o_v0 (by decide) d_kv22
        have d_x82 := rd_Ik eS121 o_a117 o_v0 (by decide) d_x82
        have d_kv80 := rd_Ik eS121 o_a117 o_v0 (by decide) d_kv80
        have d_x108 := rd_Ik eS121 o_a117 o_a4 (by decide) d_x108
        have ea4 := rf_I eS121 ea4
        have ea87 := rf_I eS121 ea87
        have ea93 := rf_I eS121 ea93
        have ea100 := rf_I eS121 ea100
        have ea111 := rf_I eS121 ea111
        have ea117 := rf_I eS121 ea117
        have l_a100 := ln_I eS121 l_a100
        have l_a111 := ln_I eS121 l_a111
        have l_a117 := ln_I eS121 l_a117
        have l_a87 := ln_I eS121 l_a87
        have l_a93 := ln_I eS121 l_a93
        have g0 := gr_I eS121 g0
        have o_a100 := ob_I eS121 o_a100
        have o_a111 := ob_I eS121 o_a111
        have o_a117 := ob_I eS121 o_a117
        have o_a4 := ob_I eS121 o_a4
        have o_a87 := ob_I eS121 o_a87
        have o_a93 := ob_I eS121 o_a93
        have o_v0 := ob_I eS121 o_v0
        refine ⟨a4, ea4, ?_⟩
        refine ⟨o_a4, ?_⟩
        intro x123 ex123
        have r_x123 : (0 : Int32) ≤ x123 ∧ x123 ≤ (8 : Int32) := by rw [ex123]; exact nu 18 rfl hI o_a4
        have q_x123 : x123 = x119 := ex123.trans d_x119.symm
        have d_x123 := ex123
        intro x124 ex124
        intro S125 eS125
        have hIn : IV S125 := by rw [eS125]; exact iv10_sI hI o_a4 (rg_nw hG ea4) (nu_one (lo := (0 : Int32)) (hi := (8 : Int32)) (by decide) (qr571 r_kv5 r_kv6 r_kv7 hnf r_x9 q_x9 ph1_S11 ph3_S11 ph1_S18 ph1_S25 bb_x24 c30 ph1_S76 bb_x75 c81 q_x82 c83 r_x85 q_x85 r_x89 q_x89 r_x95 q_x95 r_x102 q_x102 r_x107 q_x107 ex108 r_x113 q_x113 r_x119 q_x119 r_x123 q_x123 ex124))
        have hG := rg_inc (c := 2) (y := x123) eS125 hI ea4 o_a4 d_x123.symm (qr572 r_kv5 r_kv6 r_kv7 hnf r_x9 q_x9 ph1_S11 ph3_S11 ph1_S18 ph1_S25 bb_x24 c30 ph1_S76 bb_x75 c81 q_x82 c83 r_x85 q_x85 r_x89 q_x89 r_x95 q_x95 r_x102 q_x102 r_x107 q_x107 ex108 r_x113 q_x113 r_x119 q_x119 r_x123 q_x123 ex124) (qr573 r_kv5 r_kv6 r_kv7 hnf r_x9 q_x9 ph1_S11 ph3_S11 ph1_S18 ph1_S25 bb_x24 c30 ph1_S76 bb_x75 c81 q_x82 c83 r_x85 q_x85 r_x89 q_x89 r_x95 q_x95 r_x102 q_x102 r_x107 q_x107 ex108 r_x113 q_x113 r_x119 q_x119 r_x123 q_x123 ex124) hn_2 (hs_2 eS125 d_x123.symm d_kv7.symm (qr572 r_kv5 r_kv6 r_kv7 hnf r_x9 q_x9 ph1_S11 ph3_S11 ph1_S18 ph1_S25 bb_x24 c30 ph1_S76 bb_x75 c81 q_x82 c83 r_x85 q_x85 r_x89 q_x89 r_x95 q_x95 r_x102 q_x102 r_x107 q_x107 ex108 r_x113 q_x113 r_x119 q_x119 r_x123 q_x123 ex124) (qr573 r_kv5 r_kv6 r_kv7 hnf r_x9 q_x9 ph1_S11 ph3_S11 ph1_S18 ph1_S25 bb_x24 c30 ph1_S76 bb_x75 c81 q_x82 c83 r_x85 q_x85 r_x89 q_x89 r_x95 q_x95 r_x102 q_x102 r_x107 q_x107 ex108 r_x113 q_x113 r_x119 q_x119 r_x123 q_x123 ex124) (qr574 r_kv5 r_kv6 r_kv7 hnf r_x9 q_x9 ph1_S11 ph3_S11 ph1_S18 ph1_S25 bb_x24 c30 ph1_S76 bb_x75 c81 q_x82 c83 r_x85 q_x85 r_x89 q_x89 r_x95 q_x95 r_x102 q_x102 r_x107 q_x107 ex108 r_x113 q_x113 r_x119 q_x119 r_x123 q_x123 ex124) ea93 ea100 el98 (el105.trans (qr575 r_kv5 r_kv6 r_kv7 hnf r_x9 q_x9 ph1_S11 ph3_S11 ph1_S18 ph1_S25 bb_x24 c30 ph1_S76 bb_x75 c81 q_x82 c83 r_x85 q_x85 r_x89 q_x89 r_x95 q_x95 r_x102 q_x102 r_x107 q_x107 ex108 r_x113 q_x113 r_x119 q_x119 r_x123 q_x123 ex124)) (qr576 r_kv5 r_kv6 r_kv7 hnf r_x9 q_x9 ph1_S11 ph3_S11 ph1_S18 ph1_S25 bb_x24 c30 ph1_S76 bb_x75 c81 q_x82 c83 r_x85 q_x85 r_x89 q_x89 r_x95 q_x95 r_x102 q_x102 r_x107 q_x107 ex108 r_x113 q_x113 r_x119 q_x119 r_x123 q_x123 ex124) (qr577 r_kv5 r_kv6 r_kv7 hnf r_x9 q_x9 ph1_S11 ph3_S11 ph1_S18 ph1_S25 bb_x24 c30 ph1_S76 bb_x75 c81 q_x82 c83 r_x85 q_x85 r_x89 q_x89 r_x95 q_x95 r_x102 q_x102 r_x107 q_x107 ex108 r_x113 q_x113 r_x119 q_x119 r_x123 q_x123 ex124)) hG
        have el98 := el_ob eS125 o_a4 o_a93 (by decide) el98
        have el105 := el_ob eS125 o_a4 o_a100 (by decide) el105
        have hI := hIn
        have f0 := fr_I eS125 g0 f0 o_a4 (by decide)
        have d_kv7 := rd_Ij eS125 (by decide) d_kv7
        have d_kv22 := rd_Ik eS125 o_a4 o_v0 (by decide) d_kv22
        have d_x82 := rd_Ik eS125 o_a4 o_v0 (by decide) d_x82
        have d_kv80 := rd_Ik eS125 o_a4 o_v0 (by decide) d_kv80
        have d_x108 := rd_Ij eS125 (by decide) d_x108
        have d_x124 := rd_Is eS125 (rfl : x124 = x124)
        have ea4 := rf_I eS125 ea4
        have ea87 := rf_I eS125 ea87
        have ea93 := rf_I eS125 ea93
        have ea100 := rf_I eS125 ea100
        have ea111 := rf_I eS125 ea111
        have ea117 := rf_I eS125 ea117
        have l_a100 := ln_I eS125 l_a100
        have l_a111 := ln_I eS125 l_a111
        have l_a117 := ln_I eS125 l_a117
        have l_a87 := ln_I eS125 l_a87
        have l_a93 := ln_I eS125 l_a93
        have g0 := gr_I eS125 g0
        have o_a100 := ob_I eS125 o_a100
        have o_a111 := ob_I eS125 o_a111
        have o_a117 := ob_I eS125 o_a117
        have o_a4 := ob_I eS125 o_a4
        have o_a87 := ob_I eS125 o_a87
        have o_a93 := ob_I eS125 o_a93
        have o_v0 := ob_I eS125 o_v0
        have hn : RN S125 v0 := fun z ez => by obtain rfl : a4 = z := Option.some.inj (ea4.symm.trans ez); rw [← d_x108, ← d_x124, ← d_kv7]; exact (qr578 r_kv5 r_kv6 r_kv7 hnf r_x9 q_x9 ph1_S11 ph3_S11 ph1_S18 ph1_S25 bb_x24 c30 ph1_S76 bb_x75 c81 q_x82 c83 r_x85 q_x85 r_x89 q_x89 r_x95 q_x95 r_x102 q_x102 r_x107 q_x107 ex108 r_x113 q_x113 r_x119 q_x119 r_x123 q_x123 ex124)
        exact hq _ hI g0 f0 ⟨hG, hn, (by have t : x82 = 5 → 0 < kv22 := (qr579 hO r_kv5 r_kv6 r_kv7 hnf r_x9 q_x9 ph0_S11 ph1_S11 ph3_S11 ph0_S18 ph1_S18 ph0_S25 ph1_S25 bb_x24 c30 ph0_S76 ph1_S76 bb_x75 c81 q_x82 c83 r_x85 q_x85 r_x89 q_x89 r_x95 q_x95 r_x102 q_x102 r_x107 q_x107 ex108 r_x113 q_x113 r_x119 q_x119 r_x123 q_x123 ex124); rw [d_x82, d_kv22] at t; exact t), (by have t : x82 = 5 ∨ ¬ kv2 = 5 := (qr580 r_kv5 r_kv6 r_kv7 hnf r_x9 q_x9 ph1_S11 ph3_S11 ph1_S18 ph1_S25 bb_x24 c30 ph1_S76 bb_x75 c81 q_x82 c83 r_x85 q_x85 r_x89 q_x89 r_x95 q_x95 r_x102 q_x102 r_x107 q_x107 ex108 r_x113 q_x113 r_x119 q_x119 r_x123 q_x123 ex124); rw [di_9, d_x82] at t; exact t), (by have t : kv1 ≤ kv80 ∧ (x82 = 4 → kv1 < kv80 ∨ kv2 = 4) := (qr581 r_kv1 r_kv5 r_kv6 r_kv7 hnf r_x9 q_x9 ph1_S11 r_kv16 ph2_S11 ph3_S11 ph1_S18 r_kv23 ph2_S18 ph1_S25 r_kv29 ph2_S25 bb_x24 c30 ph1_S76 r_kv80 ph2_S76 bb_x75 c81 q_x82 c83 r_x85 q_x85 r_x89 q_x89 r_x95 q_x95 r_x102 q_x102 r_x107 q_x107 ex108 r_x113 q_x113 r_x119 q_x119 r_x123 q_x123 ex124); rw [di_8, di_9, d_kv80, d_x82] at t; exact t)⟩
      · exact hq _ hI g0 f0 ⟨hG, hn, (by have t : x82 = 5 → 0 < kv22 := (qr582 hO r_kv5 r_kv6 r_kv7 hnf r_x9 q_x9 ph0_S11 ph1_S11 ph3_S11 ph0_S18 ph1_S18 ph0_S25 ph1_S25 bb_x24 c30 ph0_S76 ph1_S76 bb_x75 c81 q_x82 c83); rw [d_x82, d_kv22] at t; exact t), (by have t : x82 = 5 ∨ ¬ kv2 = 5 := (qr583 r_kv5 r_kv6 r_kv7 hnf r_x9 q_x9 ph1_S11 ph3_S11 ph1_S18 ph1_S25 bb_x24 c30 ph1_S76 bb_x75 c81 q_x82 c83); rw [di_9, d_x82] at t; exact t), (by have t : kv1 ≤ kv80 ∧ (x82 = 4 → kv1 < kv80 ∨ kv2 = 4) := (qr584 r_kv1 r_kv5 r_kv6 r_kv7 hnf r_x9 q_x9 ph1_S11 r_kv16 ph2_S11 ph3_S11 ph1_S18 r_kv23 ph2_S18 ph1_S25 r_kv29 ph2_S25 bb_x24 c30 ph1_S76 r_kv80 ph2_S76 bb_x75 c81 q_x82 c83); rw [di_8, di_9, d_kv80, d_x82] at t; exact t)⟩
    · have do125_kv80 := d_kv80
      have do125_kv79 := d_kv79
      have do125_kv22 := d_kv22
      refine m_X11_readWhole hI o_v0 hG (by have t : kv79 = 5 → 0 < kv22 := (qr585 hO r_kv5 r_kv6 r_kv7 hnf r_x9 q_x9 ph0_S11 ph1_S11 ph3_S11 ph0_S18 ph1_S18 ph0_S25 ph1_S25 bb_x24 c30 ph0_S76 ph1_S76 bb_x75 c81); rw [d_kv79, d_kv22] at t; exact t) (fun x126 S127 hJ g128 fc129 p_x126 => ?_)
      obtain ⟨hG, p_x126, pg0_S127, pg1_S127, pg2_S127⟩ := p_x126
      have hn := rn_fr fc129 g128 hI o_v0 (by decide) hn
      have hI := hJ
      have d_kv5 := d_kv5.trans (fri_at fc129 (by decide) (by decide) o_a4).symm
      have d_x9 := d_x9.trans (fri_at fc129 (by decide) (by decide) o_a4).symm
      have d_kv7 := d_kv7.trans (fri_at fc129 (by decide) (by decide) o_a4).symm
      have ea4 := (frr_at fc129 (by decide) (by decide) o_v0).trans ea4
      have f0 := fri_tr (S := S76) g0 f0 fc129 (by decide) (by decide)
      have o_a4 := gr_ob g128 o_a4
      have o_v0 := gr_ob g128 o_v0
      have g0 := gr_tr (T := S76) g0 g128
      obtain ⟨kv130, d_kv130⟩ : ∃ z : Int32, z = fI S127 v0 9 := ⟨_, rfl⟩
      obtain ⟨kv131, d_kv131⟩ : ∃ z : Int32, z = fI S127 v0 13 := ⟨_, rfl⟩
      have ph0_S127 : kv130 = 5 → 0 < kv131 := by rw [d_kv130, d_kv131]; exact pg0_S127
      have ph1_S127 : kv130 = 5 ∨ ¬ kv79 = 5 := by rw [do125_kv79, d_kv130]; exact pg1_S127
      obtain ⟨kv132, d_kv132⟩ : ∃ z : Int32, z = fI S127 v0 8 := ⟨_, rfl⟩
      have r_kv132 : (0 : Int32) ≤ kv132 ∧ kv132 ≤ (900 : Int32) := by rw [d_kv132]; exact nu 25 rfl hI o_v0
      have ph2_S127 : kv80 ≤ kv132 ∧ (kv130 = 4 → kv80 < kv132 ∨ kv79 = 4) := by rw [do125_kv80, do125_kv79, d_kv132, d_kv130]; exact pg2_S127
      intro _
      refine u_X11_readPlace_50 ?_
      refine ⟨o_v0, ?_⟩
      intro x133 ex133
      have q_x133 : x133 = kv130 := ex133.trans d_kv130.symm
      have d_x133 := ex133
      refine ⟨fun c134 => ?_, fun c134 => ?_⟩
      · refine ⟨a4, ea4, ?_⟩
        refine ⟨o_a4, ?_⟩
        intro x136 ex136
        have r_x136 : (0 : Int32) ≤ x136 ∧ x136 ≤ (8 : Int32) := by rw [ex136]; exact nu 18 rfl hI o_a4
        have q_x136 : x136 = x9 := ex136.trans d_x9.symm
        have d_x136 := ex136
        refine u_X11_names ?_
        refine u_X11_names_0 ?_
        refine ⟨o_v0, ?_⟩
        refine ⟨a4, ea4, ?_⟩
        refine ⟨o_a4, ?_⟩
        obtain ⟨a138, ea138, o_a138, l_a138⟩ := shl 50 rfl hI o_a4
        refine ⟨a138, ea138, ?_⟩
        refine ⟨a4, ea4, ?_⟩
        refine ⟨o_a4, ?_⟩
        intro x140 ex140
        have r_x140 : (0 : Int32) ≤ x140 ∧ x140 ≤ (12 : Int32) := by rw [ex140]; exact nu 22 rfl hI o_a4
        have q_x140 : x140 = kv5 := ex140.trans d_kv5.symm
        have d_x140 := ex140
        refine ⟨o_a138, ?_⟩
        have i141 : vp_in x140 (hN _ a138) := (vin l_a138 (m := 12) (by decide) (qr586 r_kv5 r_kv6 r_kv7 hnf r_x9 q_x9 ph1_S11 ph3_S11 ph1_S18 ph1_S25 bb_x24 c30 ph1_S76 bb_x75 c81 ph1_S127 q_x133 c134 r_x136 q_x136 r_x140 q_x140))
        refine ⟨i141, ?_⟩
        intro S142 eS142
        have hIn : IV S142 := by rw [eS142]; exact iv10_aJ hI o_a4 (by decide) ea138
        have hG := rg_J eS142 hG
        have hn := rn_J eS142 hn
        have hI := hIn
        have f0 := fr_J eS142 f0
        have d_x140 := rd_J eS142 d_x140
        have d_x136 := rd_J eS142 d_x136
        have d_kv7 := rd_J eS142 d_kv7
        have d_x133 := rd_J eS142 d_x133
        have d_kv131 := rd_J eS142 d_kv131
        have d_kv132 := rd_J eS142 d_kv132
        have ea4 := rf_J eS142 ea4
        have ea138 := rf_J eS142 ea138
        have l_a138 := ln_J eS142 l_a138
        have g0 := gr_J eS142 g0
        have o_a138 := ob_J eS142 o_a138
        have o_a4 := ob_J eS142 o_a4
        have o_v0 := ob_J eS142 o_v0
        refine ⟨a4, ea4, ?_⟩
        refine ⟨o_a4, ?_⟩
        obtain ⟨a144, ea144, o_a144, l_a144⟩ := shl 51 rfl hI o_a4
        refine ⟨a144, ea144, ?_⟩
        refine ⟨a4, ea4, ?_⟩
        refine ⟨o_a4, ?_⟩
        intro x146 ex146
        have r_x146 : (0 : Int32) ≤ x146 ∧ x146 ≤ (12 : Int32) := by rw [ex146]; exact nu 22 rfl hI o_a4
        have q_x146 : x146 = x140 := ex146.trans d_x140.symm
        have d_x146 := ex146
        refine ⟨o_a144, ?_⟩
        have i147 : vp_in x146 (hN _ a144) := (vin l_a144 (m := 12) (by decide) (qr587 r_kv5 r_kv6 r_kv7 hnf r_x9 q_x9 ph1_S11 ph3_S11 ph1_S18 ph1_S25 bb_x24 c30 ph1_S76 bb_x75 c81 ph1_S127 q_x133 c134 r_x136 q_x136 r_x140 q_x140 r_x146 q_x146))
        refine ⟨i147, ?_⟩
        intro S148 eS148
        have hIn : IV S148 := by rw [eS148]; exact iv10_aI hI o_a4 (rg_nw hG ea4) ea144 o_a144 (by decide)
        have hG := rg_a (jj := 29) (x := x146) eS148 hI ea4 o_a4 ea144 o_a144 (by decide) (h1_no (by decide)) (fun _ => by rw [← d_x136, ← d_kv7]; exact (qr588 r_kv5 r_kv6 r_kv7 hnf r_x9 q_x9 ph1_S11 ph3_S11 ph1_S18 ph1_S25 bb_x24 c30 ph1_S76 bb_x75 c81 ph1_S127 q_x133 c134 r_x136 q_x136 r_x140 q_x140 r_x146 q_x146)) hG
        have hn := rn_11 eS148 hI o_v0 o_a144 (by decide) hn
        have hI := hIn
        have f0 := fr_A eS148 g0 f0 o_a144 (by decide)
        have d_x146 := rd_Ik eS148 o_a144 o_a4 (by decide) d_x146
        have d_x136 := rd_Ik eS148 o_a144 o_a4 (by decide) d_x136
        have d_kv7 := rd_Ik eS148 o_a144 o_a4 (by decide) d_kv7
        have d_x133 := rd_Ik eS148 o_a144 o_v0 (by decide) d_x133
        have d_kv131 := rd_Ik eS148 o_a144 o_v0 (by decide) d_kv131
        have d_kv132 := rd_Ik eS148 o_a144 o_v0 (by decide) d_kv132
        have ea4 := rf_I eS148 ea4
        have ea138 := rf_I eS148 ea138
        have ea144 := rf_I eS148 ea144
        have l_a138 := ln_I eS148 l_a138
        have l_a144 := ln_I eS148 l_a144
        have g0 := gr_I eS148 g0
        have o_a138 := ob_I eS148 o_a138
        have o_a144 := ob_I eS148 o_a144
        have o_a4 := ob_I eS148 o_a4
        have o_v0 := ob_I eS148 o_v0
        have el149 : fI S148 a144 x146.toNatClampNeg = (0 : Int32) := by rw [eS148]; exact u2_self _ _ _ _
        refine ⟨a4, ea4, ?_⟩
        refine ⟨o_a4, ?_⟩
        obtain ⟨a151, ea151, o_a151, l_a151⟩ := shl 52 rfl hI o_a4
        refine ⟨a151, ea151, ?_⟩
        refine ⟨a4, ea4, ?_⟩
        refine ⟨o_a4, ?_⟩
        intro x153 ex153
        have r_x153 : (0 : Int32) ≤ x153 ∧ x153 ≤ (12 : Int32) := by rw [ex153]; exact nu 22 rfl hI o_a4
        have q_x153 : x153 = x146 := ex153.trans d_x146.symm
        have d_x153 := ex153
        refine ⟨o_a151, ?_⟩
        have i154 : vp_in x153 (hN _ a151) := (vin l_a151 (m := 12) (by decide) (qr589 r_kv5 r_kv6 r_kv7 hnf r_x9 q_x9 ph1_S11 ph3_S11 ph1_S18 ph1_S25 bb_x24 c30 ph1_S76 bb_x75 c81 ph1_S127 q_x133 c134 r_x136 q_x136 r_x140 q_x140 r_x146 q_x146 r_x153 q_x153))
        refine ⟨i154, ?_⟩
        intro S155 eS155
        have hIn : IV S155 := by rw [eS155]; exact iv10_aI hI o_a4 (rg_nw hG ea4) ea151 o_a151 (by decide)
        have hG := rg_a (jj := 30) (x := x153) eS155 hI ea4 o_a4 ea151 o_a151 (by decide) (h1_no (by decide)) (fun _ => by rw [← d_x136, ← d_kv7]; exact (qr590 r_kv5 r_kv6 r_kv7 hnf r_x9 q_x9 ph1_S11 ph3_S11 ph1_S18 ph1_S25 bb_x24 c30 ph1_S76 bb_x75 c81 ph1_S127 q_x133 c134 r_x136 q_x136 r_x140 q_x140 r_x146 q_x146 r_x153 q_x153)) hG
        have hn := rn_11 eS155 hI o_v0 o_a151 (by decide) hn
        have el149 := el_ar eS155 (ow_ne hI o_a4 (by decide) o_a4 (by decide) ea151 ea144 (by decide)) el149
        have hI := hIn
        have f0 := fr_A eS155 g0 f0 o_a151 (by decide)
        have d_x153 := rd_Ik eS155 o_a151 o_a4 (by decide) d_x153
        have d_x136 := rd_Ik eS155 o_a151 o_a4 (by decide) d_x136
        have d_kv7 := rd_Ik eS155 o_a151 o_a4 (by decide) d_kv7
        have d_x133 := rd_Ik eS155 o_a151 o_v0 (by decide) d_x133
        have d_kv131 := rd_Ik eS155 o_a151 o_v0 (by decide) d_kv131
        have d_kv132 := rd_Ik eS155 o_a151 o_v0 (by decide) d_kv132
        have ea4 := rf_I eS155 ea4
        have ea138 := rf_I eS155 ea138
        have ea144 := rf_I eS155 ea144
        have ea151 := rf_I eS155 ea151
        have l_a138 := ln_I eS155 l_a138
        have l_a144 := ln_I eS155 l_a144
        have l_a151 := ln_I eS155 l_a151
        have g0 := gr_I eS155 g0
        have o_a138 := ob_I eS155 o_a138
        have o_a144 := ob_I eS155 o_a144
        have o_a151 := ob_I eS155 o_a151
        have o_a4 := ob_I eS155 o_a4
        have o_v0 := ob_I eS155 o_v0
        have el156 : fI S155 a151 x153.toNatClampNeg = x136 := by rw [eS155]; exact u2_self _ _ _ _
        refine ⟨a4, ea4, ?_⟩
        refine ⟨o_a4, ?_⟩
        intro x158 ex158
        have r_x158 : (0 : Int32) ≤ x158 ∧ x158 ≤ (12 : Int32) := by rw [ex158]; exact nu 22 rfl hI o_a4
        have q_x158 : x158 = x153 := ex158.trans d_x153.symm
        have d_x158 := ex158
        intro x159 ex159
        intro S160 eS160
        have hIn : IV S160 := by rw [eS160]; exact iv10_sI hI o_a4 (rg_nw hG ea4) (nu_one (lo := (0 : Int32)) (hi := (12 : Int32)) (by decide) (qr591 r_kv5 r_kv6 r_kv7 hnf r_x9 q_x9 ph1_S11 ph3_S11 ph1_S18 ph1_S25 bb_x24 c30 ph1_S76 bb_x75 c81 ph1_S127 q_x133 c134 r_x136 q_x136 r_x140 q_x140 r_x146 q_x146 r_x153 q_x153 r_x158 q_x158 ex159))
        have hG := rg_c eS160 hI ea4 o_a4 (by decide) hG
        have el149 := el_ob eS160 o_a4 o_a144 (by decide) el149
        have el156 := el_ob eS160 o_a4 o_a151 (by decide) el156
        have hI := hIn
        have f0 := fr_I eS160 g0 f0 o_a4 (by decide)
        have d_x136 := rd_Ij eS160 (by decide) d_x136
        have d_kv7 := rd_Ij eS160 (by decide) d_kv7
        have d_x133 := rd_Ik eS160 o_a4 o_v0 (by decide) d_x133
        have d_kv131 := rd_Ik eS160 o_a4 o_v0 (by decide) d_kv131
        have d_kv132 := rd_Ik eS160 o_a4 o_v0 (by decide) d_kv132
        have d_x159 := rd_Is eS160 (rfl : x159 = x159)
        have ea4 := rf_I eS160 ea4
        have ea138 := rf_I eS160 ea138
        have ea144 := rf_I eS160 ea144
        have ea151 := rf_I eS160 ea151
        have l_a138 := ln_I eS160 l_a138
        have l_a144 := ln_I eS160 l_a144
        have l_a151 := ln_I eS160 l_a151
        have g0 := gr_I eS160 g0
        have o_a138 := ob_I eS160 o_a138
        have o_a144 := ob_I eS160 o_a144
        have o_a151 := ob_I eS160 o_a151
        have o_a4 := ob_I eS160 o_a4
        have o_v0 := ob_I eS160 o_v0
        intro _
        refine ⟨a4, ea4, ?_⟩
        refine ⟨o_a4, ?_⟩
        obtain ⟨a162, ea162, o_a162, l_a162⟩ := shl 40 rfl hI o_a4
        refine ⟨a162, ea162, ?_⟩
        refine ⟨a4, ea4, ?_⟩
        refine ⟨o_a4, ?_⟩
        intro x164 ex164
        have r_x164 : (0 : Int32) ≤ x164 ∧ x164 ≤ (8 : Int32) := by rw [ex164]; exact nu 18 rfl hI o_a4
        have q_x164 : x164 = x136 := ex164.trans d_x136.symm
        have d_x164 := ex164
        refine ⟨o_a162, ?_⟩
        have i165 : vp_in x164 (hN _ a162) := (vin l_a162 (m := 8) (by decide) (qr592 r_kv5 r_kv6 r_kv7 hnf r_x9 q_x9 ph1_S11 ph3_S11 ph1_S18 ph1_S25 bb_x24 c30 ph1_S76 bb_x75 c81 ph1_S127 q_x133 c134 r_x136 q_x136 r_x140 q_x140 r_x146 q_x146 r_x153 q_x153 r_x158 q_x158 ex159 r_x164 q_x164))
        refine ⟨i165, ?_⟩
        intro S166 eS166
        have hIn : IV S166 := by rw [eS166]; exact iv10_aI hI o_a4 (rg_nw hG ea4) ea162 o_a162 (by decide)
        have hG := rg_a (jj := 18) (x := x164) eS166 hI ea4 o_a4 ea162 o_a162 (by decide) (h1_no (by decide)) (h2_no (y := 0) (by decide)) hG
        have el149 := el_ar eS166 (ow_ne hI o_a4 (by decide) o_a4 (by decide) ea162 ea144 (by decide)) el149
        have el156 := el_ar eS166 (ow_ne hI o_a4 (by decide) o_a4 (by decide) ea162 ea151 (by decide)) el156
        have hI := hIn
        have f0 := fr_A eS166 g0 f0 o_a162 (by decide)
        have d_x164 := rd_Ik eS166 o_a162 o_a4 (by decide) d_x164
        have d_kv7 := rd_Ik eS166 o_a162 o_a4 (by decide) d_kv7
        have d_x133 := rd_Ik eS166 o_a162 o_v0 (by decide) d_x133
        have d_kv131 := rd_Ik eS166 o_a162 o_v0 (by decide) d_kv131
        have d_kv132 := rd_Ik eS166 o_a162 o_v0 (by decide) d_kv132
        have d_x159 := rd_Ik eS166 o_a162 o_a4 (by decide) d_x159
        have ea4 := rf_I eS166 ea4
        have ea138 := rf_I eS166 ea138
        have ea144 := rf_I eS166 ea144
        have ea151 := rf_I eS166 ea151
        have ea162 := rf_I eS166 ea162
        have l_a138 := ln_I eS166 l_a138
        have l_a144 := ln_I eS166 l_a144
        have l_a151 := ln_I eS166 l_a151
        have l_a162 := ln_I eS166 l_a162
        have g0 := gr_I eS166 g0
        have o_a138 := ob_I eS166 o_a138
        have o_a144 := ob_I eS166 o_a144
        have o_a151 := ob_I eS166 o_a151
        have o_a162 := ob_I eS166 o_a162
        have o_a4 := ob_I eS166 o_a4
        have o_v0 := ob_I eS166 o_v0
        refine ⟨a4, ea4, ?_⟩
        refine ⟨o_a4, ?_⟩
        obtain ⟨a168, ea168, o_a168, l_a168⟩ := shl 34 rfl hI o_a4
        refine ⟨a168, ea168, ?_⟩
        refine ⟨a4, ea4, ?_⟩
        refine ⟨o_a4, ?_⟩
        intro x170 ex170
        have r_x170 : (0 : Int32) ≤ x170 ∧ x170 ≤ (8 : Int32) := by rw [ex170]; exact nu 18 rfl hI o_a4
        have q_x170 : x170 = x164 := ex170.trans d_x164.symm
        have d_x170 := ex170
        refine ⟨o_a168, ?_⟩
        have i171 : vp_in x170 (hN _ a168) := (vin l_a168 (m := 8) (by decide) (qr593 r_kv5 r_kv6 r_kv7 hnf r_x9 q_x9 ph1_S11 ph3_S11 ph1_S18 ph1_S25 bb_x24 c30 ph1_S76 bb_x75 c81 ph1_S127 q_x133 c134 r_x136 q_x136 r_x140 q_x140 r_x146 q_x146 r_x153 q_x153 r_x158 q_x158 ex159 r_x164 q_x164 r_x170 q_x170))
        refine ⟨i171, ?_⟩
        intro S172 eS172
        have hIn : IV S172 := by rw [eS172]; exact iv10_aI hI o_a4 (rg_nw hG ea4) ea168 o_a168 (by decide)
        have hG := rg_a (jj := 12) (x := x170) eS172 hI ea4 o_a4 ea168 o_a168 (by decide) (h1_no (by decide)) (h2_no (y := 0) (by decide)) hG
        have el149 := el_ar eS172 (ow_ne hI o_a4 (by decide) o_a4 (by decide) ea168 ea144 (by decide)) el149
        have el156 := el_ar eS172 (ow_ne hI o_a4 (by decide) o_a4 (by decide) ea168 ea151 (by decide)) el156
        have hI := hIn
        have f0 := fr_A eS172 g0 f0 o_a168 (by decide)
        have d_x170 := rd_Ik eS172 o_a168 o_a4 (by decide) d_x170
        have d_kv7 := rd_Ik eS172 o_a168 o_a4 (by decide) d_kv7
        have d_x133 := rd_Ik eS172 o_a168 o_v0 (by decide) d_x133
        have d_kv131 := rd_Ik eS172 o_a168 o_v0 (by decide) d_kv131
        have d_kv132 := rd_Ik eS172 o_a168 o_v0 (by decide) d_kv132
        have d_x159 := rd_Ik eS172 o_a168 o_a4 (by decide) d_x159
        have ea4 := rf_I eS172 ea4
        have ea138 := rf_I eS172 ea138
        have ea144 := rf_I eS172 ea144
        have ea151 := rf_I eS172 ea151
        have ea162 := rf_I eS172 ea162
        have ea168 := rf_I eS172 ea168
        have l_a138 := ln_I eS172 l_a138
        have l_a144 := ln_I eS172 l_a144
        have l_a151 := ln_I eS172 l_a151
        have l_a162 := ln_I eS172 l_a162
        have l_a168 := ln_I eS172 l_a168
        have g0 := gr_I eS172 g0
        have o_a138 := ob_I eS172 o_a138
        have o_a144 := ob_I eS172 o_a144
        have o_a151 := ob_I eS172 o_a151
        have o_a162 := ob_I eS172 o_a162
        have o_a168 := ob_I eS172 o_a168
        have o_a4 := ob_I eS172 o_a4
        have o_v0 := ob_I eS172 o_v0
        refine ⟨a4, ea4, ?_⟩
        refine ⟨o_a4, ?_⟩
        intro x174 ex174
        have r_x174 : (0 : Int32) ≤ x174 ∧ x174 ≤ (8 : Int32) := by rw [ex174]; exact nu 18 rfl hI o_a4
        have q_x174 : x174 = x170 := ex174.trans d_x170.symm
        have d_x174 := ex174
        intro x175 ex175
        intro S176 eS176
        have hIn : IV S176 := by rw [eS176]; exact iv10_sI hI o_a4 (rg_nw hG ea4) (nu_one (lo := (0 : Int32)) (hi := (8 : Int32)) (by decide) (qr594 r_kv5 r_kv6 r_kv7 hnf r_x9 q_x9 ph1_S11 ph3_S11 ph1_S18 ph1_S25 bb_x24 c30 ph1_S76 bb_x75 c81 ph1_S127 q_x133 c134 r_x136 q_x136 r_x140 q_x140 r_x146 q_x146 r_x153 q_x153 r_x158 q_x158 ex159 r_x164 q_x164 r_x170 q_x170 r_x174 q_x174 ex175))
        have hG := rg_inc (c := 2) (y := x174) eS176 hI ea4 o_a4 d_x174.symm (qr595 r_kv5 r_kv6 r_kv7 hnf r_x9 q_x9 ph1_S11 ph3_S11 ph1_S18 ph1_S25 bb_x24 c30 ph1_S76 bb_x75 c81 ph1_S127 q_x133 c134 r_x136 q_x136 r_x140 q_x140 r_x146 q_x146 r_x153 q_x153 r_x158 q_x158 ex159 r_x164 q_x164 r_x170 q_x170 r_x174 q_x174 ex175) (qr596 r_kv5 r_kv6 r_kv7 hnf r_x9 q_x9 ph1_S11 ph3_S11 ph1_S18 ph1_S25 bb_x24 c30 ph1_S76 bb_x75 c81 ph1_S127 q_x133 c134 r_x136 q_x136 r_x140 q_x140 r_x146 q_x146 r_x153 q_x153 r_x158 q_x158 ex159 r_x164 q_x164 r_x170 q_x170 r_x174 q_x174 ex175) hn_2 (hs_2 eS176 d_x174.symm d_kv7.symm (qr595 r_kv5 r_kv6 r_kv7 hnf r_x9 q_x9 ph1_S11 ph3_S11 ph1_S18 ph1_S25 bb_x24 c30 ph1_S76 bb_x75 c81 ph1_S127 q_x133 c134 r_x136 q_x136 r_x140 q_x140 r_x146 q_x146 r_x153 q_x153 r_x158 q_x158 ex159 r_x164 q_x164 r_x170 q_x170 r_x174 q_x174 ex175) (qr596 r_kv5 r_kv6 r_kv7 hnf r_x9 q_x9 ph1_S11 ph3_S11 ph1_S18 ph1_S25 bb_x24 c30 ph1_S76 bb_x75 c81 ph1_S127 q_x133 c134 r_x136 q_x136 r_x140 q_x140 r_x146 q_x146 r_x153 q_x153 r_x158 q_x158 ex159 r_x164 q_x164 r_x170 q_x170 r_x174 q_x174 ex175) (qr597 r_kv5 r_kv6 r_kv7 hnf r_x9 q_x9 ph1_S11 ph3_S11 ph1_S18 ph1_S25 bb_x24 c30 ph1_S76 bb_x75 c81 ph1_S127 q_x133 c134 r_x136 q_x136 r_x140 q_x140 r_x146 q_x146 r_x153 q_x153 r_x158 q_x158 ex159 r_x164 q_x164 r_x170 q_x170 r_x174 q_x174 ex175) ea144 ea151 el149 (el156.trans (qr598 r_kv5 r_kv6 r_kv7 hnf r_x9 q_x9 ph1_S11 ph3_S11 ph1_S18 ph1_S25 bb_x24 c30 ph1_S76 bb_x75 c81 ph1_S127 q_x133 c134 r_x136 q_x136 r_x140 q_x140 r_x146 q_x146 r_x153 q_x153 r_x158 q_x158 ex159 r_x164 q_x164 r_x170 q_x170 r_x174 q_x174 ex175)) (qr599 r_kv5 r_kv6 r_kv7 hnf r_x9 q_x9 ph1_S11 ph3_S11 ph1_S18 ph1_S25 bb_x24 c30 ph1_S76 bb_x75 c81 ph1_S127 q_x133 c134 r_x136 q_x136 r_x140 q_x140 r_x146 q_x146 r_x153 q_x153 r_x158 q_x158 ex159 r_x164 q_x164 r_x170 q_x170 r_x174 q_x174 ex175) (qr600 r_kv5 r_kv6 r_kv7 hnf r_x9 q_x9 ph1_S11 ph3_S11 ph1_S18 ph1_S25 bb_x24 c30 ph1_S76 bb_x75 c81 ph1_S127 q_x133 c134 r_x136 q_x136 r_x140 q_x140 r_x146 q_x146 r_x153 q_x153 r_x158 q_x158 ex159 r_x164 q_x164 r_x170 q_x170 r_x174 q_x174 ex175)) hG
        have el149 := el_ob eS176 o_a4 o_a144 (by decide) el149
        have el156 := el_ob eS176 o_a4 o_a151 (by decide) el156
        have hI := hIn
        have f0 := fr_I eS176 g0 f0 o_a4 (by decide)
        have d_kv7 := rd_Ij eS176 (by decide) d_kv7
        have d_x133 := rd_Ik eS176 o_a4 o_v0 (by decide) d_x133
        have d_kv131 := rd_Ik eS176 o_a4 o_v0 (by decide) d_kv131
        have d_kv132 := rd_Ik eS176 o_a4 o_v0 (by decide) d_kv132
        have d_x159 := rd_Ij eS176 (by decide) d_x159
        have d_x175 := rd_Is eS176 (rfl : x175 = x175)
        have ea4 := rf_I eS176 ea4
        have ea138 := rf_I eS176 ea138
        have ea144 := rf_I eS176 ea144
        have ea151 := rf_I eS176 ea151
        have ea162 := rf_I eS176 ea162
        have ea168 := rf_I eS176 ea168
        have l_a138 := ln_I eS176 l_a138
        have l_a144 := ln_I eS176 l_a144
        have l_a151 := ln_I eS176 l_a151
        have l_a162 := ln_I eS176 l_a162
        have l_a168 := ln_I eS176 l_a168
        have g0 := gr_I eS176 g0
        have o_a138 := ob_I eS176 o_a138
        have o_a144 := ob_I eS176 o_a144
        have o_a151 := ob_I eS176 o_a151
        have o_a162 := ob_I eS176 o_a162
        have o_a168 := ob_I eS176 o_a168
        have o_a4 := ob_I eS176 o_a4
        have o_v0 := ob_I eS176 o_v0
        have hn : RN S176 v0 := fun z ez => by obtain rfl : a4 = z := Option.some.inj (ea4.symm.trans ez); rw [← d_x159, ← d_x175, ← d_kv7]; exact (qr601 r_kv5 r_kv6 r_kv7 hnf r_x9 q_x9 ph1_S11 ph3_S11 ph1_S18 ph1_S25 bb_x24 c30 ph1_S76 bb_x75 c81 ph1_S127 q_x133 c134 r_x136 q_x136 r_x140 q_x140 r_x146 q_x146 r_x153 q_x153 r_x158 q_x158 ex159 r_x164 q_x164 r_x170 q_x170 r_x174 q_x174 ex175)
        exact hq _ hI g0 f0 ⟨hG, hn, (by have t : x133 = 5 → 0 < kv131 := (qr602 hO r_kv5 r_kv6 r_kv7 hnf r_x9 q_x9 ph0_S11 ph1_S11 ph3_S11 ph0_S18 ph1_S18 ph0_S25 ph1_S25 bb_x24 c30 ph0_S76 ph1_S76 bb_x75 c81 ph0_S127 ph1_S127 q_x133 c134 r_x136 q_x136 r_x140 q_x140 r_x146 q_x146 r_x153 q_x153 r_x158 q_x158 ex159 r_x164 q_x164 r_x170 q_x170 r_x174 q_x174 ex175); rw [d_x133, d_kv131] at t; exact t), (by have t : x133 = 5 ∨ ¬ kv2 = 5 := (qr603 r_kv5 r_kv6 r_kv7 hnf r_x9 q_x9 ph1_S11 ph3_S11 ph1_S18 ph1_S25 bb_x24 c30 ph1_S76 bb_x75 c81 ph1_S127 q_x133 c134 r_x136 q_x136 r_x140 q_x140 r_x146 q_x146 r_x153 q_x153 r_x158 q_x158 ex159 r_x164 q_x164 r_x170 q_x170 r_x174 q_x174 ex175); rw [di_9, d_x133] at t; exact t), (by have t : kv1 ≤ kv132 ∧ (x133 = 4 → kv1 < kv132 ∨ kv2 = 4) := (qr604 r_kv1 r_kv5 r_kv6 r_kv7 hnf r_x9 q_x9 ph1_S11 r_kv16 ph2_S11 ph3_S11 ph1_S18 r_kv23 ph2_S18 ph1_S25 r_kv29 ph2_S25 bb_x24 c30 ph1_S76 r_kv80 ph2_S76 bb_x75 c81 ph1_S127 r_kv132 ph2_S127 q_x133 c134 r_x136 q_x136 r_x140 q_x140 r_x146 q_x146 r_x153 q_x153 r_x158 q_x158 ex159 r_x164 q_x164 r_x170 q_x170 r_x174 q_x174 ex175); rw [di_8, di_9, d_kv132, d_x133] at t; exact t)⟩
      · exact hq _ hI g0 f0 ⟨hG, hn, (by have t : x133 = 5 → 0 < kv131 := (qr605 hO r_kv5 r_kv6 r_kv7 hnf r_x9 q_x9 ph0_S11 ph1_S11 ph3_S11 ph0_S18 ph1_S18 ph0_S25 ph1_S25 bb_x24 c30 ph0_S76 ph1_S76 bb_x75 c81 ph0_S127 ph1_S127 q_x133 c134); rw [d_x133, d_kv131] at t; exact t), (by have t : x133 = 5 ∨ ¬ kv2 = 5 := (qr606 r_kv5 r_kv6 r_kv7 hnf r_x9 q_x9 ph1_S11 ph3_S11 ph1_S18 ph1_S25 bb_x24 c30 ph1_S76 bb_x75 c81 ph1_S127 q_x133 c134); rw [di_9, d_x133] at t; exact t), (by have t : kv1 ≤ kv132 ∧ (x133 = 4 → kv1 < kv132 ∨ kv2 = 4) := (qr607 r_kv1 r_kv5 r_kv6 r_kv7 hnf r_x9 q_x9 ph1_S11 r_kv16 ph2_S11 ph3_S11 ph1_S18 r_kv23 ph2_S18 ph1_S25 r_kv29 ph2_S25 bb_x24 c30 ph1_S76 r_kv80 ph2_S76 bb_x75 c81 ph1_S127 r_kv132 ph2_S127 q_x133 c134); rw [di_8, di_9, d_kv132, d_x133] at t; exact t)⟩
