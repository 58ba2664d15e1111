set_option maxHeartbeats 4000000 in
set_option maxRecDepth 20000 in
theorem m_X11_readRoad {v0 : Nat} {Q : HS → Prop} {S : HS} (hI : IV S) (o_v0 : ob S v0 11)    (hG : RG S v0) (hn : RN S v0) (hO : fI S v0 9 = 5 → 0 < fI S v0 13) (hq : ∀ (T : HS), IV T → Gr S T → FRI [(10, 3), (11, 8), (11, 9), (11, 10), (11, 11), (11, 12), (11, 13), (11, 14)] [] S T → (RG T v0) ∧ (RN T v0) ∧ (fI T v0 9 = 5 → 0 < fI T v0 13) ∧ (fI T v0 9 = 5 ∨ ¬ fI S v0 9 = 5) ∧ (fI S v0 8 ≤ fI T v0 8 ∧ (fI T v0 9 = 4 → fI S v0 8 < fI T v0 8 ∨ fI S v0 9 = 4)) → Q T) : P_X11_readRoad v0 Q S := by
  have g0 := gr_rf S
  have f0 := fri_rf [(10, 3), (11, 8), (11, 9), (11, 10), (11, 11), (11, 12), (11, 13), (11, 14)] [] S
  obtain ⟨kv1, d_kv1⟩ : ∃ z : Int32, z = fI S v0 8 := ⟨_, rfl⟩
  have r_kv1 : (0 : Int32) ≤ kv1 ∧ kv1 ≤ (900 : Int32) := by rw [d_kv1]; exact nu 25 rfl hI o_v0
  have di_8 := d_kv1
  obtain ⟨kv2, d_kv2⟩ : ∃ z : Int32, z = fI S v0 9 := ⟨_, rfl⟩
  have di_9 := d_kv2
  obtain ⟨kv3, d_kv3⟩ : ∃ z : Int32, z = fI S v0 13 := ⟨_, rfl⟩
  have di_13 := d_kv3
  have hO : kv2 = 5 → 0 < kv3 := by rw [d_kv2, d_kv3]; exact hO
  obtain ⟨a4, ea4, o_a4, -⟩ := id hG
  obtain ⟨kv5, d_kv5⟩ : ∃ z : Int32, z = fI S a4 6 := ⟨_, rfl⟩
  have r_kv5 : (0 : Int32) ≤ kv5 ∧ kv5 ≤ (12 : Int32) := by rw [d_kv5]; exact nu 22 rfl hI o_a4
  obtain ⟨kv6, d_kv6⟩ : ∃ z : Int32, z = fI S a4 2 := ⟨_, rfl⟩
  have r_kv6 : (0 : Int32) ≤ kv6 ∧ kv6 ≤ (8 : Int32) := by rw [d_kv6]; exact nu 18 rfl hI o_a4
  obtain ⟨kv7, d_kv7⟩ : ∃ z : Int32, z = fI S a4 4 := ⟨_, rfl⟩
  have r_kv7 : (0 : Int32) ≤ kv7 ∧ kv7 ≤ (4 : Int32) := by rw [d_kv7]; exact nu 20 rfl hI o_a4
  have hnf : kv5 = kv6 + kv7 := by rw [d_kv5, d_kv6, d_kv7]; exact hn _ ea4
  refine u_X11_readRoad ?_
  refine u_X11_readRoad_0 ?_
  refine ⟨o_v0, ?_⟩
  refine ⟨a4, ea4, ?_⟩
  refine ⟨o_a4, ?_⟩
  intro x9 ex9
  have r_x9 : (0 : Int32) ≤ x9 ∧ x9 ≤ (12 : Int32) := by rw [ex9]; exact nu 19 rfl hI o_a4
  have d_x9 := ex9
  have do9_kv1 := d_kv1
  have do9_kv2 := d_kv2
  have do9_kv3 := d_kv3
  refine m_X11_begins hI o_v0 hG (by have t : kv2 = 5 → 0 < kv3 := (qr1 hO); rw [d_kv2, d_kv3] at t; exact t) (fun S11 hJ g12 fc13 p_S11 => ?_)
  obtain ⟨hG, pg0_S11, pg1_S11, pg2_S11, pg3_S11⟩ := p_S11
  have hn := rn_fr fc13 g12 hI o_v0 (by decide) hn
  have hI := hJ
  have d_kv5 := d_kv5.trans (fri_at fc13 (by decide) (by decide) o_a4).symm
  have d_kv6 := d_kv6.trans (fri_at fc13 (by decide) (by decide) o_a4).symm
  have d_kv7 := d_kv7.trans (fri_at fc13 (by decide) (by decide) o_a4).symm
  have d_x9 := d_x9.trans (fri_at fc13 (by decide) (by decide) o_a4).symm
  have ea4 := (frr_at fc13 (by decide) (by decide) o_v0).trans ea4
  have f0 := fri_tr (S := S) g0 f0 fc13 (by decide) (by decide)
  have o_a4 := gr_ob g12 o_a4
  have o_v0 := gr_ob g12 o_v0
  have g0 := gr_tr (T := S) g0 g12
  obtain ⟨kv14, d_kv14⟩ : ∃ z : Int32, z = fI S11 v0 9 := ⟨_, rfl⟩
  obtain ⟨kv15, d_kv15⟩ : ∃ z : Int32, z = fI S11 v0 13 := ⟨_, rfl⟩
  have ph0_S11 : kv14 = 5 → 0 < kv15 := by rw [d_kv14, d_kv15]; exact pg0_S11
  have ph1_S11 : kv14 = 5 ∨ ¬ kv2 = 5 := by rw [do9_kv2, d_kv14]; exact pg1_S11
  obtain ⟨kv16, d_kv16⟩ : ∃ z : Int32, z = fI S11 v0 8 := ⟨_, rfl⟩
  have r_kv16 : (0 : Int32) ≤ kv16 ∧ kv16 ≤ (900 : Int32) := by rw [d_kv16]; exact nu 25 rfl hI o_v0
  have ph2_S11 : kv1 ≤ kv16 ∧ (kv14 = 4 → kv1 < kv16 ∨ kv2 = 4) := by rw [do9_kv1, do9_kv2, d_kv16, d_kv14]; exact pg2_S11
  have ph3_S11 : kv14 = 5 ∨ ¬ x9 = (12 : Int32) := by rw [d_kv14]; exact pg3_S11
  intro _
  have do16_kv16 := d_kv16
  have do16_kv14 := d_kv14
  have do16_kv15 := d_kv15
  refine m_X11_known hI o_v0 (qr365) hG hn (by have t : kv14 = 5 → 0 < kv15 := (qr366 hO r_x9 ph0_S11 ph1_S11 ph3_S11); rw [d_kv14, d_kv15] at t; exact t) (fun x17 S18 hJ g19 fc20 p_x17 => ?_)
  obtain ⟨hG, hn, p_x17, pg0_S18, pg1_S18, pg2_S18⟩ := p_x17
  have hI := hJ
  have d_kv5 := d_kv5.trans (fri_at fc20 (by decide) (by decide) o_a4).symm
  have d_kv6 := d_kv6.trans (fri_at fc20 (by decide) (by decide) o_a4).symm
  have d_kv7 := d_kv7.trans (fri_at fc20 (by decide) (by decide) o_a4).symm
  have d_x9 := d_x9.trans (fri_at fc20 (by decide) (by decide) o_a4).symm
  have d_kv16 := d_kv16.trans (fri_at fc20 (by decide) (by decide) o_v0).symm
  have ea4 := (frr_at fc20 (by decide) (by decide) o_v0).trans ea4
  have f0 := fri_tr (S := S11) g0 f0 fc20 (by decide) (by decide)
  have o_a4 := gr_ob g19 o_a4
  have o_v0 := gr_ob g19 o_v0
  have g0 := gr_tr (T := S11) g0 g19
  obtain ⟨kv21, d_kv21⟩ : ∃ z : Int32, z = fI S18 v0 9 := ⟨_, rfl⟩
  obtain ⟨kv22, d_kv22⟩ : ∃ z : Int32, z = fI S18 v0 13 := ⟨_, rfl⟩
  have ph0_S18 : kv21 = 5 → 0 < kv22 := by rw [d_kv21, d_kv22]; exact pg0_S18
  have ph1_S18 : kv21 = 5 ∨ ¬ kv14 = 5 := by rw [do16_kv14, d_kv21]; exact pg1_S18
  have ph2_S18 : kv16 ≤ kv16 ∧ (kv21 = 4 → kv16 < kv16 ∨ kv14 = 4) := by rw [d_kv16, do16_kv14, d_kv21]; exact pg2_S18
  intro _
  have kk_x17 : kv21 = 5 ∨ (0 ≤ x17 ∧ x17 < kv6) := by rw [d_kv21, d_kv6]; exact kr0 p_x17 ea4
  have do22_kv16 := d_kv16
  have do22_kv21 := d_kv21
  have do22_kv22 := d_kv22
  refine m_X11_goesOn hI o_v0 hG (by have t : kv21 = 5 → 0 < kv22 := (qr367 hO r_kv5 r_kv6 r_kv7 hnf r_x9 ph0_S11 ph1_S11 ph3_S11 ph0_S18 ph1_S18 kk_x17); rw [d_kv21, d_kv22] at t; exact t) (fun S24 hJ g25 fc26 p_S24 => ?_)
  obtain ⟨hG, pg0_S24, pg1_S24, pg2_S24⟩ := p_S24
  have hn := rn_fr fc26 g25 hI o_v0 (by decide) hn
  have hI := hJ
  have d_kv5 := d_kv5.trans (fri_at fc26 (by decide) (by decide) o_a4).symm
  have d_kv6 := d_kv6.trans (fri_at fc26 (by decide) (by decide) o_a4).symm
  have d_kv7 := d_kv7.trans (fri_at fc26 (by decide) (by decide) o_a4).symm
  have d_x9 := d_x9.trans (fri_at fc26 (by decide) (by decide) o_a4).symm
  have d_kv22 := d_kv22.trans (fri_at fc26 (by decide) (by decide) o_v0).symm
  have ea4 := (frr_at fc26 (by decide) (by decide) o_v0).trans ea4
  have f0 := fri_tr (S := S18) g0 f0 fc26 (by decide) (by decide)
  have o_a4 := gr_ob g25 o_a4
  have o_v0 := gr_ob g25 o_v0
  have g0 := gr_tr (T := S18) g0 g25
  obtain ⟨kv27, d_kv27⟩ : ∃ z : Int32, z = fI S24 v0 9 := ⟨_, rfl⟩
  have ph0_S24 : kv27 = 5 → 0 < kv22 := by rw [d_kv27, d_kv22]; exact pg0_S24
  have ph1_S24 : kv27 = 5 ∨ ¬ kv21 = 5 := by rw [do22_kv21, d_kv27]; exact pg1_S24
  obtain ⟨kv28, d_kv28⟩ : ∃ z : Int32, z = fI S24 v0 8 := ⟨_, rfl⟩
  have r_kv28 : (0 : Int32) ≤ kv28 ∧ kv28 ≤ (900 : Int32) := by rw [d_kv28]; exact nu 25 rfl hI o_v0
  have ph2_S24 : kv16 ≤ kv28 ∧ (kv27 = 4 → kv16 < kv28 ∨ kv21 = 4) := by rw [do22_kv16, do22_kv21, d_kv28, d_kv27]; exact pg2_S24
  intro _
  have do28_kv28 := d_kv28
  have do28_kv27 := d_kv27
  have do28_kv22 := d_kv22
  refine m_X11_readSide hI o_v0 hG (by have t : kv27 = 5 → 0 < kv22 := (qr368 hO r_kv5 r_kv6 r_kv7 hnf r_x9 ph0_S11 ph1_S11 ph3_S11 ph0_S18 ph1_S18 kk_x17 ph0_S24 ph1_S24); rw [d_kv27, d_kv22] at t; exact t) (fun x29 S30 hJ g31 fc32 p_x29 => ?_)
  obtain ⟨hG, pg0_S30, pg1_S30, pg2_S30⟩ := p_x29
  have hn := rn_fr fc32 g31 hI o_v0 (by decide) hn
  have hI := hJ
  have d_kv5 := d_kv5.trans (fri_at fc32 (by decide) (by decide) o_a4).symm
  have d_kv6 := d_kv6.trans (fri_at fc32 (by decide) (by decide) o_a4).symm
  have d_kv7 := d_kv7.trans (fri_at fc32 (by decide) (by decide) o_a4).symm
  have d_x9 := d_x9.trans (fri_at fc32 (by decide) (by decide) o_a4).symm
  have ea4 := (frr_at fc32 (by decide) (by decide) o_v0).trans ea4
  have f0 := fri_tr (S := S24) g0 f0 fc32 (by decide) (by decide)
  have o_a4 := gr_ob g31 o_a4
  have o_v0 := gr_ob g31 o_v0
  have g0 := gr_tr (T := S24) g0 g31
  obtain ⟨kv33, d_kv33⟩ : ∃ z : Int32, z = fI S30 v0 9 := ⟨_, rfl⟩
  obtain ⟨kv34, d_kv34⟩ : ∃ z : Int32, z = fI S30 v0 13 := ⟨_, rfl⟩
  have ph0_S30 : kv33 = 5 → 0 < kv34 := by rw [d_kv33, d_kv34]; exact pg0_S30
  have ph1_S30 : kv33 = 5 ∨ ¬ kv27 = 5 := by rw [do28_kv27, d_kv33]; exact pg1_S30
  obtain ⟨kv35, d_kv35⟩ : ∃ z : Int32, z = fI S30 v0 8 := ⟨_, rfl⟩
  have r_kv35 : (0 : Int32) ≤ kv35 ∧ kv35 ≤ (900 : Int32) := by rw [d_kv35]; exact nu 25 rfl hI o_v0
  have ph2_S30 : kv28 ≤ kv35 ∧ (kv33 = 4 → kv28 < kv35 ∨ kv27 = 4) := by rw [do28_kv28, do28_kv27, d_kv35, d_kv33]; exact pg2_S30
  intro _
  have do35_kv35 := d_kv35
  have do35_kv33 := d_kv33
  have do35_kv34 := d_kv34
  refine m_X11_readWhole hI o_v0 hG (by have t : kv33 = 5 → 0 < kv34 := (qr369 hO r_kv5 r_kv6 r_kv7 hnf r_x9 ph0_S11 ph1_S11 ph3_S11 ph0_S18 ph1_S18 kk_x17 ph0_S24 ph1_S24 ph0_S30 ph1_S30); rw [d_kv33, d_kv34] at t; exact t) (fun x36 S37 hJ g38 fc39 p_x36 => ?_)
  obtain ⟨hG, p_x36, pg0_S37, pg1_S37, pg2_S37⟩ := p_x36
  have hn := rn_fr fc39 g38 hI o_v0 (by decide) hn
  have hI := hJ
  have d_kv5 := d_kv5.trans (fri_at fc39 (by decide) (by decide) o_a4).symm
  have d_kv6 := d_kv6.trans (fri_at fc39 (by decide) (by decide) o_a4).symm
  have d_kv7 := d_kv7.trans (fri_at fc39 (by decide) (by decide) o_a4).symm
  have d_x9 := d_x9.trans (fri_at fc39 (by decide) (by decide) o_a4).symm
  have ea4 := (frr_at fc39 (by decide) (by decide) o_v0).trans ea4
  have f0 := fri_tr (S := S30) g0 f0 fc39 (by decide) (by decide)
  have o_a4 := gr_ob g38 o_a4
  have o_v0 := gr_ob g38 o_v0
  have g0 := gr_tr (T := S30) g0 g38
  obtain ⟨kv40, d_kv40⟩ : ∃ z : Int32, z = fI S37 v0 9 := ⟨_, rfl⟩
  obtain ⟨kv41, d_kv41⟩ : ∃ z : Int32, z = fI S37 v0 13 := ⟨_, rfl⟩
  have ph0_S37 : kv40 = 5 → 0 < kv41 := by rw [d_kv40, d_kv41]; exact pg0_S37
  have ph1_S37 : kv40 = 5 ∨ ¬ kv33 = 5 := by rw [do35_kv33, d_kv40]; exact pg1_S37
  obtain ⟨kv42, d_kv42⟩ : ∃ z : Int32, z = fI S37 v0 8 := ⟨_, rfl⟩
  have r_kv42 : (0 : Int32) ≤ kv42 ∧ kv42 ≤ (900 : Int32) := by rw [d_kv42]; exact nu 25 rfl hI o_v0
  have ph2_S37 : kv35 ≤ kv42 ∧ (kv40 = 4 → kv35 < kv42 ∨ kv33 = 4) := by rw [do35_kv35, do35_kv33, d_kv42, d_kv40]; exact pg2_S37
  intro _
  have do42_kv42 := d_kv42
  have do42_kv40 := d_kv40
  have do42_kv41 := d_kv41
  refine m_X11_known hI o_v0 (qr365) hG hn (by have t : kv40 = 5 → 0 < kv41 := (qr370 hO r_kv5 r_kv6 r_kv7 hnf r_x9 ph0_S11 ph1_S11 ph3_S11 ph0_S18 ph1_S18 kk_x17 ph0_S24 ph1_S24 ph0_S30 ph1_S30 ph0_S37 ph1_S37); rw [d_kv40, d_kv41] at t; exact t) (fun x43 S44 hJ g45 fc46 p_x43 => ?_)
  obtain ⟨hG, hn, p_x43, pg0_S44, pg1_S44, pg2_S44⟩ := p_x43
  have hI := hJ
  have d_kv5 := d_kv5.trans (fri_at fc46 (by decide) (by decide) o_a4).symm
  have d_kv6 := d_kv6.trans (fri_at fc46 (by decide) (by decide) o_a4).symm
  have d_kv7 := d_kv7.trans (fri_at fc46 (by decide) (by decide) o_a4).symm
  have d_x9 := d_x9.trans (fri_at fc46 (by decide) (by decide) o_a4).symm
  have d_kv42 := d_kv42.trans (fri_at fc46 (by decide) (by decide) o_v0).symm
  have ea4 := (frr_at fc46 (by decide) (by decide) o_v0).trans ea4
  have f0 := fri_tr (S := S37) g0 f0 fc46 (by decide) (by decide)
  have o_a4 := gr_ob g45 o_a4
  have o_v0 := gr_ob g45 o_v0
  have g0 := gr_tr (T := S37) g0 g45
  obtain ⟨kv47, d_kv47⟩ : ∃ z : Int32, z = fI S44 v0 9 := ⟨_, rfl⟩
  obtain ⟨kv48, d_kv48⟩ : ∃ z : Int32, z = fI S44 v0 13 := ⟨_, rfl⟩
  have ph0_S44 : kv47 = 5 → 0 < kv48 := by rw [d_kv47, d_kv48]; exact pg0_S44
  have ph1_S44 : kv47 = 5 ∨ ¬ kv40 = 5 := by rw [do42_kv40, d_kv47]; exact pg1_S44
  have ph2_S44 : kv42 ≤ kv42 ∧ (kv47 = 4 → kv42 < kv42 ∨ kv40 = 4) := by rw [d_kv42, do42_kv40, d_kv47]; exact pg2_S44
  intro _
  have kk_x43 : kv47 = 5 ∨ (0 ≤ x43 ∧ x43 < kv6) := by rw [d_kv47, d_kv6]; exact kr0 p_x43 ea4
  intro x49 ex49
  have q_x49 : x49 = kv47 := ex49.trans d_kv47.symm
  have d_x49 := ex49
  refine ⟨fun c50 => ?_, fun c50 => ?_⟩
  · refine u_X11_readRoad_62 ?_
    refine ⟨o_v0, ?_⟩
    have do50_kv42 := d_kv42
    have do50_x49 := d_x49
    have do50_kv48 := d_kv48
    refine m_X11_goesOn hI o_v0 hG (by have t : x49 = 5 → 0 < kv48 := (qr371 hO r_kv5 r_kv6 r_kv7 hnf r_x9 ph0_S11 ph1_S11 ph3_S11 ph0_S18 ph1_S18 kk_x17 ph0_S24 ph1_S24 ph0_S30 ph1_S30 ph0_S37 ph1_S37 ph0_S44 ph1_S44 kk_x43 q_x49 c50); rw [d_x49, d_kv48] at t; exact t) (fun S52 hJ g53 fc54 p_S52 => ?_)
    obtain ⟨hG, pg0_S52, pg1_S52, pg2_S52⟩ := p_S52
    have hn := rn_fr fc54 g53 hI o_v0 (by decide) hn
    have hI := hJ
    have d_kv5 := d_kv5.trans (fri_at fc54 (by decide) (by decide) o_a4).symm
    have d_kv6 := d_kv6.trans (fri_at fc54 (by decide) (by decide) o_a4).symm
    have d_kv7 := d_kv7.trans (fri_at fc54 (by decide) (by decide) o_a4).symm
    have d_x9 := d_x9.trans (fri_at fc54 (by decide) (by decide) o_a4).symm
    have d_kv48 := d_kv48.trans (fri_at fc54 (by decide) (by decide) o_v0).symm
    have ea4 := (frr_at fc54 (by decide) (by decide) o_v0).trans ea4
    have f0 := fri_tr (S := S44) g0 f0 fc54 (by decide) (by decide)
    have o_a4 := gr_ob g53 o_a4
    have o_v0 := gr_ob g53 o_v0
    have g0 := gr_tr (T := S44) g0 g53
    obtain ⟨kv55, d_kv55⟩ : ∃ z : Int32, z = fI S52 v0 9 := ⟨_, rfl⟩
    have ph0_S52 : kv55 = 5 → 0 < kv48 := by rw [d_kv55, d_kv48]; exact pg0_S52
    have ph1_S52 : kv55 = 5 ∨ ¬ x49 = 5 := by rw [do50_x49, d_kv55]; exact pg1_S52
    obtain ⟨kv56, d_kv56⟩ : ∃ z : Int32, z = fI S52 v0 8 := ⟨_, rfl⟩
    have r_kv56 : (0 : Int32) ≤ kv56 ∧ kv56 ≤ (900 : Int32) := by rw [d_kv56]; exact nu 25 rfl hI o_v0
    have ph2_S52 : kv42 ≤ kv56 ∧ (kv55 = 4 → kv42 < kv56 ∨ x49 = 4) := by rw [do50_kv42, do50_x49, d_kv56, d_kv55]; exact pg2_S52
    intro _
    have do56_kv56 := d_kv56
    have do56_kv55 := d_kv55
    have do56_kv48 := d_kv48
    refine m_X11_eatsWord hI o_v0 (by decide) hG (by have t : kv55 = 5 → 0 < kv48 := (qr372 hO r_kv5 r_kv6 r_kv7 hnf r_x9 ph0_S11 ph1_S11 ph3_S11 ph0_S18 ph1_S18 kk_x17 ph0_S24 ph1_S24 ph0_S30 ph1_S30 ph0_S37 ph1_S37 ph0_S44 ph1_S44 kk_x43 q_x49 c50 ph0_S52 ph1_S52); rw [d_kv55, d_kv48] at t; exact t) (fun x57 S58 hJ g59 fc60 b_x57 p_x57 => ?_)
    obtain ⟨hG, pg0_S58, pg1_S58, pg2_S58⟩ := p_x57
    have hn := rn_fr fc60 g59 hI o_v0 (by decide) hn
    have hI := hJ
    have d_kv5 := d_kv5.trans (fri_at fc60 (by decide) (by decide) o_a4).symm
    have d_kv6 := d_kv6.trans (fri_at fc60 (by decide) (by decide) o_a4).symm
    have d_kv7 := d_kv7.trans (fri_at fc60 (by decide) (by decide) o_a4).symm
    have d_x9 := d_x9.trans (fri_at fc60 (by decide) (by decide) o_a4).symm
    have d_kv48 := d_kv48.trans (fri_at fc60 (by decide) (by decide) o_v0).symm
    have ea4 := (frr_at fc60 (by decide) (by decide) o_v0).trans ea4
    have f0 := fri_tr (S := S52) g0 f0 fc60 (by decide) (by decide)
    have o_a4 := gr_ob g59 o_a4
    have o_v0 := gr_ob g59 o_v0
    have g0 := gr_tr (T := S52) g0 g59
    obtain ⟨kv61, d_kv61⟩ : ∃ z : Int32, z = fI S58 v0 9 := ⟨_, rfl⟩
    have ph0_S58 : kv61 = 5 → 0 < kv48 := by rw [d_kv61, d_kv48]; exact pg0_S58
    have ph1_S58 : kv61 = 5 ∨ ¬ kv55 = 5 := by rw [do56_kv55, d_kv61]; exact pg1_S58
    obtain ⟨kv62, d_kv62⟩ : ∃ z : Int32, z = fI S58 v0 8 := ⟨_, rfl⟩
    have r_kv62 : (0 : Int32) ≤ kv62 ∧ kv62 ≤ (900 : Int32) := by rw [d_kv62]; exact nu 25 rfl hI o_v0
    have ph2_S58 : kv56 ≤ kv62 ∧ (kv61 = 4 → kv56 < kv62 ∨ kv55 = 4) := by rw [do56_kv56, do56_kv55, d_kv62, d_kv61]; exact pg2_S58
    intro _ _
    have bb_x57 : x57 = 0 ∨ x57 = 1 := b_x57
    refine ⟨fun c63 => ?_, fun c63 => ?_⟩
    · refine u_X11_readRoad_85 ?_
      refine ⟨o_v0, ?_⟩
      intro x64 ex64
      have q_x64 : x64 = kv61 := ex64.trans d_kv61.symm
      have d_x64 := ex64
      refine ⟨fun c65 => ?_, fun c65 => ?_⟩
      · refine ⟨a4, ea4, ?_⟩
        refine ⟨o_a4, ?_⟩
        intro x67 ex67
        have r_x67 : (0 : Int32) ≤ x67 ∧ x67 ≤ (12 : Int32) := by rw [ex67]; exact nu 19 rfl hI o_a4
        have q_x67 : x67 = x9 := ex67.trans d_x9.symm
        have d_x67 := ex67
        refine ⟨a4, ea4, ?_⟩
        refine ⟨o_a4, ?_⟩
        obtain ⟨a69, ea69, o_a69, l_a69⟩ := shl 35 rfl hI o_a4
        refine ⟨a69, ea69, ?_⟩
        refine ⟨o_a69, ?_⟩
        have i70 : vp_in x67 (hN _ a69) := (vin l_a69 (m := 12) (by decide) (qr373 r_kv5 r_kv6 r_kv7 hnf r_x9 ph1_S11 ph3_S11 ph1_S18 kk_x17 ph1_S24 ph1_S30 ph1_S37 ph1_S44 kk_x43 q_x49 c50 ph1_S52 ph1_S58 bb_x57 c63 q_x64 c65 r_x67 q_x67))
        refine ⟨i70, ?_⟩
        intro S71 eS71
        have hIn : IV S71 := by rw [eS71]; exact iv10_aI hI o_a4 (rg_nw hG ea4) ea69 o_a69 (by decide)
        have hG := rg_a (jj := 13) (x := x67) eS71 hI ea4 o_a4 ea69 o_a69 (by decide) (h1_one (c := 3) (lo := 0) (hi := 7) (hf := 2) (by decide) (by rw [← d_x67]; exact (qr374 r_kv5 r_kv6 r_kv7 hnf r_x9 ph1_S11 ph3_S11 ph1_S18 kk_x17 ph1_S24 ph1_S30 ph1_S37 ph1_S44 kk_x43 q_x49 c50 ph1_S52 ph1_S58 bb_x57 c63 q_x64 c65 r_x67 q_x67))) (h2_no (y := 0) (by decide)) hG
        have hn := rn_11 eS71 hI o_v0 o_a69 (by decide) hn
        have hI := hIn
        have f0 := fr_A eS71 g0 f0 o_a69 (by decide)
        have d_kv5 := rd_Ik eS71 o_a69 o_a4 (by decide) d_kv5
        have d_kv6 := rd_Ik eS71 o_a69 o_a4 (by decide) d_kv6
        have d_kv7 := rd_Ik eS71 o_a69 o_a4 (by decide) d_kv7
        have d_x67 := rd_Ik eS71 o_a69 o_a4 (by decide) d_x67
        have d_kv48 := rd_Ik eS71 o_a69 o_v0 (by decide) d_kv48
        have d_x64 := rd_Ik eS71 o_a69 o_v0 (by decide) d_x64
        have d_kv62 := rd_Ik eS71 o_a69 o_v0 (by decide) d_kv62
        have ea4 := rf_I eS71 ea4
        have ea69 := rf_I eS71 ea69
        have l_a69 := ln_I eS71 l_a69
        have g0 := gr_I eS71 g0
        have o_a4 := ob_I eS71 o_a4
        have o_a69 := ob_I eS71 o_a69
        have o_v0 := ob_I eS71 o_v0
        have el72 : fI S71 a69 x67.toNatClampNeg = x17 := by rw [eS71]; exact u2_self _ _ _ _
        refine ⟨a4, ea4, ?_⟩
        refine ⟨o_a4, ?_⟩
        obtain ⟨a74, ea74, o_a74, l_a74⟩ := shl 36 rfl hI o_a4
        refine ⟨a74, ea74, ?_⟩
        refine ⟨o_a74, ?_⟩
        have i75 : vp_in x67 (hN _ a74) := (vin l_a74 (m := 12) (by decide) (qr373 r_kv5 r_kv6 r_kv7 hnf r_x9 ph1_S11 ph3_S11 ph1_S18 kk_x17 ph1_S24 ph1_S30 ph1_S37 ph1_S44 kk_x43 q_x49 c50 ph1_S52 ph1_S58 bb_x57 c63 q_x64 c65 r_x67 q_x67))
        refine ⟨i75, ?_⟩
        intro S76 eS76
        have hIn : IV S76 := by rw [eS76]; exact iv10_aI hI o_a4 (rg_nw hG ea4) ea74 o_a74 (by decide)
        have hG := rg_a (jj := 14) (x := x67) eS76 hI ea4 o_a4 ea74 o_a74 (by decide) (h1_one (c := 3) (lo := 0) (hi := 7) (hf := 2) (by decide) (by rw [← d_x67]; exact (qr374 r_kv5 r_kv6 r_kv7 hnf r_x9 ph1_S11 ph3_S11 ph1_S18 kk_x17 ph1_S24 ph1_S30 ph1_S37 ph1_S44 kk_x43 q_x49 c50 ph1_S52 ph1_S58 bb_x57 c63 q_x64 c65 r_x67 q_x67))) (h2_no (y := 0) (by decide)) hG
        have hn := rn_11 eS76 hI o_v0 o_a74 (by decide) hn
        have el72 := el_ar eS76 (ow_ne hI o_a4 (by decide) o_a4 (by decide) ea74 ea69 (by decide)) el72
        have hI := hIn
        have f0 := fr_A eS76 g0 f0 o_a74 (by decide)
        have d_kv5 := rd_Ik eS76 o_a74 o_a4 (by decide) d_kv5
        have d_kv6 := rd_Ik eS76 o_a74 o_a4 (by decide) d_kv6
        have d_kv7 := rd_Ik eS76 o_a74 o_a4 (by decide) d_kv7
        have d_x67 := rd_Ik eS76 o_a74 o_a4 (by decide) d_x67
        have d_kv48 := rd_Ik eS76 o_a74 o_v0 (by decide) d_kv48
        have d_x64 := rd_Ik eS76 o_a74 o_v0 (by decide) d_x64
        have d_kv62 := rd_Ik eS76 o_a74 o_v0 (by decide) d_kv62
        have ea4 := rf_I eS76 ea4
        have ea69 := rf_I eS76 ea69
        have ea74 := rf_I eS76 ea74
        have l_a69 := ln_I eS76 l_a69
        have l_a74 := ln_I eS76 l_a74
        have g0 := gr_I eS76 g0
        have o_a4 := ob_I eS76 o_a4
        have o_a69 := ob_I eS76 o_a69
        have o_a74 := ob_I eS76 o_a74
        have o_v0 := ob_I eS76 o_v0
        have el77 : fI S76 a74 x67.toNatClampNeg = x43 := by rw [eS76]; exact u2_self _ _ _ _
        refine ⟨a4, ea4, ?_⟩
        refine ⟨o_a4, ?_⟩
        obtain ⟨a79, ea79, o_a79, l_a79⟩ := shl 37 rfl hI o_a4
        refine ⟨a79, ea79, ?_⟩
        refine ⟨o_a79, ?_⟩
        have i80 : vp_in x67 (hN _ a79) := (vin l_a79 (m := 12) (by decide) (qr373 r_kv5 r_kv6 r_kv7 hnf r_x9 ph1_S11 ph3_S11 ph1_S18 kk_x17 ph1_S24 ph1_S30 ph1_S37 ph1_S44 kk_x43 q_x49 c50 ph1_S52 ph1_S58 bb_x57 c63 q_x64 c65 r_x67 q_x67))
        refine ⟨i80, ?_⟩
        intro S81 eS81
        have hIn : IV S81 := by rw [eS81]; exact iv10_aI hI o_a4 (rg_nw hG ea4) ea79 o_a79 (by decide)
        have hG := rg_a (jj := 15) (x := x67) eS81 hI ea4 o_a4 ea79 o_a79 (by decide) (h1_no (by decide)) (h2_no (y := 0) (by decide)) hG
        have hn := rn_11 eS81 hI o_v0 o_a79 (by decide) hn
        have el72 := el_ar eS81 (ow_ne hI o_a4 (by decide) o_a4 (by decide) ea79 ea69 (by decide)) el72
        have el77 := el_ar eS81 (ow_ne hI o_a4 (by decide) o_a4 (by decide) ea79 ea74 (by decide)) el77
        have hI := hIn
        have f0 := fr_A eS81 g0 f0 o_a79 (by decide)
        have d_kv5 := rd_Ik eS81 o_a79 o_a4 (by decide) d_kv5
        have d_kv6 := rd_Ik eS81 o_a79 o_a4 (by decide) d_kv6
        have d_kv7 := rd_Ik eS81 o_a79 o_a4 (by decide) d_kv7
        have d_x67 := rd_Ik eS81 o_a79 o_a4 (by decide) d_x67
        have d_kv48 := rd_Ik eS81 o_a79 o_v0 (by decide) d_kv48
        have d_x64 := rd_Ik eS81 o_a79 o_v0 (by decide) d_x64
        have d_kv62 := rd_Ik eS81 o_a79 o_v0 (by decide) d_kv62
        have ea4 := rf_I eS81 ea4
        have ea69 := rf_I eS81 ea69
        have ea74 := rf_I eS81 ea74
        have ea79 := rf_I eS81 ea79
        have l_a69 := ln_I eS81 l_a69
        have l_a74 := ln_I eS81 l_a74
        have l_a79 := ln_I eS81 l_a79
        have g0 := gr_I eS81 g0
        have o_a4 := ob_I eS81 o_a4
        have o_a69 := ob_I eS81 o_a69
        have o_a74 := ob_I eS81 o_a74
        have o_a79 := ob_I eS81 o_a79
        have o_v0 := ob_I eS81 o_v0
        refine ⟨a4, ea4, ?_⟩
        refine ⟨o_a4, ?_⟩
        obtain ⟨a83, ea83, o_a83, l_a83⟩ := shl 38 rfl hI o_a4
        refine ⟨a83, ea83, ?_⟩
        refine ⟨o_a83, ?_⟩
        have i84 : vp_in x67 (hN _ a83) := (vin l_a83 (m := 12) (by decide) (qr373 r_kv5 r_kv6 r_kv7 hnf r_x9 ph1_S11 ph3_S11 ph1_S18 kk_x17 ph1_S24 ph1_S30 ph1_S37 ph1_S44 kk_x43 q_x49 c50 ph1_S52 ph1_S58 bb_x57 c63 q_x64 c65 r_x67 q_x67))
        refine ⟨i84, ?_⟩
        intro S85 eS85
        have hIn : IV S85 := by rw [eS85]; exact iv10_aI hI o_a4 (rg_nw hG ea4) ea83 o_a83 (by decide)
        have hG := rg_a (jj := 16) (x := x67) eS85 hI ea4 o_a4 ea83 o_a83 (by decide) (h1_one (c := 3) (lo := 1) (hi := 60) (hf := 99) (by decide) (by rw [← d_x67]; exact (qr374 r_kv5 r_kv6 r_kv7 hnf r_x9 ph1_S11 ph3_S11 ph1_S18 kk_x17 ph1_S24 ph1_S30 ph1_S37 ph1_S44 kk_x43 q_x49 c50 ph1_S52 ph1_S58 bb_x57 c63 q_x64 c65 r_x67 q_x67))) (h2_no (y := 0) (by decide)) hG
        have hn := rn_11 eS85 hI o_v0 o_a83 (by decide) hn
        have el72 := el_ar eS85 (ow_ne hI o_a4 (by decide) o_a4 (by decide) ea83 ea69 (by decide)) el72
        have el77 := el_ar eS85 (ow_ne hI o_a4 (by decide) o_a4 (by decide) ea83 ea74 (by decide)) el77
        have hI := hIn
        have f0 := fr_A eS85 g0 f0 o_a83 (by decide)
        have d_kv5 := rd_Ik eS85 o_a83 o_a4 (by decide) d_kv5
        have d_kv6 := rd_Ik eS85 o_a83 o_a4 (by decide) d_kv6
        have d_kv7 := rd_Ik eS85 o_a83 o_a4 (by decide) d_kv7
        have d_x67 := rd_Ik eS85 o_a83 o_a4 (by decide) d_x67
        have d_kv48 := rd_Ik eS85 o_a83 o_v0 (by decide) d_kv48
        have d_x64 := rd_Ik eS85 o_a83 o_v0 (by decide) d_x64
        have d_kv62 := rd_Ik eS85 o_a83 o_v0 (by decide) d_kv62
        have ea4 := rf_I eS85 ea4
        have ea69 := rf_I eS85 ea69
        have ea74 := rf_I eS85 ea74
        have ea79 := rf_I eS85 ea79
        have ea83 := rf_I eS85 ea83
        have l_a69 := ln_I eS85 l_a69
        have l_a74 := ln_I eS85 l_a74
        have l_a79 := ln_I eS85 l_a79
        have l_a83 := ln_I eS85 l_a83
        have g0 := gr_I eS85 g0
        have o_a4 := ob_I eS85 o_a4
        have o_a69 := ob_I eS85 o_a69
        have o_a74 := ob_I eS85 o_a74
        have o_a79 := ob_I eS85 o_a79
        have o_a83 := ob_I eS85 o_a83
        have o_v0 := ob_I eS85 o_v0
        have el86 : fI S85 a83 x67.toNatClampNeg = x36 := by rw [eS85]; exact u2_self _ _ _ _
        refine ⟨a4, ea4, ?_⟩
        refine ⟨o_a4, ?_⟩
        obtain ⟨a88, ea88, o_a88, l_a88⟩ := shl 39 rfl hI o_a4
        refine ⟨a88, ea88, ?_⟩
        refine ⟨o_a88, ?_⟩
        have i89 : vp_in x67 (hN _ a88) := (vin l_a88 (m := 12) (by decide) (qr373 r_kv5 r_kv6 r_kv7 hnf r_x9 ph1_S11 ph3_S11 ph1_S18 kk_x17 ph1_S24 ph1_S30 ph1_S37 ph1_S44 kk_x43 q_x49 c50 ph1_S52 ph1_S58 bb_x57 c63 q_x64 c65 r_x67 q_x67))
        refine ⟨i89, ?_⟩
        intro S90 eS90
        have hIn : IV S90 := by rw [eS90]; exact iv10_aI hI o_a4 (rg_nw hG ea4) ea88 o_a88 (by decide)
        have hG := rg_a (jj := 17) (x := x67) eS90 hI ea4 o_a4 ea88 o_a88 (by decide) (h1_no (by decide)) (h2_no (y := 0) (by decide)) hG
        have hn := rn_11 eS90 hI o_v0 o_a88 (by decide) hn
        have el72 := el_ar eS90 (ow_ne hI o_a4 (by decide) o_a4 (by decide) ea88 ea69 (by decide)) el72
        have el77 := el_ar eS90 (ow_ne hI o_a4 (by decide) o_a4 (by decide) ea88 ea74 (by decide)) el77
        have el86 := el_ar eS90 (ow_ne hI o_a4 (by decide) o_a4 (by decide) ea88 ea83 (by decide)) el86
        have hI := hIn
        have f0 := fr_A eS90 g0 f0 o_a88 (by decide)
        have d_kv5 := rd_Ik eS90 o_a88 o_a4 (by decide) d_kv5
        have d_kv6 := rd_Ik eS90 o_a88 o_a4 (by decide) d_kv6
        have d_kv7 := rd_Ik eS90 o_a88 o_a4 (by decide) d_kv7
        have d_x67 := rd_Ik eS90 o_a88 o_a4 (by decide) d_x67
        have d_kv48 := rd_Ik eS90 o_a88 o_v0 (by decide) d_kv48
        have d_x64 := rd_Ik eS90 o_a88 o_v0 (by decide) d_x64
        have d_kv62 := rd_Ik eS90 o_a88 o_v0 (by decide) d_kv62
        have ea4 := rf_I eS90 ea4
        have ea69 := rf_I eS90 ea69
        have ea74 := rf_I eS90 ea74
        have ea79 := rf_I eS90 ea79
        have ea83 := rf_I eS90 ea83
        have ea88 := rf_I eS90 ea88
        have l_a69 := ln_I eS90 l_a69
        have l_a74 := ln_I eS90 l_a74
        have l_a79 := ln_I eS90 l_a79
        have l_a83 := ln_I eS90 l_a83
        have l_a88 := ln_I eS90 l_a88
        have g0 := gr_I eS90 g0
        have o_a4 := ob_I eS90 o_a4
        have o_a69 := ob_I eS90 o_a69
        have o_a74 := ob_I eS90 o_a74
        have o_a79 := ob_I eS90 o_a79
        have o_a83 := ob_I eS90 o_a83
        have o_a88 := ob_I eS90 o_a88
        have o_v0 := ob_I eS90 o_v0
        refine ⟨a4, ea4, ?_⟩
        refine ⟨o_a4, ?_⟩
        intro x92 ex92
        have r_x92 : (0 : Int32) ≤ x92 ∧ x92 ≤ (12 : Int32) := by rw [ex92]; exact nu 19 rfl hI o_a4
        have q_x92 : x92 = x67 := ex92.trans d_x67.symm
        have d_x92 := ex92
        intro x93 ex93
        intro S94 eS94
        have hIn : IV S94 := by rw [eS94]; exact iv10_sI hI o_a4 (rg_nw hG ea4) (nu_one (lo := (0 : Int32)) (hi := (12 : Int32)) (by decide) (qr375 r_kv5 r_kv6 r_kv7 hnf r_x9 ph1_S11 ph3_S11 ph1_S18 kk_x17 ph1_S24 ph1_S30 ph1_S37 ph1_S44 kk_x43 q_x49 c50 ph1_S52 ph1_S58 bb_x57 c63 q_x64 c65 r_x67 q_x67 r_x92 q_x92 ex93))
        have hG := rg_inc (c := 3) (y := x92) eS94 hI ea4 o_a4 d_x92.symm (qr376 r_kv5 r_kv6 r_kv7 hnf r_x9 ph1_S11 ph3_S11 ph1_S18 kk_x17 ph1_S24 ph1_S30 ph1_S37 ph1_S44 kk_x43 q_x49 c50 ph1_S52 ph1_S58 bb_x57 c63 q_x64 c65 r_x67 q_x67 r_x92 q_x92 ex93) (qr377 r_kv5 r_kv6 r_kv7 hnf r_x9 ph1_S11 ph3_S11 ph1_S18 kk_x17 ph1_S24 ph1_S30 ph1_S37 ph1_S44 kk_x43 q_x49 c50 ph1_S52 ph1_S58 bb_x57 c63 q_x64 c65 r_x67 q_x67 r_x92 q_x92 ex93) (hn_3 ea69 (by rw [show x92 = x67 from (qr378 r_kv5 r_kv6 r_kv7 hnf r_x9 ph1_S11 ph3_S11 ph1_S18 kk_x17 ph1_S24 ph1_S30 ph1_S37 ph1_S44 kk_x43 q_x49 c50 ph1_S52 ph1_S58 bb_x57 c63 q_x64 c65 r_x67 q_x67 r_x92 q_x92 ex93), el72]; exact ⟨(qr379 r_kv5 r_kv6 r_kv7 hnf r_x9 ph1_S11 ph3_S11 ph1_S18 kk_x17 ph1_S24 ph1_S30 ph1_S37 ph1_S44 kk_x43 q_x49 c50 ph1_S52 ph1_S58 bb_x57 c63 q_x64 c65 r_x67 q_x67 r_x92 q_x92 ex93), (qr380 r_kv5 r_kv6 r_kv7 hnf r_x9 ph1_S11 ph3_S11 ph1_S18 kk_x17 ph1_S24 ph1_S30 ph1_S37 ph1_S44 kk_x43 q_x49 c50 ph1_S52 ph1_S58 bb_x57 c63 q_x64 c65 r_x67 q_x67 r_x92 q_x92 ex93), Or.inr (by rw [← d_kv6]; exact (qr381 r_kv5 r_kv6 r_kv7 hnf r_x9 ph1_S11 ph3_S11 ph1_S18 kk_x17 ph1_S24 ph1_S30 ph1_S37 ph1_S44 kk_x43 q_x49 c50 ph1_S52 ph1_S58 bb_x57 c63 q_x64 c65 r_x67 q_x67 r_x92 q_x92 ex93))⟩) ea74 (by rw [show x92 = x67 from (qr378 r_kv5 r_kv6 r_kv7 hnf r_x9 ph1_S11 ph3_S11 ph1_S18 kk_x17 ph1_S24 ph1_S30 ph1_S37 ph1_S44 kk_x43 q_x49 c50 ph1_S52 ph1_S58 bb_x57 c63 q_x64 c65 r_x67 q_x67 r_x92 q_x92 ex93), el77]; exact ⟨(qr382 r_kv5 r_kv6 r_kv7 hnf r_x9 ph1_S11 ph3_S11 ph1_S18 kk_x17 ph1_S24 ph1_S30 ph1_S37 ph1_S44 kk_x43 q_x49 c50 ph1_S52 ph1_S58 bb_x57 c63 q_x64 c65 r_x67 q_x67 r_x92 q_x92 ex93), (qr383 r_kv5 r_kv6 r_kv7 hnf r_x9 ph1_S11 ph3_S11 ph1_S18 kk_x17 ph1_S24 ph1_S30 ph1_S37 ph1_S44 kk_x43 q_x49 c50 ph1_S52 ph1_S58 bb_x57 c63 q_x64 c65 r_x67 q_x67 r_x92 q_x92 ex93), Or.inr (by rw [← d_kv6]; exact (qr384 r_kv5 r_kv6 r_kv7 hnf r_x9 ph1_S11 ph3_S11 ph1_S18 kk_x17 ph1_S24 ph1_S30 ph1_S37 ph1_S44 kk_x43 q_x49 c50 ph1_S52 ph1_S58 bb_x57 c63 q_x64 c65 r_x67 q_x67 r_x92 q_x92 ex93))⟩) ea83 (by rw [show x92 = x67 from (qr378 r_kv5 r_kv6 r_kv7 hnf r_x9 ph1_S11 ph3_S11 ph1_S18 kk_x17 ph1_S24 ph1_S30 ph1_S37 ph1_S44 kk_x43 q_x49 c50 ph1_S52 ph1_S58 bb_x57 c63 q_x64 c65 r_x67 q_x67 r_x92 q_x92 ex93), el86]; exact ⟨(qr385 r_kv5 r_kv6 r_kv7 hnf r_x9 ph1_S11 ph3_S11 ph1_S18 kk_x17 ph1_S24 ph1_S30 ph1_S37 p_x36 ph1_S44 kk_x43 q_x49 c50 ph1_S52 ph1_S58 bb_x57 c63 q_x64 c65 r_x67 q_x67 r_x92 q_x92 ex93), (qr386 r_kv5 r_kv6 r_kv7 hnf r_x9 ph1_S11 ph3_S11 ph1_S18 kk_x17 ph1_S24 ph1_S30 ph1_S37 p_x36 ph1_S44 kk_x43 q_x49 c50 ph1_S52 ph1_S58 bb_x57 c63 q_x64 c65 r_x67 q_x67 r_x92 q_x92 ex93), Or.inl rfl⟩)) (fun z _ hz => by rw [eS94] at hz; exact hs_no (by decide) z hz) hG
        have hn := rn_c eS94 (by decide) hn
        have el72 := el_ob eS94 o_a4 o_a69 (by decide) el72
        have el77 := el_ob eS94 o_a4 o_a74 (by decide) el77
        have el86 := el_ob eS94 o_a4 o_a83 (by decide) el86
        have hI := hIn
        have f0 := fr_I eS94 g0 f0 o_a4 (by decide)
        have d_kv5 := rd_Ij eS94 (by decide) d_kv5
        have d_kv6 := rd_Ij eS94 (by decide) d_kv6
        have d_kv7 := rd_Ij eS94 (by decide) d_kv7
        have d_kv48 := rd_Ik eS94 o_a4 o_v0 (by decide) d_kv48
        have d_x64 := rd_Ik eS94 o_a4 o_v0 (by decide) d_x64
        have d_kv62 := rd_Ik eS94 o_a4 o_v0 (by decide) d_kv62
        have d_x93 := rd_Is eS94 (rfl : x93 = x93)
        have ea4 := rf_I eS94 ea4
        have ea69 := rf_I eS94 ea69
        have ea74 := rf_I eS94 ea74
        have ea79 := rf_I eS94 ea79
        have ea83 := rf_I eS94 ea83
        have ea88 := rf_I eS94 ea88
        have l_a69 := ln_I eS94 l_a69
        have l_a74 := ln_I eS94 l_a74
        have l_a79 := ln_I eS94 l_a79
        have l_a83 := ln_I eS94 l_a83
        have l_a88 := ln_I eS94 l_a88
        have g0 := gr_I eS94 g0
        have o_a4 := ob_I eS94 o_a4
        have o_a69 := ob_I eS94 o_a69
        have o_a74 := ob_I eS94 o_a74
        have o_a79 := ob_I eS94 o_a79
        have o_a83 := ob_I eS94 o_a83
        have o_a88 := ob_I eS94 o_a88
        have o_v0 := ob_I eS94 o_v0
        exact hq _ hI g0 f0 ⟨hG, hn, (by have t : x64 = 5 → 0 < kv48 := (qr387 hO r_kv5 r_kv6 r_kv7 hnf r_x9 ph0_S11 ph1_S11 ph3_S11 ph0_S18 ph1_S18 kk_x17 ph0_S24 ph1_S24 ph0_S30 ph1_S30 ph0_S37 ph1_S37 ph0_S44 ph1_S44 kk_x43 q_x49 c50 ph0_S52 ph1_S52 ph0_S58 ph1_S58 bb_x57 c63 q_x64 c65 r_x67 q_x67 r_x92 q_x92 ex93); rw [d_x64, d_kv48] at t; exact t), (by have t : x64 = 5 ∨ ¬ kv2 = 5 := (qr388 r_kv5 r_kv6 r_kv7 hnf r_x9 ph1_S11 ph3_S11 ph1_S18 kk_x17 ph1_S24 ph1_S30 ph1_S37 ph1_S44 kk_x43 q_x49 c50 ph1_S52 ph1_S58 bb_x57 c63 q_x64 c65 r_x67 q_x67 r_x92 q_x92 ex93); rw [di_9, d_x64] at t; exact t), (by have t : kv1 ≤ kv62 ∧ (x64 = 4 → kv1 < kv62 ∨ kv2 = 4) := (qr389 r_kv1 r_kv5 r_kv6 r_kv7 hnf r_x9 ph1_S11 r_kv16 ph2_S11 ph3_S11 ph1_S18 ph2_S18 kk_x17 ph1_S24 r_kv28 ph2_S24 ph1_S30 r_kv35 ph2_S30 ph1_S37 r_kv42 ph2_S37 ph1_S44 ph2_S44 kk_x43 q_x49 c50 ph1_S52 r_kv56 ph2_S52 ph1_S58 r_kv62 ph2_S58 bb_x57 c63 q_x64 c65 r_x67 q_x67 r_x92 q_x92 ex93); rw [di_8, di_9, d_kv62, d_x64] at t; exact t)⟩
      · exact hq _ hI g0 f0 ⟨hG, hn, (by have t : x64 = 5 → 0 < kv48 := (qr390 hO r_kv5 r_kv6 r_kv7 hnf r_x9 ph0_S11 ph1_S11 ph3_S11 ph0_S18 ph1_S18 kk_x17 ph0_S24 ph1_S24 ph0_S30 ph1_S30 ph0_S37 ph1_S37 ph0_S44 ph1_S44 kk_x43 q_x49 c50 ph0_S52 ph1_S52 ph0_S58 ph1_S58 bb_x57 c63 q_x64 c65); rw [d_x64, d_kv48] at t; exact t), (by have t : x64 = 5 ∨ ¬ kv2 = 5 := (qr391 r_kv5 r_kv6 r_kv7 hnf r_x9 ph1_S11 ph3_S11 ph1_S18 kk_x17 ph1_S24 ph1_S30 ph1_S37 ph1_S44 kk_x43 q_x49 c50 ph1_S52 ph1_S58 bb_x57 c63 q_x64 c65); rw [di_9, d_x64] at t; exact t), (by have t : kv1 ≤ kv62 ∧ (x64 = 4 → kv1 < kv62 ∨ kv2 = 4) := (qr392 r_kv1 r_kv5 r_kv6 r_kv7 hnf r_x9 ph1_S11 r_kv16 ph2_S11 ph3_S11 ph1_S18 ph2_S18 kk_x17 ph1_S24 r_kv28 ph2_S24 ph1_S30 r_kv35 ph2_S30 ph1_S37 r_kv42 ph2_S37 ph1_S44 ph2_S44 kk_x43 q_x49 c50 ph1_S52 r_kv56 ph2_S52 ph1_S58 r_kv62 ph2_S58 bb_x57 c63 q_x64 c65); rw [di_8, di_9, d_kv62, d_x64] at t; exact t)⟩
    · have do94_kv62 := d_kv62
      have do94_kv61 := d_kv61
      have do94_kv48 := d_kv48
      refine m_X11_readWhole hI o_v0 hG (by have t : kv61 = 5 → 0 < kv48 := (qr393 hO r_kv5 r_kv6 r_kv7 hnf r_x9 ph0_S11 ph1_S11 ph3_S11 ph0_S18 ph1_S18 kk_x17 ph0_S24 ph1_S24 ph0_S30 ph1_S30 ph0_S37 ph1_S37 ph0_S44 ph1_S44 kk_x43 q_x49 c50 ph0_S52 ph1_S52 ph0_S58 ph1_S58 bb_x57 c63); rw [d_kv61, d_kv48] at t; exact t) (fun x95 S96 hJ g97 fc98 p_x95 => ?_)
      obtain ⟨hG, p_x95, pg0_S96, pg1_S96, pg2_S96⟩ := p_x95
      have hn := rn_fr fc98 g97 hI o_v0 (by decide) hn
      have hI := hJ
      have d_kv5 := d_kv5.trans (fri_at fc98 (by decide) (by decide) o_a4).symm
      have d_kv6 := d_kv6.trans (fri_at fc98 (by decide) (by decide) o_a4).symm
      have d_kv7 := d_kv7.trans (fri_at fc98 (by decide) (by decide) o_a4).symm
      have d_x9 := d_x9.trans (fri_at fc98 (by decide) (by decide) o_a4).symm
      have ea4 := (frr_at fc98 (by decide) (by decide) o_v0).trans ea4
      have f0 := fri_tr (S := S58) g0 f0 fc98 (by decide) (by decide)
      have o_a4 := gr_ob g97 o_a4
      have o_v0 := gr_ob g97 o_v0
      have g0 := gr_tr (T := S58) g0 g97
      obtain ⟨kv99, d_kv99⟩ : ∃ z : Int32, z = fI S96 v0 9 := ⟨_, rfl⟩
      obtain ⟨kv100, d_kv100⟩ : ∃ z : Int32, z = fI S96 v0 13 := ⟨_, rfl⟩
      have ph0_S96 : kv99 = 5 → 0 < kv100 := by rw [d_kv99, d_kv100]; exact pg0_S96
      have ph1_S96 : kv99 = 5 ∨ ¬ kv61 = 5 := by rw [do94_kv61, d_kv99]; exact pg1_S96
      obtain ⟨kv101, d_kv101⟩ : ∃ z : Int32, z = fI S96 v0 8 := ⟨_, rfl⟩
      have r_kv101 : (0 : Int32) ≤ kv101 ∧ kv101 ≤ (900 : Int32) := by rw [d_kv101]; exact nu 25 rfl hI o_v0
      have ph2_S96 : kv62 ≤ kv101 ∧ (kv99 = 4 → kv62 < kv101 ∨ kv61 = 4) := by rw [do94_kv62, do94_kv61, d_kv101, d_kv99]; exact pg2_S96
      intro _
      refine u_X11_readRoad_85 ?_
      refine ⟨o_v0, ?_⟩
      intro x102 ex102
      have q_x102 : x102 = kv99 := ex102.trans d_kv99.symm
      have d_x102 := ex102
      refine ⟨fun c103 => ?_, fun c103 => ?_⟩
      · refine ⟨a4, ea4, ?_⟩
        refine ⟨o_a4, ?_⟩
        intro x105 ex105
        have r_x105 : (0 : Int32) ≤ x105 ∧ x105 ≤ (12 : Int32) := by rw [ex105]; exact nu 19 rfl hI o_a4
        have q_x105 : x105 = x9 := ex105.trans d_x9.symm
        have d_x105 := ex105
        refine ⟨a4, ea4, ?_⟩
        refine ⟨o_a4, ?_⟩
        obtain ⟨a107, ea107, o_a107, l_a107⟩ := shl 35 rfl hI o_a4
        refine ⟨a107, ea107, ?_⟩
        refine ⟨o_a107, ?_⟩
        have i108 : vp_in x105 (hN _ a107) := (vin l_a107 (m := 12) (by decide) (qr394 r_kv5 r_kv6 r_kv7 hnf r_x9 ph1_S11 ph3_S11 ph1_S18 kk_x17 ph1_S24 ph1_S30 ph1_S37 ph1_S44 kk_x43 q_x49 c50 ph1_S52 ph1_S58 bb_x57 c63 ph1_S96 q_x102 c103 r_x105 q_x105))
        refine ⟨i108, ?_⟩
        intro S109 eS109
        have hIn : IV S109 := by rw [eS109]; exact iv10_aI hI o_a4 (rg_nw hG ea4) ea107 o_a107 (by decide)
        have hG := rg_a (jj := 13) (x := x105) eS109 hI ea4 o_a4 ea107 o_a107 (by decide) (h1_one (c := 3) (lo := 0) (hi := 7) (hf := 2) (by decide) (by rw [← d_x105]; exact (qr395 r_kv5 r_kv6 r_kv7 hnf r_x9 ph1_S11 ph3_S11 ph1_S18 kk_x17 ph1_S24 ph1_S30 ph1_S37 ph1_S44 kk_x43 q_x49 c50 ph1_S52 ph1_S58 bb_x57 c63 ph1_S96 q_x102 c103 r_x105 q_x105))) (h2_no (y := 0) (by decide)) hG
        have hn := rn_11 eS109 hI o_v0 o_a107 (by decide) hn
        have hI := hIn
        have f0 := fr_A eS109 g0 f0 o_a107 (by decide)
        have d_kv5 := rd_Ik eS109 o_a107 o_a4 (by decide) d_kv5
        have d_kv6 := rd_Ik eS109 o_a107 o_a4 (by decide) d_kv6
        have d_kv7 := rd_Ik eS109 o_a107 o_a4 (by decide) d_kv7
        have d_x105 := rd_Ik eS109 o_a107 o_a4 (by decide) d_x105
        have d_x102 := rd_Ik eS109 o_a107 o_v0 (by decide) d_x102
        have d_kv100 := rd_Ik eS109 o_a107 o_v0 (by decide) d_kv100
        have d_kv101 := rd_Ik eS109 o_a107 o_v0 (by decide) d_kv101
        have ea4 := rf_I eS109 ea4
        have ea107 := rf_I eS109 ea107
        have l_a107 := ln_I eS109 l_a107
        have g0 := gr_I eS109 g0
        have o_a107 := ob_I eS109 o_a107
        have o_a4 := ob_I eS109 o_a4
        have o_v0 := ob_I eS109 o_v0
        have el110 : fI S109 a107 x105.toNatClampNeg = x17 := by rw [eS109]; exact u2_self _ _ _ _
        refine ⟨a4, ea4, ?_⟩
        refine ⟨o_a4, ?_⟩
        obtain ⟨a112, ea112, o_a112, l_a112⟩ := shl 36 rfl hI o_a4
        refine ⟨a112, ea112, ?_⟩
        refine ⟨o_a112, ?_⟩
        have i113 : vp_in x105 (hN _ a112) := (vin l_a112 (m := 12) (by decide) (qr394 r_kv5 r_kv6 r_kv7 hnf r_x9 ph1_S11 ph3_S11 ph1_S18 kk_x17 ph1_S24 ph1_S30 ph1_S37 ph1_S44 kk_x43 q_x49 c50 ph1_S52 ph1_S58 bb_x57 c63 ph1_S96 q_x102 c103 r_x105 q_x105))
        refine ⟨i113, ?_⟩
        intro S114 eS114
        have hIn : IV S114 := by rw [eS114]; exact iv10_aI hI o_a4 (rg_nw hG ea4) ea112 o_a112 (by decide)
        have hG := rg_a (jj := 14) (x := x105) eS114 hI ea4 o_a4 ea112 o_a112 (by decide) (h1_one (c := 3) (lo := 0) (hi := 7) (hf := 2) (by decide) (by rw [← d_x105]; exact (qr395 r_kv5 r_kv6 r_kv7 hnf r_x9 ph1_S11 ph3_S11 ph1_S18 kk_x17 ph1_S24 ph1_S30 ph1_S37 ph1_S44 kk_x43 q_x49 c50 ph1_S52 ph1_S58 bb_x57 c63 ph1_S96 q_x102 c103 r_x105 q_x105))) (h2_no (y := 0) (by decide)) hG
        have hn := rn_11 eS114 hI o_v0 o_a112 (by decide) hn
        have el110 := el_ar eS114 (ow_ne hI o_a4 (by decide) o_a4 (by decide) ea112 ea107 (by decide)) el110
        have hI := hIn
        have f0 := fr_A eS114 g0 f0 o_a112 (by decide)
        have d_kv5 := rd_Ik eS114 o_a112 o_a4 (by decide) d_kv5
        have d_kv6 := rd_Ik eS114 o_a112 o_a4 (by decide) d_kv6
        have d_kv7 := rd_Ik eS114 o_a112 o_a4 (by decide) d_kv7
        have d_x105 := rd_Ik eS114 o_a112 o_a4 (by decide) d_x105
        have d_x102 := rd_Ik eS114 o_a112 o_v0 (by decide) d_x102
        have d_kv100 := rd_Ik eS114 o_a112 o_v0 (by decide) d_kv100
        have d_kv101 := rd_Ik eS114 o_a112 o_v0 (by decide) d_kv101
        have ea4 := rf_I eS114 ea4
        have ea107 := rf_I eS114 ea107
        have ea112 := rf_I eS114 ea112
        have l_a107 := ln_I eS114 l_a107
        have l_a112 := ln_I eS114 l_a112
        have g0 := gr_I eS114 g0
        have o_a107 := ob_I eS114 o_a107
        have o_a112 := ob_I eS114 o_a112
        have o_a4 := ob_I eS114 o_a4
        have o_v0 := ob_I eS114 o_v0
        have el115 : fI S114 a112 x105.toNatClampNeg = x43 := by rw [eS114]; exact u2_self _ _ _ _
        refine ⟨a4, ea4, ?_⟩
        refine ⟨o_a4, ?_⟩
        obtain ⟨a117, ea117, o_a117, l_a117⟩ := shl 37 rfl hI o_a4
        refine ⟨a117, ea117, ?_⟩
        refine ⟨o_a117, ?_⟩
        have i118 : vp_in x105 (hN _ a117) := (vin l_a117 (m := 12) (by decide) (qr394 r_kv5 r_kv6 r_kv7 hnf r_x9 ph1_S11 ph3_S11 ph1_S18 kk_x17 ph1_S24 ph1_S30 ph1_S37 ph1_S44 kk_x43 q_x49 c50 ph1_S52 ph1_S58 bb_x57 c63 ph1_S96 q_x102 c103 r_x105 q_x105))
        refine ⟨i118, ?_⟩
        intro S119 eS119
        have hIn : IV S119 := by rw [eS119]; exact iv10_aI hI o_a4 (rg_nw hG ea4) ea117 o_a117 (by decide)
        have hG := rg_a (jj := 15) (x := x105) eS119 hI ea4 o_a4 ea117 o_a117 (by decide) (h1_no (by decide)) (h2_no (y := 0) (by decide)) hG
        have hn := rn_11 eS119 hI o_v0 o_a117 (by decide) hn
        have el110 := el_ar eS119 (ow_ne hI o_a4 (by decide) o_a4 (by decide) ea117 ea107 (by decide)) el110
        have el115 := el_ar eS119 (ow_ne hI o_a4 (by decide) o_a4 (by decide) ea117 ea112 (by decide)) el115
        have hI := hIn
        have f0 := fr_A eS119 g0 f0 o_a117 (by decide)
        have d_kv5 := rd_Ik eS119 o_a117 o_a4 (by decide) d_kv5
        have d_kv6 := rd_Ik eS119 o_a117 o_a4 (by decide) d_kv6
        have d_kv7 := rd_Ik eS119 o_a117 o_a4 (by decide) d_kv7
        have d_x105 := rd_Ik eS119 o_a117 o_a4 (by decide) d_x105
        have d_x102 := rd_Ik eS119 o_a117 o_v0 (by decide) d_x102
        have d_kv100 := rd_Ik eS119 o_a117 o_v0 (by decide) d_kv100
        have d_kv101 := rd_Ik eS119 o_a117 o_v0 (by decide) d_kv101
        have ea4 := rf_I eS119 ea4
        have ea107 := rf_I eS119 ea107
        have ea112 := rf_I eS119 ea112
        have ea117 := rf_I eS119 ea117
        have l_a107 := ln_I eS119 l_a107
        have l_a112 := ln_I eS119 l_a112
        have l_a117 := ln_I eS119 l_a117
        have g0 := gr_I eS119 g0
        have o_a107 := ob_I eS119 o_a107
        have o_a112 := ob_I eS119 o_a112
        have o_a117 := ob_I eS119 o_a117
        have o_a4 := ob_I eS119 o_a4
        have o_v0 := ob_I eS119 o_v0
        refine ⟨a4, ea4, ?_⟩
        refine ⟨o_a4, ?_⟩
        obtain ⟨a121, ea121, o_a121, l_a121⟩ := shl 38 rfl hI o_a4
        refine ⟨a121, ea121, ?_⟩
        refine ⟨o_a121, ?_⟩
        have i122 : vp_in x105 (hN _ a121) := (vin l_a121 (m := 12) (by decide) (qr394 r_kv5 r_kv6 r_kv7 hnf r_x9 ph1_S11 ph3_S11 ph1_S18 kk_x17 ph1_S24 ph1_S30 ph1_S37 ph1_S44 kk_x43 q_x49 c50 ph1_S52 ph1_S58 bb_x57 c63 ph1_S96 q_x102 c103 r_x105 q_x105))
        refine ⟨i122, ?_⟩
        intro S123 eS123
        have hIn : IV S123 := by rw [eS123]; exact iv10_aI hI o_a4 (rg_nw hG ea4) ea121 o_a121 (by decide)
        have hG := rg_a (jj := 16) (x := x105) eS123 hI ea4 o_a4 ea121 o_a121 (by decide) (h1_one (c := 3) (lo := 1) (hi := 60) (hf := 99) (by decide) (by rw [← d_x105]; exact (qr395 r_kv5 r_kv6 r_kv7 hnf r_x9 ph1_S11 ph3_S11 ph1_S18 kk_x17 ph1_S24 ph1_S30 ph1_S37 ph1_S44 kk_x43 q_x49 c50 ph1_S52 ph1_S58 bb_x57 c63 ph1_S96 q_x102 c103 r_x105 q_x105))) (h2_no (y := 0) (by decide)) hG
        have hn := rn_11 eS123 hI o_v0 o_a121 (by decide) hn
        have el110 := el_ar eS123 (ow_ne hI o_a4 (by decide) o_a4 (by decide) ea121 ea107 (by decide)) el110
        have el115 := el_ar eS123 (ow_ne hI o_a4 (by decide) o_a4 (by decide) ea121 ea112 (by decide)) el115
        have hI := hIn
        have f0 := fr_A eS123 g0 f0 o_a121 (by decide)
        have d_kv5 := rd_Ik eS123 o_a121 o_a4 (by decide) d_kv5
        have d_kv6 := rd_Ik eS123 o_a121 o_a4 (by decide) d_kv6
        have d_kv7 := rd_Ik eS123 o_a121 o_a4 (by decide) d_kv7
        have d_x105 := rd_Ik eS123 o_a121 o_a4 (by decide) d_x105
        have d_x102 := rd_Ik eS123 o_a121 o_v0 (by decide) d_x102
        have d_kv100 := rd_Ik eS123 o_a121 o_v0 (by decide) d_kv100
        have d_kv101 := rd_Ik eS123 o_a121 o_v0 (by decide) d_kv101
        have ea4 := rf_I eS123 ea4
        have ea107 := rf_I eS123 ea107
        have ea112 := rf_I eS123 ea112
        have ea117 := rf_I eS123 ea117
        have ea121 := rf_I eS123 ea121
        have l_a107 := ln_I eS123 l_a107
        have l_a112 := ln_I eS123 l_a112
        have l_a117 := ln_I eS123 l_a117
        have l_a121 := ln_I eS123 l_a121
        have g0 := gr_I eS123 g0
        have o_a107 := ob_I eS123 o_a107
        have o_a112 := ob_I eS123 o_a112
        have o_a117 := ob_I eS123 o_a117
        have o_a121 := ob_I eS123 o_a121
        have o_a4 := ob_I eS123 o_a4
        have o_v0 := ob_I eS123 o_v0
        have el124 : fI S123 a121 x105.toNatClampNeg = x36 := by rw [eS123]; exact u2_self _ _ _ _
        refine ⟨a4, ea4, ?_⟩
        refine ⟨o_a4, ?_⟩
        obtain ⟨a126, ea126, o_a126, l_a126⟩ := shl 39 rfl hI o_a4
        refine ⟨a126, ea126, ?_⟩
        refine ⟨o_a126, ?_⟩
        have i127 : vp_in x105 (hN _ a126) := (vin l_a126 (m := 12) (by decide) (qr394 r_kv5 r_kv6 r_kv7 hnf r_x9 ph1_S11 ph3_S11 ph1_S18 kk_x17 ph1_S24 ph1_S30 ph1_S37 ph1_S44 kk_x43 q_x49 c50 ph1_S52 ph1_S58 bb_x57 c63 ph1_S96 q_x102 c103 r_x105 q_x105))
        refine ⟨i127, ?_⟩
        intro S128 eS128
        have hIn : IV S128 := by rw [eS128]; exact iv10_aI hI o_a4 (rg_nw hG ea4) ea126 o_a126 (by decide)
        have hG := rg_a (jj := 17) (x := x105) eS128 hI ea4 o_a4 ea126 o_a126 (by decide) (h1_no (by decide)) (h2_no (y := 0) (by decide)) hG
        have hn := rn_11 eS128 hI o_v0 o_a126 (by decide) hn
        have el110 := el_ar eS128 (ow_ne hI o_a4 (by decide) o_a4 (by decide) ea126 ea107 (by decide)) el110
        have el115 := el_ar eS128 (ow_ne hI o_a4 (by decide) o_a4 (by decide) ea126 ea112 (by decide)) el115
        have el124 := el_ar eS128 (ow_ne hI o_a4 (by decide) o_a4 (by decide) ea126 ea121 (by decide)) el124
        have hI := hIn
        have f0 := fr_A eS128 g0 f0 o_a126 (by decide)
        have d_kv5 := rd_Ik eS128 o_a126 o_a4 (by decide) d_kv5
        have d_kv6 := rd_Ik eS128 o_a126 o_a4 (by decide) d_kv6
        have d_kv7 := rd_Ik eS128 o_a126 o_a4 (by decide) d_kv7
        have d_x105 := rd_Ik eS128 o_a126 o_a4 (by decide) d_x105
        have d_x102 := rd_Ik eS128 o_a126 o_v0 (by decide) d_x102
        have d_kv100 := rd_Ik eS128 o_a126 o_v0 (by decide) d_kv100
        have d_kv101 := rd_Ik eS128 o_a126 o_v0 (by decide) d_kv101
        have ea4 := rf_I eS128 ea4
        have ea107 := rf_I eS128 ea107
        have ea112 := rf_I eS128 ea112
        have ea117 := rf_I eS128 ea117
        have ea121 := rf_I eS128 ea121
        have ea126 := rf_I eS128 ea126
        have l_a107 := ln_I eS128 l_a107
        have l_a112 := ln_I eS128 l_a112
        have l_a117 := ln_I eS128 l_a117
        have l_a121 := ln_I eS128 l_a121
        have l_a126 := ln_I eS128 l_a126
        have g0 := gr_I eS128 g0
        have o_a107 := ob_I eS128 o_a107
        have o_a112 := ob_I eS128 o_a112
        have o_a117 := ob_I eS128 o_a117
        have o_a121 := ob_I eS128 o_a121
        have o_a126 := ob_I eS128 o_a126
        have o_a4 := ob_I eS128 o_a4
        have o_v0 := ob_I eS128 o_v0
        refine ⟨a4, ea4, ?_⟩
        refine ⟨o_a4, ?_⟩
        intro x130 ex130
        have r_x130 : (0 : Int32) ≤ x130 ∧ x130 ≤ (12 : Int32) := by rw [ex130]; exact nu 19 rfl hI o_a4
        have q_x130 : x130 = x105 := ex130.trans d_x105.symm
        have d_x130 := ex130
        intro x131 ex131
        intro S132 eS132
        have hIn : IV S132 := by rw [eS132]; exact iv10_sI hI o_a4 (rg_nw hG ea4) (nu_one (lo := (0 : Int32)) (hi := (12 : Int32)) (by decide) (qr396 r_kv5 r_kv6 r_kv7 hnf r_x9 ph1_S11 ph3_S11 ph1_S18 kk_x17 ph1_S24 ph1_S30 ph1_S37 ph1_S44 kk_x43 q_x49 c50 ph1_S52 ph1_S58 bb_x57 c63 ph1_S96 q_x102 c103 r_x105 q_x105 r_x130 q_x130 ex131))
        have hG := rg_inc (c := 3) (y := x130) eS132 hI ea4 o_a4 d_x130.symm (qr397 r_kv5 r_kv6 r_kv7 hnf r_x9 ph1_S11 ph3_S11 ph1_S18 kk_x17 ph1_S24 ph1_S30 ph1_S37 ph1_S44 kk_x43 q_x49 c50 ph1_S52 ph1_S58 bb_x57 c63 ph1_S96 q_x102 c103 r_x105 q_x105 r_x130 q_x130 ex131) (qr398 r_kv5 r_kv6 r_kv7 hnf r_x9 ph1_S11 ph3_S11 ph1_S18 kk_x17 ph1_S24 ph1_S30 ph1_S37 ph1_S44 kk_x43 q_x49 c50 ph1_S52 ph1_S58 bb_x57 c63 ph1_S96 q_x102 c103 r_x105 q_x105 r_x130 q_x130 ex131) (hn_3 ea107 (by rw [show x130 = x105 from (qr399 r_kv5 r_kv6 r_kv7 hnf r_x9 ph1_S11 ph3_S11 ph1_S18 kk_x17 ph1_S24 ph1_S30 ph1_S37 ph1_S44 kk_x43 q_x49 c50 ph1_S52 ph1_S58 bb_x57 c63 ph1_S96 q_x102 c103 r_x105 q_x105 r_x130 q_x130 ex131), el110]; exact ⟨(qr400 r_kv5 r_kv6 r_kv7 hnf r_x9 ph1_S11 ph3_S11 ph1_S18 kk_x17 ph1_S24 ph1_S30 ph1_S37 ph1_S44 kk_x43 q_x49 c50 ph1_S52 ph1_S58 bb_x57 c63 ph1_S96 q_x102 c103 r_x105 q_x105 r_x130 q_x130 ex131), (qr401 r_kv5 r_kv6 r_kv7 hnf r_x9 ph1_S11 ph3_S11 ph1_S18 kk_x17 ph1_S24 ph1_S30 ph1_S37 ph1_S44 kk_x43 q_x49 c50 ph1_S52 ph1_S58 bb_x57 c63 ph1_S96 q_x102 c103 r_x105 q_x105 r_x130 q_x130 ex131), Or.inr (by rw [← d_kv6]; exact (qr402 r_kv5 r_kv6 r_kv7 hnf r_x9 ph1_S11 ph3_S11 ph1_S18 kk_x17 ph1_S24 ph1_S30 ph1_S37 ph1_S44 kk_x43 q_x49 c50 ph1_S52 ph1_S58 bb_x57 c63 ph1_S96 q_x102 c103 r_x105 q_x105 r_x130 q_x130 ex131))⟩) ea112 (by rw [show x130 = x105 from (qr399 r_kv5 r_kv6 r_kv7 hnf r_x9 ph1_S11 ph3_S11 ph1_S18 kk_x17 ph1_S24 ph1_S30 ph1_S37 ph1_S44 kk_x43 q_x49 c50 ph1_S52 ph1_S58 bb_x57 c63 ph1_S96 q_x102 c103 r_x105 q_x105 r_x130 q_x130 ex131), el115]; exact ⟨(qr403 r_kv5 r_kv6 r_kv7 hnf r_x9 ph1_S11 ph3_S11 ph1_S18 kk_x17 ph1_S24 ph1_S30 ph1_S37 ph1_S44 kk_x43 q_x49 c50 ph1_S52 ph1_S58 bb_x57 c63 ph1_S96 q_x102 c103 r_x105 q_x105 r_x130 q_x130 ex131), (qr404 r_kv5 r_kv6 r_kv7 hnf r_x9 ph1_S11 ph3_S11 ph1_S18 kk_x17 ph1_S24 ph1_S30 ph1_S37 ph1_S44 kk_x43 q_x49 c50 ph1_S52 ph1_S58 bb_x57 c63 ph1_S96 q_x102 c103 r_x105 q_x105 r_x130 q_x130 ex131), Or.inr (by rw [← d_kv6]; exact (qr405 r_kv5 r_kv6 r_kv7 hnf r_x9 ph1_S11 ph3_S11 ph1_S18 kk_x17 ph1_S24 ph1_S30 ph1_S37 ph1_S44 kk_x43 q_x49 c50 ph1_S52 ph1_S58 bb_x57 c63 ph1_S96 q_x102 c103 r_x105 q_x105 r_x130 q_x130 ex131))⟩) ea121 (by rw [show x130 = x105 from (qr399 r_kv5 r_kv6 r_kv7 hnf r_x9 ph1_S11 ph3_S11 ph1_S18 kk_x17 ph1_S24 ph1_S30 ph1_S37 ph1_S44 kk_x43 q_x49 c50 ph1_S52 ph1_S58 bb_x57 c63 ph1_S96 q_x102 c103 r_x105 q_x105 r_x130 q_x130 ex131), el124]; exact ⟨(qr406 r_kv5 r_kv6 r_kv7 hnf r_x9 ph1_S11 ph3_S11 ph1_S18 kk_x17 ph1_S24 ph1_S30 ph1_S37 p_x36 ph1_S44 kk_x43 q_x49 c50 ph1_S52 ph1_S58 bb_x57 c63 ph1_S96 p_x95 q_x102 c103 r_x105 q_x105 r_x130 q_x130 ex131), (qr407 r_kv5 r_kv6 r_kv7 hnf r_x9 ph1_S11 ph3_S11 ph1_S18 kk_x17 ph1_S24 ph1_S30 ph1_S37 p_x36 ph1_S44 kk_x43 q_x49 c50 ph1_S52 ph1_S58 bb_x57 c63 ph1_S96 p_x95 q_x102 c103 r_x105 q_x105 r_x130 q_x130 ex131), Or.inl rfl⟩)) (fun z _ hz => by rw [eS132] at hz; exact hs_no (by decide) z hz) hG
        have hn := rn_c eS132 (by decide) hn
        have el110 := el_ob eS132 o_a4 o_a107 (by decide) el110
        have el115 := el_ob eS132 o_a4 o_a112 (by decide) el115
        have el124 := el_ob eS132 o_a4 o_a121 (by decide) el124
        have hI := hIn
        have f0 := fr_I eS132 g0 f0 o_a4 (by decide)
        have d_kv5 := rd_Ij eS132 (by decide) d_kv5
        have d_kv6 := rd_Ij eS132 (by decide) d_kv6
        have d_kv7 := rd_Ij eS132 (by decide) d_kv7
        have d_x102 := rd_Ik eS132 o_a4 o_v0 (by decide) d_x102
        have d_kv100 := rd_Ik eS132 o_a4 o_v0 (by decide) d_kv100
        have d_kv101 := rd_Ik eS132 o_a4 o_v0 (by decide) d_kv101
        have d_x131 := rd_Is eS132 (rfl : x131 = x131)
        have ea4 := rf_I eS132 ea4
        have ea107 := rf_I eS132 ea107
        have ea112 := rf_I eS132 ea112
        have ea117 := rf_I eS132 ea117
        have ea121 := rf_I eS132 ea121
        have ea126 := rf_I eS132 ea126
        have l_a107 := ln_I eS132 l_a107
        have l_a112 := ln_I eS132 l_a112
        have l_a117 := ln_I eS132 l_a117
        have l_a121 := ln_I eS132 l_a121
        have l_a126 := ln_I eS132 l_a126
        have g0 := gr_I eS132 g0
        have o_a107 := ob_I eS132 o_a107
        have o_a112 := ob_I eS132 o_a112
        have o_a117 := ob_I eS132 o_a117
        have o_a121 := ob_I eS132 o_a121
        have o_a126 := ob_I eS132 o_a126
        have o_a4 := ob_I eS132 o_a4
        have o_v0 := ob_I eS132 o_v0
        exact hq _ hI g0 f0 ⟨hG, hn, (by have t : x102 = 5 → 0 < kv100 := (qr408 hO r_kv5 r_kv6 r_kv7 hnf r_x9 ph0_S11 ph1_S11 ph3_S11 ph0_S18 ph1_S18 kk_x17 ph0_S24 ph1_S24 ph0_S30 ph1_S30 ph0_S37 ph1_S37 ph0_S44 ph1_S44 kk_x43 q_x49 c50 ph0_S52 ph1_S52 ph0_S58 ph1_S58 bb_x57 c63 ph0_S96 ph1_S96 q_x102 c103 r_x105 q_x105 r_x130 q_x130 ex131); rw [d_x102, d_kv100] at t; exact t), (by have t : x102 = 5 ∨ ¬ kv2 = 5 := (qr409 r_kv5 r_kv6 r_kv7 hnf r_x9 ph1_S11 ph3_S11 ph1_S18 kk_x17 ph1_S24 ph1_S30 ph1_S37 ph1_S44 kk_x43 q_x49 c50 ph1_S52 ph1_S58 bb_x57 c63 ph1_S96 q_x102 c103 r_x105 q_x105 r_x130 q_x130 ex131); rw [di_9, d_x102] at t; exact t), (by have t : kv1 ≤ kv101 ∧ (x102 = 4 → kv1 < kv101 ∨ kv2 = 4) := (qr410 r_kv1 r_kv5 r_kv6 r_kv7 hnf r_x9 ph1_S11 r_kv16 ph2_S11 ph3_S11 ph1_S18 ph2_S18 kk_x17 ph1_S24 r_kv28 ph2_S24 ph1_S30 r_kv35 ph2_S30 ph1_S37 r_kv42 ph2_S37 ph1_S44 ph2_S44 kk_x43 q_x49 c50 ph1_S52 r_kv56 ph2_S52 ph1_S58 r_kv62 ph2_S58 bb_x57 c63 ph1_S96 r_kv101 ph2_S96 q_x102 c103 r_x105 q_x105 r_x130 q_x130 ex131); rw [di_8, di_9, d_kv101, d_x102] at t; exact t)⟩
      · exact hq _ hI g0 f0 ⟨hG, hn, (by have t : x102 = 5 → 0 < kv100 := (qr411 hO r_kv5 r_kv6 r_kv7 hnf r_x9 ph0_S11 ph1_S11 ph3_S11 ph0_S18 ph1_S18 kk_x17 ph0_S24 ph1_S24 ph0_S30 ph1_S30 ph0_S37 ph1_S37 ph0_S44 ph1_S44 kk_x43 q_x49 c50 ph0_S52 ph1_S52 ph0_S58 ph1_S58 bb_x57 c63 ph0_S96 ph1_S96 q_x102 c103); rw [d_x102, d_kv100] at t; exact t), (by have t : x102 = 5 ∨ ¬ kv2 = 5 := (qr412 r_kv5 r_kv6 r_kv7 hnf r_x9 ph1_S11 ph3_S11 ph1_S18 kk_x17 ph1_S24 ph1_S30 ph1_S37 ph1_S44 kk_x43 q_x49 c50 ph1_S52 ph1_S58 bb_x57 c63 ph1_S96 q_x102 c103); rw [di_9, d_x102] at t; exact t), (by have t : kv1 ≤ kv101 ∧ (x102 = 4 → kv1 < kv101 ∨ kv2 = 4) := (qr413 r_kv1 r_kv5 r_kv6 r_kv7 hnf r_x9 ph1_S11 r_kv16 ph2_S11 ph3_S11 ph1_S18 ph2_S18 kk_x17 ph1_S24 r_kv28 ph2_S24 ph1_S30 r_kv35 ph2_S30 ph1_S37 r_kv42 ph2_S37 ph1_S44 ph2_S44 kk_x43 q_x49 c50 ph1_S52 r_kv56 ph2_S52 ph1_S58 r_kv62 ph2_S58 bb_x57 c63 ph1_S96 r_kv101 ph2_S96 q_x102 c103); rw [di_8, di_9, d_kv101, d_x102] at t; exact t)⟩
  · refine ⟨fun c133 => ?_, fun c133 => ?_⟩
    · refine u_X11_readRoad_62 ?_
      refine ⟨o_v0, ?_⟩
      have do133_kv42 := d_kv42
      have do133_x49 := d_x49
      have do133_kv48 := d_kv48
      refine m_X11_goesOn hI o_v0 hG (by have t : x49 = 5 → 0 < kv48 := (qr414 hO r_kv5 r_kv6 r_kv7 hnf r_x9 ph0_S11 ph1_S11 ph3_S11 ph0_S18 ph1_S18 kk_x17 ph0_S24 ph1_S24 ph0_S30 ph1_S30 ph0_S37 ph1_S37 ph0_S44 ph1_S44 kk_x43 q_x49 c50 c133); rw [d_x49, d_kv48] at t; exact t) (fun S135 hJ g136 fc137 p_S135 => ?_)
      obtain ⟨hG, pg0_S135, pg1_S135, pg2_S135⟩ := p_S135
      have hn := rn_fr fc137 g136 hI o_v0 (by decide) hn
      have hI := hJ
      have d_kv5 := d_kv5.trans (fri_at fc137 (by decide) (by decide) o_a4).symm
      have d_kv6 := d_kv6.trans (fri_at fc137 (by decide) (by decide) o_a4).symm
      have d_kv7 := d_kv7.trans (fri_at fc137 (by decide) (by decide) o_a4).symm
      have d_x9 := d_x9.trans (fri_at fc137 (by decide) (by decide) o_a4).symm
      have d_kv48 := d_kv48.trans (fri_at fc137 (by decide) (by decide) o_v0).symm
      have ea4 := (frr_at fc137 (by decide) (by decide) o_v0).trans ea4
      have f0 := fri_tr (S := S44) g0 f0 fc137 (by decide) (by decide)
      have o_a4 := gr_ob g136 o_a4
      have o_v0 := gr_ob g136 o_v0
      have g0 := gr_tr (T := S44) g0 g136
      obtain ⟨kv138, d_kv138⟩ : ∃ z : Int32, z = fI S135 v0 9 := ⟨_, rfl⟩
      have ph0_S135 : kv138 = 5 → 0 < kv48 := by rw [d_kv138, d_kv48]; exact pg0_S135
      have ph1_S135 : kv138 = 5 ∨ ¬ x49 = 5 := by rw [do133_x49, d_kv138]; exact pg1_S135
      obtain ⟨kv139, d_kv139⟩ : ∃ z : Int32, z = fI S135 v0 8 := ⟨_, rfl⟩
      have r_kv139 : (0 : Int32) ≤ kv139 ∧ kv139 ≤ (900 : Int32) := by rw [d_kv139]; exact nu 25 rfl hI o_v0
      have ph2_S135 : kv42 ≤ kv139 ∧ (kv138 = 4 → kv42 < kv139 ∨ x49 = 4) := by rw [do133_kv42, do133_x49, d_kv139, d_kv138]; exact pg2_S135
      intro _
      have do139_kv139 := d_kv139
      have do139_kv138 := d_kv138
      have do139_kv48 := d_kv48
      refine m_X11_eatsWord hI o_v0 (by decide) hG (by have t : kv138 = 5 → 0 < kv48 := (qr415 hO r_kv5 r_kv6 r_kv7 hnf r_x9 ph0_S11 ph1_S11 ph3_S11 ph0_S18 ph1_S18 kk_x17 ph0_S24 ph1_S24 ph0_S30 ph1_S30 ph0_S37 ph1_S37 ph0_S44 ph1_S44 kk_x43 q_x49 c50 c133 ph0_S135 ph1_S135); rw [d_kv138, d_kv48] at t; exact t) (fun x140 S141 hJ g142 fc143 b_x140 p_x140 => ?_)
      obtain ⟨hG, pg0_S141, pg1_S141, pg2_S141⟩ := p_x140
      have hn := rn_fr fc143 g142 hI o_v0 (by decide) hn
      have hI := hJ
      have d_kv5 := d_kv5.trans (fri_at fc143 (by decide) (by decide) o_a4).symm
      have d_kv6 := d_kv6.trans (fri_at fc143 (by decide) (by decide) o_a4).symm
      have d_kv7 := d_kv7.trans (fri_at fc143 (by decide) (by decide) o_a4).symm
      have d_x9 := d_x9.trans (fri_at fc143 (by decide) (by decide) o_a4).symm
      have d_kv48 := d_kv48.trans (fri_at fc143 (by decide) (by decide) o_v0).symm
      have ea4 := (frr_at fc143 (by decide) (by decide) o_v0).trans ea4
      have f0 := fri_tr (S := S135) g0 f0 fc143 (by decide) (by decide)
      have o_a4 := gr_ob g142 o_a4
      have o_v0 := gr_ob g142 o_v0
      have g0 := gr_tr (T := S135) g0 g142
      obtain ⟨kv144, d_kv144⟩ : ∃ z : Int32, z = fI S141 v0 9 := ⟨_, rfl⟩
      have ph0_S141 : kv144 = 5 → 0 < kv48 := by rw [d_kv144, d_kv48]; exact pg0_S141
      have ph1_S141 : kv144 = 5 ∨ ¬ kv138 = 5 := by rw [do139_kv138, d_kv144]; exact pg1_S141
      obtain ⟨kv145, d_kv145⟩ : ∃ z : Int32, z = fI S141 v0 8 := ⟨_, rfl⟩
      have r_kv145 : (0 : Int32) ≤ kv145 ∧ kv145 ≤ (900 : Int32) := by rw [d_kv145]; exact nu 25 rfl hI o_v0
      have ph2_S141 : kv139 ≤ kv145 ∧ (kv144 = 4 → kv139 < kv145 ∨ kv138 = 4) := by rw [do139_kv139, do139_kv138, d_kv145, d_kv144]; exact pg2_S141
      intro _ _
      have bb_x140 : x140 = 0 ∨ x140 = 1 := b_x140
      refine ⟨fun c146 => ?_, fun c146 => ?_⟩
      · refine u_X11_readRoad_85 ?_
        refine ⟨o_v0, ?_⟩
        intro x147 ex147
        have q_x147 : x147 = kv144 := ex147.trans d_kv144.symm
        have d_x147 := ex147
        refine ⟨fun c148 => ?_, fun c148 => ?_⟩
        · refine ⟨a4, ea4, ?_⟩
          refine ⟨o_a4, ?_⟩
          intro x150 ex150
          have r_x150 : (0 : Int32) ≤ x150 ∧ x150 ≤ (12 : Int32) := by rw [ex150]; exact nu 19 rfl hI o_a4
          have q_x150 : x150 = x9 := ex150.trans d_x9.symm
          have d_x150 := ex150
          refine ⟨a4, ea4, ?_⟩
          refine ⟨o_a4, ?_⟩
          obtain ⟨a152, ea152, o_a152, l_a152⟩ := shl 35 rfl hI o_a4
          refine ⟨a152, ea152, ?_⟩
          refine ⟨o_a152, ?_⟩
          have i153 : vp_in x150 (hN _ a152) := (vin l_a152 (m := 12) (by decide) (qr416 r_kv5 r_kv6 r_kv7 hnf r_x9 ph1_S11 ph3_S11 ph1_S18 kk_x17 ph1_S24 ph1_S30 ph1_S37 ph1_S44 kk_x43 q_x49 c50 c133 ph1_S135 ph1_S141 bb_x140 c146 q_x147 c148 r_x150 q_x150))
          refine ⟨i153, ?_⟩
          intro S154 eS154
          have hIn : IV S154 := by rw [eS154]; exact iv10_aI hI o_a4 (rg_nw hG ea4) ea152 o_a152 (by decide)
          have hG := rg_a (jj := 13) (x := x150) eS154 hI ea4 o_a4 ea152 o_a152 (by decide) (h1_one (c := 3) (lo := 0) (hi := 7) (hf := 2) (by decide) (by rw [← d_x150]; exact (qr417 r_kv5 r_kv6 r_kv7 hnf r_x9 ph1_S11 ph3_S11 ph1_S18 kk_x17 ph1_S24 ph1_S30 ph1_S37 ph1_S44 kk_x43 q_x49 c50 c133 ph1_S135 ph1_S141 bb_x140 c146 q_x147 c148 r_x150 q_x150))) (h2_no (y := 0) (by decide)) hG
          have hn := rn_11 eS154 hI o_v0 o_a152 (by decide) hn
          have hI := hIn
          have f0 := fr_A eS154 g0 f0 o_a152 (by decide)
          have d_kv5 := rd_Ik eS154 o_a152 o_a4 (by decide) d_kv5
          have d_kv6 := rd_Ik eS154 o_a152 o_a4 (by decide) d_kv6
          have d_kv7 := rd_Ik eS154 o_a152 o_a4 (by decide) d_kv7
          have d_x150 := rd_Ik eS154 o_a152 o_a4 (by decide) d_x150
          have d_kv48 := rd_Ik eS154 o_a152 o_v0 (by decide) d_kv48
          have d_x147 := rd_Ik eS154 o_a152 o_v0 (by decide) d_x147
          have d_kv145 := rd_Ik eS154 o_a152 o_v0 (by decide) d_kv145
          have ea4 := rf_I eS154 ea4
          have ea152 := rf_I eS154 ea152
          have l_a152 := ln_I eS154 l_a152
          have g0 := gr_I eS154 g0
          have o_a152 := ob_I eS154 o_a152
          have o_a4 := ob_I eS154 o_a4
          have o_v0 := ob_I eS154 o_v0
          have el155 : fI S154 a152 x150.toNatClampNeg = x17 := by rw [eS154]; exact u2_self _ _ _ _
          refine ⟨a4, ea4, ?_⟩
          refine ⟨o_a4, ?_⟩
          obtain ⟨a157, ea157, o_a157, l_a157⟩ := shl 36 rfl hI o_a4
          refine ⟨a157, ea157, ?_⟩
          refine ⟨o_a157, ?_⟩
          have i158 : vp_in x150 (hN _ a157) := (vin l_a157 (m := 12) (by decide) (qr416 r_kv5 r_kv6 r_kv7 hnf r_x9 ph1_S11 ph3_S11 ph1_S18 kk_x17 ph1_S24 ph1_S30 ph1_S37 ph1_S44 kk_x43 q_x49 c50 c133 ph1_S135 ph1_S141 bb_x140 c146 q_x147 c148 r_x150 q_x150))
          refine ⟨i158, ?_⟩
          intro S159 eS159
          have hIn : IV S159 := by rw [eS159]; exact iv10_aI hI o_a4 (rg_nw hG ea4) ea157 o_a157 (by decide)
          have hG := rg_a (jj := 14) (x := x150) eS159 hI ea4 o_a4 ea157 o_a157 (by decide) (h1_one (c := 3) (lo := 0) (hi := 7) (hf := 2) (by decide) (by rw [← d_x150]; exact (qr417 r_kv5 r_kv6 r_kv7 hnf r_x9 ph1_S11 ph3_S11 ph1_S18 kk_x17 ph1_S24 ph1_S30 ph1_S37 ph1_S44 kk_x43 q_x49 c50 c133 ph1_S135 ph1_S141 bb_x140 c146 q_x147 c148 r_x150 q_x150))) (h2_no (y := 0) (by decide)) hG
          have hn := rn_11 eS159 hI o_v0 o_a157 (by decide) hn
          have el155 := el_ar eS159 (ow_ne hI o_a4 (by decide) o_a4 (by decide) ea157 ea152 (by decide)) el155
          have hI := hIn
          have f0 := fr_A eS159 g0 f0 o_a157 (by decide)
          have d_kv5 := rd_Ik eS159 o_a157 o_a4 (by decide) d_kv5
          have d_kv6 := rd_Ik eS159 o_a157 o_a4 (by decide) d_kv6
          have d_kv7 := rd_Ik eS159 o_a157 o_a4 (by decide) d_kv7
          have d_x150 := rd_Ik eS159 o_a157 o_a4 (by decide) d_x150
          have d_kv48 := rd_Ik eS159 o_a157 o_v0 (by decide) d_kv48
          have d_x147 := rd_Ik eS159 o_a157 o_v0 (by decide) d_x147
          have d_kv145 := rd_Ik eS159 o_a157 o_v0 (by decide) d_kv145
          have ea4 := rf_I eS159 ea4
          have ea152 := rf_I eS159 ea152
          have ea157 := rf_I eS159 ea157
          have l_a152 := ln_I eS159 l_a152
          have l_a157 := ln_I eS159 l_a157
          have g0 := gr_I eS159 g0
          have o_a152 := ob_I eS159 o_a152
          have o_a157 := ob_I eS159 o_a157
          have o_a4 := ob_I eS159 o_a4
          have o_v0 := ob_I eS159 o_v0
          have el160 : fI S159 a157 x150.toNatClampNeg = x43 := by rw [eS159]; exact u2_self _ _ _ _
          refine ⟨a4, ea4, ?_⟩
          refine ⟨o_a4, ?_⟩
          obtain ⟨a162, ea162, o_a162, l_a162⟩ := shl 37 rfl hI o_a4
          refine ⟨a162, ea162, ?_⟩
          refine ⟨o_a162, ?_⟩
          have i163 : vp_in x150 (hN _ a162) := (vin l_a162 (m := 12) (by decide) (qr416 r_kv5 r_kv6 r_kv7 hnf r_x9 ph1_S11 ph3_S11 ph1_S18 kk_x17 ph1_S24 ph1_S30 ph1_S37 ph1_S44 kk_x43 q_x49 c50 c133 ph1_S135 ph1_S141 bb_x140 c146 q_x147 c148 r_x150 q_x150))
          refine ⟨i163, ?_⟩
          intro S164 eS164
          have hIn : IV S164 := by rw [eS164]; exact iv10_aI hI o_a4 (rg_nw hG ea4) ea162 o_a162 (by decide)
          have hG := rg_a (jj := 15) (x := x150) eS164 hI ea4 o_a4 ea162 o_a162 (by decide) (h1_no (by decide)) (h2_no (y := 0) (by decide)) hG
          have hn := rn_11 eS164 hI o_v0 o_a162 (by decide) hn
          have el155 := el_ar eS164 (ow_ne hI o_a4 (by decide) o_a4 (by decide) ea162 ea152 (by decide)) el155
          have el160 := el_ar eS164 (ow_ne hI o_a4 (by decide) o_a4 (by decide) ea162 ea157 (by decide)) el160
          have hI := hIn
          have f0 := fr_A eS164 g0 f0 o_a162 (by decide)
          have d_kv5 := rd_Ik eS164 o_a162 o_a4 (by decide) d_kv5
          have d_kv6 := rd_Ik eS164 o_a162 o_a4 (by decide) d_kv6
          have d_kv7 := rd_Ik eS164 o_a162 o_a4 (by decide) d_kv7
          have d_x150 := rd_Ik eS164 o_a162 o_a4 (by decide) d_x150
          have d_kv48 := rd_Ik eS164 o_a162 o_v0 (by decide) d_kv48
          have d_x147 := rd_Ik eS164 o_a162 o_v0 (by decide) d_x147
          have d_kv145 := rd_Ik eS164 o_a162 o_v0 (by decide) d_kv145
          have ea4 := rf_I eS164 ea4
          have ea152 := rf_I eS164 ea152
          have ea157 := rf_I eS164 ea157
          have ea162 := rf_I eS164 ea162
          have l_a152 := ln_I eS164 l_a152
          have l_a157 := ln_I eS164 l_a157
          have l_a162 := ln_I eS164 l_a162
          have g0 := gr_I eS164 g0
          have o_a152 := ob_I eS164 o_a152
          have o_a157 := ob_I eS164 o_a157
          have o_a162 := ob_I eS164 o_a162
          have o_a4 := ob_I eS164 o_a4
          have o_v0 := ob_I eS164 o_v0
          refine ⟨a4, ea4, ?_⟩
          refine ⟨o_a4, ?_⟩
          obtain ⟨a166, ea166, o_a166, l_a166⟩ := shl 38 rfl hI o_a4
          refine ⟨a166, ea166, ?_⟩
          refine ⟨o_a166, ?_⟩
          have i167 : vp_in x150 (hN _ a166) := (vin l_a166 (m := 12) (by decide) (qr416 r_kv5 r_kv6 r_kv7 hnf r_x9 ph1_S11 ph3_S11 ph1_S18 kk_x17 ph1_S24 ph1_S30 ph1_S37 ph1_S44 kk_x43 q_x49 c50 c133 ph1_S135 ph1_S141 bb_x140 c146 q_x147 c148 r_x150 q_x150))
          refine ⟨i167, ?_⟩
          intro S168 eS168
          have hIn : IV S168 := by rw [eS168]; exact iv10_aI hI o_a4 (rg_nw hG ea4) ea166 o_a166 (by decide)
          have hG := rg_a (jj := 16) (x := x150) eS168 hI ea4 o_a4 ea166 o_a166 (by decide) (h1_one (c := 3) (lo := 1) (hi := 60) (hf := 99) (by decide) (by rw [← d_x150]; exact (qr417 r_kv5 r_kv6 r_kv7 hnf r_x9 ph1_S11 ph3_S11 ph1_S18 kk_x17 ph1_S24 ph1_S30 ph1_S37 ph1_S44 kk_x43 q_x49 c50 c133 ph1_S135 ph1_S141 bb_x140 c146 q_x147 c148 r_x150 q_x150))) (h2_no (y := 0) (by decide)) hG
          have hn := rn_11 eS168 hI o_v0 o_a166 (by decide) hn
          have el155 := el_ar eS168 (ow_ne hI o_a4 (by decide) o_a4 (by decide) ea166 ea152 (by decide)) el155
          have el160 := el_ar eS168 (ow_ne hI o_a4 (by decide) o_a4 (by decide) ea166 ea157 (by decide)) el160
          have hI := hIn
          have f0 := fr_A eS168 g0 f0 o_a166 (by decide)
          have d_kv5 := rd_Ik eS168 o_a166 o_a4 (by decide) d_kv5
          have d_kv6 := rd_Ik eS168 o_a166 o_a4 (by decide) d_kv6
          have d_kv7 := rd_Ik eS168 o_a166 o_a4 (by decide) d_kv7
          have d_x150 := rd_Ik eS168 o_a166 o_a4 (by decide) d_x150
          have d_kv48 := rd_Ik eS168 o_a166 o_v0 (by decide) d_kv48
          have d_x147 := rd_Ik eS168 o_a166 o_v0 (by decide) d_x147
          have d_kv145 := rd_Ik eS168 o_a166 o_v0 (by decide) d_kv145
          have ea4 := rf_I eS168 ea4
          have ea152 := rf_I eS168 ea152
          have ea157 := rf_I eS168 ea157
          have ea162 := rf_I eS168 ea162
          have ea166 := rf_I eS168 ea166
          have l_a152 := ln_I eS168 l_a152
          have l_a157 := ln_I eS168 l_a157
          have l_a162 := ln_I eS168 l_a162
          have l_a166 := ln_I eS168 l_a166
          have g0 := gr_I eS168 g0
          have o_a152 := ob_I eS168 o_a152
          have o_a157 := ob_I eS168 o_a157
          have o_a162 := ob_I eS168 o_a162
          have o_a166 := ob_I eS168 o_a166
          have o_a4 := ob_I eS168 o_a4
          have o_v0 := ob_I eS168 o_v0
          have el169 : fI S168 a166 x150.toNatClampNeg = x36 := by rw [eS168]; exact u2_self _ _ _ _
          refine ⟨a4, ea4, ?_⟩
          refine ⟨o_a4, ?_⟩
          obtain ⟨a171, ea171, o_a171, l_a171⟩ := shl 39 rfl hI o_a4
          refine ⟨a171, ea171, ?_⟩
          refine ⟨o_a171, ?_⟩
          have i172 : vp_in x150 (hN _ a171) := (vin l_a171 (m := 12) (by decide) (qr416 r_kv5 r_kv6 r_kv7 hnf r_x9 ph1_S11 ph3_S11 ph1_S18 kk_x17 ph1_S24 ph1_S30 ph1_S37 ph1_S44 kk_x43 q_x49 c50 c133 ph1_S135 ph1_S141 bb_x140 c146 q_x147 c148 r_x150 q_x150))
          refine ⟨i172, ?_⟩
          intro S173 eS173
          have hIn : IV S173 := by rw [eS173]; exact iv10_aI hI o_a4 (rg_nw hG ea4) ea171 o_a171 (by decide)
          have hG := rg_a (jj := 17) (x := x150) eS173 hI ea4 o_a4 ea171 o_a171 (by decide) (h1_no (by decide)) (h2_no (y := 0) (by decide)) hG
          have hn := rn_11 eS173 hI o_v0 o_a171 (by decide) hn
          have el155 := el_ar eS173 (ow_ne hI o_a4 (by decide) o_a4 (by decide) ea171 ea152 (by decide)) el155
          have el160 := el_ar eS173 (ow_ne hI o_a4 (by decide) o_a4 (by decide) ea171 ea157 (by decide)) el160
          have el169 := el_ar eS173 (ow_ne hI o_a4 (by decide) o_a4 (by decide) ea171 ea166 (by decide)) el169
          have hI := hIn
          have f0 := fr_A eS173 g0 f0 o_a171 (by decide)
          have d_kv5 := rd_Ik eS173 o_a171 o_a4 (by decide) d_kv5
          have d_kv6 := rd_Ik eS173 o_a171 o_a4 (by decide) d_kv6
          have d_kv7 := rd_Ik eS173 o_a171 o_a4 (by decide) d_kv7
          have d_x150 := rd_Ik eS173 o_a171 o_a4 (by decide) d_x150
          have d_kv48 := rd_Ik eS173 o_a171 o_v0 (by decide) d_kv48
          have d_x147 := rd_Ik eS173 o_a171 o_v0 (by decide) d_x147
          have d_kv145 := rd_Ik eS173 o_a171 o_v0 (by decide) d_kv145
          have ea4 := rf_I eS173 ea4
          have ea152 := rf_I eS173 ea152
          have ea157 := rf_I eS173 ea157
          have ea162 := rf_I eS173 ea162
          have ea166 := rf_I eS173 ea166
          have ea171 := rf_I eS173 ea171
          have l_a152 := ln_I eS173 l_a152
          have l_a157 := ln_I eS173 l_a157
          have l_a162 := ln_I eS173 l_a162
          have l_a166 := ln_I eS173 l_a166
          have l_a171 := ln_I eS173 l_a171
          have g0 := gr_I eS173 g0
          have o_a152 := ob_I eS173 o_a152
          have o_a157 := ob_I eS173 o_a157
          have o_a162 := ob_I eS173 o_a162
          have o_a166 := ob_I eS173 o_a166
          have o_a171 := ob_I eS173 o_a171
          have o_a4 := ob_I eS173 o_a4
          have o_v0 := ob_I eS173 o_v0
          refine ⟨a4, ea4, ?_⟩
          refine ⟨o_a4, ?_⟩
          intro x175 ex175
          have r_x175 : (0 : Int32) ≤ x175 ∧ x175 ≤ (12 : Int32) := by rw [ex175]; exact nu 19 rfl hI o_a4
          have q_x175 : x175 = x150 := ex175.trans d_x150.symm
          have d_x175 := ex175
          intro x176 ex176
          intro S177 eS177
          have hIn : IV S177 := by rw [eS177]; exact iv10_sI hI o_a4 (rg_nw hG ea4) (nu_one (lo := (0 : Int32)) (hi := (12 : Int32)) (by decide) (qr418 r_kv5 r_kv6 r_kv7 hnf r_x9 ph1_S11 ph3_S11 ph1_S18 kk_x17 ph1_S24 ph1_S30 ph1_S37 ph1_S44 kk_x43 q_x49 c50 c133 ph1_S135 ph1_S141 bb_x140 c146 q_x147 c148 r_x150 q_x150 r_x175 q_x175 ex176))
          have hG := rg_inc (c := 3) (y := x175) eS177 hI ea4 o_a4 d_x175.symm (qr419 r_kv5 r_kv6 r_kv7 hnf r_x9 ph1_S11 ph3_S11 ph1_S18 kk_x17 ph1_S24 ph1_S30 ph1_S37 ph1_S44 kk_x43 q_x49 c50 c133 ph1_S135 ph1_S141 bb_x140 c146 q_x147 c148 r_x150 q_x150 r_x175 q_x175 ex176) (qr420 r_kv5 r_kv6 r_kv7 hnf r_x9 ph1_S11 ph3_S11 ph1_S18 kk_x17 ph1_S24 ph1_S30 ph1_S37 ph1_S44 kk_x43 q_x49 c50 c133 ph1_S135 ph1_S141 bb_x140 c146 q_x147 c148 r_x150 q_x150 r_x175 q_x175 ex176) (hn_3 ea152 (by rw [show x175 = x150 from (qr421 r_kv5 r_kv6 r_kv7 hnf r_x9 ph1_S11 ph3_S11 ph1_S18 kk_x17 ph1_S24 ph1_S30 ph1_S37 ph1_S44 kk_x43 q_x49 c50 c133 ph1_S135 ph1_S141 bb_x140 c146 q_x147 c148 r_x150 q_x150 r_x175 q_x175 ex176), el155]; exact ⟨(qr422 r_kv5 r_kv6 r_kv7 hnf r_x9 ph1_S11 ph3_S11 ph1_S18 kk_x17 ph1_S24 ph1_S30 ph1_S37 ph1_S44 kk_x43 q_x49 c50 c133 ph1_S135 ph1_S141 bb_x140 c146 q_x147 c148 r_x150 q_x150 r_x175 q_x175 ex176), (qr423 r_kv5 r_kv6 r_kv7 hnf r_x9 ph1_S11 ph3_S11 ph1_S18 kk_x17 ph1_S24 ph1_S30 ph1_S37 ph1_S44 kk_x43 q_x49 c50 c133 ph1_S135 ph1_S141 bb_x140 c146 q_x147 c148 r_x150 q_x150 r_x175 q_x175 ex176), Or.inr (by rw [← d_kv6]; exact (qr424 r_kv5 r_kv6 r_kv7 hnf r_x9 ph1_S11 ph3_S11 ph1_S18 kk_x17 ph1_S24 ph1_S30 ph1_S37 ph1_S44 kk_x43 q_x49 c50 c133 ph1_S135 ph1_S141 bb_x140 c146 q_x147 c148 r_x150 q_x150 r_x175 q_x175 ex176))⟩) ea157 (by rw [show x175 = x150 from (qr421 r_kv5 r_kv6 r_kv7 hnf r_x9 ph1_S11 ph3_S11 ph1_S18 kk_x17 ph1_S24 ph1_S30 ph1_S37 ph1_S44 kk_x43 q_x49 c50 c133 ph1_S135 ph1_S141 bb_x140 c146 q_x147 c148 r_x150 q_x150 r_x175 q_x175 ex176), el160]; exact ⟨(qr425 r_kv5 r_kv6 r_kv7 hnf r_x9 ph1_S11 ph3_S11 ph1_S18 kk_x17 ph1_S24 ph1_S30 ph1_S37 ph1_S44 kk_x43 q_x49 c50 c133 ph1_S135 ph1_S141 bb_x140 c146 q_x147 c148 r_x150 q_x150 r_x175 q_x175 ex176), (qr426 r_kv5 r_kv6 r_kv7 hnf r_x9 ph1_S11 ph3_S11 ph1_S18 kk_x17 ph1_S24 ph1_S30 ph1_S37 ph1_S44 kk_x43 q_x49 c50 c133 ph1_S135 ph1_S141 bb_x140 c146 q_x147 c148 r_x150 q_x150 r_x175 q_x175 ex176), Or.inr (by rw [← d_kv6]; exact (qr427 r_kv5 r_kv6 r_kv7 hnf r_x9 ph1_S11 ph3_S11 ph1_S18 kk_x17 ph1_S24 ph1_S30 ph1_S37 ph1_S44 kk_x43 q_x49 c50 c133 ph1_S135 ph1_S141 bb_x140 c146 q_x147 c148 r_x150 q_x150 r_x175 q_x175 ex176))⟩) ea166 (by rw [show x175 = x150 from (qr421 r_kv5 r_kv6 r_kv7 hnf r_x9 ph1_S11 ph3_S11 ph1_S18 kk_x17 ph1_S24 ph1_S30 ph1_S37 ph1_S44 kk_x43 q_x49 c50 c133 ph1_S135 ph1_S141 bb_x140 c146 q_x147 c148 r_x150 q_x150 r_x175 q_x175 ex176), el169]; exact ⟨(qr428 r_kv5 r_kv6 r_kv7 hnf r_x9 ph1_S11 ph3_S11 ph1_S18 kk_x17 ph1_S24 ph1_S30 ph1_S37 p_x36 ph1_S44 kk_x43 q_x49 c50 c133 ph1_S135 ph1_S141 bb_x140 c146 q_x147 c148 r_x150 q_x150 r_x175 q_x175 ex176), (qr429 r_kv5 r_kv6 r_kv7 hnf r_x9 ph1_S11 ph3_S11 ph1_S18 kk_x17 ph1_S24 ph1_S30 ph1_S37 p_x36 ph1_S44 kk_x43 q_x49 c50 c133 ph1_S135 ph1_S141 bb_x140 c146 q_x147 c148 r_x150 q_x150 r_x175 q_x175 ex176), Or.inl rfl⟩)) (fun z _ hz => by rw [eS177] at hz; exact hs_no (by decide) z hz) hG
          have hn := rn_c eS177 (by decide) hn
          have el155 := el_ob eS177 o_a4 o_a152 (by decide) el155
          have el160 := el_ob eS177 o_a4 o_a157 (by decide) el160
          have el169 := el_ob eS177 o_a4 o_a166 (by decide) el169
          have hI := hIn
          have f0 := fr_I eS177 g0 f0 o_a4 (by decide)
          have d_kv5 := rd_Ij eS177 (by decide) d_kv5
          have d_kv6 := rd_Ij eS177 (by decide) d_kv6
          have d_kv7 := rd_Ij eS177 (by decide) d_kv7
          have d_kv48 := rd_Ik eS177 o_a4 o_v0 (by decide) d_kv48
          have d_x147 := rd_Ik eS177 o_a4 o_v0 (by decide) d_x147
          have d_kv145 := rd_Ik eS177 o_a4 o_v0 (by decide) d_kv145
          have d_x176 := rd_Is eS177 (rfl : x176 = x176)
          have ea4 := rf_I eS177 ea4
          have ea152 := rf_I eS177 ea152
          have ea157 := rf_I eS177 ea157
          have ea162 := rf_I eS177 ea162
          have ea166 := rf_I eS177 ea166
          have ea171 := rf_I eS177 ea171
          have l_a152 := ln_I eS177 l_a152
          have l_a157 := ln_I eS177 l_a157
          have l_a162 := ln_I eS177 l_a162
          have l_a166 := ln_I eS177 l_a166
          have l_a171 := ln_I eS177 l_a171
          have g0 := gr_I eS177 g0
          have o_a152 := ob_I eS177 o_a152
          have o_a157 := ob_I eS177 o_a157
          have o_a162 := ob_I eS177 o_a162
          have o_a166 := ob_I eS177 o_a166
          have o_a171 := ob_I eS177 o_a171
          have o_a4 := ob_I eS177 o_a4
          have o_v0 := ob_I eS177 o_v0
          exact hq _ hI g0 f0 ⟨hG, hn, (by have t : x147 = 5 → 0 < kv48 := (qr430 hO r_kv5 r_kv6 r_kv7 hnf r_x9 ph0_S11 ph1_S11 ph3_S11 ph0_S18 ph1_S18 kk_x17 ph0_S24 ph1_S24 ph0_S30 ph1_S30 ph0_S37 ph1_S37 ph0_S44 ph1_S44 kk_x43 q_x49 c50 c133 ph0_S135 ph1_S135 ph0_S141 ph1_S141 bb_x140 c146 q_x147 c148 r_x150 q_x150 r_x175 q_x175 ex176); rw [d_x147, d_kv48] at t; exact t), (by have t : x147 = 5 ∨ ¬ kv2 = 5 := (qr431 r_kv5 r_kv6 r_kv7 hnf r_x9 ph1_S11 ph3_S11 ph1_S18 kk_x17 ph1_S24 ph1_S30 ph1_S37 ph1_S44 kk_x43 q_x49 c50 c133 ph1_S135 ph1_S141 bb_x140 c146 q_x147 c148 r_x150 q_x150 r_x175 q_x175 ex176); rw [di_9, d_x147] at t; exact t), (by have t : kv1 ≤ kv145 ∧ (x147 = 4 → kv1 < kv145 ∨ kv2 = 4) := (qr432 r_kv1 r_kv5 r_kv6 r_kv7 hnf r_x9 ph1_S11 r_kv16 ph2_S11 ph3_S11 ph1_S18 ph2_S18 kk_x17 ph1_S24 r_kv28 ph2_S24 ph1_S30 r_kv35 ph2_S30 ph1_S37 r_kv42 ph2_S37 ph1_S44 ph2_S44 kk_x43 q_x49 c50 c133 ph1_S135 r_kv139 ph2_S135 ph1_S141 r_kv145 ph2_S141 bb_x140 c146 q_x147 c148 r_x150 q_x150 r_x175 q_x175 ex176); rw [di_8, di_9, d_kv145, d_x147] at t; exact t)⟩
        · exact hq _ hI g0 f0 ⟨hG, hn, (by have t : x147 = 5 → 0 < kv48 := (qr433 hO r_kv5 r_kv6 r_kv7 hnf r_x9 ph0_S11 ph1_S11 ph3_S11 ph0_S18 ph1_S18 kk_x17 ph0_S24 ph1_S24 ph0_S30 ph1_S30 ph0_S37 ph1_S37 ph0_S44 ph1_S44 kk_x43 q_x49 c50 c133 ph0_S135 ph1_S135 ph0_S141 ph1_S141 bb_x140 c146 q_x147 c148); rw [d_x147, d_kv48] at t; exact t), (by have t : x147 = 5 ∨ ¬ kv2 = 5 := (qr434 r_kv5 r_kv6 r_kv7 hnf r_x9 ph1_S11 ph3_S11 ph1_S18 kk_x17 ph1_S24 ph1_S30 ph1_S37 ph1_S44 kk_x43 q_x49 c50 c133 ph1_S135 ph1_S141 bb_x140 c146 q_x147 c148); rw [di_9, d_x147] at t; exact t), (by have t : kv1 ≤ kv145 ∧ (x147 = 4 → kv1 < kv145 ∨ kv2 = 4) := (qr435 r_kv1 r_kv5 r_kv6 r_kv7 hnf r_x9 ph1_S11 r_kv16 ph2_S11 ph3_S11 ph1_S18 ph2_S18 kk_x17 ph1_S24 r_kv28 ph2_S24 ph1_S30 r_kv35 ph2_S30 ph1_S37 r_kv42 ph2_S37 ph1_S44 ph2_S44 kk_x43 q_x49 c50 c133 ph1_S135 r_kv139 ph2_S135 ph1_S141 r_kv145 ph2_S141 bb_x140 c146 q_x147 c148); rw [di_8, di_9, d_kv145, d_x147] at t; exact t)⟩
      · have do177_kv145 := d_kv145
        have do177_kv144 := d_kv144
        have do177_kv48 := d_kv48
        refine m_X11_readWhole hI o_v0 hG (by have t : kv144 = 5 → 0 < kv48 := (qr436 hO r_kv5 r_kv6 r_kv7 hnf r_x9 ph0_S11 ph1_S11 ph3_S11 ph0_S18 ph1_S18 kk_x17 ph0_S24 ph1_S24 ph0_S30 ph1_S30 ph0_S37 ph1_S37 ph0_S44 ph1_S44 kk_x43 q_x49 c50 c133 ph0_S135 ph1_S135 ph0_S141 ph1_S141 bb_x140 c146); rw [d_kv144, d_kv48] at t; exact t) (fun x178 S179 hJ g180 fc181 p_x178 => ?_)
        obtain ⟨hG, p_x178, pg0_S179, pg1_S179, pg2_S179⟩ := p_x178
        have hn := rn_fr fc181 g180 hI o_v0 (by decide) hn
        have hI := hJ
        have d_kv5 := d_kv5.trans (fri_at fc181 (by decide) (by decide) o_a4).symm
        have d_kv6 := d_kv6.trans (fri_at fc181 (by decide) (by decide) o_a4).symm
        have d_kv7 := d_kv7.trans (fri_at fc181 (by decide) (by decide) o_a4).symm
        have d_x9 := d_x9.trans (fri_at fc181 (by decide) (by decide) o_a4).symm
        have ea4 := (frr_at fc181 (by decide) (by decide) o_v0).trans ea4
        have f0 := fri_tr (S := S141) g0 f0 fc181 (by decide) (by decide)
        have o_a4 := gr_ob g180 o_a4
        have o_v0 := gr_ob g180 o_v0
        have g0 := gr_tr (T := S141) g0 g180
        obtain ⟨kv182, d_kv182⟩ : ∃ z : Int32, z = fI S179 v0 9 := ⟨_, rfl⟩
        obtain ⟨kv183, d_kv183⟩ : ∃ z : Int32, z = fI S179 v0 13 := ⟨_, rfl⟩
        have ph0_S179 : kv182 = 5 → 0 < kv183 := by rw [d_kv182, d_kv183]; exact pg0_S179
        have ph1_S179 : kv182 = 5 ∨ ¬ kv144 = 5 := by rw [do177_kv144, d_kv182]; exact pg1_S179
        obtain ⟨kv184, d_kv184⟩ : ∃ z : Int32, z = fI S179 v0 8 := ⟨_, rfl⟩
        have r_kv184 : (0 : Int32) ≤ kv184 ∧ kv184 ≤ (900 : Int32) := by rw [d_kv184]; exact nu 25 rfl hI o_v0
        have ph2_S179 : kv145 ≤ kv184 ∧ (kv182 = 4 → kv145 < kv184 ∨ kv144 = 4) := by rw [do177_kv145, do177_kv144, d_kv184, d_kv182]; exact pg2_S179
        intro _
        refine u_X11_readRoad_85 ?_
        refine ⟨o_v0, ?_⟩
        intro x185 ex185
        have q_x185 : x185 = kv182 := ex185.trans d_kv182.symm
        have d_x185 := ex185
        refine ⟨fun c186 => ?_, fun c186 => ?_⟩
        · refine ⟨a4, ea4, ?_⟩
          refine ⟨o_a4, ?_⟩
          intro x188 ex188
          have r_x188 : (0 : Int32) ≤ x188 ∧ x188 ≤ (12 : Int32) := by rw [ex188]; exact nu 19 rfl hI o_a4
          have q_x188 : x188 = x9 := ex188.trans d_x9.symm
          have d_x188 := ex188
          refine ⟨a4, ea4, ?_⟩
          refine ⟨o_a4, ?_⟩
          obtain ⟨a190, ea190, o_a190, l_a190⟩ := shl 35 rfl hI o_a4
          refine ⟨a190, ea190, ?_⟩
          refine ⟨o_a190, ?_⟩
          have i191 : vp_in x188 (hN _ a190) := (vin l_a190 (m := 12) (by decide) (qr437 r_kv5 r_kv6 r_kv7 hnf r_x9 ph1_S11 ph3_S11 ph1_S18 kk_x17 ph1_S24 ph1_S30 ph1_S37 ph1_S44 kk_x43 q_x49 c50 c133 ph1_S135 ph1_S141 bb_x140 c146 ph1_S179 q_x185 c186 r_x188 q_x188))
          refine ⟨i191, ?_⟩
          intro S192 eS192
          have hIn : IV S192 := by rw [eS192]; exact iv10_aI hI o_a4 (rg_nw hG ea4) ea190 o_a190 (by decide)
          have hG := rg_a (jj := 13) (x := x188) eS192 hI ea4 o_a4 ea190 o_a190 (by decide) (h1_one (c := 3) (lo := 0) (hi := 7) (hf := 2) (by decide) (by rw [← d_x188]; exact (qr438 r_kv5 r_kv6 r_kv7 hnf r_x9 ph1_S11 ph3_S11 ph1_S18 kk_x17 ph1_S24 ph1_S30 ph1_S37 ph1_S44 kk_x43 q_x49 c50 c133 ph1_S135 ph1_S141 bb_x140 c146 ph1_S179 q_x185 c186 r_x188 q_x188))) (h2_no (y := 0) (by decide)) hG
          have hn := rn_11 eS192 hI o_v0 o_a190 (by decide) hn
          have hI := hIn
          have f0 := fr_A eS192 g0 f0 o_a190 (by decide)
          have d_kv5 := rd_Ik eS192 o_a190 o_a4 (by decide) d_kv5
          have d_kv6 := rd_Ik eS192 o_a190 o_a4 (by decide) d_kv6
          have d_kv7 := rd_Ik eS192 o_a190 o_a4 (by decide) d_kv7
          have d_x188 := rd_Ik eS192 o_a190 o_a4 (by decide) d_x188
          have d_x185 := rd_Ik eS192 o_a190 o_v0 (by decide) d_x185
          have d_kv183 := rd_Ik eS192 o_a190 o_v0 (by decide) d_kv183
          have d_kv184 := rd_Ik eS192 o_a190 o_v0 (by decide) d_kv184
          have ea4 := rf_I eS192 ea4
          have ea190 := rf_I eS192 ea190
          have l_a190 := ln_I eS192 l_a190
          have g0 := gr_I eS192 g0
          have o_a190 := ob_I eS192 o_a190
          have o_a4 := ob_I eS192 o_a4
          have o_v0 := ob_I eS192 o_v0
          have el193 : fI S192 a190 x188.toNatClampNeg = x17 := by rw [eS192]; exact u2_self _ _ _ _
          refine ⟨a4, ea4, ?_⟩
          refine ⟨o_a4, ?_⟩
          obtain ⟨a195, ea195, o_a195, l_a195⟩ := shl 36 rfl hI o_a4
          refine ⟨a195, ea195, ?_⟩
          refine ⟨o_a195, ?_⟩
          have i196 : vp_in x188 (hN _ a195) := (vin l_a195 (m := 12) (by decide) (qr437 r_kv5 r_kv6 r_kv7 hnf r_x9 ph1_S11 ph3_S11 ph1_S18 kk_x17 ph1_S24 ph1_S30 ph1_S37 ph1_S44 kk_x43 q_x49 c50 c133 ph1_S135 ph1_S141 bb_x140 c146 ph1_S179 q_x185 c186 r_x188 q_x188))
          refine ⟨i196, ?_⟩
          intro S197 eS197
          have hIn : IV S197 := by rw [eS197]; exact iv10_aI hI o_a4 (rg_nw hG ea4) ea195 o_a195 (by decide)
          have hG := rg_a (jj := 14) (x := x188) eS197 hI ea4 o_a4 ea195 o_a195 (by decide) (h1_one (c := 3) (lo := 0) (hi := 7) (hf := 2) (by decide) (by rw [← d_x188]; exact (qr438 r_kv5 r_kv6 r_kv7 hnf r_x9 ph1_S11 ph3_S11 ph1_S18 kk_x17 ph1_S24 ph1_S30 ph1_S37 ph1_S44 kk_x43 q_x49 c50 c133 ph1_S135 ph1_S141 bb_x140 c146 ph1_S179 q_x185 c186 r_x188 q_x188))) (h2_no (y := 0) (by decide)) hG
          have hn := rn_11 eS197 hI o_v0 o_a195 (by decide) hn
          have el193 := el_ar eS197 (ow_ne hI o_a4 (by decide) o_a4 (by decide) ea195 ea190 (by decide)) el193
          have hI := hIn
          have f0 := fr_A eS197 g0 f0 o_a195 (by decide)
          have d_kv5 := rd_Ik eS197 o_a195 o_a4 (by decide) d_kv5
          have d_kv6 := rd_Ik eS197 o_a195 o_a4 (by decide) d_kv6
          have d_kv7 := rd_Ik eS197 o_a195 o_a4 (by decide) d_kv7
          have d_x188 := rd_Ik eS197 o_a195 o_a4 (by decide) d_x188
          have d_x185 := rd_Ik eS197 o_a195 o_v0 (by decide) d_x185
          have d_kv183 := rd_Ik eS197 o_a195 o_v0 (by decide) d_kv183
          have d_kv184 := rd_Ik eS197 o_a195 o_v0 (by decide) d_kv184
          have ea4 := rf_I eS197 ea4
          have ea190 := rf_I eS197 ea190
          have ea195 := rf_I eS197 ea195
          have l_a190 := ln_I eS197 l_a190
          have l_a195 := ln_I eS197 l_a195
          have g0 := gr_I eS197 g0
          have o_a190 := ob_I eS197 o_a190
          have o_a195 := ob_I eS197 o_a195
          have o_a4 := ob_I eS197 o_a4
          have o_v0 := ob_I eS197 o_v0
          have el198 : fI S197 a195 x188.toNatClampNeg = x43 := by rw [eS197]; exact u2_self _ _ _ _
          refine ⟨a4, ea4, ?_⟩
          refine ⟨o_a4, ?_⟩
          obtain ⟨a200, ea200, o_a200, l_a200⟩ := shl 37 rfl hI o_a4
          refine ⟨a200, ea200, ?_⟩
          refine ⟨o_a200, ?_⟩
          have i201 : vp_in x188 (hN _ a200) := (vin l_a200 (m := 12) (by decide) (qr437 r_kv5 r_kv6 r_kv7 hnf r_x9 ph1_S11 ph3_S11 ph1_S18 kk_x17 ph1_S24 ph1_S30 ph1_S37 ph1_S44 kk_x43 q_x49 c50 c133 ph1_S135 ph1_S141 bb_x140 c146 ph1_S179 q_x185 c186 r_x188 q_x188))
          refine ⟨i201, ?_⟩
          intro S202 eS202
          have hIn : IV S202 := by rw [eS202]; exact iv10_aI hI o_a4 (rg_nw hG ea4) ea200 o_a200 (by decide)
          have hG := rg_a (jj := 15) (x := x188) eS202 hI ea4 o_a4 ea200 o_a200 (by decide) (h1_no (by decide)) (h2_no (y := 0) (by decide)) hG
          have hn := rn_11 eS202 hI o_v0 o_a200 (by decide) hn
          have el193 := el_ar eS202 (ow_ne hI o_a4 (by decide) o_a4 (by decide) ea200 ea190 (by decide)) el193
          have el198 := el_ar eS202 (ow_ne hI o_a4 (by decide) o_a4 (by decide) ea200 ea195 (by decide)) el198
          have hI := hIn
          have f0 := fr_A eS202 g0 f0 o_a200 (by decide)
          have d_kv5 := rd_Ik eS202 o_a200 o_a4 (by decide) d_kv5
          have d_kv6 := rd_Ik eS202 o_a200 o_a4 (by decide) d_kv6
          have d_kv7 := rd_Ik eS202 o_a200 o_a4 (by decide) d_kv7
          have d_x188 := rd_Ik eS202 o_a200 o_a4 (by decide) d_x188
          have d_x185 := rd_Ik eS202 o_a200 o_v0 (by decide) d_x185
          have d_kv183 := rd_Ik eS202 o_a200 o_v0 (by decide) d_kv183
          have d_kv184 := rd_Ik eS202 o_a200 o_v0 (by decide) d_kv184
          have ea4 := rf_I eS202 ea4
          have ea190 := rf_I eS202 ea190
          have ea195 := rf_I eS202 ea195
          have ea200 := rf_I eS202 ea200
          have l_a190 := ln_I eS202 l_a190
          have l_a195 := ln_I eS202 l_a195
          have l_a200 := ln_I eS202 l_a200
          have g0 := gr_I eS202 g0
          have o_a190 := ob_I eS202 o_a190
          have o_a195 := ob_I eS202 o_a195
          have o_a200 := ob_I eS202 o_a200
          have o_a4 := ob_I eS202 o_a4
          have o_v0 := ob_I eS202 o_v0
          refine ⟨a4, ea4, ?_⟩
          refine ⟨o_a4, ?_⟩
          obtain ⟨a204, ea204, o_a204, l_a204⟩ := shl 38 rfl hI o_a4
          refine ⟨a204, ea204, ?_⟩
          refine ⟨o_a204, ?_⟩
          have i205 : vp_in x188 (hN _ a204) := (vin l_a204 (m := 12) (by decide) (qr437 r_kv5 r_kv6 r_kv7 hnf r_x9 ph1_S11 ph3_S11 ph1_S18 kk_x17 ph1_S24 ph1_S30 ph1_S37 ph1_S44 kk_x43 q_x49 c50 c133 ph1_S135 ph1_S141 bb_x140 c146 ph1_S179 q_x185 c186 r_x188 q_x188))
          refine ⟨i205, ?_⟩
          intro S206 eS206
          have hIn : IV S206 := by rw [eS206]; exact iv10_aI hI o_a4 (rg_nw hG ea4) ea204 o_a204 (by decide)
          have hG := rg_a (jj := 16) (x := x188) eS206 hI ea4 o_a4 ea204 o_a204 (by decide) (h1_one (c := 3) (lo := 1) (hi := 60) (hf := 99) (by decide) (by rw [← d_x188]; exact (qr438 r_kv5 r_kv6 r_kv7 hnf r_x9 ph1_S11 ph3_S11 ph1_S18 kk_x17 ph1_S24 ph1_S30 ph1_S37 ph1_S44 kk_x43 q_x49 c50 c133 ph1_S135 ph1_S141 bb_x140 c146 ph1_S179 q_x185 c186 r_x188 q_x188))) (h2_no (y := 0) (by decide)) hG
          have hn := rn_11 eS206 hI o_v0 o_a204 (by decide) hn
          have el193 := el_ar eS206 (ow_ne hI o_a4 (by decide) o_a4 (by decide) ea204 ea190 (by decide)) el193
          have el198 := el_ar eS206 (ow_ne hI o_a4 (by decide) o_a4 (by decide) ea204 ea195 (by decide)) el198
          have hI := hIn
          have f0 := fr_A eS206 g0 f0 o_a204 (by decide)
          have d_kv5 := rd_Ik eS206 o_a204 o_a4 (by decide) d_kv5
          have d_kv6 := rd_Ik eS206 o_a204 o_a4 (by decide) d_kv6
          have d_kv7 := rd_Ik eS206 o_a204 o_a4 (by decide) d_kv7
          have d_x188 := rd_Ik eS206 o_a204 o_a4 (by decide) d_x188
          have d_x185 := rd_Ik eS206 o_a204 o_v0 (by decide) d_x185
          have d_kv183 := rd_Ik eS206 o_a204 o_v0 (by decide) d_kv183
          have d_kv184 := rd_Ik eS206 o_a204 o_v0 (by decide) d_kv184
          have ea4 := rf_I eS206 ea4
          have ea190 := rf_I eS206 ea190
          have ea195 := rf_I eS206 ea195
          have ea200 := rf_I eS206 ea200
          have ea204 := rf_I eS206 ea204
          have l_a190 := ln_I eS206 l_a190
          have l_a195 := ln_I eS206 l_a195
          have l_a200 := ln_I eS206 l_a200
          have l_a204 := ln_I eS206 l_a204
          have g0 := gr_I eS206 g0
          have o_a190 := ob_I eS206 o_a190
          have o_a195 := ob_I eS206 o_a195
          have o_a200 := ob_I eS206 o_a200
          have o_a204 := ob_I eS206 o_a204
          have o_a4 := ob_I eS206 o_a4
          have o_v0 := ob_I eS206 o_v0
          have el207 : fI S206 a204 x188.toNatClampNeg = x36 := by rw [eS206]; exact u2_self _ _ _ _
          refine ⟨a4, ea4, ?_⟩
          refine ⟨o_a4, ?_⟩
          obtain ⟨a209, ea209, o_a209, l_a209⟩ := shl 39 rfl hI o_a4
          refine ⟨a209, ea209, ?_⟩
          refine ⟨o_a209, ?_⟩
          have i210 : vp_in x188 (hN _ a209) := (vin l_a209 (m := 12) (by decide) (qr437 r_kv5 r_kv6 r_kv7 hnf r_x9 ph1_S11 ph3_S11 ph1_S18 kk_x17 ph1_S24 ph1_S30 ph1_S37 ph1_S44 kk_x43 q_x49 c50 c133 ph1_S135 ph1_S141 bb_x140 c146 ph1_S179 q_x185 c186 r_x188 q_x188))
          refine ⟨i210, ?_⟩
          intro S211 eS211
          have hIn : IV S211 := by rw [eS211]; exact iv10_aI hI o_a4 (rg_nw hG ea4) ea209 o_a209 (by decide)
          have hG := rg_a (jj := 17) (x := x188) eS211 hI ea4 o_a4 ea209 o_a209 (by decide) (h1_no (by decide)) (h2_no (y := 0) (by decide)) hG
          have hn := rn_11 eS211 hI o_v0 o_a209 (by decide) hn
          have el193 := el_ar eS211 (ow_ne hI o_a4 (by decide) o_a4 (by decide) ea209 ea190 (by decide)) el193
          have el198 := el_ar eS211 (ow_ne hI o_a4 (by decide) o_a4 (by decide) ea209 ea195 (by decide)) el198
          have el207 := el_ar eS211 (ow_ne hI o_a4 (by decide) o_a4 (by decide) ea209 ea204 (by decide)) el207
          have hI := hIn
          have f0 := fr_A eS211 g0 f0 o_a209 (by decide)
          have d_kv5 := rd_Ik eS211 o_a209 o_a4 (by decide) d_kv5
          have d_kv6 := rd_Ik eS211 o_a209 o_a4 (by decide) d_kv6
          have d_kv7 := rd_Ik eS211 o_a209 o_a4 (by decide) d_kv7
          have d_x188 := rd_Ik eS211 o_a209 o_a4 (by decide) d_x188
          have d_x185 := rd_Ik eS211 o_a209 o_v0 (by decide) d_x185
          have d_kv183 := rd_Ik eS211 o_a209 o_v0 (by decide) d_kv183
          have d_kv184 := rd_Ik eS211 o_a209 o_v0 (by decide) d_kv184
          have ea4 := rf_I eS211 ea4
          have ea190 := rf_I eS211 ea190
          have ea195 := rf_I eS211 ea195
          have ea200 := rf_I eS211 ea200
          have ea204 := rf_I eS211 ea204
          have ea209 := rf_I eS211 ea209
          have l_a190 := ln_I eS211 l_a190
          have l_a195 := ln_I eS211 l_a195
          have l_a200 := ln_I eS211 l_a200
          have l_a204 := ln_I eS211 l_a204
          have l_a209 := ln_I eS211 l_a209
          have g0 := gr_I eS211 g0
          have o_a190 := ob_I eS211 o_a190
          have o_a195 := ob_I eS211 o_a195
          have o_a200 := ob_I eS211 o_a200
          have o_a204 := ob_I eS211 o_a204
          have o_a209 := ob_I eS211 o_a209
          have o_a4 := ob_I eS211 o_a4
          have o_v0 := ob_I eS211 o_v0
          refine ⟨a4, ea4, ?_⟩
          refine ⟨o_a4, ?_⟩
          intro x213 ex213
          have r_x213 : (0 : Int32) ≤ x213 ∧ x213 ≤ (12 : Int32) := by rw [ex213]; exact nu 19 rfl hI o_a4
          have q_x213 : x213 = x188 := ex213.trans d_x188.symm
          have d_x213 := ex213
          intro x214 ex214
          intro S215 eS215
          have hIn : IV S215 := by rw [eS215]; exact iv10_sI hI o_a4 (rg_nw hG ea4) (nu_one (lo := (0 : Int32)) (hi := (12 : Int32)) (by decide) (qr439 r_kv5 r_kv6 r_kv7 hnf r_x9 ph1_S11 ph3_S11 ph1_S18 kk_x17 ph1_S24 ph1_S30 ph1_S37 ph1_S44 kk_x43 q_x49 c50 c133 ph1_S135 ph1_S141 bb_x140 c146 ph1_S179 q_x185 c186 r_x188 q_x188 r_x213 q_x213 ex214))
          have hG := rg_inc (c := 3) (y := x213) eS215 hI ea4 o_a4 d_x213.symm (qr440 r_kv5 r_kv6 r_kv7 hnf r_x9 ph1_S11 ph3_S11 ph1_S18 kk_x17 ph1_S24 ph1_S30 ph1_S37 ph1_S44 kk_x43 q_x49 c50 c133 ph1_S135 ph1_S141 bb_x140 c146 ph1_S179 q_x185 c186 r_x188 q_x188 r_x213 q_x213 ex214) (qr441 r_kv5 r_kv6 r_kv7 hnf r_x9 ph1_S11 ph3_S11 ph1_S18 kk_x17 ph1_S24 ph1_S30 ph1_S37 ph1_S44 kk_x43 q_x49 c50 c133 ph1_S135 ph1_S141 bb_x140 c146 ph1_S179 q_x185 c186 r_x188 q_x188 r_x213 q_x213 ex214) (hn_3 ea190 (by rw [show x213 = x188 from (qr442 r_kv5 r_kv6 r_kv7 hnf r_x9 ph1_S11 ph3_S11 ph1_S18 kk_x17 ph1_S24 ph1_S30 ph1_S37 ph1_S44 kk_x43 q_x49 c50 c133 ph1_S135 ph1_S141 bb_x140 c146 ph1_S179 q_x185 c186 r_x188 q_x188 r_x213 q_x213 ex214), el193]; exact ⟨(qr443 r_kv5 r_kv6 r_kv7 hnf r_x9 ph1_S11 ph3_S11 ph1_S18 kk_x17 ph1_S24 ph1_S30 ph1_S37 ph1_S44 kk_x43 q_x49 c50 c133 ph1_S135 ph1_S141 bb_x140 c146 ph1_S179 q_x185 c186 r_x188 q_x188 r_x213 q_x213 ex214), (qr444 r_kv5 r_kv6 r_kv7 hnf r_x9 ph1_S11 ph3_S11 ph1_S18 kk_x17 ph1_S24 ph1_S30 ph1_S37 ph1_S44 kk_x43 q_x49 c50 c133 ph1_S135 ph1_S141 bb_x140 c146 ph1_S179 q_x185 c186 r_x188 q_x188 r_x213 q_x213 ex214), Or.inr (by rw [← d_kv6]; exact (qr445 r_kv5 r_kv6 r_kv7 hnf r_x9 ph1_S11 ph3_S11 ph1_S18 kk_x17 ph1_S24 ph1_S30 ph1_S37 ph1_S44 kk_x43 q_x49 c50 c133 ph1_S135 ph1_S141 bb_x140 c146 ph1_S179 q_x185 c186 r_x188 q_x188 r_x213 q_x213 ex214))⟩) ea195 (by rw [show x213 = x188 from (qr442 r_kv5 r_kv6 r_kv7 hnf r_x9 ph1_S11 ph3_S11 ph1_S18 kk_x17 ph1_S24 ph1_S30 ph1_S37 ph1_S44 kk_x43 q_x49 c50 c133 ph1_S135 ph1_S141 bb_x140 c146 ph1_S179 q_x185 c186 r_x188 q_x188 r_x213 q_x213 ex214), el198]; exact ⟨(qr446 r_kv5 r_kv6 r_kv7 hnf r_x9 ph1_S11 ph3_S11 ph1_S18 kk_x17 ph1_S24 ph1_S30 ph1_S37 ph1_S44 kk_x43 q_x49 c50 c133 ph1_S135 ph1_S141 bb_x140 c146 ph1_S179 q_x185 c186 r_x188 q_x188 r_x213 q_x213 ex214), (qr447 r_kv5 r_kv6 r_kv7 hnf r_x9 ph1_S11 ph3_S11 ph1_S18 kk_x17 ph1_S24 ph1_S30 ph1_S37 ph1_S44 kk_x43 q_x49 c50 c133 ph1_S135 ph1_S141 bb_x140 c146 ph1_S179 q_x185 c186 r_x188 q_x188 r_x213 q_x213 ex214), Or.inr (by rw [← d_kv6]; exact (qr448 r_kv5 r_kv6 r_kv7 hnf r_x9 ph1_S11 ph3_S11 ph1_S18 kk_x17 ph1_S24 ph1_S30 ph1_S37 ph1_S44 kk_x43 q_x49 c50 c133 ph1_S135 ph1_S141 bb_x140 c146 ph1_S179 q_x185 c186 r_x188 q_x188 r_x213 q_x213 ex214))⟩) ea204 (by rw [show x213 = x188 from (qr442 r_kv5 r_kv6 r_kv7 hnf r_x9 ph1_S11 ph3_S11 ph1_S18 kk_x17 ph1_S24 ph1_S30 ph1_S37 ph1_S44 kk_x43 q_x49 c50 c133 ph1_S135 ph1_S141 bb_x140 c146 ph1_S179 q_x185 c186 r_x188 q_x188 r_x213 q_x213 ex214), el207]; exact ⟨(qr449 r_kv5 r_kv6 r_kv7 hnf r_x9 ph1_S11 ph3_S11 ph1_S18 kk_x17 ph1_S24 ph1_S30 ph1_S37 p_x36 ph1_S44 kk_x43 q_x49 c50 c133 ph1_S135 ph1_S141 bb_x140 c146 ph1_S179 p_x178 q_x185 c186 r_x188 q_x188 r_x213 q_x213 ex214), (qr450 r_kv5 r_kv6 r_kv7 hnf r_x9 ph1_S11 ph3_S11 ph1_S18 kk_x17 ph1_S24 ph1_S30 ph1_S37 p_x36 ph1_S44 kk_x43 q_x49 c50 c133 ph1_S135 ph1_S141 bb_x140 c146 ph1_S179 p_x178 q_x185 c186 r_x188 q_x188 r_x213 q_x213 ex214), Or.inl rfl⟩)) (fun z _ hz => by rw [eS215] at hz; exact hs_no (by decide) z hz) hG
          have hn := rn_c eS215 (by decide) hn
          have el193 := el_ob eS215 o_a4 o_a190 (by decide) el193
          have el198 := el_ob eS215 o_a4 o_a195 (by decide) el198
          have el207 := el_ob eS215 o_a4 o_a204 (by decide) el207
          have hI := hIn
          have f0 := fr_I eS215 g0 f0 o_a4 (by decide)
          have d_kv5 := rd_Ij eS215 (by decide) d_kv5
          have d_kv6 := rd_Ij eS215 (by decide) d_kv6
          have d_kv7 := rd_Ij eS215 (by decide) d_kv7
          have d_x185 := rd_Ik eS215 o_a4 o_v0 (by decide) d_x185
          have d_kv183 := rd_Ik eS215 o_a4 o_v0 (by decide) d_kv183
          have d_kv184 := rd_Ik eS215 o_a4 o_v0 (by decide) d_kv184
          have d_x214 := rd_Is eS215 (rfl : x214 = x214)
          have ea4 := rf_I eS215 ea4
          have ea190 := rf_I eS215 ea190
          have ea195 := rf_I eS215 ea195
          have ea200 := rf_I eS215 ea200
          have ea204 := rf_I eS215 ea204
          have ea209 := rf_I eS215 ea209
          have l_a190 := ln_I eS215 l_a190
          have l_a195 := ln_I eS215 l_a195
          have l_a200 := ln_I eS215 l_a200
          have l_a204 := ln_I eS215 l_a204
          have l_a209 := ln_I eS215 l_a209
          have g0 := gr_I eS215 g0
          have o_a190 := ob_I eS215 o_a190
          have o_a195 := ob_I eS215 o_a195
          have o_a200 := ob_I eS215 o_a200
          have o_a204 := ob_I eS215 o_a204
          have o_a209 := ob_I eS215 o_a209
          have o_a4 := ob_I eS215 o_a4
          have o_v0 := ob_I eS215 o_v0
          exact hq _ hI g0 f0 ⟨hG, hn, (by have t : x185 = 5 → 0 < kv183 := (qr451 hO r_kv5 r_kv6 r_kv7 hnf r_x9 ph0_S11 ph1_S11 ph3_S11 ph0_S18 ph1_S18 kk_x17 ph0_S24 ph1_S24 ph0_S30 ph1_S30 ph0_S37 ph1_S37 ph0_S44 ph1_S44 kk_x43 q_x49 c50 c133 ph0_S135 ph1_S135 ph0_S141 ph1_S141 bb_x140 c146 ph0_S179 ph1_S179 q_x185 c186 r_x188 q_x188 r_x213 q_x213 ex214); rw [d_x185, d_kv183] at t; exact t), (by have t : x185 = 5 ∨ ¬ kv2 = 5 := (qr452 r_kv5 r_kv6 r_kv7 hnf r_x9 ph1_S11 ph3_S11 ph1_S18 kk_x17 ph1_S24 ph1_S30 ph1_S37 ph1_S44 kk_x43 q_x49 c50 c133 ph1_S135 ph1_S141 bb_x140 c146 ph1_S179 q_x185 c186 r_x188 q_x188 r_x213 q_x213 ex214); rw [di_9, d_x185] at t; exact t), (by have t : kv1 ≤ kv184 ∧ (x185 = 4 → kv1 < kv184 ∨ kv2 = 4) := (qr453 r_kv1 r_kv5 r_kv6 r_kv7 hnf r_x9 ph1_S11 r_kv16 ph2_S11 ph3_S11 ph1_S18 ph2_S18 kk_x17 ph1_S24 r_kv28 ph2_S24 ph1_S30 r_kv35 ph2_S30 ph1_S37 r_kv42 ph2_S37 ph1_S44 ph2_S44 kk_x43 q_x49 c50 c133 ph1_S135 r_kv139 ph2_S135 ph1_S141 r_kv145 ph2_S141 bb_x140 c146 ph1_S179 r_kv184 ph2_S179 q_x185 c186 r_x188 q_x188 r_x213 q_x213 ex214); rw [di_8, di_9, d_kv184, d_x185] at t; exact t)⟩
        · exact hq _ hI g0 f0 ⟨hG, hn, (by have t : x185 = 5 → 0 < kv183 := (qr454 hO r_kv5 r_kv6 r_kv7 hnf r_x9 ph0_S11 ph1_S11 ph3_S11 ph0_S18 ph1_S18 kk_x17 ph0_S24 ph1_S24 ph0_S30 ph1_S30 ph0_S37 ph1_S37 ph0_S44 ph1_S44 kk_x43 q_x49 c50 c133 ph0_S135 ph1_S135 ph0_S141 ph1_S141 bb_x140 c146 ph0_S179 ph1_S179 q_x185 c186); rw [d_x185, d_kv183] at t; exact t), (by have t : x185 = 5 ∨ ¬ kv2 = 5 := (qr455 r_kv5 r_kv6 r_kv7 hnf r_x9 ph1_S11 ph3_S11 ph1_S18 kk_x17 ph1_S24 ph1_S30 ph1_S37 ph1_S44 kk_x43 q_x49 c50 c133 ph1_S135 ph1_S141 bb_x140 c146 ph1_S179 q_x185 c186); rw [di_9, d_x185] at t; exact t), (by have t : kv1 ≤ kv184 ∧ (x185 = 4 → kv1 < kv184 ∨ kv2 = 4) := (qr456 r_kv1 r_kv5 r_kv6 r_kv7 hnf r_x9 ph1_S11 r_kv16 ph2_S11 ph3_S11 ph1_S18 ph2_S18 kk_x17 ph1_S24 r_kv28 ph2_S24 ph1_S30 r_kv35 ph2_S30 ph1_S37 r_kv42 ph2_S37 ph1_S44 ph2_S44 kk_x43 q_x49 c50 c133 ph1_S135 r_kv139 ph2_S135 ph1_S141 r_kv145 ph2_S141 bb_x140 c146 ph1_S179 r_kv184 ph2_S179 q_x185 c186); rw [di_8, di_9, d_kv184, d_x185] at t; exact t)⟩
    · have do215_kv42 := d_kv42
      have do215_x49 := d_x49
      have do215_kv48 := d_kv48
      refine m_X11_flaw hI o_v0 (qr457 r_kv5 r_kv6 r_kv7 hnf r_x9 ph1_S11 ph3_S11 ph1_S18 kk_x17 ph1_S24 ph1_S30 ph1_S37 ph1_S44 kk_x43 q_x49 c50 c133) hG (by have t : x49 = 5 → 0 < kv48 := (qr458 hO r_kv5 r_kv6 r_kv7 hnf r_x9 ph0_S11 ph1_S11 ph3_S11 ph0_S18 ph1_S18 kk_x17 ph0_S24 ph1_S24 ph0_S30 ph1_S30 ph0_S37 ph1_S37 ph0_S44 ph1_S44 kk_x43 q_x49 c50 c133); rw [d_x49, d_kv48] at t; exact t) (fun S217 hJ g218 fc219 p_S217 => ?_)
      obtain ⟨hG, pg0_S217, pg1_S217, pg2_S217, pg3_S217⟩ := p_S217
      have hn := rn_fr fc219 g218 hI o_v0 (by decide) hn
      have hI := hJ
      have d_kv5 := d_kv5.trans (fri_at fc219 (by decide) (by decide) o_a4).symm
      have d_kv6 := d_kv6.trans (fri_at fc219 (by decide) (by decide) o_a4).symm
      have d_kv7 := d_kv7.trans (fri_at fc219 (by decide) (by decide) o_a4).symm
      have d_x9 := d_x9.trans (fri_at fc219 (by decide) (by decide) o_a4).symm
      have d_kv42 := d_kv42.trans (fri_at fc219 (by decide) (by decide) o_v0).symm
      have ea4 := (frr_at fc219 (by decide) (by decide) o_v0).trans ea4
      have f0 := fri_tr (S := S44) g0 f0 fc219 (by decide) (by decide)
      have o_a4 := gr_ob g218 o_a4
      have o_v0 := gr_ob g218 o_v0
      have g0 := gr_tr (T := S44) g0 g218
      obtain ⟨kv220, d_kv220⟩ : ∃ z : Int32, z = fI S217 v0 9 := ⟨_, rfl⟩
      obtain ⟨kv221, d_kv221⟩ : ∃ z : Int32, z = fI S217 v0 13 := ⟨_, rfl⟩
      have ph0_S217 : kv220 = 5 → 0 < kv221 := by rw [d_kv220, d_kv221]; exact pg0_S217
      have ph1_S217 : kv220 = 5 ∨ ¬ x49 = 5 := by rw [do215_x49, d_kv220]; exact pg1_S217
      have ph2_S217 : kv42 ≤ kv42 ∧ (kv220 = 4 → kv42 < kv42 ∨ x49 = 4) := by rw [d_kv42, do215_x49, d_kv220]; exact pg2_S217
      have ph3_S217 : kv220 = 5 := by rw [d_kv220]; exact pg3_S217
      intro _
      refine u_X11_readRoad_62 ?_
      refine ⟨o_v0, ?_⟩
      have do221_kv42 := d_kv42
      have do221_kv220 := d_kv220
      have do221_kv221 := d_kv221
      refine m_X11_goesOn hI o_v0 hG (by have t : kv220 = 5 → 0 < kv221 := (qr459 hO r_kv5 r_kv6 r_kv7 hnf r_x9 ph0_S11 ph1_S11 ph3_S11 ph0_S18 ph1_S18 kk_x17 ph0_S24 ph1_S24 ph0_S30 ph1_S30 ph0_S37 ph1_S37 ph0_S44 ph1_S44 kk_x43 q_x49 c50 c133 ph0_S217 ph1_S217 ph3_S217); rw [d_kv220, d_kv221] at t; exact t) (fun S223 hJ g224 fc225 p_S223 => ?_)
      obtain ⟨hG, pg0_S223, pg1_S223, pg2_S223⟩ := p_S223
      have hn := rn_fr fc225 g224 hI o_v0 (by decide) hn
      have hI := hJ
      have d_kv5 := d_kv5.trans (fri_at fc225 (by decide) (by decide) o_a4).symm
      have d_kv6 := d_kv6.trans (fri_at fc225 (by decide) (by decide) o_a4).symm
      have d_kv7 := d_kv7.trans (fri_at fc225 (by decide) (by decide) o_a4).symm
      have d_x9 := d_x9.trans (fri_at fc225 (by decide) (by decide) o_a4).symm
      have d_kv221 := d_kv221.trans (fri_at fc225 (by decide) (by decide) o_v0).symm
      have ea4 := (frr_at fc225 (by decide) (by decide) o_v0).trans ea4
      have f0 := fri_tr (S := S217) g0 f0 fc225 (by decide) (by decide)
      have o_a4 := gr_ob g224 o_a4
      have o_v0 := gr_ob g224 o_v0
      have g0 := gr_tr (T := S217) g0 g224
      obtain ⟨kv226, d_kv226⟩ : ∃ z : Int32, z = fI S223 v0 9 := ⟨_, rfl⟩
      have ph0_S223 : kv226 = 5 → 0 < kv221 := by rw [d_kv226, d_kv221]; exact pg0_S223
      have ph1_S223 : kv226 = 5 ∨ ¬ kv220 = 5 := by rw [do221_kv220, d_kv226]; exact pg1_S223
      obtain ⟨kv227, d_kv227⟩ : ∃ z : Int32, z = fI S223 v0 8 := ⟨_, rfl⟩
      have r_kv227 : (0 : Int32) ≤ kv227 ∧ kv227 ≤ (900 : Int32) := by rw [d_kv227]; exact nu 25 rfl hI o_v0
      have ph2_S223 : kv42 ≤ kv227 ∧ (kv226 = 4 → kv42 < kv227 ∨ kv220 = 4) := by rw [do221_kv42, do221_kv220, d_kv227, d_kv226]; exact pg2_S223
      intro _
      have do227_kv227 := d_kv227
      have do227_kv226 := d_kv226
      have do227_kv221 := d_kv221
      refine m_X11_eatsWord hI o_v0 (by decide) hG (by have t : kv226 = 5 → 0 < kv221 := (qr460 hO r_kv5 r_kv6 r_kv7 hnf r_x9 ph0_S11 ph1_S11 ph3_S11 ph0_S18 ph1_S18 kk_x17 ph0_S24 ph1_S24 ph0_S30 ph1_S30 ph0_S37 ph1_S37 ph0_S44 ph1_S44 kk_x43 q_x49 c50 c133 ph0_S217 ph1_S217 ph3_S217 ph0_S223 ph1_S223); rw [d_kv226, d_kv221] at t; exact t) (fun x228 S229 hJ g230 fc231 b_x228 p_x228 => ?_)
      obtain ⟨hG, pg0_S229, pg1_S229, pg2_S229⟩ := p_x228
      have hn := rn_fr fc231 g230 hI o_v0 (by decide) hn
      have hI := hJ
      have d_kv5 := d_kv5.trans (fri_at fc231 (by decide) (by decide) o_a4).symm
      have d_kv6 := d_kv6.trans (fri_at fc231 (by decide) (by decide) o_a4).symm
      have d_kv7 := d_kv7.trans (fri_at fc231 (by decide) (by decide) o_a4).symm
      have d_x9 := d_x9.trans (fri_at fc231 (by decide) (by decide) o_a4).symm
      have d_kv221 := d_kv221.trans (fri_at fc231 (by decide) (by decide) o_v0).symm
      have ea4 := (frr_at fc231 (by decide) (by decide) o_v0).trans ea4
      have f0 := fri_tr (S := S223) g0 f0 fc231 (by decide) (by decide)
      have o_a4 := gr_ob g230 o_a4
      have o_v0 := gr_ob g230 o_v0
      have g0 := gr_tr (T := S223) g0 g230
      obtain ⟨kv232, d_kv232⟩ : ∃ z : Int32, z = fI S229 v0 9 := ⟨_, rfl⟩
      have ph0_S229 : kv232 = 5 → 0 < kv221 := by rw [d_kv232, d_kv221]; exact pg0_S229
      have ph1_S229 : kv232 = 5 ∨ ¬ kv226 = 5 := by rw [do227_kv226, d_kv232]; exact pg1_S229
      obtain ⟨kv233, d_kv233⟩ : ∃ z : Int32, z = fI S229 v0 8 := ⟨_, rfl⟩
      have r_kv233 : (0 : Int32) ≤ kv233 ∧ kv233 ≤ (900 : Int32) := by rw [d_kv233]; exact nu 25 rfl hI o_v0
      have ph2_S229 : kv227 ≤ kv233 ∧ (kv232 = 4 → kv227 < kv233 ∨ kv226 = 4) := by rw [do227_kv227, do227_kv226, d_kv233, d_kv232]; exact pg2_S229
      intro _ _
      have bb_x228 : x228 = 0 ∨ x228 = 1 := b_x228
      refine ⟨fun c234 => ?_, fun c234 => ?_⟩
      · refine u_X11_readRoad_85 ?_
        refine ⟨o_v0, ?_⟩
        intro x235 ex235
        have q_x235 : x235 = kv232 := ex235.trans d_kv232.symm
        have d_x235 := ex235
        refine ⟨fun c236 => ?_, fun c236 => ?_⟩
        · refine ⟨a4, ea4, ?_⟩
          refine ⟨o_a4, ?_⟩
          intro x238 ex238
          have r_x238 : (0 : Int32) ≤ x238 ∧ x238 ≤ (12 : Int32) := by rw [ex238]; exact nu 19 rfl hI o_a4
          have q_x238 : x238 = x9 := ex238.trans d_x9.symm
          have d_x238 := ex238
          refine ⟨a4, ea4, ?_⟩
          refine ⟨o_a4, ?_⟩
          obtain ⟨a240, ea240, o_a240, l_a240⟩ := shl 35 rfl hI o_a4
          refine ⟨a240, ea240, ?_⟩
          refine ⟨o_a240, ?_⟩
          have i241 : vp_in x238 (hN _ a240) := (vin l_a240 (m := 12) (by decide) (qr461 r_kv5 r_kv6 r_kv7 hnf r_x9 ph1_S11 ph3_S11 ph1_S18 kk_x17 ph1_S24 ph1_S30 ph1_S37 ph1_S44 kk_x43 q_x49 c50 c133 ph1_S217 ph3_S217 ph1_S223 ph1_S229 bb_x228 c234 q_x235 c236 r_x238 q_x238))
          refine ⟨i241, ?_⟩
          intro S242 eS242
          have hIn : IV S242 := by rw [eS242]; exact iv10_aI hI o_a4 (rg_nw hG ea4) ea240 o_a240 (by decide)
          have hG := rg_a (jj := 13) (x := x238) eS242 hI ea4 o_a4 ea240 o_a240 (by decide) (h1_one (c := 3) (lo := 0) (hi := 7) (hf := 2) (by decide) (by rw [← d_x238]; exact (qr462 r_kv5 r_kv6 r_kv7 hnf r_x9 ph1_S11 ph3_S11 ph1_S18 kk_x17 ph1_S24 ph1_S30 ph1_S37 ph1_S44 kk_x43 q_x49 c50 c133 ph1_S217 ph3_S217 ph1_S223 ph1_S229 bb_x228 c234 q_x235 c236 r_x238 q_x238))) (h2_no (y := 0) (by decide)) hG
          have hn := rn_11 eS242 hI o_v0 o_a240 (by decide) hn
          have hI := hIn
          have f0 := fr_A eS242 g0 f0 o_a240 (by decide)
          have d_kv5 := rd_Ik eS242 o_a240 o_a4 (by decide) d_kv5
          have d_kv6 := rd_Ik eS242 o_a240 o_a4 (by decide) d_kv6
          have d_kv7 := rd_Ik eS242 o_a240 o_a4 (by decide) d_kv7
          have d_x238 := rd_Ik eS242 o_a240 o_a4 (by decide) d_x238
          have d_kv221 := rd_Ik eS242 o_a240 o_v0 (by decide) d_kv221
          have d_x235 := rd_Ik eS242 o_a240 o_v0 (by decide) d_x235
          have d_kv233 := rd_Ik eS242 o_a240 o_v0 (by decide) d_kv233
          have ea4 := rf_I eS242 ea4
          have ea240 := rf_I eS242 ea240
          have l_a240 := ln_I eS242 l_a240
          have g0 := gr_I eS242 g0
          have o_a240 := ob_I eS242 o_a240
          have o_a4 := ob_I eS242 o_a4
          have o_v0 := ob_I eS242 o_v0
          have el243 : fI S242 a240 x238.toNatClampNeg = x17 := by rw [eS242]; exact u2_self _ _ _ _
          refine ⟨a4, ea4, ?_⟩
          refine ⟨o_a4, ?_⟩
          obtain ⟨a245, ea245, o_a245, l_a245⟩ := shl 36 rfl hI o_a4
          refine ⟨a245, ea245, ?_⟩
          refine ⟨o_a245, ?_⟩
          have i246 : vp_in x238 (hN _ a245) := (vin l_a245 (m := 12) (by decide) (qr461 r_kv5 r_kv6 r_kv7 hnf r_x9 ph1_S11 ph3_S11 ph1_S18 kk_x17 ph1_S24 ph1_S30 ph1_S37 ph1_S44 kk_x43 q_x49 c50 c133 ph1_S217 ph3_S217 ph1_S223 ph1_S229 bb_x228 c234 q_x235 c236 r_x238 q_x238))
          refine ⟨i246, ?_⟩
          intro S247 eS247
          have hIn : IV S247 := by rw [eS247]; exact iv10_aI hI o_a4 (rg_nw hG ea4) ea245 o_a245 (by decide)
          have hG := rg_a (jj := 14) (x := x238) eS247 hI ea4 o_a4 ea245 o_a245 (by decide) (h1_one (c := 3) (lo := 0) (hi := 7) (hf := 2) (by decide) (by rw [← d_x238]; exact (qr462 r_kv5 r_kv6 r_kv7 hnf r_x9 ph1_S11 ph3_S11 ph1_S18 kk_x17 ph1_S24 ph1_S30 ph1_S37 ph1_S44 kk_x43 q_x49 c50 c133 ph1_S217 ph3_S217 ph1_S223 ph1_S229 bb_x228 c234 q_x235 c236 r_x238 q_x238))) (h2_no (y := 0) (by decide)) hG
          have hn := rn_11 eS247 hI o_v0 o_a245 (by decide) hn
          have el243 := el_ar eS247 (ow_ne hI o_a4 (by decide) o_a4 (by decide) ea245 ea240 (by decide)) el243
          have hI := hIn
          have f0 := fr_A eS247 g0 f0 o_a245 (by decide)
          have d_kv5 := rd_Ik eS247 o_a245 o_a4 (by decide) d_kv5
          have d_kv6 := rd_Ik eS247 o_a245 o_a4 (by decide) d_kv6
          have d_kv7 := rd_Ik eS247 o_a245 o_a4 (by decide) d_kv7
          have d_x238 := rd_Ik eS247 o_a245 o_a4 (by decide) d_x238
          have d_kv221 := rd_Ik eS247 o_a245 o_v0 (by decide) d_kv221
          have d_x235 := rd_Ik eS247 o_a245 o_v0 (by decide) d_x235
          have d_kv233 := rd_Ik eS247 o_a245 o_v0 (by decide) d_kv233
          have ea4 := rf_I eS247 ea4
          have ea240 := rf_I eS247 ea240
          have ea245 := rf_I eS247 ea245
          have l_a240 := ln_I eS247 l_a240
          have l_a245 := ln_I eS247 l_a245
          have g0 := gr_I eS247 g0
          have o_a240 := ob_I eS247 o_a240
          have o_a245 := ob_I eS247 o_a245
          have o_a4 := ob_I eS247 o_a4
          have o_v0 := ob_I eS247 o_v0
          have el248 : fI S247 a245 x238.toNatClampNeg = x43 := by rw [eS247]; exact u2_self _ _ _ _
          refine ⟨a4, ea4, ?_⟩
          refine ⟨o_a4, ?_⟩
          obtain ⟨a250, ea250, o_a250, l_a250⟩ := shl 37 rfl hI o_a4
          refine ⟨a250, ea250, ?_⟩
          refine ⟨o_a250, ?_⟩
          have i251 : vp_in x238 (hN _ a250) := (vin l_a250 (m := 12) (by decide) (qr461 r_kv5 r_kv6 r_kv7 hnf r_x9 ph1_S11 ph3_S11 ph1_S18 kk_x17 ph1_S24 ph1_S30 ph1_S37 ph1_S44 kk_x43 q_x49 c50 c133 ph1_S217 ph3_S217 ph1_S223 ph1_S229 bb_x228 c234 q_x235 c236 r_x238 q_x238))
          refine ⟨i251, ?_⟩
          intro S252 eS252
          have hIn : IV S252 := by rw [eS252]; exact iv10_aI hI o_a4 (rg_nw hG ea4) ea250 o_a250 (by decide)
          have hG := rg_a (jj := 15) (x := x238) eS252 hI ea4 o_a4 ea250 o_a250 (by decide) (h1_no (by decide)) (h2_no (y := 0) (by decide)) hG
          have hn := rn_11 eS252 hI o_v0 o_a250 (by decide) hn
          have el243 := el_ar eS252 (ow_ne hI o_a4 (by decide) o_a4 (by decide) ea250 ea240 (by decide)) el243
          have el248 := el_ar eS252 (ow_ne hI o_a4 (by decide) o_a4 (by decide) ea250 ea245 (by decide)) el248
          have hI := hIn
          have f0 := fr_A eS252 g0 f0 o_a250 (by decide)
          have d_kv5 := rd_Ik eS252 o_a250 o_a4 (by decide) d_kv5
          have d_kv6 := rd_Ik eS252 o_a250 o_a4 (by decide) d_kv6
          have d_kv7 := rd_Ik eS252 o_a250 o_a4 (by decide) d_kv7
          have d_x238 := rd_Ik eS252 o_a250 o_a4 (by decide) d_x238
          have d_kv221 := rd_Ik eS252 o_a250 o_v0 (by decide) d_kv221
          have d_x235 := rd_Ik eS252 o_a250 o_v0 (by decide) d_x235
          have d_kv233 := rd_Ik eS252 o_a250 o_v0 (by decide) d_kv233
          have ea4 := rf_I eS252 ea4
          have ea240 := rf_I eS252 ea240
          have ea245 := rf_I eS252 ea245
          have ea250 := rf_I eS252 ea250
          have l_a240 := ln_I eS252 l_a240
          have l_a245 := ln_I eS252 l_a245
          have l_a250 := ln_I eS252 l_a250
          have g0 := gr_I eS252 g0
          have o_a240 := ob_I eS252 o_a240
          have o_a245 := ob_I eS252 o_a245
          have o_a250 := ob_I eS252 o_a250
          have o_a4 := ob_I eS252 o_a4
          have o_v0 := ob_I eS252 o_v0
          refine ⟨a4, ea4, ?_⟩
          refine ⟨o_a4, ?_⟩
          obtain ⟨a254, ea254, o_a254, l_a254⟩ := shl 38 rfl hI o_a4
          refine ⟨a254, ea254, ?_⟩
          refine ⟨o_a254, ?_⟩
          have i255 : vp_in x238 (hN _ a254) := (vin l_a254 (m := 12) (by decide) (qr461 r_kv5 r_kv6 r_kv7 hnf r_x9 ph1_S11 ph3_S11 ph1_S18 kk_x17 ph1_S24 ph1_S30 ph1_S37 ph1_S44 kk_x43 q_x49 c50 c133 ph1_S217 ph3_S217 ph1_S223 ph1_S229 bb_x228 c234 q_x235 c236 r_x238 q_x238))
          refine ⟨i255, ?_⟩
          intro S256 eS256
          have hIn : IV S256 := by rw [eS256]; exact iv10_aI hI o_a4 (rg_nw hG ea4) ea254 o_a254 (by decide)
          have hG := rg_a (jj := 16) (x := x238) eS256 hI ea4 o_a4 ea254 o_a254 (by decide) (h1_one (c := 3) (lo := 1) (hi := 60) (hf := 99) (by decide) (by rw [← d_x238]; exact (qr462 r_kv5 r_kv6 r_kv7 hnf r_x9 ph1_S11 ph3_S11 ph1_S18 kk_x17 ph1_S24 ph1_S30 ph1_S37 ph1_S44 kk_x43 q_x49 c50 c133 ph1_S217 ph3_S217 ph1_S223 ph1_S229 bb_x228 c234 q_x235 c236 r_x238 q_x238))) (h2_no (y := 0) (by decide)) hG
          have hn := rn_11 eS256 hI o_v0 o_a254 (by decide) hn
          have el243 := el_ar eS256 (ow_ne hI o_a4 (by decide) o_a4 (by decide) ea254 ea240 (by decide)) el243
          have el248 := el_ar eS256 (ow_ne hI o_a4 (by decide) o_a4 (by decide) ea254 ea245 (by decide)) el248
          have hI := hIn
          have f0 := fr_A eS256 g0 f0 o_a254 (by decide)
          have d_kv5 := rd_Ik eS256 o_a254 o_a4 (by decide) d_kv5
          have d_kv6 := rd_Ik eS256 o_a254 o_a4 (by decide) d_kv6
          have d_kv7 := rd_Ik eS256 o_a254 o_a4 (by decide) d_kv7
          have d_x238 := rd_Ik eS256 o_a254 o_a4 (by decide) d_x238
          have d_kv221 := rd_Ik eS256 o_a254 o_v0 (by decide) d_kv221
          have d_x235 := rd_Ik eS256 o_a254 o_v0 (by decide) d_x235
          have d_kv233 := rd_Ik eS256 o_a254 o_v0 (by decide) d_kv233
          have ea4 := rf_I eS256 ea4
          have ea240 := rf_I eS256 ea240
          have ea245 := rf_I eS256 ea245
          have ea250 := rf_I eS256 ea250
          have ea254 := rf_I eS256 ea254
          have l_a240 := ln_I eS256 l_a240
          have l_a245 := ln_I eS256 l_a245
          have l_a250 := ln_I eS256 l_a250
          have l_a254 := ln_I eS256 l_a254
          have g0 := gr_I eS256 g0
          have o_a240 := ob_I eS256 o_a240
          have o_a245 := ob_I eS256 o_a245
          have o_a250 := ob_I eS256 o_a250
          have o_a254 := ob_I eS256 o_a254
          have o_a4 := ob_I eS256 o_a4
          have o_v0 := ob_I eS256 o_v0
          have el257 : fI S256 a254 x238.toNatClampNeg = x36 := by rw [eS256]; exact u2_self _ _ _ _
          refine ⟨a4, ea4, ?_⟩
          refine ⟨o_a4, ?_⟩
          obtain ⟨a259, ea259, o_a259, l_a259⟩ := shl 39 rfl hI o_a4
          refine ⟨a259, ea259, ?_⟩
          refine ⟨o_a259, ?_⟩
          have i260 : vp_in x238 (hN _ a259) := (vin l_a259 (m := 12) (by decide) (qr461 r_kv5 r_kv6 r_kv7 hnf r_x9 ph1_S11 ph3_S11 ph1_S18 kk_x17 ph1_S24 ph1_S30 ph1_S37 ph1_S44 kk_x43 q_x49 c50 c133 ph1_S217 ph3_S217 ph1_S223 ph1_S229 bb_x228 c234 q_x235 c236 r_x238 q_x238))
          refine ⟨i260, ?_⟩
          intro S261 eS261
          have hIn : IV S261 := by rw [eS261]; exact iv10_aI hI o_a4 (rg_nw hG ea4) ea259 o_a259 (by decide)
          have hG := rg_a (jj := 17) (x := x238) eS261 hI ea4 o_a4 ea259 o_a259 (by decide) (h1_no (by decide)) (h2_no (y := 0) (by decide)) hG
          have hn := rn_11 eS261 hI o_v0 o_a259 (by decide) hn
          have el243 := el_ar eS261 (ow_ne hI o_a4 (by decide) o_a4 (by decide) ea259 ea240 (by decide)) el243
          have el248 := el_ar eS261 (ow_ne hI o_a4 (by decide) o_a4 (by decide) ea259 ea245 (by decide)) el248
          have el257 := el_ar eS261 (ow_ne hI o_a4 (by decide) o_a4 (by decide) ea259 ea254 (by decide)) el257
          have hI := hIn
          have f0 := fr_A eS261 g0 f0 o_a259 (by decide)
          have d_kv5 := rd_Ik eS261 o_a259 o_a4 (by decide) d_kv5
          have d_kv6 := rd_Ik eS261 o_a259 o_a4 (by decide) d_kv6
          have d_kv7 := rd_Ik eS261 o_a259 o_a4 (by decide) d_kv7
          have d_x238 := rd_Ik eS261 o_a259 o_a4 (by decide) d_x238
          have d_kv221 := rd_Ik eS261 o_a259 o_v0 (by decide) d_kv221
          have d_x235 := rd_Ik eS261 o_a259 o_v0 (by decide) d_x235
          have d_kv233 := rd_Ik eS261 o_a259 o_v0 (by decide) d_kv233
          have ea4 := rf_I eS261 ea4
          have ea240 := rf_I eS261 ea240
          have ea245 := rf_I eS261 ea245
          have ea250 := rf_I eS261 ea250
          have ea254 := rf_I eS261 ea254
          have ea259 := rf_I eS261 ea259
          have l_a240 := ln_I eS261 l_a240
          have l_a245 := ln_I eS261 l_a245
          have l_a250 := ln_I eS261 l_a250
          have l_a254 := ln_I eS261 l_a254
          have l_a259 := ln_I eS261 l_a259
          have g0 := gr_I eS261 g0
          have o_a240 := ob_I eS261 o_a240
          have o_a245 := ob_I eS261 o_a245
          have o_a250 := ob_I eS261 o_a250
          have o_a254 := ob_I eS261 o_a254
          have o_a259 := ob_I eS261 o_a259
          have o_a4 := ob_I eS261 o_a4
          have o_v0 := ob_I eS261 o_v0
          refine ⟨a4, ea4, ?_⟩
          refine ⟨o_a4, ?_⟩
          intro x263 ex263
          have r_x263 : (0 : Int32) ≤ x263 ∧ x263 ≤ (12 : Int32) := by rw [ex263]; exact nu 19 rfl hI o_a4
          have q_x263 : x263 = x238 := ex263.trans d_x238.symm
          have d_x263 := ex263
          intro x264 ex264
          intro S265 eS265
          have hIn : IV S265 := by rw [eS265]; exact iv10_sI hI o_a4 (rg_nw hG ea4) (nu_one (lo := (0 : Int32)) (hi := (12 : Int32)) (by decide) (qr463 r_kv5 r_kv6 r_kv7 hnf r_x9 ph1_S11 ph3_S11 ph1_S18 kk_x17 ph1_S24 ph1_S30 ph1_S37 ph1_S44 kk_x43 q_x49 c50 c133 ph1_S217 ph3_S217 ph1_S223 ph1_S229 bb_x228 c234 q_x235 c236 r_x238 q_x238 r_x263 q_x263 ex264))
          have hG := rg_inc (c := 3) (y := x263) eS265 hI ea4 o_a4 d_x263.symm (qr464 r_kv5 r_kv6 r_kv7 hnf r_x9 ph1_S11 ph3_S11 ph1_S18 kk_x17 ph1_S24 ph1_S30 ph1_S37 ph1_S44 kk_x43 q_x49 c50 c133 ph1_S217 ph3_S217 ph1_S223 ph1_S229 bb_x228 c234 q_x235 c236 r_x238 q_x238 r_x263 q_x263 ex264) (qr465 r_kv5 r_kv6 r_kv7 hnf r_x9 ph1_S11 ph3_S11 ph1_S18 kk_x17 ph1_S24 ph1_S30 ph1_S37 ph1_S44 kk_x43 q_x49 c50 c133 ph1_S217 ph3_S217 ph1_S223 ph1_S229 bb_x228 c234 q_x235 c236 r_x238 q_x238 r_x263 q_x263 ex264) (hn_3 ea240 (by rw [show x263 = x238 from (qr466 r_kv5 r_kv6 r_kv7 hnf r_x9 ph1_S11 ph3_S11 ph1_S18 kk_x17 ph1_S24 ph1_S30 ph1_S37 ph1_S44 kk_x43 q_x49 c50 c133 ph1_S217 ph3_S217 ph1_S223 ph1_S229 bb_x228 c234 q_x235 c236 r_x238 q_x238 r_x263 q_x263 ex264), el243]; exact ⟨(qr467 r_kv5 r_kv6 r_kv7 hnf r_x9 ph1_S11 ph3_S11 ph1_S18 kk_x17 ph1_S24 ph1_S30 ph1_S37 ph1_S44 kk_x43 q_x49 c50 c133 ph1_S217 ph3_S217 ph1_S223 ph1_S229 bb_x228 c234 q_x235 c236 r_x238 q_x238 r_x263 q_x263 ex264), (qr468 r_kv5 r_kv6 r_kv7 hnf r_x9 ph1_S11 ph3_S11 ph1_S18 kk_x17 ph1_S24 ph1_S30 ph1_S37 ph1_S44 kk_x43 q_x49 c50 c133 ph1_S217 ph3_S217 ph1_S223 ph1_S229 bb_x228 c234 q_x235 c236 r_x238 q_x238 r_x263 q_x263 ex264), Or.inr (by rw [← d_kv6]; exact (qr469 r_kv5 r_kv6 r_kv7 hnf r_x9 ph1_S11 ph3_S11 ph1_S18 kk_x17 ph1_S24 ph1_S30 ph1_S37 ph1_S44 kk_x43 q_x49 c50 c133 ph1_S217 ph3_S217 ph1_S223 ph1_S229 bb_x228 c234 q_x235 c236 r_x238 q_x238 r_x263 q_x263 ex264))⟩) ea245 (by rw [show x263 = x238 from (qr466 r_kv5 r_kv6 r_kv7 hnf r_x9 ph1_S11 ph3_S11 ph1_S18 kk_x17 ph1_S24 ph1_S30 ph1_S37 ph1_S44 kk_x43 q_x49 c50 c133 ph1_S217 ph3_S217 ph1_S223 ph1_S229 bb_x228 c234 q_x235 c236 r_x238 q_x238 r_x263 q_x263 ex264), el248]; exact ⟨(qr470 r_kv5 r_kv6 r_kv7 hnf r_x9 ph1_S11 ph3_S11 ph1_S18 kk_x17 ph1_S24 ph1_S30 ph1_S37 ph1_S44 kk_x43 q_x49 c50 c133 ph1_S217 ph3_S217 ph1_S223 ph1_S229 bb_x228 c234 q_x235 c236 r_x238 q_x238 r_x263 q_x263 ex264), (qr471 r_kv5 r_kv6 r_kv7 hnf r_x9 ph1_S11 ph3_S11 ph1_S18 kk_x17 ph1_S24 ph1_S30 ph1_S37 ph1_S44 kk_x43 q_x49 c50 c133 ph1_S217 ph3_S217 ph1_S223 ph1_S229 bb_x228 c234 q_x235 c236 r_x238 q_x238 r_x263 q_x263 ex264), Or.inr (by rw [← d_kv6]; exact (qr472 r_kv5 r_kv6 r_kv7 hnf r_x9 ph1_S11 ph3_S11 ph1_S18 kk_x17 ph1_S24 ph1_S30 ph1_S37 ph1_S44 kk_x43 q_x49 c50 c133 ph1_S217 ph3_S217 ph1_S223 ph1_S229 bb_x228 c234 q_x235 c236 r_x238 q_x238 r_x263 q_x263 ex264))⟩) ea254 (by rw [show x263 = x238 from (qr466 r_kv5 r_kv6 r_kv7 hnf r_x9 ph1_S11 ph3_S11 ph1_S18 kk_x17 ph1_S24 ph1_S30 ph1_S37 ph1_S44 kk_x43 q_x49 c50 c133 ph1_S217 ph3_S217 ph1_S223 ph1_S229 bb_x228 c234 q_x235 c236 r_x238 q_x238 r_x263 q_x263 ex264), el257]; exact ⟨(qr473 r_kv5 r_kv6 r_kv7 hnf r_x9 ph1_S11 ph3_S11 ph1_S18 kk_x17 ph1_S24 ph1_S30 ph1_S37 p_x36 ph1_S44 kk_x43 q_x49 c50 c133 ph1_S217 ph3_S217 ph1_S223 ph1_S229 bb_x228 c234 q_x235 c236 r_x238 q_x238 r_x263 q_x263 ex264), (qr474 r_kv5 r_kv6 r_kv7 hnf r_x9 ph1_S11 ph3_S11 ph1_S18 kk_x17 ph1_S24 ph1_S30 ph1_S37 p_x36 ph1_S44 kk_x43 q_x49 c50 c133 ph1_S217 ph3_S217 ph1_S223 ph1_S229 bb_x228 c234 q_x235 c236 r_x238 q_x238 r_x263 q_x263 ex264), Or.inl rfl⟩)) (fun z _ hz => by rw [eS265] at hz; exact hs_no (by decide) z hz) hG
          have hn := rn_c eS265 (by decide) hn
          have el243 := el_ob eS265 o_a4 o_a240 (by decide) el243
          have el248 := el_ob eS265 o_a4 o_a245 (by decide) el248
          have el257 := el_ob eS265 o_a4 o_a254 (by decide) el257
          have hI := hIn
          have f0 := fr_I eS265 g0 f0 o_a4 (by decide)
          have d_kv5 := rd_Ij eS265 (by decide) d_kv5
          have d_kv6 := rd_Ij eS265 (by decide) d_kv6
          have d_kv7 := rd_Ij eS265 (by decide) d_kv7
          have d_kv221 := rd_Ik eS265 o_a4 o_v0 (by decide) d_kv221
          have d_x235 := rd_Ik eS265 o_a4 o_v0 (by decide) d_x235
          have d_kv233 := rd_Ik eS265 o_a4 o_v0 (by decide) d_kv233
          have d_x264 := rd_Is eS265 (rfl : x264 = x264)
          have ea4 := rf_I eS265 ea4
          have ea240 := rf_I eS265 ea240
          have ea245 := rf_I eS265 ea245
          have ea250 := rf_I eS265 ea250
          have ea254 := rf_I eS265 ea254
          have ea259 := rf_I eS265 ea259
          have l_a240 := ln_I eS265 l_a240
          have l_a245 := ln_I eS265 l_a245
          have l_a250 := ln_I eS265 l_a250
          have l_a254 := ln_I eS265 l_a254
          have l_a259 := ln_I eS265 l_a259
          have g0 := gr_I eS265 g0
          have o_a240 := ob_I eS265 o_a240
          have o_a245 := ob_I eS265 o_a245
          have o_a250 := ob_I eS265 o_a250
          have o_a254 := ob_I eS265 o_a254
          have o_a259 := ob_I eS265 o_a259
          have o_a4 := ob_I eS265 o_a4
          have o_v0 := ob_I eS265 o_v0
          exact hq _ hI g0 f0 ⟨hG, hn, (by have t : x235 = 5 → 0 < kv221 := (qr475 hO r_kv5 r_kv6 r_kv7 hnf r_x9 ph0_S11 ph1_S11 ph3_S11 ph0_S18 ph1_S18 kk_x17 ph0_S24 ph1_S24 ph0_S30 ph1_S30 ph0_S37 ph1_S37 ph0_S44 ph1_S44 kk_x43 q_x49 c50 c133 ph0_S217 ph1_S217 ph3_S217 ph0_S223 ph1_S223 ph0_S229 ph1_S229 bb_x228 c234 q_x235 c236 r_x238 q_x238 r_x263 q_x263 ex264); rw [d_x235, d_kv221] at t; exact t), (by have t : x235 = 5 ∨ ¬ kv2 = 5 := (qr476 r_kv5 r_kv6 r_kv7 hnf r_x9 ph1_S11 ph3_S11 ph1_S18 kk_x17 ph1_S24 ph1_S30 ph1_S37 ph1_S44 kk_x43 q_x49 c50 c133 ph1_S217 ph3_S217 ph1_S223 ph1_S229 bb_x228 c234 q_x235 c236 r_x238 q_x238 r_x263 q_x263 ex264); rw [di_9, d_x235] at t; exact t), (by have t : kv1 ≤ kv233 ∧ (x235 = 4 → kv1 < kv233 ∨ kv2 = 4) := (qr477 r_kv1 r_kv5 r_kv6 r_kv7 hnf r_x9 ph1_S11 r_kv16 ph2_S11 ph3_S11 ph1_S18 ph2_S18 kk_x17 ph1_S24 r_kv28 ph2_S24 ph1_S30 r_kv35 ph2_S30 ph1_S37 r_kv42 ph2_S37 ph1_S44 ph2_S44 kk_x43 q_x49 c50 c133 ph1_S217 ph2_S217 ph3_S217 ph1_S223 r_kv227 ph2_S223 ph1_S229 r_kv233 ph2_S229 bb_x228 c234 q_x235 c236 r_x238 q_x238 r_x263 q_x263 ex264); rw [di_8, di_9, d_kv233, d_x235] at t; exact t)⟩
        · exact hq _ hI g0 f0 ⟨hG, hn, (by have t : x235 = 5 → 0 < kv221 := (qr478 hO r_kv5 r_kv6 r_kv7 hnf r_x9 ph0_S11 ph1_S11 ph3_S11 ph0_S18 ph1_S18 kk_x17 ph0_S24 ph1_S24 ph0_S30 ph1_S30 ph0_S37 ph1_S37 ph0_S44 ph1_S44 kk_x43 q_x49 c50 c133 ph0_S217 ph1_S217 ph3_S217 ph0_S223 ph1_S223 ph0_S229 ph1_S229 bb_x228 c234 q_x235 c236); rw [d_x235, d_kv221] at t; exact t), (by have t : x235 = 5 ∨ ¬ kv2 = 5 := (qr479 r_kv5 r_kv6 r_kv7 hnf r_x9 ph1_S11 ph3_S11 ph1_S18 kk_x17 ph1_S24 ph1_S30 ph1_S37 ph1_S44 kk_x43 q_x49 c50 c133 ph1_S217 ph3_S217 ph1_S223 ph1_S229 bb_x228 c234 q_x235 c236); rw [di_9, d_x235] at t; exact t), (by have t : kv1 ≤ kv233 ∧ (x235 = 4 → kv1 < kv233 ∨ kv2 = 4) := (qr480 r_kv1 r_kv5 r_kv6 r_kv7 hnf r_x9 ph1_S11 r_kv16 ph2_S11 ph3_S11 ph1_S18 ph2_S18 kk_x17 ph1_S24 r_kv28 ph2_S24 ph1_S30 r_kv35 ph2_S30 ph1_S37 r_kv42 ph2_S37 ph1_S44 ph2_S44 kk_x43 q_x49 c50 c133 ph1_S217 ph2_S217 ph3_S217 ph1_S223 r_kv227 ph2_S223 ph1_S229 r_kv233 ph2_S229 bb_x228 c234 q_x235 c236); rw [di_8, di_9, d_kv233, d_x235] at t; exact t)⟩
      · have do265_kv233 := d_kv233
        have do265_kv232 := d_kv232
        have do265_kv221 := d_kv221
        refine m_X11_readWhole hI o_v0 hG (by have t : kv232 = 5 → 0 < kv221 := (qr481 hO r_kv5 r_kv6 r_kv7 hnf r_x9 ph0_S11 ph1_S11 ph3_S11 ph0_S18 ph1_S18 kk_x17 ph0_S24 ph1_S24 ph0_S30 ph1_S30 ph0_S37 ph1_S37 ph0_S44 ph1_S44 kk_x43 q_x49 c50 c133 ph0_S217 ph1_S217 ph3_S217 ph0_S223 ph1_S223 ph0_S229 ph1_S229 bb_x228 c234); rw [d_kv232, d_kv221] at t; exact t) (fun x266 S267 hJ g268 fc269 p_x266 => ?_)
        obtain ⟨hG, p_x266, pg0_S267, pg1_S267, pg2_S267⟩ := p_x266
        have hn := rn_fr fc269 g268 hI o_v0 (by decide) hn
        have hI := hJ
        have d_kv5 := d_kv5.trans (fri_at fc269 (by decide) (by decide) o_a4).symm
        have d_kv6 := d_kv6.trans (fri_at fc269 (by decide) (by decide) o_a4).symm
        have d_kv7 := d_kv7.trans (fri_at fc269 (by decide) (by decide) o_a4).symm
        have d_x9 := d_x9.trans (fri_at fc269 (by decide) (by decide) o_a4).symm
        have ea4 := (frr_at fc269 (by decide) (by decide) o_v0).trans ea4
        have f0 := fri_tr (S := S229) g0 f0 fc269 (by decide) (by decide)
        have o_a4 := gr_ob g268 o_a4
        have o_v0 := gr_ob g268 o_v0
        have g0 := gr_tr (T := S229) g0 g268
        obtain ⟨kv270, d_kv270⟩ : ∃ z : Int32, z = fI S267 v0 9 := ⟨_, rfl⟩
        obtain ⟨kv271, d_kv271⟩ : ∃ z : Int32, z = fI S267 v0 13 := ⟨_, rfl⟩
        have ph0_S267 : kv270 = 5 → 0 < kv271 := by rw [d_kv270, d_kv271]; exact pg0_S267
        have ph1_S267 : kv270 = 5 ∨ ¬ kv232 = 5 := by rw [do265_kv232, d_kv270]; exact pg1_S267
        obtain ⟨kv272, d_kv272⟩ : ∃ z : Int32, z = fI S267 v0 8 := ⟨_, rfl⟩
        have r_kv272 : (0 : Int32) ≤ kv272 ∧ kv272 ≤ (900 : Int32) := by rw [d_kv272]; exact nu 25 rfl hI o_v0
        have ph2_S267 : kv233 ≤ kv272 ∧ (kv270 = 4 → kv233 < kv272 ∨ kv232 = 4) := by rw [do265_kv233, do265_kv232, d_kv272, d_kv270]; exact pg2_S267
        intro _
        refine u_X11_readRoad_85 ?_
        refine ⟨o_v0, ?_⟩
        intro x273 ex273
        have q_x273 : x273 = kv270 := ex273.trans d_kv270.symm
        have d_x273 := ex273
        refine ⟨fun c274 => ?_, fun c274 => ?_⟩
        · refine ⟨a4, ea4, ?_⟩
          refine ⟨o_a4, ?_⟩
          intro x276 ex276
          have r_x276 : (0 : Int32) ≤ x276 ∧ x276 ≤ (12 : Int32) := by rw [ex276]; exact nu 19 rfl hI o_a4
          have q_x276 : x276 = x9 := ex276.trans d_x9.symm
          have d_x276 := ex276
          refine ⟨a4, ea4, ?_⟩
          refine ⟨o_a4, ?_⟩
          obtain ⟨a278, ea278, o_a278, l_a278⟩ := shl 35 rfl hI o_a4
          refine ⟨a278, ea278, ?_⟩
          refine ⟨o_a278, ?_⟩
          have i279 : vp_in x276 (hN _ a278) := (vin l_a278 (m := 12) (by decide) (qr482 r_kv5 r_kv6 r_kv7 hnf r_x9 ph1_S11 ph3_S11 ph1_S18 kk_x17 ph1_S24 ph1_S30 ph1_S37 ph1_S44 kk_x43 q_x49 c50 c133 ph1_S217 ph3_S217 ph1_S223 ph1_S229 bb_x228 c234 ph1_S267 q_x273 c274 r_x276 q_x276))
          refine ⟨i279, ?_⟩
          intro S280 eS280
          have hIn : IV S280 := by rw [eS280]; exact iv10_aI hI o_a4 (rg_nw hG ea4) ea278 o_a278 (by decide)
          have hG := rg_a (jj := 13) (x := x276) eS280 hI ea4 o_a4 ea278 o_a278 (by decide) (h1_one (c := 3) (lo := 0) (hi := 7) (hf := 2) (by decide) (by rw [← d_x276]; exact (qr483 r_kv5 r_kv6 r_kv7 hnf r_x9 ph1_S11 ph3_S11 ph1_S18 kk_x17 ph1_S24 ph1_S30 ph1_S37 ph1_S44 kk_x43 q_x49 c50 c133 ph1_S217 ph3_S217 ph1_S223 ph1_S229 bb_x228 c234 ph1_S267 q_x273 c274 r_x276 q_x276))) (h2_no (y := 0) (by decide)) hG
          have hn := rn_11 eS280 hI o_v0 o_a278 (by decide) hn
          have hI := hIn
          have f0 := fr_A eS280 g0 f0 o_a278 (by decide)
          have d_kv5 := rd_Ik eS280 o_a278 o_a4 (by decide) d_kv5
          have d_kv6 := rd_Ik eS280 o_a278 o_a4 (by decide) d_kv6
          have d_kv7 := rd_Ik eS280 o_a278 o_a4 (by decide) d_kv7
          have d_x276 := rd_Ik eS280 o_a278 o_a4 (by decide) d_x276
          have d_x273 := rd_Ik eS280 o_a278 o_v0 (by decide) d_x273
          have d_kv271 := rd_Ik eS280 o_a278 o_v0 (by decide) d_kv271
          have d_kv272 := rd_Ik eS280 o_a278 o_v0 (by decide) d_kv272
          have ea4 := rf_I eS280 ea4
          have ea278 := rf_I eS280 ea278
          have l_a278 := ln_I eS280 l_a278
          have g0 := gr_I eS280 g0
          have o_a278 := ob_I eS280 o_a278
          have o_a4 := ob_I eS280 o_a4
          have o_v0 := ob_I eS280 o_v0
          have el281 : fI S280 a278 x276.toNatClampNeg = x17 := by rw [eS280]; exact u2_self _ _ _ _
          refine ⟨a4, ea4, ?_⟩
          refine ⟨o_a4, ?_⟩
          obtain ⟨a283, ea283, o_a283, l_a283⟩ := shl 36 rfl hI o_a4
          refine ⟨a283, ea283, ?_⟩
          refine ⟨o_a283, ?_⟩
          have i284 : vp_in x276 (hN _ a283) := (vin l_a283 (m := 12) (by decide) (qr482 r_kv5 r_kv6 r_kv7 hnf r_x9 ph1_S11 ph3_S11 ph1_S18 kk_x17 ph1_S24 ph1_S30 ph1_S37 ph1_S44 kk_x43 q_x49 c50 c133 ph1_S217 ph3_S217 ph1_S223 ph1_S229 bb_x228 c234 ph1_S267 q_x273 c274 r_x276 q_x276))
          refine ⟨i284, ?_⟩
          intro S285 eS285
          have hIn : IV S285 := by rw [eS285]; exact iv10_aI hI o_a4 (rg_nw hG ea4) ea283 o_a283 (by decide)
          have hG := rg_a (jj := 14) (x := x276) eS285 hI ea4 o_a4 ea283 o_a283 (by decide) (h1_one (c := 3) (lo := 0) (hi := 7) (hf := 2) (by decide) (by rw [← d_x276]; exact (qr483 r_kv5 r_kv6 r_kv7 hnf r_x9 ph1_S11 ph3_S11 ph1_S18 kk_x17 ph1_S24 ph1_S30 ph1_S37 ph1_S44 kk_x43 q_x49 c50 c133 ph1_S217 ph3_S217 ph1_S223 ph1_S229 bb_x228 c234 ph1_S267 q_x273 c274 r_x276 q_x276))) (h2_no (y := 0) (by decide)) hG
          have hn := rn_11 eS285 hI o_v0 o_a283 (by decide) hn
          have el281 := el_ar eS285 (ow_ne hI o_a4 (by decide) o_a4 (by decide) ea283 ea278 (by decide)) el281
          have hI := hIn
          have f0 := fr_A eS285 g0 f0 o_a283 (by decide)
          have d_kv5 := rd_Ik eS285 o_a283 o_a4 (by decide) d_kv5
          have d_kv6 := rd_Ik eS285 o_a283 o_a4 (by decide) d_kv6
          have d_kv7 := rd_Ik eS285 o_a283 o_a4 (by decide) d_kv7
          have d_x276 := rd_Ik eS285 o_a283 o_a4 (by decide) d_x276
          have d_x273 := rd_Ik eS285 o_a283 o_v0 (by decide) d_x273
          have d_kv271 := rd_Ik eS285 o_a283 o_v0 (by decide) d_kv271
          have d_kv272 := rd_Ik eS285 o_a283 o_v0 (by decide) d_kv272
          have ea4 := rf_I eS285 ea4
          have ea278 := rf_I eS285 ea278
          have ea283 := rf_I eS285 ea283
          have l_a278 := ln_I eS285 l_a278
          have l_a283 := ln_I eS285 l_a283
          have g0 := gr_I eS285 g0
          have o_a278 := ob_I eS285 o_a278
          have o_a283 := ob_I eS285 o_a283
          have o_a4 := ob_I eS285 o_a4
          have o_v0 := ob_I eS285 o_v0
          have el286 : fI S285 a283 x276.toNatClampNeg = x43 := by rw [eS285]; exact u2_self _ _ _ _
          refine ⟨a4, ea4, ?_⟩
          refine ⟨o_a4, ?_⟩
          obtain ⟨a288, ea288, o_a288, l_a288⟩ := shl 37 rfl hI o_a4
          refine ⟨a288, ea288, ?_⟩
          refine ⟨o_a288, ?_⟩
          have i289 : vp_in x276 (hN _ a288) := (vin l_a288 (m := 12) (by decide) (qr482 r_kv5 r_kv6 r_kv7 hnf r_x9 ph1_S11 ph3_S11 ph1_S18 kk_x17 ph1_S24 ph1_S30 ph1_S37 ph1_S44 kk_x43 q_x49 c50 c133 ph1_S217 ph3_S217 ph1_S223 ph1_S229 bb_x228 c234 ph1_S267 q_x273 c274 r_x276 q_x276))
          refine ⟨i289, ?_⟩
          intro S290 eS290
          have hIn : IV S290 := by rw [eS290]; exact iv10_aI hI o_a4 (rg_nw hG ea4) ea288 o_a288 (by decide)
          have hG := rg_a (jj := 15) (x := x276) eS290 hI ea4 o_a4 ea288 o_a288 (by decide) (h1_no (by decide)) (h2_no (y := 0) (by decide)) hG
          have hn := rn_11 eS290 hI o_v0 o_a288 (by decide) hn
          have el281 := el_ar eS290 (ow_ne hI o_a4 (by decide) o_a4 (by decide) ea288 ea278 (by decide)) el281
          have el286 := el_ar eS290 (ow_ne hI o_a4 (by decide) o_a4 (by decide) ea288 ea283 (by decide)) el286
          have hI := hIn
          have f0 := fr_A eS290 g0 f0 o_a288 (by decide)
          have d_kv5 := rd_Ik eS290 o_a288 o_a4 (by decide) d_kv5
          have d_kv6 := rd_Ik eS290 o_a288 o_a4 (by decide) d_kv6
          have d_kv7 := rd_Ik eS290 o_a288 o_a4 (by decide) d_kv7
          have d_x276 := rd_Ik eS290 o_a288 o_a4 (by decide) d_x276
          have d_x273 := rd_Ik eS290 o_a288 o_v0 (by decide) d_x273
          have d_kv271 := rd_Ik eS290 o_a288 o_v0 (by decide) d_kv271
          have d_kv272 := rd_Ik eS290 o_a288 o_v0 (by decide) d_kv272
          have ea4 := rf_I eS290 ea4
          have ea278 := rf_I eS290 ea278
          have ea283 := rf_I eS290 ea283
          have ea288 := rf_I eS290 ea288
          have l_a278 := ln_I eS290 l_a278
          have l_a283 := ln_I eS290 l_a283
          have l_a288 := ln_I eS290 l_a288
          have g0 := gr_I eS290 g0
          have o_a278 := ob_I eS290 o_a278
          have o_a283 := ob_I eS290 o_a283
          have o_a288 := ob_I eS290 o_a288
          have o_a4 := ob_I eS290 o_a4
          have o_v0 := ob_I eS290 o_v0
          refine ⟨a4, ea4, ?_⟩
          refine ⟨o_a4, ?_⟩
          obtain ⟨a292, ea292, o_a292, l_a292⟩ := shl 38 rfl hI o_a4
          refine ⟨a292, ea292, ?_⟩
          refine ⟨o_a292, ?_⟩
          have i293 : vp_in x276 (hN _ a292) := (vin l_a292 (m := 12) (by decide) (qr482 r_kv5 r_kv6 r_kv7 hnf r_x9 ph1_S11 ph3_S11 ph1_S18 kk_x17 ph1_S24 ph1_S30 ph1_S37 ph1_S44 kk_x43 q_x49 c50 c133 ph1_S217 ph3_S217 ph1_S223 ph1_S229 bb_x228 c234 ph1_S267 q_x273 c274 r_x276 q_x276))
          refine ⟨i293, ?_⟩
          intro S294 eS294
          have hIn : IV S294 := by rw [eS294]; exact iv10_aI hI o_a4 (rg_nw hG ea4) ea292 o_a292 (by decide)
          have hG := rg_a (jj := 16) (x := x276) eS294 hI ea4 o_a4 ea292 o_a292 (by decide) (h1_one (c := 3) (lo := 1) (hi := 60) (hf := 99) (by decide) (by rw [← d_x276]; exact (qr483 r_kv5 r_kv6 r_kv7 hnf r_x9 ph1_S11 ph3_S11 ph1_S18 kk_x17 ph1_S24 ph1_S30 ph1_S37 ph1_S44 kk_x43 q_x49 c50 c133 ph1_S217 ph3_S217 ph1_S223 ph1_S229 bb_x228 c234 ph1_S267 q_x273 c274 r_x276 q_x276))) (h2_no (y := 0) (by decide)) hG
          have hn := rn_11 eS294 hI o_v0 o_a292 (by decide) hn
          have el281 := el_ar eS294 (ow_ne hI o_a4 (by decide) o_a4 (by decide) ea292 ea278 (by decide)) el281
          have el286 := el_ar eS294 (ow_ne hI o_a4 (by decide) o_a4 (by decide) ea292 ea283 (by decide)) el286
          have hI := hIn
          have f0 := fr_A eS294 g0 f0 o_a292 (by decide)
          have d_kv5 := rd_Ik eS294 o_a292 o_a4 (by decide) d_kv5
          have d_kv6 := rd_Ik eS294 o_a292 o_a4 (by decide) d_kv6
          have d_kv7 := rd_Ik eS294 o_a292 o_a4 (by decide) d_kv7
          have d_x276 := rd_Ik eS294 o_a292 o_a4 (by decide) d_x276
          have d_x273 := rd_Ik eS294 o_a292 o_v0 (by decide) d_x273
          have d_kv271 := rd_Ik eS294 o_a292 o_v0 (by decide) d_kv271
          have d_kv272 := rd_Ik eS294 o_a292 o_v0 (by decide) d_kv272
          have ea4 := rf_I eS294 ea4
          have ea278 := rf_I eS294 ea278
          have ea283 := rf_I eS294 ea283
          have ea288 := rf_I eS294 ea288
          have ea292 := rf_I eS294 ea292
          have l_a278 := ln_I eS294 l_a278
          have l_a283 := ln_I eS294 l_a283
          have l_a288 := ln_I eS294 l_a288
          have l_a292 := ln_I eS294 l_a292
          have g0 := gr_I eS294 g0
          have o_a278 := ob_I eS294 o_a278
          have o_a283 := ob_I eS294 o_a283
          have o_a288 := ob_I eS294 o_a288
          have o_a292 := ob_I eS294 o_a292
          have o_a4 := ob_I eS294 o_a4
          have o_v0 := ob_I eS294 o_v0
          have el295 : fI S294 a292 x276.toNatClampNeg = x36 := by rw [eS294]; exact u2_self _ _ _ _
          refine ⟨a4, ea4, ?_⟩
          refine ⟨o_a4, ?_⟩
          obtain ⟨a297, ea297, o_a297, l_a297⟩ := shl 39 rfl hI o_a4
          refine ⟨a297, ea297, ?_⟩
          refine ⟨o_a297, ?_⟩
          have i298 : vp_in x276 (hN _ a297) := (vin l_a297 (m := 12) (by decide) (qr482 r_kv5 r_kv6 r_kv7 hnf r_x9 ph1_S11 ph3_S11 ph1_S18 kk_x17 ph1_S24 ph1_S30 ph1_S37 ph1_S44 kk_x43 q_x49 c50 c133 ph1_S217 ph3_S217 ph1_S223 ph1_S229 bb_x228 c234 ph1_S267 q_x273 c274 r_x276 q_x276))
          refine ⟨i298, ?_⟩
          intro S299 eS299
          have hIn : IV S299 := by rw [eS299]; exact iv10_aI hI o_a4 (rg_nw hG ea4) ea297 o_a297 (by decide)
          have hG := rg_a (jj := 17) (x := x276) eS299 hI ea4 o_a4 ea297 o_a297 (by decide) (h1_no (by decide)) (h2_no (y := 0) (by decide)) hG
          have hn := rn_11 eS299 hI o_v0 o_a297 (by decide) hn
          have el281 := el_ar eS299 (ow_ne hI o_a4 (by decide) o_a4 (by decide) ea297 ea278 (by decide)) el281
          have el286 := el_ar eS299 (ow_ne hI o_a4 (by decide) o_a4 (by decide) ea297 ea283 (by decide)) el286
          have el295 := el_ar eS299 (ow_ne hI o_a4 (by decide) o_a4 (by decide) ea297 ea292 (by decide)) el295
          have hI := hIn
          have f0 := fr_A eS299 g0 f0 o_a297 (by decide)
          have d_kv5 := rd_Ik eS299 o_a297 o_a4 (by decide) d_kv5
          have d_kv6 := rd_Ik eS299 o_a297 o_a4 (by decide) d_kv6
          have d_kv7 := rd_Ik eS299 o_a297 o_a4 (by decide) d_kv7
          have d_x276 := rd_Ik eS299 o_a297 o_a4 (by decide) d_x276
          have d_x273 := rd_Ik eS299 o_a297 o_v0 (by decide) d_x273
          have d_kv271 := rd_Ik eS299 o_a297 o_v0 (by decide) d_kv271
          have d_kv272 := rd_Ik eS299 o_a297 o_v0 (by decide) d_kv272
          have ea4 := rf_I eS299 ea4
          have ea278 := rf_I eS299 ea278
          have ea283 := rf_I eS299 ea283
          have ea288 := rf_I eS299 ea288
          have ea292 := rf_I eS299 ea292
          have ea297 := rf_I eS299 ea297
          have l_a278 := ln_I eS299 l_a278
          have l_a283 := ln_I eS299 l_a283
          have l_a288 := ln_I eS299 l_a288
          have l_a292 := ln_I eS299 l_a292
          have l_a297 := ln_I eS299 l_a297
          have g0 := gr_I eS299 g0
          have o_a278 := ob_I eS299 o_a278
          have o_a283 := ob_I eS299 o_a283
          have o_a288 := ob_I eS299 o_a288
          have o_a292 := ob_I eS299 o_a292
          have o_a297 := ob_I eS299 o_a297
          have o_a4 := ob_I eS299 o_a4
          have o_v0 := ob_I eS299 o_v0
          refine ⟨a4, ea4, ?_⟩
          refine ⟨o_a4, ?_⟩
          intro x301 ex301
          have r_x301 : (0 : Int32) ≤ x301 ∧ x301 ≤ (12 : Int32) := by rw [ex301]; exact nu 19 rfl hI o_a4
          have q_x301 : x301 = x276 := ex301.trans d_x276.symm
          have d_x301 := ex301
          intro x302 ex302
          intro S303 eS303
          have hIn : IV S303 := by rw [eS303]; exact iv10_sI hI o_a4 (rg_nw hG ea4) (nu_one (lo := (0 : Int32)) (hi := (12 : Int32)) (by decide) (qr484 r_kv5 r_kv6 r_kv7 hnf r_x9 ph1_S11 ph3_S11 ph1_S18 kk_x17 ph1_S24 ph1_S30 ph1_S37 ph1_S44 kk_x43 q_x49 c50 c133 ph1_S217 ph3_S217 ph1_S223 ph1_S229 bb_x228 c234 ph1_S267 q_x273 c274 r_x276 q_x276 r_x301 q_x301 ex302))
          have hG := rg_inc (c := 3) (y := x301) eS303 hI ea4 o_a4 d_x301.symm (qr485 r_kv5 r_kv6 r_kv7 hnf r_x9 ph1_S11 ph3_S11 ph1_S18 kk_x17 ph1_S24 ph1_S30 ph1_S37 ph1_S44 kk_x43 q_x49 c50 c133 ph1_S217 ph3_S217 ph1_S223 ph1_S229 bb_x228 c234 ph1_S267 q_x273 c274 r_x276 q_x276 r_x301 q_x301 ex302) (qr486 r_kv5 r_kv6 r_kv7 hnf r_x9 ph1_S11 ph3_S11 ph1_S18 kk_x17 ph1_S24 ph1_S30 ph1_S37 ph1_S44 kk_x43 q_x49 c50 c133 ph1_S217 ph3_S217 ph1_S223 ph1_S229 bb_x228 c234 ph1_S267 q_x273 c274 r_x276 q_x276 r_x301 q_x301 ex302) (hn_3 ea278 (by rw [show x301 = x276 from (qr487 r_kv5 r_kv6 r_kv7 hnf r_x9 ph1_S11 ph3_S11 ph1_S18 kk_x17 ph1_S24 ph1_S30 ph1_S37 ph1_S44 kk_x43 q_x49 c50 c133 ph1_S217 ph3_S217 ph1_S223 ph1_S229 bb_x228 c234 ph1_S267 q_x273 c274 r_x276 q_x276 r_x301 q_x301 ex302), el281]; exact ⟨(qr488 r_kv5 r_kv6 r_kv7 hnf r_x9 ph1_S11 ph3_S11 ph1_S18 kk_x17 ph1_S24 ph1_S30 ph1_S37 ph1_S44 kk_x43 q_x49 c50 c133 ph1_S217 ph3_S217 ph1_S223 ph1_S229 bb_x228 c234 ph1_S267 q_x273 c274 r_x276 q_x276 r_x301 q_x301 ex302), (qr489 r_kv5 r_kv6 r_kv7 hnf r_x9 ph1_S11 ph3_S11 ph1_S18 kk_x17 ph1_S24 ph1_S30 ph1_S37 ph1_S44 kk_x43 q_x49 c50 c133 ph1_S217 ph3_S217 ph1_S223 ph1_S229 bb_x228 c234 ph1_S267 q_x273 c274 r_x276 q_x276 r_x301 q_x301 ex302), Or.inr (by rw [← d_kv6]; exact (qr490 r_kv5 r_kv6 r_kv7 hnf r_x9 ph1_S11 ph3_S11 ph1_S18 kk_x17 ph1_S24 ph1_S30 ph1_S37 ph1_S44 kk_x43 q_x49 c50 c133 ph1_S217 ph3_S217 ph1_S223 ph1_S229 bb_x228 c234 ph1_S267 q_x273 c274 r_x276 q_x276 r_x301 q_x301 ex302))⟩) ea283 (by rw [show x301 = x276 from (qr487 r_kv5 r_kv6 r_kv7 hnf r_x9 ph1_S11 ph3_S11 ph1_S18 kk_x17 ph1_S24 ph1_S30 ph1_S37 ph1_S44 kk_x43 q_x49 c50 c133 ph1_S217 ph3_S217 ph1_S223 ph1_S229 bb_x228 c234 ph1_S267 q_x273 c274 r_x276 q_x276 r_x301 q_x301 ex302), el286]; exact ⟨(qr491 r_kv5 r_kv6 r_kv7 hnf r_x9 ph1_S11 ph3_S11 ph1_S18 kk_x17 ph1_S24 ph1_S30 ph1_S37 ph1_S44 kk_x43 q_x49 c50 c133 ph1_S217 ph3_S217 ph1_S223 ph1_S229 bb_x228 c234 ph1_S267 q_x273 c274 r_x276 q_x276 r_x301 q_x301 ex302), (qr492 r_kv5 r_kv6 r_kv7 hnf r_x9 ph1_S11 ph3_S11 ph1_S18 kk_x17 ph1_S24 ph1_S30 ph1_S37 ph1_S44 kk_x43 q_x49 c50 c133 ph1_S217 ph3_S217 ph1_S223 ph1_S229 bb_x228 c234 ph1_S267 q_x273 c274 r_x276 q_x276 r_x301 q_x301 ex302), Or.inr (by rw [← d_kv6]; exact (qr493 r_kv5 r_kv6 r_kv7 hnf r_x9 ph1_S11 ph3_S11 ph1_S18 kk_x17 ph1_S24 ph1_S30 ph1_S37 ph1_S44 kk_x43 q_x49 c50 c133 ph1_S217 ph3_S217 ph1_S223 ph1_S229 bb_x228 c234 ph1_S267 q_x273 c274 r_x276 q_x276 r_x301 q_x301 ex302))⟩) ea292 (by rw [show x301 = x276 from (qr487 r_kv5 r_kv6 r_kv7 hnf r_x9 ph1_S11 ph3_S11 ph1_S18 kk_x17 ph1_S24 ph1_S30 ph1_S37 ph1_S44 kk_x43 q_x49 c50 c133 ph1_S217 ph3_S217 ph1_S223 ph1_S229 bb_x228 c234 ph1_S267 q_x273 c274 r_x276 q_x276 r_x301 q_x301 ex302), el295]; exact ⟨(qr494 r_kv5 r_kv6 r_kv7 hnf r_x9 ph1_S11 ph3_S11 ph1_S18 kk_x17 ph1_S24 ph1_S30 ph1_S37 p_x36 ph1_S44 kk_x43 q_x49 c50 c133 ph1_S217 ph3_S217 ph1_S223 ph1_S229 bb_x228 c234 ph1_S267 p_x266 q_x273 c274 r_x276 q_x276 r_x301 q_x301 ex302), (qr495 r_kv5 r_kv6 r_kv7 hnf r_x9 ph1_S11 ph3_S11 ph1_S18 kk_x17 ph1_S24 ph1_S30 ph1_S37 p_x36 ph1_S44 kk_x43 q_x49 c50 c133 ph1_S217 ph3_S217 ph1_S223 ph1_S229 bb_x228 c234 ph1_S267 p_x266 q_x273 c274 r_x276 q_x276 r_x301 q_x301 ex302), Or.inl rfl⟩)) (fun z _ hz => by rw [eS303] at hz; exact hs_no (by decide) z hz) hG
          have hn := rn_c eS303 (by decide) hn
          have el281 := el_ob eS303 o_a4 o_a278 (by decide) el281
          have el286 := el_ob eS303 o_a4 o_a283 (by decide) el286
          have el295 := el_ob eS303 o_a4 o_a292 (by decide) el295
          have hI := hIn
          have f0 := fr_I eS303 g0 f0 o_a4 (by decide)
          have d_kv5 := rd_Ij eS303 (by decide) d_kv5
          have d_kv6 := rd_Ij eS303 (by decide) d_kv6
          have d_kv7 := rd_Ij eS303 (by decide) d_kv7
          have d_x273 := rd_Ik eS303 o_a4 o_v0 (by decide) d_x273
          have d_kv271 := rd_Ik eS303 o_a4 o_v0 (by decide) d_kv271
          have d_kv272 := rd_Ik eS303 o_a4 o_v0 (by decide) d_kv272
          have d_x302 := rd_Is eS303 (rfl : x302 = x302)
          have ea4 := rf_I eS303 ea4
          have ea278 := rf_I eS303 ea278
          have ea283 := rf_I eS303 ea283
          have ea288 := rf_I eS303 ea288
          have ea292 := rf_I eS303 ea292
          have ea297 := rf_I eS303 ea297
          have l_a278 := ln_I eS303 l_a278
          have l_a283 := ln_I eS303 l_a283
          have l_a288 := ln_I eS303 l_a288
          have l_a292 := ln_I eS303 l_a292
          have l_a297 := ln_I eS303 l_a297
          have g0 := gr_I eS303 g0
          have o_a278 := ob_I eS303 o_a278
          have o_a283 := ob_I eS303 o_a283
          have o_a288 := ob_I eS303 o_a288
          have o_a292 := ob_I eS303 o_a292
          have o_a297 := ob_I eS303 o_a297
          have o_a4 := ob_I eS303 o_a4
          have o_v0 := ob_I eS303 o_v0
          exact hq _ hI g0 f0 ⟨hG, hn, (by have t : x273 = 5 → 0 < kv271 := (qr496 hO r_kv5 r_kv6 r_kv7 hnf r_x9 ph0_S11 ph1_S11 ph3_S11 ph0_S18 ph1_S18 kk_x17 ph0_S24 ph1_S24 ph0_S30 ph1_S30 ph0_S37 ph1_S37 ph0_S44 ph1_S44 kk_x43 q_x49 c50 c133 ph0_S217 ph1_S217 ph3_S217 ph0_S223 ph1_S223 ph0_S229 ph1_S229 bb_x228 c234 ph0_S267 ph1_S267 q_x273 c274 r_x276 q_x276 r_x301 q_x301 ex302); rw [d_x273, d_kv271] at t; exact t), (by have t : x273 = 5 ∨ ¬ kv2 = 5 := (qr497 r_kv5 r_kv6 r_kv7 hnf r_x9 ph1_S11 ph3_S11 ph1_S18 kk_x17 ph1_S24 ph1_S30 ph1_S37 ph1_S44 kk_x43 q_x49 c50 c133 ph1_S217 ph3_S217 ph1_S223 ph1_S229 bb_x228 c234 ph1_S267 q_x273 c274 r_x276 q_x276 r_x301 q_x301 ex302); rw [di_9, d_x273] at t; exact t), (by have t : kv1 ≤ kv272 ∧ (x273 = 4 → kv1 < kv272 ∨ kv2 = 4) := (qr498 r_kv1 r_kv5 r_kv6 r_kv7 hnf r_x9 ph1_S11 r_kv16 ph2_S11 ph3_S11 ph1_S18 ph2_S18 kk_x17 ph1_S24 r_kv28 ph2_S24 ph1_S30 r_kv35 ph2_S30 ph1_S37 r_kv42 ph2_S37 ph1_S44 ph2_S44 kk_x43 q_x49 c50 c133 ph1_S217 ph2_S217 ph3_S217 ph1_S223 r_kv227 ph2_S223 ph1_S229 r_kv233 ph2_S229 bb_x228 c234 ph1_S267 r_kv272 ph2_S267 q_x273 c274 r_x276 q_x276 r_x301 q_x301 ex302); rw [di_8, di_9, d_kv272, d_x273] at t; exact t)⟩
        · exact hq _ hI g0 f0 ⟨hG, hn, (by have t : x273 = 5 → 0 < kv271 := (qr499 hO r_kv5 r_kv6 r_kv7 hnf r_x9 ph0_S11 ph1_S11 ph3_S11 ph0_S18 ph1_S18 kk_x17 ph0_S24 ph1_S24 ph0_S30 ph1_S30 ph0_S37 ph1_S37 ph0_S44 ph1_S44 kk_x43 q_x49 c50 c133 ph0_S217 ph1_S217 ph3_S217 ph0_S223 ph1_S223 ph0_S229 ph1_S229 bb_x228 c234 ph0_S267 ph1_S267 q_x273 c274); rw [d_x273, d_kv271] at t; exact t), (by have t : x273 = 5 ∨ ¬ kv2 = 5 := (qr500 r_kv5 r_kv6 r_kv7 hnf r_x9 ph1_S11 ph3_S11 ph1_S18 kk_x17 ph1_S24 ph1_S30 ph1_S37 ph1_S44 kk_x43 q_x49 c50 c133 ph1_S217 ph3_S217 ph1_S223 ph1_S229 bb_x228 c234 ph1_S267 q_x273 c274); rw [di_9, d_x273] at t; exact t), (by have t : kv1 ≤ kv272 ∧ (x273 = 4 → kv1 < kv272 ∨ kv2 = 4) := (qr501 r_kv1 r_kv5 r_kv6 r_kv7 hnf r_x9 ph1_S11 r_kv16 ph2_S11 ph3_S11 ph1_S18 ph2_S18 kk_x17 ph1_S24 r_kv28 ph2_S24 ph1_S30 r_kv35 ph2_S30 ph1_S37 r_kv42 ph2_S37 ph1_S44 ph2_S44 kk_x43 q_x49 c50 c133 ph1_S217 ph2_S217 ph3_S217 ph1_S223 r_kv227 ph2_S223 ph1_S229 r_kv233 ph2_S229 bb_x228 c234 ph1_S267 r_kv272 ph2_S267 q_x273 c274); rw [di_8, di_9, d_kv272, d_x273] at t; exact t)⟩
