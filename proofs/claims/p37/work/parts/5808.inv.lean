set_option maxHeartbeats 4000000 in
set_option maxRecDepth 20000 in
theorem m_X11_readWorld {v0 : Nat} {Q : HS → Prop} {S : HS} (hI : IV S) (o_v0 : ob S v0 11)    (hG : RG S v0) (hn : RN S v0) (hO : fI S v0 9 = 5 → 0 < fI S v0 13) (hq : ∀ (T : HS), IV T → Gr S T → FRI [(10, 0), (11, 8), (11, 9), (11, 10), (11, 11), (11, 12), (11, 13), (11, 14)] [] S T → (RG T v0) ∧ (RN T v0) ∧ (fI T v0 9 = 5 → 0 < fI T v0 13) ∧ (fI T v0 9 = 5 ∨ ¬ fI S v0 9 = 5) ∧ (fI S v0 8 ≤ fI T v0 8 ∧ (fI T v0 9 = 4 → fI S v0 8 < fI T v0 8 ∨ fI S v0 9 = 4)) → Q T) : P_X11_readWorld v0 Q S := by
  have g0 := gr_rf S
  have f0 := fri_rf [(10, 0), (11, 8), (11, 9), (11, 10), (11, 11), (11, 12), (11, 13), (11, 14)] [] S
  obtain ⟨kv1, d_kv1⟩ : ∃ z : Int32, z = fI S v0 8 := ⟨_, rfl⟩
  have r_kv1 : (0 : Int32) ≤ kv1 ∧ kv1 ≤ (900 : Int32) := by rw [d_kv1]; exact nu 25 rfl hI o_v0
  obtain ⟨iv2, hiv2⟩ : ∃ z : Int32, z = kv1 := ⟨_, rfl⟩
  have di_8 := hiv2.trans d_kv1
  obtain ⟨kv3, d_kv3⟩ : ∃ z : Int32, z = fI S v0 9 := ⟨_, rfl⟩
  obtain ⟨iv4, hiv4⟩ : ∃ z : Int32, z = kv3 := ⟨_, rfl⟩
  have di_9 := hiv4.trans d_kv3
  obtain ⟨kv5, d_kv5⟩ : ∃ z : Int32, z = fI S v0 13 := ⟨_, rfl⟩
  obtain ⟨iv6, hiv6⟩ : ∃ z : Int32, z = kv5 := ⟨_, rfl⟩
  have di_13 := hiv6.trans d_kv5
  have hO : iv4 = 5 → 0 < iv6 := by rw [di_9, di_13]; exact hO
  obtain ⟨a7, ea7, o_a7, -⟩ := id hG
  obtain ⟨kv8, d_kv8⟩ : ∃ z : Int32, z = fI S a7 6 := ⟨_, rfl⟩
  have r_kv8 : (0 : Int32) ≤ kv8 ∧ kv8 ≤ (12 : Int32) := by rw [d_kv8]; exact nu 22 rfl hI o_a7
  obtain ⟨kv9, d_kv9⟩ : ∃ z : Int32, z = fI S a7 2 := ⟨_, rfl⟩
  have r_kv9 : (0 : Int32) ≤ kv9 ∧ kv9 ≤ (8 : Int32) := by rw [d_kv9]; exact nu 18 rfl hI o_a7
  obtain ⟨kv10, d_kv10⟩ : ∃ z : Int32, z = fI S a7 4 := ⟨_, rfl⟩
  have r_kv10 : (0 : Int32) ≤ kv10 ∧ kv10 ≤ (4 : Int32) := by rw [d_kv10]; exact nu 20 rfl hI o_a7
  have hnf : kv8 = kv9 + kv10 := by rw [d_kv8, d_kv9, d_kv10]; exact hn _ ea7
  refine u_X11_readWorld ?_
  refine u_X11_readWorld_0 ?_
  refine ⟨o_v0, ?_⟩
  refine ⟨a7, ea7, ?_⟩
  refine ⟨o_a7, ?_⟩
  intro x12 ex12
  have r_x12 : (0 : Int32) ≤ x12 ∧ x12 ≤ (60 : Int32) := by rw [ex12]; exact nu 16 rfl hI o_a7
  have d_x12 := ex12
  refine ⟨fun c13 => ?_, fun c13 => ?_⟩
  · refine u_X11_readWorld_15 ?_
    refine ⟨o_v0, ?_⟩
    obtain ⟨iv14, hiv14⟩ : ∃ z : Int32, z = kv5 := ⟨_, rfl⟩
    have d_iv14 := hiv14.trans d_kv5
    have do14_kv1 := d_kv1
    have do14_kv3 := d_kv3
    have do14_iv14 := d_iv14
    refine m_X11_goesOn hI o_v0 hG (by have t : kv3 = 5 → 0 < kv5 := (qr62 hiv4 hiv6 hO r_x12 c13); rw [d_kv3, d_kv5] at t; exact t) (fun S16 hJ g17 fc18 p_S16 => ?_)
    obtain ⟨hG, pg0_S16, pg1_S16, pg2_S16⟩ := p_S16
    have hn := rn_fr fc18 g17 hI o_v0 (by decide) hn
    have hI := hJ
    have d_kv5 := d_kv5.trans (fri_at fc18 (by decide) (by decide) o_v0).symm
    have d_kv8 := d_kv8.trans (fri_at fc18 (by decide) (by decide) o_a7).symm
    have d_kv9 := d_kv9.trans (fri_at fc18 (by decide) (by decide) o_a7).symm
    have d_kv10 := d_kv10.trans (fri_at fc18 (by decide) (by decide) o_a7).symm
    have d_x12 := d_x12.trans (fri_at fc18 (by decide) (by decide) o_a7).symm
    have ea7 := (frr_at fc18 (by decide) (by decide) o_v0).trans ea7
    have f0 := fri_tr (S := S) g0 f0 fc18 (by decide) (by decide)
    have o_a7 := gr_ob g17 o_a7
    have o_v0 := gr_ob g17 o_v0
    have g0 := gr_tr (T := S) g0 g17
    obtain ⟨kv19, d_kv19⟩ : ∃ z : Int32, z = fI S16 v0 9 := ⟨_, rfl⟩
    have ph0_S16 : kv19 = 5 → 0 < kv5 := by rw [d_kv19, d_kv5]; exact pg0_S16
    have ph1_S16 : kv19 = 5 ∨ ¬ kv3 = 5 := by rw [do14_kv3, d_kv19]; exact pg1_S16
    obtain ⟨kv20, d_kv20⟩ : ∃ z : Int32, z = fI S16 v0 8 := ⟨_, rfl⟩
    have r_kv20 : (0 : Int32) ≤ kv20 ∧ kv20 ≤ (900 : Int32) := by rw [d_kv20]; exact nu 25 rfl hI o_v0
    have ph2_S16 : kv1 ≤ kv20 ∧ (kv19 = 4 → kv1 < kv20 ∨ kv3 = 4) := by rw [do14_kv1, do14_kv3, d_kv20, d_kv19]; exact pg2_S16
    intro _
    have do20_kv20 := d_kv20
    have do20_kv19 := d_kv19
    have do20_kv5 := d_kv5
    refine m_X11_readPart hI o_v0 (by decide) hG (by have t : kv19 = 5 → 0 < kv5 := (qr63 hiv4 hiv6 hO r_x12 c13 hiv14 ph0_S16 ph1_S16); rw [d_kv19, d_kv5] at t; exact t) (fun x21 S22 hJ g23 fc24 p_x21 => ?_)
    obtain ⟨hG, p_x21, pg0_S22, pg1_S22, pg2_S22⟩ := p_x21
    have hn := rn_fr fc24 g23 hI o_v0 (by decide) hn
    have hI := hJ
    have d_kv8 := d_kv8.trans (fri_at fc24 (by decide) (by decide) o_a7).symm
    have d_kv9 := d_kv9.trans (fri_at fc24 (by decide) (by decide) o_a7).symm
    have d_kv10 := d_kv10.trans (fri_at fc24 (by decide) (by decide) o_a7).symm
    have d_x12 := d_x12.trans (fri_at fc24 (by decide) (by decide) o_a7).symm
    have ea7 := (frr_at fc24 (by decide) (by decide) o_v0).trans ea7
    have f0 := fri_tr (S := S16) g0 f0 fc24 (by decide) (by decide)
    have o_a7 := gr_ob g23 o_a7
    have o_v0 := gr_ob g23 o_v0
    have g0 := gr_tr (T := S16) g0 g23
    obtain ⟨kv25, d_kv25⟩ : ∃ z : Int32, z = fI S22 v0 9 := ⟨_, rfl⟩
    obtain ⟨kv26, d_kv26⟩ : ∃ z : Int32, z = fI S22 v0 13 := ⟨_, rfl⟩
    have ph0_S22 : kv25 = 5 → 0 < kv26 := by rw [d_kv25, d_kv26]; exact pg0_S22
    have ph1_S22 : kv25 = 5 ∨ ¬ kv19 = 5 := by rw [do20_kv19, d_kv25]; exact pg1_S22
    have mo27 : kv25 = 5 ∨ ¬ kv3 = 5 := ph1_S22.elim Or.inl (fun h => Or.inr (ph1_S16.resolve_left h))
    obtain ⟨kv28, d_kv28⟩ : ∃ z : Int32, z = fI S22 v0 8 := ⟨_, rfl⟩
    have r_kv28 : (0 : Int32) ≤ kv28 ∧ kv28 ≤ (900 : Int32) := by rw [d_kv28]; exact nu 25 rfl hI o_v0
    have ph2_S22 : kv20 ≤ kv28 ∧ (kv25 = 4 → kv20 < kv28 ∨ kv19 = 4) := by rw [do20_kv20, do20_kv19, d_kv28, d_kv25]; exact pg2_S22
    intro _
    intro x29 ex29
    have q_x29 : x29 = kv25 := ex29.trans d_kv25.symm
    have mo30 : x29 = 5 ∨ ¬ kv3 = 5 := mo27.imp_left (fun z => q_x29.trans z)
    have mo31 : x29 = 5 ∨ ¬ kv19 = 5 := ph1_S22.imp_left (fun z => q_x29.trans z)
    have d_x29 := ex29
    refine ⟨fun c32 => ?_, fun c32 => ?_⟩
    · exact hq _ hI g0 f0 ⟨hG, hn, (by have t : x29 = 5 → 0 < kv26 := (qr64 hiv4 hiv6 hO r_x12 c13 hiv14 ph0_S16 mo30 ph0_S22 mo31 q_x29 c32); rw [d_x29, d_kv26] at t; exact t), (by have t : x29 = 5 ∨ ¬ iv4 = 5 := (qr65 hiv4 r_x12 c13 mo30 mo31 q_x29 c32); rw [di_9, d_x29] at t; exact t), (by have t : iv2 ≤ kv28 ∧ (x29 = 4 → iv2 < kv28 ∨ iv4 = 4) := (qr66 r_kv1 hiv2 hiv4 r_x12 c13 mo30 r_kv20 ph2_S16 mo31 r_kv28 ph2_S22 q_x29 c32); rw [di_8, di_9, d_kv28, d_x29] at t; exact t)⟩
    · refine ⟨a7, ea7, ?_⟩
      refine ⟨o_a7, ?_⟩
      intro S34 eS34
      have hIn : IV S34 := by rw [eS34]; exact iv10_sI hI o_a7 (rg_nw hG ea7) (nu_one (lo := (0 : Int32)) (hi := (60 : Int32)) (by decide) (qr67 hiv4 r_x12 c13 mo30 mo31 p_x21 q_x29 c32))
      have hG := rg_c eS34 hI ea7 o_a7 (by decide) hG
      have hn := rn_c eS34 (by decide) hn
      have hI := hIn
      have f0 := fr_I eS34 g0 f0 o_a7 (by decide)
      have d_kv8 := rd_Ij eS34 (by decide) d_kv8
      have d_kv9 := rd_Ij eS34 (by decide) d_kv9
      have d_kv10 := rd_Ij eS34 (by decide) d_kv10
      have d_x29 := rd_Ik eS34 o_a7 o_v0 (by decide) d_x29
      have d_kv26 := rd_Ik eS34 o_a7 o_v0 (by decide) d_kv26
      have d_kv28 := rd_Ik eS34 o_a7 o_v0 (by decide) d_kv28
      have d_x21 := rd_Is eS34 (rfl : x21 = x21)
      have ea7 := rf_I eS34 ea7
      have g0 := gr_I eS34 g0
      have o_a7 := ob_I eS34 o_a7
      have o_v0 := ob_I eS34 o_v0
      exact hq _ hI g0 f0 ⟨hG, hn, (by have t : x29 = 5 → 0 < kv26 := (qr68 hiv4 hiv6 hO r_x12 c13 hiv14 ph0_S16 mo30 ph0_S22 mo31 q_x29 c32); rw [d_x29, d_kv26] at t; exact t), (by have t : x29 = 5 ∨ ¬ iv4 = 5 := (qr69 hiv4 r_x12 c13 mo30 mo31 q_x29 c32); rw [di_9, d_x29] at t; exact t), (by have t : iv2 ≤ kv28 ∧ (x29 = 4 → iv2 < kv28 ∨ iv4 = 4) := (qr70 r_kv1 hiv2 hiv4 r_x12 c13 mo30 r_kv20 ph2_S16 mo31 r_kv28 ph2_S22 q_x29 c32); rw [di_8, di_9, d_kv28, d_x29] at t; exact t)⟩
  · obtain ⟨iv35, hiv35⟩ : ∃ z : Int32, z = kv1 := ⟨_, rfl⟩
    have d_iv35 := hiv35.trans d_kv1
    have do35_iv35 := d_iv35
    have do35_kv3 := d_kv3
    have do35_kv5 := d_kv5
    refine m_X11_flaw hI o_v0 (qr71 r_x12 c13) hG (by have t : kv3 = 5 → 0 < kv5 := (qr72 hiv4 hiv6 hO r_x12 c13); rw [d_kv3, d_kv5] at t; exact t) (fun S37 hJ g38 fc39 p_S37 => ?_)
    obtain ⟨hG, pg0_S37, pg1_S37, pg2_S37, pg3_S37⟩ := p_S37
    have hn := rn_fr fc39 g38 hI o_v0 (by decide) hn
    have hI := hJ
    have d_kv1 := d_kv1.trans (fri_at fc39 (by decide) (by decide) o_v0).symm
    have d_kv8 := d_kv8.trans (fri_at fc39 (by decide) (by decide) o_a7).symm
    have d_kv9 := d_kv9.trans (fri_at fc39 (by decide) (by decide) o_a7).symm
    have d_kv10 := d_kv10.trans (fri_at fc39 (by decide) (by decide) o_a7).symm
    have d_x12 := d_x12.trans (fri_at fc39 (by decide) (by decide) o_a7).symm
    have ea7 := (frr_at fc39 (by decide) (by decide) o_v0).trans ea7
    have f0 := fri_tr (S := S) g0 f0 fc39 (by decide) (by decide)
    have o_a7 := gr_ob g38 o_a7
    have o_v0 := gr_ob g38 o_v0
    have g0 := gr_tr (T := S) g0 g38
    obtain ⟨kv40, d_kv40⟩ : ∃ z : Int32, z = fI S37 v0 9 := ⟨_, rfl⟩
    obtain ⟨kv41, d_kv41⟩ : ∃ z : Int32, z = fI S37 v0 13 := ⟨_, rfl⟩
    have ph0_S37 : kv40 = 5 → 0 < kv41 := by rw [d_kv40, d_kv41]; exact pg0_S37
    have ph1_S37 : kv40 = 5 ∨ ¬ kv3 = 5 := by rw [do35_kv3, d_kv40]; exact pg1_S37
    have ph2_S37 : iv35 ≤ kv1 ∧ (kv40 = 4 → iv35 < kv1 ∨ kv3 = 4) := by rw [do35_iv35, do35_kv3, d_kv1, d_kv40]; exact pg2_S37
    have ph3_S37 : kv40 = 5 := by rw [d_kv40]; exact pg3_S37
    intro _
    refine u_X11_readWorld_15 ?_
    refine ⟨o_v0, ?_⟩
    obtain ⟨iv42, hiv42⟩ : ∃ z : Int32, z = kv41 := ⟨_, rfl⟩
    have d_iv42 := hiv42.trans d_kv41
    have do42_kv1 := d_kv1
    have do42_kv40 := d_kv40
    have do42_iv42 := d_iv42
    refine m_X11_goesOn hI o_v0 hG (by have t : kv40 = 5 → 0 < kv41 := (qr73 hiv4 hiv6 hO r_x12 c13 ph0_S37 ph1_S37 ph3_S37); rw [d_kv40, d_kv41] at t; exact t) (fun S44 hJ g45 fc46 p_S44 => ?_)
    obtain ⟨hG, pg0_S44, pg1_S44, pg2_S44⟩ := p_S44
    have hn := rn_fr fc46 g45 hI o_v0 (by decide) hn
    have hI := hJ
    have d_kv8 := d_kv8.trans (fri_at fc46 (by decide) (by decide) o_a7).symm
    have d_kv9 := d_kv9.trans (fri_at fc46 (by decide) (by decide) o_a7).symm
    have d_kv10 := d_kv10.trans (fri_at fc46 (by decide) (by decide) o_a7).symm
    have d_x12 := d_x12.trans (fri_at fc46 (by decide) (by decide) o_a7).symm
    have d_kv41 := d_kv41.trans (fri_at fc46 (by decide) (by decide) o_v0).symm
    have ea7 := (frr_at fc46 (by decide) (by decide) o_v0).trans ea7
    have f0 := fri_tr (S := S37) g0 f0 fc46 (by decide) (by decide)
    have o_a7 := gr_ob g45 o_a7
    have o_v0 := gr_ob g45 o_v0
    have g0 := gr_tr (T := S37) g0 g45
    obtain ⟨kv47, d_kv47⟩ : ∃ z : Int32, z = fI S44 v0 9 := ⟨_, rfl⟩
    have ph0_S44 : kv47 = 5 → 0 < kv41 := by rw [d_kv47, d_kv41]; exact pg0_S44
    have ph1_S44 : kv47 = 5 ∨ ¬ kv40 = 5 := by rw [do42_kv40, d_kv47]; exact pg1_S44
    have mo48 : kv47 = 5 ∨ ¬ kv3 = 5 := ph1_S44.elim Or.inl (fun h => Or.inr (ph1_S37.resolve_left h))
    obtain ⟨kv49, d_kv49⟩ : ∃ z : Int32, z = fI S44 v0 8 := ⟨_, rfl⟩
    have r_kv49 : (0 : Int32) ≤ kv49 ∧ kv49 ≤ (900 : Int32) := by rw [d_kv49]; exact nu 25 rfl hI o_v0
    have ph2_S44 : kv1 ≤ kv49 ∧ (kv47 = 4 → kv1 < kv49 ∨ kv40 = 4) := by rw [do42_kv1, do42_kv40, d_kv49, d_kv47]; exact pg2_S44
    intro _
    have do49_kv49 := d_kv49
    have do49_kv47 := d_kv47
    have do49_kv41 := d_kv41
    refine m_X11_readPart hI o_v0 (by decide) hG (by have t : kv47 = 5 → 0 < kv41 := (qr74 hiv4 hiv6 hO r_x12 c13 ph0_S37 mo48 ph3_S37 hiv42 ph0_S44 ph1_S44); rw [d_kv47, d_kv41] at t; exact t) (fun x50 S51 hJ g52 fc53 p_x50 => ?_)
    obtain ⟨hG, p_x50, pg0_S51, pg1_S51, pg2_S51⟩ := p_x50
    have hn := rn_fr fc53 g52 hI o_v0 (by decide) hn
    have hI := hJ
    have d_kv8 := d_kv8.trans (fri_at fc53 (by decide) (by decide) o_a7).symm
    have d_kv9 := d_kv9.trans (fri_at fc53 (by decide) (by decide) o_a7).symm
    have d_kv10 := d_kv10.trans (fri_at fc53 (by decide) (by decide) o_a7).symm
    have d_x12 := d_x12.trans (fri_at fc53 (by decide) (by decide) o_a7).symm
    have ea7 := (frr_at fc53 (by decide) (by decide) o_v0).trans ea7
    have f0 := fri_tr (S := S44) g0 f0 fc53 (by decide) (by decide)
    have o_a7 := gr_ob g52 o_a7
    have o_v0 := gr_ob g52 o_v0
    have g0 := gr_tr (T := S44) g0 g52
    obtain ⟨kv54, d_kv54⟩ : ∃ z : Int32, z = fI S51 v0 9 := ⟨_, rfl⟩
    obtain ⟨kv55, d_kv55⟩ : ∃ z : Int32, z = fI S51 v0 13 := ⟨_, rfl⟩
    have ph0_S51 : kv54 = 5 → 0 < kv55 := by rw [d_kv54, d_kv55]; exact pg0_S51
    have ph1_S51 : kv54 = 5 ∨ ¬ kv47 = 5 := by rw [do49_kv47, d_kv54]; exact pg1_S51
    have mo56 : kv54 = 5 ∨ ¬ kv3 = 5 := ph1_S51.elim Or.inl (fun h => Or.inr (mo48.resolve_left h))
    have mo57 : kv54 = 5 ∨ ¬ kv40 = 5 := ph1_S51.elim Or.inl (fun h => Or.inr (ph1_S44.resolve_left h))
    obtain ⟨kv58, d_kv58⟩ : ∃ z : Int32, z = fI S51 v0 8 := ⟨_, rfl⟩
    have r_kv58 : (0 : Int32) ≤ kv58 ∧ kv58 ≤ (900 : Int32) := by rw [d_kv58]; exact nu 25 rfl hI o_v0
    have ph2_S51 : kv49 ≤ kv58 ∧ (kv54 = 4 → kv49 < kv58 ∨ kv47 = 4) := by rw [do49_kv49, do49_kv47, d_kv58, d_kv54]; exact pg2_S51
    intro _
    intro x59 ex59
    have q_x59 : x59 = kv54 := ex59.trans d_kv54.symm
    have mo60 : x59 = 5 ∨ ¬ kv3 = 5 := mo56.imp_left (fun z => q_x59.trans z)
    have mo61 : x59 = 5 ∨ ¬ kv40 = 5 := mo57.imp_left (fun z => q_x59.trans z)
    have mo62 : x59 = 5 ∨ ¬ kv47 = 5 := ph1_S51.imp_left (fun z => q_x59.trans z)
    have d_x59 := ex59
    refine ⟨fun c63 => ?_, fun c63 => ?_⟩
    · exact hq _ hI g0 f0 ⟨hG, hn, (by have t : x59 = 5 → 0 < kv55 := (qr75 hiv4 hiv6 hO r_x12 c13 ph0_S37 mo60 ph3_S37 hiv42 ph0_S44 mo61 ph0_S51 mo62 q_x59 c63); rw [d_x59, d_kv55] at t; exact t), (by have t : x59 = 5 ∨ ¬ iv4 = 5 := (qr76 hiv4 r_x12 c13 mo60 ph3_S37 mo61 mo62 q_x59 c63); rw [di_9, d_x59] at t; exact t), (by have t : iv2 ≤ kv58 ∧ (x59 = 4 → iv2 < kv58 ∨ iv4 = 4) := (qr77 r_kv1 hiv2 hiv4 r_x12 c13 hiv35 mo60 ph2_S37 ph3_S37 mo61 r_kv49 ph2_S44 mo62 r_kv58 ph2_S51 q_x59 c63); rw [di_8, di_9, d_kv58, d_x59] at t; exact t)⟩
    · refine ⟨a7, ea7, ?_⟩
      refine ⟨o_a7, ?_⟩
      intro S65 eS65
      have hIn : IV S65 := by rw [eS65]; exact iv10_sI hI o_a7 (rg_nw hG ea7) (nu_one (lo := (0 : Int32)) (hi := (60 : Int32)) (by decide) (qr78 hiv4 r_x12 c13 mo60 ph3_S37 mo61 mo62 p_x50 q_x59 c63))
      have hG := rg_c eS65 hI ea7 o_a7 (by decide) hG
      have hn := rn_c eS65 (by decide) hn
      have hI := hIn
      have f0 := fr_I eS65 g0 f0 o_a7 (by decide)
      have d_kv8 := rd_Ij eS65 (by decide) d_kv8
      have d_kv9 := rd_Ij eS65 (by decide) d_kv9
      have d_kv10 := rd_Ij eS65 (by decide) d_kv10
      have d_x59 := rd_Ik eS65 o_a7 o_v0 (by decide) d_x59
      have d_kv55 := rd_Ik eS65 o_a7 o_v0 (by decide) d_kv55
      have d_kv58 := rd_Ik eS65 o_a7 o_v0 (by decide) d_kv58
      have d_x50 := rd_Is eS65 (rfl : x50 = x50)
      have ea7 := rf_I eS65 ea7
      have g0 := gr_I eS65 g0
      have o_a7 := ob_I eS65 o_a7
      have o_v0 := ob_I eS65 o_v0
      exact hq _ hI g0 f0 ⟨hG, hn, (by have t : x59 = 5 → 0 < kv55 := (qr79 hiv4 hiv6 hO r_x12 c13 ph0_S37 mo60 ph3_S37 hiv42 ph0_S44 mo61 ph0_S51 mo62 q_x59 c63); rw [d_x59, d_kv55] at t; exact t), (by have t : x59 = 5 ∨ ¬ iv4 = 5 := (qr80 hiv4 r_x12 c13 mo60 ph3_S37 mo61 mo62 q_x59 c63); rw [di_9, d_x59] at t; exact t), (by have t : iv2 ≤ kv58 ∧ (x59 = 4 → iv2 < kv58 ∨ iv4 = 4) := (qr81 r_kv1 hiv2 hiv4 r_x12 c13 hiv35 mo60 ph2_S37 ph3_S37 mo61 r_kv49 ph2_S44 mo62 r_kv58 ph2_S51 q_x59 c63); rw [di_8, di_9, d_kv58, d_x59] at t; exact t)⟩
set_option maxHeartbeats 4000000 in
set_option maxRecDepth 20000 in
theorem m_X11_readLine {v0 : Nat} {Q : HS → Prop} {S : HS} (hI : IV S) (o_v0 : ob S v0 11)    (hG : RG S v0) (hn : RN S v0) (hO : fI S v0 9 = 5 → 0 < fI S v0 13) (hq : ∀ (T : HS), IV T → Gr S T → FRI [(10, 0), (10, 1), (10, 2), (10, 3), (10, 4), (10, 5), (10, 6), (11, 8), (11, 9), (11, 10), (11, 11), (11, 12), (11, 13), (11, 14)] [] S T → (RG T v0) ∧ (RN T v0) ∧ (fI T v0 9 = 5 → 0 < fI T v0 13) ∧ (fI S v0 8 ≤ fI T v0 8 ∧ (fI T v0 9 = 4 → fI S v0 8 < fI T v0 8)) → Q T) : P_X11_readLine v0 Q S := by
  have g0 := gr_rf S
  have f0 := fri_rf [(10, 0), (10, 1), (10, 2), (10, 3), (10, 4), (10, 5), (10, 6), (11, 8), (11, 9), (11, 10), (11, 11), (11, 12), (11, 13), (11, 14)] [] S
  obtain ⟨kv1, d_kv1⟩ : ∃ z : Int32, z = fI S v0 8 := ⟨_, rfl⟩
  have r_kv1 : (0 : Int32) ≤ kv1 ∧ kv1 ≤ (900 : Int32) := by rw [d_kv1]; exact nu 25 rfl hI o_v0
  obtain ⟨iv2, hiv2⟩ : ∃ z : Int32, z = kv1 := ⟨_, rfl⟩
  have di_8 := hiv2.trans d_kv1
  obtain ⟨kv3, d_kv3⟩ : ∃ z : Int32, z = fI S v0 9 := ⟨_, rfl⟩
  obtain ⟨iv4, hiv4⟩ : ∃ z : Int32, z = kv3 := ⟨_, rfl⟩
  have di_9 := hiv4.trans d_kv3
  obtain ⟨kv5, d_kv5⟩ : ∃ z : Int32, z = fI S v0 13 := ⟨_, rfl⟩
  obtain ⟨iv6, hiv6⟩ : ∃ z : Int32, z = kv5 := ⟨_, rfl⟩
  have di_13 := hiv6.trans d_kv5
  have hO : iv4 = 5 → 0 < iv6 := by rw [di_9, di_13]; exact hO
  refine u_X11_readLine ?_
  refine u_X11_readLine_0 ?_
  refine ⟨o_v0, ?_⟩
  refine m_X11_isWord hI o_v0 (by decide) (fun x7 S8 hI2 g9 b_x7 p_x7 => ?_)
  obtain ⟨z_S8, p_x7⟩ := p_x7
  subst z_S8
  intro _ _
  have bb_x7 : x7 = 0 ∨ x7 = 1 := b_x7
  have iw_x7 : x7 = 0 ∨ kv3 = 2 := by rw [d_kv3]; exact p_x7
  refine ⟨fun c11 => ?_, fun c11 => ?_⟩
  · refine m_X11_isWord hI o_v0 (by decide) (fun x12 S13 hI2 g14 b_x12 p_x12 => ?_)
    obtain ⟨z_S13, p_x12⟩ := p_x12
    subst z_S13
    intro _ _
    have bb_x12 : x12 = 0 ∨ x12 = 1 := b_x12
    have iw_x12 : x12 = 0 ∨ kv3 = 2 := by rw [d_kv3]; exact p_x12
    refine ⟨fun c16 => ?_, fun c16 => ?_⟩
    · refine m_X11_isWord hI o_v0 (by decide) (fun x17 S18 hI2 g19 b_x17 p_x17 => ?_)
      obtain ⟨z_S18, p_x17⟩ := p_x17
      subst z_S18
      intro _ _
      have bb_x17 : x17 = 0 ∨ x17 = 1 := b_x17
      have iw_x17 : x17 = 0 ∨ kv3 = 2 := by rw [d_kv3]; exact p_x17
      refine ⟨fun c21 => ?_, fun c21 => ?_⟩
      · refine m_X11_isWord hI o_v0 (by decide) (fun x22 S23 hI2 g24 b_x22 p_x22 => ?_)
        obtain ⟨z_S23, p_x22⟩ := p_x22
        subst z_S23
        intro _ _
        have bb_x22 : x22 = 0 ∨ x22 = 1 := b_x22
        have iw_x22 : x22 = 0 ∨ kv3 = 2 := by rw [d_kv3]; exact p_x22
        refine ⟨fun c26 => ?_, fun c26 => ?_⟩
        · refine m_X11_isWord hI o_v0 (by decide) (fun x27 S28 hI2 g29 b_x27 p_x27 => ?_)
          obtain ⟨z_S28, p_x27⟩ := p_x27
          subst z_S28
          intro _ _
          have bb_x27 : x27 = 0 ∨ x27 = 1 := b_x27
          have iw_x27 : x27 = 0 ∨ kv3 = 2 := by rw [d_kv3]; exact p_x27
          refine ⟨fun c31 => ?_, fun c31 => ?_⟩
          · refine m_X11_isWord hI o_v0 (by decide) (fun x32 S33 hI2 g34 b_x32 p_x32 => ?_)
            obtain ⟨z_S33, p_x32⟩ := p_x32
            subst z_S33
            intro _ _
            have bb_x32 : x32 = 0 ∨ x32 = 1 := b_x32
            have iw_x32 : x32 = 0 ∨ kv3 = 2 := by rw [d_kv3]; exact p_x32
            refine ⟨fun c36 => ?_, fun c36 => ?_⟩
            · obtain ⟨iv37, hiv37⟩ : ∃ z : Int32, z = kv1 := ⟨_, rfl⟩
              have d_iv37 := hiv37.trans d_kv1
              have do37_iv37 := d_iv37
              have do37_kv3 := d_kv3
              have do37_kv5 := d_kv5
              refine m_X11_flaw hI o_v0 (qr40 hiv4 bb_x7 iw_x7 c11 bb_x12 iw_x12 c16 bb_x17 iw_x17 c21 bb_x22 iw_x22 c26 bb_x27 iw_x27 c31 bb_x32 iw_x32 c36) hG (by have t : kv3 = 5 → 0 < kv5 := (qr41 hiv4 hiv6 hO bb_x7 iw_x7 c11 bb_x12 iw_x12 c16 bb_x17 iw_x17 c21 bb_x22 iw_x22 c26 bb_x27 iw_x27 c31 bb_x32 iw_x32 c36); rw [d_kv3, d_kv5] at t; exact t) (fun S39 hJ g40 fc41 p_S39 => ?_)
              obtain ⟨hG, pg0_S39, pg1_S39, pg2_S39, pg3_S39⟩ := p_S39
              have hn := rn_fr fc41 g40 hI o_v0 (by decide) hn
              have hI := hJ
              have d_kv1 := d_kv1.trans (fri_at fc41 (by decide) (by decide) o_v0).symm
              have f0 := fri_tr (S := S) g0 f0 fc41 (by decide) (by decide)
              have o_v0 := gr_ob g40 o_v0
              have g0 := gr_tr (T := S) g0 g40
              obtain ⟨kv42, d_kv42⟩ : ∃ z : Int32, z = fI S39 v0 9 := ⟨_, rfl⟩
              obtain ⟨kv43, d_kv43⟩ : ∃ z : Int32, z = fI S39 v0 13 := ⟨_, rfl⟩
              have ph0_S39 : kv42 = 5 → 0 < kv43 := by rw [d_kv42, d_kv43]; exact pg0_S39
              have ph1_S39 : kv42 = 5 ∨ ¬ kv3 = 5 := by rw [do37_kv3, d_kv42]; exact pg1_S39
              have ph2_S39 : iv37 ≤ kv1 ∧ (kv42 = 4 → iv37 < kv1 ∨ kv3 = 4) := by rw [do37_iv37, do37_kv3, d_kv1, d_kv42]; exact pg2_S39
              have ph3_S39 : kv42 = 5 := by rw [d_kv42]; exact pg3_S39
              intro _
              exact hq _ hI g0 f0 ⟨hG, hn, (by have t : kv42 = 5 → 0 < kv43 := (qr42 hiv4 hiv6 hO bb_x7 iw_x7 c11 bb_x12 iw_x12 c16 bb_x17 iw_x17 c21 bb_x22 iw_x22 c26 bb_x27 iw_x27 c31 bb_x32 iw_x32 c36 ph0_S39 ph1_S39 ph3_S39); rw [d_kv42, d_kv43] at t; exact t), (by have t : iv2 ≤ kv1 ∧ (kv42 = 4 → iv2 < kv1) := (qr43 r_kv1 hiv2 hiv4 bb_x7 iw_x7 c11 bb_x12 iw_x12 c16 bb_x17 iw_x17 c21 bb_x22 iw_x22 c26 bb_x27 iw_x27 c31 bb_x32 iw_x32 c36 hiv37 ph1_S39 ph2_S39 ph3_S39); rw [di_8, d_kv1, d_kv42] at t; exact t)⟩
            · have do43_kv1 := d_kv1
              have do43_kv3 := d_kv3
              have do43_kv5 := d_kv5
              refine m_X11_readSeen hI o_v0 hG hn (by have t : kv3 = 5 → 0 < kv5 := (qr44 hiv4 hiv6 hO bb_x7 iw_x7 c11 bb_x12 iw_x12 c16 bb_x17 iw_x17 c21 bb_x22 iw_x22 c26 bb_x27 iw_x27 c31 bb_x32 iw_x32 c36); rw [d_kv3, d_kv5] at t; exact t) (fun S45 hJ g46 fc47 p_S45 => ?_)
              obtain ⟨hG, hn, pg0_S45, pg1_S45, pg2_S45⟩ := p_S45
              have hI := hJ
              have f0 := fri_tr (S := S) g0 f0 fc47 (by decide) (by decide)
              have o_v0 := gr_ob g46 o_v0
              have g0 := gr_tr (T := S) g0 g46
              obtain ⟨kv48, d_kv48⟩ : ∃ z : Int32, z = fI S45 v0 9 := ⟨_, rfl⟩
              obtain ⟨kv49, d_kv49⟩ : ∃ z : Int32, z = fI S45 v0 13 := ⟨_, rfl⟩
              have ph0_S45 : kv48 = 5 → 0 < kv49 := by rw [d_kv48, d_kv49]; exact pg0_S45
              have ph1_S45 : kv48 = 5 ∨ ¬ kv3 = 5 := by rw [do43_kv3, d_kv48]; exact pg1_S45
              obtain ⟨kv50, d_kv50⟩ : ∃ z : Int32, z = fI S45 v0 8 := ⟨_, rfl⟩
              have r_kv50 : (0 : Int32) ≤ kv50 ∧ kv50 ≤ (900 : Int32) := by rw [d_kv50]; exact nu 25 rfl hI o_v0
              have ph2_S45 : kv1 ≤ kv50 ∧ (kv48 = 4 → kv1 < kv50 ∨ kv3 = 4) := by rw [do43_kv1, do43_kv3, d_kv50, d_kv48]; exact pg2_S45
              intro _
              exact hq _ hI g0 f0 ⟨hG, hn, (by have t : kv48 = 5 → 0 < kv49 := (qr45 hiv4 hiv6 hO bb_x7 iw_x7 c11 bb_x12 iw_x12 c16 bb_x17 iw_x17 c21 bb_x22 iw_x22 c26 bb_x27 iw_x27 c31 bb_x32 iw_x32 c36 ph0_S45 ph1_S45); rw [d_kv48, d_kv49] at t; exact t), (by have t : iv2 ≤ kv50 ∧ (kv48 = 4 → iv2 < kv50) := (qr46 r_kv1 hiv2 hiv4 bb_x7 iw_x7 c11 bb_x12 iw_x12 c16 bb_x17 iw_x17 c21 bb_x22 iw_x22 c26 bb_x27 iw_x27 c31 bb_x32 iw_x32 c36 ph1_S45 r_kv50 ph2_S45); rw [di_8, d_kv50, d_kv48] at t; exact t)⟩
          · have do50_kv1 := d_kv1
            have do50_kv3 := d_kv3
            have do50_kv5 := d_kv5
            refine m_X11_readWalker hI o_v0 hG hn (by have t : kv3 = 5 → 0 < kv5 := (qr47 hiv4 hiv6 hO bb_x7 iw_x7 c11 bb_x12 iw_x12 c16 bb_x17 iw_x17 c21 bb_x22 iw_x22 c26 bb_x27 iw_x27 c31); rw [d_kv3, d_kv5] at t; exact t) (fun S52 hJ g53 fc54 p_S52 => ?_)
            obtain ⟨hG, hn, pg0_S52, pg1_S52, pg2_S52⟩ := p_S52
            have hI := hJ
            have f0 := fri_tr (S := S) g0 f0 fc54 (by decide) (by decide)
            have o_v0 := gr_ob g53 o_v0
            have g0 := gr_tr (T := S) g0 g53
            obtain ⟨kv55, d_kv55⟩ : ∃ z : Int32, z = fI S52 v0 9 := ⟨_, rfl⟩
            obtain ⟨kv56, d_kv56⟩ : ∃ z : Int32, z = fI S52 v0 13 := ⟨_, rfl⟩
            have ph0_S52 : kv55 = 5 → 0 < kv56 := by rw [d_kv55, d_kv56]; exact pg0_S52
            have ph1_S52 : kv55 = 5 ∨ ¬ kv3 = 5 := by rw [do50_kv3, d_kv55]; exact pg1_S52
            obtain ⟨kv57, d_kv57⟩ : ∃ z : Int32, z = fI S52 v0 8 := ⟨_, rfl⟩
            have r_kv57 : (0 : Int32) ≤ kv57 ∧ kv57 ≤ (900 : Int32) := by rw [d_kv57]; exact nu 25 rfl hI o_v0
            have ph2_S52 : kv1 ≤ kv57 ∧ (kv55 = 4 → kv1 < kv57 ∨ kv3 = 4) := by rw [do50_kv1, do50_kv3, d_kv57, d_kv55]; exact pg2_S52
            intro _
            exact hq _ hI g0 f0 ⟨hG, hn, (by have t : kv55 = 5 → 0 < kv56 := (qr48 hiv4 hiv6 hO bb_x7 iw_x7 c11 bb_x12 iw_x12 c16 bb_x17 iw_x17 c21 bb_x22 iw_x22 c26 bb_x27 iw_x27 c31 ph0_S52 ph1_S52); rw [d_kv55, d_kv56] at t; exact t), (by have t : iv2 ≤ kv57 ∧ (kv55 = 4 → iv2 < kv57) := (qr49 r_kv1 hiv2 hiv4 bb_x7 iw_x7 c11 bb_x12 iw_x12 c16 bb_x17 iw_x17 c21 bb_x22 iw_x22 c26 bb_x27 iw_x27 c31 ph1_S52 r_kv57 ph2_S52); rw [di_8, d_kv57, d_kv55] at t; exact t)⟩
        · have do57_kv1 := d_kv1
          have do57_kv3 := d_kv3
          have do57_kv5 := d_kv5
          refine m_X11_readRoad hI o_v0 hG hn (by have t : kv3 = 5 → 0 < kv5 := (qr50 hiv4 hiv6 hO bb_x7 iw_x7 c11 bb_x12 iw_x12 c16 bb_x17 iw_x17 c21 bb_x22 iw_x22 c26); rw [d_kv3, d_kv5] at t; exact t) (fun S59 hJ g60 fc61 p_S59 => ?_)
          obtain ⟨hG, hn, pg0_S59, pg1_S59, pg2_S59⟩ := p_S59
          have hI := hJ
          have f0 := fri_tr (S := S) g0 f0 fc61 (by decide) (by decide)
          have o_v0 := gr_ob g60 o_v0
          have g0 := gr_tr (T := S) g0 g60
          obtain ⟨kv62, d_kv62⟩ : ∃ z : Int32, z = fI S59 v0 9 := ⟨_, rfl⟩
          obtain ⟨kv63, d_kv63⟩ : ∃ z : Int32, z = fI S59 v0 13 := ⟨_, rfl⟩
          have ph0_S59 : kv62 = 5 → 0 < kv63 := by rw [d_kv62, d_kv63]; exact pg0_S59
          have ph1_S59 : kv62 = 5 ∨ ¬ kv3 = 5 := by rw [do57_kv3, d_kv62]; exact pg1_S59
          obtain ⟨kv64, d_kv64⟩ : ∃ z : Int32, z = fI S59 v0 8 := ⟨_, rfl⟩
          have r_kv64 : (0 : Int32) ≤ kv64 ∧ kv64 ≤ (900 : Int32) := by rw [d_kv64]; exact nu 25 rfl hI o_v0
          have ph2_S59 : kv1 ≤ kv64 ∧ (kv62 = 4 → kv1 < kv64 ∨ kv3 = 4) := by rw [do57_kv1, do57_kv3, d_kv64, d_kv62]; exact pg2_S59
          intro _
          exact hq _ hI g0 f0 ⟨hG, hn, (by have t : kv62 = 5 → 0 < kv63 := (qr51 hiv4 hiv6 hO bb_x7 iw_x7 c11 bb_x12 iw_x12 c16 bb_x17 iw_x17 c21 bb_x22 iw_x22 c26 ph0_S59 ph1_S59); rw [d_kv62, d_kv63] at t; exact t), (by have t : iv2 ≤ kv64 ∧ (kv62 = 4 → iv2 < kv64) := (qr52 r_kv1 hiv2 hiv4 bb_x7 iw_x7 c11 bb_x12 iw_x12 c16 bb_x17 iw_x17 c21 bb_x22 iw_x22 c26 ph1_S59 r_kv64 ph2_S59); rw [di_8, d_kv64, d_kv62] at t; exact t)⟩
      · have do64_kv1 := d_kv1
        have do64_kv3 := d_kv3
        have do64_kv5 := d_kv5
        refine m_X11_readPlace hI o_v0 hG hn (by have t : kv3 = 5 → 0 < kv5 := (qr53 hiv4 hiv6 hO bb_x7 iw_x7 c11 bb_x12 iw_x12 c16 bb_x17 iw_x17 c21); rw [d_kv3, d_kv5] at t; exact t) (fun S66 hJ g67 fc68 p_S66 => ?_)
        obtain ⟨hG, hn, pg0_S66, pg1_S66, pg2_S66⟩ := p_S66
        have hI := hJ
        have f0 := fri_tr (S := S) g0 f0 fc68 (by decide) (by decide)
        have o_v0 := gr_ob g67 o_v0
        have g0 := gr_tr (T := S) g0 g67
        obtain ⟨kv69, d_kv69⟩ : ∃ z : Int32, z = fI S66 v0 9 := ⟨_, rfl⟩
        obtain ⟨kv70, d_kv70⟩ : ∃ z : Int32, z = fI S66 v0 13 := ⟨_, rfl⟩
        have ph0_S66 : kv69 = 5 → 0 < kv70 := by rw [d_kv69, d_kv70]; exact pg0_S66
        have ph1_S66 : kv69 = 5 ∨ ¬ kv3 = 5 := by rw [do64_kv3, d_kv69]; exact pg1_S66
        obtain ⟨kv71, d_kv71⟩ : ∃ z : Int32, z = fI S66 v0 8 := ⟨_, rfl⟩
        have r_kv71 : (0 : Int32) ≤ kv71 ∧ kv71 ≤ (900 : Int32) := by rw [d_kv71]; exact nu 25 rfl hI o_v0
        have ph2_S66 : kv1 ≤ kv71 ∧ (kv69 = 4 → kv1 < kv71 ∨ kv3 = 4) := by rw [do64_kv1, do64_kv3, d_kv71, d_kv69]; exact pg2_S66
        intro _
        exact hq _ hI g0 f0 ⟨hG, hn, (by have t : kv69 = 5 → 0 < kv70 := (qr54 hiv4 hiv6 hO bb_x7 iw_x7 c11 bb_x12 iw_x12 c16 bb_x17 iw_x17 c21 ph0_S66 ph1_S66); rw [d_kv69, d_kv70] at t; exact t), (by have t : iv2 ≤ kv71 ∧ (kv69 = 4 → iv2 < kv71) := (qr55 r_kv1 hiv2 hiv4 bb_x7 iw_x7 c11 bb_x12 iw_x12 c16 bb_x17 iw_x17 c21 ph1_S66 r_kv71 ph2_S66); rw [di_8, d_kv71, d_kv69] at t; exact t)⟩
    · have do71_kv1 := d_kv1
      have do71_kv3 := d_kv3
      have do71_kv5 := d_kv5
      refine m_X11_readRain hI o_v0 hG hn (by have t : kv3 = 5 → 0 < kv5 := (qr56 hiv4 hiv6 hO bb_x7 iw_x7 c11 bb_x12 iw_x12 c16); rw [d_kv3, d_kv5] at t; exact t) (fun S73 hJ g74 fc75 p_S73 => ?_)
      obtain ⟨hG, hn, pg0_S73, pg1_S73, pg2_S73⟩ := p_S73
      have hI := hJ
      have f0 := fri_tr (S := S) g0 f0 fc75 (by decide) (by decide)
      have o_v0 := gr_ob g74 o_v0
      have g0 := gr_tr (T := S) g0 g74
      obtain ⟨kv76, d_kv76⟩ : ∃ z : Int32, z = fI S73 v0 9 := ⟨_, rfl⟩
      obtain ⟨kv77, d_kv77⟩ : ∃ z : Int32, z = fI S73 v0 13 := ⟨_, rfl⟩
      have ph0_S73 : kv76 = 5 → 0 < kv77 := by rw [d_kv76, d_kv77]; exact pg0_S73
      have ph1_S73 : kv76 = 5 ∨ ¬ kv3 = 5 := by rw [do71_kv3, d_kv76]; exact pg1_S73
      obtain ⟨kv78, d_kv78⟩ : ∃ z : Int32, z = fI S73 v0 8 := ⟨_, rfl⟩
      have r_kv78 : (0 : Int32) ≤ kv78 ∧ kv78 ≤ (900 : Int32) := by rw [d_kv78]; exact nu 25 rfl hI o_v0
      have ph2_S73 : kv1 ≤ kv78 ∧ (kv76 = 4 → kv1 < kv78 ∨ kv3 = 4) := by rw [do71_kv1, do71_kv3, d_kv78, d_kv76]; exact pg2_S73
      intro _
      exact hq _ hI g0 f0 ⟨hG, hn, (by have t : kv76 = 5 → 0 < kv77 := (qr57 hiv4 hiv6 hO bb_x7 iw_x7 c11 bb_x12 iw_x12 c16 ph0_S73 ph1_S73); rw [d_kv76, d_kv77] at t; exact t), (by have t : iv2 ≤ kv78 ∧ (kv76 = 4 → iv2 < kv78) := (qr58 r_kv1 hiv2 hiv4 bb_x7 iw_x7 c11 bb_x12 iw_x12 c16 ph1_S73 r_kv78 ph2_S73); rw [di_8, d_kv78, d_kv76] at t; exact t)⟩
  · have do78_kv1 := d_kv1
    have do78_kv3 := d_kv3
    have do78_kv5 := d_kv5
    refine m_X11_readWorld hI o_v0 hG hn (by have t : kv3 = 5 → 0 < kv5 := (qr59 hiv4 hiv6 hO bb_x7 iw_x7 c11); rw [d_kv3, d_kv5] at t; exact t) (fun S80 hJ g81 fc82 p_S80 => ?_)
    obtain ⟨hG, hn, pg0_S80, pg1_S80, pg2_S80⟩ := p_S80
    have hI := hJ
    have f0 := fri_tr (S := S) g0 f0 fc82 (by decide) (by decide)
    have o_v0 := gr_ob g81 o_v0
    have g0 := gr_tr (T := S) g0 g81
    obtain ⟨kv83, d_kv83⟩ : ∃ z : Int32, z = fI S80 v0 9 := ⟨_, rfl⟩
    obtain ⟨kv84, d_kv84⟩ : ∃ z : Int32, z = fI S80 v0 13 := ⟨_, rfl⟩
    have ph0_S80 : kv83 = 5 → 0 < kv84 := by rw [d_kv83, d_kv84]; exact pg0_S80
    have ph1_S80 : kv83 = 5 ∨ ¬ kv3 = 5 := by rw [do78_kv3, d_kv83]; exact pg1_S80
    obtain ⟨kv85, d_kv85⟩ : ∃ z : Int32, z = fI S80 v0 8 := ⟨_, rfl⟩
    have r_kv85 : (0 : Int32) ≤ kv85 ∧ kv85 ≤ (900 : Int32) := by rw [d_kv85]; exact nu 25 rfl hI o_v0
    have ph2_S80 : kv1 ≤ kv85 ∧ (kv83 = 4 → kv1 < kv85 ∨ kv3 = 4) := by rw [do78_kv1, do78_kv3, d_kv85, d_kv83]; exact pg2_S80
    intro _
    exact hq _ hI g0 f0 ⟨hG, hn, (by have t : kv83 = 5 → 0 < kv84 := (qr60 hiv4 hiv6 hO bb_x7 iw_x7 c11 ph0_S80 ph1_S80); rw [d_kv83, d_kv84] at t; exact t), (by have t : iv2 ≤ kv85 ∧ (kv83 = 4 → iv2 < kv85) := (qr61 r_kv1 hiv2 hiv4 bb_x7 iw_x7 c11 ph1_S80 r_kv85 ph2_S80); rw [di_8, d_kv85, d_kv83] at t; exact t)⟩
set_option maxHeartbeats 4000000 in
set_option maxRecDepth 20000 in
theorem m_X11_readAll {v0 : Nat} {Q : HS → Prop} {S : HS} (hI : IV S) (o_v0 : ob S v0 11)    (hG : RG S v0) (hn : RN S v0) (hO : fI S v0 9 = 5 → 0 < fI S v0 13) (hq : ∀ (T : HS), IV T → Gr S T → FRI [(10, 0), (10, 1), (10, 2), (10, 3), (10, 4), (10, 5), (10, 6), (11, 8), (11, 9), (11, 10), (11, 11), (11, 12), (11, 13), (11, 14)] [] S T → (RG T v0) ∧ (RN T v0) ∧ (RA T v0) ∧ (fI T v0 9 = 5 → 0 < fI T v0 13) → Q T) : P_X11_readAll v0 Q S := by
  have g0 := gr_rf S
  have f0 := fri_rf [(10, 0), (10, 1), (10, 2), (10, 3), (10, 4), (10, 5), (10, 6), (11, 8), (11, 9), (11, 10), (11, 11), (11, 12), (11, 13), (11, 14)] [] S
  obtain ⟨kv1, d_kv1⟩ : ∃ z : Int32, z = fI S v0 9 := ⟨_, rfl⟩
  obtain ⟨iv2, hiv2⟩ : ∃ z : Int32, z = kv1 := ⟨_, rfl⟩
  have di_9 := hiv2.trans d_kv1
  obtain ⟨kv3, d_kv3⟩ : ∃ z : Int32, z = fI S v0 13 := ⟨_, rfl⟩
  obtain ⟨iv4, hiv4⟩ : ∃ z : Int32, z = kv3 := ⟨_, rfl⟩
  have di_13 := hiv4.trans d_kv3
  have hO : iv2 = 5 → 0 < iv4 := by rw [di_9, di_13]; exact hO
  refine u_X11_readAll ?_
  refine u_X11_readAll_0 ?_
  refine i_X11_readAll_2 (fun (y0 : Nat) (y1 : Int32) (Z : HS) => (2 * (901 - (fI Z v0 8).toInt) + y1.toInt).toNat) (fun (y0 : Nat) (y1 : Int32) (Z : HS) => (IV Z) ∧ (Gr S Z) ∧ (FRI [(10, 0), (10, 1), (10, 2), (10, 3), (10, 4), (10, 5), (10, 6), (11, 8), (11, 9), (11, 10), (11, 11), (11, 12), (11, 13), (11, 14)] [] S Z) ∧ (v0 = y0) ∧ (RG Z v0) ∧ (RN Z v0) ∧ (y1 = 0 ∨ y1 = 1) ∧ (fI Z v0 9 = 5 → 0 < fI Z v0 13)) ?_ _ _ _ ⟨hI, (gr_rf _), (fri_rf _ _ _), rfl, hG, hn, (qr0), (by rw [← d_kv1, ← d_kv3]; exact (qr1 hiv2 hiv4 hO))⟩
  intro w9 w11 S6 X12 ⟨hI, gL7, fL8, q10, hG, hn, i1u5, k5u5⟩ ih13
  subst q10
  have f0 := fri_tr (S := S) g0 f0 fL8 (by decide) (by decide)
  have o_v0 := gr_ob gL7 o_v0
  have g0 := gr_tr (T := S) g0 gL7
  obtain ⟨kv14, d_kv14⟩ : ∃ z : Int32, z = fI S6 v0 9 := ⟨_, rfl⟩
  obtain ⟨kv15, d_kv15⟩ : ∃ z : Int32, z = fI S6 v0 13 := ⟨_, rfl⟩
  have p_k5u5 : kv14 = 5 → 0 < kv15 := by rw [d_kv14, d_kv15]; exact k5u5
  obtain ⟨kv16, d_kv16⟩ : ∃ z : Int32, z = fI S6 v0 8 := ⟨_, rfl⟩
  have r_kv16 : (0 : Int32) ≤ kv16 ∧ kv16 ≤ (900 : Int32) := by rw [d_kv16]; exact nu 25 rfl hI o_v0
  have d0_kv16 := d_kv16
  refine u_X11_readAll_2 ?_
  refine ⟨fun c17 => ?_, fun c17 => ?_⟩
  · refine ⟨o_v0, ?_⟩
    intro x18 ex18
    have q_x18 : x18 = kv14 := ex18.trans d_kv14.symm
    have d_x18 := ex18
    refine ⟨fun c19 => ?_, fun c19 => ?_⟩
    · refine u_X11_readAll_33 ?_
      refine ⟨o_v0, ?_⟩
      obtain ⟨a20, ea20, o_a20, -⟩ := id hG
      refine ⟨a20, ea20, ?_⟩
      refine ⟨o_a20, ?_⟩
      intro x21 ex21
      have r_x21 : (0 : Int32) ≤ x21 ∧ x21 ≤ (60 : Int32) := by rw [ex21]; exact nu 16 rfl hI o_a20
      have d_x21 := ex21
      refine ⟨fun c22 => ?_, fun c22 => ?_⟩
      · refine u_X11_readAll_63 ?_
        refine ⟨o_v0, ?_⟩
        obtain ⟨iv23, hiv23⟩ : ∃ z : Int32, z = kv16 := ⟨_, rfl⟩
        have d_iv23 := hiv23.trans d_kv16
        have do23_iv23 := d_iv23
        have do23_x18 := d_x18
        have do23_kv15 := d_kv15
        refine m_X11_flaw hI o_v0 (qr2 i1u5 c17 q_x18 c19 r_x21 c22) hG (by have t : x18 = 5 → 0 < kv15 := (qr3 i1u5 p_k5u5 c17 q_x18 c19 r_x21 c22); rw [d_x18, d_kv15] at t; exact t) (fun S25 hJ g26 fc27 p_S25 => ?_)
        obtain ⟨hG, pg0_S25, pg1_S25, pg2_S25, pg3_S25⟩ := p_S25
        have hn := rn_fr fc27 g26 hI o_v0 (by decide) hn
        have hI := hJ
        have d_kv16 := d_kv16.trans (fri_at fc27 (by decide) (by decide) o_v0).symm
        have d_x21 := d_x21.trans (fri_at fc27 (by decide) (by decide) o_a20).symm
        have ea20 := (frr_at fc27 (by decide) (by decide) o_v0).trans ea20
        have f0 := fri_tr (S := S6) g0 f0 fc27 (by decide) (by decide)
        have o_a20 := gr_ob g26 o_a20
        have o_v0 := gr_ob g26 o_v0
        have g0 := gr_tr (T := S6) g0 g26
        obtain ⟨kv28, d_kv28⟩ : ∃ z : Int32, z = fI S25 v0 9 := ⟨_, rfl⟩
        obtain ⟨kv29, d_kv29⟩ : ∃ z : Int32, z = fI S25 v0 13 := ⟨_, rfl⟩
        have ph0_S25 : kv28 = 5 → 0 < kv29 := by rw [d_kv28, d_kv29]; exact pg0_S25
        have ph1_S25 : kv28 = 5 ∨ ¬ x18 = 5 := by rw [do23_x18, d_kv28]; exact pg1_S25
        have ph2_S25 : iv23 ≤ kv16 ∧ (kv28 = 4 → iv23 < kv16 ∨ x18 = 4) := by rw [do23_iv23, do23_x18, d_kv16, d_kv28]; exact pg2_S25
        have ph3_S25 : kv28 = 5 := by rw [d_kv28]; exact pg3_S25
        intro _
        exact hq _ hI g0 f0 ⟨hG, hn, (ra_l d_kv29 (qr4 i1u5 p_k5u5 c17 q_x18 c19 r_x21 c22 ph0_S25 ph1_S25 ph3_S25)), (by have t : kv28 = 5 → 0 < kv29 := (qr5 i1u5 p_k5u5 c17 q_x18 c19 r_x21 c22 ph0_S25 ph1_S25 ph3_S25); rw [d_kv28, d_kv29] at t; exact t)⟩
      · refine ⟨a20, ea20, ?_⟩
        refine ⟨o_a20, ?_⟩
        intro x31 ex31
        have r_x31 : (0 : Int32) ≤ x31 ∧ x31 ≤ (8 : Int32) := by rw [ex31]; exact nu 18 rfl hI o_a20
        have d_x31 := ex31
        refine ⟨fun c32 => ?_, fun c32 => ?_⟩
        · refine u_X11_readAll_63 ?_
          refine ⟨o_v0, ?_⟩
          obtain ⟨iv33, hiv33⟩ : ∃ z : Int32, z = kv16 := ⟨_, rfl⟩
          have d_iv33 := hiv33.trans d_kv16
          have do33_iv33 := d_iv33
          have do33_x18 := d_x18
          have do33_kv15 := d_kv15
          refine m_X11_flaw hI o_v0 (qr6 i1u5 c17 q_x18 c19 r_x21 c22 r_x31 c32) hG (by have t : x18 = 5 → 0 < kv15 := (qr7 i1u5 p_k5u5 c17 q_x18 c19 r_x21 c22 r_x31 c32); rw [d_x18, d_kv15] at t; exact t) (fun S35 hJ g36 fc37 p_S35 => ?_)
          obtain ⟨hG, pg0_S35, pg1_S35, pg2_S35, pg3_S35⟩ := p_S35
          have hn := rn_fr fc37 g36 hI o_v0 (by decide) hn
          have hI := hJ
          have d_kv16 := d_kv16.trans (fri_at fc37 (by decide) (by decide) o_v0).symm
          have d_x21 := d_x21.trans (fri_at fc37 (by decide) (by decide) o_a20).symm
          have d_x31 := d_x31.trans (fri_at fc37 (by decide) (by decide) o_a20).symm
          have ea20 := (frr_at fc37 (by decide) (by decide) o_v0).trans ea20
          have f0 := fri_tr (S := S6) g0 f0 fc37 (by decide) (by decide)
          have o_a20 := gr_ob g36 o_a20
          have o_v0 := gr_ob g36 o_v0
          have g0 := gr_tr (T := S6) g0 g36
          obtain ⟨kv38, d_kv38⟩ : ∃ z : Int32, z = fI S35 v0 9 := ⟨_, rfl⟩
          obtain ⟨kv39, d_kv39⟩ : ∃ z : Int32, z = fI S35 v0 13 := ⟨_, rfl⟩
          have ph0_S35 : kv38 = 5 → 0 < kv39 := by rw [d_kv38, d_kv39]; exact pg0_S35
          have ph1_S35 : kv38 = 5 ∨ ¬ x18 = 5 := by rw [do33_x18, d_kv38]; exact pg1_S35
          have ph2_S35 : iv33 ≤ kv16 ∧ (kv38 = 4 → iv33 < kv16 ∨ x18 = 4) := by rw [do33_iv33, do33_x18, d_kv16, d_kv38]; exact pg2_S35
          have ph3_S35 : kv38 = 5 := by rw [d_kv38]; exact pg3_S35
          intro _
          exact hq _ hI g0 f0 ⟨hG, hn, (ra_l d_kv39 (qr8 i1u5 p_k5u5 c17 q_x18 c19 r_x21 c22 r_x31 c32 ph0_S35 ph1_S35 ph3_S35)), (by have t : kv38 = 5 → 0 < kv39 := (qr9 i1u5 p_k5u5 c17 q_x18 c19 r_x21 c22 r_x31 c32 ph0_S35 ph1_S35 ph3_S35); rw [d_kv38, d_kv39] at t; exact t)⟩
        · refine ⟨a20, ea20, ?_⟩
          refine ⟨o_a20, ?_⟩
          intro x41 ex41
          have r_x41 : (0 : Int32) ≤ x41 ∧ x41 ≤ (4 : Int32) := by rw [ex41]; exact nu 20 rfl hI o_a20
          have d_x41 := ex41
          refine ⟨fun c42 => ?_, fun c42 => ?_⟩
          · exact hq _ hI g0 f0 ⟨hG, hn, (ra_r ea20 d_x21 (qr10 i1u5 c17 q_x18 c19 r_x21 c22 r_x31 c32 r_x41 c42)), (by have t : x18 = 5 → 0 < kv15 := (qr11 i1u5 p_k5u5 c17 q_x18 c19 r_x21 c22 r_x31 c32 r_x41 c42); rw [d_x18, d_kv15] at t; exact t)⟩
          · refine u_X11_readAll_63 ?_
            refine ⟨o_v0, ?_⟩
            obtain ⟨iv43, hiv43⟩ : ∃ z : Int32, z = kv16 := ⟨_, rfl⟩
            have d_iv43 := hiv43.trans d_kv16
            have do43_iv43 := d_iv43
            have do43_x18 := d_x18
            have do43_kv15 := d_kv15
            refine m_X11_flaw hI o_v0 (qr12 i1u5 c17 q_x18 c19 r_x21 c22 r_x31 c32 r_x41 c42) hG (by have t : x18 = 5 → 0 < kv15 := (qr13 i1u5 p_k5u5 c17 q_x18 c19 r_x21 c22 r_x31 c32 r_x41 c42); rw [d_x18, d_kv15] at t; exact t) (fun S45 hJ g46 fc47 p_S45 => ?_)
            obtain ⟨hG, pg0_S45, pg1_S45, pg2_S45, pg3_S45⟩ := p_S45
            have hn := rn_fr fc47 g46 hI o_v0 (by decide) hn
            have hI := hJ
            have d_kv16 := d_kv16.trans (fri_at fc47 (by decide) (by decide) o_v0).symm
            have d_x21 := d_x21.trans (fri_at fc47 (by decide) (by decide) o_a20).symm
            have d_x31 := d_x31.trans (fri_at fc47 (by decide) (by decide) o_a20).symm
            have d_x41 := d_x41.trans (fri_at fc47 (by decide) (by decide) o_a20).symm
            have ea20 := (frr_at fc47 (by decide) (by decide) o_v0).trans ea20
            have f0 := fri_tr (S := S6) g0 f0 fc47 (by decide) (by decide)
            have o_a20 := gr_ob g46 o_a20
            have o_v0 := gr_ob g46 o_v0
            have g0 := gr_tr (T := S6) g0 g46
            obtain ⟨kv48, d_kv48⟩ : ∃ z : Int32, z = fI S45 v0 9 := ⟨_, rfl⟩
            obtain ⟨kv49, d_kv49⟩ : ∃ z : Int32, z = fI S45 v0 13 := ⟨_, rfl⟩
            have ph0_S45 : kv48 = 5 → 0 < kv49 := by rw [d_kv48, d_kv49]; exact pg0_S45
            have ph1_S45 : kv48 = 5 ∨ ¬ x18 = 5 := by rw [do43_x18, d_kv48]; exact pg1_S45
            have ph2_S45 : iv43 ≤ kv16 ∧ (kv48 = 4 → iv43 < kv16 ∨ x18 = 4) := by rw [do43_iv43, do43_x18, d_kv16, d_kv48]; exact pg2_S45
            have ph3_S45 : kv48 = 5 := by rw [d_kv48]; exact pg3_S45
            intro _
            exact hq _ hI g0 f0 ⟨hG, hn, (ra_l d_kv49 (qr14 i1u5 p_k5u5 c17 q_x18 c19 r_x21 c22 r_x31 c32 r_x41 c42 ph0_S45 ph1_S45 ph3_S45)), (by have t : kv48 = 5 → 0 < kv49 := (qr15 i1u5 p_k5u5 c17 q_x18 c19 r_x21 c22 r_x31 c32 r_x41 c42 ph0_S45 ph1_S45 ph3_S45); rw [d_kv48, d_kv49] at t; exact t)⟩
    · obtain ⟨iv50, hiv50⟩ : ∃ z : Int32, z = kv16 := ⟨_, rfl⟩
      have d_iv50 := hiv50.trans d_kv16
      have do50_iv50 := d_iv50
      have do50_x18 := d_x18
      have do50_kv15 := d_kv15
      refine m_X11_flaw hI o_v0 (qr16 i1u5 c17 q_x18 c19) hG (by have t : x18 = 5 → 0 < kv15 := (qr17 i1u5 p_k5u5 c17 q_x18 c19); rw [d_x18, d_kv15] at t; exact t) (fun S52 hJ g53 fc54 p_S52 => ?_)
      obtain ⟨hG, pg0_S52, pg1_S52, pg2_S52, pg3_S52⟩ := p_S52
      have hn := rn_fr fc54 g53 hI o_v0 (by decide) hn
      have hI := hJ
      have d_kv16 := d_kv16.trans (fri_at fc54 (by decide) (by decide) o_v0).symm
      have f0 := fri_tr (S := S6) g0 f0 fc54 (by decide) (by decide)
      have o_v0 := gr_ob g53 o_v0
      have g0 := gr_tr (T := S6) g0 g53
      obtain ⟨kv55, d_kv55⟩ : ∃ z : Int32, z = fI S52 v0 9 := ⟨_, rfl⟩
      obtain ⟨kv56, d_kv56⟩ : ∃ z : Int32, z = fI S52 v0 13 := ⟨_, rfl⟩
      have ph0_S52 : kv55 = 5 → 0 < kv56 := by rw [d_kv55, d_kv56]; exact pg0_S52
      have ph1_S52 : kv55 = 5 ∨ ¬ x18 = 5 := by rw [do50_x18, d_kv55]; exact pg1_S52
      have ph2_S52 : iv50 ≤ kv16 ∧ (kv55 = 4 → iv50 < kv16 ∨ x18 = 4) := by rw [do50_iv50, do50_x18, d_kv16, d_kv55]; exact pg2_S52
      have ph3_S52 : kv55 = 5 := by rw [d_kv55]; exact pg3_S52
      intro _
      refine u_X11_readAll_33 ?_
      refine ⟨o_v0, ?_⟩
      obtain ⟨a57, ea57, o_a57, -⟩ := id hG
      refine ⟨a57, ea57, ?_⟩
      refine ⟨o_a57, ?_⟩
      intro x58 ex58
      have r_x58 : (0 : Int32) ≤ x58 ∧ x58 ≤ (60 : Int32) := by rw [ex58]; exact nu 16 rfl hI o_a57
      have d_x58 := ex58
      refine ⟨fun c59 => ?_, fun c59 => ?_⟩
      · refine u_X11_readAll_63 ?_
        refine ⟨o_v0, ?_⟩
        obtain ⟨iv60, hiv60⟩ : ∃ z : Int32, z = kv16 := ⟨_, rfl⟩
        have d_iv60 := hiv60.trans d_kv16
        have do60_iv60 := d_iv60
        have do60_kv55 := d_kv55
        have do60_kv56 := d_kv56
        refine m_X11_flaw hI o_v0 (qr18 i1u5 c17 q_x18 c19 ph1_S52 ph3_S52 r_x58 c59) hG (by have t : kv55 = 5 → 0 < kv56 := (qr19 i1u5 p_k5u5 c17 q_x18 c19 ph0_S52 ph1_S52 ph3_S52 r_x58 c59); rw [d_kv55, d_kv56] at t; exact t) (fun S62 hJ g63 fc64 p_S62 => ?_)
        obtain ⟨hG, pg0_S62, pg1_S62, pg2_S62, pg3_S62⟩ := p_S62
        have hn := rn_fr fc64 g63 hI o_v0 (by decide) hn
        have hI := hJ
        have d_kv16 := d_kv16.trans (fri_at fc64 (by decide) (by decide) o_v0).symm
        have d_x58 := d_x58.trans (fri_at fc64 (by decide) (by decide) o_a57).symm
        have ea57 := (frr_at fc64 (by decide) (by decide) o_v0).trans ea57
        have f0 := fri_tr (S := S52) g0 f0 fc64 (by decide) (by decide)
        have o_a57 := gr_ob g63 o_a57
        have o_v0 := gr_ob g63 o_v0
        have g0 := gr_tr (T := S52) g0 g63
        obtain ⟨kv65, d_kv65⟩ : ∃ z : Int32, z = fI S62 v0 9 := ⟨_, rfl⟩
        obtain ⟨kv66, d_kv66⟩ : ∃ z : Int32, z = fI S62 v0 13 := ⟨_, rfl⟩
        have ph0_S62 : kv65 = 5 → 0 < kv66 := by rw [d_kv65, d_kv66]; exact pg0_S62
        have ph1_S62 : kv65 = 5 ∨ ¬ kv55 = 5 := by rw [do60_kv55, d_kv65]; exact pg1_S62
        have mo67 : kv65 = 5 ∨ ¬ x18 = 5 := ph1_S62.elim Or.inl (fun h => Or.inr (ph1_S52.resolve_left h))
        have ph2_S62 : iv60 ≤ kv16 ∧ (kv65 = 4 → iv60 < kv16 ∨ kv55 = 4) := by rw [do60_iv60, do60_kv55, d_kv16, d_kv65]; exact pg2_S62
        have ph3_S62 : kv65 = 5 := by rw [d_kv65]; exact pg3_S62
        intro _
        exact hq _ hI g0 f0 ⟨hG, hn, (ra_l d_kv66 (qr20 i1u5 p_k5u5 c17 q_x18 c19 ph0_S52 mo67 ph3_S52 r_x58 c59 ph0_S62 ph1_S62 ph3_S62)), (by have t : kv65 = 5 → 0 < kv66 := (qr21 i1u5 p_k5u5 c17 q_x18 c19 ph0_S52 mo67 ph3_S52 r_x58 c59 ph0_S62 ph1_S62 ph3_S62); rw [d_kv65, d_kv66] at t; exact t)⟩
      · refine ⟨a57, ea57, ?_⟩
        refine ⟨o_a57, ?_⟩
        intro x69 ex69
        have r_x69 : (0 : Int32) ≤ x69 ∧ x69 ≤ (8 : Int32) := by rw [ex69]; exact nu 18 rfl hI o_a57
        have d_x69 := ex69
        refine ⟨fun c70 => ?_, fun c70 => ?_⟩
        · refine u_X11_readAll_63 ?_
          refine ⟨o_v0, ?_⟩
          obtain ⟨iv71, hiv71⟩ : ∃ z : Int32, z = kv16 := ⟨_, rfl⟩
          have d_iv71 := hiv71.trans d_kv16
          have do71_iv71 := d_iv71
          have do71_kv55 := d_kv55
          have do71_kv56 := d_kv56
          refine m_X11_flaw hI o_v0 (qr22 i1u5 c17 q_x18 c19 ph1_S52 ph3_S52 r_x58 c59 r_x69 c70) hG (by have t : kv55 = 5 → 0 < kv56 := (qr23 i1u5 p_k5u5 c17 q_x18 c19 ph0_S52 ph1_S52 ph3_S52 r_x58 c59 r_x69 c70); rw [d_kv55, d_kv56] at t; exact t) (fun S73 hJ g74 fc75 p_S73 => ?_)
          obtain ⟨hG, pg0_S73, pg1_S73, pg2_S73, pg3_S73⟩ := p_S73
          have hn := rn_fr fc75 g74 hI o_v0 (by decide) hn
          have hI := hJ
          have d_kv16 := d_kv16.trans (fri_at fc75 (by decide) (by decide) o_v0).symm
          have d_x58 := d_x58.trans (fri_at fc75 (by decide) (by decide) o_a57).symm
          have d_x69 := d_x69.trans (fri_at fc75 (by decide) (by decide) o_a57).symm
          have ea57 := (frr_at fc75 (by decide) (by decide) o_v0).trans ea57
          have f0 := fri_tr (S := S52) g0 f0 fc75 (by decide) (by decide)
          have o_a57 := gr_ob g74 o_a57
          have o_v0 := gr_ob g74 o_v0
          have g0 := gr_tr (T := S52) g0 g74
          obtain ⟨kv76, d_kv76⟩ : ∃ z : Int32, z = fI S73 v0 9 := ⟨_, rfl⟩
          obtain ⟨kv77, d_kv77⟩ : ∃ z : Int32, z = fI S73 v0 13 := ⟨_, rfl⟩
          have ph0_S73 : kv76 = 5 → 0 < kv77 := by rw [d_kv76, d_kv77]; exact pg0_S73
          have ph1_S73 : kv76 = 5 ∨ ¬ kv55 = 5 := by rw [do71_kv55, d_kv76]; exact pg1_S73
          have mo78 : kv76 = 5 ∨ ¬ x18 = 5 := ph1_S73.elim Or.inl (fun h => Or.inr (ph1_S52.resolve_left h))
          have ph2_S73 : iv71 ≤ kv16 ∧ (kv76 = 4 → iv71 < kv16 ∨ kv55 = 4) := by rw [do71_iv71, do71_kv55, d_kv16, d_kv76]; exact pg2_S73
          have ph3_S73 : kv76 = 5 := by rw [d_kv76]; exact pg3_S73
          intro _
          exact hq _ hI g0 f0 ⟨hG, hn, (ra_l d_kv77 (qr24 i1u5 p_k5u5 c17 q_x18 c19 ph0_S52 mo78 ph3_S52 r_x58 c59 r_x69 c70 ph0_S73 ph1_S73 ph3_S73)), (by have t : kv76 = 5 → 0 < kv77 := (qr25 i1u5 p_k5u5 c17 q_x18 c19 ph0_S52 mo78 ph3_S52 r_x58 c59 r_x69 c70 ph0_S73 ph1_S73 ph3_S73); rw [d_kv76, d_kv77] at t; exact t)⟩
        · refine ⟨a57, ea57, ?_⟩
          refine ⟨o_a57, ?_⟩
          intro x80 ex80
          have r_x80 : (0 : Int32) ≤ x80 ∧ x80 ≤ (4 : Int32) := by rw [ex80]; exact nu 20 rfl hI o_a57
          have d_x80 := ex80
          refine ⟨fun c81 => ?_, fun c81 => ?_⟩
          · exact hq _ hI g0 f0 ⟨hG, hn, (ra_l d_kv56 (qr26 i1u5 p_k5u5 c17 q_x18 c19 ph0_S52 ph1_S52 ph3_S52 r_x58 c59 r_x69 c70 r_x80 c81)), (by have t : kv55 = 5 → 0 < kv56 := (qr27 i1u5 p_k5u5 c17 q_x18 c19 ph0_S52 ph1_S52 ph3_S52 r_x58 c59 r_x69 c70 r_x80 c81); rw [d_kv55, d_kv56] at t; exact t)⟩
          · refine u_X11_readAll_63 ?_
            refine ⟨o_v0, ?_⟩
            obtain ⟨iv82, hiv82⟩ : ∃ z : Int32, z = kv16 := ⟨_, rfl⟩
            have d_iv82 := hiv82.trans d_kv16
            have do82_iv82 := d_iv82
            have do82_kv55 := d_kv55
            have do82_kv56 := d_kv56
            refine m_X11_flaw hI o_v0 (qr28 i1u5 c17 q_x18 c19 ph1_S52 ph3_S52 r_x58 c59 r_x69 c70 r_x80 c81) hG (by have t : kv55 = 5 → 0 < kv56 := (qr29 i1u5 p_k5u5 c17 q_x18 c19 ph0_S52 ph1_S52 ph3_S52 r_x58 c59 r_x69 c70 r_x80 c81); rw [d_kv55, d_kv56] at t; exact t) (fun S84 hJ g85 fc86 p_S84 => ?_)
            obtain ⟨hG, pg0_S84, pg1_S84, pg2_S84, pg3_S84⟩ := p_S84
            have hn := rn_fr fc86 g85 hI o_v0 (by decide) hn
            have hI := hJ
            have d_kv16 := d_kv16.trans (fri_at fc86 (by decide) (by decide) o_v0).symm
            have d_x58 := d_x58.trans (fri_at fc86 (by decide) (by decide) o_a57).symm
            have d_x69 := d_x69.trans (fri_at fc86 (by decide) (by decide) o_a57).symm
            have d_x80 := d_x80.trans (fri_at fc86 (by decide) (by decide) o_a57).symm
            have ea57 := (frr_at fc86 (by decide) (by decide) o_v0).trans ea57
            have f0 := fri_tr (S := S52) g0 f0 fc86 (by decide) (by decide)
            have o_a57 := gr_ob g85 o_a57
            have o_v0 := gr_ob g85 o_v0
            have g0 := gr_tr (T := S52) g0 g85
            obtain ⟨kv87, d_kv87⟩ : ∃ z : Int32, z = fI S84 v0 9 := ⟨_, rfl⟩
            obtain ⟨kv88, d_kv88⟩ : ∃ z : Int32, z = fI S84 v0 13 := ⟨_, rfl⟩
            have ph0_S84 : kv87 = 5 → 0 < kv88 := by rw [d_kv87, d_kv88]; exact pg0_S84
            have ph1_S84 : kv87 = 5 ∨ ¬ kv55 = 5 := by rw [do82_kv55, d_kv87]; exact pg1_S84
            have mo89 : kv87 = 5 ∨ ¬ x18 = 5 := ph1_S84.elim Or.inl (fun h => Or.inr (ph1_S52.resolve_left h))
            have ph2_S84 : iv82 ≤ kv16 ∧ (kv87 = 4 → iv82 < kv16 ∨ kv55 = 4) := by rw [do82_iv82, do82_kv55, d_kv16, d_kv87]; exact pg2_S84
            have ph3_S84 : kv87 = 5 := by rw [d_kv87]; exact pg3_S84
            intro _
            exact hq _ hI g0 f0 ⟨hG, hn, (ra_l d_kv88 (qr30 i1u5 p_k5u5 c17 q_x18 c19 ph0_S52 mo89 ph3_S52 r_x58 c59 r_x69 c70 r_x80 c81 ph0_S84 ph1_S84 ph3_S84)), (by have t : kv87 = 5 → 0 < kv88 := (qr31 i1u5 p_k5u5 c17 q_x18 c19 ph0_S52 mo89 ph3_S52 r_x58 c59 r_x69 c70 r_x80 c81 ph0_S84 ph1_S84 ph3_S84); rw [d_kv87, d_kv88] at t; exact t)⟩
  · refine ⟨o_v0, ?_⟩
    have do89_kv16 := d_kv16
    have do89_kv14 := d_kv14
    have do89_kv15 := d_kv15
    refine m_X11_readLine hI o_v0 hG hn (by have t : kv14 = 5 → 0 < kv15 := (qr32 i1u5 p_k5u5 c17); rw [d_kv14, d_kv15] at t; exact t) (fun S91 hJ g92 fc93 p_S91 => ?_)
    obtain ⟨hG, hn, pg0_S91, pg1_S91⟩ := p_S91
    have hI := hJ
    have f0 := fri_tr (S := S6) g0 f0 fc93 (by decide) (by decide)
    have fL8 := fri_tr (S := S6) gL7 fL8 fc93 (by decide) (by decide)
    have o_v0 := gr_ob g92 o_v0
    have g0 := gr_tr (T := S6) g0 g92
    have gL7 := gr_tr (T := S6) gL7 g92
    obtain ⟨kv94, d_kv94⟩ : ∃ z : Int32, z = fI S91 v0 9 := ⟨_, rfl⟩
    obtain ⟨kv95, d_kv95⟩ : ∃ z : Int32, z = fI S91 v0 13 := ⟨_, rfl⟩
    have ph0_S91 : kv94 = 5 → 0 < kv95 := by rw [d_kv94, d_kv95]; exact pg0_S91
    obtain ⟨kv96, d_kv96⟩ : ∃ z : Int32, z = fI S91 v0 8 := ⟨_, rfl⟩
    have r_kv96 : (0 : Int32) ≤ kv96 ∧ kv96 ≤ (900 : Int32) := by rw [d_kv96]; exact nu 25 rfl hI o_v0
    have ph1_S91 : kv16 ≤ kv96 ∧ (kv94 = 4 → kv16 < kv96) := by rw [do89_kv16, d_kv96, d_kv94]; exact pg1_S91
    intro _
    obtain ⟨iv97, hiv97⟩ : ∃ z : Int32, z = kv95 := ⟨_, rfl⟩
    have d_iv97 := hiv97.trans d_kv95
    have do97_kv96 := d_kv96
    have do97_kv94 := d_kv94
    have do97_iv97 := d_iv97
    refine m_X11_eatsSign hI o_v0 hG (by have t : kv94 = 5 → 0 < kv95 := (qr33 i1u5 c17 ph0_S91); rw [d_kv94, d_kv95] at t; exact t) (fun x98 S99 hJ g100 fc101 b_x98 p_x98 => ?_)
    obtain ⟨hG, pg0_S99, pg1_S99, pg2_S99, pg3_S99⟩ := p_x98
    have hn := rn_fr fc101 g100 hI o_v0 (by decide) hn
    have hI := hJ
    have d_kv95 := d_kv95.trans (fri_at fc101 (by decide) (by decide) o_v0).symm
    have f0 := fri_tr (S := S91) g0 f0 fc101 (by decide) (by decide)
    have fL8 := fri_tr (S := S91) gL7 fL8 fc101 (by decide) (by decide)
    have o_v0 := gr_ob g100 o_v0
    have g0 := gr_tr (T := S91) g0 g100
    have gL7 := gr_tr (T := S91) gL7 g100
    obtain ⟨kv102, d_kv102⟩ : ∃ z : Int32, z = fI S99 v0 9 := ⟨_, rfl⟩
    have ph0_S99 : kv102 = 5 → 0 < kv95 := by rw [d_kv102, d_kv95]; exact pg0_S99
    have ph1_S99 : kv102 = 5 ∨ ¬ kv94 = 5 := by rw [do97_kv94, d_kv102]; exact pg1_S99
    obtain ⟨kv103, d_kv103⟩ : ∃ z : Int32, z = fI S99 v0 8 := ⟨_, rfl⟩
    have r_kv103 : (0 : Int32) ≤ kv103 ∧ kv103 ≤ (900 : Int32) := by rw [d_kv103]; exact nu 25 rfl hI o_v0
    have ph2_S99 : kv96 ≤ kv103 ∧ (kv102 = 4 → kv96 < kv103 ∨ kv94 = 4) := by rw [do97_kv96, do97_kv94, d_kv103, d_kv102]; exact pg2_S99
    have ph3_S99 : x98 = 0 ∨ kv94 = 4 := by rw [do97_kv94]; exact pg3_S99
    intro _ _
    have bb_x98 : x98 = 0 ∨ x98 = 1 := b_x98
    exact ih13 _ _ _ ⟨hI, gL7, fL8, rfl, hG, hn, (qr34 i1u5 c17 ph1_S99 ph3_S99 bb_x98), (by rw [← d_kv102, ← d_kv95]; exact (qr35 i1u5 c17 ph0_S91 hiv97 ph0_S99 ph1_S99 ph3_S99 bb_x98))⟩ (by rw [← d0_kv16, ← d_kv103]; exact mu_ra (qr36 i1u5 r_kv16 c17 r_kv96 ph1_S91 ph1_S99 r_kv103 ph2_S99 ph3_S99 bb_x98) (qr37 i1u5 r_kv16 c17 r_kv96 ph1_S91 ph1_S99 r_kv103 ph2_S99 ph3_S99 bb_x98) (qr38 i1u5 c17) (qr39 i1u5 r_kv16 c17 r_kv96 ph1_S91 ph1_S99 r_kv103 ph2_S99 ph3_S99 bb_x98))
