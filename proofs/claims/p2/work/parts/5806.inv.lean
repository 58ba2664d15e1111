set_option maxHeartbeats 4000000 in
set_option maxRecDepth 20000 in
theorem m_X11_readSeen {v0 : Nat} {Q : HS → Prop} {S : HS} (hI : IV S) (o_v0 : ob S v0 11)    (hG : RG S v0) (hn : RN S v0) (hO : fI S v0 9 = 5 → 0 < fI S v0 13) (hq : ∀ (T : HS), IV T → Gr S T → FRI [(10, 5), (11, 8), (11, 9), (11, 10), (11, 11), (11, 12), (11, 13), (11, 14)] [] S T → (RG T v0) ∧ (RN T v0) ∧ (fI T v0 9 = 5 → 0 < fI T v0 13) ∧ (fI T v0 9 = 5 ∨ ¬ fI S v0 9 = 5) ∧ (fI S v0 8 ≤ fI T v0 8 ∧ (fI T v0 9 = 4 → fI S v0 8 < fI T v0 8 ∨ fI S v0 9 = 4)) → Q T) : P_X11_readSeen v0 Q S := by
  have g0 := gr_rf S
  have f0 := fri_rf [(10, 5), (11, 8), (11, 9), (11, 10), (11, 11), (11, 12), (11, 13), (11, 14)] [] S
  obtain ⟨kv1, d_kv1⟩ : ∃ z : Int32, z = fI S v0 8 := ⟨_, rfl⟩
  have r_kv1 : (0 : Int32) ≤ kv1 ∧ kv1 ≤ (900 : Int32) := by rw [d_kv1]; exact nu 25 rfl hI o_v0
  have di_8 := d_kv1
  obtain ⟨kv2, d_kv2⟩ : ∃ z : Int32, z = fI S v0 9 := ⟨_, rfl⟩
  have di_9 := d_kv2
  obtain ⟨kv3, d_kv3⟩ : ∃ z : Int32, z = fI S v0 13 := ⟨_, rfl⟩
  have di_13 := d_kv3
  have hO : kv2 = 5 → 0 < kv3 := by rw [d_kv2, d_kv3]; exact hO
  obtain ⟨a4, ea4, o_a4, -⟩ := id hG
  obtain ⟨kv5, d_kv5⟩ : ∃ z : Int32, z = fI S a4 6 := ⟨_, rfl⟩
  have r_kv5 : (0 : Int32) ≤ kv5 ∧ kv5 ≤ (12 : Int32) := by rw [d_kv5]; exact nu 22 rfl hI o_a4
  obtain ⟨kv6, d_kv6⟩ : ∃ z : Int32, z = fI S a4 2 := ⟨_, rfl⟩
  have r_kv6 : (0 : Int32) ≤ kv6 ∧ kv6 ≤ (8 : Int32) := by rw [d_kv6]; exact nu 18 rfl hI o_a4
  obtain ⟨kv7, d_kv7⟩ : ∃ z : Int32, z = fI S a4 4 := ⟨_, rfl⟩
  have r_kv7 : (0 : Int32) ≤ kv7 ∧ kv7 ≤ (4 : Int32) := by rw [d_kv7]; exact nu 20 rfl hI o_a4
  have hnf : kv5 = kv6 + kv7 := by rw [d_kv5, d_kv6, d_kv7]; exact hn _ ea4
  refine u_X11_readSeen ?_
  refine u_X11_readSeen_0 ?_
  refine ⟨o_v0, ?_⟩
  refine ⟨a4, ea4, ?_⟩
  refine ⟨o_a4, ?_⟩
  intro x9 ex9
  have r_x9 : (0 : Int32) ≤ x9 ∧ x9 ≤ (4 : Int32) := by rw [ex9]; exact nu 21 rfl hI o_a4
  have d_x9 := ex9
  have do9_kv1 := d_kv1
  have do9_kv2 := d_kv2
  have do9_kv3 := d_kv3
  refine m_X11_begins hI o_v0 hG (by have t : kv2 = 5 → 0 < kv3 := (qr1 hO); rw [d_kv2, d_kv3] at t; exact t) (fun S11 hJ g12 fc13 p_S11 => ?_)
  obtain ⟨hG, pg0_S11, pg1_S11, pg2_S11, pg3_S11⟩ := p_S11
  have hn := rn_fr fc13 g12 hI o_v0 (by decide) hn
  have hI := hJ
  have d_kv5 := d_kv5.trans (fri_at fc13 (by decide) (by decide) o_a4).symm
  have d_kv6 := d_kv6.trans (fri_at fc13 (by decide) (by decide) o_a4).symm
  have d_kv7 := d_kv7.trans (fri_at fc13 (by decide) (by decide) o_a4).symm
  have d_x9 := d_x9.trans (fri_at fc13 (by decide) (by decide) o_a4).symm
  have ea4 := (frr_at fc13 (by decide) (by decide) o_v0).trans ea4
  have f0 := fri_tr (S := S) g0 f0 fc13 (by decide) (by decide)
  have o_a4 := gr_ob g12 o_a4
  have o_v0 := gr_ob g12 o_v0
  have g0 := gr_tr (T := S) g0 g12
  obtain ⟨kv14, d_kv14⟩ : ∃ z : Int32, z = fI S11 v0 9 := ⟨_, rfl⟩
  obtain ⟨kv15, d_kv15⟩ : ∃ z : Int32, z = fI S11 v0 13 := ⟨_, rfl⟩
  have ph0_S11 : kv14 = 5 → 0 < kv15 := by rw [d_kv14, d_kv15]; exact pg0_S11
  have ph1_S11 : kv14 = 5 ∨ ¬ kv2 = 5 := by rw [do9_kv2, d_kv14]; exact pg1_S11
  obtain ⟨kv16, d_kv16⟩ : ∃ z : Int32, z = fI S11 v0 8 := ⟨_, rfl⟩
  have r_kv16 : (0 : Int32) ≤ kv16 ∧ kv16 ≤ (900 : Int32) := by rw [d_kv16]; exact nu 25 rfl hI o_v0
  have ph2_S11 : kv1 ≤ kv16 ∧ (kv14 = 4 → kv1 < kv16 ∨ kv2 = 4) := by rw [do9_kv1, do9_kv2, d_kv16, d_kv14]; exact pg2_S11
  have ph3_S11 : kv14 = 5 ∨ ¬ x9 = (4 : Int32) := by rw [d_kv14]; exact pg3_S11
  intro _
  have do16_kv16 := d_kv16
  have do16_kv14 := d_kv14
  have do16_kv15 := d_kv15
  refine m_X11_known hI o_v0 (qr0) hG hn (by have t : kv14 = 5 → 0 < kv15 := (qr299 hO r_x9 ph0_S11 ph1_S11 ph3_S11); rw [d_kv14, d_kv15] at t; exact t) (fun x17 S18 hJ g19 fc20 p_x17 => ?_)
  obtain ⟨hG, hn, p_x17, pg0_S18, pg1_S18, pg2_S18⟩ := p_x17
  have hI := hJ
  have d_kv5 := d_kv5.trans (fri_at fc20 (by decide) (by decide) o_a4).symm
  have d_kv6 := d_kv6.trans (fri_at fc20 (by decide) (by decide) o_a4).symm
  have d_kv7 := d_kv7.trans (fri_at fc20 (by decide) (by decide) o_a4).symm
  have d_x9 := d_x9.trans (fri_at fc20 (by decide) (by decide) o_a4).symm
  have d_kv16 := d_kv16.trans (fri_at fc20 (by decide) (by decide) o_v0).symm
  have ea4 := (frr_at fc20 (by decide) (by decide) o_v0).trans ea4
  have f0 := fri_tr (S := S11) g0 f0 fc20 (by decide) (by decide)
  have o_a4 := gr_ob g19 o_a4
  have o_v0 := gr_ob g19 o_v0
  have g0 := gr_tr (T := S11) g0 g19
  obtain ⟨kv21, d_kv21⟩ : ∃ z : Int32, z = fI S18 v0 9 := ⟨_, rfl⟩
  obtain ⟨kv22, d_kv22⟩ : ∃ z : Int32, z = fI S18 v0 13 := ⟨_, rfl⟩
  have ph0_S18 : kv21 = 5 → 0 < kv22 := by rw [d_kv21, d_kv22]; exact pg0_S18
  have ph1_S18 : kv21 = 5 ∨ ¬ kv14 = 5 := by rw [do16_kv14, d_kv21]; exact pg1_S18
  have ph2_S18 : kv16 ≤ kv16 ∧ (kv21 = 4 → kv16 < kv16 ∨ kv14 = 4) := by rw [d_kv16, do16_kv14, d_kv21]; exact pg2_S18
  intro _
  have kk_x17 : kv21 = 5 ∨ (0 ≤ x17 ∧ x17 < kv7) := by rw [d_kv21, d_kv7]; exact kr1 p_x17 ea4
  have do22_kv16 := d_kv16
  have do22_kv21 := d_kv21
  have do22_kv22 := d_kv22
  refine m_X11_goesOn hI o_v0 hG (by have t : kv21 = 5 → 0 < kv22 := (qr300 hO r_kv5 r_kv6 r_kv7 hnf r_x9 ph0_S11 ph1_S11 ph3_S11 ph0_S18 ph1_S18 kk_x17); rw [d_kv21, d_kv22] at t; exact t) (fun S24 hJ g25 fc26 p_S24 => ?_)
  obtain ⟨hG, pg0_S24, pg1_S24, pg2_S24⟩ := p_S24
  have hn := rn_fr fc26 g25 hI o_v0 (by decide) hn
  have hI := hJ
  have d_kv5 := d_kv5.trans (fri_at fc26 (by decide) (by decide) o_a4).symm
  have d_kv6 := d_kv6.trans (fri_at fc26 (by decide) (by decide) o_a4).symm
  have d_kv7 := d_kv7.trans (fri_at fc26 (by decide) (by decide) o_a4).symm
  have d_x9 := d_x9.trans (fri_at fc26 (by decide) (by decide) o_a4).symm
  have d_kv22 := d_kv22.trans (fri_at fc26 (by decide) (by decide) o_v0).symm
  have ea4 := (frr_at fc26 (by decide) (by decide) o_v0).trans ea4
  have f0 := fri_tr (S := S18) g0 f0 fc26 (by decide) (by decide)
  have o_a4 := gr_ob g25 o_a4
  have o_v0 := gr_ob g25 o_v0
  have g0 := gr_tr (T := S18) g0 g25
  obtain ⟨kv27, d_kv27⟩ : ∃ z : Int32, z = fI S24 v0 9 := ⟨_, rfl⟩
  have ph0_S24 : kv27 = 5 → 0 < kv22 := by rw [d_kv27, d_kv22]; exact pg0_S24
  have ph1_S24 : kv27 = 5 ∨ ¬ kv21 = 5 := by rw [do22_kv21, d_kv27]; exact pg1_S24
  obtain ⟨kv28, d_kv28⟩ : ∃ z : Int32, z = fI S24 v0 8 := ⟨_, rfl⟩
  have r_kv28 : (0 : Int32) ≤ kv28 ∧ kv28 ≤ (900 : Int32) := by rw [d_kv28]; exact nu 25 rfl hI o_v0
  have ph2_S24 : kv16 ≤ kv28 ∧ (kv27 = 4 → kv16 < kv28 ∨ kv21 = 4) := by rw [do22_kv16, do22_kv21, d_kv28, d_kv27]; exact pg2_S24
  intro _
  refine i_X11_readSeen_24 (fun (y0 : Nat) (y1 : Int32) (y2 : Int32) (Z : HS) => ((5 : Int32).toInt - y2.toInt).toNat) (fun (y0 : Nat) (y1 : Int32) (y2 : Int32) (Z : HS) => (IV Z) ∧ (Gr S24 Z) ∧ (FRI [(11, 8), (11, 9), (11, 10), (11, 11), (11, 12), (11, 13), (11, 14)] [] S24 Z) ∧ (v0 = y0) ∧ (x17 = y1) ∧ (RG Z v0) ∧ (RN Z v0) ∧ (0 ≤ y2 ∧ y2 ≤ 5) ∧ (y2 = 0 ∨ ¬ fI Z v0 9 = 5) ∧ (fI Z v0 9 = 5 ∨ ¬ fI Z a4 5 = 4) ∧ (fI Z v0 9 = 5 ∨ (0 ≤ y1 ∧ y1 < fI Z a4 4)) ∧ (fI Z v0 9 = 5 ∨ ¬ kv2 = 5) ∧ (kv1 ≤ fI Z v0 8 ∧ (fI Z v0 9 = 4 → kv1 < fI Z v0 8 ∨ kv2 = 4)) ∧ (fI Z v0 9 = 5 → 0 < fI Z v0 13)) ?_ _ _ _ _ ⟨hI, (gr_rf _), (fri_rf _ _ _), rfl, rfl, hG, hn, (qr301), (by rw [← d_kv27]; exact (qr302 r_kv5 r_kv6 r_kv7 hnf r_x9 ph1_S11 ph3_S11 ph1_S18 kk_x17 ph1_S24)), (by rw [← d_kv27, ← d_x9]; exact (qr303 r_kv5 r_kv6 r_kv7 hnf r_x9 ph1_S11 ph3_S11 ph1_S18 kk_x17 ph1_S24)), (by rw [← d_kv27, ← d_kv7]; exact (qr304 r_kv5 r_kv6 r_kv7 hnf r_x9 ph1_S11 ph3_S11 ph1_S18 kk_x17 ph1_S24)), (by rw [← d_kv27]; exact (qr305 r_kv5 r_kv6 r_kv7 hnf r_x9 ph1_S11 ph3_S11 ph1_S18 kk_x17 ph1_S24)), (by rw [← d_kv28, ← d_kv27]; exact (qr306 r_kv1 r_kv5 r_kv6 r_kv7 hnf r_x9 ph1_S11 r_kv16 ph2_S11 ph3_S11 ph1_S18 ph2_S18 kk_x17 ph1_S24 r_kv28 ph2_S24)), (by rw [← d_kv27, ← d_kv22]; exact (qr307 hO r_kv5 r_kv6 r_kv7 hnf r_x9 ph0_S11 ph1_S11 ph3_S11 ph0_S18 ph1_S18 kk_x17 ph0_S24 ph1_S24))⟩
  intro w33 w35 w37 S30 X38 ⟨hI, gL31, fL32, q34, q36, hG, hn, i1u29, k0u29, k1u29, k2u29, k3u29, k4u29, k5u29⟩ ih39
  subst q34
  subst q36
  have d_kv5 := d_kv5.trans (fri_at fL32 (by decide) (by decide) o_a4).symm
  have d_kv6 := d_kv6.trans (fri_at fL32 (by decide) (by decide) o_a4).symm
  have d_kv7 := d_kv7.trans (fri_at fL32 (by decide) (by decide) o_a4).symm
  have d_x9 := d_x9.trans (fri_at fL32 (by decide) (by decide) o_a4).symm
  have ea4 := (frr_at fL32 (by decide) (by decide) o_v0).trans ea4
  have f0 := fri_tr (S := S24) g0 f0 fL32 (by decide) (by decide)
  have o_a4 := gr_ob gL31 o_a4
  have o_v0 := gr_ob gL31 o_v0
  have g0 := gr_tr (T := S24) g0 gL31
  obtain ⟨kv40, d_kv40⟩ : ∃ z : Int32, z = fI S30 v0 9 := ⟨_, rfl⟩
  have p_k0u29 : w37 = 0 ∨ ¬ kv40 = 5 := by rw [d_kv40]; exact k0u29
  obtain ⟨kv41, d_kv41⟩ : ∃ z : Int32, z = fI S30 v0 9 := ⟨_, rfl⟩
  have p_k1u29 : kv41 = 5 ∨ ¬ x9 = 4 := by rw [d_kv41, d_x9]; exact k1u29
  obtain ⟨kv42, d_kv42⟩ : ∃ z : Int32, z = fI S30 v0 9 := ⟨_, rfl⟩
  have p_k2u29 : kv42 = 5 ∨ (0 ≤ x17 ∧ x17 < kv7) := by rw [d_kv42, d_kv7]; exact k2u29
  obtain ⟨kv43, d_kv43⟩ : ∃ z : Int32, z = fI S30 v0 9 := ⟨_, rfl⟩
  have p_k3u29 : kv43 = 5 ∨ ¬ kv2 = 5 := by rw [d_kv43]; exact k3u29
  obtain ⟨kv44, d_kv44⟩ : ∃ z : Int32, z = fI S30 v0 8 := ⟨_, rfl⟩
  obtain ⟨kv45, d_kv45⟩ : ∃ z : Int32, z = fI S30 v0 9 := ⟨_, rfl⟩
  have p_k4u29 : kv1 ≤ kv44 ∧ (kv45 = 4 → kv1 < kv44 ∨ kv2 = 4) := by rw [d_kv44, d_kv45]; exact k4u29
  obtain ⟨kv46, d_kv46⟩ : ∃ z : Int32, z = fI S30 v0 9 := ⟨_, rfl⟩
  obtain ⟨kv47, d_kv47⟩ : ∃ z : Int32, z = fI S30 v0 13 := ⟨_, rfl⟩
  have p_k5u29 : kv46 = 5 → 0 < kv47 := by rw [d_kv46, d_kv47]; exact k5u29
  refine u_X11_readSeen_24 ?_
  refine ⟨fun c48 => ?_, fun c48 => ?_⟩
  · refine ⟨o_v0, ?_⟩
    refine ⟨a4, ea4, ?_⟩
    refine ⟨o_a4, ?_⟩
    obtain ⟨a50, ea50, o_a50, l_a50⟩ := shl 48 rfl hI o_a4
    refine ⟨a50, ea50, ?_⟩
    refine ⟨a4, ea4, ?_⟩
    refine ⟨o_a4, ?_⟩
    intro x52 ex52
    have r_x52 : (0 : Int32) ≤ x52 ∧ x52 ≤ (4 : Int32) := by rw [ex52]; exact nu 21 rfl hI o_a4
    have q_x52 : x52 = x9 := ex52.trans d_x9.symm
    have d_x52 := ex52
    refine ⟨o_a50, ?_⟩
    have i53 : vp_in x52 (hN _ a50) := (vin l_a50 (m := 4) (by decide) (qr308 r_kv5 r_kv6 r_kv7 hnf r_x9 ph1_S11 ph3_S11 ph1_S18 kk_x17 ph1_S24 i1u29 p_k0u29 p_k1u29 p_k2u29 p_k3u29 c48 r_x52 q_x52))
    refine ⟨i53, ?_⟩
    intro S54 eS54
    have hIn : IV S54 := by rw [eS54]; exact iv10_aI hI o_a4 (rg_nw hG ea4) ea50 o_a50 (by decide)
    have hG := rg_a (jj := 26) (x := x52) eS54 hI ea4 o_a4 ea50 o_a50 (by decide) (h1_one (c := 5) (lo := 0) (hi := 3) (hf := 4) (by decide) (by rw [← d_x52]; exact (qr309 r_kv5 r_kv6 r_kv7 hnf r_x9 ph1_S11 ph3_S11 ph1_S18 kk_x17 ph1_S24 i1u29 p_k0u29 p_k1u29 p_k2u29 p_k3u29 c48 r_x52 q_x52))) (h2_no (y := 0) (by decide)) hG
    have hn := rn_11 eS54 hI o_v0 o_a50 (by decide) hn
    have hI := hIn
    have f0 := fr_A eS54 g0 f0 o_a50 (by decide)
    have d_kv5 := rd_Ik eS54 o_a50 o_a4 (by decide) d_kv5
    have d_kv6 := rd_Ik eS54 o_a50 o_a4 (by decide) d_kv6
    have d_kv7 := rd_Ik eS54 o_a50 o_a4 (by decide) d_kv7
    have d_x52 := rd_Ik eS54 o_a50 o_a4 (by decide) d_x52
    have d_kv44 := rd_Ik eS54 o_a50 o_v0 (by decide) d_kv44
    have d_kv46 := rd_Ik eS54 o_a50 o_v0 (by decide) d_kv46
    have d_kv47 := rd_Ik eS54 o_a50 o_v0 (by decide) d_kv47
    have ea4 := rf_I eS54 ea4
    have ea50 := rf_I eS54 ea50
    have l_a50 := ln_I eS54 l_a50
    have g0 := gr_I eS54 g0
    have o_a4 := ob_I eS54 o_a4
    have o_a50 := ob_I eS54 o_a50
    have o_v0 := ob_I eS54 o_v0
    have el55 : fI S54 a50 x52.toNatClampNeg = x17 := by rw [eS54]; exact u2_self _ _ _ _
    refine ⟨a4, ea4, ?_⟩
    refine ⟨o_a4, ?_⟩
    intro x57 ex57
    have r_x57 : (0 : Int32) ≤ x57 ∧ x57 ≤ (4 : Int32) := by rw [ex57]; exact nu 21 rfl hI o_a4
    have q_x57 : x57 = x52 := ex57.trans d_x52.symm
    have d_x57 := ex57
    intro x58 ex58
    intro S59 eS59
    have hIn : IV S59 := by rw [eS59]; exact iv10_sI hI o_a4 (rg_nw hG ea4) (nu_one (lo := (0 : Int32)) (hi := (4 : Int32)) (by decide) (qr310 r_kv5 r_kv6 r_kv7 hnf r_x9 ph1_S11 ph3_S11 ph1_S18 kk_x17 ph1_S24 i1u29 p_k0u29 p_k1u29 p_k2u29 p_k3u29 c48 r_x52 q_x52 r_x57 q_x57 ex58))
    have hG := rg_inc (c := 5) (y := x57) eS59 hI ea4 o_a4 d_x57.symm (qr311 r_kv5 r_kv6 r_kv7 hnf r_x9 ph1_S11 ph3_S11 ph1_S18 kk_x17 ph1_S24 i1u29 p_k0u29 p_k1u29 p_k2u29 p_k3u29 c48 r_x52 q_x52 r_x57 q_x57 ex58) (qr312 r_kv5 r_kv6 r_kv7 hnf r_x9 ph1_S11 ph3_S11 ph1_S18 kk_x17 ph1_S24 i1u29 p_k0u29 p_k1u29 p_k2u29 p_k3u29 c48 r_x52 q_x52 r_x57 q_x57 ex58) (hn_5 ea50 (by rw [show x57 = x52 from (qr313 r_kv5 r_kv6 r_kv7 hnf r_x9 ph1_S11 ph3_S11 ph1_S18 kk_x17 ph1_S24 i1u29 p_k0u29 p_k1u29 p_k2u29 p_k3u29 c48 r_x52 q_x52 r_x57 q_x57 ex58), el55]; exact ⟨(qr314 r_kv5 r_kv6 r_kv7 hnf r_x9 ph1_S11 ph3_S11 ph1_S18 kk_x17 ph1_S24 i1u29 p_k0u29 p_k1u29 p_k2u29 p_k3u29 c48 r_x52 q_x52 r_x57 q_x57 ex58), (qr315 r_kv5 r_kv6 r_kv7 hnf r_x9 ph1_S11 ph3_S11 ph1_S18 kk_x17 ph1_S24 i1u29 p_k0u29 p_k1u29 p_k2u29 p_k3u29 c48 r_x52 q_x52 r_x57 q_x57 ex58), Or.inr (by rw [← d_kv7]; exact (qr316 r_kv5 r_kv6 r_kv7 hnf r_x9 ph1_S11 ph3_S11 ph1_S18 kk_x17 ph1_S24 i1u29 p_k0u29 p_k1u29 p_k2u29 p_k3u29 c48 r_x52 q_x52 r_x57 q_x57 ex58))⟩)) (fun z _ hz => by rw [eS59] at hz; exact hs_no (by decide) z hz) hG
    have hn := rn_c eS59 (by decide) hn
    have el55 := el_ob eS59 o_a4 o_a50 (by decide) el55
    have hI := hIn
    have f0 := fr_I eS59 g0 f0 o_a4 (by decide)
    have d_kv5 := rd_Ij eS59 (by decide) d_kv5
    have d_kv6 := rd_Ij eS59 (by decide) d_kv6
    have d_kv7 := rd_Ij eS59 (by decide) d_kv7
    have d_kv44 := rd_Ik eS59 o_a4 o_v0 (by decide) d_kv44
    have d_kv46 := rd_Ik eS59 o_a4 o_v0 (by decide) d_kv46
    have d_kv47 := rd_Ik eS59 o_a4 o_v0 (by decide) d_kv47
    have d_x58 := rd_Is eS59 (rfl : x58 = x58)
    have ea4 := rf_I eS59 ea4
    have ea50 := rf_I eS59 ea50
    have l_a50 := ln_I eS59 l_a50
    have g0 := gr_I eS59 g0
    have o_a4 := ob_I eS59 o_a4
    have o_a50 := ob_I eS59 o_a50
    have o_v0 := ob_I eS59 o_v0
    exact hq _ hI g0 f0 ⟨hG, hn, (by have t : kv46 = 5 → 0 < kv47 := (qr317 i1u29 p_k0u29 p_k5u29 c48); rw [d_kv46, d_kv47] at t; exact t), (by have t : kv46 = 5 ∨ ¬ kv2 = 5 := (qr318 r_kv5 r_kv6 r_kv7 hnf r_x9 ph1_S11 ph3_S11 ph1_S18 kk_x17 ph1_S24 i1u29 p_k0u29 p_k1u29 p_k2u29 p_k3u29 c48 r_x52 q_x52 r_x57 q_x57 ex58); rw [di_9, d_kv46] at t; exact t), (by have t : kv1 ≤ kv44 ∧ (kv46 = 4 → kv1 < kv44 ∨ kv2 = 4) := (qr319 r_kv1 r_kv5 r_kv6 r_kv7 hnf r_x9 ph1_S11 r_kv16 ph2_S11 ph3_S11 ph1_S18 ph2_S18 kk_x17 ph1_S24 r_kv28 ph2_S24 i1u29 p_k0u29 p_k1u29 p_k2u29 p_k3u29 p_k4u29 c48 r_x52 q_x52 r_x57 q_x57 ex58); rw [di_8, di_9, d_kv44, d_kv46] at t; exact t)⟩
  · refine ⟨fun c60 => ?_, fun c60 => ?_⟩
    · refine u_X11_readSeen_47 ?_
      refine ⟨o_v0, ?_⟩
      have do60_kv44 := d_kv44
      have do60_kv46 := d_kv46
      have do60_kv47 := d_kv47
      refine m_X11_readWhole hI o_v0 hG (by have t : kv46 = 5 → 0 < kv47 := (qr320 i1u29 p_k0u29 p_k5u29 c48 c60); rw [d_kv46, d_kv47] at t; exact t) (fun x61 S62 hJ g63 fc64 p_x61 => ?_)
      obtain ⟨hG, p_x61, pg0_S62, pg1_S62, pg2_S62⟩ := p_x61
      have hn := rn_fr fc64 g63 hI o_v0 (by decide) hn
      have hI := hJ
      have d_kv5 := d_kv5.trans (fri_at fc64 (by decide) (by decide) o_a4).symm
      have d_kv6 := d_kv6.trans (fri_at fc64 (by decide) (by decide) o_a4).symm
      have d_kv7 := d_kv7.trans (fri_at fc64 (by decide) (by decide) o_a4).symm
      have d_x9 := d_x9.trans (fri_at fc64 (by decide) (by decide) o_a4).symm
      have ea4 := (frr_at fc64 (by decide) (by decide) o_v0).trans ea4
      have f0 := fri_tr (S := S30) g0 f0 fc64 (by decide) (by decide)
      have fL32 := fri_tr (S := S30) gL31 fL32 fc64 (by decide) (by decide)
      have o_a4 := gr_ob g63 o_a4
      have o_v0 := gr_ob g63 o_v0
      have g0 := gr_tr (T := S30) g0 g63
      have gL31 := gr_tr (T := S30) gL31 g63
      obtain ⟨kv65, d_kv65⟩ : ∃ z : Int32, z = fI S62 v0 9 := ⟨_, rfl⟩
      obtain ⟨kv66, d_kv66⟩ : ∃ z : Int32, z = fI S62 v0 13 := ⟨_, rfl⟩
      have ph0_S62 : kv65 = 5 → 0 < kv66 := by rw [d_kv65, d_kv66]; exact pg0_S62
      have ph1_S62 : kv65 = 5 ∨ ¬ kv46 = 5 := by rw [do60_kv46, d_kv65]; exact pg1_S62
      obtain ⟨kv67, d_kv67⟩ : ∃ z : Int32, z = fI S62 v0 8 := ⟨_, rfl⟩
      have r_kv67 : (0 : Int32) ≤ kv67 ∧ kv67 ≤ (900 : Int32) := by rw [d_kv67]; exact nu 25 rfl hI o_v0
      have ph2_S62 : kv44 ≤ kv67 ∧ (kv65 = 4 → kv44 < kv67 ∨ kv46 = 4) := by rw [do60_kv44, do60_kv46, d_kv67, d_kv65]; exact pg2_S62
      intro _
      intro x68 ex68
      have q_x68 : x68 = kv65 := ex68.trans d_kv65.symm
      have d_x68 := ex68
      refine ⟨fun c69 => ?_, fun c69 => ?_⟩
      · refine ⟨a4, ea4, ?_⟩
        refine ⟨o_a4, ?_⟩
        obtain ⟨a71, ea71, o_a71, l_a71⟩ := shl 49 rfl hI o_a4
        refine ⟨a71, ea71, ?_⟩
        refine ⟨a4, ea4, ?_⟩
        refine ⟨o_a4, ?_⟩
        intro x73 ex73
        have r_x73 : (0 : Int32) ≤ x73 ∧ x73 ≤ (4 : Int32) := by rw [ex73]; exact nu 21 rfl hI o_a4
        have q_x73 : x73 = x9 := ex73.trans d_x9.symm
        have d_x73 := ex73
        refine ⟨o_a71, ?_⟩
        have i74 : vp_in (((5 : Int32) * x73) + w37) (hN _ a71) := (vin l_a71 (m := 20) (by decide) (qr321 r_kv5 r_kv6 r_kv7 hnf r_x9 ph1_S11 ph3_S11 ph1_S18 kk_x17 ph1_S24 i1u29 p_k0u29 p_k1u29 p_k2u29 p_k3u29 c48 c60 ph1_S62 q_x68 c69 r_x73 q_x73))
        refine ⟨i74, ?_⟩
        intro S75 eS75
        have hIn : IV S75 := by rw [eS75]; exact iv10_aI hI o_a4 (rg_nw hG ea4) ea71 o_a71 (by decide)
        have hG := rg_a (jj := 27) (x := (((5 : Int32) * x73) + w37)) eS75 hI ea4 o_a4 ea71 o_a71 (by decide) (h1_no (by decide)) (h2_no (y := 0) (by decide)) hG
        have hn := rn_11 eS75 hI o_v0 o_a71 (by decide) hn
        have hI := hIn
        have f0 := fr_A eS75 g0 f0 o_a71 (by decide)
        have fL32 := fr_A eS75 gL31 fL32 o_a71 (by decide)
        have d_kv5 := rd_Ik eS75 o_a71 o_a4 (by decide) d_kv5
        have d_kv6 := rd_Ik eS75 o_a71 o_a4 (by decide) d_kv6
        have d_kv7 := rd_Ik eS75 o_a71 o_a4 (by decide) d_kv7
        have d_x73 := rd_Ik eS75 o_a71 o_a4 (by decide) d_x73
        have d_x68 := rd_Ik eS75 o_a71 o_v0 (by decide) d_x68
        have d_kv66 := rd_Ik eS75 o_a71 o_v0 (by decide) d_kv66
        have d_kv67 := rd_Ik eS75 o_a71 o_v0 (by decide) d_kv67
        have ea4 := rf_I eS75 ea4
        have ea71 := rf_I eS75 ea71
        have l_a71 := ln_I eS75 l_a71
        have g0 := gr_I eS75 g0
        have gL31 := gr_I eS75 gL31
        have o_a4 := ob_I eS75 o_a4
        have o_a71 := ob_I eS75 o_a71
        have o_v0 := ob_I eS75 o_v0
        intro x76 ex76
        exact ih39 _ _ _ _ ⟨hI, gL31, fL32, rfl, rfl, hG, hn, (qr322 i1u29 p_k0u29 c48 c60 ph1_S62 q_x68 c69 ex76), (by rw [← d_x68]; exact (qr323 i1u29 p_k0u29 c48 c60 ph1_S62 q_x68 c69 ex76)), (by rw [← d_x68, ← d_x73]; exact (qr324 r_kv5 r_kv6 r_kv7 hnf r_x9 ph1_S11 ph3_S11 ph1_S18 kk_x17 ph1_S24 i1u29 p_k0u29 p_k1u29 p_k2u29 p_k3u29 c48 c60 ph1_S62 q_x68 c69 r_x73 q_x73 ex76)), (by rw [← d_x68, ← d_kv7]; exact (qr325 r_kv5 r_kv6 r_kv7 hnf r_x9 ph1_S11 ph3_S11 ph1_S18 kk_x17 ph1_S24 i1u29 p_k0u29 p_k1u29 p_k2u29 p_k3u29 c48 c60 ph1_S62 q_x68 c69 r_x73 q_x73 ex76)), (by rw [← d_x68]; exact (qr326 r_kv5 r_kv6 r_kv7 hnf r_x9 ph1_S11 ph3_S11 ph1_S18 kk_x17 ph1_S24 i1u29 p_k0u29 p_k1u29 p_k2u29 p_k3u29 c48 c60 ph1_S62 q_x68 c69 r_x73 q_x73 ex76)), (by rw [← d_kv67, ← d_x68]; exact (qr327 r_kv1 r_kv5 r_kv6 r_kv7 hnf r_x9 ph1_S11 r_kv16 ph2_S11 ph3_S11 ph1_S18 ph2_S18 kk_x17 ph1_S24 r_kv28 ph2_S24 i1u29 p_k0u29 p_k1u29 p_k2u29 p_k3u29 p_k4u29 c48 c60 ph1_S62 r_kv67 ph2_S62 q_x68 c69 r_x73 q_x73 ex76)), (by rw [← d_x68, ← d_kv66]; exact (qr328 i1u29 p_k0u29 p_k5u29 c48 c60 ph0_S62 ph1_S62 q_x68 c69 ex76))⟩ (mu_up (qr329 i1u29 p_k0u29 c48 c60 ph1_S62 q_x68 c69 ex76) (qr330 i1u29 p_k0u29 c48 c60 ph1_S62 q_x68 c69 ex76))
      · exact hq _ hI g0 f0 ⟨hG, hn, (by have t : x68 = 5 → 0 < kv66 := (qr331 i1u29 p_k0u29 p_k5u29 c48 c60 ph0_S62 ph1_S62 q_x68 c69); rw [d_x68, d_kv66] at t; exact t), (by have t : x68 = 5 ∨ ¬ kv2 = 5 := (qr332 r_kv5 r_kv6 r_kv7 hnf r_x9 ph1_S11 ph3_S11 ph1_S18 kk_x17 ph1_S24 i1u29 p_k0u29 p_k1u29 p_k2u29 p_k3u29 c48 c60 ph1_S62 q_x68 c69); rw [di_9, d_x68] at t; exact t), (by have t : kv1 ≤ kv67 ∧ (x68 = 4 → kv1 < kv67 ∨ kv2 = 4) := (qr333 r_kv1 r_kv5 r_kv6 r_kv7 hnf r_x9 ph1_S11 r_kv16 ph2_S11 ph3_S11 ph1_S18 ph2_S18 kk_x17 ph1_S24 r_kv28 ph2_S24 i1u29 p_k0u29 p_k1u29 p_k2u29 p_k3u29 p_k4u29 c48 c60 ph1_S62 r_kv67 ph2_S62 q_x68 c69); rw [di_8, di_9, d_kv67, d_x68] at t; exact t)⟩
    · refine ⟨o_v0, ?_⟩
      have do76_kv44 := d_kv44
      have do76_kv46 := d_kv46
      have do76_kv47 := d_kv47
      refine m_X11_eatsSign hI o_v0 hG (by have t : kv46 = 5 → 0 < kv47 := (qr334 i1u29 p_k0u29 p_k5u29 c48 c60); rw [d_kv46, d_kv47] at t; exact t) (fun x77 S78 hJ g79 fc80 b_x77 p_x77 => ?_)
      obtain ⟨hG, pg0_S78, pg1_S78, pg2_S78, pg3_S78⟩ := p_x77
      have hn := rn_fr fc80 g79 hI o_v0 (by decide) hn
      have hI := hJ
      have d_kv5 := d_kv5.trans (fri_at fc80 (by decide) (by decide) o_a4).symm
      have d_kv6 := d_kv6.trans (fri_at fc80 (by decide) (by decide) o_a4).symm
      have d_kv7 := d_kv7.trans (fri_at fc80 (by decide) (by decide) o_a4).symm
      have d_x9 := d_x9.trans (fri_at fc80 (by decide) (by decide) o_a4).symm
      have d_kv47 := d_kv47.trans (fri_at fc80 (by decide) (by decide) o_v0).symm
      have ea4 := (frr_at fc80 (by decide) (by decide) o_v0).trans ea4
      have f0 := fri_tr (S := S30) g0 f0 fc80 (by decide) (by decide)
      have fL32 := fri_tr (S := S30) gL31 fL32 fc80 (by decide) (by decide)
      have o_a4 := gr_ob g79 o_a4
      have o_v0 := gr_ob g79 o_v0
      have g0 := gr_tr (T := S30) g0 g79
      have gL31 := gr_tr (T := S30) gL31 g79
      obtain ⟨kv81, d_kv81⟩ : ∃ z : Int32, z = fI S78 v0 9 := ⟨_, rfl⟩
      have ph0_S78 : kv81 = 5 → 0 < kv47 := by rw [d_kv81, d_kv47]; exact pg0_S78
      have ph1_S78 : kv81 = 5 ∨ ¬ kv46 = 5 := by rw [do76_kv46, d_kv81]; exact pg1_S78
      obtain ⟨kv82, d_kv82⟩ : ∃ z : Int32, z = fI S78 v0 8 := ⟨_, rfl⟩
      have r_kv82 : (0 : Int32) ≤ kv82 ∧ kv82 ≤ (900 : Int32) := by rw [d_kv82]; exact nu 25 rfl hI o_v0
      have ph2_S78 : kv44 ≤ kv82 ∧ (kv81 = 4 → kv44 < kv82 ∨ kv46 = 4) := by rw [do76_kv44, do76_kv46, d_kv82, d_kv81]; exact pg2_S78
      have ph3_S78 : x77 = 0 ∨ kv46 = 4 := by rw [do76_kv46]; exact pg3_S78
      intro _ _
      have bb_x77 : x77 = 0 ∨ x77 = 1 := b_x77
      refine ⟨fun c83 => ?_, fun c83 => ?_⟩
      · refine u_X11_readSeen_47 ?_
        refine ⟨o_v0, ?_⟩
        have do83_kv82 := d_kv82
        have do83_kv81 := d_kv81
        have do83_kv47 := d_kv47
        refine m_X11_readWhole hI o_v0 hG (by have t : kv81 = 5 → 0 < kv47 := (qr335 i1u29 p_k0u29 p_k5u29 c48 c60 ph0_S78 ph1_S78 ph3_S78 bb_x77 c83); rw [d_kv81, d_kv47] at t; exact t) (fun x84 S85 hJ g86 fc87 p_x84 => ?_)
        obtain ⟨hG, p_x84, pg0_S85, pg1_S85, pg2_S85⟩ := p_x84
        have hn := rn_fr fc87 g86 hI o_v0 (by decide) hn
        have hI := hJ
        have d_kv5 := d_kv5.trans (fri_at fc87 (by decide) (by decide) o_a4).symm
        have d_kv6 := d_kv6.trans (fri_at fc87 (by decide) (by decide) o_a4).symm
        have d_kv7 := d_kv7.trans (fri_at fc87 (by decide) (by decide) o_a4).symm
        have d_x9 := d_x9.trans (fri_at fc87 (by decide) (by decide) o_a4).symm
        have ea4 := (frr_at fc87 (by decide) (by decide) o_v0).trans ea4
        have f0 := fri_tr (S := S78) g0 f0 fc87 (by decide) (by decide)
        have fL32 := fri_tr (S := S78) gL31 fL32 fc87 (by decide) (by decide)
        have o_a4 := gr_ob g86 o_a4
        have o_v0 := gr_ob g86 o_v0
        have g0 := gr_tr (T := S78) g0 g86
        have gL31 := gr_tr (T := S78) gL31 g86
        obtain ⟨kv88, d_kv88⟩ : ∃ z : Int32, z = fI S85 v0 9 := ⟨_, rfl⟩
        obtain ⟨kv89, d_kv89⟩ : ∃ z : Int32, z = fI S85 v0 13 := ⟨_, rfl⟩
        have ph0_S85 : kv88 = 5 → 0 < kv89 := by rw [d_kv88, d_kv89]; exact pg0_S85
        have ph1_S85 : kv88 = 5 ∨ ¬ kv81 = 5 := by rw [do83_kv81, d_kv88]; exact pg1_S85
        obtain ⟨kv90, d_kv90⟩ : ∃ z : Int32, z = fI S85 v0 8 := ⟨_, rfl⟩
        have r_kv90 : (0 : Int32) ≤ kv90 ∧ kv90 ≤ (900 : Int32) := by rw [d_kv90]; exact nu 25 rfl hI o_v0
        have ph2_S85 : kv82 ≤ kv90 ∧ (kv88 = 4 → kv82 < kv90 ∨ kv81 = 4) := by rw [do83_kv82, do83_kv81, d_kv90, d_kv88]; exact pg2_S85
        intro _
        intro x91 ex91
        have q_x91 : x91 = kv88 := ex91.trans d_kv88.symm
        have d_x91 := ex91
        refine ⟨fun c92 => ?_, fun c92 => ?_⟩
        · refine ⟨a4, ea4, ?_⟩
          refine ⟨o_a4, ?_⟩
          obtain ⟨a94, ea94, o_a94, l_a94⟩ := shl 49 rfl hI o_a4
          refine ⟨a94, ea94, ?_⟩
          refine ⟨a4, ea4, ?_⟩
          refine ⟨o_a4, ?_⟩
          intro x96 ex96
          have r_x96 : (0 : Int32) ≤ x96 ∧ x96 ≤ (4 : Int32) := by rw [ex96]; exact nu 21 rfl hI o_a4
          have q_x96 : x96 = x9 := ex96.trans d_x9.symm
          have d_x96 := ex96
          refine ⟨o_a94, ?_⟩
          have i97 : vp_in (((5 : Int32) * x96) + w37) (hN _ a94) := (vin l_a94 (m := 20) (by decide) (qr336 r_kv5 r_kv6 r_kv7 hnf r_x9 ph1_S11 ph3_S11 ph1_S18 kk_x17 ph1_S24 i1u29 p_k0u29 p_k1u29 p_k2u29 p_k3u29 c48 c60 ph1_S78 ph3_S78 bb_x77 c83 ph1_S85 q_x91 c92 r_x96 q_x96))
          refine ⟨i97, ?_⟩
          intro S98 eS98
          have hIn : IV S98 := by rw [eS98]; exact iv10_aI hI o_a4 (rg_nw hG ea4) ea94 o_a94 (by decide)
          have hG := rg_a (jj := 27) (x := (((5 : Int32) * x96) + w37)) eS98 hI ea4 o_a4 ea94 o_a94 (by decide) (h1_no (by decide)) (h2_no (y := 0) (by decide)) hG
          have hn := rn_11 eS98 hI o_v0 o_a94 (by decide) hn
          have hI := hIn
          have f0 := fr_A eS98 g0 f0 o_a94 (by decide)
          have fL32 := fr_A eS98 gL31 fL32 o_a94 (by decide)
          have d_kv5 := rd_Ik eS98 o_a94 o_a4 (by decide) d_kv5
          have d_kv6 := rd_Ik eS98 o_a94 o_a4 (by decide) d_kv6
          have d_kv7 := rd_Ik eS98 o_a94 o_a4 (by decide) d_kv7
          have d_x96 := rd_Ik eS98 o_a94 o_a4 (by decide) d_x96
          have d_x91 := rd_Ik eS98 o_a94 o_v0 (by decide) d_x91
          have d_kv89 := rd_Ik eS98 o_a94 o_v0 (by decide) d_kv89
          have d_kv90 := rd_Ik eS98 o_a94 o_v0 (by decide) d_kv90
          have ea4 := rf_I eS98 ea4
          have ea94 := rf_I eS98 ea94
          have l_a94 := ln_I eS98 l_a94
          have g0 := gr_I eS98 g0
          have gL31 := gr_I eS98 gL31
          have o_a4 := ob_I eS98 o_a4
          have o_a94 := ob_I eS98 o_a94
          have o_v0 := ob_I eS98 o_v0
          intro x99 ex99
          exact ih39 _ _ _ _ ⟨hI, gL31, fL32, rfl, rfl, hG, hn, (qr337 i1u29 p_k0u29 c48 c60 ph1_S78 ph3_S78 bb_x77 c83 ph1_S85 q_x91 c92 ex99), (by rw [← d_x91]; exact (qr338 i1u29 p_k0u29 c48 c60 ph1_S78 ph3_S78 bb_x77 c83 ph1_S85 q_x91 c92 ex99)), (by rw [← d_x91, ← d_x96]; exact (qr339 r_kv5 r_kv6 r_kv7 hnf r_x9 ph1_S11 ph3_S11 ph1_S18 kk_x17 ph1_S24 i1u29 p_k0u29 p_k1u29 p_k2u29 p_k3u29 c48 c60 ph1_S78 ph3_S78 bb_x77 c83 ph1_S85 q_x91 c92 r_x96 q_x96 ex99)), (by rw [← d_x91, ← d_kv7]; exact (qr340 r_kv5 r_kv6 r_kv7 hnf r_x9 ph1_S11 ph3_S11 ph1_S18 kk_x17 ph1_S24 i1u29 p_k0u29 p_k1u29 p_k2u29 p_k3u29 c48 c60 ph1_S78 ph3_S78 bb_x77 c83 ph1_S85 q_x91 c92 r_x96 q_x96 ex99)), (by rw [← d_x91]; exact (qr341 r_kv5 r_kv6 r_kv7 hnf r_x9 ph1_S11 ph3_S11 ph1_S18 kk_x17 ph1_S24 i1u29 p_k0u29 p_k1u29 p_k2u29 p_k3u29 c48 c60 ph1_S78 ph3_S78 bb_x77 c83 ph1_S85 q_x91 c92 r_x96 q_x96 ex99)), (by rw [← d_kv90, ← d_x91]; exact (qr342 r_kv1 r_kv5 r_kv6 r_kv7 hnf r_x9 ph1_S11 r_kv16 ph2_S11 ph3_S11 ph1_S18 ph2_S18 kk_x17 ph1_S24 r_kv28 ph2_S24 i1u29 p_k0u29 p_k1u29 p_k2u29 p_k3u29 p_k4u29 c48 c60 ph1_S78 r_kv82 ph2_S78 ph3_S78 bb_x77 c83 ph1_S85 r_kv90 ph2_S85 q_x91 c92 r_x96 q_x96 ex99)), (by rw [← d_x91, ← d_kv89]; exact (qr343 i1u29 p_k0u29 p_k5u29 c48 c60 ph0_S78 ph1_S78 ph3_S78 bb_x77 c83 ph0_S85 ph1_S85 q_x91 c92 ex99))⟩ (mu_up (qr344 i1u29 p_k0u29 c48 c60 ph1_S78 ph3_S78 bb_x77 c83 ph1_S85 q_x91 c92 ex99) (qr345 i1u29 p_k0u29 c48 c60 ph1_S78 ph3_S78 bb_x77 c83 ph1_S85 q_x91 c92 ex99))
        · exact hq _ hI g0 f0 ⟨hG, hn, (by have t : x91 = 5 → 0 < kv89 := (qr346 i1u29 p_k0u29 p_k5u29 c48 c60 ph0_S78 ph1_S78 ph3_S78 bb_x77 c83 ph0_S85 ph1_S85 q_x91 c92); rw [d_x91, d_kv89] at t; exact t), (by have t : x91 = 5 ∨ ¬ kv2 = 5 := (qr347 r_kv5 r_kv6 r_kv7 hnf r_x9 ph1_S11 ph3_S11 ph1_S18 kk_x17 ph1_S24 i1u29 p_k0u29 p_k1u29 p_k2u29 p_k3u29 c48 c60 ph1_S78 ph3_S78 bb_x77 c83 ph1_S85 q_x91 c92); rw [di_9, d_x91] at t; exact t), (by have t : kv1 ≤ kv90 ∧ (x91 = 4 → kv1 < kv90 ∨ kv2 = 4) := (qr348 r_kv1 r_kv5 r_kv6 r_kv7 hnf r_x9 ph1_S11 r_kv16 ph2_S11 ph3_S11 ph1_S18 ph2_S18 kk_x17 ph1_S24 r_kv28 ph2_S24 i1u29 p_k0u29 p_k1u29 p_k2u29 p_k3u29 p_k4u29 c48 c60 ph1_S78 r_kv82 ph2_S78 ph3_S78 bb_x77 c83 ph1_S85 r_kv90 ph2_S85 q_x91 c92); rw [di_8, di_9, d_kv90, d_x91] at t; exact t)⟩
      · have do99_kv82 := d_kv82
        have do99_kv81 := d_kv81
        have do99_kv47 := d_kv47
        refine m_X11_flaw hI o_v0 (qr349 i1u29 p_k0u29 c48 c60 ph1_S78 ph3_S78 bb_x77 c83) hG (by have t : kv81 = 5 → 0 < kv47 := (qr350 i1u29 p_k0u29 p_k5u29 c48 c60 ph0_S78 ph1_S78 ph3_S78 bb_x77 c83); rw [d_kv81, d_kv47] at t; exact t) (fun S101 hJ g102 fc103 p_S101 => ?_)
        obtain ⟨hG, pg0_S101, pg1_S101, pg2_S101, pg3_S101⟩ := p_S101
        have hn := rn_fr fc103 g102 hI o_v0 (by decide) hn
        have hI := hJ
        have d_kv5 := d_kv5.trans (fri_at fc103 (by decide) (by decide) o_a4).symm
        have d_kv6 := d_kv6.trans (fri_at fc103 (by decide) (by decide) o_a4).symm
        have d_kv7 := d_kv7.trans (fri_at fc103 (by decide) (by decide) o_a4).symm
        have d_x9 := d_x9.trans (fri_at fc103 (by decide) (by decide) o_a4).symm
        have d_kv82 := d_kv82.trans (fri_at fc103 (by decide) (by decide) o_v0).symm
        have ea4 := (frr_at fc103 (by decide) (by decide) o_v0).trans ea4
        have f0 := fri_tr (S := S78) g0 f0 fc103 (by decide) (by decide)
        have fL32 := fri_tr (S := S78) gL31 fL32 fc103 (by decide) (by decide)
        have o_a4 := gr_ob g102 o_a4
        have o_v0 := gr_ob g102 o_v0
        have g0 := gr_tr (T := S78) g0 g102
        have gL31 := gr_tr (T := S78) gL31 g102
        obtain ⟨kv104, d_kv104⟩ : ∃ z : Int32, z = fI S101 v0 9 := ⟨_, rfl⟩
        obtain ⟨kv105, d_kv105⟩ : ∃ z : Int32, z = fI S101 v0 13 := ⟨_, rfl⟩
        have ph0_S101 : kv104 = 5 → 0 < kv105 := by rw [d_kv104, d_kv105]; exact pg0_S101
        have ph1_S101 : kv104 = 5 ∨ ¬ kv81 = 5 := by rw [do99_kv81, d_kv104]; exact pg1_S101
        have ph2_S101 : kv82 ≤ kv82 ∧ (kv104 = 4 → kv82 < kv82 ∨ kv81 = 4) := by rw [d_kv82, do99_kv81, d_kv104]; exact pg2_S101
        have ph3_S101 : kv104 = 5 := by rw [d_kv104]; exact pg3_S101
        intro _
        refine u_X11_readSeen_47 ?_
        refine ⟨o_v0, ?_⟩
        have do105_kv82 := d_kv82
        have do105_kv104 := d_kv104
        have do105_kv105 := d_kv105
        refine m_X11_readWhole hI o_v0 hG (by have t : kv104 = 5 → 0 < kv105 := (qr351 i1u29 p_k0u29 p_k5u29 c48 c60 ph0_S78 ph1_S78 ph3_S78 bb_x77 c83 ph0_S101 ph1_S101 ph3_S101); rw [d_kv104, d_kv105] at t; exact t) (fun x106 S107 hJ g108 fc109 p_x106 => ?_)
        obtain ⟨hG, p_x106, pg0_S107, pg1_S107, pg2_S107⟩ := p_x106
        have hn := rn_fr fc109 g108 hI o_v0 (by decide) hn
        have hI := hJ
        have d_kv5 := d_kv5.trans (fri_at fc109 (by decide) (by decide) o_a4).symm
        have d_kv6 := d_kv6.trans (fri_at fc109 (by decide) (by decide) o_a4).symm
        have d_kv7 := d_kv7.trans (fri_at fc109 (by decide) (by decide) o_a4).symm
        have d_x9 := d_x9.trans (fri_at fc109 (by decide) (by decide) o_a4).symm
        have ea4 := (frr_at fc109 (by decide) (by decide) o_v0).trans ea4
        have f0 := fri_tr (S := S101) g0 f0 fc109 (by decide) (by decide)
        have fL32 := fri_tr (S := S101) gL31 fL32 fc109 (by decide) (by decide)
        have o_a4 := gr_ob g108 o_a4
        have o_v0 := gr_ob g108 o_v0
        have g0 := gr_tr (T := S101) g0 g108
        have gL31 := gr_tr (T := S101) gL31 g108
        obtain ⟨kv110, d_kv110⟩ : ∃ z : Int32, z = fI S107 v0 9 := ⟨_, rfl⟩
        obtain ⟨kv111, d_kv111⟩ : ∃ z : Int32, z = fI S107 v0 13 := ⟨_, rfl⟩
        have ph0_S107 : kv110 = 5 → 0 < kv111 := by rw [d_kv110, d_kv111]; exact pg0_S107
        have ph1_S107 : kv110 = 5 ∨ ¬ kv104 = 5 := by rw [do105_kv104, d_kv110]; exact pg1_S107
        obtain ⟨kv112, d_kv112⟩ : ∃ z : Int32, z = fI S107 v0 8 := ⟨_, rfl⟩
        have r_kv112 : (0 : Int32) ≤ kv112 ∧ kv112 ≤ (900 : Int32) := by rw [d_kv112]; exact nu 25 rfl hI o_v0
        have ph2_S107 : kv82 ≤ kv112 ∧ (kv110 = 4 → kv82 < kv112 ∨ kv104 = 4) := by rw [do105_kv82, do105_kv104, d_kv112, d_kv110]; exact pg2_S107
        intro _
        intro x113 ex113
        have q_x113 : x113 = kv110 := ex113.trans d_kv110.symm
        have d_x113 := ex113
        refine ⟨fun c114 => ?_, fun c114 => ?_⟩
        · refine ⟨a4, ea4, ?_⟩
          refine ⟨o_a4, ?_⟩
          obtain ⟨a116, ea116, o_a116, l_a116⟩ := shl 49 rfl hI o_a4
          refine ⟨a116, ea116, ?_⟩
          refine ⟨a4, ea4, ?_⟩
          refine ⟨o_a4, ?_⟩
          intro x118 ex118
          have r_x118 : (0 : Int32) ≤ x118 ∧ x118 ≤ (4 : Int32) := by rw [ex118]; exact nu 21 rfl hI o_a4
          have q_x118 : x118 = x9 := ex118.trans d_x9.symm
          have d_x118 := ex118
          refine ⟨o_a116, ?_⟩
          have i119 : vp_in (((5 : Int32) * x118) + w37) (hN _ a116) := (vin l_a116 (m := 20) (by decide) (qr352 r_kv5 r_kv6 r_kv7 hnf r_x9 ph1_S11 ph3_S11 ph1_S18 kk_x17 ph1_S24 i1u29 p_k0u29 p_k1u29 p_k2u29 p_k3u29 c48 c60 ph1_S78 ph3_S78 bb_x77 c83 ph1_S101 ph3_S101 ph1_S107 q_x113 c114 r_x118 q_x118))
          refine ⟨i119, ?_⟩
          intro S120 eS120
          have hIn : IV S120 := by rw [eS120]; exact iv10_aI hI o_a4 (rg_nw hG ea4) ea116 o_a116 (by decide)
          have hG := rg_a (jj := 27) (x := (((5 : Int32) * x118) + w37)) eS120 hI ea4 o_a4 ea116 o_a116 (by decide) (h1_no (by decide)) (h2_no (y := 0) (by decide)) hG
          have hn := rn_11 eS120 hI o_v0 o_a116 (by decide) hn
          have hI := hIn
          have f0 := fr_A eS120 g0 f0 o_a116 (by decide)
          have fL32 := fr_A eS120 gL31 fL32 o_a116 (by decide)
          have d_kv5 := rd_Ik eS120 o_a116 o_a4 (by decide) d_kv5
          have d_kv6 := rd_Ik eS120 o_a116 o_a4 (by decide) d_kv6
          have d_kv7 := rd_Ik eS120 o_a116 o_a4 (by decide) d_kv7
          have d_x118 := rd_Ik eS120 o_a116 o_a4 (by decide) d_x118
          have d_x113 := rd_Ik eS120 o_a116 o_v0 (by decide) d_x113
          have d_kv111 := rd_Ik eS120 o_a116 o_v0 (by decide) d_kv111
          have d_kv112 := rd_Ik eS120 o_a116 o_v0 (by decide) d_kv112
          have ea4 := rf_I eS120 ea4
          have ea116 := rf_I eS120 ea116
          have l_a116 := ln_I eS120 l_a116
          have g0 := gr_I eS120 g0
          have gL31 := gr_I eS120 gL31
          have o_a116 := ob_I eS120 o_a116
          have o_a4 := ob_I eS120 o_a4
          have o_v0 := ob_I eS120 o_v0
          intro x121 ex121
          exact ih39 _ _ _ _ ⟨hI, gL31, fL32, rfl, rfl, hG, hn, (qr353 i1u29 p_k0u29 c48 c60 ph1_S78 ph3_S78 bb_x77 c83 ph1_S101 ph3_S101 ph1_S107 q_x113 c114 ex121), (by rw [← d_x113]; exact (qr354 i1u29 p_k0u29 c48 c60 ph1_S78 ph3_S78 bb_x77 c83 ph1_S101 ph3_S101 ph1_S107 q_x113 c114 ex121)), (by rw [← d_x113, ← d_x118]; exact (qr355 r_kv5 r_kv6 r_kv7 hnf r_x9 ph1_S11 ph3_S11 ph1_S18 kk_x17 ph1_S24 i1u29 p_k0u29 p_k1u29 p_k2u29 p_k3u29 c48 c60 ph1_S78 ph3_S78 bb_x77 c83 ph1_S101 ph3_S101 ph1_S107 q_x113 c114 r_x118 q_x118 ex121)), (by rw [← d_x113, ← d_kv7]; exact (qr356 r_kv5 r_kv6 r_kv7 hnf r_x9 ph1_S11 ph3_S11 ph1_S18 kk_x17 ph1_S24 i1u29 p_k0u29 p_k1u29 p_k2u29 p_k3u29 c48 c60 ph1_S78 ph3_S78 bb_x77 c83 ph1_S101 ph3_S101 ph1_S107 q_x113 c114 r_x118 q_x118 ex121)), (by rw [← d_x113]; exact (qr357 r_kv5 r_kv6 r_kv7 hnf r_x9 ph1_S11 ph3_S11 ph1_S18 kk_x17 ph1_S24 i1u29 p_k0u29 p_k1u29 p_k2u29 p_k3u29 c48 c60 ph1_S78 ph3_S78 bb_x77 c83 ph1_S101 ph3_S101 ph1_S107 q_x113 c114 r_x118 q_x118 ex121)), (by rw [← d_kv112, ← d_x113]; exact (qr358 r_kv1 r_kv5 r_kv6 r_kv7 hnf r_x9 ph1_S11 r_kv16 ph2_S11 ph3_S11 ph1_S18 ph2_S18 kk_x17 ph1_S24 r_kv28 ph2_S24 i1u29 p_k0u29 p_k1u29 p_k2u29 p_k3u29 p_k4u29 c48 c60 ph1_S78 r_kv82 ph2_S78 ph3_S78 bb_x77 c83 ph1_S101 ph2_S101 ph3_S101 ph1_S107 r_kv112 ph2_S107 q_x113 c114 r_x118 q_x118 ex121)), (by rw [← d_x113, ← d_kv111]; exact (qr359 i1u29 p_k0u29 p_k5u29 c48 c60 ph0_S78 ph1_S78 ph3_S78 bb_x77 c83 ph0_S101 ph1_S101 ph3_S101 ph0_S107 ph1_S107 q_x113 c114 ex121))⟩ (mu_up (qr360 i1u29 p_k0u29 c48 c60 ph1_S78 ph3_S78 bb_x77 c83 ph1_S101 ph3_S101 ph1_S107 q_x113 c114 ex121) (qr361 i1u29 p_k0u29 c48 c60 ph1_S78 ph3_S78 bb_x77 c83 ph1_S101 ph3_S101 ph1_S107 q_x113 c114 ex121))
        · exact hq _ hI g0 f0 ⟨hG, hn, (by have t : x113 = 5 → 0 < kv111 := (qr362 i1u29 p_k0u29 p_k5u29 c48 c60 ph0_S78 ph1_S78 ph3_S78 bb_x77 c83 ph0_S101 ph1_S101 ph3_S101 ph0_S107 ph1_S107 q_x113 c114); rw [d_x113, d_kv111] at t; exact t), (by have t : x113 = 5 ∨ ¬ kv2 = 5 := (qr363 r_kv5 r_kv6 r_kv7 hnf r_x9 ph1_S11 ph3_S11 ph1_S18 kk_x17 ph1_S24 i1u29 p_k0u29 p_k1u29 p_k2u29 p_k3u29 c48 c60 ph1_S78 ph3_S78 bb_x77 c83 ph1_S101 ph3_S101 ph1_S107 q_x113 c114); rw [di_9, d_x113] at t; exact t), (by have t : kv1 ≤ kv112 ∧ (x113 = 4 → kv1 < kv112 ∨ kv2 = 4) := (qr364 r_kv1 r_kv5 r_kv6 r_kv7 hnf r_x9 ph1_S11 r_kv16 ph2_S11 ph3_S11 ph1_S18 ph2_S18 kk_x17 ph1_S24 r_kv28 ph2_S24 i1u29 p_k0u29 p_k1u29 p_k2u29 p_k3u29 p_k4u29 c48 c60 ph1_S78 r_kv82 ph2_S78 ph3_S78 bb_x77 c83 ph1_S101 ph2_S101 ph3_S101 ph1_S107 r_kv112 ph2_S107 q_x113 c114); rw [di_8, di_9, d_kv112, d_x113] at t; exact t)⟩
set_option maxHeartbeats 4000000 in
set_option maxRecDepth 20000 in
theorem m_X11_readWalker {v0 : Nat} {Q : HS → Prop} {S : HS} (hI : IV S) (o_v0 : ob S v0 11)    (hG : RG S v0) (hn : RN S v0) (hO : fI S v0 9 = 5 → 0 < fI S v0 13) (hq : ∀ (T : HS), IV T → Gr S T → FRI [(10, 4), (10, 6), (11, 8), (11, 9), (11, 10), (11, 11), (11, 12), (11, 13), (11, 14)] [] S T → (RG T v0) ∧ (RN T v0) ∧ (fI T v0 9 = 5 → 0 < fI T v0 13) ∧ (fI T v0 9 = 5 ∨ ¬ fI S v0 9 = 5) ∧ (fI S v0 8 ≤ fI T v0 8 ∧ (fI T v0 9 = 4 → fI S v0 8 < fI T v0 8 ∨ fI S v0 9 = 4)) → Q T) : P_X11_readWalker v0 Q S := by
  have g0 := gr_rf S
  have f0 := fri_rf [(10, 4), (10, 6), (11, 8), (11, 9), (11, 10), (11, 11), (11, 12), (11, 13), (11, 14)] [] S
  obtain ⟨kv1, d_kv1⟩ : ∃ z : Int32, z = fI S v0 8 := ⟨_, rfl⟩
  have r_kv1 : (0 : Int32) ≤ kv1 ∧ kv1 ≤ (900 : Int32) := by rw [d_kv1]; exact nu 25 rfl hI o_v0
  have di_8 := d_kv1
  obtain ⟨kv2, d_kv2⟩ : ∃ z : Int32, z = fI S v0 9 := ⟨_, rfl⟩
  have di_9 := d_kv2
  obtain ⟨kv3, d_kv3⟩ : ∃ z : Int32, z = fI S v0 13 := ⟨_, rfl⟩
  have di_13 := d_kv3
  have hO : kv2 = 5 → 0 < kv3 := by rw [d_kv2, d_kv3]; exact hO
  obtain ⟨a4, ea4, o_a4, -⟩ := id hG
  obtain ⟨kv5, d_kv5⟩ : ∃ z : Int32, z = fI S a4 6 := ⟨_, rfl⟩
  have r_kv5 : (0 : Int32) ≤ kv5 ∧ kv5 ≤ (12 : Int32) := by rw [d_kv5]; exact nu 22 rfl hI o_a4
  obtain ⟨kv6, d_kv6⟩ : ∃ z : Int32, z = fI S a4 2 := ⟨_, rfl⟩
  have r_kv6 : (0 : Int32) ≤ kv6 ∧ kv6 ≤ (8 : Int32) := by rw [d_kv6]; exact nu 18 rfl hI o_a4
  obtain ⟨kv7, d_kv7⟩ : ∃ z : Int32, z = fI S a4 4 := ⟨_, rfl⟩
  have r_kv7 : (0 : Int32) ≤ kv7 ∧ kv7 ≤ (4 : Int32) := by rw [d_kv7]; exact nu 20 rfl hI o_a4
  have hnf : kv5 = kv6 + kv7 := by rw [d_kv5, d_kv6, d_kv7]; exact hn _ ea4
  refine u_X11_readWalker ?_
  refine u_X11_readWalker_0 ?_
  refine ⟨o_v0, ?_⟩
  refine ⟨a4, ea4, ?_⟩
  refine ⟨o_a4, ?_⟩
  intro x9 ex9
  have r_x9 : (0 : Int32) ≤ x9 ∧ x9 ≤ (4 : Int32) := by rw [ex9]; exact nu 20 rfl hI o_a4
  have q_x9 : x9 = kv7 := ex9.trans d_kv7.symm
  have d_x9 := ex9
  have do9_kv1 := d_kv1
  have do9_kv2 := d_kv2
  have do9_kv3 := d_kv3
  refine m_X11_begins hI o_v0 hG (by have t : kv2 = 5 → 0 < kv3 := (qr1 hO); rw [d_kv2, d_kv3] at t; exact t) (fun S11 hJ g12 fc13 p_S11 => ?_)
  obtain ⟨hG, pg0_S11, pg1_S11, pg2_S11, pg3_S11⟩ := p_S11
  have hn := rn_fr fc13 g12 hI o_v0 (by decide) hn
  have hI := hJ
  have d_kv5 := d_kv5.trans (fri_at fc13 (by decide) (by decide) o_a4).symm
  have d_kv6 := d_kv6.trans (fri_at fc13 (by decide) (by decide) o_a4).symm
  have d_x9 := d_x9.trans (fri_at fc13 (by decide) (by decide) o_a4).symm
  have ea4 := (frr_at fc13 (by decide) (by decide) o_v0).trans ea4
  have f0 := fri_tr (S := S) g0 f0 fc13 (by decide) (by decide)
  have o_a4 := gr_ob g12 o_a4
  have o_v0 := gr_ob g12 o_v0
  have g0 := gr_tr (T := S) g0 g12
  obtain ⟨kv14, d_kv14⟩ : ∃ z : Int32, z = fI S11 v0 9 := ⟨_, rfl⟩
  obtain ⟨kv15, d_kv15⟩ : ∃ z : Int32, z = fI S11 v0 13 := ⟨_, rfl⟩
  have ph0_S11 : kv14 = 5 → 0 < kv15 := by rw [d_kv14, d_kv15]; exact pg0_S11
  have ph1_S11 : kv14 = 5 ∨ ¬ kv2 = 5 := by rw [do9_kv2, d_kv14]; exact pg1_S11
  obtain ⟨kv16, d_kv16⟩ : ∃ z : Int32, z = fI S11 v0 8 := ⟨_, rfl⟩
  have r_kv16 : (0 : Int32) ≤ kv16 ∧ kv16 ≤ (900 : Int32) := by rw [d_kv16]; exact nu 25 rfl hI o_v0
  have ph2_S11 : kv1 ≤ kv16 ∧ (kv14 = 4 → kv1 < kv16 ∨ kv2 = 4) := by rw [do9_kv1, do9_kv2, d_kv16, d_kv14]; exact pg2_S11
  have ph3_S11 : kv14 = 5 ∨ ¬ x9 = (4 : Int32) := by rw [d_kv14]; exact pg3_S11
  intro _
  have do16_kv16 := d_kv16
  have do16_kv14 := d_kv14
  have do16_kv15 := d_kv15
  refine m_X11_readFresh hI o_v0 hG (by have t : kv14 = 5 → 0 < kv15 := (qr82 hO r_kv5 r_kv6 r_kv7 hnf r_x9 q_x9 ph0_S11 ph1_S11 ph3_S11); rw [d_kv14, d_kv15] at t; exact t) (fun x17 S18 hJ g19 fc20 p_x17 => ?_)
  obtain ⟨hG, pg0_S18, pg1_S18, pg2_S18⟩ := p_x17
  have hn := rn_fr fc20 g19 hI o_v0 (by decide) hn
  have hI := hJ
  have d_kv5 := d_kv5.trans (fri_at fc20 (by decide) (by decide) o_a4).symm
  have d_kv6 := d_kv6.trans (fri_at fc20 (by decide) (by decide) o_a4).symm
  have d_x9 := d_x9.trans (fri_at fc20 (by decide) (by decide) o_a4).symm
  have ea4 := (frr_at fc20 (by decide) (by decide) o_v0).trans ea4
  have f0 := fri_tr (S := S11) g0 f0 fc20 (by decide) (by decide)
  have o_a4 := gr_ob g19 o_a4
  have o_v0 := gr_ob g19 o_v0
  have g0 := gr_tr (T := S11) g0 g19
  obtain ⟨kv21, d_kv21⟩ : ∃ z : Int32, z = fI S18 v0 9 := ⟨_, rfl⟩
  obtain ⟨kv22, d_kv22⟩ : ∃ z : Int32, z = fI S18 v0 13 := ⟨_, rfl⟩
  have ph0_S18 : kv21 = 5 → 0 < kv22 := by rw [d_kv21, d_kv22]; exact pg0_S18
  have ph1_S18 : kv21 = 5 ∨ ¬ kv14 = 5 := by rw [do16_kv14, d_kv21]; exact pg1_S18
  obtain ⟨kv23, d_kv23⟩ : ∃ z : Int32, z = fI S18 v0 8 := ⟨_, rfl⟩
  have r_kv23 : (0 : Int32) ≤ kv23 ∧ kv23 ≤ (900 : Int32) := by rw [d_kv23]; exact nu 25 rfl hI o_v0
  have ph2_S18 : kv16 ≤ kv23 ∧ (kv21 = 4 → kv16 < kv23 ∨ kv14 = 4) := by rw [do16_kv16, do16_kv14, d_kv23, d_kv21]; exact pg2_S18
  intro _
  refine m_X11_isWord hI o_v0 (by decide) (fun x24 S25 hI2 g26 b_x24 p_x24 => ?_)
  obtain ⟨z_S25, p_x24⟩ := p_x24
  subst z_S25
  intro _ _
  have bb_x24 : x24 = 0 ∨ x24 = 1 := b_x24
  have iw_x24 : x24 = 0 ∨ kv21 = 2 := by rw [d_kv21]; exact p_x24
  refine ⟨fun c28 => ?_, fun c28 => ?_⟩
  · refine m_X11_isWord hI o_v0 (by decide) (fun x29 S30 hI2 g31 b_x29 p_x29 => ?_)
    obtain ⟨z_S30, p_x29⟩ := p_x29
    subst z_S30
    intro _ _
    have bb_x29 : x29 = 0 ∨ x29 = 1 := b_x29
    have iw_x29 : x29 = 0 ∨ kv21 = 2 := by rw [d_kv21]; exact p_x29
    refine ⟨fun c33 => ?_, fun c33 => ?_⟩
    · refine m_X11_isWord hI o_v0 (by decide) (fun x34 S35 hI2 g36 b_x34 p_x34 => ?_)
      obtain ⟨z_S35, p_x34⟩ := p_x34
      subst z_S35
      intro _ _
      have bb_x34 : x34 = 0 ∨ x34 = 1 := b_x34
      have iw_x34 : x34 = 0 ∨ kv21 = 2 := by rw [d_kv21]; exact p_x34
      refine ⟨fun c38 => ?_, fun c38 => ?_⟩
      · refine m_X11_isWord hI o_v0 (by decide) (fun x39 S40 hI2 g41 b_x39 p_x39 => ?_)
        obtain ⟨z_S40, p_x39⟩ := p_x39
        subst z_S40
        intro _ _
        have bb_x39 : x39 = 0 ∨ x39 = 1 := b_x39
        have iw_x39 : x39 = 0 ∨ kv21 = 2 := by rw [d_kv21]; exact p_x39
        refine ⟨fun c43 => ?_, fun c43 => ?_⟩
        · refine u_X11_readWalker_74 ?_
          refine ⟨fun c44 => absurd (show ¬ (-1 : Int32) = (-1 : Int32) from c44) (by decide), fun c44 => ?_⟩
          refine ⟨o_v0, ?_⟩
          have do44_kv23 := d_kv23
          have do44_kv21 := d_kv21
          have do44_kv22 := d_kv22
          refine m_X11_flaw hI o_v0 (qr83 r_kv5 r_kv6 r_kv7 hnf r_x9 q_x9 ph1_S11 ph3_S11 ph1_S18 bb_x24 iw_x24 c28 bb_x29 iw_x29 c33 bb_x34 iw_x34 c38 bb_x39 iw_x39 c43) hG (by have t : kv21 = 5 → 0 < kv22 := (qr84 hO r_kv5 r_kv6 r_kv7 hnf r_x9 q_x9 ph0_S11 ph1_S11 ph3_S11 ph0_S18 ph1_S18 bb_x24 iw_x24 c28 bb_x29 iw_x29 c33 bb_x34 iw_x34 c38 bb_x39 iw_x39 c43); rw [d_kv21, d_kv22] at t; exact t) (fun S46 hJ g47 fc48 p_S46 => ?_)
          obtain ⟨hG, pg0_S46, pg1_S46, pg2_S46, pg3_S46⟩ := p_S46
          have hn := rn_fr fc48 g47 hI o_v0 (by decide) hn
          have hI := hJ
          have d_kv5 := d_kv5.trans (fri_at fc48 (by decide) (by decide) o_a4).symm
          have d_kv6 := d_kv6.trans (fri_at fc48 (by decide) (by decide) o_a4).symm
          have d_x9 := d_x9.trans (fri_at fc48 (by decide) (by decide) o_a4).symm
          have d_kv23 := d_kv23.trans (fri_at fc48 (by decide) (by decide) o_v0).symm
          have ea4 := (frr_at fc48 (by decide) (by decide) o_v0).trans ea4
          have f0 := fri_tr (S := S18) g0 f0 fc48 (by decide) (by decide)
          have o_a4 := gr_ob g47 o_a4
          have o_v0 := gr_ob g47 o_v0
          have g0 := gr_tr (T := S18) g0 g47
          obtain ⟨kv49, d_kv49⟩ : ∃ z : Int32, z = fI S46 v0 9 := ⟨_, rfl⟩
          obtain ⟨kv50, d_kv50⟩ : ∃ z : Int32, z = fI S46 v0 13 := ⟨_, rfl⟩
          have ph0_S46 : kv49 = 5 → 0 < kv50 := by rw [d_kv49, d_kv50]; exact pg0_S46
          have ph1_S46 : kv49 = 5 ∨ ¬ kv21 = 5 := by rw [do44_kv21, d_kv49]; exact pg1_S46
          have ph2_S46 : kv23 ≤ kv23 ∧ (kv49 = 4 → kv23 < kv23 ∨ kv21 = 4) := by rw [d_kv23, do44_kv21, d_kv49]; exact pg2_S46
          have ph3_S46 : kv49 = 5 := by rw [d_kv49]; exact pg3_S46
          intro _
          refine u_X11_readWalker_85 ?_
          refine ⟨o_v0, ?_⟩
          have do50_kv23 := d_kv23
          have do50_kv49 := d_kv49
          have do50_kv50 := d_kv50
          refine m_X11_goesOn hI o_v0 hG (by have t : kv49 = 5 → 0 < kv50 := (qr85 hO r_kv5 r_kv6 r_kv7 hnf r_x9 q_x9 ph0_S11 ph1_S11 ph3_S11 ph0_S18 ph1_S18 bb_x24 iw_x24 c28 bb_x29 iw_x29 c33 bb_x34 iw_x34 c38 bb_x39 iw_x39 c43 ph0_S46 ph1_S46 ph3_S46); rw [d_kv49, d_kv50] at t; exact t) (fun S52 hJ g53 fc54 p_S52 => ?_)
          obtain ⟨hG, pg0_S52, pg1_S52, pg2_S52⟩ := p_S52
          have hn := rn_fr fc54 g53 hI o_v0 (by decide) hn
          have hI := hJ
          have d_kv5 := d_kv5.trans (fri_at fc54 (by decide) (by decide) o_a4).symm
          have d_kv6 := d_kv6.trans (fri_at fc54 (by decide) (by decide) o_a4).symm
          have d_x9 := d_x9.trans (fri_at fc54 (by decide) (by decide) o_a4).symm
          have d_kv50 := d_kv50.trans (fri_at fc54 (by decide) (by decide) o_v0).symm
          have ea4 := (frr_at fc54 (by decide) (by decide) o_v0).trans ea4
          have f0 := fri_tr (S := S46) g0 f0 fc54 (by decide) (by decide)
          have o_a4 := gr_ob g53 o_a4
          have o_v0 := gr_ob g53 o_v0
          have g0 := gr_tr (T := S46) g0 g53
          obtain ⟨kv55, d_kv55⟩ : ∃ z : Int32, z = fI S52 v0 9 := ⟨_, rfl⟩
          have ph0_S52 : kv55 = 5 → 0 < kv50 := by rw [d_kv55, d_kv50]; exact pg0_S52
          have ph1_S52 : kv55 = 5 ∨ ¬ kv49 = 5 := by rw [do50_kv49, d_kv55]; exact pg1_S52
          obtain ⟨kv56, d_kv56⟩ : ∃ z : Int32, z = fI S52 v0 8 := ⟨_, rfl⟩
          have r_kv56 : (0 : Int32) ≤ kv56 ∧ kv56 ≤ (900 : Int32) := by rw [d_kv56]; exact nu 25 rfl hI o_v0
          have ph2_S52 : kv23 ≤ kv56 ∧ (kv55 = 4 → kv23 < kv56 ∨ kv49 = 4) := by rw [do50_kv23, do50_kv49, d_kv56, d_kv55]; exact pg2_S52
          intro _
          refine ⟨fun c57 => ?_, fun c57 => absurd (show (-1 : Int32) = (1 : Int32) from c57) (by decide)⟩
          refine ⟨fun c58 => ?_, fun c58 => absurd (show (-1 : Int32) = (2 : Int32) from c58) (by decide)⟩
          refine ⟨fun c59 => ?_, fun c59 => absurd (show (-1 : Int32) = (3 : Int32) from c59) (by decide)⟩
          refine u_X11_readWalker_136 ?_
          refine ⟨fun c60 => ?_, fun c60 => absurd (show (-1 : Int32) = (1 : Int32) from c60) (by decide)⟩
          refine u_X11_readWalker_149 ?_
          refine ⟨o_v0, ?_⟩
          have do60_kv56 := d_kv56
          have do60_kv55 := d_kv55
          have do60_kv50 := d_kv50
          refine m_X11_readPart hI o_v0 (by decide) hG (by have t : kv55 = 5 → 0 < kv50 := (qr86 hO r_kv5 r_kv6 r_kv7 hnf r_x9 q_x9 ph0_S11 ph1_S11 ph3_S11 ph0_S18 ph1_S18 bb_x24 iw_x24 c28 bb_x29 iw_x29 c33 bb_x34 iw_x34 c38 bb_x39 iw_x39 c43 ph0_S46 ph1_S46 ph3_S46 ph0_S52 ph1_S52); rw [d_kv55, d_kv50] at t; exact t) (fun x61 S62 hJ g63 fc64 p_x61 => ?_)
          obtain ⟨hG, p_x61, pg0_S62, pg1_S62, pg2_S62⟩ := p_x61
          have hn := rn_fr fc64 g63 hI o_v0 (by decide) hn
          have hI := hJ
          have d_kv5 := d_kv5.trans (fri_at fc64 (by decide) (by decide) o_a4).symm
          have d_kv6 := d_kv6.trans (fri_at fc64 (by decide) (by decide) o_a4).symm
          have d_x9 := d_x9.trans (fri_at fc64 (by decide) (by decide) o_a4).symm
          have ea4 := (frr_at fc64 (by decide) (by decide) o_v0).trans ea4
          have f0 := fri_tr (S := S52) g0 f0 fc64 (by decide) (by decide)
          have o_a4 := gr_ob g63 o_a4
          have o_v0 := gr_ob g63 o_v0
          have g0 := gr_tr (T := S52) g0 g63
          obtain ⟨kv65, d_kv65⟩ : ∃ z : Int32, z = fI S62 v0 9 := ⟨_, rfl⟩
          obtain ⟨kv66, d_kv66⟩ : ∃ z : Int32, z = fI S62 v0 13 := ⟨_, rfl⟩
          have ph0_S62 : kv65 = 5 → 0 < kv66 := by rw [d_kv65, d_kv66]; exact pg0_S62
          have ph1_S62 : kv65 = 5 ∨ ¬ kv55 = 5 := by rw [do60_kv55, d_kv65]; exact pg1_S62
          obtain ⟨kv67, d_kv67⟩ : ∃ z : Int32, z = fI S62 v0 8 := ⟨_, rfl⟩
          have r_kv67 : (0 : Int32) ≤ kv67 ∧ kv67 ≤ (900 : Int32) := by rw [d_kv67]; exact nu 25 rfl hI o_v0
          have ph2_S62 : kv56 ≤ kv67 ∧ (kv65 = 4 → kv56 < kv67 ∨ kv55 = 4) := by rw [do60_kv56, do60_kv55, d_kv67, d_kv65]; exact pg2_S62
          intro _
          have do67_kv67 := d_kv67
          have do67_kv65 := d_kv65
          have do67_kv66 := d_kv66
          refine m_X11_readPart hI o_v0 (by decide) hG (by have t : kv65 = 5 → 0 < kv66 := (qr87 hO r_kv5 r_kv6 r_kv7 hnf r_x9 q_x9 ph0_S11 ph1_S11 ph3_S11 ph0_S18 ph1_S18 bb_x24 iw_x24 c28 bb_x29 iw_x29 c33 bb_x34 iw_x34 c38 bb_x39 iw_x39 c43 ph0_S46 ph1_S46 ph3_S46 ph0_S52 ph1_S52 ph0_S62 ph1_S62); rw [d_kv65, d_kv66] at t; exact t) (fun x68 S69 hJ g70 fc71 p_x68 => ?_)
          obtain ⟨hG, p_x68, pg0_S69, pg1_S69, pg2_S69⟩ := p_x68
          have hn := rn_fr fc71 g70 hI o_v0 (by decide) hn
          have hI := hJ
          have d_kv5 := d_kv5.trans (fri_at fc71 (by decide) (by decide) o_a4).symm
          have d_kv6 := d_kv6.trans (fri_at fc71 (by decide) (by decide) o_a4).symm
          have d_x9 := d_x9.trans (fri_at fc71 (by decide) (by decide) o_a4).symm
          have ea4 := (frr_at fc71 (by decide) (by decide) o_v0).trans ea4
          have f0 := fri_tr (S := S62) g0 f0 fc71 (by decide) (by decide)
          have o_a4 := gr_ob g70 o_a4
          have o_v0 := gr_ob g70 o_v0
          have g0 := gr_tr (T := S62) g0 g70
          obtain ⟨kv72, d_kv72⟩ : ∃ z : Int32, z = fI S69 v0 9 := ⟨_, rfl⟩
          obtain ⟨kv73, d_kv73⟩ : ∃ z : Int32, z = fI S69 v0 13 := ⟨_, rfl⟩
          have ph0_S69 : kv72 = 5 → 0 < kv73 := by rw [d_kv72, d_kv73]; exact pg0_S69
          have ph1_S69 : kv72 = 5 ∨ ¬ kv65 = 5 := by rw [do67_kv65, d_kv72]; exact pg1_S69
          obtain ⟨kv74, d_kv74⟩ : ∃ z : Int32, z = fI S69 v0 8 := ⟨_, rfl⟩
          have r_kv74 : (0 : Int32) ≤ kv74 ∧ kv74 ≤ (900 : Int32) := by rw [d_kv74]; exact nu 25 rfl hI o_v0
          have ph2_S69 : kv67 ≤ kv74 ∧ (kv72 = 4 → kv67 < kv74 ∨ kv65 = 4) := by rw [do67_kv67, do67_kv65, d_kv74, d_kv72]; exact pg2_S69
          intro _
          have do74_kv74 := d_kv74
          have do74_kv72 := d_kv72
          have do74_kv73 := d_kv73
          refine m_X11_readPart hI o_v0 (by decide) hG (by have t : kv72 = 5 → 0 < kv73 := (qr88 hO r_kv5 r_kv6 r_kv7 hnf r_x9 q_x9 ph0_S11 ph1_S11 ph3_S11 ph0_S18 ph1_S18 bb_x24 iw_x24 c28 bb_x29 iw_x29 c33 bb_x34 iw_x34 c38 bb_x39 iw_x39 c43 ph0_S46 ph1_S46 ph3_S46 ph0_S52 ph1_S52 ph0_S62 ph1_S62 ph0_S69 ph1_S69); rw [d_kv72, d_kv73] at t; exact t) (fun x75 S76 hJ g77 fc78 p_x75 => ?_)
          obtain ⟨hG, p_x75, pg0_S76, pg1_S76, pg2_S76⟩ := p_x75
          have hn := rn_fr fc78 g77 hI o_v0 (by decide) hn
          have hI := hJ
          have d_kv5 := d_kv5.trans (fri_at fc78 (by decide) (by decide) o_a4).symm
          have d_kv6 := d_kv6.trans (fri_at fc78 (by decide) (by decide) o_a4).symm
          have d_x9 := d_x9.trans (fri_at fc78 (by decide) (by decide) o_a4).symm
          have ea4 := (frr_at fc78 (by decide) (by decide) o_v0).trans ea4
          have f0 := fri_tr (S := S69) g0 f0 fc78 (by decide) (by decide)
          have o_a4 := gr_ob g77 o_a4
          have o_v0 := gr_ob g77 o_v0
          have g0 := gr_tr (T := S69) g0 g77
          obtain ⟨kv79, d_kv79⟩ : ∃ z : Int32, z = fI S76 v0 9 := ⟨_, rfl⟩
          obtain ⟨kv80, d_kv80⟩ : ∃ z : Int32, z = fI S76 v0 13 := ⟨_, rfl⟩
          have ph0_S76 : kv79 = 5 → 0 < kv80 := by rw [d_kv79, d_kv80]; exact pg0_S76
          have ph1_S76 : kv79 = 5 ∨ ¬ kv72 = 5 := by rw [do74_kv72, d_kv79]; exact pg1_S76
          obtain ⟨kv81, d_kv81⟩ : ∃ z : Int32, z = fI S76 v0 8 := ⟨_, rfl⟩
          have r_kv81 : (0 : Int32) ≤ kv81 ∧ kv81 ≤ (900 : Int32) := by rw [d_kv81]; exact nu 25 rfl hI o_v0
          have ph2_S76 : kv74 ≤ kv81 ∧ (kv79 = 4 → kv74 < kv81 ∨ kv72 = 4) := by rw [do74_kv74, do74_kv72, d_kv81, d_kv79]; exact pg2_S76
          intro _
          have do81_kv81 := d_kv81
          have do81_kv79 := d_kv79
          have do81_kv80 := d_kv80
          refine m_X11_readPart hI o_v0 (by decide) hG (by have t : kv79 = 5 → 0 < kv80 := (qr89 hO r_kv5 r_kv6 r_kv7 hnf r_x9 q_x9 ph0_S11 ph1_S11 ph3_S11 ph0_S18 ph1_S18 bb_x24 iw_x24 c28 bb_x29 iw_x29 c33 bb_x34 iw_x34 c38 bb_x39 iw_x39 c43 ph0_S46 ph1_S46 ph3_S46 ph0_S52 ph1_S52 ph0_S62 ph1_S62 ph0_S69 ph1_S69 ph0_S76 ph1_S76); rw [d_kv79, d_kv80] at t; exact t) (fun x82 S83 hJ g84 fc85 p_x82 => ?_)
          obtain ⟨hG, p_x82, pg0_S83, pg1_S83, pg2_S83⟩ := p_x82
          have hn := rn_fr fc85 g84 hI o_v0 (by decide) hn
          have hI := hJ
          have d_kv5 := d_kv5.trans (fri_at fc85 (by decide) (by decide) o_a4).symm
          have d_kv6 := d_kv6.trans (fri_at fc85 (by decide) (by decide) o_a4).symm
          have d_x9 := d_x9.trans (fri_at fc85 (by decide) (by decide) o_a4).symm
          have ea4 := (frr_at fc85 (by decide) (by decide) o_v0).trans ea4
          have f0 := fri_tr (S := S76) g0 f0 fc85 (by decide) (by decide)
          have o_a4 := gr_ob g84 o_a4
          have o_v0 := gr_ob g84 o_v0
          have g0 := gr_tr (T := S76) g0 g84
          obtain ⟨kv86, d_kv86⟩ : ∃ z : Int32, z = fI S83 v0 9 := ⟨_, rfl⟩
          obtain ⟨kv87, d_kv87⟩ : ∃ z : Int32, z = fI S83 v0 13 := ⟨_, rfl⟩
          have ph0_S83 : kv86 = 5 → 0 < kv87 := by rw [d_kv86, d_kv87]; exact pg0_S83
          have ph1_S83 : kv86 = 5 ∨ ¬ kv79 = 5 := by rw [do81_kv79, d_kv86]; exact pg1_S83
          obtain ⟨kv88, d_kv88⟩ : ∃ z : Int32, z = fI S83 v0 8 := ⟨_, rfl⟩
          have r_kv88 : (0 : Int32) ≤ kv88 ∧ kv88 ≤ (900 : Int32) := by rw [d_kv88]; exact nu 25 rfl hI o_v0
          have ph2_S83 : kv81 ≤ kv88 ∧ (kv86 = 4 → kv81 < kv88 ∨ kv79 = 4) := by rw [do81_kv81, do81_kv79, d_kv88, d_kv86]; exact pg2_S83
          intro _
          have do88_kv88 := d_kv88
          have do88_kv86 := d_kv86
          have do88_kv87 := d_kv87
          refine m_X11_readPart hI o_v0 (by decide) hG (by have t : kv86 = 5 → 0 < kv87 := (qr90 hO r_kv5 r_kv6 r_kv7 hnf r_x9 q_x9 ph0_S11 ph1_S11 ph3_S11 ph0_S18 ph1_S18 bb_x24 iw_x24 c28 bb_x29 iw_x29 c33 bb_x34 iw_x34 c38 bb_x39 iw_x39 c43 ph0_S46 ph1_S46 ph3_S46 ph0_S52 ph1_S52 ph0_S62 ph1_S62 ph0_S69 ph1_S69 ph0_S76 ph1_S76 ph0_S83 ph1_S83); rw [d_kv86, d_kv87] at t; exact t) (fun x89 S90 hJ g91 fc92 p_x89 => ?_)
          obtain ⟨hG, p_x89, pg0_S90, pg1_S90, pg2_S90⟩ := p_x89
          have hn := rn_fr fc92 g91 hI o_v0 (by decide) hn
          have hI := hJ
          have d_kv5 := d_kv5.trans (fri_at fc92 (by decide) (by decide) o_a4).symm
          have d_kv6 := d_kv6.trans (fri_at fc92 (by decide) (by decide) o_a4).symm
          have d_x9 := d_x9.trans (fri_at fc92 (by decide) (by decide) o_a4).symm
          have ea4 := (frr_at fc92 (by decide) (by decide) o_v0).trans ea4
          have f0 := fri_tr (S := S83) g0 f0 fc92 (by decide) (by decide)
          have o_a4 := gr_ob g91 o_a4
          have o_v0 := gr_ob g91 o_v0
          have g0 := gr_tr (T := S83) g0 g91
          obtain ⟨kv93, d_kv93⟩ : ∃ z : Int32, z = fI S90 v0 9 := ⟨_, rfl⟩
          obtain ⟨kv94, d_kv94⟩ : ∃ z : Int32, z = fI S90 v0 13 := ⟨_, rfl⟩
          have ph0_S90 : kv93 = 5 → 0 < kv94 := by rw [d_kv93, d_kv94]; exact pg0_S90
          have ph1_S90 : kv93 = 5 ∨ ¬ kv86 = 5 := by rw [do88_kv86, d_kv93]; exact pg1_S90
          obtain ⟨kv95, d_kv95⟩ : ∃ z : Int32, z = fI S90 v0 8 := ⟨_, rfl⟩
          have r_kv95 : (0 : Int32) ≤ kv95 ∧ kv95 ≤ (900 : Int32) := by rw [d_kv95]; exact nu 25 rfl hI o_v0
          have ph2_S90 : kv88 ≤ kv95 ∧ (kv93 = 4 → kv88 < kv95 ∨ kv86 = 4) := by rw [do88_kv88, do88_kv86, d_kv95, d_kv93]; exact pg2_S90
          intro _
          intro x96 ex96
          have q_x96 : x96 = kv93 := ex96.trans d_kv93.symm
          have d_x96 := ex96
          refine ⟨fun c97 => ?_, fun c97 => ?_⟩
          · refine ⟨a4, ea4, ?_⟩
            refine ⟨o_a4, ?_⟩
            intro x99 ex99
            have r_x99 : (0 : Int32) ≤ x99 ∧ x99 ≤ (4 : Int32) := by rw [ex99]; exact nu 20 rfl hI o_a4
            have q_x99 : x99 = x9 := ex99.trans d_x9.symm
            have d_x99 := ex99
            refine u_X11_names ?_
            refine u_X11_names_0 ?_
            refine ⟨o_v0, ?_⟩
            refine ⟨a4, ea4, ?_⟩
            refine ⟨o_a4, ?_⟩
            obtain ⟨a101, ea101, o_a101, l_a101⟩ := shl 50 rfl hI o_a4
            refine ⟨a101, ea101, ?_⟩
            refine ⟨a4, ea4, ?_⟩
            refine ⟨o_a4, ?_⟩
            intro x103 ex103
            have r_x103 : (0 : Int32) ≤ x103 ∧ x103 ≤ (12 : Int32) := by rw [ex103]; exact nu 22 rfl hI o_a4
            have q_x103 : x103 = kv5 := ex103.trans d_kv5.symm
            have d_x103 := ex103
            refine ⟨o_a101, ?_⟩
            have i104 : vp_in x103 (hN _ a101) := (vin l_a101 (m := 12) (by decide) (qr91 r_kv5 r_kv6 r_kv7 hnf r_x9 q_x9 ph1_S11 ph3_S11 ph1_S18 bb_x24 iw_x24 c28 bb_x29 iw_x29 c33 bb_x34 iw_x34 c38 bb_x39 iw_x39 c43 ph1_S46 ph3_S46 ph1_S52 ph1_S62 ph1_S69 ph1_S76 ph1_S83 ph1_S90 q_x96 c97 r_x99 q_x99 r_x103 q_x103))
            refine ⟨i104, ?_⟩
            intro S105 eS105
            have hIn : IV S105 := by rw [eS105]; exact iv10_aJ hI o_a4 (by decide) ea101
            have hG := rg_J eS105 hG
            have hn := rn_J eS105 hn
            have hI := hIn
            have f0 := fr_J eS105 f0
            have d_x103 := rd_J eS105 d_x103
            have d_kv6 := rd_J eS105 d_kv6
            have d_x99 := rd_J eS105 d_x99
            have d_x96 := rd_J eS105 d_x96
            have d_kv94 := rd_J eS105 d_kv94
            have d_kv95 := rd_J eS105 d_kv95
            have ea4 := rf_J eS105 ea4
            have ea101 := rf_J eS105 ea101
            have l_a101 := ln_J eS105 l_a101
            have g0 := gr_J eS105 g0
            have o_a101 := ob_J eS105 o_a101
            have o_a4 := ob_J eS105 o_a4
            have o_v0 := ob_J eS105 o_v0
            refine ⟨a4, ea4, ?_⟩
            refine ⟨o_a4, ?_⟩
            obtain ⟨a107, ea107, o_a107, l_a107⟩ := shl 51 rfl hI o_a4
            refine ⟨a107, ea107, ?_⟩
            refine ⟨a4, ea4, ?_⟩
            refine ⟨o_a4, ?_⟩
            intro x109 ex109
            have r_x109 : (0 : Int32) ≤ x109 ∧ x109 ≤ (12 : Int32) := by rw [ex109]; exact nu 22 rfl hI o_a4
            have q_x109 : x109 = x103 := ex109.trans d_x103.symm
            have d_x109 := ex109
            refine ⟨o_a107, ?_⟩
            have i110 : vp_in x109 (hN _ a107) := (vin l_a107 (m := 12) (by decide) (qr92 r_kv5 r_kv6 r_kv7 hnf r_x9 q_x9 ph1_S11 ph3_S11 ph1_S18 bb_x24 iw_x24 c28 bb_x29 iw_x29 c33 bb_x34 iw_x34 c38 bb_x39 iw_x39 c43 ph1_S46 ph3_S46 ph1_S52 ph1_S62 ph1_S69 ph1_S76 ph1_S83 ph1_S90 q_x96 c97 r_x99 q_x99 r_x103 q_x103 r_x109 q_x109))
            refine ⟨i110, ?_⟩
            intro S111 eS111
            have hIn : IV S111 := by rw [eS111]; exact iv10_aI hI o_a4 (rg_nw hG ea4) ea107 o_a107 (by decide)
            have hG := rg_a (jj := 29) (x := x109) eS111 hI ea4 o_a4 ea107 o_a107 (by decide) (h1_no (by decide)) (fun _ => by rw [← d_kv6, ← d_x99]; exact (qr93 r_kv5 r_kv6 r_kv7 hnf r_x9 q_x9 ph1_S11 ph3_S11 ph1_S18 bb_x24 iw_x24 c28 bb_x29 iw_x29 c33 bb_x34 iw_x34 c38 bb_x39 iw_x39 c43 ph1_S46 ph3_S46 ph1_S52 ph1_S62 ph1_S69 ph1_S76 ph1_S83 ph1_S90 q_x96 c97 r_x99 q_x99 r_x103 q_x103 r_x109 q_x109)) hG
            have hn := rn_11 eS111 hI o_v0 o_a107 (by decide) hn
            have hI := hIn
            have f0 := fr_A eS111 g0 f0 o_a107 (by decide)
            have d_x109 := rd_Ik eS111 o_a107 o_a4 (by decide) d_x109
            have d_kv6 := rd_Ik eS111 o_a107 o_a4 (by decide) d_kv6
            have d_x99 := rd_Ik eS111 o_a107 o_a4 (by decide) d_x99
            have d_x96 := rd_Ik eS111 o_a107 o_v0 (by decide) d_x96
            have d_kv94 := rd_Ik eS111 o_a107 o_v0 (by decide) d_kv94
            have d_kv95 := rd_Ik eS111 o_a107 o_v0 (by decide) d_kv95
            have ea4 := rf_I eS111 ea4
            have ea101 := rf_I eS111 ea101
            have ea107 := rf_I eS111 ea107
            have l_a101 := ln_I eS111 l_a101
            have l_a107 := ln_I eS111 l_a107
            have g0 := gr_I eS111 g0
            have o_a101 := ob_I eS111 o_a101
            have o_a107 := ob_I eS111 o_a107
            have o_a4 := ob_I eS111 o_a4
            have o_v0 := ob_I eS111 o_v0
            have el112 : fI S111 a107 x109.toNatClampNeg = (1 : Int32) := by rw [eS111]; exact u2_self _ _ _ _
            refine ⟨a4, ea4, ?_⟩
            refine ⟨o_a4, ?_⟩
            obtain ⟨a114, ea114, o_a114, l_a114⟩ := shl 52 rfl hI o_a4
            refine ⟨a114, ea114, ?_⟩
            refine ⟨a4, ea4, ?_⟩
            refine ⟨o_a4, ?_⟩
            intro x116 ex116
            have r_x116 : (0 : Int32) ≤ x116 ∧ x116 ≤ (12 : Int32) := by rw [ex116]; exact nu 22 rfl hI o_a4
            have q_x116 : x116 = x109 := ex116.trans d_x109.symm
            have d_x116 := ex116
            refine ⟨o_a114, ?_⟩
            have i117 : vp_in x116 (hN _ a114) := (vin l_a114 (m := 12) (by decide) (qr94 r_kv5 r_kv6 r_kv7 hnf r_x9 q_x9 ph1_S11 ph3_S11 ph1_S18 bb_x24 iw_x24 c28 bb_x29 iw_x29 c33 bb_x34 iw_x34 c38 bb_x39 iw_x39 c43 ph1_S46 ph3_S46 ph1_S52 ph1_S62 ph1_S69 ph1_S76 ph1_S83 ph1_S90 q_x96 c97 r_x99 q_x99 r_x103 q_x103 r_x109 q_x109 r_x116 q_x116))
            refine ⟨i117, ?_⟩
            intro S118 eS118
            have hIn : IV S118 := by rw [eS118]; exact iv10_aI hI o_a4 (rg_nw hG ea4) ea114 o_a114 (by decide)
            have hG := rg_a (jj := 30) (x := x116) eS118 hI ea4 o_a4 ea114 o_a114 (by decide) (h1_no (by decide)) (fun _ => by rw [← d_kv6, ← d_x99]; exact (qr95 r_kv5 r_kv6 r_kv7 hnf r_x9 q_x9 ph1_S11 ph3_S11 ph1_S18 bb_x24 iw_x24 c28 bb_x29 iw_x29 c33 bb_x34 iw_x34 c38 bb_x39 iw_x39 c43 ph1_S46 ph3_S46 ph1_S52 ph1_S62 ph1_S69 ph1_S76 ph1_S83 ph1_S90 q_x96 c97 r_x99 q_x99 r_x103 q_x103 r_x109 q_x109 r_x116 q_x116)) hG
            have hn := rn_11 eS118 hI o_v0 o_a114 (by decide) hn
            have el112 := el_ar eS118 (ow_ne hI o_a4 (by decide) o_a4 (by decide) ea114 ea107 (by decide)) el112
            have hI := hIn
            have f0 := fr_A eS118 g0 f0 o_a114 (by decide)
            have d_x116 := rd_Ik eS118 o_a114 o_a4 (by decide) d_x116
            have d_kv6 := rd_Ik eS118 o_a114 o_a4 (by decide) d_kv6
            have d_x99 := rd_Ik eS118 o_a114 o_a4 (by decide) d_x99
            have d_x96 := rd_Ik eS118 o_a114 o_v0 (by decide) d_x96
            have d_kv94 := rd_Ik eS118 o_a114 o_v0 (by decide) d_kv94
            have d_kv95 := rd_Ik eS118 o_a114 o_v0 (by decide) d_kv95
            have ea4 := rf_I eS118 ea4
            have ea101 := rf_I eS118 ea101
            have ea107 := rf_I eS118 ea107
            have ea114 := rf_I eS118 ea114
            have l_a101 := ln_I eS118 l_a101
            have l_a107 := ln_I eS118 l_a107
            have l_a114 := ln_I eS118 l_a114
            have g0 := gr_I eS118 g0
            have o_a101 := ob_I eS118 o_a101
            have o_a107 := ob_I eS118 o_a107
            have o_a114 := ob_I eS118 o_a114
            have o_a4 := ob_I eS118 o_a4
            have o_v0 := ob_I eS118 o_v0
            have el119 : fI S118 a114 x116.toNatClampNeg = x99 := by rw [eS118]; exact u2_self _ _ _ _
            refine ⟨a4, ea4, ?_⟩
            refine ⟨o_a4, ?_⟩
            intro x121 ex121
            have r_x121 : (0 : Int32) ≤ x121 ∧ x121 ≤ (12 : Int32) := by rw [ex121]; exact nu 22 rfl hI o_a4
            have q_x121 : x121 = x116 := ex121.trans d_x116.symm
            have d_x121 := ex121
            intro x122 ex122
            intro S123 eS123
            have hIn : IV S123 := by rw [eS123]; exact iv10_sI hI o_a4 (rg_nw hG ea4) (nu_one (lo := (0 : Int32)) (hi := (12 : Int32)) (by decide) (qr96 r_kv5 r_kv6 r_kv7 hnf r_x9 q_x9 ph1_S11 ph3_S11 ph1_S18 bb_x24 iw_x24 c28 bb_x29 iw_x29 c33 bb_x34 iw_x34 c38 bb_x39 iw_x39 c43 ph1_S46 ph3_S46 ph1_S52 ph1_S62 ph1_S69 ph1_S76 ph1_S83 ph1_S90 q_x96 c97 r_x99 q_x99 r_x103 q_x103 r_x109 q_x109 r_x116 q_x116 r_x121 q_x121 ex122))
            have hG := rg_c eS123 hI ea4 o_a4 (by decide) hG
            have el112 := el_ob eS123 o_a4 o_a107 (by decide) el112
            have el119 := el_ob eS123 o_a4 o_a114 (by decide) el119
            have hI := hIn
            have f0 := fr_I eS123 g0 f0 o_a4 (by decide)
            have d_kv6 := rd_Ij eS123 (by decide) d_kv6
            have d_x99 := rd_Ij eS123 (by decide) d_x99
            have d_x96 := rd_Ik eS123 o_a4 o_v0 (by decide) d_x96
            have d_kv94 := rd_Ik eS123 o_a4 o_v0 (by decide) d_kv94
            have d_kv95 := rd_Ik eS123 o_a4 o_v0 (by decide) d_kv95
            have d_x122 := rd_Is eS123 (rfl : x122 = x122)
            have ea4 := rf_I eS123 ea4
            have ea101 := rf_I eS123 ea101
            have ea107 := rf_I eS123 ea107
            have ea114 := rf_I eS123 ea114
            have l_a101 := ln_I eS123 l_a101
            have l_a107 := ln_I eS123 l_a107
            have l_a114 := ln_I eS123 l_a114
            have g0 := gr_I eS123 g0
            have o_a101 := ob_I eS123 o_a101
            have o_a107 := ob_I eS123 o_a107
            have o_a114 := ob_I eS123 o_a114
            have o_a4 := ob_I eS123 o_a4
            have o_v0 := ob_I eS123 o_v0
            intro _
            refine ⟨a4, ea4, ?_⟩
            refine ⟨o_a4, ?_⟩
            obtain ⟨a125, ea125, o_a125, l_a125⟩ := shl 41 rfl hI o_a4
            refine ⟨a125, ea125, ?_⟩
            refine ⟨o_a125, ?_⟩
            have i126 : vp_in x99 (hN _ a125) := (vin l_a125 (m := 4) (by decide) (qr97 r_kv5 r_kv6 r_kv7 hnf r_x9 q_x9 ph1_S11 ph3_S11 ph1_S18 bb_x24 iw_x24 c28 bb_x29 iw_x29 c33 bb_x34 iw_x34 c38 bb_x39 iw_x39 c43 ph1_S46 ph3_S46 ph1_S52 ph1_S62 ph1_S69 ph1_S76 ph1_S83 ph1_S90 q_x96 c97 r_x99 q_x99 r_x103 q_x103 r_x109 q_x109 r_x116 q_x116 r_x121 q_x121 ex122))
            refine ⟨i126, ?_⟩
            intro S127 eS127
            have hIn : IV S127 := by rw [eS127]; exact iv10_aI hI o_a4 (rg_nw hG ea4) ea125 o_a125 (by decide)
            have hG := rg_a (jj := 19) (x := x99) eS127 hI ea4 o_a4 ea125 o_a125 (by decide) (h1_no (by decide)) (h2_no (y := 0) (by decide)) hG
            have el112 := el_ar eS127 (ow_ne hI o_a4 (by decide) o_a4 (by decide) ea125 ea107 (by decide)) el112
            have el119 := el_ar eS127 (ow_ne hI o_a4 (by decide) o_a4 (by decide) ea125 ea114 (by decide)) el119
            have hI := hIn
            have f0 := fr_A eS127 g0 f0 o_a125 (by decide)
            have d_kv6 := rd_Ik eS127 o_a125 o_a4 (by decide) d_kv6
            have d_x99 := rd_Ik eS127 o_a125 o_a4 (by decide) d_x99
            have d_x96 := rd_Ik eS127 o_a125 o_v0 (by decide) d_x96
            have d_kv94 := rd_Ik eS127 o_a125 o_v0 (by decide) d_kv94
            have d_kv95 := rd_Ik eS127 o_a125 o_v0 (by decide) d_kv95
            have d_x122 := rd_Ik eS127 o_a125 o_a4 (by decide) d_x122
            have ea4 := rf_I eS127 ea4
            have ea101 := rf_I eS127 ea101
            have ea107 := rf_I eS127 ea107
            have ea114 := rf_I eS127 ea114
            have ea125 := rf_I eS127 ea125
            have l_a101 := ln_I eS127 l_a101
            have l_a107 := ln_I eS127 l_a107
            have l_a114 := ln_I eS127 l_a114
            have l_a125 := ln_I eS127 l_a125
            have g0 := gr_I eS127 g0
            have o_a101 := ob_I eS127 o_a101
            have o_a107 := ob_I eS127 o_a107
            have o_a114 := ob_I eS127 o_a114
            have o_a125 := ob_I eS127 o_a125
            have o_a4 := ob_I eS127 o_a4
            have o_v0 := ob_I eS127 o_v0
            refine ⟨a4, ea4, ?_⟩
            refine ⟨o_a4, ?_⟩
            obtain ⟨a129, ea129, o_a129, l_a129⟩ := shl 42 rfl hI o_a4
            refine ⟨a129, ea129, ?_⟩
            refine ⟨o_a129, ?_⟩
            have i130 : vp_in x99 (hN _ a129) := (vin l_a129 (m := 4) (by decide) (qr97 r_kv5 r_kv6 r_kv7 hnf r_x9 q_x9 ph1_S11 ph3_S11 ph1_S18 bb_x24 iw_x24 c28 bb_x29 iw_x29 c33 bb_x34 iw_x34 c38 bb_x39 iw_x39 c43 ph1_S46 ph3_S46 ph1_S52 ph1_S62 ph1_S69 ph1_S76 ph1_S83 ph1_S90 q_x96 c97 r_x99 q_x99 r_x103 q_x103 r_x109 q_x109 r_x116 q_x116 r_x121 q_x121 ex122))
            refine ⟨i130, ?_⟩
            intro S131 eS131
            have hIn : IV S131 := by rw [eS131]; exact iv10_aI hI o_a4 (rg_nw hG ea4) ea129 o_a129 (by decide)
            have hG := rg_a (jj := 20) (x := x99) eS131 hI ea4 o_a4 ea129 o_a129 (by decide) (h1_no (by decide)) (h2_no (y := 0) (by decide)) hG
            have el112 := el_ar eS131 (ow_ne hI o_a4 (by decide) o_a4 (by decide) ea129 ea107 (by decide)) el112
            have el119 := el_ar eS131 (ow_ne hI o_a4 (by decide) o_a4 (by decide) ea129 ea114 (by decide)) el119
            have hI := hIn
            have f0 := fr_A eS131 g0 f0 o_a129 (by decide)
            have d_kv6 := rd_Ik eS131 o_a129 o_a4 (by decide) d_kv6
            have d_x99 := rd_Ik eS131 o_a129 o_a4 (by decide) d_x99
            have d_x96 := rd_Ik eS131 o_a129 o_v0 (by decide) d_x96
            have d_kv94 := rd_Ik eS131 o_a129 o_v0 (by decide) d_kv94
            have d_kv95 := rd_Ik eS131 o_a129 o_v0 (by decide) d_kv95
            have d_x122 := rd_Ik eS131 o_a129 o_a4 (by decide) d_x122
            have ea4 := rf_I eS131 ea4
            have ea101 := rf_I eS131 ea101
            have ea107 := rf_I eS131 ea107
            have ea114 := rf_I eS131 ea114
            have ea125 := rf_I eS131 ea125
            have ea129 := rf_I eS131 ea129
            have l_a101 := ln_I eS131 l_a101
            have l_a107 := ln_I eS131 l_a107
            have l_a114 := ln_I eS131 l_a114
            have l_a125 := ln_I eS131 l_a125
            have l_a129 := ln_I eS131 l_a129
            have g0 := gr_I eS131 g0
            have o_a101 := ob_I eS131 o_a101
            have o_a107 := ob_I eS131 o_a107
            have o_a114 := ob_I eS131 o_a114
            have o_a125 := ob_I eS131 o_a125
            have o_a129 := ob_I eS131 o_a129
            have o_a4 := ob_I eS131 o_a4
            have o_v0 := ob_I eS131 o_v0
            refine ⟨a4, ea4, ?_⟩
            refine ⟨o_a4, ?_⟩
            obtain ⟨a133, ea133, o_a133, l_a133⟩ := shl 43 rfl hI o_a4
            refine ⟨a133, ea133, ?_⟩
            refine ⟨o_a133, ?_⟩
            intro x134 ex134
            have i135 : vp_in x99 (hN _ a133) := (vin l_a133 (m := 4) (by decide) (qr97 r_kv5 r_kv6 r_kv7 hnf r_x9 q_x9 ph1_S11 ph3_S11 ph1_S18 bb_x24 iw_x24 c28 bb_x29 iw_x29 c33 bb_x34 iw_x34 c38 bb_x39 iw_x39 c43 ph1_S46 ph3_S46 ph1_S52 ph1_S62 ph1_S69 ph1_S76 ph1_S83 ph1_S90 q_x96 c97 r_x99 q_x99 r_x103 q_x103 r_x109 q_x109 r_x116 q_x116 r_x121 q_x121 ex122))
            refine ⟨i135, ?_⟩
            intro S136 eS136
            have hIn : IV S136 := by rw [eS136]; exact iv10_aI hI o_a4 (rg_nw hG ea4) ea133 o_a133 (by decide)
            have hG := rg_a (jj := 21) (x := x99) eS136 hI ea4 o_a4 ea133 o_a133 (by decide) (h1_no (by decide)) (h2_no (y := 0) (by decide)) hG
            have el112 := el_ar eS136 (ow_ne hI o_a4 (by decide) o_a4 (by decide) ea133 ea107 (by decide)) el112
            have el119 := el_ar eS136 (ow_ne hI o_a4 (by decide) o_a4 (by decide) ea133 ea114 (by decide)) el119
            have hI := hIn
            have f0 := fr_A eS136 g0 f0 o_a133 (by decide)
            have d_kv6 := rd_Ik eS136 o_a133 o_a4 (by decide) d_kv6
            have d_x99 := rd_Ik eS136 o_a133 o_a4 (by decide) d_x99
            have d_x96 := rd_Ik eS136 o_a133 o_v0 (by decide) d_x96
            have d_kv94 := rd_Ik eS136 o_a133 o_v0 (by decide) d_kv94
            have d_kv95 := rd_Ik eS136 o_a133 o_v0 (by decide) d_kv95
            have d_x122 := rd_Ik eS136 o_a133 o_a4 (by decide) d_x122
            have ea4 := rf_I eS136 ea4
            have ea101 := rf_I eS136 ea101
            have ea107 := rf_I eS136 ea107
            have ea114 := rf_I eS136 ea114
            have ea125 := rf_I eS136 ea125
            have ea129 := rf_I eS136 ea129
            have ea133 := rf_I eS136 ea133
            have l_a101 := ln_I eS136 l_a101
            have l_a107 := ln_I eS136 l_a107
            have l_a114 := ln_I eS136 l_a114
            have l_a125 := ln_I eS136 l_a125
            have l_a129 := ln_I eS136 l_a129
            have l_a133 := ln_I eS136 l_a133
            have g0 := gr_I eS136 g0
            have o_a101 := ob_I eS136 o_a101
            have o_a107 := ob_I eS136 o_a107
            have o_a114 := ob_I eS136 o_a114
            have o_a125 := ob_I eS136 o_a125
            have o_a129 := ob_I eS136 o_a129
            have o_a133 := ob_I eS136 o_a133
            have o_a4 := ob_I eS136 o_a4
            have o_v0 := ob_I eS136 o_v0
            refine ⟨a4, ea4, ?_⟩
            refine ⟨o_a4, ?_⟩
            obtain ⟨a138, ea138, o_a138, l_a138⟩ := shl 44 rfl hI o_a4
            refine ⟨a138, ea138, ?_⟩
            refine ⟨o_a138, ?_⟩
            intro x139 ex139
            have i140 : vp_in x99 (hN _ a138) := (vin l_a138 (m := 4) (by decide) (qr97 r_kv5 r_kv6 r_kv7 hnf r_x9 q_x9 ph1_S11 ph3_S11 ph1_S18 bb_x24 iw_x24 c28 bb_x29 iw_x29 c33 bb_x34 iw_x34 c38 bb_x39 iw_x39 c43 ph1_S46 ph3_S46 ph1_S52 ph1_S62 ph1_S69 ph1_S76 ph1_S83 ph1_S90 q_x96 c97 r_x99 q_x99 r_x103 q_x103 r_x109 q_x109 r_x116 q_x116 r_x121 q_x121 ex122))
            refine ⟨i140, ?_⟩
            intro S141 eS141
            have hIn : IV S141 := by rw [eS141]; exact iv10_aI hI o_a4 (rg_nw hG ea4) ea138 o_a138 (by decide)
            have hG := rg_a (jj := 22) (x := x99) eS141 hI ea4 o_a4 ea138 o_a138 (by decide) (h1_no (by decide)) (h2_no (y := 0) (by decide)) hG
            have el112 := el_ar eS141 (ow_ne hI o_a4 (by decide) o_a4 (by decide) ea138 ea107 (by decide)) el112
            have el119 := el_ar eS141 (ow_ne hI o_a4 (by decide) o_a4 (by decide) ea138 ea114 (by decide)) el119
            have hI := hIn
            have f0 := fr_A eS141 g0 f0 o_a138 (by decide)
            have d_kv6 := rd_Ik eS141 o_a138 o_a4 (by decide) d_kv6
            have d_x99 := rd_Ik eS141 o_a138 o_a4 (by decide) d_x99
            have d_x96 := rd_Ik eS141 o_a138 o_v0 (by decide) d_x96
            have d_kv94 := rd_Ik eS141 o_a138 o_v0 (by decide) d_kv94
            have d_kv95 := rd_Ik eS141 o_a138 o_v0 (by decide) d_kv95
            have d_x122 := rd_Ik eS141 o_a138 o_a4 (by decide) d_x122
            have ea4 := rf_I eS141 ea4
            have ea101 := rf_I eS141 ea101
            have ea107 := rf_I eS141 ea107
            have ea114 := rf_I eS141 ea114
            have ea125 := rf_I eS141 ea125
            have ea129 := rf_I eS141 ea129
            have ea133 := rf_I eS141 ea133
            have ea138 := rf_I eS141 ea138
            have l_a101 := ln_I eS141 l_a101
            have l_a107 := ln_I eS141 l_a107
            have l_a114 := ln_I eS141 l_a114
            have l_a125 := ln_I eS141 l_a125
            have l_a129 := ln_I eS141 l_a129
            have l_a133 := ln_I eS141 l_a133
            have l_a138 := ln_I eS141 l_a138
            have g0 := gr_I eS141 g0
            have o_a101 := ob_I eS141 o_a101
            have o_a107 := ob_I eS141 o_a107
            have o_a114 := ob_I eS141 o_a114
            have o_a125 := ob_I eS141 o_a125
            have o_a129 := ob_I eS141 o_a129
            have o_a133 := ob_I eS141 o_a133
            have o_a138 := ob_I eS141 o_a138
            have o_a4 := ob_I eS141 o_a4
            have o_v0 := ob_I eS141 o_v0
            refine ⟨a4, ea4, ?_⟩
            refine ⟨o_a4, ?_⟩
            obtain ⟨a143, ea143, o_a143, l_a143⟩ := shl 45 rfl hI o_a4
            refine ⟨a143, ea143, ?_⟩
            refine ⟨o_a143, ?_⟩
            intro x144 ex144
            have i145 : vp_in x99 (hN _ a143) := (vin l_a143 (m := 4) (by decide) (qr97 r_kv5 r_kv6 r_kv7 hnf r_x9 q_x9 ph1_S11 ph3_S11 ph1_S18 bb_x24 iw_x24 c28 bb_x29 iw_x29 c33 bb_x34 iw_x34 c38 bb_x39 iw_x39 c43 ph1_S46 ph3_S46 ph1_S52 ph1_S62 ph1_S69 ph1_S76 ph1_S83 ph1_S90 q_x96 c97 r_x99 q_x99 r_x103 q_x103 r_x109 q_x109 r_x116 q_x116 r_x121 q_x121 ex122))
            refine ⟨i145, ?_⟩
            intro S146 eS146
            have hIn : IV S146 := by rw [eS146]; exact iv10_aI hI o_a4 (rg_nw hG ea4) ea143 o_a143 (by decide)
            have hG := rg_a (jj := 23) (x := x99) eS146 hI ea4 o_a4 ea143 o_a143 (by decide) (h1_no (by decide)) (h2_no (y := 0) (by decide)) hG
            have el112 := el_ar eS146 (ow_ne hI o_a4 (by decide) o_a4 (by decide) ea143 ea107 (by decide)) el112
            have el119 := el_ar eS146 (ow_ne hI o_a4 (by decide) o_a4 (by decide) ea143 ea114 (by decide)) el119
            have hI := hIn
            have f0 := fr_A eS146 g0 f0 o_a143 (by decide)
            have d_kv6 := rd_Ik eS146 o_a143 o_a4 (by decide) d_kv6
            have d_x99 := rd_Ik eS146 o_a143 o_a4 (by decide) d_x99
            have d_x96 := rd_Ik eS146 o_a143 o_v0 (by decide) d_x96
            have d_kv94 := rd_Ik eS146 o_a143 o_v0 (by decide) d_kv94
            have d_kv95 := rd_Ik eS146 o_a143 o_v0 (by decide) d_kv95
            have d_x122 := rd_Ik eS146 o_a143 o_a4 (by decide) d_x122
            have ea4 := rf_I eS146 ea4
            have ea101 := rf_I eS146 ea101
            have ea107 := rf_I eS146 ea107
            have ea114 := rf_I eS146 ea114
            have ea125 := rf_I eS146 ea125
            have ea129 := rf_I eS146 ea129
            have ea133 := rf_I eS146 ea133
            have ea138 := rf_I eS146 ea138
            have ea143 := rf_I eS146 ea143
            have l_a101 := ln_I eS146 l_a101
            have l_a107 := ln_I eS146 l_a107
            have l_a114 := ln_I eS146 l_a114
            have l_a125 := ln_I eS146 l_a125
            have l_a129 := ln_I eS146 l_a129
            have l_a133 := ln_I eS146 l_a133
            have l_a138 := ln_I eS146 l_a138
            have l_a143 := ln_I eS146 l_a143
            have g0 := gr_I eS146 g0
            have o_a101 := ob_I eS146 o_a101
            have o_a107 := ob_I eS146 o_a107
            have o_a114 := ob_I eS146 o_a114
            have o_a125 := ob_I eS146 o_a125
            have o_a129 := ob_I eS146 o_a129
            have o_a133 := ob_I eS146 o_a133
            have o_a138 := ob_I eS146 o_a138
            have o_a143 := ob_I eS146 o_a143
            have o_a4 := ob_I eS146 o_a4
            have o_v0 := ob_I eS146 o_v0
            refine ⟨a4, ea4, ?_⟩
            refine ⟨o_a4, ?_⟩
            obtain ⟨a148, ea148, o_a148, l_a148⟩ := shl 46 rfl hI o_a4
            refine ⟨a148, ea148, ?_⟩
            refine ⟨o_a148, ?_⟩
            have i149 : vp_in x99 (hN _ a148) := (vin l_a148 (m := 4) (by decide) (qr97 r_kv5 r_kv6 r_kv7 hnf r_x9 q_x9 ph1_S11 ph3_S11 ph1_S18 bb_x24 iw_x24 c28 bb_x29 iw_x29 c33 bb_x34 iw_x34 c38 bb_x39 iw_x39 c43 ph1_S46 ph3_S46 ph1_S52 ph1_S62 ph1_S69 ph1_S76 ph1_S83 ph1_S90 q_x96 c97 r_x99 q_x99 r_x103 q_x103 r_x109 q_x109 r_x116 q_x116 r_x121 q_x121 ex122))
            refine ⟨i149, ?_⟩
            intro S150 eS150
            have hIn : IV S150 := by rw [eS150]; exact iv10_aI hI o_a4 (rg_nw hG ea4) ea148 o_a148 (by decide)
            have hG := rg_a (jj := 24) (x := x99) eS150 hI ea4 o_a4 ea148 o_a148 (by decide) (h1_one (c := 4) (lo := 1) (hi := 9) (hf := 99) (by decide) (by rw [← d_x99]; exact (qr98 r_kv5 r_kv6 r_kv7 hnf r_x9 q_x9 ph1_S11 ph3_S11 ph1_S18 bb_x24 iw_x24 c28 bb_x29 iw_x29 c33 bb_x34 iw_x34 c38 bb_x39 iw_x39 c43 ph1_S46 ph3_S46 ph1_S52 ph1_S62 ph1_S69 ph1_S76 ph1_S83 ph1_S90 q_x96 c97 r_x99 q_x99 r_x103 q_x103 r_x109 q_x109 r_x116 q_x116 r_x121 q_x121 ex122))) (h2_no (y := 0) (by decide)) hG
            have el112 := el_ar eS150 (ow_ne hI o_a4 (by decide) o_a4 (by decide) ea148 ea107 (by decide)) el112
            have el119 := el_ar eS150 (ow_ne hI o_a4 (by decide) o_a4 (by decide) ea148 ea114 (by decide)) el119
            have hI := hIn
            have f0 := fr_A eS150 g0 f0 o_a148 (by decide)
            have d_kv6 := rd_Ik eS150 o_a148 o_a4 (by decide) d_kv6
            have d_x99 := rd_Ik eS150 o_a148 o_a4 (by decide) d_x99
            have d_x96 := rd_Ik eS150 o_a148 o_v0 (by decide) d_x96
            have d_kv94 := rd_Ik eS150 o_a148 o_v0 (by decide) d_kv94
            have d_kv95 := rd_Ik eS150 o_a148 o_v0 (by decide) d_kv95
            have d_x122 := rd_Ik eS150 o_a148 o_a4 (by decide) d_x122
            have ea4 := rf_I eS150 ea4
            have ea101 := rf_I eS150 ea101
            have ea107 := rf_I eS150 ea107
            have ea114 := rf_I eS150 ea114
            have ea125 := rf_I eS150 ea125
            have ea129 := rf_I eS150 ea129
            have ea133 := rf_I eS150 ea133
            have ea138 := rf_I eS150 ea138
            have ea143 := rf_I eS150 ea143
            have ea148 := rf_I eS150 ea148
            have l_a101 := ln_I eS150 l_a101
            have l_a107 := ln_I eS150 l_a107
            have l_a114 := ln_I eS150 l_a114
            have l_a125 := ln_I eS150 l_a125
            have l_a129 := ln_I eS150 l_a129
            have l_a133 := ln_I eS150 l_a133
            have l_a138 := ln_I eS150 l_a138
            have l_a143 := ln_I eS150 l_a143
            have l_a148 := ln_I eS150 l_a148
            have g0 := gr_I eS150 g0
            have o_a101 := ob_I eS150 o_a101
            have o_a107 := ob_I eS150 o_a107
            have o_a114 := ob_I eS150 o_a114
            have o_a125 := ob_I eS150 o_a125
            have o_a129 := ob_I eS150 o_a129
            have o_a133 := ob_I eS150 o_a133
            have o_a138 := ob_I eS150 o_a138
            have o_a143 := ob_I eS150 o_a143
            have o_a148 := ob_I eS150 o_a148
            have o_a4 := ob_I eS150 o_a4
            have o_v0 := ob_I eS150 o_v0
            have el151 : fI S150 a148 x99.toNatClampNeg = x82 := by rw [eS150]; exact u2_self _ _ _ _
            refine ⟨a4, ea4, ?_⟩
            refine ⟨o_a4, ?_⟩
            obtain ⟨a153, ea153, o_a153, l_a153⟩ := shl 47 rfl hI o_a4
            refine ⟨a153, ea153, ?_⟩
            refine ⟨o_a153, ?_⟩
            have i154 : vp_in x99 (hN _ a153) := (vin l_a153 (m := 4) (by decide) (qr97 r_kv5 r_kv6 r_kv7 hnf r_x9 q_x9 ph1_S11 ph3_S11 ph1_S18 bb_x24 iw_x24 c28 bb_x29 iw_x29 c33 bb_x34 iw_x34 c38 bb_x39 iw_x39 c43 ph1_S46 ph3_S46 ph1_S52 ph1_S62 ph1_S69 ph1_S76 ph1_S83 ph1_S90 q_x96 c97 r_x99 q_x99 r_x103 q_x103 r_x109 q_x109 r_x116 q_x116 r_x121 q_x121 ex122))
            refine ⟨i154, ?_⟩
            intro S155 eS155
            have hIn : IV S155 := by rw [eS155]; exact iv10_aI hI o_a4 (rg_nw hG ea4) ea153 o_a153 (by decide)
            have hG := rg_a (jj := 25) (x := x99) eS155 hI ea4 o_a4 ea153 o_a153 (by decide) (h1_one (c := 4) (lo := 0) (hi := 9) (hf := 99) (by decide) (by rw [← d_x99]; exact (qr98 r_kv5 r_kv6 r_kv7 hnf r_x9 q_x9 ph1_S11 ph3_S11 ph1_S18 bb_x24 iw_x24 c28 bb_x29 iw_x29 c33 bb_x34 iw_x34 c38 bb_x39 iw_x39 c43 ph1_S46 ph3_S46 ph1_S52 ph1_S62 ph1_S69 ph1_S76 ph1_S83 ph1_S90 q_x96 c97 r_x99 q_x99 r_x103 q_x103 r_x109 q_x109 r_x116 q_x116 r_x121 q_x121 ex122))) (h2_no (y := 0) (by decide)) hG
            have el112 := el_ar eS155 (ow_ne hI o_a4 (by decide) o_a4 (by decide) ea153 ea107 (by decide)) el112
            have el119 := el_ar eS155 (ow_ne hI o_a4 (by decide) o_a4 (by decide) ea153 ea114 (by decide)) el119
            have el151 := el_ar eS155 (ow_ne hI o_a4 (by decide) o_a4 (by decide) ea153 ea148 (by decide)) el151
            have hI := hIn
            have f0 := fr_A eS155 g0 f0 o_a153 (by decide)
            have d_kv6 := rd_Ik eS155 o_a153 o_a4 (by decide) d_kv6
            have d_x99 := rd_Ik eS155 o_a153 o_a4 (by decide) d_x99
            have d_x96 := rd_Ik eS155 o_a153 o_v0 (by decide) d_x96
            have d_kv94 := rd_Ik eS155 o_a153 o_v0 (by decide) d_kv94
            have d_kv95 := rd_Ik eS155 o_a153 o_v0 (by decide) d_kv95
            have d_x122 := rd_Ik eS155 o_a153 o_a4 (by decide) d_x122
            have ea4 := rf_I eS155 ea4
            have ea101 := rf_I eS155 ea101
            have ea107 := rf_I eS155 ea107
            have ea114 := rf_I eS155 ea114
            have ea125 := rf_I eS155 ea125
            have ea129 := rf_I eS155 ea129
            have ea133 := rf_I eS155 ea133
            have ea138 := rf_I eS155 ea138
            have ea143 := rf_I eS155 ea143
            have ea148 := rf_I eS155 ea148
            have ea153 := rf_I eS155 ea153
            have l_a101 := ln_I eS155 l_a101
            have l_a107 := ln_I eS155 l_a107
            have l_a114 := ln_I eS155 l_a114
            have l_a125 := ln_I eS155 l_a125
            have l_a129 := ln_I eS155 l_a129
            have l_a133 := ln_I eS155 l_a133
            have l_a138 := ln_I eS155 l_a138
            have l_a143 := ln_I eS155 l_a143
            have l_a148 := ln_I eS155 l_a148
            have l_a153 := ln_I eS155 l_a153
            have g0 := gr_I eS155 g0
            have o_a101 := ob_I eS155 o_a101
            have o_a107 := ob_I eS155 o_a107
            have o_a114 := ob_I eS155 o_a114
            have o_a125 := ob_I eS155 o_a125
            have o_a129 := ob_I eS155 o_a129
            have o_a133 := ob_I eS155 o_a133
            have o_a138 := ob_I eS155 o_a138
            have o_a143 := ob_I eS155 o_a143
            have o_a148 := ob_I eS155 o_a148
            have o_a153 := ob_I eS155 o_a153
            have o_a4 := ob_I eS155 o_a4
            have o_v0 := ob_I eS155 o_v0
            have el156 : fI S155 a153 x99.toNatClampNeg = x89 := by rw [eS155]; exact u2_self _ _ _ _
            refine ⟨a4, ea4, ?_⟩
            refine ⟨o_a4, ?_⟩
            intro x158 ex158
            have r_x158 : (0 : Int32) ≤ x158 ∧ x158 ≤ (4 : Int32) := by rw [ex158]; exact nu 20 rfl hI o_a4
            have q_x158 : x158 = x99 := ex158.trans d_x99.symm
            have d_x158 := ex158
            intro x159 ex159
            intro S160 eS160
            have hIn : IV S160 := by rw [eS160]; exact iv10_sI hI o_a4 (rg_nw hG ea4) (nu_one (lo := (0 : Int32)) (hi := (4 : Int32)) (by decide) (qr99 r_kv5 r_kv6 r_kv7 hnf r_x9 q_x9 ph1_S11 ph3_S11 ph1_S18 bb_x24 iw_x24 c28 bb_x29 iw_x29 c33 bb_x34 iw_x34 c38 bb_x39 iw_x39 c43 ph1_S46 ph3_S46 ph1_S52 ph1_S62 ph1_S69 ph1_S76 ph1_S83 ph1_S90 q_x96 c97 r_x99 q_x99 r_x103 q_x103 r_x109 q_x109 r_x116 q_x116 r_x121 q_x121 ex122 r_x158 q_x158 ex159))
            have hG := rg_inc (c := 4) (y := x158) eS160 hI ea4 o_a4 d_x158.symm (qr100 r_kv5 r_kv6 r_kv7 hnf r_x9 q_x9 ph1_S11 ph3_S11 ph1_S18 bb_x24 iw_x24 c28 bb_x29 iw_x29 c33 bb_x34 iw_x34 c38 bb_x39 iw_x39 c43 ph1_S46 ph3_S46 ph1_S52 ph1_S62 ph1_S69 ph1_S76 ph1_S83 ph1_S90 q_x96 c97 r_x99 q_x99 r_x103 q_x103 r_x109 q_x109 r_x116 q_x116 r_x121 q_x121 ex122 r_x158 q_x158 ex159) (qr101 r_kv5 r_kv6 r_kv7 hnf r_x9 q_x9 ph1_S11 ph3_S11 ph1_S18 bb_x24 iw_x24 c28 bb_x29 iw_x29 c33 bb_x34 iw_x34 c38 bb_x39 iw_x39 c43 ph1_S46 ph3_S46 ph1_S52 ph1_S62 ph1_S69 ph1_S76 ph1_S83 ph1_S90 q_x96 c97 r_x99 q_x99 r_x103 q_x103 r_x109 q_x109 r_x116 q_x116 r_x121 q_x121 ex122 r_x158 q_x158 ex159) (hn_4 ea148 (by rw [show x158 = x99 from (qr106 r_kv5 r_kv6 r_kv7 hnf r_x9 q_x9 ph1_S11 ph3_S11 ph1_S18 bb_x24 iw_x24 c28 bb_x29 iw_x29 c33 bb_x34 iw_x34 c38 bb_x39 iw_x39 c43 ph1_S46 ph3_S46 ph1_S52 ph1_S62 ph1_S69 ph1_S76 ph1_S83 ph1_S90 q_x96 c97 r_x99 q_x99 r_x103 q_x103 r_x109 q_x109 r_x116 q_x116 r_x121 q_x121 ex122 r_x158 q_x158 ex159), el151]; exact ⟨(qr107 r_kv5 r_kv6 r_kv7 hnf r_x9 q_x9 ph1_S11 ph3_S11 ph1_S18 bb_x24 iw_x24 c28 bb_x29 iw_x29 c33 bb_x34 iw_x34 c38 bb_x39 iw_x39 c43 ph1_S46 ph3_S46 ph1_S52 ph1_S62 ph1_S69 ph1_S76 ph1_S83 p_x82 ph1_S90 p_x89 q_x96 c97 r_x99 q_x99 r_x103 q_x103 r_x109 q_x109 r_x116 q_x116 r_x121 q_x121 ex122 r_x158 q_x158 ex159), (qr108 r_kv5 r_kv6 r_kv7 hnf r_x9 q_x9 ph1_S11 ph3_S11 ph1_S18 bb_x24 iw_x24 c28 bb_x29 iw_x29 c33 bb_x34 iw_x34 c38 bb_x39 iw_x39 c43 ph1_S46 ph3_S46 ph1_S52 ph1_S62 ph1_S69 ph1_S76 ph1_S83 p_x82 ph1_S90 p_x89 q_x96 c97 r_x99 q_x99 r_x103 q_x103 r_x109 q_x109 r_x116 q_x116 r_x121 q_x121 ex122 r_x158 q_x158 ex159), Or.inl rfl⟩) ea153 (by rw [show x158 = x99 from (qr106 r_kv5 r_kv6 r_kv7 hnf r_x9 q_x9 ph1_S11 ph3_S11 ph1_S18 bb_x24 iw_x24 c28 bb_x29 iw_x29 c33 bb_x34 iw_x34 c38 bb_x39 iw_x39 c43 ph1_S46 ph3_S46 ph1_S52 ph1_S62 ph1_S69 ph1_S76 ph1_S83 ph1_S90 q_x96 c97 r_x99 q_x99 r_x103 q_x103 r_x109 q_x109 r_x116 q_x116 r_x121 q_x121 ex122 r_x158 q_x158 ex159), el156]; exact ⟨(qr109 r_kv5 r_kv6 r_kv7 hnf r_x9 q_x9 ph1_S11 ph3_S11 ph1_S18 bb_x24 iw_x24 c28 bb_x29 iw_x29 c33 bb_x34 iw_x34 c38 bb_x39 iw_x39 c43 ph1_S46 ph3_S46 ph1_S52 ph1_S62 ph1_S69 ph1_S76 ph1_S83 p_x82 ph1_S90 p_x89 q_x96 c97 r_x99 q_x99 r_x103 q_x103 r_x109 q_x109 r_x116 q_x116 r_x121 q_x121 ex122 r_x158 q_x158 ex159), (qr110 r_kv5 r_kv6 r_kv7 hnf r_x9 q_x9 ph1_S11 ph3_S11 ph1_S18 bb_x24 iw_x24 c28 bb_x29 iw_x29 c33 bb_x34 iw_x34 c38 bb_x39 iw_x39 c43 ph1_S46 ph3_S46 ph1_S52 ph1_S62 ph1_S69 ph1_S76 ph1_S83 p_x82 ph1_S90 p_x89 q_x96 c97 r_x99 q_x99 r_x103 q_x103 r_x109 q_x109 r_x116 q_x116 r_x121 q_x121 ex122 r_x158 q_x158 ex159), Or.inl rfl⟩)) (hs_4 eS160 d_x158.symm d_kv6.symm (qr100 r_kv5 r_kv6 r_kv7 hnf r_x9 q_x9 ph1_S11 ph3_S11 ph1_S18 bb_x24 iw_x24 c28 bb_x29 iw_x29 c33 bb_x34 iw_x34 c38 bb_x39 iw_x39 c43 ph1_S46 ph3_S46 ph1_S52 ph1_S62 ph1_S69 ph1_S76 ph1_S83 ph1_S90 q_x96 c97 r_x99 q_x99 r_x103 q_x103 r_x109 q_x109 r_x116 q_x116 r_x121 q_x121 ex122 r_x158 q_x158 ex159) (qr101 r_kv5 r_kv6 r_kv7 hnf r_x9 q_x9 ph1_S11 ph3_S11 ph1_S18 bb_x24 iw_x24 c28 bb_x29 iw_x29 c33 bb_x34 iw_x34 c38 bb_x39 iw_x39 c43 ph1_S46 ph3_S46 ph1_S52 ph1_S62 ph1_S69 ph1_S76 ph1_S83 ph1_S90 q_x96 c97 r_x99 q_x99 r_x103 q_x103 r_x109 q_x109 r_x116 q_x116 r_x121 q_x121 ex122 r_x158 q_x158 ex159) (qr102 r_kv5 r_kv6 r_kv7 hnf r_x9 q_x9 ph1_S11 ph3_S11 ph1_S18 bb_x24 iw_x24 c28 bb_x29 iw_x29 c33 bb_x34 iw_x34 c38 bb_x39 iw_x39 c43 ph1_S46 ph3_S46 ph1_S52 ph1_S62 ph1_S69 ph1_S76 ph1_S83 ph1_S90 q_x96 c97 r_x99 q_x99 r_x103 q_x103 r_x109 q_x109 r_x116 q_x116 r_x121 q_x121 ex122 r_x158 q_x158 ex159) ea107 ea114 el112 (el119.trans (qr103 r_kv5 r_kv6 r_kv7 hnf r_x9 q_x9 ph1_S11 ph3_S11 ph1_S18 bb_x24 iw_x24 c28 bb_x29 iw_x29 c33 bb_x34 iw_x34 c38 bb_x39 iw_x39 c43 ph1_S46 ph3_S46 ph1_S52 ph1_S62 ph1_S69 ph1_S76 ph1_S83 ph1_S90 q_x96 c97 r_x99 q_x99 r_x103 q_x103 r_x109 q_x109 r_x116 q_x116 r_x121 q_x121 ex122 r_x158 q_x158 ex159)) (qr104 r_kv5 r_kv6 r_kv7 hnf r_x9 q_x9 ph1_S11 ph3_S11 ph1_S18 bb_x24 iw_x24 c28 bb_x29 iw_x29 c33 bb_x34 iw_x34 c38 bb_x39 iw_x39 c43 ph1_S46 ph3_S46 ph1_S52 ph1_S62 ph1_S69 ph1_S76 ph1_S83 ph1_S90 q_x96 c97 r_x99 q_x99 r_x103 q_x103 r_x109 q_x109 r_x116 q_x116 r_x121 q_x121 ex122 r_x158 q_x158 ex159) (qr105 r_kv5 r_kv6 r_kv7 hnf r_x9 q_x9 ph1_S11 ph3_S11 ph1_S18 bb_x24 iw_x24 c28 bb_x29 iw_x29 c33 bb_x34 iw_x34 c38 bb_x39 iw_x39 c43 ph1_S46 ph3_S46 ph1_S52 ph1_S62 ph1_S69 ph1_S76 ph1_S83 ph1_S90 q_x96 c97 r_x99 q_x99 r_x103 q_x103 r_x109 q_x109 r_x116 q_x116 r_x121 q_x121 ex122 r_x158 q_x158 ex159)) hG
            have el112 := el_ob eS160 o_a4 o_a107 (by decide) el112
            have el119 := el_ob eS160 o_a4 o_a114 (by decide) el119
            have el151 := el_ob eS160 o_a4 o_a148 (by decide) el151
            have el156 := el_ob eS160 o_a4 o_a153 (by decide) el156
            have hI := hIn
            have f0 := fr_I eS160 g0 f0 o_a4 (by decide)
            have d_kv6 := rd_Ij eS160 (by decide) d_kv6
            have d_x96 := rd_Ik eS160 o_a4 o_v0 (by decide) d_x96
            have d_kv94 := rd_Ik eS160 o_a4 o_v0 (by decide) d_kv94
            have d_kv95 := rd_Ik eS160 o_a4 o_v0 (by decide) d_kv95
            have d_x122 := rd_Ij eS160 (by decide) d_x122
            have d_x159 := rd_Is eS160 (rfl : x159 = x159)
            have ea4 := rf_I eS160 ea4
            have ea101 := rf_I eS160 ea101
            have ea107 := rf_I eS160 ea107
            have ea114 := rf_I eS160 ea114
            have ea125 := rf_I eS160 ea125
            have ea129 := rf_I eS160 ea129
            have ea133 := rf_I eS160 ea133
            have ea138 := rf_I eS160 ea138
            have ea143 := rf_I eS160 ea143
            have ea148 := rf_I eS160 ea148
            have ea153 := rf_I eS160 ea153
            have l_a101 := ln_I eS160 l_a101
            have l_a107 := ln_I eS160 l_a107
            have l_a114 := ln_I eS160 l_a114
            have l_a125 := ln_I eS160 l_a125
            have l_a129 := ln_I eS160 l_a129
            have l_a133 := ln_I eS160 l_a133
            have l_a138 := ln_I eS160 l_a138
            have l_a143 := ln_I eS160 l_a143
            have l_a148 := ln_I eS160 l_a148
            have l_a153 := ln_I eS160 l_a153
            have g0 := gr_I eS160 g0
            have o_a101 := ob_I eS160 o_a101
            have o_a107 := ob_I eS160 o_a107
            have o_a114 := ob_I eS160 o_a114
            have o_a125 := ob_I eS160 o_a125
            have o_a129 := ob_I eS160 o_a129
            have o_a133 := ob_I eS160 o_a133
            have o_a138 := ob_I eS160 o_a138
            have o_a143 := ob_I eS160 o_a143
            have o_a148 := ob_I eS160 o_a148
            have o_a153 := ob_I eS160 o_a153
            have o_a4 := ob_I eS160 o_a4
            have o_v0 := ob_I eS160 o_v0
            have hn : RN S160 v0 := fun z ez => by obtain rfl : a4 = z := Option.some.inj (ea4.symm.trans ez); rw [← d_x122, ← d_kv6, ← d_x159]; exact (qr111 r_kv5 r_kv6 r_kv7 hnf r_x9 q_x9 ph1_S11 ph3_S11 ph1_S18 bb_x24 iw_x24 c28 bb_x29 iw_x29 c33 bb_x34 iw_x34 c38 bb_x39 iw_x39 c43 ph1_S46 ph3_S46 ph1_S52 ph1_S62 ph1_S69 ph1_S76 ph1_S83 ph1_S90 q_x96 c97 r_x99 q_x99 r_x103 q_x103 r_x109 q_x109 r_x116 q_x116 r_x121 q_x121 ex122 r_x158 q_x158 ex159)
            exact hq _ hI g0 f0 ⟨hG, hn, (by have t : x96 = 5 → 0 < kv94 := (qr112 hO r_kv5 r_kv6 r_kv7 hnf r_x9 q_x9 ph0_S11 ph1_S11 ph3_S11 ph0_S18 ph1_S18 bb_x24 iw_x24 c28 bb_x29 iw_x29 c33 bb_x34 iw_x34 c38 bb_x39 iw_x39 c43 ph0_S46 ph1_S46 ph3_S46 ph0_S52 ph1_S52 ph0_S62 ph1_S62 ph0_S69 ph1_S69 ph0_S76 ph1_S76 ph0_S83 ph1_S83 ph0_S90 ph1_S90 q_x96 c97 r_x99 q_x99 r_x103 q_x103 r_x109 q_x109 r_x116 q_x116 r_x121 q_x121 ex122 r_x158 q_x158 ex159); rw [d_x96, d_kv94] at t; exact t), (by have t : x96 = 5 ∨ ¬ kv2 = 5 := (qr113 r_kv5 r_kv6 r_kv7 hnf r_x9 q_x9 ph1_S11 ph3_S11 ph1_S18 bb_x24 iw_x24 c28 bb_x29 iw_x29 c33 bb_x34 iw_x34 c38 bb_x39 iw_x39 c43 ph1_S46 ph3_S46 ph1_S52 ph1_S62 ph1_S69 ph1_S76 ph1_S83 ph1_S90 q_x96 c97 r_x99 q_x99 r_x103 q_x103 r_x109 q_x109 r_x116 q_x116 r_x121 q_x121 ex122 r_x158 q_x158 ex159); rw [di_9, d_x96] at t; exact t), (by have t : kv1 ≤ kv95 ∧ (x96 = 4 → kv1 < kv95 ∨ kv2 = 4) := (qr114 r_kv1 r_kv5 r_kv6 r_kv7 hnf r_x9 q_x9 ph1_S11 r_kv16 ph2_S11 ph3_S11 ph1_S18 r_kv23 ph2_S18 bb_x24 iw_x24 c28 bb_x29 iw_x29 c33 bb_x34 iw_x34 c38 bb_x39 iw_x39 c43 ph1_S46 ph2_S46 ph3_S46 ph1_S52 r_kv56 ph2_S52 ph1_S62 r_kv67 ph2_S62 ph1_S69 r_kv74 ph2_S69 ph1_S76 r_kv81 ph2_S76 ph1_S83 r_kv88 ph2_S83 ph1_S90 r_kv95 ph2_S90 q_x96 c97 r_x99 q_x99 r_x103 q_x103 r_x109 q_x109 r_x116 q_x116 r_x121 q_x121 ex122 r_x158 q_x158 ex159); rw [di_8, di_9, d_kv95, d_x96] at t; exact t)⟩
          · exact hq _ hI g0 f0 ⟨hG, hn, (by have t : x96 = 5 → 0 < kv94 := (qr115 hO r_kv5 r_kv6 r_kv7 hnf r_x9 q_x9 ph0_S11 ph1_S11 ph3_S11 ph0_S18 ph1_S18 bb_x24 iw_x24 c28 bb_x29 iw_x29 c33 bb_x34 iw_x34 c38 bb_x39 iw_x39 c43 ph0_S46 ph1_S46 ph3_S46 ph0_S52 ph1_S52 ph0_S62 ph1_S62 ph0_S69 ph1_S69 ph0_S76 ph1_S76 ph0_S83 ph1_S83 ph0_S90 ph1_S90 q_x96 c97); rw [d_x96, d_kv94] at t; exact t), (by have t : x96 = 5 ∨ ¬ kv2 = 5 := (qr116 r_kv5 r_kv6 r_kv7 hnf r_x9 q_x9 ph1_S11 ph3_S11 ph1_S18 bb_x24 iw_x24 c28 bb_x29 iw_x29 c33 bb_x34 iw_x34 c38 bb_x39 iw_x39 c43 ph1_S46 ph3_S46 ph1_S52 ph1_S62 ph1_S69 ph1_S76 ph1_S83 ph1_S90 q_x96 c97); rw [di_9, d_x96] at t; exact t), (by have t : kv1 ≤ kv95 ∧ (x96 = 4 → kv1 < kv95 ∨ kv2 = 4) := (qr117 r_kv1 r_kv5 r_kv6 r_kv7 hnf r_x9 q_x9 ph1_S11 r_kv16 ph2_S11 ph3_S11 ph1_S18 r_kv23 ph2_S18 bb_x24 iw_x24 c28 bb_x29 iw_x29 c33 bb_x34 iw_x34 c38 bb_x39 iw_x39 c43 ph1_S46 ph2_S46 ph3_S46 ph1_S52 r_kv56 ph2_S52 ph1_S62 r_kv67 ph2_S62 ph1_S69 r_kv74 ph2_S69 ph1_S76 r_kv81 ph2_S76 ph1_S83 r_kv88 ph2_S83 ph1_S90 r_kv95 ph2_S90 q_x96 c97); rw [di_8, di_9, d_kv95, d_x96] at t; exact t)⟩
        · refine u_X11_readWalker_74 ?_
          refine ⟨fun c161 => ?_, fun c161 => absurd (show (3 : Int32) = (-1 : Int32) from c161) (by decide)⟩
          refine u_X11_readWalker_85 ?_
          refine ⟨o_v0, ?_⟩
          have do161_kv23 := d_kv23
          have do161_kv21 := d_kv21
          have do161_kv22 := d_kv22
          refine m_X11_goesOn hI o_v0 hG (by have t : kv21 = 5 → 0 < kv22 := (qr118 hO r_kv5 r_kv6 r_kv7 hnf r_x9 q_x9 ph0_S11 ph1_S11 ph3_S11 ph0_S18 ph1_S18 bb_x24 iw_x24 c28 bb_x29 iw_x29 c33 bb_x34 iw_x34 c38 bb_x39 iw_x39 c43); rw [d_kv21, d_kv22] at t; exact t) (fun S163 hJ g164 fc165 p_S163 => ?_)
          obtain ⟨hG, pg0_S163, pg1_S163, pg2_S163⟩ := p_S163
          have hn := rn_fr fc165 g164 hI o_v0 (by decide) hn
          have hI := hJ
          have d_kv5 := d_kv5.trans (fri_at fc165 (by decide) (by decide) o_a4).symm
          have d_kv6 := d_kv6.trans (fri_at fc165 (by decide) (by decide) o_a4).symm
          have d_x9 := d_x9.trans (fri_at fc165 (by decide) (by decide) o_a4).symm
          have d_kv22 := d_kv22.trans (fri_at fc165 (by decide) (by decide) o_v0).symm
          have ea4 := (frr_at fc165 (by decide) (by decide) o_v0).trans ea4
          have f0 := fri_tr (S := S18) g0 f0 fc165 (by decide) (by decide)
          have o_a4 := gr_ob g164 o_a4
          have o_v0 := gr_ob g164 o_v0
          have g0 := gr_tr (T := S18) g0 g164
          obtain ⟨kv166, d_kv166⟩ : ∃ z : Int32, z = fI S163 v0 9 := ⟨_, rfl⟩
          have ph0_S163 : kv166 = 5 → 0 < kv22 := by rw [d_kv166, d_kv22]; exact pg0_S163
          have ph1_S163 : kv166 = 5 ∨ ¬ kv21 = 5 := by rw [do161_kv21, d_kv166]; exact pg1_S163
          obtain ⟨kv167, d_kv167⟩ : ∃ z : Int32, z = fI S163 v0 8 := ⟨_, rfl⟩
          have r_kv167 : (0 : Int32) ≤ kv167 ∧ kv167 ≤ (900 : Int32) := by rw [d_kv167]; exact nu 25 rfl hI o_v0
          have ph2_S163 : kv23 ≤ kv167 ∧ (kv166 = 4 → kv23 < kv167 ∨ kv21 = 4) := by rw [do161_kv23, do161_kv21, d_kv167, d_kv166]; exact pg2_S163
          intro _
          refine ⟨fun c168 => ?_, fun c168 => absurd (show (3 : Int32) = (1 : Int32) from c168) (by decide)⟩
          refine ⟨fun c169 => ?_, fun c169 => absurd (show (3 : Int32) = (2 : Int32) from c169) (by decide)⟩
          refine ⟨fun c170 => absurd (show ¬ (3 : Int32) = (3 : Int32) from c170) (by decide), fun c170 => ?_⟩
          have do170_kv167 := d_kv167
          have do170_kv166 := d_kv166
          have do170_kv22 := d_kv22
          refine m_X11_readWhole hI o_v0 hG (by have t : kv166 = 5 → 0 < kv22 := (qr119 hO r_kv5 r_kv6 r_kv7 hnf r_x9 q_x9 ph0_S11 ph1_S11 ph3_S11 ph0_S18 ph1_S18 bb_x24 iw_x24 c28 bb_x29 iw_x29 c33 bb_x34 iw_x34 c38 bb_x39 iw_x39 c43 ph0_S163 ph1_S163); rw [d_kv166, d_kv22] at t; exact t) (fun x171 S172 hJ g173 fc174 p_x171 => ?_)
          obtain ⟨hG, p_x171, pg0_S172, pg1_S172, pg2_S172⟩ := p_x171
          have hn := rn_fr fc174 g173 hI o_v0 (by decide) hn
          have hI := hJ
          have d_kv5 := d_kv5.trans (fri_at fc174 (by decide) (by decide) o_a4).symm
          have d_kv6 := d_kv6.trans (fri_at fc174 (by decide) (by decide) o_a4).symm
          have d_x9 := d_x9.trans (fri_at fc174 (by decide) (by decide) o_a4).symm
          have ea4 := (frr_at fc174 (by decide) (by decide) o_v0).trans ea4
          have f0 := fri_tr (S := S163) g0 f0 fc174 (by decide) (by decide)
          have o_a4 := gr_ob g173 o_a4
          have o_v0 := gr_ob g173 o_v0
          have g0 := gr_tr (T := S163) g0 g173
          obtain ⟨kv175, d_kv175⟩ : ∃ z : Int32, z = fI S172 v0 9 := ⟨_, rfl⟩
          obtain ⟨kv176, d_kv176⟩ : ∃ z : Int32, z = fI S172 v0 13 := ⟨_, rfl⟩
          have ph0_S172 : kv175 = 5 → 0 < kv176 := by rw [d_kv175, d_kv176]; exact pg0_S172
          have ph1_S172 : kv175 = 5 ∨ ¬ kv166 = 5 := by rw [do170_kv166, d_kv175]; exact pg1_S172
          obtain ⟨kv177, d_kv177⟩ : ∃ z : Int32, z = fI S172 v0 8 := ⟨_, rfl⟩
          have r_kv177 : (0 : Int32) ≤ kv177 ∧ kv177 ≤ (900 : Int32) := by rw [d_kv177]; exact nu 25 rfl hI o_v0
          have ph2_S172 : kv167 ≤ kv177 ∧ (kv175 = 4 → kv167 < kv177 ∨ kv166 = 4) := by rw [do170_kv167, do170_kv166, d_kv177, d_kv175]; exact pg2_S172
          intro _
          refine u_X11_readWalker_136 ?_
          refine ⟨fun c178 => ?_, fun c178 => absurd (show (3 : Int32) = (1 : Int32) from c178) (by decide)⟩
          refine u_X11_readWalker_149 ?_
          refine ⟨o_v0, ?_⟩
          have do178_kv177 := d_kv177
          have do178_kv175 := d_kv175
          have do178_kv176 := d_kv176
          refine m_X11_readPart hI o_v0 (by decide) hG (by have t : kv175 = 5 → 0 < kv176 := (qr120 hO r_kv5 r_kv6 r_kv7 hnf r_x9 q_x9 ph0_S11 ph1_S11 ph3_S11 ph0_S18 ph1_S18 bb_x24 iw_x24 c28 bb_x29 iw_x29 c33 bb_x34 iw_x34 c38 bb_x39 iw_x39 c43 ph0_S163 ph1_S163 ph0_S172 ph1_S172); rw [d_kv175, d_kv176] at t; exact t) (fun x179 S180 hJ g181 fc182 p_x179 => ?_)
          obtain ⟨hG, p_x179, pg0_S180, pg1_S180, pg2_S180⟩ := p_x179
          have hn := rn_fr fc182 g181 hI o_v0 (by decide) hn
          have hI := hJ
          have d_kv5 := d_kv5.trans (fri_at fc182 (by decide) (by decide) o_a4).symm
          have d_kv6 := d_kv6.trans (fri_at fc182 (by decide) (by decide) o_a4).symm
          have d_x9 := d_x9.trans (fri_at fc182 (by decide) (by decide) o_a4).symm
          have ea4 := (frr_at fc182 (by decide) (by decide) o_v0).trans ea4
          have f0 := fri_tr (S := S172) g0 f0 fc182 (by decide) (by decide)
          have o_a4 := gr_ob g181 o_a4
          have o_v0 := gr_ob g181 o_v0
          have g0 := gr_tr (T := S172) g0 g181
          obtain ⟨kv183, d_kv183⟩ : ∃ z : Int32, z = fI S180 v0 9 := ⟨_, rfl⟩
          obtain ⟨kv184, d_kv184⟩ : ∃ z : Int32, z = fI S180 v0 13 := ⟨_, rfl⟩
          have ph0_S180 : kv183 = 5 → 0 < kv184 := by rw [d_kv183, d_kv184]; exact pg0_S180
          have ph1_S180 : kv183 = 5 ∨ ¬ kv175 = 5 := by rw [do178_kv175, d_kv183]; exact pg1_S180
          obtain ⟨kv185, d_kv185⟩ : ∃ z : Int32, z = fI S180 v0 8 := ⟨_, rfl⟩
          have r_kv185 : (0 : Int32) ≤ kv185 ∧ kv185 ≤ (900 : Int32) := by rw [d_kv185]; exact nu 25 rfl hI o_v0
          have ph2_S180 : kv177 ≤ kv185 ∧ (kv183 = 4 → kv177 < kv185 ∨ kv175 = 4) := by rw [do178_kv177, do178_kv175, d_kv185, d_kv183]; exact pg2_S180
          intro _
          have do185_kv185 := d_kv185
          have do185_kv183 := d_kv183
          have do185_kv184 := d_kv184
          refine m_X11_readPart hI o_v0 (by decide) hG (by have t : kv183 = 5 → 0 < kv184 := (qr121 hO r_kv5 r_kv6 r_kv7 hnf r_x9 q_x9 ph0_S11 ph1_S11 ph3_S11 ph0_S18 ph1_S18 bb_x24 iw_x24 c28 bb_x29 iw_x29 c33 bb_x34 iw_x34 c38 bb_x39 iw_x39 c43 ph0_S163 ph1_S163 ph0_S172 ph1_S172 ph0_S180 ph1_S180); rw [d_kv183, d_kv184] at t; exact t) (fun x186 S187 hJ g188 fc189 p_x186 => ?_)
          obtain ⟨hG, p_x186, pg0_S187, pg1_S187, pg2_S187⟩ := p_x186
          have hn := rn_fr fc189 g188 hI o_v0 (by decide) hn
          have hI := hJ
          have d_kv5 := d_kv5.trans (fri_at fc189 (by decide) (by decide) o_a4).symm
          have d_kv6 := d_kv6.trans (fri_at fc189 (by decide) (by decide) o_a4).symm
          have d_x9 := d_x9.trans (fri_at fc189 (by decide) (by decide) o_a4).symm
          have ea4 := (frr_at fc189 (by decide) (by decide) o_v0).trans ea4
          have f0 := fri_tr (S := S180) g0 f0 fc189 (by decide) (by decide)
          have o_a4 := gr_ob g188 o_a4
          have o_v0 := gr_ob g188 o_v0
          have g0 := gr_tr (T := S180) g0 g188
          obtain ⟨kv190, d_kv190⟩ : ∃ z : Int32, z = fI S187 v0 9 := ⟨_, rfl⟩
          obtain ⟨kv191, d_kv191⟩ : ∃ z : Int32, z = fI S187 v0 13 := ⟨_, rfl⟩
          have ph0_S187 : kv190 = 5 → 0 < kv191 := by rw [d_kv190, d_kv191]; exact pg0_S187
          have ph1_S187 : kv190 = 5 ∨ ¬ kv183 = 5 := by rw [do185_kv183, d_kv190]; exact pg1_S187
          obtain ⟨kv192, d_kv192⟩ : ∃ z : Int32, z = fI S187 v0 8 := ⟨_, rfl⟩
          have r_kv192 : (0 : Int32) ≤ kv192 ∧ kv192 ≤ (900 : Int32) := by rw [d_kv192]; exact nu 25 rfl hI o_v0
          have ph2_S187 : kv185 ≤ kv192 ∧ (kv190 = 4 → kv185 < kv192 ∨ kv183 = 4) := by rw [do185_kv185, do185_kv183, d_kv192, d_kv190]; exact pg2_S187
          intro _
          have do192_kv192 := d_kv192
          have do192_kv190 := d_kv190
          have do192_kv191 := d_kv191
          refine m_X11_readPart hI o_v0 (by decide) hG (by have t : kv190 = 5 → 0 < kv191 := (qr122 hO r_kv5 r_kv6 r_kv7 hnf r_x9 q_x9 ph0_S11 ph1_S11 ph3_S11 ph0_S18 ph1_S18 bb_x24 iw_x24 c28 bb_x29 iw_x29 c33 bb_x34 iw_x34 c38 bb_x39 iw_x39 c43 ph0_S163 ph1_S163 ph0_S172 ph1_S172 ph0_S180 ph1_S180 ph0_S187 ph1_S187); rw [d_kv190, d_kv191] at t; exact t) (fun x193 S194 hJ g195 fc196 p_x193 => ?_)
          obtain ⟨hG, p_x193, pg0_S194, pg1_S194, pg2_S194⟩ := p_x193
          have hn := rn_fr fc196 g195 hI o_v0 (by decide) hn
          have hI := hJ
          have d_kv5 := d_kv5.trans (fri_at fc196 (by decide) (by decide) o_a4).symm
          have d_kv6 := d_kv6.trans (fri_at fc196 (by decide) (by decide) o_a4).symm
          have d_x9 := d_x9.trans (fri_at fc196 (by decide) (by decide) o_a4).symm
          have ea4 := (frr_at fc196 (by decide) (by decide) o_v0).trans ea4
          have f0 := fri_tr (S := S187) g0 f0 fc196 (by decide) (by decide)
          have o_a4 := gr_ob g195 o_a4
          have o_v0 := gr_ob g195 o_v0
          have g0 := gr_tr (T := S187) g0 g195
          obtain ⟨kv197, d_kv197⟩ : ∃ z : Int32, z = fI S194 v0 9 := ⟨_, rfl⟩
          obtain ⟨kv198, d_kv198⟩ : ∃ z : Int32, z = fI S194 v0 13 := ⟨_, rfl⟩
          have ph0_S194 : kv197 = 5 → 0 < kv198 := by rw [d_kv197, d_kv198]; exact pg0_S194
          have ph1_S194 : kv197 = 5 ∨ ¬ kv190 = 5 := by rw [do192_kv190, d_kv197]; exact pg1_S194
          obtain ⟨kv199, d_kv199⟩ : ∃ z : Int32, z = fI S194 v0 8 := ⟨_, rfl⟩
          have r_kv199 : (0 : Int32) ≤ kv199 ∧ kv199 ≤ (900 : Int32) := by rw [d_kv199]; exact nu 25 rfl hI o_v0
          have ph2_S194 : kv192 ≤ kv199 ∧ (kv197 = 4 → kv192 < kv199 ∨ kv190 = 4) := by rw [do192_kv192, do192_kv190, d_kv199, d_kv197]; exact pg2_S194
          intro _
          have do199_kv199 := d_kv199
          have do199_kv197 := d_kv197
          have do199_kv198 := d_kv198
          refine m_X11_readPart hI o_v0 (by decide) hG (by have t : kv197 = 5 → 0 < kv198 := (qr123 hO r_kv5 r_kv6 r_kv7 hnf r_x9 q_x9 ph0_S11 ph1_S11 ph3_S11 ph0_S18 ph1_S18 bb_x24 iw_x24 c28 bb_x29 iw_x29 c33 bb_x34 iw_x34 c38 bb_x39 iw_x39 c43 ph0_S163 ph1_S163 ph0_S172 ph1_S172 ph0_S180 ph1_S180 ph0_S187 ph1_S187 ph0_S194 ph1_S194); rw [d_kv197, d_kv198] at t; exact t) (fun x200 S201 hJ g202 fc203 p_x200 => ?_)
          obtain ⟨hG, p_x200, pg0_S201, pg1_S201, pg2_S201⟩ := p_x200
          have hn := rn_fr fc203 g202 hI o_v0 (by decide) hn
          have hI := hJ
          have d_kv5 := d_kv5.trans (fri_at fc203 (by decide) (by decide) o_a4).symm
          have d_kv6 := d_kv6.trans (fri_at fc203 (by decide) (by decide) o_a4).symm
          have d_x9 := d_x9.trans (fri_at fc203 (by decide) (by decide) o_a4).symm
          have ea4 := (frr_at fc203 (by decide) (by decide) o_v0).trans ea4
          have f0 := fri_tr (S := S194) g0 f0 fc203 (by decide) (by decide)
          have o_a4 := gr_ob g202 o_a4
          have o_v0 := gr_ob g202 o_v0
          have g0 := gr_tr (T := S194) g0 g202
          obtain ⟨kv204, d_kv204⟩ : ∃ z : Int32, z = fI S201 v0 9 := ⟨_, rfl⟩
          obtain ⟨kv205, d_kv205⟩ : ∃ z : Int32, z = fI S201 v0 13 := ⟨_, rfl⟩
          have ph0_S201 : kv204 = 5 → 0 < kv205 := by rw [d_kv204, d_kv205]; exact pg0_S201
          have ph1_S201 : kv204 = 5 ∨ ¬ kv197 = 5 := by rw [do199_kv197, d_kv204]; exact pg1_S201
          obtain ⟨kv206, d_kv206⟩ : ∃ z : Int32, z = fI S201 v0 8 := ⟨_, rfl⟩
          have r_kv206 : (0 : Int32) ≤ kv206 ∧ kv206 ≤ (900 : Int32) := by rw [d_kv206]; exact nu 25 rfl hI o_v0
          have ph2_S201 : kv199 ≤ kv206 ∧ (kv204 = 4 → kv199 < kv206 ∨ kv197 = 4) := by rw [do199_kv199, do199_kv197, d_kv206, d_kv204]; exact pg2_S201
          intro _
          have do206_kv206 := d_kv206
          have do206_kv204 := d_kv204
          have do206_kv205 := d_kv205
          refine m_X11_readPart hI o_v0 (by decide) hG (by have t : kv204 = 5 → 0 < kv205 := (qr124 hO r_kv5 r_kv6 r_kv7 hnf r_x9 q_x9 ph0_S11 ph1_S11 ph3_S11 ph0_S18 ph1_S18 bb_x24 iw_x24 c28 bb_x29 iw_x29 c33 bb_x34 iw_x34 c38 bb_x39 iw_x39 c43 ph0_S163 ph1_S163 ph0_S172 ph1_S172 ph0_S180 ph1_S180 ph0_S187 ph1_S187 ph0_S194 ph1_S194 ph0_S201 ph1_S201); rw [d_kv204, d_kv205] at t; exact t) (fun x207 S208 hJ g209 fc210 p_x207 => ?_)
          obtain ⟨hG, p_x207, pg0_S208, pg1_S208, pg2_S208⟩ := p_x207
          have hn := rn_fr fc210 g209 hI o_v0 (by decide) hn
          have hI := hJ
          have d_kv5 := d_kv5.trans (fri_at fc210 (by decide) (by decide) o_a4).symm
          have d_kv6 := d_kv6.trans (fri_at fc210 (by decide) (by decide) o_a4).symm
          have d_x9 := d_x9.trans (fri_at fc210 (by decide) (by decide) o_a4).symm
          have ea4 := (frr_at fc210 (by decide) (by decide) o_v0).trans ea4
          have f0 := fri_tr (S := S201) g0 f0 fc210 (by decide) (by decide)
          have o_a4 := gr_ob g209 o_a4
          have o_v0 := gr_ob g209 o_v0
          have g0 := gr_tr (T := S201) g0 g209
          obtain ⟨kv211, d_kv211⟩ : ∃ z : Int32, z = fI S208 v0 9 := ⟨_, rfl⟩
          obtain ⟨kv212, d_kv212⟩ : ∃ z : Int32, z = fI S208 v0 13 := ⟨_, rfl⟩
          have ph0_S208 : kv211 = 5 → 0 < kv212 := by rw [d_kv211, d_kv212]; exact pg0_S208
          have ph1_S208 : kv211 = 5 ∨ ¬ kv204 = 5 := by rw [do206_kv204, d_kv211]; exact pg1_S208
          obtain ⟨kv213, d_kv213⟩ : ∃ z : Int32, z = fI S208 v0 8 := ⟨_, rfl⟩
          have r_kv213 : (0 : Int32) ≤ kv213 ∧ kv213 ≤ (900 : Int32) := by rw [d_kv213]; exact nu 25 rfl hI o_v0
          have ph2_S208 : kv206 ≤ kv213 ∧ (kv211 = 4 → kv206 < kv213 ∨ kv204 = 4) := by rw [do206_kv206, do206_kv204, d_kv213, d_kv211]; exact pg2_S208
          intro _
          intro x214 ex214
          have q_x214 : x214 = kv211 := ex214.trans d_kv211.symm
          have d_x214 := ex214
          refine ⟨fun c215 => ?_, fun c215 => ?_⟩
          · refine ⟨a4, ea4, ?_⟩
            refine ⟨o_a4, ?_⟩
            intro x217 ex217
            have r_x217 : (0 : Int32) ≤ x217 ∧ x217 ≤ (4 : Int32) := by rw [ex217]; exact nu 20 rfl hI o_a4
            have q_x217 : x217 = x9 := ex217.trans d_x9.symm
            have d_x217 := ex217
            refine u_X11_names ?_
            refine u_X11_names_0 ?_
            refine ⟨o_v0, ?_⟩
            refine ⟨a4, ea4, ?_⟩
            refine ⟨o_a4, ?_⟩
            obtain ⟨a219, ea219, o_a219, l_a219⟩ := shl 50 rfl hI o_a4
            refine ⟨a219, ea219, ?_⟩
            refine ⟨a4, ea4, ?_⟩
            refine ⟨o_a4, ?_⟩
            intro x221 ex221
            have r_x221 : (0 : Int32) ≤ x221 ∧ x221 ≤ (12 : Int32) := by rw [ex221]; exact nu 22 rfl hI o_a4
            have q_x221 : x221 = kv5 := ex221.trans d_kv5.symm
            have d_x221 := ex221
            refine ⟨o_a219, ?_⟩
            have i222 : vp_in x221 (hN _ a219) := (vin l_a219 (m := 12) (by decide) (qr125 r_kv5 r_kv6 r_kv7 hnf r_x9 q_x9 ph1_S11 ph3_S11 ph1_S18 bb_x24 iw_x24 c28 bb_x29 iw_x29 c33 bb_x34 iw_x34 c38 bb_x39 iw_x39 c43 ph1_S163 ph1_S172 ph1_S180 ph1_S187 ph1_S194 ph1_S201 ph1_S208 q_x214 c215 r_x217 q_x217 r_x221 q_x221))
            refine ⟨i222, ?_⟩
            intro S223 eS223
            have hIn : IV S223 := by rw [eS223]; exact iv10_aJ hI o_a4 (by decide) ea219
            have hG := rg_J eS223 hG
            have hn := rn_J eS223 hn
            have hI := hIn
            have f0 := fr_J eS223 f0
            have d_x221 := rd_J eS223 d_x221
            have d_kv6 := rd_J eS223 d_kv6
            have d_x217 := rd_J eS223 d_x217
            have d_x214 := rd_J eS223 d_x214
            have d_kv212 := rd_J eS223 d_kv212
            have d_kv213 := rd_J eS223 d_kv213
            have ea4 := rf_J eS223 ea4
            have ea219 := rf_J eS223 ea219
            have l_a219 := ln_J eS223 l_a219
            have g0 := gr_J eS223 g0
            have o_a219 := ob_J eS223 o_a219
            have o_a4 := ob_J eS223 o_a4
            have o_v0 := ob_J eS223 o_v0
            refine ⟨a4, ea4, ?_⟩
            refine ⟨o_a4, ?_⟩
            obtain ⟨a225, ea225, o_a225, l_a225⟩ := shl 51 rfl hI o_a4
            refine ⟨a225, ea225, ?_⟩
            refine ⟨a4, ea4, ?_⟩
            refine ⟨o_a4, ?_⟩
            intro x227 ex227
            have r_x227 : (0 : Int32) ≤ x227 ∧ x227 ≤ (12 : Int32) := by rw [ex227]; exact nu 22 rfl hI o_a4
            have q_x227 : x227 = x221 := ex227.trans d_x221.symm
            have d_x227 := ex227
            refine ⟨o_a225, ?_⟩
            have i228 : vp_in x227 (hN _ a225) := (vin l_a225 (m := 12) (by decide) (qr126 r_kv5 r_kv6 r_kv7 hnf r_x9 q_x9 ph1_S11 ph3_S11 ph1_S18 bb_x24 iw_x24 c28 bb_x29 iw_x29 c33 bb_x34 iw_x34 c38 bb_x39 iw_x39 c43 ph1_S163 ph1_S172 ph1_S180 ph1_S187 ph1_S194 ph1_S201 ph1_S208 q_x214 c215 r_x217 q_x217 r_x221 q_x221 r_x227 q_x227))
            refine ⟨i228, ?_⟩
            intro S229 eS229
            have hIn : IV S229 := by rw [eS229]; exact iv10_aI hI o_a4 (rg_nw hG ea4) ea225 o_a225 (by decide)
            have hG := rg_a (jj := 29) (x := x227) eS229 hI ea4 o_a4 ea225 o_a225 (by decide) (h1_no (by decide)) (fun _ => by rw [← d_kv6, ← d_x217]; exact (qr127 r_kv5 r_kv6 r_kv7 hnf r_x9 q_x9 ph1_S11 ph3_S11 ph1_S18 bb_x24 iw_x24 c28 bb_x29 iw_x29 c33 bb_x34 iw_x34 c38 bb_x39 iw_x39 c43 ph1_S163 ph1_S172 ph1_S180 ph1_S187 ph1_S194 ph1_S201 ph1_S208 q_x214 c215 r_x217 q_x217 r_x221 q_x221 r_x227 q_x227)) hG
            have hn := rn_11 eS229 hI o_v0 o_a225 (by decide) hn
            have hI := hIn
            have f0 := fr_A eS229 g0 f0 o_a225 (by decide)
            have d_x227 := rd_Ik eS229 o_a225 o_a4 (by decide) d_x227
            have d_kv6 := rd_Ik eS229 o_a225 o_a4 (by decide) d_kv6
            have d_x217 := rd_Ik eS229 o_a225 o_a4 (by decide) d_x217
            have d_x214 := rd_Ik eS229 o_a225 o_v0 (by decide) d_x214
            have d_kv212 := rd_Ik eS229 o_a225 o_v0 (by decide) d_kv212
            have d_kv213 := rd_Ik eS229 o_a225 o_v0 (by decide) d_kv213
            have ea4 := rf_I eS229 ea4
            have ea219 := rf_I eS229 ea219
            have ea225 := rf_I eS229 ea225
            have l_a219 := ln_I eS229 l_a219
            have l_a225 := ln_I eS229 l_a225
            have g0 := gr_I eS229 g0
            have o_a219 := ob_I eS229 o_a219
            have o_a225 := ob_I eS229 o_a225
            have o_a4 := ob_I eS229 o_a4
            have o_v0 := ob_I eS229 o_v0
            have el230 : fI S229 a225 x227.toNatClampNeg = (1 : Int32) := by rw [eS229]; exact u2_self _ _ _ _
            refine ⟨a4, ea4, ?_⟩
            refine ⟨o_a4, ?_⟩
            obtain ⟨a232, ea232, o_a232, l_a232⟩ := shl 52 rfl hI o_a4
            refine ⟨a232, ea232, ?_⟩
            refine ⟨a4, ea4, ?_⟩
            refine ⟨o_a4, ?_⟩
            intro x234 ex234
            have r_x234 : (0 : Int32) ≤ x234 ∧ x234 ≤ (12 : Int32) := by rw [ex234]; exact nu 22 rfl hI o_a4
            have q_x234 : x234 = x227 := ex234.trans d_x227.symm
            have d_x234 := ex234
            refine ⟨o_a232, ?_⟩
            have i235 : vp_in x234 (hN _ a232) := (vin l_a232 (m := 12) (by decide) (qr128 r_kv5 r_kv6 r_kv7 hnf r_x9 q_x9 ph1_S11 ph3_S11 ph1_S18 bb_x24 iw_x24 c28 bb_x29 iw_x29 c33 bb_x34 iw_x34 c38 bb_x39 iw_x39 c43 ph1_S163 ph1_S172 ph1_S180 ph1_S187 ph1_S194 ph1_S201 ph1_S208 q_x214 c215 r_x217 q_x217 r_x221 q_x221 r_x227 q_x227 r_x234 q_x234))
            refine ⟨i235, ?_⟩
            intro S236 eS236
            have hIn : IV S236 := by rw [eS236]; exact iv10_aI hI o_a4 (rg_nw hG ea4) ea232 o_a232 (by decide)
            have hG := rg_a (jj := 30) (x := x234) eS236 hI ea4 o_a4 ea232 o_a232 (by decide) (h1_no (by decide)) (fun _ => by rw [← d_kv6, ← d_x217]; exact (qr129 r_kv5 r_kv6 r_kv7 hnf r_x9 q_x9 ph1_S11 ph3_S11 ph1_S18 bb_x24 iw_x24 c28 bb_x29 iw_x29 c33 bb_x34 iw_x34 c38 bb_x39 iw_x39 c43 ph1_S163 ph1_S172 ph1_S180 ph1_S187 ph1_S194 ph1_S201 ph1_S208 q_x214 c215 r_x217 q_x217 r_x221 q_x221 r_x227 q_x227 r_x234 q_x234)) hG
            have hn := rn_11 eS236 hI o_v0 o_a232 (by decide) hn
            have el230 := el_ar eS236 (ow_ne hI o_a4 (by decide) o_a4 (by decide) ea232 ea225 (by decide)) el230
            have hI := hIn
            have f0 := fr_A eS236 g0 f0 o_a232 (by decide)
            have d_x234 := rd_Ik eS236 o_a232 o_a4 (by decide) d_x234
            have d_kv6 := rd_Ik eS236 o_a232 o_a4 (by decide) d_kv6
            have d_x217 := rd_Ik eS236 o_a232 o_a4 (by decide) d_x217
            have d_x214 := rd_Ik eS236 o_a232 o_v0 (by decide) d_x214
            have d_kv212 := rd_Ik eS236 o_a232 o_v0 (by decide) d_kv212
            have d_kv213 := rd_Ik eS236 o_a232 o_v0 (by decide) d_kv213
            have ea4 := rf_I eS236 ea4
            have ea219 := rf_I eS236 ea219
            have ea225 := rf_I eS236 ea225
            have ea232 := rf_I eS236 ea232
            have l_a219 := ln_I eS236 l_a219
            have l_a225 := ln_I eS236 l_a225
            have l_a232 := ln_I eS236 l_a232
            have g0 := gr_I eS236 g0
            have o_a219 := ob_I eS236 o_a219
            have o_a225 := ob_I eS236 o_a225
            have o_a232 := ob_I eS236 o_a232
            have o_a4 := ob_I eS236 o_a4
            have o_v0 := ob_I eS236 o_v0
            have el237 : fI S236 a232 x234.toNatClampNeg = x217 := by rw [eS236]; exact u2_self _ _ _ _
            refine ⟨a4, ea4, ?_⟩
            refine ⟨o_a4, ?_⟩
            intro x239 ex239
            have r_x239 : (0 : Int32) ≤ x239 ∧ x239 ≤ (12 : Int32) := by rw [ex239]; exact nu 22 rfl hI o_a4
            have q_x239 : x239 = x234 := ex239.trans d_x234.symm
            have d_x239 := ex239
            intro x240 ex240
            intro S241 eS241
            have hIn : IV S241 := by rw [eS241]; exact iv10_sI hI o_a4 (rg_nw hG ea4) (nu_one (lo := (0 : Int32)) (hi := (12 : Int32)) (by decide) (qr130 r_kv5 r_kv6 r_kv7 hnf r_x9 q_x9 ph1_S11 ph3_S11 ph1_S18 bb_x24 iw_x24 c28 bb_x29 iw_x29 c33 bb_x34 iw_x34 c38 bb_x39 iw_x39 c43 ph1_S163 ph1_S172 ph1_S180 ph1_S187 ph1_S194 ph1_S201 ph1_S208 q_x214 c215 r_x217 q_x217 r_x221 q_x221 r_x227 q_x227 r_x234 q_x234 r_x239 q_x239 ex240))
            have hG := rg_c eS241 hI ea4 o_a4 (by decide) hG
            have el230 := el_ob eS241 o_a4 o_a225 (by decide) el230
            have el237 := el_ob eS241 o_a4 o_a232 (by decide) el237
            have hI := hIn
            have f0 := fr_I eS241 g0 f0 o_a4 (by decide)
            have d_kv6 := rd_Ij eS241 (by decide) d_kv6
            have d_x217 := rd_Ij eS241 (by decide) d_x217
            have d_x214 := rd_Ik eS241 o_a4 o_v0 (by decide) d_x214
            have d_kv212 := rd_Ik eS241 o_a4 o_v0 (by decide) d_kv212
            have d_kv213 := rd_Ik eS241 o_a4 o_v0 (by decide) d_kv213
            have d_x240 := rd_Is eS241 (rfl : x240 = x240)
            have ea4 := rf_I eS241 ea4
            have ea219 := rf_I eS241 ea219
            have ea225 := rf_I eS241 ea225
            have ea232 := rf_I eS241 ea232
            have l_a219 := ln_I eS241 l_a219
            have l_a225 := ln_I eS241 l_a225
            have l_a232 := ln_I eS241 l_a232
            have g0 := gr_I eS241 g0
            have o_a219 := ob_I eS241 o_a219
            have o_a225 := ob_I eS241 o_a225
            have o_a232 := ob_I eS241 o_a232
            have o_a4 := ob_I eS241 o_a4
            have o_v0 := ob_I eS241 o_v0
            intro _
            refine ⟨a4, ea4, ?_⟩
            refine ⟨o_a4, ?_⟩
            obtain ⟨a243, ea243, o_a243, l_a243⟩ := shl 41 rfl hI o_a4
            refine ⟨a243, ea243, ?_⟩
            refine ⟨o_a243, ?_⟩
            have i244 : vp_in x217 (hN _ a243) := (vin l_a243 (m := 4) (by decide) (qr131 r_kv5 r_kv6 r_kv7 hnf r_x9 q_x9 ph1_S11 ph3_S11 ph1_S18 bb_x24 iw_x24 c28 bb_x29 iw_x29 c33 bb_x34 iw_x34 c38 bb_x39 iw_x39 c43 ph1_S163 ph1_S172 ph1_S180 ph1_S187 ph1_S194 ph1_S201 ph1_S208 q_x214 c215 r_x217 q_x217 r_x221 q_x221 r_x227 q_x227 r_x234 q_x234 r_x239 q_x239 ex240))
            refine ⟨i244, ?_⟩
            intro S245 eS245
            have hIn : IV S245 := by rw [eS245]; exact iv10_aI hI o_a4 (rg_nw hG ea4) ea243 o_a243 (by decide)
            have hG := rg_a (jj := 19) (x := x217) eS245 hI ea4 o_a4 ea243 o_a243 (by decide) (h1_no (by decide)) (h2_no (y := 0) (by decide)) hG
            have el230 := el_ar eS245 (ow_ne hI o_a4 (by decide) o_a4 (by decide) ea243 ea225 (by decide)) el230
            have el237 := el_ar eS245 (ow_ne hI o_a4 (by decide) o_a4 (by decide) ea243 ea232 (by decide)) el237
            have hI := hIn
            have f0 := fr_A eS245 g0 f0 o_a243 (by decide)
            have d_kv6 := rd_Ik eS245 o_a243 o_a4 (by decide) d_kv6
            have d_x217 := rd_Ik eS245 o_a243 o_a4 (by decide) d_x217
            have d_x214 := rd_Ik eS245 o_a243 o_v0 (by decide) d_x214
            have d_kv212 := rd_Ik eS245 o_a243 o_v0 (by decide) d_kv212
            have d_kv213 := rd_Ik eS245 o_a243 o_v0 (by decide) d_kv213
            have d_x240 := rd_Ik eS245 o_a243 o_a4 (by decide) d_x240
            have ea4 := rf_I eS245 ea4
            have ea219 := rf_I eS245 ea219
            have ea225 := rf_I eS245 ea225
            have ea232 := rf_I eS245 ea232
            have ea243 := rf_I eS245 ea243
            have l_a219 := ln_I eS245 l_a219
            have l_a225 := ln_I eS245 l_a225
            have l_a232 := ln_I eS245 l_a232
            have l_a243 := ln_I eS245 l_a243
            have g0 := gr_I eS245 g0
            have o_a219 := ob_I eS245 o_a219
            have o_a225 := ob_I eS245 o_a225
            have o_a232 := ob_I eS245 o_a232
            have o_a243 := ob_I eS245 o_a243
            have o_a4 := ob_I eS245 o_a4
            have o_v0 := ob_I eS245 o_v0
            refine ⟨a4, ea4, ?_⟩
            refine ⟨o_a4, ?_⟩
            obtain ⟨a247, ea247, o_a247, l_a247⟩ := shl 42 rfl hI o_a4
            refine ⟨a247, ea247, ?_⟩
            refine ⟨o_a247, ?_⟩
            have i248 : vp_in x217 (hN _ a247) := (vin l_a247 (m := 4) (by decide) (qr131 r_kv5 r_kv6 r_kv7 hnf r_x9 q_x9 ph1_S11 ph3_S11 ph1_S18 bb_x24 iw_x24 c28 bb_x29 iw_x29 c33 bb_x34 iw_x34 c38 bb_x39 iw_x39 c43 ph1_S163 ph1_S172 ph1_S180 ph1_S187 ph1_S194 ph1_S201 ph1_S208 q_x214 c215 r_x217 q_x217 r_x221 q_x221 r_x227 q_x227 r_x234 q_x234 r_x239 q_x239 ex240))
            refine ⟨i248, ?_⟩
            intro S249 eS249
            have hIn : IV S249 := by rw [eS249]; exact iv10_aI hI o_a4 (rg_nw hG ea4) ea247 o_a247 (by decide)
            have hG := rg_a (jj := 20) (x := x217) eS249 hI ea4 o_a4 ea247 o_a247 (by decide) (h1_no (by decide)) (h2_no (y := 0) (by decide)) hG
            have el230 := el_ar eS249 (ow_ne hI o_a4 (by decide) o_a4 (by decide) ea247 ea225 (by decide)) el230
            have el237 := el_ar eS249 (ow_ne hI o_a4 (by decide) o_a4 (by decide) ea247 ea232 (by decide)) el237
            have hI := hIn
            have f0 := fr_A eS249 g0 f0 o_a247 (by decide)
            have d_kv6 := rd_Ik eS249 o_a247 o_a4 (by decide) d_kv6
            have d_x217 := rd_Ik eS249 o_a247 o_a4 (by decide) d_x217
            have d_x214 := rd_Ik eS249 o_a247 o_v0 (by decide) d_x214
            have d_kv212 := rd_Ik eS249 o_a247 o_v0 (by decide) d_kv212
            have d_kv213 := rd_Ik eS249 o_a247 o_v0 (by decide) d_kv213
            have d_x240 := rd_Ik eS249 o_a247 o_a4 (by decide) d_x240
            have ea4 := rf_I eS249 ea4
            have ea219 := rf_I eS249 ea219
            have ea225 := rf_I eS249 ea225
            have ea232 := rf_I eS249 ea232
            have ea243 := rf_I eS249 ea243
            have ea247 := rf_I eS249 ea247
            have l_a219 := ln_I eS249 l_a219
            have l_a225 := ln_I eS249 l_a225
            have l_a232 := ln_I eS249 l_a232
            have l_a243 := ln_I eS249 l_a243
            have l_a247 := ln_I eS249 l_a247
            have g0 := gr_I eS249 g0
            have o_a219 := ob_I eS249 o_a219
            have o_a225 := ob_I eS249 o_a225
            have o_a232 := ob_I eS249 o_a232
            have o_a243 := ob_I eS249 o_a243
            have o_a247 := ob_I eS249 o_a247
            have o_a4 := ob_I eS249 o_a4
            have o_v0 := ob_I eS249 o_v0
            refine ⟨a4, ea4, ?_⟩
            refine ⟨o_a4, ?_⟩
            obtain ⟨a251, ea251, o_a251, l_a251⟩ := shl 43 rfl hI o_a4
            refine ⟨a251, ea251, ?_⟩
            refine ⟨o_a251, ?_⟩
            intro x252 ex252
            have i253 : vp_in x217 (hN _ a251) := (vin l_a251 (m := 4) (by decide) (qr131 r_kv5 r_kv6 r_kv7 hnf r_x9 q_x9 ph1_S11 ph3_S11 ph1_S18 bb_x24 iw_x24 c28 bb_x29 iw_x29 c33 bb_x34 iw_x34 c38 bb_x39 iw_x39 c43 ph1_S163 ph1_S172 ph1_S180 ph1_S187 ph1_S194 ph1_S201 ph1_S208 q_x214 c215 r_x217 q_x217 r_x221 q_x221 r_x227 q_x227 r_x234 q_x234 r_x239 q_x239 ex240))
            refine ⟨i253, ?_⟩
            intro S254 eS254
            have hIn : IV S254 := by rw [eS254]; exact iv10_aI hI o_a4 (rg_nw hG ea4) ea251 o_a251 (by decide)
            have hG := rg_a (jj := 21) (x := x217) eS254 hI ea4 o_a4 ea251 o_a251 (by decide) (h1_no (by decide)) (h2_no (y := 0) (by decide)) hG
            have el230 := el_ar eS254 (ow_ne hI o_a4 (by decide) o_a4 (by decide) ea251 ea225 (by decide)) el230
            have el237 := el_ar eS254 (ow_ne hI o_a4 (by decide) o_a4 (by decide) ea251 ea232 (by decide)) el237
            have hI := hIn
            have f0 := fr_A eS254 g0 f0 o_a251 (by decide)
            have d_kv6 := rd_Ik eS254 o_a251 o_a4 (by decide) d_kv6
            have d_x217 := rd_Ik eS254 o_a251 o_a4 (by decide) d_x217
            have d_x214 := rd_Ik eS254 o_a251 o_v0 (by decide) d_x214
            have d_kv212 := rd_Ik eS254 o_a251 o_v0 (by decide) d_kv212
            have d_kv213 := rd_Ik eS254 o_a251 o_v0 (by decide) d_kv213
            have d_x240 := rd_Ik eS254 o_a251 o_a4 (by decide) d_x240
            have ea4 := rf_I eS254 ea4
            have ea219 := rf_I eS254 ea219
            have ea225 := rf_I eS254 ea225
            have ea232 := rf_I eS254 ea232
            have ea243 := rf_I eS254 ea243
            have ea247 := rf_I eS254 ea247
            have ea251 := rf_I eS254 ea251
            have l_a219 := ln_I eS254 l_a219
            have l_a225 := ln_I eS254 l_a225
            have l_a232 := ln_I eS254 l_a232
            have l_a243 := ln_I eS254 l_a243
            have l_a247 := ln_I eS254 l_a247
            have l_a251 := ln_I eS254 l_a251
            have g0 := gr_I eS254 g0
            have o_a219 := ob_I eS254 o_a219
            have o_a225 := ob_I eS254 o_a225
            have o_a232 := ob_I eS254 o_a232
            have o_a243 := ob_I eS254 o_a243
            have o_a247 := ob_I eS254 o_a247
            have o_a251 := ob_I eS254 o_a251
            have o_a4 := ob_I eS254 o_a4
            have o_v0 := ob_I eS254 o_v0
            refine ⟨a4, ea4, ?_⟩
            refine ⟨o_a4, ?_⟩
            obtain ⟨a256, ea256, o_a256, l_a256⟩ := shl 44 rfl hI o_a4
            refine ⟨a256, ea256, ?_⟩
            refine ⟨o_a256, ?_⟩
            intro x257 ex257
            have i258 : vp_in x217 (hN _ a256) := (vin l_a256 (m := 4) (by decide) (qr131 r_kv5 r_kv6 r_kv7 hnf r_x9 q_x9 ph1_S11 ph3_S11 ph1_S18 bb_x24 iw_x24 c28 bb_x29 iw_x29 c33 bb_x34 iw_x34 c38 bb_x39 iw_x39 c43 ph1_S163 ph1_S172 ph1_S180 ph1_S187 ph1_S194 ph1_S201 ph1_S208 q_x214 c215 r_x217 q_x217 r_x221 q_x221 r_x227 q_x227 r_x234 q_x234 r_x239 q_x239 ex240))
            refine ⟨i258, ?_⟩
            intro S259 eS259
            have hIn : IV S259 := by rw [eS259]; exact iv10_aI hI o_a4 (rg_nw hG ea4) ea256 o_a256 (by decide)
            have hG := rg_a (jj := 22) (x := x217) eS259 hI ea4 o_a4 ea256 o_a256 (by decide) (h1_no (by decide)) (h2_no (y := 0) (by decide)) hG
            have el230 := el_ar eS259 (ow_ne hI o_a4 (by decide) o_a4 (by decide) ea256 ea225 (by decide)) el230
            have el237 := el_ar eS259 (ow_ne hI o_a4 (by decide) o_a4 (by decide) ea256 ea232 (by decide)) el237
            have hI := hIn
            have f0 := fr_A eS259 g0 f0 o_a256 (by decide)
            have d_kv6 := rd_Ik eS259 o_a256 o_a4 (by decide) d_kv6
            have d_x217 := rd_Ik eS259 o_a256 o_a4 (by decide) d_x217
            have d_x214 := rd_Ik eS259 o_a256 o_v0 (by decide) d_x214
            have d_kv212 := rd_Ik eS259 o_a256 o_v0 (by decide) d_kv212
            have d_kv213 := rd_Ik eS259 o_a256 o_v0 (by decide) d_kv213
            have d_x240 := rd_Ik eS259 o_a256 o_a4 (by decide) d_x240
            have ea4 := rf_I eS259 ea4
            have ea219 := rf_I eS259 ea219
            have ea225 := rf_I eS259 ea225
            have ea232 := rf_I eS259 ea232
            have ea243 := rf_I eS259 ea243
            have ea247 := rf_I eS259 ea247
            have ea251 := rf_I eS259 ea251
            have ea256 := rf_I eS259 ea256
            have l_a219 := ln_I eS259 l_a219
            have l_a225 := ln_I eS259 l_a225
            have l_a232 := ln_I eS259 l_a232
            have l_a243 := ln_I eS259 l_a243
            have l_a247 := ln_I eS259 l_a247
            have l_a251 := ln_I eS259 l_a251
            have l_a256 := ln_I eS259 l_a256
            have g0 := gr_I eS259 g0
            have o_a219 := ob_I eS259 o_a219
            have o_a225 := ob_I eS259 o_a225
            have o_a232 := ob_I eS259 o_a232
            have o_a243 := ob_I eS259 o_a243
            have o_a247 := ob_I eS259 o_a247
            have o_a251 := ob_I eS259 o_a251
            have o_a256 := ob_I eS259 o_a256
            have o_a4 := ob_I eS259 o_a4
            have o_v0 := ob_I eS259 o_v0
            refine ⟨a4, ea4, ?_⟩
            refine ⟨o_a4, ?_⟩
            obtain ⟨a261, ea261, o_a261, l_a261⟩ := shl 45 rfl hI o_a4
            refine ⟨a261, ea261, ?_⟩
            refine ⟨o_a261, ?_⟩
            intro x262 ex262
            have i263 : vp_in x217 (hN _ a261) := (vin l_a261 (m := 4) (by decide) (qr131 r_kv5 r_kv6 r_kv7 hnf r_x9 q_x9 ph1_S11 ph3_S11 ph1_S18 bb_x24 iw_x24 c28 bb_x29 iw_x29 c33 bb_x34 iw_x34 c38 bb_x39 iw_x39 c43 ph1_S163 ph1_S172 ph1_S180 ph1_S187 ph1_S194 ph1_S201 ph1_S208 q_x214 c215 r_x217 q_x217 r_x221 q_x221 r_x227 q_x227 r_x234 q_x234 r_x239 q_x239 ex240))
            refine ⟨i263, ?_⟩
            intro S264 eS264
            have hIn : IV S264 := by rw [eS264]; exact iv10_aI hI o_a4 (rg_nw hG ea4) ea261 o_a261 (by decide)
            have hG := rg_a (jj := 23) (x := x217) eS264 hI ea4 o_a4 ea261 o_a261 (by decide) (h1_no (by decide)) (h2_no (y := 0) (by decide)) hG
            have el230 := el_ar eS264 (ow_ne hI o_a4 (by decide) o_a4 (by decide) ea261 ea225 (by decide)) el230
            have el237 := el_ar eS264 (ow_ne hI o_a4 (by decide) o_a4 (by decide) ea261 ea232 (by decide)) el237
            have hI := hIn
            have f0 := fr_A eS264 g0 f0 o_a261 (by decide)
            have d_kv6 := rd_Ik eS264 o_a261 o_a4 (by decide) d_kv6
            have d_x217 := rd_Ik eS264 o_a261 o_a4 (by decide) d_x217
            have d_x214 := rd_Ik eS264 o_a261 o_v0 (by decide) d_x214
            have d_kv212 := rd_Ik eS264 o_a261 o_v0 (by decide) d_kv212
            have d_kv213 := rd_Ik eS264 o_a261 o_v0 (by decide) d_kv213
            have d_x240 := rd_Ik eS264 o_a261 o_a4 (by decide) d_x240
            have ea4 := rf_I eS264 ea4
            have ea219 := rf_I eS264 ea219
            have ea225 := rf_I eS264 ea225
            have ea232 := rf_I eS264 ea232
            have ea243 := rf_I eS264 ea243
            have ea247 := rf_I eS264 ea247
            have ea251 := rf_I eS264 ea251
            have ea256 := rf_I eS264 ea256
            have ea261 := rf_I eS264 ea261
            have l_a219 := ln_I eS264 l_a219
            have l_a225 := ln_I eS264 l_a225
            have l_a232 := ln_I eS264 l_a232
            have l_a243 := ln_I eS264 l_a243
            have l_a247 := ln_I eS264 l_a247
            have l_a251 := ln_I eS264 l_a251
            have l_a256 := ln_I eS264 l_a256
            have l_a261 := ln_I eS264 l_a261
            have g0 := gr_I eS264 g0
            have o_a219 := ob_I eS264 o_a219
            have o_a225 := ob_I eS264 o_a225
            have o_a232 := ob_I eS264 o_a232
            have o_a243 := ob_I eS264 o_a243
            have o_a247 := ob_I eS264 o_a247
            have o_a251 := ob_I eS264 o_a251
            have o_a256 := ob_I eS264 o_a256
            have o_a261 := ob_I eS264 o_a261
            have o_a4 := ob_I eS264 o_a4
            have o_v0 := ob_I eS264 o_v0
            refine ⟨a4, ea4, ?_⟩
            refine ⟨o_a4, ?_⟩
            obtain ⟨a266, ea266, o_a266, l_a266⟩ := shl 46 rfl hI o_a4
            refine ⟨a266, ea266, ?_⟩
            refine ⟨o_a266, ?_⟩
            have i267 : vp_in x217 (hN _ a266) := (vin l_a266 (m := 4) (by decide) (qr131 r_kv5 r_kv6 r_kv7 hnf r_x9 q_x9 ph1_S11 ph3_S11 ph1_S18 bb_x24 iw_x24 c28 bb_x29 iw_x29 c33 bb_x34 iw_x34 c38 bb_x39 iw_x39 c43 ph1_S163 ph1_S172 ph1_S180 ph1_S187 ph1_S194 ph1_S201 ph1_S208 q_x214 c215 r_x217 q_x217 r_x221 q_x221 r_x227 q_x227 r_x234 q_x234 r_x239 q_x239 ex240))
            refine ⟨i267, ?_⟩
            intro S268 eS268
            have hIn : IV S268 := by rw [eS268]; exact iv10_aI hI o_a4 (rg_nw hG ea4) ea266 o_a266 (by decide)
            have hG := rg_a (jj := 24) (x := x217) eS268 hI ea4 o_a4 ea266 o_a266 (by decide) (h1_one (c := 4) (lo := 1) (hi := 9) (hf := 99) (by decide) (by rw [← d_x217]; exact (qr132 r_kv5 r_kv6 r_kv7 hnf r_x9 q_x9 ph1_S11 ph3_S11 ph1_S18 bb_x24 iw_x24 c28 bb_x29 iw_x29 c33 bb_x34 iw_x34 c38 bb_x39 iw_x39 c43 ph1_S163 ph1_S172 ph1_S180 ph1_S187 ph1_S194 ph1_S201 ph1_S208 q_x214 c215 r_x217 q_x217 r_x221 q_x221 r_x227 q_x227 r_x234 q_x234 r_x239 q_x239 ex240))) (h2_no (y := 0) (by decide)) hG
            have el230 := el_ar eS268 (ow_ne hI o_a4 (by decide) o_a4 (by decide) ea266 ea225 (by decide)) el230
            have el237 := el_ar eS268 (ow_ne hI o_a4 (by decide) o_a4 (by decide) ea266 ea232 (by decide)) el237
            have hI := hIn
            have f0 := fr_A eS268 g0 f0 o_a266 (by decide)
            have d_kv6 := rd_Ik eS268 o_a266 o_a4 (by decide) d_kv6
            have d_x217 := rd_Ik eS268 o_a266 o_a4 (by decide) d_x217
            have d_x214 := rd_Ik eS268 o_a266 o_v0 (by decide) d_x214
            have d_kv212 := rd_Ik eS268 o_a266 o_v0 (by decide) d_kv212
            have d_kv213 := rd_Ik eS268 o_a266 o_v0 (by decide) d_kv213
            have d_x240 := rd_Ik eS268 o_a266 o_a4 (by decide) d_x240
            have ea4 := rf_I eS268 ea4
            have ea219 := rf_I eS268 ea219
            have ea225 := rf_I eS268 ea225
            have ea232 := rf_I eS268 ea232
            have ea243 := rf_I eS268 ea243
            have ea247 := rf_I eS268 ea247
            have ea251 := rf_I eS268 ea251
            have ea256 := rf_I eS268 ea256
            have ea261 := rf_I eS268 ea261
            have ea266 := rf_I eS268 ea266
            have l_a219 := ln_I eS268 l_a219
            have l_a225 := ln_I eS268 l_a225
            have l_a232 := ln_I eS268 l_a232
            have l_a243 := ln_I eS268 l_a243
            have l_a247 := ln_I eS268 l_a247
            have l_a251 := ln_I eS268 l_a251
            have l_a256 := ln_I eS268 l_a256
            have l_a261 := ln_I eS268 l_a261
            have l_a266 := ln_I eS268 l_a266
            have g0 := gr_I eS268 g0
            have o_a219 := ob_I eS268 o_a219
            have o_a225 := ob_I eS268 o_a225
            have o_a232 := ob_I eS268 o_a232
            have o_a243 := ob_I eS268 o_a243
            have o_a247 := ob_I eS268 o_a247
            have o_a251 := ob_I eS268 o_a251
            have o_a256 := ob_I eS268 o_a256
            have o_a261 := ob_I eS268 o_a261
            have o_a266 := ob_I eS268 o_a266
            have o_a4 := ob_I eS268 o_a4
            have o_v0 := ob_I eS268 o_v0
            have el269 : fI S268 a266 x217.toNatClampNeg = x200 := by rw [eS268]; exact u2_self _ _ _ _
            refine ⟨a4, ea4, ?_⟩
            refine ⟨o_a4, ?_⟩
            obtain ⟨a271, ea271, o_a271, l_a271⟩ := shl 47 rfl hI o_a4
            refine ⟨a271, ea271, ?_⟩
            refine ⟨o_a271, ?_⟩
            have i272 : vp_in x217 (hN _ a271) := (vin l_a271 (m := 4) (by decide) (qr131 r_kv5 r_kv6 r_kv7 hnf r_x9 q_x9 ph1_S11 ph3_S11 ph1_S18 bb_x24 iw_x24 c28 bb_x29 iw_x29 c33 bb_x34 iw_x34 c38 bb_x39 iw_x39 c43 ph1_S163 ph1_S172 ph1_S180 ph1_S187 ph1_S194 ph1_S201 ph1_S208 q_x214 c215 r_x217 q_x217 r_x221 q_x221 r_x227 q_x227 r_x234 q_x234 r_x239 q_x239 ex240))
            refine ⟨i272, ?_⟩
            intro S273 eS273
            have hIn : IV S273 := by rw [eS273]; exact iv10_aI hI o_a4 (rg_nw hG ea4) ea271 o_a271 (by decide)
            have hG := rg_a (jj := 25) (x := x217) eS273 hI ea4 o_a4 ea271 o_a271 (by decide) (h1_one (c := 4) (lo := 0) (hi := 9) (hf := 99) (by decide) (by rw [← d_x217]; exact (qr132 r_kv5 r_kv6 r_kv7 hnf r_x9 q_x9 ph1_S11 ph3_S11 ph1_S18 bb_x24 iw_x24 c28 bb_x29 iw_x29 c33 bb_x34 iw_x34 c38 bb_x39 iw_x39 c43 ph1_S163 ph1_S172 ph1_S180 ph1_S187 ph1_S194 ph1_S201 ph1_S208 q_x214 c215 r_x217 q_x217 r_x221 q_x221 r_x227 q_x227 r_x234 q_x234 r_x239 q_x239 ex240))) (h2_no (y := 0) (by decide)) hG
            have el230 := el_ar eS273 (ow_ne hI o_a4 (by decide) o_a4 (by decide) ea271 ea225 (by decide)) el230
            have el237 := el_ar eS273 (ow_ne hI o_a4 (by decide) o_a4 (by decide) ea271 ea232 (by decide)) el237
            have el269 := el_ar eS273 (ow_ne hI o_a4 (by decide) o_a4 (by decide) ea271 ea266 (by decide)) el269
            have hI := hIn
            have f0 := fr_A eS273 g0 f0 o_a271 (by decide)
            have d_kv6 := rd_Ik eS273 o_a271 o_a4 (by decide) d_kv6
            have d_x217 := rd_Ik eS273 o_a271 o_a4 (by decide) d_x217
            have d_x214 := rd_Ik eS273 o_a271 o_v0 (by decide) d_x214
            have d_kv212 := rd_Ik eS273 o_a271 o_v0 (by decide) d_kv212
            have d_kv213 := rd_Ik eS273 o_a271 o_v0 (by decide) d_kv213
            have d_x240 := rd_Ik eS273 o_a271 o_a4 (by decide) d_x240
            have ea4 := rf_I eS273 ea4
            have ea219 := rf_I eS273 ea219
            have ea225 := rf_I eS273 ea225
            have ea232 := rf_I eS273 ea232
            have ea243 := rf_I eS273 ea243
            have ea247 := rf_I eS273 ea247
            have ea251 := rf_I eS273 ea251
            have ea256 := rf_I eS273 ea256
            have ea261 := rf_I eS273 ea261
            have ea266 := rf_I eS273 ea266
            have ea271 := rf_I eS273 ea271
            have l_a219 := ln_I eS273 l_a219
            have l_a225 := ln_I eS273 l_a225
            have l_a232 := ln_I eS273 l_a232
            have l_a243 := ln_I eS273 l_a243
            have l_a247 := ln_I eS273 l_a247
            have l_a251 := ln_I eS273 l_a251
            have l_a256 := ln_I eS273 l_a256
            have l_a261 := ln_I eS273 l_a261
            have l_a266 := ln_I eS273 l_a266
            have l_a271 := ln_I eS273 l_a271
            have g0 := gr_I eS273 g0
            have o_a219 := ob_I eS273 o_a219
            have o_a225 := ob_I eS273 o_a225
            have o_a232 := ob_I eS273 o_a232
            have o_a243 := ob_I eS273 o_a243
            have o_a247 := ob_I eS273 o_a247
            have o_a251 := ob_I eS273 o_a251
            have o_a256 := ob_I eS273 o_a256
            have o_a261 := ob_I eS273 o_a261
            have o_a266 := ob_I eS273 o_a266
            have o_a271 := ob_I eS273 o_a271
            have o_a4 := ob_I eS273 o_a4
            have o_v0 := ob_I eS273 o_v0
            have el274 : fI S273 a271 x217.toNatClampNeg = x207 := by rw [eS273]; exact u2_self _ _ _ _
            refine ⟨a4, ea4, ?_⟩
            refine ⟨o_a4, ?_⟩
            intro x276 ex276
            have r_x276 : (0 : Int32) ≤ x276 ∧ x276 ≤ (4 : Int32) := by rw [ex276]; exact nu 20 rfl hI o_a4
            have q_x276 : x276 = x217 := ex276.trans d_x217.symm
            have d_x276 := ex276
            intro x277 ex277
            intro S278 eS278
            have hIn : IV S278 := by rw [eS278]; exact iv10_sI hI o_a4 (rg_nw hG ea4) (nu_one (lo := (0 : Int32)) (hi := (4 : Int32)) (by decide) (qr133 r_kv5 r_kv6 r_kv7 hnf r_x9 q_x9 ph1_S11 ph3_S11 ph1_S18 bb_x24 iw_x24 c28 bb_x29 iw_x29 c33 bb_x34 iw_x34 c38 bb_x39 iw_x39 c43 ph1_S163 ph1_S172 ph1_S180 ph1_S187 ph1_S194 ph1_S201 ph1_S208 q_x214 c215 r_x217 q_x217 r_x221 q_x221 r_x227 q_x227 r_x234 q_x234 r_x239 q_x239 ex240 r_x276 q_x276 ex277))
            have hG := rg_inc (c := 4) (y := x276) eS278 hI ea4 o_a4 d_x276.symm (qr134 r_kv5 r_kv6 r_kv7 hnf r_x9 q_x9 ph1_S11 ph3_S11 ph1_S18 bb_x24 iw_x24 c28 bb_x29 iw_x29 c33 bb_x34 iw_x34 c38 bb_x39 iw_x39 c43 ph1_S163 ph1_S172 ph1_S180 ph1_S187 ph1_S194 ph1_S201 ph1_S208 q_x214 c215 r_x217 q_x217 r_x221 q_x221 r_x227 q_x227 r_x234 q_x234 r_x239 q_x239 ex240 r_x276 q_x276 ex277) (qr135 r_kv5 r_kv6 r_kv7 hnf r_x9 q_x9 ph1_S11 ph3_S11 ph1_S18 bb_x24 iw_x24 c28 bb_x29 iw_x29 c33 bb_x34 iw_x34 c38 bb_x39 iw_x39 c43 ph1_S163 ph1_S172 ph1_S180 ph1_S187 ph1_S194 ph1_S201 ph1_S208 q_x214 c215 r_x217 q_x217 r_x221 q_x221 r_x227 q_x227 r_x234 q_x234 r_x239 q_x239 ex240 r_x276 q_x276 ex277) (hn_4 ea266 (by rw [show x276 = x217 from (qr140 r_kv5 r_kv6 r_kv7 hnf r_x9 q_x9 ph1_S11 ph3_S11 ph1_S18 bb_x24 iw_x24 c28 bb_x29 iw_x29 c33 bb_x34 iw_x34 c38 bb_x39 iw_x39 c43 ph1_S163 ph1_S172 ph1_S180 ph1_S187 ph1_S194 ph1_S201 ph1_S208 q_x214 c215 r_x217 q_x217 r_x221 q_x221 r_x227 q_x227 r_x234 q_x234 r_x239 q_x239 ex240 r_x276 q_x276 ex277), el269]; exact ⟨(qr141 r_kv5 r_kv6 r_kv7 hnf r_x9 q_x9 ph1_S11 ph3_S11 ph1_S18 bb_x24 iw_x24 c28 bb_x29 iw_x29 c33 bb_x34 iw_x34 c38 bb_x39 iw_x39 c43 ph1_S163 ph1_S172 ph1_S180 ph1_S187 ph1_S194 ph1_S201 p_x200 ph1_S208 p_x207 q_x214 c215 r_x217 q_x217 r_x221 q_x221 r_x227 q_x227 r_x234 q_x234 r_x239 q_x239 ex240 r_x276 q_x276 ex277), (qr142 r_kv5 r_kv6 r_kv7 hnf r_x9 q_x9 ph1_S11 ph3_S11 ph1_S18 bb_x24 iw_x24 c28 bb_x29 iw_x29 c33 bb_x34 iw_x34 c38 bb_x39 iw_x39 c43 ph1_S163 ph1_S172 ph1_S180 ph1_S187 ph1_S194 ph1_S201 p_x200 ph1_S208 p_x207 q_x214 c215 r_x217 q_x217 r_x221 q_x221 r_x227 q_x227 r_x234 q_x234 r_x239 q_x239 ex240 r_x276 q_x276 ex277), Or.inl rfl⟩) ea271 (by rw [show x276 = x217 from (qr140 r_kv5 r_kv6 r_kv7 hnf r_x9 q_x9 ph1_S11 ph3_S11 ph1_S18 bb_x24 iw_x24 c28 bb_x29 iw_x29 c33 bb_x34 iw_x34 c38 bb_x39 iw_x39 c43 ph1_S163 ph1_S172 ph1_S180 ph1_S187 ph1_S194 ph1_S201 ph1_S208 q_x214 c215 r_x217 q_x217 r_x221 q_x221 r_x227 q_x227 r_x234 q_x234 r_x239 q_x239 ex240 r_x276 q_x276 ex277), el274]; exact ⟨(qr143 r_kv5 r_kv6 r_kv7 hnf r_x9 q_x9 ph1_S11 ph3_S11 ph1_S18 bb_x24 iw_x24 c28 bb_x29 iw_x29 c33 bb_x34 iw_x34 c38 bb_x39 iw_x39 c43 ph1_S163 ph1_S172 ph1_S180 ph1_S187 ph1_S194 ph1_S201 p_x200 ph1_S208 p_x207 q_x214 c215 r_x217 q_x217 r_x221 q_x221 r_x227 q_x227 r_x234 q_x234 r_x239 q_x239 ex240 r_x276 q_x276 ex277), (qr144 r_kv5 r_kv6 r_kv7 hnf r_x9 q_x9 ph1_S11 ph3_S11 ph1_S18 bb_x24 iw_x24 c28 bb_x29 iw_x29 c33 bb_x34 iw_x34 c38 bb_x39 iw_x39 c43 ph1_S163 ph1_S172 ph1_S180 ph1_S187 ph1_S194 ph1_S201 p_x200 ph1_S208 p_x207 q_x214 c215 r_x217 q_x217 r_x221 q_x221 r_x227 q_x227 r_x234 q_x234 r_x239 q_x239 ex240 r_x276 q_x276 ex277), Or.inl rfl⟩)) (hs_4 eS278 d_x276.symm d_kv6.symm (qr134 r_kv5 r_kv6 r_kv7 hnf r_x9 q_x9 ph1_S11 ph3_S11 ph1_S18 bb_x24 iw_x24 c28 bb_x29 iw_x29 c33 bb_x34 iw_x34 c38 bb_x39 iw_x39 c43 ph1_S163 ph1_S172 ph1_S180 ph1_S187 ph1_S194 ph1_S201 ph1_S208 q_x214 c215 r_x217 q_x217 r_x221 q_x221 r_x227 q_x227 r_x234 q_x234 r_x239 q_x239 ex240 r_x276 q_x276 ex277) (qr135 r_kv5 r_kv6 r_kv7 hnf r_x9 q_x9 ph1_S11 ph3_S11 ph1_S18 bb_x24 iw_x24 c28 bb_x29 iw_x29 c33 bb_x34 iw_x34 c38 bb_x39 iw_x39 c43 ph1_S163 ph1_S172 ph1_S180 ph1_S187 ph1_S194 ph1_S201 ph1_S208 q_x214 c215 r_x217 q_x217 r_x221 q_x221 r_x227 q_x227 r_x234 q_x234 r_x239 q_x239 ex240 r_x276 q_x276 ex277) (qr136 r_kv5 r_kv6 r_kv7 hnf r_x9 q_x9 ph1_S11 ph3_S11 ph1_S18 bb_x24 iw_x24 c28 bb_x29 iw_x29 c33 bb_x34 iw_x34 c38 bb_x39 iw_x39 c43 ph1_S163 ph1_S172 ph1_S180 ph1_S187 ph1_S194 ph1_S201 ph1_S208 q_x214 c215 r_x217 q_x217 r_x221 q_x221 r_x227 q_x227 r_x234 q_x234 r_x239 q_x239 ex240 r_x276 q_x276 ex277) ea225 ea232 el230 (el237.trans (qr137 r_kv5 r_kv6 r_kv7 hnf r_x9 q_x9 ph1_S11 ph3_S11 ph1_S18 bb_x24 iw_x24 c28 bb_x29 iw_x29 c33 bb_x34 iw_x34 c38 bb_x39 iw_x39 c43 ph1_S163 ph1_S172 ph1_S180 ph1_S187 ph1_S194 ph1_S201 ph1_S208 q_x214 c215 r_x217 q_x217 r_x221 q_x221 r_x227 q_x227 r_x234 q_x234 r_x239 q_x239 ex240 r_x276 q_x276 ex277)) (qr138 r_kv5 r_kv6 r_kv7 hnf r_x9 q_x9 ph1_S11 ph3_S11 ph1_S18 bb_x24 iw_x24 c28 bb_x29 iw_x29 c33 bb_x34 iw_x34 c38 bb_x39 iw_x39 c43 ph1_S163 ph1_S172 ph1_S180 ph1_S187 ph1_S194 ph1_S201 ph1_S208 q_x214 c215 r_x217 q_x217 r_x221 q_x221 r_x227 q_x227 r_x234 q_x234 r_x239 q_x239 ex240 r_x276 q_x276 ex277) (qr139 r_kv5 r_kv6 r_kv7 hnf r_x9 q_x9 ph1_S11 ph3_S11 ph1_S18 bb_x24 iw_x24 c28 bb_x29 iw_x29 c33 bb_x34 iw_x34 c38 bb_x39 iw_x39 c43 ph1_S163 ph1_S172 ph1_S180 ph1_S187 ph1_S194 ph1_S201 ph1_S208 q_x214 c215 r_x217 q_x217 r_x221 q_x221 r_x227 q_x227 r_x234 q_x234 r_x239 q_x239 ex240 r_x276 q_x276 ex277)) hG
            have el230 := el_ob eS278 o_a4 o_a225 (by decide) el230
            have el237 := el_ob eS278 o_a4 o_a232 (by decide) el237
            have el269 := el_ob eS278 o_a4 o_a266 (by decide) el269
            have el274 := el_ob eS278 o_a4 o_a271 (by decide) el274
            have hI := hIn
            have f0 := fr_I eS278 g0 f0 o_a4 (by decide)
            have d_kv6 := rd_Ij eS278 (by decide) d_kv6
            have d_x214 := rd_Ik eS278 o_a4 o_v0 (by decide) d_x214
            have d_kv212 := rd_Ik eS278 o_a4 o_v0 (by decide) d_kv212
            have d_kv213 := rd_Ik eS278 o_a4 o_v0 (by decide) d_kv213
            have d_x240 := rd_Ij eS278 (by decide) d_x240
            have d_x277 := rd_Is eS278 (rfl : x277 = x277)
            have ea4 := rf_I eS278 ea4
            have ea219 := rf_I eS278 ea219
            have ea225 := rf_I eS278 ea225
            have ea232 := rf_I eS278 ea232
            have ea243 := rf_I eS278 ea243
            have ea247 := rf_I eS278 ea247
            have ea251 := rf_I eS278 ea251
            have ea256 := rf_I eS278 ea256
            have ea261 := rf_I eS278 ea261
            have ea266 := rf_I eS278 ea266
            have ea271 := rf_I eS278 ea271
            have l_a219 := ln_I eS278 l_a219
            have l_a225 := ln_I eS278 l_a225
            have l_a232 := ln_I eS278 l_a232
            have l_a243 := ln_I eS278 l_a243
            have l_a247 := ln_I eS278 l_a247
            have l_a251 := ln_I eS278 l_a251
            have l_a256 := ln_I eS278 l_a256
            have l_a261 := ln_I eS278 l_a261
            have l_a266 := ln_I eS278 l_a266
            have l_a271 := ln_I eS278 l_a271
            have g0 := gr_I eS278 g0
            have o_a219 := ob_I eS278 o_a219
            have o_a225 := ob_I eS278 o_a225
            have o_a232 := ob_I eS278 o_a232
            have o_a243 := ob_I eS278 o_a243
            have o_a247 := ob_I eS278 o_a247
            have o_a251 := ob_I eS278 o_a251
            have o_a256 := ob_I eS278 o_a256
            have o_a261 := ob_I eS278 o_a261
            have o_a266 := ob_I eS278 o_a266
            have o_a271 := ob_I eS278 o_a271
            have o_a4 := ob_I eS278 o_a4
            have o_v0 := ob_I eS278 o_v0
            have hn : RN S278 v0 := fun z ez => by obtain rfl : a4 = z := Option.some.inj (ea4.symm.trans ez); rw [← d_x240, ← d_kv6, ← d_x277]; exact (qr145 r_kv5 r_kv6 r_kv7 hnf r_x9 q_x9 ph1_S11 ph3_S11 ph1_S18 bb_x24 iw_x24 c28 bb_x29 iw_x29 c33 bb_x34 iw_x34 c38 bb_x39 iw_x39 c43 ph1_S163 ph1_S172 ph1_S180 ph1_S187 ph1_S194 ph1_S201 ph1_S208 q_x214 c215 r_x217 q_x217 r_x221 q_x221 r_x227 q_x227 r_x234 q_x234 r_x239 q_x239 ex240 r_x276 q_x276 ex277)
            exact hq _ hI g0 f0 ⟨hG, hn, (by have t : x214 = 5 → 0 < kv212 := (qr146 hO r_kv5 r_kv6 r_kv7 hnf r_x9 q_x9 ph0_S11 ph1_S11 ph3_S11 ph0_S18 ph1_S18 bb_x24 iw_x24 c28 bb_x29 iw_x29 c33 bb_x34 iw_x34 c38 bb_x39 iw_x39 c43 ph0_S163 ph1_S163 ph0_S172 ph1_S172 ph0_S180 ph1_S180 ph0_S187 ph1_S187 ph0_S194 ph1_S194 ph0_S201 ph1_S201 ph0_S208 ph1_S208 q_x214 c215 r_x217 q_x217 r_x221 q_x221 r_x227 q_x227 r_x234 q_x234 r_x239 q_x239 ex240 r_x276 q_x276 ex277); rw [d_x214, d_kv212] at t; exact t), (by have t : x214 = 5 ∨ ¬ kv2 = 5 := (qr147 r_kv5 r_kv6 r_kv7 hnf r_x9 q_x9 ph1_S11 ph3_S11 ph1_S18 bb_x24 iw_x24 c28 bb_x29 iw_x29 c33 bb_x34 iw_x34 c38 bb_x39 iw_x39 c43 ph1_S163 ph1_S172 ph1_S180 ph1_S187 ph1_S194 ph1_S201 ph1_S208 q_x214 c215 r_x217 q_x217 r_x221 q_x221 r_x227 q_x227 r_x234 q_x234 r_x239 q_x239 ex240 r_x276 q_x276 ex277); rw [di_9, d_x214] at t; exact t), (by have t : kv1 ≤ kv213 ∧ (x214 = 4 → kv1 < kv213 ∨ kv2 = 4) := (qr148 r_kv1 r_kv5 r_kv6 r_kv7 hnf r_x9 q_x9 ph1_S11 r_kv16 ph2_S11 ph3_S11 ph1_S18 r_kv23 ph2_S18 bb_x24 iw_x24 c28 bb_x29 iw_x29 c33 bb_x34 iw_x34 c38 bb_x39 iw_x39 c43 ph1_S163 r_kv167 ph2_S163 ph1_S172 r_kv177 ph2_S172 ph1_S180 r_kv185 ph2_S180 ph1_S187 r_kv192 ph2_S187 ph1_S194 r_kv199 ph2_S194 ph1_S201 r_kv206 ph2_S201 ph1_S208 r_kv213 ph2_S208 q_x214 c215 r_x217 q_x217 r_x221 q_x221 r_x227 q_x227 r_x234 q_x234 r_x239 q_x239 ex240 r_x276 q_x276 ex277); rw [di_8, di_9, d_kv213, d_x214] at t; exact t)⟩
          · exact hq _ hI g0 f0 ⟨hG, hn, (by have t : x214 = 5 → 0 < kv212 := (qr149 hO r_kv5 r_kv6 r_kv7 hnf r_x9 q_x9 ph0_S11 ph1_S11 ph3_S11 ph0_S18 ph1_S18 bb_x24 iw_x24 c28 bb_x29 iw_x29 c33 bb_x34 iw_x34 c38 bb_x39 iw_x39 c43 ph0_S163 ph1_S163 ph0_S172 ph1_S172 ph0_S180 ph1_S180 ph0_S187 ph1_S187 ph0_S194 ph1_S194 ph0_S201 ph1_S201 ph0_S208 ph1_S208 q_x214 c215); rw [d_x214, d_kv212] at t; exact t), (by have t : x214 = 5 ∨ ¬ kv2 = 5 := (qr150 r_kv5 r_kv6 r_kv7 hnf r_x9 q_x9 ph1_S11 ph3_S11 ph1_S18 bb_x24 iw_x24 c28 bb_x29 iw_x29 c33 bb_x34 iw_x34 c38 bb_x39 iw_x39 c43 ph1_S163 ph1_S172 ph1_S180 ph1_S187 ph1_S194 ph1_S201 ph1_S208 q_x214 c215); rw [di_9, d_x214] at t; exact t), (by have t : kv1 ≤ kv213 ∧ (x214 = 4 → kv1 < kv213 ∨ kv2 = 4) := (qr151 r_kv1 r_kv5 r_kv6 r_kv7 hnf r_x9 q_x9 ph1_S11 r_kv16 ph2_S11 ph3_S11 ph1_S18 r_kv23 ph2_S18 bb_x24 iw_x24 c28 bb_x29 iw_x29 c33 bb_x34 iw_x34 c38 bb_x39 iw_x39 c43 ph1_S163 r_kv167 ph2_S163 ph1_S172 r_kv177 ph2_S172 ph1_S180 r_kv185 ph2_S180 ph1_S187 r_kv192 ph2_S187 ph1_S194 r_kv199 ph2_S194 ph1_S201 r_kv206 ph2_S201 ph1_S208 r_kv213 ph2_S208 q_x214 c215); rw [di_8, di_9, d_kv213, d_x214] at t; exact t)⟩
      · refine u_X11_readWalker_74 ?_
        refine ⟨fun c279 => ?_, fun c279 => absurd (show (2 : Int32) = (-1 : Int32) from c279) (by decide)⟩
        refine u_X11_readWalker_85 ?_
        refine ⟨o_v0, ?_⟩
        have do279_kv23 := d_kv23
        have do279_kv21 := d_kv21
        have do279_kv22 := d_kv22
        refine m_X11_goesOn hI o_v0 hG (by have t : kv21 = 5 → 0 < kv22 := (qr152 hO r_kv5 r_kv6 r_kv7 hnf r_x9 q_x9 ph0_S11 ph1_S11 ph3_S11 ph0_S18 ph1_S18 bb_x24 iw_x24 c28 bb_x29 iw_x29 c33 bb_x34 iw_x34 c38); rw [d_kv21, d_kv22] at t; exact t) (fun S281 hJ g282 fc283 p_S281 => ?_)
        obtain ⟨hG, pg0_S281, pg1_S281, pg2_S281⟩ := p_S281
        have hn := rn_fr fc283 g282 hI o_v0 (by decide) hn
        have hI := hJ
        have d_kv5 := d_kv5.trans (fri_at fc283 (by decide) (by decide) o_a4).symm
        have d_kv6 := d_kv6.trans (fri_at fc283 (by decide) (by decide) o_a4).symm
        have d_x9 := d_x9.trans (fri_at fc283 (by decide) (by decide) o_a4).symm
        have d_kv22 := d_kv22.trans (fri_at fc283 (by decide) (by decide) o_v0).symm
        have ea4 := (frr_at fc283 (by decide) (by decide) o_v0).trans ea4
        have f0 := fri_tr (S := S18) g0 f0 fc283 (by decide) (by decide)
        have o_a4 := gr_ob g282 o_a4
        have o_v0 := gr_ob g282 o_v0
        have g0 := gr_tr (T := S18) g0 g282
        obtain ⟨kv284, d_kv284⟩ : ∃ z : Int32, z = fI S281 v0 9 := ⟨_, rfl⟩
        have ph0_S281 : kv284 = 5 → 0 < kv22 := by rw [d_kv284, d_kv22]; exact pg0_S281
        have ph1_S281 : kv284 = 5 ∨ ¬ kv21 = 5 := by rw [do279_kv21, d_kv284]; exact pg1_S281
        obtain ⟨kv285, d_kv285⟩ : ∃ z : Int32, z = fI S281 v0 8 := ⟨_, rfl⟩
        have r_kv285 : (0 : Int32) ≤ kv285 ∧ kv285 ≤ (900 : Int32) := by rw [d_kv285]; exact nu 25 rfl hI o_v0
        have ph2_S281 : kv23 ≤ kv285 ∧ (kv284 = 4 → kv23 < kv285 ∨ kv21 = 4) := by rw [do279_kv23, do279_kv21, d_kv285, d_kv284]; exact pg2_S281
        intro _
        refine ⟨fun c286 => ?_, fun c286 => absurd (show (2 : Int32) = (1 : Int32) from c286) (by decide)⟩
        refine ⟨fun c287 => absurd (show ¬ (2 : Int32) = (2 : Int32) from c287) (by decide), fun c287 => ?_⟩
        have do287_kv285 := d_kv285
        have do287_kv284 := d_kv284
        have do287_kv22 := d_kv22
        refine m_X11_readWhole hI o_v0 hG (by have t : kv284 = 5 → 0 < kv22 := (qr153 hO r_kv5 r_kv6 r_kv7 hnf r_x9 q_x9 ph0_S11 ph1_S11 ph3_S11 ph0_S18 ph1_S18 bb_x24 iw_x24 c28 bb_x29 iw_x29 c33 bb_x34 iw_x34 c38 ph0_S281 ph1_S281); rw [d_kv284, d_kv22] at t; exact t) (fun x288 S289 hJ g290 fc291 p_x288 => ?_)
        obtain ⟨hG, p_x288, pg0_S289, pg1_S289, pg2_S289⟩ := p_x288
        have hn := rn_fr fc291 g290 hI o_v0 (by decide) hn
        have hI := hJ
        have d_kv5 := d_kv5.trans (fri_at fc291 (by decide) (by decide) o_a4).symm
        have d_kv6 := d_kv6.trans (fri_at fc291 (by decide) (by decide) o_a4).symm
        have d_x9 := d_x9.trans (fri_at fc291 (by decide) (by decide) o_a4).symm
        have ea4 := (frr_at fc291 (by decide) (by decide) o_v0).trans ea4
        have f0 := fri_tr (S := S281) g0 f0 fc291 (by decide) (by decide)
        have o_a4 := gr_ob g290 o_a4
        have o_v0 := gr_ob g290 o_v0
        have g0 := gr_tr (T := S281) g0 g290
        obtain ⟨kv292, d_kv292⟩ : ∃ z : Int32, z = fI S289 v0 9 := ⟨_, rfl⟩
        obtain ⟨kv293, d_kv293⟩ : ∃ z : Int32, z = fI S289 v0 13 := ⟨_, rfl⟩
        have ph0_S289 : kv292 = 5 → 0 < kv293 := by rw [d_kv292, d_kv293]; exact pg0_S289
        have ph1_S289 : kv292 = 5 ∨ ¬ kv284 = 5 := by rw [do287_kv284, d_kv292]; exact pg1_S289
        obtain ⟨kv294, d_kv294⟩ : ∃ z : Int32, z = fI S289 v0 8 := ⟨_, rfl⟩
        have r_kv294 : (0 : Int32) ≤ kv294 ∧ kv294 ≤ (900 : Int32) := by rw [d_kv294]; exact nu 25 rfl hI o_v0
        have ph2_S289 : kv285 ≤ kv294 ∧ (kv292 = 4 → kv285 < kv294 ∨ kv284 = 4) := by rw [do287_kv285, do287_kv284, d_kv294, d_kv292]; exact pg2_S289
        intro _
        refine u_X11_readWalker_136 ?_
        refine ⟨fun c295 => ?_, fun c295 => absurd (show (2 : Int32) = (1 : Int32) from c295) (by decide)⟩
        refine u_X11_readWalker_149 ?_
        refine ⟨o_v0, ?_⟩
        have do295_kv294 := d_kv294
        have do295_kv292 := d_kv292
        have do295_kv293 := d_kv293
        refine m_X11_readPart hI o_v0 (by decide) hG (by have t : kv292 = 5 → 0 < kv293 := (qr154 hO r_kv5 r_kv6 r_kv7 hnf r_x9 q_x9 ph0_S11 ph1_S11 ph3_S11 ph0_S18 ph1_S18 bb_x24 iw_x24 c28 bb_x29 iw_x29 c33 bb_x34 iw_x34 c38 ph0_S281 ph1_S281 ph0_S289 ph1_S289); rw [d_kv292, d_kv293] at t; exact t) (fun x296 S297 hJ g298 fc299 p_x296 => ?_)
        obtain ⟨hG, p_x296, pg0_S297, pg1_S297, pg2_S297⟩ := p_x296
        have hn := rn_fr fc299 g298 hI o_v0 (by decide) hn
        have hI := hJ
        have d_kv5 := d_kv5.trans (fri_at fc299 (by decide) (by decide) o_a4).symm
        have d_kv6 := d_kv6.trans (fri_at fc299 (by decide) (by decide) o_a4).symm
        have d_x9 := d_x9.trans (fri_at fc299 (by decide) (by decide) o_a4).symm
        have ea4 := (frr_at fc299 (by decide) (by decide) o_v0).trans ea4
        have f0 := fri_tr (S := S289) g0 f0 fc299 (by decide) (by decide)
        have o_a4 := gr_ob g298 o_a4
        have o_v0 := gr_ob g298 o_v0
        have g0 := gr_tr (T := S289) g0 g298
        obtain ⟨kv300, d_kv300⟩ : ∃ z : Int32, z = fI S297 v0 9 := ⟨_, rfl⟩
        obtain ⟨kv301, d_kv301⟩ : ∃ z : Int32, z = fI S297 v0 13 := ⟨_, rfl⟩
        have ph0_S297 : kv300 = 5 → 0 < kv301 := by rw [d_kv300, d_kv301]; exact pg0_S297
        have ph1_S297 : kv300 = 5 ∨ ¬ kv292 = 5 := by rw [do295_kv292, d_kv300]; exact pg1_S297
        obtain ⟨kv302, d_kv302⟩ : ∃ z : Int32, z = fI S297 v0 8 := ⟨_, rfl⟩
        have r_kv302 : (0 : Int32) ≤ kv302 ∧ kv302 ≤ (900 : Int32) := by rw [d_kv302]; exact nu 25 rfl hI o_v0
        have ph2_S297 : kv294 ≤ kv302 ∧ (kv300 = 4 → kv294 < kv302 ∨ kv292 = 4) := by rw [do295_kv294, do295_kv292, d_kv302, d_kv300]; exact pg2_S297
        intro _
        have do302_kv302 := d_kv302
        have do302_kv300 := d_kv300
        have do302_kv301 := d_kv301
        refine m_X11_readPart hI o_v0 (by decide) hG (by have t : kv300 = 5 → 0 < kv301 := (qr155 hO r_kv5 r_kv6 r_kv7 hnf r_x9 q_x9 ph0_S11 ph1_S11 ph3_S11 ph0_S18 ph1_S18 bb_x24 iw_x24 c28 bb_x29 iw_x29 c33 bb_x34 iw_x34 c38 ph0_S281 ph1_S281 ph0_S289 ph1_S289 ph0_S297 ph1_S297); rw [d_kv300, d_kv301] at t; exact t) (fun x303 S304 hJ g305 fc306 p_x303 => ?_)
        obtain ⟨hG, p_x303, pg0_S304, pg1_S304, pg2_S304⟩ := p_x303
        have hn := rn_fr fc306 g305 hI o_v0 (by decide) hn
        have hI := hJ
        have d_kv5 := d_kv5.trans (fri_at fc306 (by decide) (by decide) o_a4).symm
        have d_kv6 := d_kv6.trans (fri_at fc306 (by decide) (by decide) o_a4).symm
        have d_x9 := d_x9.trans (fri_at fc306 (by decide) (by decide) o_a4).symm
        have ea4 := (frr_at fc306 (by decide) (by decide) o_v0).trans ea4
        have f0 := fri_tr (S := S297) g0 f0 fc306 (by decide) (by decide)
        have o_a4 := gr_ob g305 o_a4
        have o_v0 := gr_ob g305 o_v0
        have g0 := gr_tr (T := S297) g0 g305
        obtain ⟨kv307, d_kv307⟩ : ∃ z : Int32, z = fI S304 v0 9 := ⟨_, rfl⟩
        obtain ⟨kv308, d_kv308⟩ : ∃ z : Int32, z = fI S304 v0 13 := ⟨_, rfl⟩
        have ph0_S304 : kv307 = 5 → 0 < kv308 := by rw [d_kv307, d_kv308]; exact pg0_S304
        have ph1_S304 : kv307 = 5 ∨ ¬ kv300 = 5 := by rw [do302_kv300, d_kv307]; exact pg1_S304
        obtain ⟨kv309, d_kv309⟩ : ∃ z : Int32, z = fI S304 v0 8 := ⟨_, rfl⟩
        have r_kv309 : (0 : Int32) ≤ kv309 ∧ kv309 ≤ (900 : Int32) := by rw [d_kv309]; exact nu 25 rfl hI o_v0
        have ph2_S304 : kv302 ≤ kv309 ∧ (kv307 = 4 → kv302 < kv309 ∨ kv300 = 4) := by rw [do302_kv302, do302_kv300, d_kv309, d_kv307]; exact pg2_S304
        intro _
        have do309_kv309 := d_kv309
        have do309_kv307 := d_kv307
        have do309_kv308 := d_kv308
        refine m_X11_readPart hI o_v0 (by decide) hG (by have t : kv307 = 5 → 0 < kv308 := (qr156 hO r_kv5 r_kv6 r_kv7 hnf r_x9 q_x9 ph0_S11 ph1_S11 ph3_S11 ph0_S18 ph1_S18 bb_x24 iw_x24 c28 bb_x29 iw_x29 c33 bb_x34 iw_x34 c38 ph0_S281 ph1_S281 ph0_S289 ph1_S289 ph0_S297 ph1_S297 ph0_S304 ph1_S304); rw [d_kv307, d_kv308] at t; exact t) (fun x310 S311 hJ g312 fc313 p_x310 => ?_)
        obtain ⟨hG, p_x310, pg0_S311, pg1_S311, pg2_S311⟩ := p_x310
        have hn := rn_fr fc313 g312 hI o_v0 (by decide) hn
        have hI := hJ
        have d_kv5 := d_kv5.trans (fri_at fc313 (by decide) (by decide) o_a4).symm
        have d_kv6 := d_kv6.trans (fri_at fc313 (by decide) (by decide) o_a4).symm
        have d_x9 := d_x9.trans (fri_at fc313 (by decide) (by decide) o_a4).symm
        have ea4 := (frr_at fc313 (by decide) (by decide) o_v0).trans ea4
        have f0 := fri_tr (S := S304) g0 f0 fc313 (by decide) (by decide)
        have o_a4 := gr_ob g312 o_a4
        have o_v0 := gr_ob g312 o_v0
        have g0 := gr_tr (T := S304) g0 g312
        obtain ⟨kv314, d_kv314⟩ : ∃ z : Int32, z = fI S311 v0 9 := ⟨_, rfl⟩
        obtain ⟨kv315, d_kv315⟩ : ∃ z : Int32, z = fI S311 v0 13 := ⟨_, rfl⟩
        have ph0_S311 : kv314 = 5 → 0 < kv315 := by rw [d_kv314, d_kv315]; exact pg0_S311
        have ph1_S311 : kv314 = 5 ∨ ¬ kv307 = 5 := by rw [do309_kv307, d_kv314]; exact pg1_S311
        obtain ⟨kv316, d_kv316⟩ : ∃ z : Int32, z = fI S311 v0 8 := ⟨_, rfl⟩
        have r_kv316 : (0 : Int32) ≤ kv316 ∧ kv316 ≤ (900 : Int32) := by rw [d_kv316]; exact nu 25 rfl hI o_v0
        have ph2_S311 : kv309 ≤ kv316 ∧ (kv314 = 4 → kv309 < kv316 ∨ kv307 = 4) := by rw [do309_kv309, do309_kv307, d_kv316, d_kv314]; exact pg2_S311
        intro _
        have do316_kv316 := d_kv316
        have do316_kv314 := d_kv314
        have do316_kv315 := d_kv315
        refine m_X11_readPart hI o_v0 (by decide) hG (by have t : kv314 = 5 → 0 < kv315 := (qr157 hO r_kv5 r_kv6 r_kv7 hnf r_x9 q_x9 ph0_S11 ph1_S11 ph3_S11 ph0_S18 ph1_S18 bb_x24 iw_x24 c28 bb_x29 iw_x29 c33 bb_x34 iw_x34 c38 ph0_S281 ph1_S281 ph0_S289 ph1_S289 ph0_S297 ph1_S297 ph0_S304 ph1_S304 ph0_S311 ph1_S311); rw [d_kv314, d_kv315] at t; exact t) (fun x317 S318 hJ g319 fc320 p_x317 => ?_)
        obtain ⟨hG, p_x317, pg0_S318, pg1_S318, pg2_S318⟩ := p_x317
        have hn := rn_fr fc320 g319 hI o_v0 (by decide) hn
        have hI := hJ
        have d_kv5 := d_kv5.trans (fri_at fc320 (by decide) (by decide) o_a4).symm
        have d_kv6 := d_kv6.trans (fri_at fc320 (by decide) (by decide) o_a4).symm
        have d_x9 := d_x9.trans (fri_at fc320 (by decide) (by decide) o_a4).symm
        have ea4 := (frr_at fc320 (by decide) (by decide) o_v0).trans ea4
        have f0 := fri_tr (S := S311) g0 f0 fc320 (by decide) (by decide)
        have o_a4 := gr_ob g319 o_a4
        have o_v0 := gr_ob g319 o_v0
        have g0 := gr_tr (T := S311) g0 g319
        obtain ⟨kv321, d_kv321⟩ : ∃ z : Int32, z = fI S318 v0 9 := ⟨_, rfl⟩
        obtain ⟨kv322, d_kv322⟩ : ∃ z : Int32, z = fI S318 v0 13 := ⟨_, rfl⟩
        have ph0_S318 : kv321 = 5 → 0 < kv322 := by rw [d_kv321, d_kv322]; exact pg0_S318
        have ph1_S318 : kv321 = 5 ∨ ¬ kv314 = 5 := by rw [do316_kv314, d_kv321]; exact pg1_S318
        obtain ⟨kv323, d_kv323⟩ : ∃ z : Int32, z = fI S318 v0 8 := ⟨_, rfl⟩
        have r_kv323 : (0 : Int32) ≤ kv323 ∧ kv323 ≤ (900 : Int32) := by rw [d_kv323]; exact nu 25 rfl hI o_v0
        have ph2_S318 : kv316 ≤ kv323 ∧ (kv321 = 4 → kv316 < kv323 ∨ kv314 = 4) := by rw [do316_kv316, do316_kv314, d_kv323, d_kv321]; exact pg2_S318
        intro _
        have do323_kv323 := d_kv323
        have do323_kv321 := d_kv321
        have do323_kv322 := d_kv322
        refine m_X11_readPart hI o_v0 (by decide) hG (by have t : kv321 = 5 → 0 < kv322 := (qr158 hO r_kv5 r_kv6 r_kv7 hnf r_x9 q_x9 ph0_S11 ph1_S11 ph3_S11 ph0_S18 ph1_S18 bb_x24 iw_x24 c28 bb_x29 iw_x29 c33 bb_x34 iw_x34 c38 ph0_S281 ph1_S281 ph0_S289 ph1_S289 ph0_S297 ph1_S297 ph0_S304 ph1_S304 ph0_S311 ph1_S311 ph0_S318 ph1_S318); rw [d_kv321, d_kv322] at t; exact t) (fun x324 S325 hJ g326 fc327 p_x324 => ?_)
        obtain ⟨hG, p_x324, pg0_S325, pg1_S325, pg2_S325⟩ := p_x324
        have hn := rn_fr fc327 g326 hI o_v0 (by decide) hn
        have hI := hJ
        have d_kv5 := d_kv5.trans (fri_at fc327 (by decide) (by decide) o_a4).symm
        have d_kv6 := d_kv6.trans (fri_at fc327 (by decide) (by decide) o_a4).symm
        have d_x9 := d_x9.trans (fri_at fc327 (by decide) (by decide) o_a4).symm
        have ea4 := (frr_at fc327 (by decide) (by decide) o_v0).trans ea4
        have f0 := fri_tr (S := S318) g0 f0 fc327 (by decide) (by decide)
        have o_a4 := gr_ob g326 o_a4
        have o_v0 := gr_ob g326 o_v0
        have g0 := gr_tr (T := S318) g0 g326
        obtain ⟨kv328, d_kv328⟩ : ∃ z : Int32, z = fI S325 v0 9 := ⟨_, rfl⟩
        obtain ⟨kv329, d_kv329⟩ : ∃ z : Int32, z = fI S325 v0 13 := ⟨_, rfl⟩
        have ph0_S325 : kv328 = 5 → 0 < kv329 := by rw [d_kv328, d_kv329]; exact pg0_S325
        have ph1_S325 : kv328 = 5 ∨ ¬ kv321 = 5 := by rw [do323_kv321, d_kv328]; exact pg1_S325
        obtain ⟨kv330, d_kv330⟩ : ∃ z : Int32, z = fI S325 v0 8 := ⟨_, rfl⟩
        have r_kv330 : (0 : Int32) ≤ kv330 ∧ kv330 ≤ (900 : Int32) := by rw [d_kv330]; exact nu 25 rfl hI o_v0
        have ph2_S325 : kv323 ≤ kv330 ∧ (kv328 = 4 → kv323 < kv330 ∨ kv321 = 4) := by rw [do323_kv323, do323_kv321, d_kv330, d_kv328]; exact pg2_S325
        intro _
        intro x331 ex331
        have q_x331 : x331 = kv328 := ex331.trans d_kv328.symm
        have d_x331 := ex331
        refine ⟨fun c332 => ?_, fun c332 => ?_⟩
        · refine ⟨a4, ea4, ?_⟩
          refine ⟨o_a4, ?_⟩
          intro x334 ex334
          have r_x334 : (0 : Int32) ≤ x334 ∧ x334 ≤ (4 : Int32) := by rw [ex334]; exact nu 20 rfl hI o_a4
          have q_x334 : x334 = x9 := ex334.trans d_x9.symm
          have d_x334 := ex334
          refine u_X11_names ?_
          refine u_X11_names_0 ?_
          refine ⟨o_v0, ?_⟩
          refine ⟨a4, ea4, ?_⟩
          refine ⟨o_a4, ?_⟩
          obtain ⟨a336, ea336, o_a336, l_a336⟩ := shl 50 rfl hI o_a4
          refine ⟨a336, ea336, ?_⟩
          refine ⟨a4, ea4, ?_⟩
          refine ⟨o_a4, ?_⟩
          intro x338 ex338
          have r_x338 : (0 : Int32) ≤ x338 ∧ x338 ≤ (12 : Int32) := by rw [ex338]; exact nu 22 rfl hI o_a4
          have q_x338 : x338 = kv5 := ex338.trans d_kv5.symm
          have d_x338 := ex338
          refine ⟨o_a336, ?_⟩
          have i339 : vp_in x338 (hN _ a336) := (vin l_a336 (m := 12) (by decide) (qr159 r_kv5 r_kv6 r_kv7 hnf r_x9 q_x9 ph1_S11 ph3_S11 ph1_S18 bb_x24 iw_x24 c28 bb_x29 iw_x29 c33 bb_x34 iw_x34 c38 ph1_S281 ph1_S289 ph1_S297 ph1_S304 ph1_S311 ph1_S318 ph1_S325 q_x331 c332 r_x334 q_x334 r_x338 q_x338))
          refine ⟨i339, ?_⟩
          intro S340 eS340
          have hIn : IV S340 := by rw [eS340]; exact iv10_aJ hI o_a4 (by decide) ea336
          have hG := rg_J eS340 hG
          have hn := rn_J eS340 hn
          have hI := hIn
          have f0 := fr_J eS340 f0
          have d_x338 := rd_J eS340 d_x338
          have d_kv6 := rd_J eS340 d_kv6
          have d_x334 := rd_J eS340 d_x334
          have d_x331 := rd_J eS340 d_x331
          have d_kv329 := rd_J eS340 d_kv329
          have d_kv330 := rd_J eS340 d_kv330
          have ea4 := rf_J eS340 ea4
          have ea336 := rf_J eS340 ea336
          have l_a336 := ln_J eS340 l_a336
          have g0 := gr_J eS340 g0
          have o_a336 := ob_J eS340 o_a336
          have o_a4 := ob_J eS340 o_a4
          have o_v0 := ob_J eS340 o_v0
          refine ⟨a4, ea4, ?_⟩
          refine ⟨o_a4, ?_⟩
          obtain ⟨a342, ea342, o_a342, l_a342⟩ := shl 51 rfl hI o_a4
          refine ⟨a342, ea342, ?_⟩
          refine ⟨a4, ea4, ?_⟩
          refine ⟨o_a4, ?_⟩
          intro x344 ex344
          have r_x344 : (0 : Int32) ≤ x344 ∧ x344 ≤ (12 : Int32) := by rw [ex344]; exact nu 22 rfl hI o_a4
          have q_x344 : x344 = x338 := ex344.trans d_x338.symm
          have d_x344 := ex344
          refine ⟨o_a342, ?_⟩
          have i345 : vp_in x344 (hN _ a342) := (vin l_a342 (m := 12) (by decide) (qr160 r_kv5 r_kv6 r_kv7 hnf r_x9 q_x9 ph1_S11 ph3_S11 ph1_S18 bb_x24 iw_x24 c28 bb_x29 iw_x29 c33 bb_x34 iw_x34 c38 ph1_S281 ph1_S289 ph1_S297 ph1_S304 ph1_S311 ph1_S318 ph1_S325 q_x331 c332 r_x334 q_x334 r_x338 q_x338 r_x344 q_x344))
          refine ⟨i345, ?_⟩
          intro S346 eS346
          have hIn : IV S346 := by rw [eS346]; exact iv10_aI hI o_a4 (rg_nw hG ea4) ea342 o_a342 (by decide)
          have hG := rg_a (jj := 29) (x := x344) eS346 hI ea4 o_a4 ea342 o_a342 (by decide) (h1_no (by decide)) (fun _ => by rw [← d_kv6, ← d_x334]; exact (qr161 r_kv5 r_kv6 r_kv7 hnf r_x9 q_x9 ph1_S11 ph3_S11 ph1_S18 bb_x24 iw_x24 c28 bb_x29 iw_x29 c33 bb_x34 iw_x34 c38 ph1_S281 ph1_S289 ph1_S297 ph1_S304 ph1_S311 ph1_S318 ph1_S325 q_x331 c332 r_x334 q_x334 r_x338 q_x338 r_x344 q_x344)) hG
          have hn := rn_11 eS346 hI o_v0 o_a342 (by decide) hn
          have hI := hIn
          have f0 := fr_A eS346 g0 f0 o_a342 (by decide)
          have d_x344 := rd_Ik eS346 o_a342 o_a4 (by decide) d_x344
          have d_kv6 := rd_Ik eS346 o_a342 o_a4 (by decide) d_kv6
          have d_x334 := rd_Ik eS346 o_a342 o_a4 (by decide) d_x334
          have d_x331 := rd_Ik eS346 o_a342 o_v0 (by decide) d_x331
          have d_kv329 := rd_Ik eS346 o_a342 o_v0 (by decide) d_kv329
          have d_kv330 := rd_Ik eS346 o_a342 o_v0 (by decide) d_kv330
          have ea4 := rf_I eS346 ea4
          have ea336 := rf_I eS346 ea336
          have ea342 := rf_I eS346 ea342
          have l_a336 := ln_I eS346 l_a336
          have l_a342 := ln_I eS346 l_a342
          have g0 := gr_I eS346 g0
          have o_a336 := ob_I eS346 o_a336
          have o_a342 := ob_I eS346 o_a342
          have o_a4 := ob_I eS346 o_a4
          have o_v0 := ob_I eS346 o_v0
          have el347 : fI S346 a342 x344.toNatClampNeg = (1 : Int32) := by rw [eS346]; exact u2_self _ _ _ _
          refine ⟨a4, ea4, ?_⟩
          refine ⟨o_a4, ?_⟩
          obtain ⟨a349, ea349, o_a349, l_a349⟩ := shl 52 rfl hI o_a4
          refine ⟨a349, ea349, ?_⟩
          refine ⟨a4, ea4, ?_⟩
          refine ⟨o_a4, ?_⟩
          intro x351 ex351
          have r_x351 : (0 : Int32) ≤ x351 ∧ x351 ≤ (12 : Int32) := by rw [ex351]; exact nu 22 rfl hI o_a4
          have q_x351 : x351 = x344 := ex351.trans d_x344.symm
          have d_x351 := ex351
          refine ⟨o_a349, ?_⟩
          have i352 : vp_in x351 (hN _ a349) := (vin l_a349 (m := 12) (by decide) (qr162 r_kv5 r_kv6 r_kv7 hnf r_x9 q_x9 ph1_S11 ph3_S11 ph1_S18 bb_x24 iw_x24 c28 bb_x29 iw_x29 c33 bb_x34 iw_x34 c38 ph1_S281 ph1_S289 ph1_S297 ph1_S304 ph1_S311 ph1_S318 ph1_S325 q_x331 c332 r_x334 q_x334 r_x338 q_x338 r_x344 q_x344 r_x351 q_x351))
          refine ⟨i352, ?_⟩
          intro S353 eS353
          have hIn : IV S353 := by rw [eS353]; exact iv10_aI hI o_a4 (rg_nw hG ea4) ea349 o_a349 (by decide)
          have hG := rg_a (jj := 30) (x := x351) eS353 hI ea4 o_a4 ea349 o_a349 (by decide) (h1_no (by decide)) (fun _ => by rw [← d_kv6, ← d_x334]; exact (qr163 r_kv5 r_kv6 r_kv7 hnf r_x9 q_x9 ph1_S11 ph3_S11 ph1_S18 bb_x24 iw_x24 c28 bb_x29 iw_x29 c33 bb_x34 iw_x34 c38 ph1_S281 ph1_S289 ph1_S297 ph1_S304 ph1_S311 ph1_S318 ph1_S325 q_x331 c332 r_x334 q_x334 r_x338 q_x338 r_x344 q_x344 r_x351 q_x351)) hG
          have hn := rn_11 eS353 hI o_v0 o_a349 (by decide) hn
          have el347 := el_ar eS353 (ow_ne hI o_a4 (by decide) o_a4 (by decide) ea349 ea342 (by decide)) el347
          have hI := hIn
          have f0 := fr_A eS353 g0 f0 o_a349 (by decide)
          have d_x351 := rd_Ik eS353 o_a349 o_a4 (by decide) d_x351
          have d_kv6 := rd_Ik eS353 o_a349 o_a4 (by decide) d_kv6
          have d_x334 := rd_Ik eS353 o_a349 o_a4 (by decide) d_x334
          have d_x331 := rd_Ik eS353 o_a349 o_v0 (by decide) d_x331
          have d_kv329 := rd_Ik eS353 o_a349 o_v0 (by decide) d_kv329
          have d_kv330 := rd_Ik eS353 o_a349 o_v0 (by decide) d_kv330
          have ea4 := rf_I eS353 ea4
          have ea336 := rf_I eS353 ea336
          have ea342 := rf_I eS353 ea342
          have ea349 := rf_I eS353 ea349
          have l_a336 := ln_I eS353 l_a336
          have l_a342 := ln_I eS353 l_a342
          have l_a349 := ln_I eS353 l_a349
          have g0 := gr_I eS353 g0
          have o_a336 := ob_I eS353 o_a336
          have o_a342 := ob_I eS353 o_a342
          have o_a349 := ob_I eS353 o_a349
          have o_a4 := ob_I eS353 o_a4
          have o_v0 := ob_I eS353 o_v0
          have el354 : fI S353 a349 x351.toNatClampNeg = x334 := by rw [eS353]; exact u2_self _ _ _ _
          refine ⟨a4, ea4, ?_⟩
          refine ⟨o_a4, ?_⟩
          intro x356 ex356
          have r_x356 : (0 : Int32) ≤ x356 ∧ x356 ≤ (12 : Int32) := by rw [ex356]; exact nu 22 rfl hI o_a4
          have q_x356 : x356 = x351 := ex356.trans d_x351.symm
          have d_x356 := ex356
          intro x357 ex357
          intro S358 eS358
          have hIn : IV S358 := by rw [eS358]; exact iv10_sI hI o_a4 (rg_nw hG ea4) (nu_one (lo := (0 : Int32)) (hi := (12 : Int32)) (by decide) (qr164 r_kv5 r_kv6 r_kv7 hnf r_x9 q_x9 ph1_S11 ph3_S11 ph1_S18 bb_x24 iw_x24 c28 bb_x29 iw_x29 c33 bb_x34 iw_x34 c38 ph1_S281 ph1_S289 ph1_S297 ph1_S304 ph1_S311 ph1_S318 ph1_S325 q_x331 c332 r_x334 q_x334 r_x338 q_x338 r_x344 q_x344 r_x351 q_x351 r_x356 q_x356 ex357))
          have hG := rg_c eS358 hI ea4 o_a4 (by decide) hG
          have el347 := el_ob eS358 o_a4 o_a342 (by decide) el347
          have el354 := el_ob eS358 o_a4 o_a349 (by decide) el354
          have hI := hIn
          have f0 := fr_I eS358 g0 f0 o_a4 (by decide)
          have d_kv6 := rd_Ij eS358 (by decide) d_kv6
          have d_x334 := rd_Ij eS358 (by decide) d_x334
          have d_x331 := rd_Ik eS358 o_a4 o_v0 (by decide) d_x331
          have d_kv329 := rd_Ik eS358 o_a4 o_v0 (by decide) d_kv329
          have d_kv330 := rd_Ik eS358 o_a4 o_v0 (by decide) d_kv330
          have d_x357 := rd_Is eS358 (rfl : x357 = x357)
          have ea4 := rf_I eS358 ea4
          have ea336 := rf_I eS358 ea336
          have ea342 := rf_I eS358 ea342
          have ea349 := rf_I eS358 ea349
          have l_a336 := ln_I eS358 l_a336
          have l_a342 := ln_I eS358 l_a342
          have l_a349 := ln_I eS358 l_a349
          have g0 := gr_I eS358 g0
          have o_a336 := ob_I eS358 o_a336
          have o_a342 := ob_I eS358 o_a342
          have o_a349 := ob_I eS358 o_a349
          have o_a4 := ob_I eS358 o_a4
          have o_v0 := ob_I eS358 o_v0
          intro _
          refine ⟨a4, ea4, ?_⟩
          refine ⟨o_a4, ?_⟩
          obtain ⟨a360, ea360, o_a360, l_a360⟩ := shl 41 rfl hI o_a4
          refine ⟨a360, ea360, ?_⟩
          refine ⟨o_a360, ?_⟩
          have i361 : vp_in x334 (hN _ a360) := (vin l_a360 (m := 4) (by decide) (qr165 r_kv5 r_kv6 r_kv7 hnf r_x9 q_x9 ph1_S11 ph3_S11 ph1_S18 bb_x24 iw_x24 c28 bb_x29 iw_x29 c33 bb_x34 iw_x34 c38 ph1_S281 ph1_S289 ph1_S297 ph1_S304 ph1_S311 ph1_S318 ph1_S325 q_x331 c332 r_x334 q_x334 r_x338 q_x338 r_x344 q_x344 r_x351 q_x351 r_x356 q_x356 ex357))
          refine ⟨i361, ?_⟩
          intro S362 eS362
          have hIn : IV S362 := by rw [eS362]; exact iv10_aI hI o_a4 (rg_nw hG ea4) ea360 o_a360 (by decide)
          have hG := rg_a (jj := 19) (x := x334) eS362 hI ea4 o_a4 ea360 o_a360 (by decide) (h1_no (by decide)) (h2_no (y := 0) (by decide)) hG
          have el347 := el_ar eS362 (ow_ne hI o_a4 (by decide) o_a4 (by decide) ea360 ea342 (by decide)) el347
          have el354 := el_ar eS362 (ow_ne hI o_a4 (by decide) o_a4 (by decide) ea360 ea349 (by decide)) el354
          have hI := hIn
          have f0 := fr_A eS362 g0 f0 o_a360 (by decide)
          have d_kv6 := rd_Ik eS362 o_a360 o_a4 (by decide) d_kv6
          have d_x334 := rd_Ik eS362 o_a360 o_a4 (by decide) d_x334
          have d_x331 := rd_Ik eS362 o_a360 o_v0 (by decide) d_x331
          have d_kv329 := rd_Ik eS362 o_a360 o_v0 (by decide) d_kv329
          have d_kv330 := rd_Ik eS362 o_a360 o_v0 (by decide) d_kv330
          have d_x357 := rd_Ik eS362 o_a360 o_a4 (by decide) d_x357
          have ea4 := rf_I eS362 ea4
          have ea336 := rf_I eS362 ea336
          have ea342 := rf_I eS362 ea342
          have ea349 := rf_I eS362 ea349
          have ea360 := rf_I eS362 ea360
          have l_a336 := ln_I eS362 l_a336
          have l_a342 := ln_I eS362 l_a342
          have l_a349 := ln_I eS362 l_a349
          have l_a360 := ln_I eS362 l_a360
          have g0 := gr_I eS362 g0
          have o_a336 := ob_I eS362 o_a336
          have o_a342 := ob_I eS362 o_a342
          have o_a349 := ob_I eS362 o_a349
          have o_a360 := ob_I eS362 o_a360
          have o_a4 := ob_I eS362 o_a4
          have o_v0 := ob_I eS362 o_v0
          refine ⟨a4, ea4, ?_⟩
          refine ⟨o_a4, ?_⟩
          obtain ⟨a364, ea364, o_a364, l_a364⟩ := shl 42 rfl hI o_a4
          refine ⟨a364, ea364, ?_⟩
          refine ⟨o_a364, ?_⟩
          have i365 : vp_in x334 (hN _ a364) := (vin l_a364 (m := 4) (by decide) (qr165 r_kv5 r_kv6 r_kv7 hnf r_x9 q_x9 ph1_S11 ph3_S11 ph1_S18 bb_x24 iw_x24 c28 bb_x29 iw_x29 c33 bb_x34 iw_x34 c38 ph1_S281 ph1_S289 ph1_S297 ph1_S304 ph1_S311 ph1_S318 ph1_S325 q_x331 c332 r_x334 q_x334 r_x338 q_x338 r_x344 q_x344 r_x351 q_x351 r_x356 q_x356 ex357))
          refine ⟨i365, ?_⟩
          intro S366 eS366
          have hIn : IV S366 := by rw [eS366]; exact iv10_aI hI o_a4 (rg_nw hG ea4) ea364 o_a364 (by decide)
          have hG := rg_a (jj := 20) (x := x334) eS366 hI ea4 o_a4 ea364 o_a364 (by decide) (h1_no (by decide)) (h2_no (y := 0) (by decide)) hG
          have el347 := el_ar eS366 (ow_ne hI o_a4 (by decide) o_a4 (by decide) ea364 ea342 (by decide)) el347
          have el354 := el_ar eS366 (ow_ne hI o_a4 (by decide) o_a4 (by decide) ea364 ea349 (by decide)) el354
          have hI := hIn
          have f0 := fr_A eS366 g0 f0 o_a364 (by decide)
          have d_kv6 := rd_Ik eS366 o_a364 o_a4 (by decide) d_kv6
          have d_x334 := rd_Ik eS366 o_a364 o_a4 (by decide) d_x334
          have d_x331 := rd_Ik eS366 o_a364 o_v0 (by decide) d_x331
          have d_kv329 := rd_Ik eS366 o_a364 o_v0 (by decide) d_kv329
          have d_kv330 := rd_Ik eS366 o_a364 o_v0 (by decide) d_kv330
          have d_x357 := rd_Ik eS366 o_a364 o_a4 (by decide) d_x357
          have ea4 := rf_I eS366 ea4
          have ea336 := rf_I eS366 ea336
          have ea342 := rf_I eS366 ea342
          have ea349 := rf_I eS366 ea349
          have ea360 := rf_I eS366 ea360
          have ea364 := rf_I eS366 ea364
          have l_a336 := ln_I eS366 l_a336
          have l_a342 := ln_I eS366 l_a342
          have l_a349 := ln_I eS366 l_a349
          have l_a360 := ln_I eS366 l_a360
          have l_a364 := ln_I eS366 l_a364
          have g0 := gr_I eS366 g0
          have o_a336 := ob_I eS366 o_a336
          have o_a342 := ob_I eS366 o_a342
          have o_a349 := ob_I eS366 o_a349
          have o_a360 := ob_I eS366 o_a360
          have o_a364 := ob_I eS366 o_a364
          have o_a4 := ob_I eS366 o_a4
          have o_v0 := ob_I eS366 o_v0
          refine ⟨a4, ea4, ?_⟩
          refine ⟨o_a4, ?_⟩
          obtain ⟨a368, ea368, o_a368, l_a368⟩ := shl 43 rfl hI o_a4
          refine ⟨a368, ea368, ?_⟩
          refine ⟨o_a368, ?_⟩
          intro x369 ex369
          have i370 : vp_in x334 (hN _ a368) := (vin l_a368 (m := 4) (by decide) (qr165 r_kv5 r_kv6 r_kv7 hnf r_x9 q_x9 ph1_S11 ph3_S11 ph1_S18 bb_x24 iw_x24 c28 bb_x29 iw_x29 c33 bb_x34 iw_x34 c38 ph1_S281 ph1_S289 ph1_S297 ph1_S304 ph1_S311 ph1_S318 ph1_S325 q_x331 c332 r_x334 q_x334 r_x338 q_x338 r_x344 q_x344 r_x351 q_x351 r_x356 q_x356 ex357))
          refine ⟨i370, ?_⟩
          intro S371 eS371
          have hIn : IV S371 := by rw [eS371]; exact iv10_aI hI o_a4 (rg_nw hG ea4) ea368 o_a368 (by decide)
          have hG := rg_a (jj := 21) (x := x334) eS371 hI ea4 o_a4 ea368 o_a368 (by decide) (h1_no (by decide)) (h2_no (y := 0) (by decide)) hG
          have el347 := el_ar eS371 (ow_ne hI o_a4 (by decide) o_a4 (by decide) ea368 ea342 (by decide)) el347
          have el354 := el_ar eS371 (ow_ne hI o_a4 (by decide) o_a4 (by decide) ea368 ea349 (by decide)) el354
          have hI := hIn
          have f0 := fr_A eS371 g0 f0 o_a368 (by decide)
          have d_kv6 := rd_Ik eS371 o_a368 o_a4 (by decide) d_kv6
          have d_x334 := rd_Ik eS371 o_a368 o_a4 (by decide) d_x334
          have d_x331 := rd_Ik eS371 o_a368 o_v0 (by decide) d_x331
          have d_kv329 := rd_Ik eS371 o_a368 o_v0 (by decide) d_kv329
          have d_kv330 := rd_Ik eS371 o_a368 o_v0 (by decide) d_kv330
          have d_x357 := rd_Ik eS371 o_a368 o_a4 (by decide) d_x357
          have ea4 := rf_I eS371 ea4
          have ea336 := rf_I eS371 ea336
          have ea342 := rf_I eS371 ea342
          have ea349 := rf_I eS371 ea349
          have ea360 := rf_I eS371 ea360
          have ea364 := rf_I eS371 ea364
          have ea368 := rf_I eS371 ea368
          have l_a336 := ln_I eS371 l_a336
          have l_a342 := ln_I eS371 l_a342
          have l_a349 := ln_I eS371 l_a349
          have l_a360 := ln_I eS371 l_a360
          have l_a364 := ln_I eS371 l_a364
          have l_a368 := ln_I eS371 l_a368
          have g0 := gr_I eS371 g0
          have o_a336 := ob_I eS371 o_a336
          have o_a342 := ob_I eS371 o_a342
          have o_a349 := ob_I eS371 o_a349
          have o_a360 := ob_I eS371 o_a360
          have o_a364 := ob_I eS371 o_a364
          have o_a368 := ob_I eS371 o_a368
          have o_a4 := ob_I eS371 o_a4
          have o_v0 := ob_I eS371 o_v0
          refine ⟨a4, ea4, ?_⟩
          refine ⟨o_a4, ?_⟩
          obtain ⟨a373, ea373, o_a373, l_a373⟩ := shl 44 rfl hI o_a4
          refine ⟨a373, ea373, ?_⟩
          refine ⟨o_a373, ?_⟩
          intro x374 ex374
          have i375 : vp_in x334 (hN _ a373) := (vin l_a373 (m := 4) (by decide) (qr165 r_kv5 r_kv6 r_kv7 hnf r_x9 q_x9 ph1_S11 ph3_S11 ph1_S18 bb_x24 iw_x24 c28 bb_x29 iw_x29 c33 bb_x34 iw_x34 c38 ph1_S281 ph1_S289 ph1_S297 ph1_S304 ph1_S311 ph1_S318 ph1_S325 q_x331 c332 r_x334 q_x334 r_x338 q_x338 r_x344 q_x344 r_x351 q_x351 r_x356 q_x356 ex357))
          refine ⟨i375, ?_⟩
          intro S376 eS376
          have hIn : IV S376 := by rw [eS376]; exact iv10_aI hI o_a4 (rg_nw hG ea4) ea373 o_a373 (by decide)
          have hG := rg_a (jj := 22) (x := x334) eS376 hI ea4 o_a4 ea373 o_a373 (by decide) (h1_no (by decide)) (h2_no (y := 0) (by decide)) hG
          have el347 := el_ar eS376 (ow_ne hI o_a4 (by decide) o_a4 (by decide) ea373 ea342 (by decide)) el347
          have el354 := el_ar eS376 (ow_ne hI o_a4 (by decide) o_a4 (by decide) ea373 ea349 (by decide)) el354
          have hI := hIn
          have f0 := fr_A eS376 g0 f0 o_a373 (by decide)
          have d_kv6 := rd_Ik eS376 o_a373 o_a4 (by decide) d_kv6
          have d_x334 := rd_Ik eS376 o_a373 o_a4 (by decide) d_x334
          have d_x331 := rd_Ik eS376 o_a373 o_v0 (by decide) d_x331
          have d_kv329 := rd_Ik eS376 o_a373 o_v0 (by decide) d_kv329
          have d_kv330 := rd_Ik eS376 o_a373 o_v0 (by decide) d_kv330
          have d_x357 := rd_Ik eS376 o_a373 o_a4 (by decide) d_x357
          have ea4 := rf_I eS376 ea4
          have ea336 := rf_I eS376 ea336
          have ea342 := rf_I eS376 ea342
          have ea349 := rf_I eS376 ea349
          have ea360 := rf_I eS376 ea360
          have ea364 := rf_I eS376 ea364
          have ea368 := rf_I eS376 ea368
          have ea373 := rf_I eS376 ea373
          have l_a336 := ln_I eS376 l_a336
          have l_a342 := ln_I eS376 l_a342
          have l_a349 := ln_I eS376 l_a349
          have l_a360 := ln_I eS376 l_a360
          have l_a364 := ln_I eS376 l_a364
          have l_a368 := ln_I eS376 l_a368
          have l_a373 := ln_I eS376 l_a373
          have g0 := gr_I eS376 g0
          have o_a336 := ob_I eS376 o_a336
          have o_a342 := ob_I eS376 o_a342
          have o_a349 := ob_I eS376 o_a349
          have o_a360 := ob_I eS376 o_a360
          have o_a364 := ob_I eS376 o_a364
          have o_a368 := ob_I eS376 o_a368
          have o_a373 := ob_I eS376 o_a373
          have o_a4 := ob_I eS376 o_a4
          have o_v0 := ob_I eS376 o_v0
          refine ⟨a4, ea4, ?_⟩
          refine ⟨o_a4, ?_⟩
          obtain ⟨a378, ea378, o_a378, l_a378⟩ := shl 45 rfl hI o_a4
          refine ⟨a378, ea378, ?_⟩
          refine ⟨o_a378, ?_⟩
          intro x379 ex379
          have i380 : vp_in x334 (hN _ a378) := (vin l_a378 (m := 4) (by decide) (qr165 r_kv5 r_kv6 r_kv7 hnf r_x9 q_x9 ph1_S11 ph3_S11 ph1_S18 bb_x24 iw_x24 c28 bb_x29 iw_x29 c33 bb_x34 iw_x34 c38 ph1_S281 ph1_S289 ph1_S297 ph1_S304 ph1_S311 ph1_S318 ph1_S325 q_x331 c332 r_x334 q_x334 r_x338 q_x338 r_x344 q_x344 r_x351 q_x351 r_x356 q_x356 ex357))
          refine ⟨i380, ?_⟩
          intro S381 eS381
          have hIn : IV S381 := by rw [eS381]; exact iv10_aI hI o_a4 (rg_nw hG ea4) ea378 o_a378 (by decide)
          have hG := rg_a (jj := 23) (x := x334) eS381 hI ea4 o_a4 ea378 o_a378 (by decide) (h1_no (by decide)) (h2_no (y := 0) (by decide)) hG
          have el347 := el_ar eS381 (ow_ne hI o_a4 (by decide) o_a4 (by decide) ea378 ea342 (by decide)) el347
          have el354 := el_ar eS381 (ow_ne hI o_a4 (by decide) o_a4 (by decide) ea378 ea349 (by decide)) el354
          have hI := hIn
          have f0 := fr_A eS381 g0 f0 o_a378 (by decide)
          have d_kv6 := rd_Ik eS381 o_a378 o_a4 (by decide) d_kv6
          have d_x334 := rd_Ik eS381 o_a378 o_a4 (by decide) d_x334
          have d_x331 := rd_Ik eS381 o_a378 o_v0 (by decide) d_x331
          have d_kv329 := rd_Ik eS381 o_a378 o_v0 (by decide) d_kv329
          have d_kv330 := rd_Ik eS381 o_a378 o_v0 (by decide) d_kv330
          have d_x357 := rd_Ik eS381 o_a378 o_a4 (by decide) d_x357
          have ea4 := rf_I eS381 ea4
          have ea336 := rf_I eS381 ea336
          have ea342 := rf_I eS381 ea342
          have ea349 := rf_I eS381 ea349
          have ea360 := rf_I eS381 ea360
          have ea364 := rf_I eS381 ea364
          have ea368 := rf_I eS381 ea368
          have ea373 := rf_I eS381 ea373
          have ea378 := rf_I eS381 ea378
          have l_a336 := ln_I eS381 l_a336
          have l_a342 := ln_I eS381 l_a342
          have l_a349 := ln_I eS381 l_a349
          have l_a360 := ln_I eS381 l_a360
          have l_a364 := ln_I eS381 l_a364
          have l_a368 := ln_I eS381 l_a368
          have l_a373 := ln_I eS381 l_a373
          have l_a378 := ln_I eS381 l_a378
          have g0 := gr_I eS381 g0
          have o_a336 := ob_I eS381 o_a336
          have o_a342 := ob_I eS381 o_a342
          have o_a349 := ob_I eS381 o_a349
          have o_a360 := ob_I eS381 o_a360
          have o_a364 := ob_I eS381 o_a364
          have o_a368 := ob_I eS381 o_a368
          have o_a373 := ob_I eS381 o_a373
          have o_a378 := ob_I eS381 o_a378
          have o_a4 := ob_I eS381 o_a4
          have o_v0 := ob_I eS381 o_v0
          refine ⟨a4, ea4, ?_⟩
          refine ⟨o_a4, ?_⟩
          obtain ⟨a383, ea383, o_a383, l_a383⟩ := shl 46 rfl hI o_a4
          refine ⟨a383, ea383, ?_⟩
          refine ⟨o_a383, ?_⟩
          have i384 : vp_in x334 (hN _ a383) := (vin l_a383 (m := 4) (by decide) (qr165 r_kv5 r_kv6 r_kv7 hnf r_x9 q_x9 ph1_S11 ph3_S11 ph1_S18 bb_x24 iw_x24 c28 bb_x29 iw_x29 c33 bb_x34 iw_x34 c38 ph1_S281 ph1_S289 ph1_S297 ph1_S304 ph1_S311 ph1_S318 ph1_S325 q_x331 c332 r_x334 q_x334 r_x338 q_x338 r_x344 q_x344 r_x351 q_x351 r_x356 q_x356 ex357))
          refine ⟨i384, ?_⟩
          intro S385 eS385
          have hIn : IV S385 := by rw [eS385]; exact iv10_aI hI o_a4 (rg_nw hG ea4) ea383 o_a383 (by decide)
          have hG := rg_a (jj := 24) (x := x334) eS385 hI ea4 o_a4 ea383 o_a383 (by decide) (h1_one (c := 4) (lo := 1) (hi := 9) (hf := 99) (by decide) (by rw [← d_x334]; exact (qr166 r_kv5 r_kv6 r_kv7 hnf r_x9 q_x9 ph1_S11 ph3_S11 ph1_S18 bb_x24 iw_x24 c28 bb_x29 iw_x29 c33 bb_x34 iw_x34 c38 ph1_S281 ph1_S289 ph1_S297 ph1_S304 ph1_S311 ph1_S318 ph1_S325 q_x331 c332 r_x334 q_x334 r_x338 q_x338 r_x344 q_x344 r_x351 q_x351 r_x356 q_x356 ex357))) (h2_no (y := 0) (by decide)) hG
          have el347 := el_ar eS385 (ow_ne hI o_a4 (by decide) o_a4 (by decide) ea383 ea342 (by decide)) el347
          have el354 := el_ar eS385 (ow_ne hI o_a4 (by decide) o_a4 (by decide) ea383 ea349 (by decide)) el354
          have hI := hIn
          have f0 := fr_A eS385 g0 f0 o_a383 (by decide)
          have d_kv6 := rd_Ik eS385 o_a383 o_a4 (by decide) d_kv6
          have d_x334 := rd_Ik eS385 o_a383 o_a4 (by decide) d_x334
          have d_x331 := rd_Ik eS385 o_a383 o_v0 (by decide) d_x331
          have d_kv329 := rd_Ik eS385 o_a383 o_v0 (by decide) d_kv329
          have d_kv330 := rd_Ik eS385 o_a383 o_v0 (by decide) d_kv330
          have d_x357 := rd_Ik eS385 o_a383 o_a4 (by decide) d_x357
          have ea4 := rf_I eS385 ea4
          have ea336 := rf_I eS385 ea336
          have ea342 := rf_I eS385 ea342
          have ea349 := rf_I eS385 ea349
          have ea360 := rf_I eS385 ea360
          have ea364 := rf_I eS385 ea364
          have ea368 := rf_I eS385 ea368
          have ea373 := rf_I eS385 ea373
          have ea378 := rf_I eS385 ea378
          have ea383 := rf_I eS385 ea383
          have l_a336 := ln_I eS385 l_a336
          have l_a342 := ln_I eS385 l_a342
          have l_a349 := ln_I eS385 l_a349
          have l_a360 := ln_I eS385 l_a360
          have l_a364 := ln_I eS385 l_a364
          have l_a368 := ln_I eS385 l_a368
          have l_a373 := ln_I eS385 l_a373
          have l_a378 := ln_I eS385 l_a378
          have l_a383 := ln_I eS385 l_a383
          have g0 := gr_I eS385 g0
          have o_a336 := ob_I eS385 o_a336
          have o_a342 := ob_I eS385 o_a342
          have o_a349 := ob_I eS385 o_a349
          have o_a360 := ob_I eS385 o_a360
          have o_a364 := ob_I eS385 o_a364
          have o_a368 := ob_I eS385 o_a368
          have o_a373 := ob_I eS385 o_a373
          have o_a378 := ob_I eS385 o_a378
          have o_a383 := ob_I eS385 o_a383
          have o_a4 := ob_I eS385 o_a4
          have o_v0 := ob_I eS385 o_v0
          have el386 : fI S385 a383 x334.toNatClampNeg = x317 := by rw [eS385]; exact u2_self _ _ _ _
          refine ⟨a4, ea4, ?_⟩
          refine ⟨o_a4, ?_⟩
          obtain ⟨a388, ea388, o_a388, l_a388⟩ := shl 47 rfl hI o_a4
          refine ⟨a388, ea388, ?_⟩
          refine ⟨o_a388, ?_⟩
          have i389 : vp_in x334 (hN _ a388) := (vin l_a388 (m := 4) (by decide) (qr165 r_kv5 r_kv6 r_kv7 hnf r_x9 q_x9 ph1_S11 ph3_S11 ph1_S18 bb_x24 iw_x24 c28 bb_x29 iw_x29 c33 bb_x34 iw_x34 c38 ph1_S281 ph1_S289 ph1_S297 ph1_S304 ph1_S311 ph1_S318 ph1_S325 q_x331 c332 r_x334 q_x334 r_x338 q_x338 r_x344 q_x344 r_x351 q_x351 r_x356 q_x356 ex357))
          refine ⟨i389, ?_⟩
          intro S390 eS390
          have hIn : IV S390 := by rw [eS390]; exact iv10_aI hI o_a4 (rg_nw hG ea4) ea388 o_a388 (by decide)
          have hG := rg_a (jj := 25) (x := x334) eS390 hI ea4 o_a4 ea388 o_a388 (by decide) (h1_one (c := 4) (lo := 0) (hi := 9) (hf := 99) (by decide) (by rw [← d_x334]; exact (qr166 r_kv5 r_kv6 r_kv7 hnf r_x9 q_x9 ph1_S11 ph3_S11 ph1_S18 bb_x24 iw_x24 c28 bb_x29 iw_x29 c33 bb_x34 iw_x34 c38 ph1_S281 ph1_S289 ph1_S297 ph1_S304 ph1_S311 ph1_S318 ph1_S325 q_x331 c332 r_x334 q_x334 r_x338 q_x338 r_x344 q_x344 r_x351 q_x351 r_x356 q_x356 ex357))) (h2_no (y := 0) (by decide)) hG
          have el347 := el_ar eS390 (ow_ne hI o_a4 (by decide) o_a4 (by decide) ea388 ea342 (by decide)) el347
          have el354 := el_ar eS390 (ow_ne hI o_a4 (by decide) o_a4 (by decide) ea388 ea349 (by decide)) el354
          have el386 := el_ar eS390 (ow_ne hI o_a4 (by decide) o_a4 (by decide) ea388 ea383 (by decide)) el386
          have hI := hIn
          have f0 := fr_A eS390 g0 f0 o_a388 (by decide)
          have d_kv6 := rd_Ik eS390 o_a388 o_a4 (by decide) d_kv6
          have d_x334 := rd_Ik eS390 o_a388 o_a4 (by decide) d_x334
          have d_x331 := rd_Ik eS390 o_a388 o_v0 (by decide) d_x331
          have d_kv329 := rd_Ik eS390 o_a388 o_v0 (by decide) d_kv329
          have d_kv330 := rd_Ik eS390 o_a388 o_v0 (by decide) d_kv330
          have d_x357 := rd_Ik eS390 o_a388 o_a4 (by decide) d_x357
          have ea4 := rf_I eS390 ea4
          have ea336 := rf_I eS390 ea336
          have ea342 := rf_I eS390 ea342
          have ea349 := rf_I eS390 ea349
          have ea360 := rf_I eS390 ea360
          have ea364 := rf_I eS390 ea364
          have ea368 := rf_I eS390 ea368
          have ea373 := rf_I eS390 ea373
          have ea378 := rf_I eS390 ea378
          have ea383 := rf_I eS390 ea383
          have ea388 := rf_I eS390 ea388
          have l_a336 := ln_I eS390 l_a336
          have l_a342 := ln_I eS390 l_a342
          have l_a349 := ln_I eS390 l_a349
          have l_a360 := ln_I eS390 l_a360
          have l_a364 := ln_I eS390 l_a364
          have l_a368 := ln_I eS390 l_a368
          have l_a373 := ln_I eS390 l_a373
          have l_a378 := ln_I eS390 l_a378
          have l_a383 := ln_I eS390 l_a383
          have l_a388 := ln_I eS390 l_a388
          have g0 := gr_I eS390 g0
          have o_a336 := ob_I eS390 o_a336
          have o_a342 := ob_I eS390 o_a342
          have o_a349 := ob_I eS390 o_a349
          have o_a360 := ob_I eS390 o_a360
          have o_a364 := ob_I eS390 o_a364
          have o_a368 := ob_I eS390 o_a368
          have o_a373 := ob_I eS390 o_a373
          have o_a378 := ob_I eS390 o_a378
          have o_a383 := ob_I eS390 o_a383
          have o_a388 := ob_I eS390 o_a388
          have o_a4 := ob_I eS390 o_a4
          have o_v0 := ob_I eS390 o_v0
          have el391 : fI S390 a388 x334.toNatClampNeg = x324 := by rw [eS390]; exact u2_self _ _ _ _
          refine ⟨a4, ea4, ?_⟩
          refine ⟨o_a4, ?_⟩
          intro x393 ex393
          have r_x393 : (0 : Int32) ≤ x393 ∧ x393 ≤ (4 : Int32) := by rw [ex393]; exact nu 20 rfl hI o_a4
          have q_x393 : x393 = x334 := ex393.trans d_x334.symm
          have d_x393 := ex393
          intro x394 ex394
          intro S395 eS395
          have hIn : IV S395 := by rw [eS395]; exact iv10_sI hI o_a4 (rg_nw hG ea4) (nu_one (lo := (0 : Int32)) (hi := (4 : Int32)) (by decide) (qr167 r_kv5 r_kv6 r_kv7 hnf r_x9 q_x9 ph1_S11 ph3_S11 ph1_S18 bb_x24 iw_x24 c28 bb_x29 iw_x29 c33 bb_x34 iw_x34 c38 ph1_S281 ph1_S289 ph1_S297 ph1_S304 ph1_S311 ph1_S318 ph1_S325 q_x331 c332 r_x334 q_x334 r_x338 q_x338 r_x344 q_x344 r_x351 q_x351 r_x356 q_x356 ex357 r_x393 q_x393 ex394))
          have hG := rg_inc (c := 4) (y := x393) eS395 hI ea4 o_a4 d_x393.symm (qr168 r_kv5 r_kv6 r_kv7 hnf r_x9 q_x9 ph1_S11 ph3_S11 ph1_S18 bb_x24 iw_x24 c28 bb_x29 iw_x29 c33 bb_x34 iw_x34 c38 ph1_S281 ph1_S289 ph1_S297 ph1_S304 ph1_S311 ph1_S318 ph1_S325 q_x331 c332 r_x334 q_x334 r_x338 q_x338 r_x344 q_x344 r_x351 q_x351 r_x356 q_x356 ex357 r_x393 q_x393 ex394) (qr169 r_kv5 r_kv6 r_kv7 hnf r_x9 q_x9 ph1_S11 ph3_S11 ph1_S18 bb_x24 iw_x24 c28 bb_x29 iw_x29 c33 bb_x34 iw_x34 c38 ph1_S281 ph1_S289 ph1_S297 ph1_S304 ph1_S311 ph1_S318 ph1_S325 q_x331 c332 r_x334 q_x334 r_x338 q_x338 r_x344 q_x344 r_x351 q_x351 r_x356 q_x356 ex357 r_x393 q_x393 ex394) (hn_4 ea383 (by rw [show x393 = x334 from (qr174 r_kv5 r_kv6 r_kv7 hnf r_x9 q_x9 ph1_S11 ph3_S11 ph1_S18 bb_x24 iw_x24 c28 bb_x29 iw_x29 c33 bb_x34 iw_x34 c38 ph1_S281 ph1_S289 ph1_S297 ph1_S304 ph1_S311 ph1_S318 ph1_S325 q_x331 c332 r_x334 q_x334 r_x338 q_x338 r_x344 q_x344 r_x351 q_x351 r_x356 q_x356 ex357 r_x393 q_x393 ex394), el386]; exact ⟨(qr175 r_kv5 r_kv6 r_kv7 hnf r_x9 q_x9 ph1_S11 ph3_S11 ph1_S18 bb_x24 iw_x24 c28 bb_x29 iw_x29 c33 bb_x34 iw_x34 c38 ph1_S281 ph1_S289 ph1_S297 ph1_S304 ph1_S311 ph1_S318 p_x317 ph1_S325 p_x324 q_x331 c332 r_x334 q_x334 r_x338 q_x338 r_x344 q_x344 r_x351 q_x351 r_x356 q_x356 ex357 r_x393 q_x393 ex394), (qr176 r_kv5 r_kv6 r_kv7 hnf r_x9 q_x9 ph1_S11 ph3_S11 ph1_S18 bb_x24 iw_x24 c28 bb_x29 iw_x29 c33 bb_x34 iw_x34 c38 ph1_S281 ph1_S289 ph1_S297 ph1_S304 ph1_S311 ph1_S318 p_x317 ph1_S325 p_x324 q_x331 c332 r_x334 q_x334 r_x338 q_x338 r_x344 q_x344 r_x351 q_x351 r_x356 q_x356 ex357 r_x393 q_x393 ex394), Or.inl rfl⟩) ea388 (by rw [show x393 = x334 from (qr174 r_kv5 r_kv6 r_kv7 hnf r_x9 q_x9 ph1_S11 ph3_S11 ph1_S18 bb_x24 iw_x24 c28 bb_x29 iw_x29 c33 bb_x34 iw_x34 c38 ph1_S281 ph1_S289 ph1_S297 ph1_S304 ph1_S311 ph1_S318 ph1_S325 q_x331 c332 r_x334 q_x334 r_x338 q_x338 r_x344 q_x344 r_x351 q_x351 r_x356 q_x356 ex357 r_x393 q_x393 ex394), el391]; exact ⟨(qr177 r_kv5 r_kv6 r_kv7 hnf r_x9 q_x9 ph1_S11 ph3_S11 ph1_S18 bb_x24 iw_x24 c28 bb_x29 iw_x29 c33 bb_x34 iw_x34 c38 ph1_S281 ph1_S289 ph1_S297 ph1_S304 ph1_S311 ph1_S318 p_x317 ph1_S325 p_x324 q_x331 c332 r_x334 q_x334 r_x338 q_x338 r_x344 q_x344 r_x351 q_x351 r_x356 q_x356 ex357 r_x393 q_x393 ex394), (qr178 r_kv5 r_kv6 r_kv7 hnf r_x9 q_x9 ph1_S11 ph3_S11 ph1_S18 bb_x24 iw_x24 c28 bb_x29 iw_x29 c33 bb_x34 iw_x34 c38 ph1_S281 ph1_S289 ph1_S297 ph1_S304 ph1_S311 ph1_S318 p_x317 ph1_S325 p_x324 q_x331 c332 r_x334 q_x334 r_x338 q_x338 r_x344 q_x344 r_x351 q_x351 r_x356 q_x356 ex357 r_x393 q_x393 ex394), Or.inl rfl⟩)) (hs_4 eS395 d_x393.symm d_kv6.symm (qr168 r_kv5 r_kv6 r_kv7 hnf r_x9 q_x9 ph1_S11 ph3_S11 ph1_S18 bb_x24 iw_x24 c28 bb_x29 iw_x29 c33 bb_x34 iw_x34 c38 ph1_S281 ph1_S289 ph1_S297 ph1_S304 ph1_S311 ph1_S318 ph1_S325 q_x331 c332 r_x334 q_x334 r_x338 q_x338 r_x344 q_x344 r_x351 q_x351 r_x356 q_x356 ex357 r_x393 q_x393 ex394) (qr169 r_kv5 r_kv6 r_kv7 hnf r_x9 q_x9 ph1_S11 ph3_S11 ph1_S18 bb_x24 iw_x24 c28 bb_x29 iw_x29 c33 bb_x34 iw_x34 c38 ph1_S281 ph1_S289 ph1_S297 ph1_S304 ph1_S311 ph1_S318 ph1_S325 q_x331 c332 r_x334 q_x334 r_x338 q_x338 r_x344 q_x344 r_x351 q_x351 r_x356 q_x356 ex357 r_x393 q_x393 ex394) (qr170 r_kv5 r_kv6 r_kv7 hnf r_x9 q_x9 ph1_S11 ph3_S11 ph1_S18 bb_x24 iw_x24 c28 bb_x29 iw_x29 c33 bb_x34 iw_x34 c38 ph1_S281 ph1_S289 ph1_S297 ph1_S304 ph1_S311 ph1_S318 ph1_S325 q_x331 c332 r_x334 q_x334 r_x338 q_x338 r_x344 q_x344 r_x351 q_x351 r_x356 q_x356 ex357 r_x393 q_x393 ex394) ea342 ea349 el347 (el354.trans (qr171 r_kv5 r_kv6 r_kv7 hnf r_x9 q_x9 ph1_S11 ph3_S11 ph1_S18 bb_x24 iw_x24 c28 bb_x29 iw_x29 c33 bb_x34 iw_x34 c38 ph1_S281 ph1_S289 ph1_S297 ph1_S304 ph1_S311 ph1_S318 ph1_S325 q_x331 c332 r_x334 q_x334 r_x338 q_x338 r_x344 q_x344 r_x351 q_x351 r_x356 q_x356 ex357 r_x393 q_x393 ex394)) (qr172 r_kv5 r_kv6 r_kv7 hnf r_x9 q_x9 ph1_S11 ph3_S11 ph1_S18 bb_x24 iw_x24 c28 bb_x29 iw_x29 c33 bb_x34 iw_x34 c38 ph1_S281 ph1_S289 ph1_S297 ph1_S304 ph1_S311 ph1_S318 ph1_S325 q_x331 c332 r_x334 q_x334 r_x338 q_x338 r_x344 q_x344 r_x351 q_x351 r_x356 q_x356 ex357 r_x393 q_x393 ex394) (qr173 r_kv5 r_kv6 r_kv7 hnf r_x9 q_x9 ph1_S11 ph3_S11 ph1_S18 bb_x24 iw_x24 c28 bb_x29 iw_x29 c33 bb_x34 iw_x34 c38 ph1_S281 ph1_S289 ph1_S297 ph1_S304 ph1_S311 ph1_S318 ph1_S325 q_x331 c332 r_x334 q_x334 r_x338 q_x338 r_x344 q_x344 r_x351 q_x351 r_x356 q_x356 ex357 r_x393 q_x393 ex394)) hG
          have el347 := el_ob eS395 o_a4 o_a342 (by decide) el347
          have el354 := el_ob eS395 o_a4 o_a349 (by decide) el354
          have el386 := el_ob eS395 o_a4 o_a383 (by decide) el386
          have el391 := el_ob eS395 o_a4 o_a388 (by decide) el391
          have hI := hIn
          have f0 := fr_I eS395 g0 f0 o_a4 (by decide)
          have d_kv6 := rd_Ij eS395 (by decide) d_kv6
          have d_x331 := rd_Ik eS395 o_a4 o_v0 (by decide) d_x331
          have d_kv329 := rd_Ik eS395 o_a4 o_v0 (by decide) d_kv329
          have d_kv330 := rd_Ik eS395 o_a4 o_v0 (by decide) d_kv330
          have d_x357 := rd_Ij eS395 (by decide) d_x357
          have d_x394 := rd_Is eS395 (rfl : x394 = x394)
          have ea4 := rf_I eS395 ea4
          have ea336 := rf_I eS395 ea336
          have ea342 := rf_I eS395 ea342
          have ea349 := rf_I eS395 ea349
          have ea360 := rf_I eS395 ea360
          have ea364 := rf_I eS395 ea364
          have ea368 := rf_I eS395 ea368
          have ea373 := rf_I eS395 ea373
          have ea378 := rf_I eS395 ea378
          have ea383 := rf_I eS395 ea383
          have ea388 := rf_I eS395 ea388
          have l_a336 := ln_I eS395 l_a336
          have l_a342 := ln_I eS395 l_a342
          have l_a349 := ln_I eS395 l_a349
          have l_a360 := ln_I eS395 l_a360
          have l_a364 := ln_I eS395 l_a364
          have l_a368 := ln_I eS395 l_a368
          have l_a373 := ln_I eS395 l_a373
          have l_a378 := ln_I eS395 l_a378
          have l_a383 := ln_I eS395 l_a383
          have l_a388 := ln_I eS395 l_a388
          have g0 := gr_I eS395 g0
          have o_a336 := ob_I eS395 o_a336
          have o_a342 := ob_I eS395 o_a342
          have o_a349 := ob_I eS395 o_a349
          have o_a360 := ob_I eS395 o_a360
          have o_a364 := ob_I eS395 o_a364
          have o_a368 := ob_I eS395 o_a368
          have o_a373 := ob_I eS395 o_a373
          have o_a378 := ob_I eS395 o_a378
          have o_a383 := ob_I eS395 o_a383
          have o_a388 := ob_I eS395 o_a388
          have o_a4 := ob_I eS395 o_a4
          have o_v0 := ob_I eS395 o_v0
          have hn : RN S395 v0 := fun z ez => by obtain rfl : a4 = z := Option.some.inj (ea4.symm.trans ez); rw [← d_x357, ← d_kv6, ← d_x394]; exact (qr179 r_kv5 r_kv6 r_kv7 hnf r_x9 q_x9 ph1_S11 ph3_S11 ph1_S18 bb_x24 iw_x24 c28 bb_x29 iw_x29 c33 bb_x34 iw_x34 c38 ph1_S281 ph1_S289 ph1_S297 ph1_S304 ph1_S311 ph1_S318 ph1_S325 q_x331 c332 r_x334 q_x334 r_x338 q_x338 r_x344 q_x344 r_x351 q_x351 r_x356 q_x356 ex357 r_x393 q_x393 ex394)
          exact hq _ hI g0 f0 ⟨hG, hn, (by have t : x331 = 5 → 0 < kv329 := (qr180 hO r_kv5 r_kv6 r_kv7 hnf r_x9 q_x9 ph0_S11 ph1_S11 ph3_S11 ph0_S18 ph1_S18 bb_x24 iw_x24 c28 bb_x29 iw_x29 c33 bb_x34 iw_x34 c38 ph0_S281 ph1_S281 ph0_S289 ph1_S289 ph0_S297 ph1_S297 ph0_S304 ph1_S304 ph0_S311 ph1_S311 ph0_S318 ph1_S318 ph0_S325 ph1_S325 q_x331 c332 r_x334 q_x334 r_x338 q_x338 r_x344 q_x344 r_x351 q_x351 r_x356 q_x356 ex357 r_x393 q_x393 ex394); rw [d_x331, d_kv329] at t; exact t), (by have t : x331 = 5 ∨ ¬ kv2 = 5 := (qr181 r_kv5 r_kv6 r_kv7 hnf r_x9 q_x9 ph1_S11 ph3_S11 ph1_S18 bb_x24 iw_x24 c28 bb_x29 iw_x29 c33 bb_x34 iw_x34 c38 ph1_S281 ph1_S289 ph1_S297 ph1_S304 ph1_S311 ph1_S318 ph1_S325 q_x331 c332 r_x334 q_x334 r_x338 q_x338 r_x344 q_x344 r_x351 q_x351 r_x356 q_x356 ex357 r_x393 q_x393 ex394); rw [di_9, d_x331] at t; exact t), (by have t : kv1 ≤ kv330 ∧ (x331 = 4 → kv1 < kv330 ∨ kv2 = 4) := (qr182 r_kv1 r_kv5 r_kv6 r_kv7 hnf r_x9 q_x9 ph1_S11 r_kv16 ph2_S11 ph3_S11 ph1_S18 r_kv23 ph2_S18 bb_x24 iw_x24 c28 bb_x29 iw_x29 c33 bb_x34 iw_x34 c38 ph1_S281 r_kv285 ph2_S281 ph1_S289 r_kv294 ph2_S289 ph1_S297 r_kv302 ph2_S297 ph1_S304 r_kv309 ph2_S304 ph1_S311 r_kv316 ph2_S311 ph1_S318 r_kv323 ph2_S318 ph1_S325 r_kv330 ph2_S325 q_x331 c332 r_x334 q_x334 r_x338 q_x338 r_x344 q_x344 r_x351 q_x351 r_x356 q_x356 ex357 r_x393 q_x393 ex394); rw [di_8, di_9, d_kv330, d_x331] at t; exact t)⟩
        · exact hq _ hI g0 f0 ⟨hG, hn, (by have t : x331 = 5 → 0 < kv329 := (qr183 hO r_kv5 r_kv6 r_kv7 hnf r_x9 q_x9 ph0_S11 ph1_S11 ph3_S11 ph0_S18 ph1_S18 bb_x24 iw_x24 c28 bb_x29 iw_x29 c33 bb_x34 iw_x34 c38 ph0_S281 ph1_S281 ph0_S289 ph1_S289 ph0_S297 ph1_S297 ph0_S304 ph1_S304 ph0_S311 ph1_S311 ph0_S318 ph1_S318 ph0_S325 ph1_S325 q_x331 c332); rw [d_x331, d_kv329] at t; exact t), (by have t : x331 = 5 ∨ ¬ kv2 = 5 := (qr184 r_kv5 r_kv6 r_kv7 hnf r_x9 q_x9 ph1_S11 ph3_S11 ph1_S18 bb_x24 iw_x24 c28 bb_x29 iw_x29 c33 bb_x34 iw_x34 c38 ph1_S281 ph1_S289 ph1_S297 ph1_S304 ph1_S311 ph1_S318 ph1_S325 q_x331 c332); rw [di_9, d_x331] at t; exact t), (by have t : kv1 ≤ kv330 ∧ (x331 = 4 → kv1 < kv330 ∨ kv2 = 4) := (qr185 r_kv1 r_kv5 r_kv6 r_kv7 hnf r_x9 q_x9 ph1_S11 r_kv16 ph2_S11 ph3_S11 ph1_S18 r_kv23 ph2_S18 bb_x24 iw_x24 c28 bb_x29 iw_x29 c33 bb_x34 iw_x34 c38 ph1_S281 r_kv285 ph2_S281 ph1_S289 r_kv294 ph2_S289 ph1_S297 r_kv302 ph2_S297 ph1_S304 r_kv309 ph2_S304 ph1_S311 r_kv316 ph2_S311 ph1_S318 r_kv323 ph2_S318 ph1_S325 r_kv330 ph2_S325 q_x331 c332); rw [di_8, di_9, d_kv330, d_x331] at t; exact t)⟩
    · refine u_X11_readWalker_74 ?_
      refine ⟨fun c396 => ?_, fun c396 => absurd (show (1 : Int32) = (-1 : Int32) from c396) (by decide)⟩
      refine u_X11_readWalker_85 ?_
      refine ⟨o_v0, ?_⟩
      have do396_kv23 := d_kv23
      have do396_kv21 := d_kv21
      have do396_kv22 := d_kv22
      refine m_X11_goesOn hI o_v0 hG (by have t : kv21 = 5 → 0 < kv22 := (qr186 hO r_kv5 r_kv6 r_kv7 hnf r_x9 q_x9 ph0_S11 ph1_S11 ph3_S11 ph0_S18 ph1_S18 bb_x24 iw_x24 c28 bb_x29 iw_x29 c33); rw [d_kv21, d_kv22] at t; exact t) (fun S398 hJ g399 fc400 p_S398 => ?_)
      obtain ⟨hG, pg0_S398, pg1_S398, pg2_S398⟩ := p_S398
      have hn := rn_fr fc400 g399 hI o_v0 (by decide) hn
      have hI := hJ
      have d_kv5 := d_kv5.trans (fri_at fc400 (by decide) (by decide) o_a4).symm
      have d_kv6 := d_kv6.trans (fri_at fc400 (by decide) (by decide) o_a4).symm
      have d_x9 := d_x9.trans (fri_at fc400 (by decide) (by decide) o_a4).symm
      have d_kv22 := d_kv22.trans (fri_at fc400 (by decide) (by decide) o_v0).symm
      have ea4 := (frr_at fc400 (by decide) (by decide) o_v0).trans ea4
      have f0 := fri_tr (S := S18) g0 f0 fc400 (by decide) (by decide)
      have o_a4 := gr_ob g399 o_a4
      have o_v0 := gr_ob g399 o_v0
      have g0 := gr_tr (T := S18) g0 g399
      obtain ⟨kv401, d_kv401⟩ : ∃ z : Int32, z = fI S398 v0 9 := ⟨_, rfl⟩
      have ph0_S398 : kv401 = 5 → 0 < kv22 := by rw [d_kv401, d_kv22]; exact pg0_S398
      have ph1_S398 : kv401 = 5 ∨ ¬ kv21 = 5 := by rw [do396_kv21, d_kv401]; exact pg1_S398
      obtain ⟨kv402, d_kv402⟩ : ∃ z : Int32, z = fI S398 v0 8 := ⟨_, rfl⟩
      have r_kv402 : (0 : Int32) ≤ kv402 ∧ kv402 ≤ (900 : Int32) := by rw [d_kv402]; exact nu 25 rfl hI o_v0
      have ph2_S398 : kv23 ≤ kv402 ∧ (kv401 = 4 → kv23 < kv402 ∨ kv21 = 4) := by rw [do396_kv23, do396_kv21, d_kv402, d_kv401]; exact pg2_S398
      intro _
      refine ⟨fun c403 => absurd (show ¬ (1 : Int32) = (1 : Int32) from c403) (by decide), fun c403 => ?_⟩
      have do403_kv402 := d_kv402
      have do403_kv401 := d_kv401
      have do403_kv22 := d_kv22
      refine m_X11_readWhole hI o_v0 hG (by have t : kv401 = 5 → 0 < kv22 := (qr187 hO r_kv5 r_kv6 r_kv7 hnf r_x9 q_x9 ph0_S11 ph1_S11 ph3_S11 ph0_S18 ph1_S18 bb_x24 iw_x24 c28 bb_x29 iw_x29 c33 ph0_S398 ph1_S398); rw [d_kv401, d_kv22] at t; exact t) (fun x404 S405 hJ g406 fc407 p_x404 => ?_)
      obtain ⟨hG, p_x404, pg0_S405, pg1_S405, pg2_S405⟩ := p_x404
      have hn := rn_fr fc407 g406 hI o_v0 (by decide) hn
      have hI := hJ
      have d_kv5 := d_kv5.trans (fri_at fc407 (by decide) (by decide) o_a4).symm
      have d_kv6 := d_kv6.trans (fri_at fc407 (by decide) (by decide) o_a4).symm
      have d_x9 := d_x9.trans (fri_at fc407 (by decide) (by decide) o_a4).symm
      have ea4 := (frr_at fc407 (by decide) (by decide) o_v0).trans ea4
      have f0 := fri_tr (S := S398) g0 f0 fc407 (by decide) (by decide)
      have o_a4 := gr_ob g406 o_a4
      have o_v0 := gr_ob g406 o_v0
      have g0 := gr_tr (T := S398) g0 g406
      obtain ⟨kv408, d_kv408⟩ : ∃ z : Int32, z = fI S405 v0 9 := ⟨_, rfl⟩
      obtain ⟨kv409, d_kv409⟩ : ∃ z : Int32, z = fI S405 v0 13 := ⟨_, rfl⟩
      have ph0_S405 : kv408 = 5 → 0 < kv409 := by rw [d_kv408, d_kv409]; exact pg0_S405
      have ph1_S405 : kv408 = 5 ∨ ¬ kv401 = 5 := by rw [do403_kv401, d_kv408]; exact pg1_S405
      obtain ⟨kv410, d_kv410⟩ : ∃ z : Int32, z = fI S405 v0 8 := ⟨_, rfl⟩
      have r_kv410 : (0 : Int32) ≤ kv410 ∧ kv410 ≤ (900 : Int32) := by rw [d_kv410]; exact nu 25 rfl hI o_v0
      have ph2_S405 : kv402 ≤ kv410 ∧ (kv408 = 4 → kv402 < kv410 ∨ kv401 = 4) := by rw [do403_kv402, do403_kv401, d_kv410, d_kv408]; exact pg2_S405
      intro _
      refine u_X11_readWalker_136 ?_
      refine ⟨fun c411 => absurd (show ¬ (1 : Int32) = (1 : Int32) from c411) (by decide), fun c411 => ?_⟩
      refine u_X11_readWalker_149 ?_
      refine ⟨o_v0, ?_⟩
      have do411_kv410 := d_kv410
      have do411_kv408 := d_kv408
      have do411_kv409 := d_kv409
      refine m_X11_readPart hI o_v0 (by decide) hG (by have t : kv408 = 5 → 0 < kv409 := (qr188 hO r_kv5 r_kv6 r_kv7 hnf r_x9 q_x9 ph0_S11 ph1_S11 ph3_S11 ph0_S18 ph1_S18 bb_x24 iw_x24 c28 bb_x29 iw_x29 c33 ph0_S398 ph1_S398 ph0_S405 ph1_S405); rw [d_kv408, d_kv409] at t; exact t) (fun x412 S413 hJ g414 fc415 p_x412 => ?_)
      obtain ⟨hG, p_x412, pg0_S413, pg1_S413, pg2_S413⟩ := p_x412
      have hn := rn_fr fc415 g414 hI o_v0 (by decide) hn
      have hI := hJ
      have d_kv5 := d_kv5.trans (fri_at fc415 (by decide) (by decide) o_a4).symm
      have d_kv6 := d_kv6.trans (fri_at fc415 (by decide) (by decide) o_a4).symm
      have d_x9 := d_x9.trans (fri_at fc415 (by decide) (by decide) o_a4).symm
      have ea4 := (frr_at fc415 (by decide) (by decide) o_v0).trans ea4
      have f0 := fri_tr (S := S405) g0 f0 fc415 (by decide) (by decide)
      have o_a4 := gr_ob g414 o_a4
      have o_v0 := gr_ob g414 o_v0
      have g0 := gr_tr (T := S405) g0 g414
      obtain ⟨kv416, d_kv416⟩ : ∃ z : Int32, z = fI S413 v0 9 := ⟨_, rfl⟩
      obtain ⟨kv417, d_kv417⟩ : ∃ z : Int32, z = fI S413 v0 13 := ⟨_, rfl⟩
      have ph0_S413 : kv416 = 5 → 0 < kv417 := by rw [d_kv416, d_kv417]; exact pg0_S413
      have ph1_S413 : kv416 = 5 ∨ ¬ kv408 = 5 := by rw [do411_kv408, d_kv416]; exact pg1_S413
      obtain ⟨kv418, d_kv418⟩ : ∃ z : Int32, z = fI S413 v0 8 := ⟨_, rfl⟩
      have r_kv418 : (0 : Int32) ≤ kv418 ∧ kv418 ≤ (900 : Int32) := by rw [d_kv418]; exact nu 25 rfl hI o_v0
      have ph2_S413 : kv410 ≤ kv418 ∧ (kv416 = 4 → kv410 < kv418 ∨ kv408 = 4) := by rw [do411_kv410, do411_kv408, d_kv418, d_kv416]; exact pg2_S413
      intro _
      have do418_kv418 := d_kv418
      have do418_kv416 := d_kv416
      have do418_kv417 := d_kv417
      refine m_X11_readPart hI o_v0 (by decide) hG (by have t : kv416 = 5 → 0 < kv417 := (qr189 hO r_kv5 r_kv6 r_kv7 hnf r_x9 q_x9 ph0_S11 ph1_S11 ph3_S11 ph0_S18 ph1_S18 bb_x24 iw_x24 c28 bb_x29 iw_x29 c33 ph0_S398 ph1_S398 ph0_S405 ph1_S405 ph0_S413 ph1_S413); rw [d_kv416, d_kv417] at t; exact t) (fun x419 S420 hJ g421 fc422 p_x419 => ?_)
      obtain ⟨hG, p_x419, pg0_S420, pg1_S420, pg2_S420⟩ := p_x419
      have hn := rn_fr fc422 g421 hI o_v0 (by decide) hn
      have hI := hJ
      have d_kv5 := d_kv5.trans (fri_at fc422 (by decide) (by decide) o_a4).symm
      have d_kv6 := d_kv6.trans (fri_at fc422 (by decide) (by decide) o_a4).symm
      have d_x9 := d_x9.trans (fri_at fc422 (by decide) (by decide) o_a4).symm
      have ea4 := (frr_at fc422 (by decide) (by decide) o_v0).trans ea4
      have f0 := fri_tr (S := S413) g0 f0 fc422 (by decide) (by decide)
      have o_a4 := gr_ob g421 o_a4
      have o_v0 := gr_ob g421 o_v0
      have g0 := gr_tr (T := S413) g0 g421
      obtain ⟨kv423, d_kv423⟩ : ∃ z : Int32, z = fI S420 v0 9 := ⟨_, rfl⟩
      obtain ⟨kv424, d_kv424⟩ : ∃ z : Int32, z = fI S420 v0 13 := ⟨_, rfl⟩
      have ph0_S420 : kv423 = 5 → 0 < kv424 := by rw [d_kv423, d_kv424]; exact pg0_S420
      have ph1_S420 : kv423 = 5 ∨ ¬ kv416 = 5 := by rw [do418_kv416, d_kv423]; exact pg1_S420
      obtain ⟨kv425, d_kv425⟩ : ∃ z : Int32, z = fI S420 v0 8 := ⟨_, rfl⟩
      have r_kv425 : (0 : Int32) ≤ kv425 ∧ kv425 ≤ (900 : Int32) := by rw [d_kv425]; exact nu 25 rfl hI o_v0
      have ph2_S420 : kv418 ≤ kv425 ∧ (kv423 = 4 → kv418 < kv425 ∨ kv416 = 4) := by rw [do418_kv418, do418_kv416, d_kv425, d_kv423]; exact pg2_S420
      intro _
      have do425_kv425 := d_kv425
      have do425_kv423 := d_kv423
      have do425_kv424 := d_kv424
      refine m_X11_readPart hI o_v0 (by decide) hG (by have t : kv423 = 5 → 0 < kv424 := (qr190 hO r_kv5 r_kv6 r_kv7 hnf r_x9 q_x9 ph0_S11 ph1_S11 ph3_S11 ph0_S18 ph1_S18 bb_x24 iw_x24 c28 bb_x29 iw_x29 c33 ph0_S398 ph1_S398 ph0_S405 ph1_S405 ph0_S413 ph1_S413 ph0_S420 ph1_S420); rw [d_kv423, d_kv424] at t; exact t) (fun x426 S427 hJ g428 fc429 p_x426 => ?_)
      obtain ⟨hG, p_x426, pg0_S427, pg1_S427, pg2_S427⟩ := p_x426
      have hn := rn_fr fc429 g428 hI o_v0 (by decide) hn
      have hI := hJ
      have d_kv5 := d_kv5.trans (fri_at fc429 (by decide) (by decide) o_a4).symm
      have d_kv6 := d_kv6.trans (fri_at fc429 (by decide) (by decide) o_a4).symm
      have d_x9 := d_x9.trans (fri_at fc429 (by decide) (by decide) o_a4).symm
      have ea4 := (frr_at fc429 (by decide) (by decide) o_v0).trans ea4
      have f0 := fri_tr (S := S420) g0 f0 fc429 (by decide) (by decide)
      have o_a4 := gr_ob g428 o_a4
      have o_v0 := gr_ob g428 o_v0
      have g0 := gr_tr (T := S420) g0 g428
      obtain ⟨kv430, d_kv430⟩ : ∃ z : Int32, z = fI S427 v0 9 := ⟨_, rfl⟩
      obtain ⟨kv431, d_kv431⟩ : ∃ z : Int32, z = fI S427 v0 13 := ⟨_, rfl⟩
      have ph0_S427 : kv430 = 5 → 0 < kv431 := by rw [d_kv430, d_kv431]; exact pg0_S427
      have ph1_S427 : kv430 = 5 ∨ ¬ kv423 = 5 := by rw [do425_kv423, d_kv430]; exact pg1_S427
      obtain ⟨kv432, d_kv432⟩ : ∃ z : Int32, z = fI S427 v0 8 := ⟨_, rfl⟩
      have r_kv432 : (0 : Int32) ≤ kv432 ∧ kv432 ≤ (900 : Int32) := by rw [d_kv432]; exact nu 25 rfl hI o_v0
      have ph2_S427 : kv425 ≤ kv432 ∧ (kv430 = 4 → kv425 < kv432 ∨ kv423 = 4) := by rw [do425_kv425, do425_kv423, d_kv432, d_kv430]; exact pg2_S427
      intro _
      have do432_kv432 := d_kv432
      have do432_kv430 := d_kv430
      have do432_kv431 := d_kv431
      refine m_X11_readPart hI o_v0 (by decide) hG (by have t : kv430 = 5 → 0 < kv431 := (qr191 hO r_kv5 r_kv6 r_kv7 hnf r_x9 q_x9 ph0_S11 ph1_S11 ph3_S11 ph0_S18 ph1_S18 bb_x24 iw_x24 c28 bb_x29 iw_x29 c33 ph0_S398 ph1_S398 ph0_S405 ph1_S405 ph0_S413 ph1_S413 ph0_S420 ph1_S420 ph0_S427 ph1_S427); rw [d_kv430, d_kv431] at t; exact t) (fun x433 S434 hJ g435 fc436 p_x433 => ?_)
      obtain ⟨hG, p_x433, pg0_S434, pg1_S434, pg2_S434⟩ := p_x433
      have hn := rn_fr fc436 g435 hI o_v0 (by decide) hn
      have hI := hJ
      have d_kv5 := d_kv5.trans (fri_at fc436 (by decide) (by decide) o_a4).symm
      have d_kv6 := d_kv6.trans (fri_at fc436 (by decide) (by decide) o_a4).symm
      have d_x9 := d_x9.trans (fri_at fc436 (by decide) (by decide) o_a4).symm
      have ea4 := (frr_at fc436 (by decide) (by decide) o_v0).trans ea4
      have f0 := fri_tr (S := S427) g0 f0 fc436 (by decide) (by decide)
      have o_a4 := gr_ob g435 o_a4
      have o_v0 := gr_ob g435 o_v0
      have g0 := gr_tr (T := S427) g0 g435
      obtain ⟨kv437, d_kv437⟩ : ∃ z : Int32, z = fI S434 v0 9 := ⟨_, rfl⟩
      obtain ⟨kv438, d_kv438⟩ : ∃ z : Int32, z = fI S434 v0 13 := ⟨_, rfl⟩
      have ph0_S434 : kv437 = 5 → 0 < kv438 := by rw [d_kv437, d_kv438]; exact pg0_S434
      have ph1_S434 : kv437 = 5 ∨ ¬ kv430 = 5 := by rw [do432_kv430, d_kv437]; exact pg1_S434
      obtain ⟨kv439, d_kv439⟩ : ∃ z : Int32, z = fI S434 v0 8 := ⟨_, rfl⟩
      have r_kv439 : (0 : Int32) ≤ kv439 ∧ kv439 ≤ (900 : Int32) := by rw [d_kv439]; exact nu 25 rfl hI o_v0
      have ph2_S434 : kv432 ≤ kv439 ∧ (kv437 = 4 → kv432 < kv439 ∨ kv430 = 4) := by rw [do432_kv432, do432_kv430, d_kv439, d_kv437]; exact pg2_S434
      intro _
      have do439_kv439 := d_kv439
      have do439_kv437 := d_kv437
      have do439_kv438 := d_kv438
      refine m_X11_readPart hI o_v0 (by decide) hG (by have t : kv437 = 5 → 0 < kv438 := (qr192 hO r_kv5 r_kv6 r_kv7 hnf r_x9 q_x9 ph0_S11 ph1_S11 ph3_S11 ph0_S18 ph1_S18 bb_x24 iw_x24 c28 bb_x29 iw_x29 c33 ph0_S398 ph1_S398 ph0_S405 ph1_S405 ph0_S413 ph1_S413 ph0_S420 ph1_S420 ph0_S427 ph1_S427 ph0_S434 ph1_S434); rw [d_kv437, d_kv438] at t; exact t) (fun x440 S441 hJ g442 fc443 p_x440 => ?_)
      obtain ⟨hG, p_x440, pg0_S441, pg1_S441, pg2_S441⟩ := p_x440
      have hn := rn_fr fc443 g442 hI o_v0 (by decide) hn
      have hI := hJ
      have d_kv5 := d_kv5.trans (fri_at fc443 (by decide) (by decide) o_a4).symm
      have d_kv6 := d_kv6.trans (fri_at fc443 (by decide) (by decide) o_a4).symm
      have d_x9 := d_x9.trans (fri_at fc443 (by decide) (by decide) o_a4).symm
      have ea4 := (frr_at fc443 (by decide) (by decide) o_v0).trans ea4
      have f0 := fri_tr (S := S434) g0 f0 fc443 (by decide) (by decide)
      have o_a4 := gr_ob g442 o_a4
      have o_v0 := gr_ob g442 o_v0
      have g0 := gr_tr (T := S434) g0 g442
      obtain ⟨kv444, d_kv444⟩ : ∃ z : Int32, z = fI S441 v0 9 := ⟨_, rfl⟩
      obtain ⟨kv445, d_kv445⟩ : ∃ z : Int32, z = fI S441 v0 13 := ⟨_, rfl⟩
      have ph0_S441 : kv444 = 5 → 0 < kv445 := by rw [d_kv444, d_kv445]; exact pg0_S441
      have ph1_S441 : kv444 = 5 ∨ ¬ kv437 = 5 := by rw [do439_kv437, d_kv444]; exact pg1_S441
      obtain ⟨kv446, d_kv446⟩ : ∃ z : Int32, z = fI S441 v0 8 := ⟨_, rfl⟩
      have r_kv446 : (0 : Int32) ≤ kv446 ∧ kv446 ≤ (900 : Int32) := by rw [d_kv446]; exact nu 25 rfl hI o_v0
      have ph2_S441 : kv439 ≤ kv446 ∧ (kv444 = 4 → kv439 < kv446 ∨ kv437 = 4) := by rw [do439_kv439, do439_kv437, d_kv446, d_kv444]; exact pg2_S441
      intro _
      intro x447 ex447
      have q_x447 : x447 = kv444 := ex447.trans d_kv444.symm
      have d_x447 := ex447
      refine ⟨fun c448 => ?_, fun c448 => ?_⟩
      · refine ⟨a4, ea4, ?_⟩
        refine ⟨o_a4, ?_⟩
        intro x450 ex450
        have r_x450 : (0 : Int32) ≤ x450 ∧ x450 ≤ (4 : Int32) := by rw [ex450]; exact nu 20 rfl hI o_a4
        have q_x450 : x450 = x9 := ex450.trans d_x9.symm
        have d_x450 := ex450
        refine u_X11_names ?_
        refine u_X11_names_0 ?_
        refine ⟨o_v0, ?_⟩
        refine ⟨a4, ea4, ?_⟩
        refine ⟨o_a4, ?_⟩
        obtain ⟨a452, ea452, o_a452, l_a452⟩ := shl 50 rfl hI o_a4
        refine ⟨a452, ea452, ?_⟩
        refine ⟨a4, ea4, ?_⟩
        refine ⟨o_a4, ?_⟩
        intro x454 ex454
        have r_x454 : (0 : Int32) ≤ x454 ∧ x454 ≤ (12 : Int32) := by rw [ex454]; exact nu 22 rfl hI o_a4
        have q_x454 : x454 = kv5 := ex454.trans d_kv5.symm
        have d_x454 := ex454
        refine ⟨o_a452, ?_⟩
        have i455 : vp_in x454 (hN _ a452) := (vin l_a452 (m := 12) (by decide) (qr193 r_kv5 r_kv6 r_kv7 hnf r_x9 q_x9 ph1_S11 ph3_S11 ph1_S18 bb_x24 iw_x24 c28 bb_x29 iw_x29 c33 ph1_S398 ph1_S405 ph1_S413 ph1_S420 ph1_S427 ph1_S434 ph1_S441 q_x447 c448 r_x450 q_x450 r_x454 q_x454))
        refine ⟨i455, ?_⟩
        intro S456 eS456
        have hIn : IV S456 := by rw [eS456]; exact iv10_aJ hI o_a4 (by decide) ea452
        have hG := rg_J eS456 hG
        have hn := rn_J eS456 hn
        have hI := hIn
        have f0 := fr_J eS456 f0
        have d_x454 := rd_J eS456 d_x454
        have d_kv6 := rd_J eS456 d_kv6
        have d_x450 := rd_J eS456 d_x450
        have d_x447 := rd_J eS456 d_x447
        have d_kv445 := rd_J eS456 d_kv445
        have d_kv446 := rd_J eS456 d_kv446
        have ea4 := rf_J eS456 ea4
        have ea452 := rf_J eS456 ea452
        have l_a452 := ln_J eS456 l_a452
        have g0 := gr_J eS456 g0
        have o_a4 := ob_J eS456 o_a4
        have o_a452 := ob_J eS456 o_a452
        have o_v0 := ob_J eS456 o_v0
        refine ⟨a4, ea4, ?_⟩
        refine ⟨o_a4, ?_⟩
        obtain ⟨a458, ea458, o_a458, l_a458⟩ := shl 51 rfl hI o_a4
        refine ⟨a458, ea458, ?_⟩
        refine ⟨a4, ea4, ?_⟩
        refine ⟨o_a4, ?_⟩
        intro x460 ex460
        have r_x460 : (0 : Int32) ≤ x460 ∧ x460 ≤ (12 : Int32) := by rw [ex460]; exact nu 22 rfl hI o_a4
        have q_x460 : x460 = x454 := ex460.trans d_x454.symm
        have d_x460 := ex460
        refine ⟨o_a458, ?_⟩
        have i461 : vp_in x460 (hN _ a458) := (vin l_a458 (m := 12) (by decide) (qr194 r_kv5 r_kv6 r_kv7 hnf r_x9 q_x9 ph1_S11 ph3_S11 ph1_S18 bb_x24 iw_x24 c28 bb_x29 iw_x29 c33 ph1_S398 ph1_S405 ph1_S413 ph1_S420 ph1_S427 ph1_S434 ph1_S441 q_x447 c448 r_x450 q_x450 r_x454 q_x454 r_x460 q_x460))
        refine ⟨i461, ?_⟩
        intro S462 eS462
        have hIn : IV S462 := by rw [eS462]; exact iv10_aI hI o_a4 (rg_nw hG ea4) ea458 o_a458 (by decide)
        have hG := rg_a (jj := 29) (x := x460) eS462 hI ea4 o_a4 ea458 o_a458 (by decide) (h1_no (by decide)) (fun _ => by rw [← d_kv6, ← d_x450]; exact (qr195 r_kv5 r_kv6 r_kv7 hnf r_x9 q_x9 ph1_S11 ph3_S11 ph1_S18 bb_x24 iw_x24 c28 bb_x29 iw_x29 c33 ph1_S398 ph1_S405 ph1_S413 ph1_S420 ph1_S427 ph1_S434 ph1_S441 q_x447 c448 r_x450 q_x450 r_x454 q_x454 r_x460 q_x460)) hG
        have hn := rn_11 eS462 hI o_v0 o_a458 (by decide) hn
        have hI := hIn
        have f0 := fr_A eS462 g0 f0 o_a458 (by decide)
        have d_x460 := rd_Ik eS462 o_a458 o_a4 (by decide) d_x460
        have d_kv6 := rd_Ik eS462 o_a458 o_a4 (by decide) d_kv6
        have d_x450 := rd_Ik eS462 o_a458 o_a4 (by decide) d_x450
        have d_x447 := rd_Ik eS462 o_a458 o_v0 (by decide) d_x447
        have d_kv445 := rd_Ik eS462 o_a458 o_v0 (by decide) d_kv445
        have d_kv446 := rd_Ik eS462 o_a458 o_v0 (by decide) d_kv446
        have ea4 := rf_I eS462 ea4
        have ea452 := rf_I eS462 ea452
        have ea458 := rf_I eS462 ea458
        have l_a452 := ln_I eS462 l_a452
        have l_a458 := ln_I eS462 l_a458
        have g0 := gr_I eS462 g0
        have o_a4 := ob_I eS462 o_a4
        have o_a452 := ob_I eS462 o_a452
        have o_a458 := ob_I eS462 o_a458
        have o_v0 := ob_I eS462 o_v0
        have el463 : fI S462 a458 x460.toNatClampNeg = (1 : Int32) := by rw [eS462]; exact u2_self _ _ _ _
        refine ⟨a4, ea4, ?_⟩
        refine ⟨o_a4, ?_⟩
        obtain ⟨a465, ea465, o_a465, l_a465⟩ := shl 52 rfl hI o_a4
        refine ⟨a465, ea465, ?_⟩
        refine ⟨a4, ea4, ?_⟩
        refine ⟨o_a4, ?_⟩
        intro x467 ex467
        have r_x467 : (0 : Int32) ≤ x467 ∧ x467 ≤ (12 : Int32) := by rw [ex467]; exact nu 22 rfl hI o_a4
        have q_x467 : x467 = x460 := ex467.trans d_x460.symm
        have d_x467 := ex467
        refine ⟨o_a465, ?_⟩
        have i468 : vp_in x467 (hN _ a465) := (vin l_a465 (m := 12) (by decide) (qr196 r_kv5 r_kv6 r_kv7 hnf r_x9 q_x9 ph1_S11 ph3_S11 ph1_S18 bb_x24 iw_x24 c28 bb_x29 iw_x29 c33 ph1_S398 ph1_S405 ph1_S413 ph1_S420 ph1_S427 ph1_S434 ph1_S441 q_x447 c448 r_x450 q_x450 r_x454 q_x454 r_x460 q_x460 r_x467 q_x467))
        refine ⟨i468, ?_⟩
        intro S469 eS469
        have hIn : IV S469 := by rw [eS469]; exact iv10_aI hI o_a4 (rg_nw hG ea4) ea465 o_a465 (by decide)
        have hG := rg_a (jj := 30) (x := x467) eS469 hI ea4 o_a4 ea465 o_a465 (by decide) (h1_no (by decide)) (fun _ => by rw [← d_kv6, ← d_x450]; exact (qr197 r_kv5 r_kv6 r_kv7 hnf r_x9 q_x9 ph1_S11 ph3_S11 ph1_S18 bb_x24 iw_x24 c28 bb_x29 iw_x29 c33 ph1_S398 ph1_S405 ph1_S413 ph1_S420 ph1_S427 ph1_S434 ph1_S441 q_x447 c448 r_x450 q_x450 r_x454 q_x454 r_x460 q_x460 r_x467 q_x467)) hG
        have hn := rn_11 eS469 hI o_v0 o_a465 (by decide) hn
        have el463 := el_ar eS469 (ow_ne hI o_a4 (by decide) o_a4 (by decide) ea465 ea458 (by decide)) el463
        have hI := hIn
        have f0 := fr_A eS469 g0 f0 o_a465 (by decide)
        have d_x467 := rd_Ik eS469 o_a465 o_a4 (by decide) d_x467
        have d_kv6 := rd_Ik eS469 o_a465 o_a4 (by decide) d_kv6
        have d_x450 := rd_Ik eS469 o_a465 o_a4 (by decide) d_x450
        have d_x447 := rd_Ik eS469 o_a465 o_v0 (by decide) d_x447
        have d_kv445 := rd_Ik eS469 o_a465 o_v0 (by decide) d_kv445
        have d_kv446 := rd_Ik eS469 o_a465 o_v0 (by decide) d_kv446
        have ea4 := rf_I eS469 ea4
        have ea452 := rf_I eS469 ea452
        have ea458 := rf_I eS469 ea458
        have ea465 := rf_I eS469 ea465
        have l_a452 := ln_I eS469 l_a452
        have l_a458 := ln_I eS469 l_a458
        have l_a465 := ln_I eS469 l_a465
        have g0 := gr_I eS469 g0
        have o_a4 := ob_I eS469 o_a4
        have o_a452 := ob_I eS469 o_a452
        have o_a458 := ob_I eS469 o_a458
        have o_a465 := ob_I eS469 o_a465
        have o_v0 := ob_I eS469 o_v0
        have el470 : fI S469 a465 x467.toNatClampNeg = x450 := by rw [eS469]; exact u2_self _ _ _ _
        refine ⟨a4, ea4, ?_⟩
        refine ⟨o_a4, ?_⟩
        intro x472 ex472
        have r_x472 : (0 : Int32) ≤ x472 ∧ x472 ≤ (12 : Int32) := by rw [ex472]; exact nu 22 rfl hI o_a4
        have q_x472 : x472 = x467 := ex472.trans d_x467.symm
        have d_x472 := ex472
        intro x473 ex473
        intro S474 eS474
        have hIn : IV S474 := by rw [eS474]; exact iv10_sI hI o_a4 (rg_nw hG ea4) (nu_one (lo := (0 : Int32)) (hi := (12 : Int32)) (by decide) (qr198 r_kv5 r_kv6 r_kv7 hnf r_x9 q_x9 ph1_S11 ph3_S11 ph1_S18 bb_x24 iw_x24 c28 bb_x29 iw_x29 c33 ph1_S398 ph1_S405 ph1_S413 ph1_S420 ph1_S427 ph1_S434 ph1_S441 q_x447 c448 r_x450 q_x450 r_x454 q_x454 r_x460 q_x460 r_x467 q_x467 r_x472 q_x472 ex473))
        have hG := rg_c eS474 hI ea4 o_a4 (by decide) hG
        have el463 := el_ob eS474 o_a4 o_a458 (by decide) el463
        have el470 := el_ob eS474 o_a4 o_a465 (by decide) el470
        have hI := hIn
        have f0 := fr_I eS474 g0 f0 o_a4 (by decide)
        have d_kv6 := rd_Ij eS474 (by decide) d_kv6
        have d_x450 := rd_Ij eS474 (by decide) d_x450
        have d_x447 := rd_Ik eS474 o_a4 o_v0 (by decide) d_x447
        have d_kv445 := rd_Ik eS474 o_a4 o_v0 (by decide) d_kv445
        have d_kv446 := rd_Ik eS474 o_a4 o_v0 (by decide) d_kv446
        have d_x473 := rd_Is eS474 (rfl : x473 = x473)
        have ea4 := rf_I eS474 ea4
        have ea452 := rf_I eS474 ea452
        have ea458 := rf_I eS474 ea458
        have ea465 := rf_I eS474 ea465
        have l_a452 := ln_I eS474 l_a452
        have l_a458 := ln_I eS474 l_a458
        have l_a465 := ln_I eS474 l_a465
        have g0 := gr_I eS474 g0
        have o_a4 := ob_I eS474 o_a4
        have o_a452 := ob_I eS474 o_a452
        have o_a458 := ob_I eS474 o_a458
        have o_a465 := ob_I eS474 o_a465
        have o_v0 := ob_I eS474 o_v0
        intro _
        refine ⟨a4, ea4, ?_⟩
        refine ⟨o_a4, ?_⟩
        obtain ⟨a476, ea476, o_a476, l_a476⟩ := shl 41 rfl hI o_a4
        refine ⟨a476, ea476, ?_⟩
        refine ⟨o_a476, ?_⟩
        have i477 : vp_in x450 (hN _ a476) := (vin l_a476 (m := 4) (by decide) (qr199 r_kv5 r_kv6 r_kv7 hnf r_x9 q_x9 ph1_S11 ph3_S11 ph1_S18 bb_x24 iw_x24 c28 bb_x29 iw_x29 c33 ph1_S398 ph1_S405 ph1_S413 ph1_S420 ph1_S427 ph1_S434 ph1_S441 q_x447 c448 r_x450 q_x450 r_x454 q_x454 r_x460 q_x460 r_x467 q_x467 r_x472 q_x472 ex473))
        refine ⟨i477, ?_⟩
        intro S478 eS478
        have hIn : IV S478 := by rw [eS478]; exact iv10_aI hI o_a4 (rg_nw hG ea4) ea476 o_a476 (by decide)
        have hG := rg_a (jj := 19) (x := x450) eS478 hI ea4 o_a4 ea476 o_a476 (by decide) (h1_no (by decide)) (h2_no (y := 0) (by decide)) hG
        have el463 := el_ar eS478 (ow_ne hI o_a4 (by decide) o_a4 (by decide) ea476 ea458 (by decide)) el463
        have el470 := el_ar eS478 (ow_ne hI o_a4 (by decide) o_a4 (by decide) ea476 ea465 (by decide)) el470
        have hI := hIn
        have f0 := fr_A eS478 g0 f0 o_a476 (by decide)
        have d_kv6 := rd_Ik eS478 o_a476 o_a4 (by decide) d_kv6
        have d_x450 := rd_Ik eS478 o_a476 o_a4 (by decide) d_x450
        have d_x447 := rd_Ik eS478 o_a476 o_v0 (by decide) d_x447
        have d_kv445 := rd_Ik eS478 o_a476 o_v0 (by decide) d_kv445
        have d_kv446 := rd_Ik eS478 o_a476 o_v0 (by decide) d_kv446
        have d_x473 := rd_Ik eS478 o_a476 o_a4 (by decide) d_x473
        have ea4 := rf_I eS478 ea4
        have ea452 := rf_I eS478 ea452
        have ea458 := rf_I eS478 ea458
        have ea465 := rf_I eS478 ea465
        have ea476 := rf_I eS478 ea476
        have l_a452 := ln_I eS478 l_a452
        have l_a458 := ln_I eS478 l_a458
        have l_a465 := ln_I eS478 l_a465
        have l_a476 := ln_I eS478 l_a476
        have g0 := gr_I eS478 g0
        have o_a4 := ob_I eS478 o_a4
        have o_a452 := ob_I eS478 o_a452
        have o_a458 := ob_I eS478 o_a458
        have o_a465 := ob_I eS478 o_a465
        have o_a476 := ob_I eS478 o_a476
        have o_v0 := ob_I eS478 o_v0
        refine ⟨a4, ea4, ?_⟩
        refine ⟨o_a4, ?_⟩
        obtain ⟨a480, ea480, o_a480, l_a480⟩ := shl 42 rfl hI o_a4
        refine ⟨a480, ea480, ?_⟩
        refine ⟨o_a480, ?_⟩
        have i481 : vp_in x450 (hN _ a480) := (vin l_a480 (m := 4) (by decide) (qr199 r_kv5 r_kv6 r_kv7 hnf r_x9 q_x9 ph1_S11 ph3_S11 ph1_S18 bb_x24 iw_x24 c28 bb_x29 iw_x29 c33 ph1_S398 ph1_S405 ph1_S413 ph1_S420 ph1_S427 ph1_S434 ph1_S441 q_x447 c448 r_x450 q_x450 r_x454 q_x454 r_x460 q_x460 r_x467 q_x467 r_x472 q_x472 ex473))
        refine ⟨i481, ?_⟩
        intro S482 eS482
        have hIn : IV S482 := by rw [eS482]; exact iv10_aI hI o_a4 (rg_nw hG ea4) ea480 o_a480 (by decide)
        have hG := rg_a (jj := 20) (x := x450) eS482 hI ea4 o_a4 ea480 o_a480 (by decide) (h1_no (by decide)) (h2_no (y := 0) (by decide)) hG
        have el463 := el_ar eS482 (ow_ne hI o_a4 (by decide) o_a4 (by decide) ea480 ea458 (by decide)) el463
        have el470 := el_ar eS482 (ow_ne hI o_a4 (by decide) o_a4 (by decide) ea480 ea465 (by decide)) el470
        have hI := hIn
        have f0 := fr_A eS482 g0 f0 o_a480 (by decide)
        have d_kv6 := rd_Ik eS482 o_a480 o_a4 (by decide) d_kv6
        have d_x450 := rd_Ik eS482 o_a480 o_a4 (by decide) d_x450
        have d_x447 := rd_Ik eS482 o_a480 o_v0 (by decide) d_x447
        have d_kv445 := rd_Ik eS482 o_a480 o_v0 (by decide) d_kv445
        have d_kv446 := rd_Ik eS482 o_a480 o_v0 (by decide) d_kv446
        have d_x473 := rd_Ik eS482 o_a480 o_a4 (by decide) d_x473
        have ea4 := rf_I eS482 ea4
        have ea452 := rf_I eS482 ea452
        have ea458 := rf_I eS482 ea458
        have ea465 := rf_I eS482 ea465
        have ea476 := rf_I eS482 ea476
        have ea480 := rf_I eS482 ea480
        have l_a452 := ln_I eS482 l_a452
        have l_a458 := ln_I eS482 l_a458
        have l_a465 := ln_I eS482 l_a465
        have l_a476 := ln_I eS482 l_a476
        have l_a480 := ln_I eS482 l_a480
        have g0 := gr_I eS482 g0
        have o_a4 := ob_I eS482 o_a4
        have o_a452 := ob_I eS482 o_a452
        have o_a458 := ob_I eS482 o_a458
        have o_a465 := ob_I eS482 o_a465
        have o_a476 := ob_I eS482 o_a476
        have o_a480 := ob_I eS482 o_a480
        have o_v0 := ob_I eS482 o_v0
        refine ⟨a4, ea4, ?_⟩
        refine ⟨o_a4, ?_⟩
        obtain ⟨a484, ea484, o_a484, l_a484⟩ := shl 43 rfl hI o_a4
        refine ⟨a484, ea484, ?_⟩
        refine ⟨o_a484, ?_⟩
        intro x485 ex485
        have i486 : vp_in x450 (hN _ a484) := (vin l_a484 (m := 4) (by decide) (qr199 r_kv5 r_kv6 r_kv7 hnf r_x9 q_x9 ph1_S11 ph3_S11 ph1_S18 bb_x24 iw_x24 c28 bb_x29 iw_x29 c33 ph1_S398 ph1_S405 ph1_S413 ph1_S420 ph1_S427 ph1_S434 ph1_S441 q_x447 c448 r_x450 q_x450 r_x454 q_x454 r_x460 q_x460 r_x467 q_x467 r_x472 q_x472 ex473))
        refine ⟨i486, ?_⟩
        intro S487 eS487
        have hIn : IV S487 := by rw [eS487]; exact iv10_aI hI o_a4 (rg_nw hG ea4) ea484 o_a484 (by decide)
        have hG := rg_a (jj := 21) (x := x450) eS487 hI ea4 o_a4 ea484 o_a484 (by decide) (h1_no (by decide)) (h2_no (y := 0) (by decide)) hG
        have el463 := el_ar eS487 (ow_ne hI o_a4 (by decide) o_a4 (by decide) ea484 ea458 (by decide)) el463
        have el470 := el_ar eS487 (ow_ne hI o_a4 (by decide) o_a4 (by decide) ea484 ea465 (by decide)) el470
        have hI := hIn
        have f0 := fr_A eS487 g0 f0 o_a484 (by decide)
        have d_kv6 := rd_Ik eS487 o_a484 o_a4 (by decide) d_kv6
        have d_x450 := rd_Ik eS487 o_a484 o_a4 (by decide) d_x450
        have d_x447 := rd_Ik eS487 o_a484 o_v0 (by decide) d_x447
        have d_kv445 := rd_Ik eS487 o_a484 o_v0 (by decide) d_kv445
        have d_kv446 := rd_Ik eS487 o_a484 o_v0 (by decide) d_kv446
        have d_x473 := rd_Ik eS487 o_a484 o_a4 (by decide) d_x473
        have ea4 := rf_I eS487 ea4
        have ea452 := rf_I eS487 ea452
        have ea458 := rf_I eS487 ea458
        have ea465 := rf_I eS487 ea465
        have ea476 := rf_I eS487 ea476
        have ea480 := rf_I eS487 ea480
        have ea484 := rf_I eS487 ea484
        have l_a452 := ln_I eS487 l_a452
        have l_a458 := ln_I eS487 l_a458
        have l_a465 := ln_I eS487 l_a465
        have l_a476 := ln_I eS487 l_a476
        have l_a480 := ln_I eS487 l_a480
        have l_a484 := ln_I eS487 l_a484
        have g0 := gr_I eS487 g0
        have o_a4 := ob_I eS487 o_a4
        have o_a452 := ob_I eS487 o_a452
        have o_a458 := ob_I eS487 o_a458
        have o_a465 := ob_I eS487 o_a465
        have o_a476 := ob_I eS487 o_a476
        have o_a480 := ob_I eS487 o_a480
        have o_a484 := ob_I eS487 o_a484
        have o_v0 := ob_I eS487 o_v0
        refine ⟨a4, ea4, ?_⟩
        refine ⟨o_a4, ?_⟩
        obtain ⟨a489, ea489, o_a489, l_a489⟩ := shl 44 rfl hI o_a4
        refine ⟨a489, ea489, ?_⟩
        refine ⟨o_a489, ?_⟩
        intro x490 ex490
        have i491 : vp_in x450 (hN _ a489) := (vin l_a489 (m := 4) (by decide) (qr199 r_kv5 r_kv6 r_kv7 hnf r_x9 q_x9 ph1_S11 ph3_S11 ph1_S18 bb_x24 iw_x24 c28 bb_x29 iw_x29 c33 ph1_S398 ph1_S405 ph1_S413 ph1_S420 ph1_S427 ph1_S434 ph1_S441 q_x447 c448 r_x450 q_x450 r_x454 q_x454 r_x460 q_x460 r_x467 q_x467 r_x472 q_x472 ex473))
        refine ⟨i491, ?_⟩
        intro S492 eS492
        have hIn : IV S492 := by rw [eS492]; exact iv10_aI hI o_a4 (rg_nw hG ea4) ea489 o_a489 (by decide)
        have hG := rg_a (jj := 22) (x := x450) eS492 hI ea4 o_a4 ea489 o_a489 (by decide) (h1_no (by decide)) (h2_no (y := 0) (by decide)) hG
        have el463 := el_ar eS492 (ow_ne hI o_a4 (by decide) o_a4 (by decide) ea489 ea458 (by decide)) el463
        have el470 := el_ar eS492 (ow_ne hI o_a4 (by decide) o_a4 (by decide) ea489 ea465 (by decide)) el470
        have hI := hIn
        have f0 := fr_A eS492 g0 f0 o_a489 (by decide)
        have d_kv6 := rd_Ik eS492 o_a489 o_a4 (by decide) d_kv6
        have d_x450 := rd_Ik eS492 o_a489 o_a4 (by decide) d_x450
        have d_x447 := rd_Ik eS492 o_a489 o_v0 (by decide) d_x447
        have d_kv445 := rd_Ik eS492 o_a489 o_v0 (by decide) d_kv445
        have d_kv446 := rd_Ik eS492 o_a489 o_v0 (by decide) d_kv446
        have d_x473 := rd_Ik eS492 o_a489 o_a4 (by decide) d_x473
        have ea4 := rf_I eS492 ea4
        have ea452 := rf_I eS492 ea452
        have ea458 := rf_I eS492 ea458
        have ea465 := rf_I eS492 ea465
        have ea476 := rf_I eS492 ea476
        have ea480 := rf_I eS492 ea480
        have ea484 := rf_I eS492 ea484
        have ea489 := rf_I eS492 ea489
        have l_a452 := ln_I eS492 l_a452
        have l_a458 := ln_I eS492 l_a458
        have l_a465 := ln_I eS492 l_a465
        have l_a476 := ln_I eS492 l_a476
        have l_a480 := ln_I eS492 l_a480
        have l_a484 := ln_I eS492 l_a484
        have l_a489 := ln_I eS492 l_a489
        have g0 := gr_I eS492 g0
        have o_a4 := ob_I eS492 o_a4
        have o_a452 := ob_I eS492 o_a452
        have o_a458 := ob_I eS492 o_a458
        have o_a465 := ob_I eS492 o_a465
        have o_a476 := ob_I eS492 o_a476
        have o_a480 := ob_I eS492 o_a480
        have o_a484 := ob_I eS492 o_a484
        have o_a489 := ob_I eS492 o_a489
        have o_v0 := ob_I eS492 o_v0
        refine ⟨a4, ea4, ?_⟩
        refine ⟨o_a4, ?_⟩
        obtain ⟨a494, ea494, o_a494, l_a494⟩ := shl 45 rfl hI o_a4
        refine ⟨a494, ea494, ?_⟩
        refine ⟨o_a494, ?_⟩
        intro x495 ex495
        have i496 : vp_in x450 (hN _ a494) := (vin l_a494 (m := 4) (by decide) (qr199 r_kv5 r_kv6 r_kv7 hnf r_x9 q_x9 ph1_S11 ph3_S11 ph1_S18 bb_x24 iw_x24 c28 bb_x29 iw_x29 c33 ph1_S398 ph1_S405 ph1_S413 ph1_S420 ph1_S427 ph1_S434 ph1_S441 q_x447 c448 r_x450 q_x450 r_x454 q_x454 r_x460 q_x460 r_x467 q_x467 r_x472 q_x472 ex473))
        refine ⟨i496, ?_⟩
        intro S497 eS497
        have hIn : IV S497 := by rw [eS497]; exact iv10_aI hI o_a4 (rg_nw hG ea4) ea494 o_a494 (by decide)
        have hG := rg_a (jj := 23) (x := x450) eS497 hI ea4 o_a4 ea494 o_a494 (by decide) (h1_no (by decide)) (h2_no (y := 0) (by decide)) hG
        have el463 := el_ar eS497 (ow_ne hI o_a4 (by decide) o_a4 (by decide) ea494 ea458 (by decide)) el463
        have el470 := el_ar eS497 (ow_ne hI o_a4 (by decide) o_a4 (by decide) ea494 ea465 (by decide)) el470
        have hI := hIn
        have f0 := fr_A eS497 g0 f0 o_a494 (by decide)
        have d_kv6 := rd_Ik eS497 o_a494 o_a4 (by decide) d_kv6
        have d_x450 := rd_Ik eS497 o_a494 o_a4 (by decide) d_x450
        have d_x447 := rd_Ik eS497 o_a494 o_v0 (by decide) d_x447
        have d_kv445 := rd_Ik eS497 o_a494 o_v0 (by decide) d_kv445
        have d_kv446 := rd_Ik eS497 o_a494 o_v0 (by decide) d_kv446
        have d_x473 := rd_Ik eS497 o_a494 o_a4 (by decide) d_x473
        have ea4 := rf_I eS497 ea4
        have ea452 := rf_I eS497 ea452
        have ea458 := rf_I eS497 ea458
        have ea465 := rf_I eS497 ea465
        have ea476 := rf_I eS497 ea476
        have ea480 := rf_I eS497 ea480
        have ea484 := rf_I eS497 ea484
        have ea489 := rf_I eS497 ea489
        have ea494 := rf_I eS497 ea494
        have l_a452 := ln_I eS497 l_a452
        have l_a458 := ln_I eS497 l_a458
        have l_a465 := ln_I eS497 l_a465
        have l_a476 := ln_I eS497 l_a476
        have l_a480 := ln_I eS497 l_a480
        have l_a484 := ln_I eS497 l_a484
        have l_a489 := ln_I eS497 l_a489
        have l_a494 := ln_I eS497 l_a494
        have g0 := gr_I eS497 g0
        have o_a4 := ob_I eS497 o_a4
        have o_a452 := ob_I eS497 o_a452
        have o_a458 := ob_I eS497 o_a458
        have o_a465 := ob_I eS497 o_a465
        have o_a476 := ob_I eS497 o_a476
        have o_a480 := ob_I eS497 o_a480
        have o_a484 := ob_I eS497 o_a484
        have o_a489 := ob_I eS497 o_a489
        have o_a494 := ob_I eS497 o_a494
        have o_v0 := ob_I eS497 o_v0
        refine ⟨a4, ea4, ?_⟩
        refine ⟨o_a4, ?_⟩
        obtain ⟨a499, ea499, o_a499, l_a499⟩ := shl 46 rfl hI o_a4
        refine ⟨a499, ea499, ?_⟩
        refine ⟨o_a499, ?_⟩
        have i500 : vp_in x450 (hN _ a499) := (vin l_a499 (m := 4) (by decide) (qr199 r_kv5 r_kv6 r_kv7 hnf r_x9 q_x9 ph1_S11 ph3_S11 ph1_S18 bb_x24 iw_x24 c28 bb_x29 iw_x29 c33 ph1_S398 ph1_S405 ph1_S413 ph1_S420 ph1_S427 ph1_S434 ph1_S441 q_x447 c448 r_x450 q_x450 r_x454 q_x454 r_x460 q_x460 r_x467 q_x467 r_x472 q_x472 ex473))
        refine ⟨i500, ?_⟩
        intro S501 eS501
        have hIn : IV S501 := by rw [eS501]; exact iv10_aI hI o_a4 (rg_nw hG ea4) ea499 o_a499 (by decide)
        have hG := rg_a (jj := 24) (x := x450) eS501 hI ea4 o_a4 ea499 o_a499 (by decide) (h1_one (c := 4) (lo := 1) (hi := 9) (hf := 99) (by decide) (by rw [← d_x450]; exact (qr200 r_kv5 r_kv6 r_kv7 hnf r_x9 q_x9 ph1_S11 ph3_S11 ph1_S18 bb_x24 iw_x24 c28 bb_x29 iw_x29 c33 ph1_S398 ph1_S405 ph1_S413 ph1_S420 ph1_S427 ph1_S434 ph1_S441 q_x447 c448 r_x450 q_x450 r_x454 q_x454 r_x460 q_x460 r_x467 q_x467 r_x472 q_x472 ex473))) (h2_no (y := 0) (by decide)) hG
        have el463 := el_ar eS501 (ow_ne hI o_a4 (by decide) o_a4 (by decide) ea499 ea458 (by decide)) el463
        have el470 := el_ar eS501 (ow_ne hI o_a4 (by decide) o_a4 (by decide) ea499 ea465 (by decide)) el470
        have hI := hIn
        have f0 := fr_A eS501 g0 f0 o_a499 (by decide)
        have d_kv6 := rd_Ik eS501 o_a499 o_a4 (by decide) d_kv6
        have d_x450 := rd_Ik eS501 o_a499 o_a4 (by decide) d_x450
        have d_x447 := rd_Ik eS501 o_a499 o_v0 (by decide) d_x447
        have d_kv445 := rd_Ik eS501 o_a499 o_v0 (by decide) d_kv445
        have d_kv446 := rd_Ik eS501 o_a499 o_v0 (by decide) d_kv446
        have d_x473 := rd_Ik eS501 o_a499 o_a4 (by decide) d_x473
        have ea4 := rf_I eS501 ea4
        have ea452 := rf_I eS501 ea452
        have ea458 := rf_I eS501 ea458
        have ea465 := rf_I eS501 ea465
        have ea476 := rf_I eS501 ea476
        have ea480 := rf_I eS501 ea480
        have ea484 := rf_I eS501 ea484
        have ea489 := rf_I eS501 ea489
        have ea494 := rf_I eS501 ea494
        have ea499 := rf_I eS501 ea499
        have l_a452 := ln_I eS501 l_a452
        have l_a458 := ln_I eS501 l_a458
        have l_a465 := ln_I eS501 l_a465
        have l_a476 := ln_I eS501 l_a476
        have l_a480 := ln_I eS501 l_a480
        have l_a484 := ln_I eS501 l_a484
        have l_a489 := ln_I eS501 l_a489
        have l_a494 := ln_I eS501 l_a494
        have l_a499 := ln_I eS501 l_a499
        have g0 := gr_I eS501 g0
        have o_a4 := ob_I eS501 o_a4
        have o_a452 := ob_I eS501 o_a452
        have o_a458 := ob_I eS501 o_a458
        have o_a465 := ob_I eS501 o_a465
        have o_a476 := ob_I eS501 o_a476
        have o_a480 := ob_I eS501 o_a480
        have o_a484 := ob_I eS501 o_a484
        have o_a489 := ob_I eS501 o_a489
        have o_a494 := ob_I eS501 o_a494
        have o_a499 := ob_I eS501 o_a499
        have o_v0 := ob_I eS501 o_v0
        have el502 : fI S501 a499 x450.toNatClampNeg = x433 := by rw [eS501]; exact u2_self _ _ _ _
        refine ⟨a4, ea4, ?_⟩
        refine ⟨o_a4, ?_⟩
        obtain ⟨a504, ea504, o_a504, l_a504⟩ := shl 47 rfl hI o_a4
        refine ⟨a504, ea504, ?_⟩
        refine ⟨o_a504, ?_⟩
        have i505 : vp_in x450 (hN _ a504) := (vin l_a504 (m := 4) (by decide) (qr199 r_kv5 r_kv6 r_kv7 hnf r_x9 q_x9 ph1_S11 ph3_S11 ph1_S18 bb_x24 iw_x24 c28 bb_x29 iw_x29 c33 ph1_S398 ph1_S405 ph1_S413 ph1_S420 ph1_S427 ph1_S434 ph1_S441 q_x447 c448 r_x450 q_x450 r_x454 q_x454 r_x460 q_x460 r_x467 q_x467 r_x472 q_x472 ex473))
        refine ⟨i505, ?_⟩
        intro S506 eS506
        have hIn : IV S506 := by rw [eS506]; exact iv10_aI hI o_a4 (rg_nw hG ea4) ea504 o_a504 (by decide)
        have hG := rg_a (jj := 25) (x := x450) eS506 hI ea4 o_a4 ea504 o_a504 (by decide) (h1_one (c := 4) (lo := 0) (hi := 9) (hf := 99) (by decide) (by rw [← d_x450]; exact (qr200 r_kv5 r_kv6 r_kv7 hnf r_x9 q_x9 ph1_S11 ph3_S11 ph1_S18 bb_x24 iw_x24 c28 bb_x29 iw_x29 c33 ph1_S398 ph1_S405 ph1_S413 ph1_S420 ph1_S427 ph1_S434 ph1_S441 q_x447 c448 r_x450 q_x450 r_x454 q_x454 r_x460 q_x460 r_x467 q_x467 r_x472 q_x472 ex473))) (h2_no (y := 0) (by decide)) hG
        have el463 := el_ar eS506 (ow_ne hI o_a4 (by decide) o_a4 (by decide) ea504 ea458 (by decide)) el463
        have el470 := el_ar eS506 (ow_ne hI o_a4 (by decide) o_a4 (by decide) ea504 ea465 (by decide)) el470
        have el502 := el_ar eS506 (ow_ne hI o_a4 (by decide) o_a4 (by decide) ea504 ea499 (by decide)) el502
        have hI := hIn
        have f0 := fr_A eS506 g0 f0 o_a504 (by decide)
        have d_kv6 := rd_Ik eS506 o_a504 o_a4 (by decide) d_kv6
        have d_x450 := rd_Ik eS506 o_a504 o_a4 (by decide) d_x450
        have d_x447 := rd_Ik eS506 o_a504 o_v0 (by decide) d_x447
        have d_kv445 := rd_Ik eS506 o_a504 o_v0 (by decide) d_kv445
        have d_kv446 := rd_Ik eS506 o_a504 o_v0 (by decide) d_kv446
        have d_x473 := rd_Ik eS506 o_a504 o_a4 (by decide) d_x473
        have ea4 := rf_I eS506 ea4
        have ea452 := rf_I eS506 ea452
        have ea458 := rf_I eS506 ea458
        have ea465 := rf_I eS506 ea465
        have ea476 := rf_I eS506 ea476
        have ea480 := rf_I eS506 ea480
        have ea484 := rf_I eS506 ea484
        have ea489 := rf_I eS506 ea489
        have ea494 := rf_I eS506 ea494
        have ea499 := rf_I eS506 ea499
        have ea504 := rf_I eS506 ea504
        have l_a452 := ln_I eS506 l_a452
        have l_a458 := ln_I eS506 l_a458
        have l_a465 := ln_I eS506 l_a465
        have l_a476 := ln_I eS506 l_a476
        have l_a480 := ln_I eS506 l_a480
        have l_a484 := ln_I eS506 l_a484
        have l_a489 := ln_I eS506 l_a489
        have l_a494 := ln_I eS506 l_a494
        have l_a499 := ln_I eS506 l_a499
        have l_a504 := ln_I eS506 l_a504
        have g0 := gr_I eS506 g0
        have o_a4 := ob_I eS506 o_a4
        have o_a452 := ob_I eS506 o_a452
        have o_a458 := ob_I eS506 o_a458
        have o_a465 := ob_I eS506 o_a465
        have o_a476 := ob_I eS506 o_a476
        have o_a480 := ob_I eS506 o_a480
        have o_a484 := ob_I eS506 o_a484
        have o_a489 := ob_I eS506 o_a489
        have o_a494 := ob_I eS506 o_a494
        have o_a499 := ob_I eS506 o_a499
        have o_a504 := ob_I eS506 o_a504
        have o_v0 := ob_I eS506 o_v0
        have el507 : fI S506 a504 x450.toNatClampNeg = x440 := by rw [eS506]; exact u2_self _ _ _ _
        refine ⟨a4, ea4, ?_⟩
        refine ⟨o_a4, ?_⟩
        intro x509 ex509
        have r_x509 : (0 : Int32) ≤ x509 ∧ x509 ≤ (4 : Int32) := by rw [ex509]; exact nu 20 rfl hI o_a4
        have q_x509 : x509 = x450 := ex509.trans d_x450.symm
        have d_x509 := ex509
        intro x510 ex510
        intro S511 eS511
        have hIn : IV S511 := by rw [eS511]; exact iv10_sI hI o_a4 (rg_nw hG ea4) (nu_one (lo := (0 : Int32)) (hi := (4 : Int32)) (by decide) (qr201 r_kv5 r_kv6 r_kv7 hnf r_x9 q_x9 ph1_S11 ph3_S11 ph1_S18 bb_x24 iw_x24 c28 bb_x29 iw_x29 c33 ph1_S398 ph1_S405 ph1_S413 ph1_S420 ph1_S427 ph1_S434 ph1_S441 q_x447 c448 r_x450 q_x450 r_x454 q_x454 r_x460 q_x460 r_x467 q_x467 r_x472 q_x472 ex473 r_x509 q_x509 ex510))
        have hG := rg_inc (c := 4) (y := x509) eS511 hI ea4 o_a4 d_x509.symm (qr202 r_kv5 r_kv6 r_kv7 hnf r_x9 q_x9 ph1_S11 ph3_S11 ph1_S18 bb_x24 iw_x24 c28 bb_x29 iw_x29 c33 ph1_S398 ph1_S405 ph1_S413 ph1_S420 ph1_S427 ph1_S434 ph1_S441 q_x447 c448 r_x450 q_x450 r_x454 q_x454 r_x460 q_x460 r_x467 q_x467 r_x472 q_x472 ex473 r_x509 q_x509 ex510) (qr203 r_kv5 r_kv6 r_kv7 hnf r_x9 q_x9 ph1_S11 ph3_S11 ph1_S18 bb_x24 iw_x24 c28 bb_x29 iw_x29 c33 ph1_S398 ph1_S405 ph1_S413 ph1_S420 ph1_S427 ph1_S434 ph1_S441 q_x447 c448 r_x450 q_x450 r_x454 q_x454 r_x460 q_x460 r_x467 q_x467 r_x472 q_x472 ex473 r_x509 q_x509 ex510) (hn_4 ea499 (by rw [show x509 = x450 from (qr208 r_kv5 r_kv6 r_kv7 hnf r_x9 q_x9 ph1_S11 ph3_S11 ph1_S18 bb_x24 iw_x24 c28 bb_x29 iw_x29 c33 ph1_S398 ph1_S405 ph1_S413 ph1_S420 ph1_S427 ph1_S434 ph1_S441 q_x447 c448 r_x450 q_x450 r_x454 q_x454 r_x460 q_x460 r_x467 q_x467 r_x472 q_x472 ex473 r_x509 q_x509 ex510), el502]; exact ⟨(qr209 r_kv5 r_kv6 r_kv7 hnf r_x9 q_x9 ph1_S11 ph3_S11 ph1_S18 bb_x24 iw_x24 c28 bb_x29 iw_x29 c33 ph1_S398 ph1_S405 ph1_S413 ph1_S420 ph1_S427 ph1_S434 p_x433 ph1_S441 p_x440 q_x447 c448 r_x450 q_x450 r_x454 q_x454 r_x460 q_x460 r_x467 q_x467 r_x472 q_x472 ex473 r_x509 q_x509 ex510), (qr210 r_kv5 r_kv6 r_kv7 hnf r_x9 q_x9 ph1_S11 ph3_S11 ph1_S18 bb_x24 iw_x24 c28 bb_x29 iw_x29 c33 ph1_S398 ph1_S405 ph1_S413 ph1_S420 ph1_S427 ph1_S434 p_x433 ph1_S441 p_x440 q_x447 c448 r_x450 q_x450 r_x454 q_x454 r_x460 q_x460 r_x467 q_x467 r_x472 q_x472 ex473 r_x509 q_x509 ex510), Or.inl rfl⟩) ea504 (by rw [show x509 = x450 from (qr208 r_kv5 r_kv6 r_kv7 hnf r_x9 q_x9 ph1_S11 ph3_S11 ph1_S18 bb_x24 iw_x24 c28 bb_x29 iw_x29 c33 ph1_S398 ph1_S405 ph1_S413 ph1_S420 ph1_S427 ph1_S434 ph1_S441 q_x447 c448 r_x450 q_x450 r_x454 q_x454 r_x460 q_x460 r_x467 q_x467 r_x472 q_x472 ex473 r_x509 q_x509 ex510), el507]; exact ⟨(qr211 r_kv5 r_kv6 r_kv7 hnf r_x9 q_x9 ph1_S11 ph3_S11 ph1_S18 bb_x24 iw_x24 c28 bb_x29 iw_x29 c33 ph1_S398 ph1_S405 ph1_S413 ph1_S420 ph1_S427 ph1_S434 p_x433 ph1_S441 p_x440 q_x447 c448 r_x450 q_x450 r_x454 q_x454 r_x460 q_x460 r_x467 q_x467 r_x472 q_x472 ex473 r_x509 q_x509 ex510), (qr212 r_kv5 r_kv6 r_kv7 hnf r_x9 q_x9 ph1_S11 ph3_S11 ph1_S18 bb_x24 iw_x24 c28 bb_x29 iw_x29 c33 ph1_S398 ph1_S405 ph1_S413 ph1_S420 ph1_S427 ph1_S434 p_x433 ph1_S441 p_x440 q_x447 c448 r_x450 q_x450 r_x454 q_x454 r_x460 q_x460 r_x467 q_x467 r_x472 q_x472 ex473 r_x509 q_x509 ex510), Or.inl rfl⟩)) (hs_4 eS511 d_x509.symm d_kv6.symm (qr202 r_kv5 r_kv6 r_kv7 hnf r_x9 q_x9 ph1_S11 ph3_S11 ph1_S18 bb_x24 iw_x24 c28 bb_x29 iw_x29 c33 ph1_S398 ph1_S405 ph1_S413 ph1_S420 ph1_S427 ph1_S434 ph1_S441 q_x447 c448 r_x450 q_x450 r_x454 q_x454 r_x460 q_x460 r_x467 q_x467 r_x472 q_x472 ex473 r_x509 q_x509 ex510) (qr203 r_kv5 r_kv6 r_kv7 hnf r_x9 q_x9 ph1_S11 ph3_S11 ph1_S18 bb_x24 iw_x24 c28 bb_x29 iw_x29 c33 ph1_S398 ph1_S405 ph1_S413 ph1_S420 ph1_S427 ph1_S434 ph1_S441 q_x447 c448 r_x450 q_x450 r_x454 q_x454 r_x460 q_x460 r_x467 q_x467 r_x472 q_x472 ex473 r_x509 q_x509 ex510) (qr204 r_kv5 r_kv6 r_kv7 hnf r_x9 q_x9 ph1_S11 ph3_S11 ph1_S18 bb_x24 iw_x24 c28 bb_x29 iw_x29 c33 ph1_S398 ph1_S405 ph1_S413 ph1_S420 ph1_S427 ph1_S434 ph1_S441 q_x447 c448 r_x450 q_x450 r_x454 q_x454 r_x460 q_x460 r_x467 q_x467 r_x472 q_x472 ex473 r_x509 q_x509 ex510) ea458 ea465 el463 (el470.trans (qr205 r_kv5 r_kv6 r_kv7 hnf r_x9 q_x9 ph1_S11 ph3_S11 ph1_S18 bb_x24 iw_x24 c28 bb_x29 iw_x29 c33 ph1_S398 ph1_S405 ph1_S413 ph1_S420 ph1_S427 ph1_S434 ph1_S441 q_x447 c448 r_x450 q_x450 r_x454 q_x454 r_x460 q_x460 r_x467 q_x467 r_x472 q_x472 ex473 r_x509 q_x509 ex510)) (qr206 r_kv5 r_kv6 r_kv7 hnf r_x9 q_x9 ph1_S11 ph3_S11 ph1_S18 bb_x24 iw_x24 c28 bb_x29 iw_x29 c33 ph1_S398 ph1_S405 ph1_S413 ph1_S420 ph1_S427 ph1_S434 ph1_S441 q_x447 c448 r_x450 q_x450 r_x454 q_x454 r_x460 q_x460 r_x467 q_x467 r_x472 q_x472 ex473 r_x509 q_x509 ex510) (qr207 r_kv5 r_kv6 r_kv7 hnf r_x9 q_x9 ph1_S11 ph3_S11 ph1_S18 bb_x24 iw_x24 c28 bb_x29 iw_x29 c33 ph1_S398 ph1_S405 ph1_S413 ph1_S420 ph1_S427 ph1_S434 ph1_S441 q_x447 c448 r_x450 q_x450 r_x454 q_x454 r_x460 q_x460 r_x467 q_x467 r_x472 q_x472 ex473 r_x509 q_x509 ex510)) hG
        have el463 := el_ob eS511 o_a4 o_a458 (by decide) el463
        have el470 := el_ob eS511 o_a4 o_a465 (by decide) el470
        have el502 := el_ob eS511 o_a4 o_a499 (by decide) el502
        have el507 := el_ob eS511 o_a4 o_a504 (by decide) el507
        have hI := hIn
        have f0 := fr_I eS511 g0 f0 o_a4 (by decide)
        have d_kv6 := rd_Ij eS511 (by decide) d_kv6
        have d_x447 := rd_Ik eS511 o_a4 o_v0 (by decide) d_x447
        have d_kv445 := rd_Ik eS511 o_a4 o_v0 (by decide) d_kv445
        have d_kv446 := rd_Ik eS511 o_a4 o_v0 (by decide) d_kv446
        have d_x473 := rd_Ij eS511 (by decide) d_x473
        have d_x510 := rd_Is eS511 (rfl : x510 = x510)
        have ea4 := rf_I eS511 ea4
        have ea452 := rf_I eS511 ea452
        have ea458 := rf_I eS511 ea458
        have ea465 := rf_I eS511 ea465
        have ea476 := rf_I eS511 ea476
        have ea480 := rf_I eS511 ea480
        have ea484 := rf_I eS511 ea484
        have ea489 := rf_I eS511 ea489
        have ea494 := rf_I eS511 ea494
        have ea499 := rf_I eS511 ea499
        have ea504 := rf_I eS511 ea504
        have l_a452 := ln_I eS511 l_a452
        have l_a458 := ln_I eS511 l_a458
        have l_a465 := ln_I eS511 l_a465
        have l_a476 := ln_I eS511 l_a476
        have l_a480 := ln_I eS511 l_a480
        have l_a484 := ln_I eS511 l_a484
        have l_a489 := ln_I eS511 l_a489
        have l_a494 := ln_I eS511 l_a494
        have l_a499 := ln_I eS511 l_a499
        have l_a504 := ln_I eS511 l_a504
        have g0 := gr_I eS511 g0
        have o_a4 := ob_I eS511 o_a4
        have o_a452 := ob_I eS511 o_a452
        have o_a458 := ob_I eS511 o_a458
        have o_a465 := ob_I eS511 o_a465
        have o_a476 := ob_I eS511 o_a476
        have o_a480 := ob_I eS511 o_a480
        have o_a484 := ob_I eS511 o_a484
        have o_a489 := ob_I eS511 o_a489
        have o_a494 := ob_I eS511 o_a494
        have o_a499 := ob_I eS511 o_a499
        have o_a504 := ob_I eS511 o_a504
        have o_v0 := ob_I eS511 o_v0
        have hn : RN S511 v0 := fun z ez => by obtain rfl : a4 = z := Option.some.inj (ea4.symm.trans ez); rw [← d_x473, ← d_kv6, ← d_x510]; exact (qr213 r_kv5 r_kv6 r_kv7 hnf r_x9 q_x9 ph1_S11 ph3_S11 ph1_S18 bb_x24 iw_x24 c28 bb_x29 iw_x29 c33 ph1_S398 ph1_S405 ph1_S413 ph1_S420 ph1_S427 ph1_S434 ph1_S441 q_x447 c448 r_x450 q_x450 r_x454 q_x454 r_x460 q_x460 r_x467 q_x467 r_x472 q_x472 ex473 r_x509 q_x509 ex510)
        exact hq _ hI g0 f0 ⟨hG, hn, (by have t : x447 = 5 → 0 < kv445 := (qr214 hO r_kv5 r_kv6 r_kv7 hnf r_x9 q_x9 ph0_S11 ph1_S11 ph3_S11 ph0_S18 ph1_S18 bb_x24 iw_x24 c28 bb_x29 iw_x29 c33 ph0_S398 ph1_S398 ph0_S405 ph1_S405 ph0_S413 ph1_S413 ph0_S420 ph1_S420 ph0_S427 ph1_S427 ph0_S434 ph1_S434 ph0_S441 ph1_S441 q_x447 c448 r_x450 q_x450 r_x454 q_x454 r_x460 q_x460 r_x467 q_x467 r_x472 q_x472 ex473 r_x509 q_x509 ex510); rw [d_x447, d_kv445] at t; exact t), (by have t : x447 = 5 ∨ ¬ kv2 = 5 := (qr215 r_kv5 r_kv6 r_kv7 hnf r_x9 q_x9 ph1_S11 ph3_S11 ph1_S18 bb_x24 iw_x24 c28 bb_x29 iw_x29 c33 ph1_S398 ph1_S405 ph1_S413 ph1_S420 ph1_S427 ph1_S434 ph1_S441 q_x447 c448 r_x450 q_x450 r_x454 q_x454 r_x460 q_x460 r_x467 q_x467 r_x472 q_x472 ex473 r_x509 q_x509 ex510); rw [di_9, d_x447] at t; exact t), (by have t : kv1 ≤ kv446 ∧ (x447 = 4 → kv1 < kv446 ∨ kv2 = 4) := (qr216 r_kv1 r_kv5 r_kv6 r_kv7 hnf r_x9 q_x9 ph1_S11 r_kv16 ph2_S11 ph3_S11 ph1_S18 r_kv23 ph2_S18 bb_x24 iw_x24 c28 bb_x29 iw_x29 c33 ph1_S398 r_kv402 ph2_S398 ph1_S405 r_kv410 ph2_S405 ph1_S413 r_kv418 ph2_S413 ph1_S420 r_kv425 ph2_S420 ph1_S427 r_kv432 ph2_S427 ph1_S434 r_kv439 ph2_S434 ph1_S441 r_kv446 ph2_S441 q_x447 c448 r_x450 q_x450 r_x454 q_x454 r_x460 q_x460 r_x467 q_x467 r_x472 q_x472 ex473 r_x509 q_x509 ex510); rw [di_8, di_9, d_kv446, d_x447] at t; exact t)⟩
      · exact hq _ hI g0 f0 ⟨hG, hn, (by have t : x447 = 5 → 0 < kv445 := (qr217 hO r_kv5 r_kv6 r_kv7 hnf r_x9 q_x9 ph0_S11 ph1_S11 ph3_S11 ph0_S18 ph1_S18 bb_x24 iw_x24 c28 bb_x29 iw_x29 c33 ph0_S398 ph1_S398 ph0_S405 ph1_S405 ph0_S413 ph1_S413 ph0_S420 ph1_S420 ph0_S427 ph1_S427 ph0_S434 ph1_S434 ph0_S441 ph1_S441 q_x447 c448); rw [d_x447, d_kv445] at t; exact t), (by have t : x447 = 5 ∨ ¬ kv2 = 5 := (qr218 r_kv5 r_kv6 r_kv7 hnf r_x9 q_x9 ph1_S11 ph3_S11 ph1_S18 bb_x24 iw_x24 c28 bb_x29 iw_x29 c33 ph1_S398 ph1_S405 ph1_S413 ph1_S420 ph1_S427 ph1_S434 ph1_S441 q_x447 c448); rw [di_9, d_x447] at t; exact t), (by have t : kv1 ≤ kv446 ∧ (x447 = 4 → kv1 < kv446 ∨ kv2 = 4) := (qr219 r_kv1 r_kv5 r_kv6 r_kv7 hnf r_x9 q_x9 ph1_S11 r_kv16 ph2_S11 ph3_S11 ph1_S18 r_kv23 ph2_S18 bb_x24 iw_x24 c28 bb_x29 iw_x29 c33 ph1_S398 r_kv402 ph2_S398 ph1_S405 r_kv410 ph2_S405 ph1_S413 r_kv418 ph2_S413 ph1_S420 r_kv425 ph2_S420 ph1_S427 r_kv432 ph2_S427 ph1_S434 r_kv439 ph2_S434 ph1_S441 r_kv446 ph2_S441 q_x447 c448); rw [di_8, di_9, d_kv446, d_x447] at t; exact t)⟩
  · refine u_X11_readWalker_74 ?_
    refine ⟨fun c512 => ?_, fun c512 => absurd (show (0 : Int32) = (-1 : Int32) from c512) (by decide)⟩
    refine u_X11_readWalker_85 ?_
    refine ⟨o_v0, ?_⟩
    have do512_kv23 := d_kv23
    have do512_kv21 := d_kv21
    have do512_kv22 := d_kv22
    refine m_X11_goesOn hI o_v0 hG (by have t : kv21 = 5 → 0 < kv22 := (qr220 hO r_kv5 r_kv6 r_kv7 hnf r_x9 q_x9 ph0_S11 ph1_S11 ph3_S11 ph0_S18 ph1_S18 bb_x24 iw_x24 c28); rw [d_kv21, d_kv22] at t; exact t) (fun S514 hJ g515 fc516 p_S514 => ?_)
    obtain ⟨hG, pg0_S514, pg1_S514, pg2_S514⟩ := p_S514
    have hn := rn_fr fc516 g515 hI o_v0 (by decide) hn
    have hI := hJ
    have d_kv5 := d_kv5.trans (fri_at fc516 (by decide) (by decide) o_a4).symm
    have d_kv6 := d_kv6.trans (fri_at fc516 (by decide) (by decide) o_a4).symm
    have d_x9 := d_x9.trans (fri_at fc516 (by decide) (by decide) o_a4).symm
    have d_kv22 := d_kv22.trans (fri_at fc516 (by decide) (by decide) o_v0).symm
    have ea4 := (frr_at fc516 (by decide) (by decide) o_v0).trans ea4
    have f0 := fri_tr (S := S18) g0 f0 fc516 (by decide) (by decide)
    have o_a4 := gr_ob g515 o_a4
    have o_v0 := gr_ob g515 o_v0
    have g0 := gr_tr (T := S18) g0 g515
    obtain ⟨kv517, d_kv517⟩ : ∃ z : Int32, z = fI S514 v0 9 := ⟨_, rfl⟩
    have ph0_S514 : kv517 = 5 → 0 < kv22 := by rw [d_kv517, d_kv22]; exact pg0_S514
    have ph1_S514 : kv517 = 5 ∨ ¬ kv21 = 5 := by rw [do512_kv21, d_kv517]; exact pg1_S514
    obtain ⟨kv518, d_kv518⟩ : ∃ z : Int32, z = fI S514 v0 8 := ⟨_, rfl⟩
    have r_kv518 : (0 : Int32) ≤ kv518 ∧ kv518 ≤ (900 : Int32) := by rw [d_kv518]; exact nu 25 rfl hI o_v0
    have ph2_S514 : kv23 ≤ kv518 ∧ (kv517 = 4 → kv23 < kv518 ∨ kv21 = 4) := by rw [do512_kv23, do512_kv21, d_kv518, d_kv517]; exact pg2_S514
    intro _
    refine ⟨fun c519 => ?_, fun c519 => absurd (show (0 : Int32) = (1 : Int32) from c519) (by decide)⟩
    refine ⟨fun c520 => ?_, fun c520 => absurd (show (0 : Int32) = (2 : Int32) from c520) (by decide)⟩
    refine ⟨fun c521 => ?_, fun c521 => absurd (show (0 : Int32) = (3 : Int32) from c521) (by decide)⟩
    refine u_X11_readWalker_136 ?_
    refine ⟨fun c522 => ?_, fun c522 => absurd (show (0 : Int32) = (1 : Int32) from c522) (by decide)⟩
    refine u_X11_readWalker_149 ?_
    refine ⟨o_v0, ?_⟩
    have do522_kv518 := d_kv518
    have do522_kv517 := d_kv517
    have do522_kv22 := d_kv22
    refine m_X11_readPart hI o_v0 (by decide) hG (by have t : kv517 = 5 → 0 < kv22 := (qr221 hO r_kv5 r_kv6 r_kv7 hnf r_x9 q_x9 ph0_S11 ph1_S11 ph3_S11 ph0_S18 ph1_S18 bb_x24 iw_x24 c28 ph0_S514 ph1_S514); rw [d_kv517, d_kv22] at t; exact t) (fun x523 S524 hJ g525 fc526 p_x523 => ?_)
    obtain ⟨hG, p_x523, pg0_S524, pg1_S524, pg2_S524⟩ := p_x523
    have hn := rn_fr fc526 g525 hI o_v0 (by decide) hn
    have hI := hJ
    have d_kv5 := d_kv5.trans (fri_at fc526 (by decide) (by decide) o_a4).symm
    have d_kv6 := d_kv6.trans (fri_at fc526 (by decide) (by decide) o_a4).symm
    have d_x9 := d_x9.trans (fri_at fc526 (by decide) (by decide) o_a4).symm
    have ea4 := (frr_at fc526 (by decide) (by decide) o_v0).trans ea4
    have f0 := fri_tr (S := S514) g0 f0 fc526 (by decide) (by decide)
    have o_a4 := gr_ob g525 o_a4
    have o_v0 := gr_ob g525 o_v0
    have g0 := gr_tr (T := S514) g0 g525
    obtain ⟨kv527, d_kv527⟩ : ∃ z : Int32, z = fI S524 v0 9 := ⟨_, rfl⟩
    obtain ⟨kv528, d_kv528⟩ : ∃ z : Int32, z = fI S524 v0 13 := ⟨_, rfl⟩
    have ph0_S524 : kv527 = 5 → 0 < kv528 := by rw [d_kv527, d_kv528]; exact pg0_S524
    have ph1_S524 : kv527 = 5 ∨ ¬ kv517 = 5 := by rw [do522_kv517, d_kv527]; exact pg1_S524
    obtain ⟨kv529, d_kv529⟩ : ∃ z : Int32, z = fI S524 v0 8 := ⟨_, rfl⟩
    have r_kv529 : (0 : Int32) ≤ kv529 ∧ kv529 ≤ (900 : Int32) := by rw [d_kv529]; exact nu 25 rfl hI o_v0
    have ph2_S524 : kv518 ≤ kv529 ∧ (kv527 = 4 → kv518 < kv529 ∨ kv517 = 4) := by rw [do522_kv518, do522_kv517, d_kv529, d_kv527]; exact pg2_S524
    intro _
    have do529_kv529 := d_kv529
    have do529_kv527 := d_kv527
    have do529_kv528 := d_kv528
    refine m_X11_readPart hI o_v0 (by decide) hG (by have t : kv527 = 5 → 0 < kv528 := (qr222 hO r_kv5 r_kv6 r_kv7 hnf r_x9 q_x9 ph0_S11 ph1_S11 ph3_S11 ph0_S18 ph1_S18 bb_x24 iw_x24 c28 ph0_S514 ph1_S514 ph0_S524 ph1_S524); rw [d_kv527, d_kv528] at t; exact t) (fun x530 S531 hJ g532 fc533 p_x530 => ?_)
    obtain ⟨hG, p_x530, pg0_S531, pg1_S531, pg2_S531⟩ := p_x530
    have hn := rn_fr fc533 g532 hI o_v0 (by decide) hn
    have hI := hJ
    have d_kv5 := d_kv5.trans (fri_at fc533 (by decide) (by decide) o_a4).symm
    have d_kv6 := d_kv6.trans (fri_at fc533 (by decide) (by decide) o_a4).symm
    have d_x9 := d_x9.trans (fri_at fc533 (by decide) (by decide) o_a4).symm
    have ea4 := (frr_at fc533 (by decide) (by decide) o_v0).trans ea4
    have f0 := fri_tr (S := S524) g0 f0 fc533 (by decide) (by decide)
    have o_a4 := gr_ob g532 o_a4
    have o_v0 := gr_ob g532 o_v0
    have g0 := gr_tr (T := S524) g0 g532
    obtain ⟨kv534, d_kv534⟩ : ∃ z : Int32, z = fI S531 v0 9 := ⟨_, rfl⟩
    obtain ⟨kv535, d_kv535⟩ : ∃ z : Int32, z = fI S531 v0 13 := ⟨_, rfl⟩
    have ph0_S531 : kv534 = 5 → 0 < kv535 := by rw [d_kv534, d_kv535]; exact pg0_S531
    have ph1_S531 : kv534 = 5 ∨ ¬ kv527 = 5 := by rw [do529_kv527, d_kv534]; exact pg1_S531
    obtain ⟨kv536, d_kv536⟩ : ∃ z : Int32, z = fI S531 v0 8 := ⟨_, rfl⟩
    have r_kv536 : (0 : Int32) ≤ kv536 ∧ kv536 ≤ (900 : Int32) := by rw [d_kv536]; exact nu 25 rfl hI o_v0
    have ph2_S531 : kv529 ≤ kv536 ∧ (kv534 = 4 → kv529 < kv536 ∨ kv527 = 4) := by rw [do529_kv529, do529_kv527, d_kv536, d_kv534]; exact pg2_S531
    intro _
    have do536_kv536 := d_kv536
    have do536_kv534 := d_kv534
    have do536_kv535 := d_kv535
    refine m_X11_readPart hI o_v0 (by decide) hG (by have t : kv534 = 5 → 0 < kv535 := (qr223 hO r_kv5 r_kv6 r_kv7 hnf r_x9 q_x9 ph0_S11 ph1_S11 ph3_S11 ph0_S18 ph1_S18 bb_x24 iw_x24 c28 ph0_S514 ph1_S514 ph0_S524 ph1_S524 ph0_S531 ph1_S531); rw [d_kv534, d_kv535] at t; exact t) (fun x537 S538 hJ g539 fc540 p_x537 => ?_)
    obtain ⟨hG, p_x537, pg0_S538, pg1_S538, pg2_S538⟩ := p_x537
    have hn := rn_fr fc540 g539 hI o_v0 (by decide) hn
    have hI := hJ
    have d_kv5 := d_kv5.trans (fri_at fc540 (by decide) (by decide) o_a4).symm
    have d_kv6 := d_kv6.trans (fri_at fc540 (by decide) (by decide) o_a4).symm
    have d_x9 := d_x9.trans (fri_at fc540 (by decide) (by decide) o_a4).symm
    have ea4 := (frr_at fc540 (by decide) (by decide) o_v0).trans ea4
    have f0 := fri_tr (S := S531) g0 f0 fc540 (by decide) (by decide)
    have o_a4 := gr_ob g539 o_a4
    have o_v0 := gr_ob g539 o_v0
    have g0 := gr_tr (T := S531) g0 g539
    obtain ⟨kv541, d_kv541⟩ : ∃ z : Int32, z = fI S538 v0 9 := ⟨_, rfl⟩
    obtain ⟨kv542, d_kv542⟩ : ∃ z : Int32, z = fI S538 v0 13 := ⟨_, rfl⟩
    have ph0_S538 : kv541 = 5 → 0 < kv542 := by rw [d_kv541, d_kv542]; exact pg0_S538
    have ph1_S538 : kv541 = 5 ∨ ¬ kv534 = 5 := by rw [do536_kv534, d_kv541]; exact pg1_S538
    obtain ⟨kv543, d_kv543⟩ : ∃ z : Int32, z = fI S538 v0 8 := ⟨_, rfl⟩
    have r_kv543 : (0 : Int32) ≤ kv543 ∧ kv543 ≤ (900 : Int32) := by rw [d_kv543]; exact nu 25 rfl hI o_v0
    have ph2_S538 : kv536 ≤ kv543 ∧ (kv541 = 4 → kv536 < kv543 ∨ kv534 = 4) := by rw [do536_kv536, do536_kv534, d_kv543, d_kv541]; exact pg2_S538
    intro _
    have do543_kv543 := d_kv543
    have do543_kv541 := d_kv541
    have do543_kv542 := d_kv542
    refine m_X11_readPart hI o_v0 (by decide) hG (by have t : kv541 = 5 → 0 < kv542 := (qr224 hO r_kv5 r_kv6 r_kv7 hnf r_x9 q_x9 ph0_S11 ph1_S11 ph3_S11 ph0_S18 ph1_S18 bb_x24 iw_x24 c28 ph0_S514 ph1_S514 ph0_S524 ph1_S524 ph0_S531 ph1_S531 ph0_S538 ph1_S538); rw [d_kv541, d_kv542] at t; exact t) (fun x544 S545 hJ g546 fc547 p_x544 => ?_)
    obtain ⟨hG, p_x544, pg0_S545, pg1_S545, pg2_S545⟩ := p_x544
    have hn := rn_fr fc547 g546 hI o_v0 (by decide) hn
    have hI := hJ
    have d_kv5 := d_kv5.trans (fri_at fc547 (by decide) (by decide) o_a4).symm
    have d_kv6 := d_kv6.trans (fri_at fc547 (by decide) (by decide) o_a4).symm
    have d_x9 := d_x9.trans (fri_at fc547 (by decide) (by decide) o_a4).symm
    have ea4 := (frr_at fc547 (by decide) (by decide) o_v0).trans ea4
    have f0 := fri_tr (S := S538) g0 f0 fc547 (by decide) (by decide)
    have o_a4 := gr_ob g546 o_a4
    have o_v0 := gr_ob g546 o_v0
    have g0 := gr_tr (T := S538) g0 g546
    obtain ⟨kv548, d_kv548⟩ : ∃ z : Int32, z = fI S545 v0 9 := ⟨_, rfl⟩
    obtain ⟨kv549, d_kv549⟩ : ∃ z : Int32, z = fI S545 v0 13 := ⟨_, rfl⟩
    have ph0_S545 : kv548 = 5 → 0 < kv549 := by rw [d_kv548, d_kv549]; exact pg0_S545
    have ph1_S545 : kv548 = 5 ∨ ¬ kv541 = 5 := by rw [do543_kv541, d_kv548]; exact pg1_S545
    obtain ⟨kv550, d_kv550⟩ : ∃ z : Int32, z = fI S545 v0 8 := ⟨_, rfl⟩
    have r_kv550 : (0 : Int32) ≤ kv550 ∧ kv550 ≤ (900 : Int32) := by rw [d_kv550]; exact nu 25 rfl hI o_v0
    have ph2_S545 : kv543 ≤ kv550 ∧ (kv548 = 4 → kv543 < kv550 ∨ kv541 = 4) := by rw [do543_kv543, do543_kv541, d_kv550, d_kv548]; exact pg2_S545
    intro _
    have do550_kv550 := d_kv550
    have do550_kv548 := d_kv548
    have do550_kv549 := d_kv549
    refine m_X11_readPart hI o_v0 (by decide) hG (by have t : kv548 = 5 → 0 < kv549 := (qr225 hO r_kv5 r_kv6 r_kv7 hnf r_x9 q_x9 ph0_S11 ph1_S11 ph3_S11 ph0_S18 ph1_S18 bb_x24 iw_x24 c28 ph0_S514 ph1_S514 ph0_S524 ph1_S524 ph0_S531 ph1_S531 ph0_S538 ph1_S538 ph0_S545 ph1_S545); rw [d_kv548, d_kv549] at t; exact t) (fun x551 S552 hJ g553 fc554 p_x551 => ?_)
    obtain ⟨hG, p_x551, pg0_S552, pg1_S552, pg2_S552⟩ := p_x551
    have hn := rn_fr fc554 g553 hI o_v0 (by decide) hn
    have hI := hJ
    have d_kv5 := d_kv5.trans (fri_at fc554 (by decide) (by decide) o_a4).symm
    have d_kv6 := d_kv6.trans (fri_at fc554 (by decide) (by decide) o_a4).symm
    have d_x9 := d_x9.trans (fri_at fc554 (by decide) (by decide) o_a4).symm
    have ea4 := (frr_at fc554 (by decide) (by decide) o_v0).trans ea4
    have f0 := fri_tr (S := S545) g0 f0 fc554 (by decide) (by decide)
    have o_a4 := gr_ob g553 o_a4
    have o_v0 := gr_ob g553 o_v0
    have g0 := gr_tr (T := S545) g0 g553
    obtain ⟨kv555, d_kv555⟩ : ∃ z : Int32, z = fI S552 v0 9 := ⟨_, rfl⟩
    obtain ⟨kv556, d_kv556⟩ : ∃ z : Int32, z = fI S552 v0 13 := ⟨_, rfl⟩
    have ph0_S552 : kv555 = 5 → 0 < kv556 := by rw [d_kv555, d_kv556]; exact pg0_S552
    have ph1_S552 : kv555 = 5 ∨ ¬ kv548 = 5 := by rw [do550_kv548, d_kv555]; exact pg1_S552
    obtain ⟨kv557, d_kv557⟩ : ∃ z : Int32, z = fI S552 v0 8 := ⟨_, rfl⟩
    have r_kv557 : (0 : Int32) ≤ kv557 ∧ kv557 ≤ (900 : Int32) := by rw [d_kv557]; exact nu 25 rfl hI o_v0
    have ph2_S552 : kv550 ≤ kv557 ∧ (kv555 = 4 → kv550 < kv557 ∨ kv548 = 4) := by rw [do550_kv550, do550_kv548, d_kv557, d_kv555]; exact pg2_S552
    intro _
    intro x558 ex558
    have q_x558 : x558 = kv555 := ex558.trans d_kv555.symm
    have d_x558 := ex558
    refine ⟨fun c559 => ?_, fun c559 => ?_⟩
    · refine ⟨a4, ea4, ?_⟩
      refine ⟨o_a4, ?_⟩
      intro x561 ex561
      have r_x561 : (0 : Int32) ≤ x561 ∧ x561 ≤ (4 : Int32) := by rw [ex561]; exact nu 20 rfl hI o_a4
      have q_x561 : x561 = x9 := ex561.trans d_x9.symm
      have d_x561 := ex561
      refine u_X11_names ?_
      refine u_X11_names_0 ?_
      refine ⟨o_v0, ?_⟩
      refine ⟨a4, ea4, ?_⟩
      refine ⟨o_a4, ?_⟩
      obtain ⟨a563, ea563, o_a563, l_a563⟩ := shl 50 rfl hI o_a4
      refine ⟨a563, ea563, ?_⟩
      refine ⟨a4, ea4, ?_⟩
      refine ⟨o_a4, ?_⟩
      intro x565 ex565
      have r_x565 : (0 : Int32) ≤ x565 ∧ x565 ≤ (12 : Int32) := by rw [ex565]; exact nu 22 rfl hI o_a4
      have q_x565 : x565 = kv5 := ex565.trans d_kv5.symm
      have d_x565 := ex565
      refine ⟨o_a563, ?_⟩
      have i566 : vp_in x565 (hN _ a563) := (vin l_a563 (m := 12) (by decide) (qr226 r_kv5 r_kv6 r_kv7 hnf r_x9 q_x9 ph1_S11 ph3_S11 ph1_S18 bb_x24 iw_x24 c28 ph1_S514 ph1_S524 ph1_S531 ph1_S538 ph1_S545 ph1_S552 q_x558 c559 r_x561 q_x561 r_x565 q_x565))
      refine ⟨i566, ?_⟩
      intro S567 eS567
      have hIn : IV S567 := by rw [eS567]; exact iv10_aJ hI o_a4 (by decide) ea563
      have hG := rg_J eS567 hG
      have hn := rn_J eS567 hn
      have hI := hIn
      have f0 := fr_J eS567 f0
      have d_x565 := rd_J eS567 d_x565
      have d_kv6 := rd_J eS567 d_kv6
      have d_x561 := rd_J eS567 d_x561
      have d_x558 := rd_J eS567 d_x558
      have d_kv556 := rd_J eS567 d_kv556
      have d_kv557 := rd_J eS567 d_kv557
      have ea4 := rf_J eS567 ea4
      have ea563 := rf_J eS567 ea563
      have l_a563 := ln_J eS567 l_a563
      have g0 := gr_J eS567 g0
      have o_a4 := ob_J eS567 o_a4
      have o_a563 := ob_J eS567 o_a563
      have o_v0 := ob_J eS567 o_v0
      refine ⟨a4, ea4, ?_⟩
      refine ⟨o_a4, ?_⟩
      obtain ⟨a569, ea569, o_a569, l_a569⟩ := shl 51 rfl hI o_a4
      refine ⟨a569, ea569, ?_⟩
      refine ⟨a4, ea4, ?_⟩
      refine ⟨o_a4, ?_⟩
      intro x571 ex571
      have r_x571 : (0 : Int32) ≤ x571 ∧ x571 ≤ (12 : Int32) := by rw [ex571]; exact nu 22 rfl hI o_a4
      have q_x571 : x571 = x565 := ex571.trans d_x565.symm
      have d_x571 := ex571
      refine ⟨o_a569, ?_⟩
      have i572 : vp_in x571 (hN _ a569) := (vin l_a569 (m := 12) (by decide) (qr227 r_kv5 r_kv6 r_kv7 hnf r_x9 q_x9 ph1_S11 ph3_S11 ph1_S18 bb_x24 iw_x24 c28 ph1_S514 ph1_S524 ph1_S531 ph1_S538 ph1_S545 ph1_S552 q_x558 c559 r_x561 q_x561 r_x565 q_x565 r_x571 q_x571))
      refine ⟨i572, ?_⟩
      intro S573 eS573
      have hIn : IV S573 := by rw [eS573]; exact iv10_aI hI o_a4 (rg_nw hG ea4) ea569 o_a569 (by decide)
      have hG := rg_a (jj := 29) (x := x571) eS573 hI ea4 o_a4 ea569 o_a569 (by decide) (h1_no (by decide)) (fun _ => by rw [← d_kv6, ← d_x561]; exact (qr228 r_kv5 r_kv6 r_kv7 hnf r_x9 q_x9 ph1_S11 ph3_S11 ph1_S18 bb_x24 iw_x24 c28 ph1_S514 ph1_S524 ph1_S531 ph1_S538 ph1_S545 ph1_S552 q_x558 c559 r_x561 q_x561 r_x565 q_x565 r_x571 q_x571)) hG
      have hn := rn_11 eS573 hI o_v0 o_a569 (by decide) hn
      have hI := hIn
      have f0 := fr_A eS573 g0 f0 o_a569 (by decide)
      have d_x571 := rd_Ik eS573 o_a569 o_a4 (by decide) d_x571
      have d_kv6 := rd_Ik eS573 o_a569 o_a4 (by decide) d_kv6
      have d_x561 := rd_Ik eS573 o_a569 o_a4 (by decide) d_x561
      have d_x558 := rd_Ik eS573 o_a569 o_v0 (by decide) d_x558
      have d_kv556 := rd_Ik eS573 o_a569 o_v0 (by decide) d_kv556
      have d_kv557 := rd_Ik eS573 o_a569 o_v0 (by decide) d_kv557
      have ea4 := rf_I eS573 ea4
      have ea563 := rf_I eS573 ea563
      have ea569 := rf_I eS573 ea569
      have l_a563 := ln_I eS573 l_a563
      have l_a569 := ln_I eS573 l_a569
      have g0 := gr_I eS573 g0
      have o_a4 := ob_I eS573 o_a4
      have o_a563 := ob_I eS573 o_a563
      have o_a569 := ob_I eS573 o_a569
      have o_v0 := ob_I eS573 o_v0
      have el574 : fI S573 a569 x571.toNatClampNeg = (1 : Int32) := by rw [eS573]; exact u2_self _ _ _ _
      refine ⟨a4, ea4, ?_⟩
      refine ⟨o_a4, ?_⟩
      obtain ⟨a576, ea576, o_a576, l_a576⟩ := shl 52 rfl hI o_a4
      refine ⟨a576, ea576, ?_⟩
      refine ⟨a4, ea4, ?_⟩
      refine ⟨o_a4, ?_⟩
      intro x578 ex578
      have r_x578 : (0 : Int32) ≤ x578 ∧ x578 ≤ (12 : Int32) := by rw [ex578]; exact nu 22 rfl hI o_a4
      have q_x578 : x578 = x571 := ex578.trans d_x571.symm
      have d_x578 := ex578
      refine ⟨o_a576, ?_⟩
      have i579 : vp_in x578 (hN _ a576) := (vin l_a576 (m := 12) (by decide) (qr229 r_kv5 r_kv6 r_kv7 hnf r_x9 q_x9 ph1_S11 ph3_S11 ph1_S18 bb_x24 iw_x24 c28 ph1_S514 ph1_S524 ph1_S531 ph1_S538 ph1_S545 ph1_S552 q_x558 c559 r_x561 q_x561 r_x565 q_x565 r_x571 q_x571 r_x578 q_x578))
      refine ⟨i579, ?_⟩
      intro S580 eS580
      have hIn : IV S580 := by rw [eS580]; exact iv10_aI hI o_a4 (rg_nw hG ea4) ea576 o_a576 (by decide)
      have hG := rg_a (jj := 30) (x := x578) eS580 hI ea4 o_a4 ea576 o_a576 (by decide) (h1_no (by decide)) (fun _ => by rw [← d_kv6, ← d_x561]; exact (qr230 r_kv5 r_kv6 r_kv7 hnf r_x9 q_x9 ph1_S11 ph3_S11 ph1_S18 bb_x24 iw_x24 c28 ph1_S514 ph1_S524 ph1_S531 ph1_S538 ph1_S545 ph1_S552 q_x558 c559 r_x561 q_x561 r_x565 q_x565 r_x571 q_x571 r_x578 q_x578)) hG
      have hn := rn_11 eS580 hI o_v0 o_a576 (by decide) hn
      have el574 := el_ar eS580 (ow_ne hI o_a4 (by decide) o_a4 (by decide) ea576 ea569 (by decide)) el574
      have hI := hIn
      have f0 := fr_A eS580 g0 f0 o_a576 (by decide)
      have d_x578 := rd_Ik eS580 o_a576 o_a4 (by decide) d_x578
      have d_kv6 := rd_Ik eS580 o_a576 o_a4 (by decide) d_kv6
      have d_x561 := rd_Ik eS580 o_a576 o_a4 (by decide) d_x561
      have d_x558 := rd_Ik eS580 o_a576 o_v0 (by decide) d_x558
      have d_kv556 := rd_Ik eS580 o_a576 o_v0 (by decide) d_kv556
      have d_kv557 := rd_Ik eS580 o_a576 o_v0 (by decide) d_kv557
      have ea4 := rf_I eS580 ea4
      have ea563 := rf_I eS580 ea563
      have ea569 := rf_I eS580 ea569
      have ea576 := rf_I eS580 ea576
      have l_a563 := ln_I eS580 l_a563
      have l_a569 := ln_I eS580 l_a569
      have l_a576 := ln_I eS580 l_a576
      have g0 := gr_I eS580 g0
      have o_a4 := ob_I eS580 o_a4
      have o_a563 := ob_I eS580 o_a563
      have o_a569 := ob_I eS580 o_a569
      have o_a576 := ob_I eS580 o_a576
      have o_v0 := ob_I eS580 o_v0
      have el581 : fI S580 a576 x578.toNatClampNeg = x561 := by rw [eS580]; exact u2_self _ _ _ _
      refine ⟨a4, ea4, ?_⟩
      refine ⟨o_a4, ?_⟩
      intro x583 ex583
      have r_x583 : (0 : Int32) ≤ x583 ∧ x583 ≤ (12 : Int32) := by rw [ex583]; exact nu 22 rfl hI o_a4
      have q_x583 : x583 = x578 := ex583.trans d_x578.symm
      have d_x583 := ex583
      intro x584 ex584
      intro S585 eS585
      have hIn : IV S585 := by rw [eS585]; exact iv10_sI hI o_a4 (rg_nw hG ea4) (nu_one (lo := (0 : Int32)) (hi := (12 : Int32)) (by decide) (qr231 r_kv5 r_kv6 r_kv7 hnf r_x9 q_x9 ph1_S11 ph3_S11 ph1_S18 bb_x24 iw_x24 c28 ph1_S514 ph1_S524 ph1_S531 ph1_S538 ph1_S545 ph1_S552 q_x558 c559 r_x561 q_x561 r_x565 q_x565 r_x571 q_x571 r_x578 q_x578 r_x583 q_x583 ex584))
      have hG := rg_c eS585 hI ea4 o_a4 (by decide) hG
      have el574 := el_ob eS585 o_a4 o_a569 (by decide) el574
      have el581 := el_ob eS585 o_a4 o_a576 (by decide) el581
      have hI := hIn
      have f0 := fr_I eS585 g0 f0 o_a4 (by decide)
      have d_kv6 := rd_Ij eS585 (by decide) d_kv6
      have d_x561 := rd_Ij eS585 (by decide) d_x561
      have d_x558 := rd_Ik eS585 o_a4 o_v0 (by decide) d_x558
      have d_kv556 := rd_Ik eS585 o_a4 o_v0 (by decide) d_kv556
      have d_kv557 := rd_Ik eS585 o_a4 o_v0 (by decide) d_kv557
      have d_x584 := rd_Is eS585 (rfl : x584 = x584)
      have ea4 := rf_I eS585 ea4
      have ea563 := rf_I eS585 ea563
      have ea569 := rf_I eS585 ea569
      have ea576 := rf_I eS585 ea576
      have l_a563 := ln_I eS585 l_a563
      have l_a569 := ln_I eS585 l_a569
      have l_a576 := ln_I eS585 l_a576
      have g0 := gr_I eS585 g0
      have o_a4 := ob_I eS585 o_a4
      have o_a563 := ob_I eS585 o_a563
      have o_a569 := ob_I eS585 o_a569
      have o_a576 := ob_I eS585 o_a576
      have o_v0 := ob_I eS585 o_v0
      intro _
      refine ⟨a4, ea4, ?_⟩
      refine ⟨o_a4, ?_⟩
      obtain ⟨a587, ea587, o_a587, l_a587⟩ := shl 41 rfl hI o_a4
      refine ⟨a587, ea587, ?_⟩
      refine ⟨o_a587, ?_⟩
      have i588 : vp_in x561 (hN _ a587) := (vin l_a587 (m := 4) (by decide) (qr232 r_kv5 r_kv6 r_kv7 hnf r_x9 q_x9 ph1_S11 ph3_S11 ph1_S18 bb_x24 iw_x24 c28 ph1_S514 ph1_S524 ph1_S531 ph1_S538 ph1_S545 ph1_S552 q_x558 c559 r_x561 q_x561 r_x565 q_x565 r_x571 q_x571 r_x578 q_x578 r_x583 q_x583 ex584))
      refine ⟨i588, ?_⟩
      intro S589 eS589
      have hIn : IV S589 := by rw [eS589]; exact iv10_aI hI o_a4 (rg_nw hG ea4) ea587 o_a587 (by decide)
      have hG := rg_a (jj := 19) (x := x561) eS589 hI ea4 o_a4 ea587 o_a587 (by decide) (h1_no (by decide)) (h2_no (y := 0) (by decide)) hG
      have el574 := el_ar eS589 (ow_ne hI o_a4 (by decide) o_a4 (by decide) ea587 ea569 (by decide)) el574
      have el581 := el_ar eS589 (ow_ne hI o_a4 (by decide) o_a4 (by decide) ea587 ea576 (by decide)) el581
      have hI := hIn
      have f0 := fr_A eS589 g0 f0 o_a587 (by decide)
      have d_kv6 := rd_Ik eS589 o_a587 o_a4 (by decide) d_kv6
      have d_x561 := rd_Ik eS589 o_a587 o_a4 (by decide) d_x561
      have d_x558 := rd_Ik eS589 o_a587 o_v0 (by decide) d_x558
      have d_kv556 := rd_Ik eS589 o_a587 o_v0 (by decide) d_kv556
      have d_kv557 := rd_Ik eS589 o_a587 o_v0 (by decide) d_kv557
      have d_x584 := rd_Ik eS589 o_a587 o_a4 (by decide) d_x584
      have ea4 := rf_I eS589 ea4
      have ea563 := rf_I eS589 ea563
      have ea569 := rf_I eS589 ea569
      have ea576 := rf_I eS589 ea576
      have ea587 := rf_I eS589 ea587
      have l_a563 := ln_I eS589 l_a563
      have l_a569 := ln_I eS589 l_a569
      have l_a576 := ln_I eS589 l_a576
      have l_a587 := ln_I eS589 l_a587
      have g0 := gr_I eS589 g0
      have o_a4 := ob_I eS589 o_a4
      have o_a563 := ob_I eS589 o_a563
      have o_a569 := ob_I eS589 o_a569
      have o_a576 := ob_I eS589 o_a576
      have o_a587 := ob_I eS589 o_a587
      have o_v0 := ob_I eS589 o_v0
      refine ⟨a4, ea4, ?_⟩
      refine ⟨o_a4, ?_⟩
      obtain ⟨a591, ea591, o_a591, l_a591⟩ := shl 42 rfl hI o_a4
      refine ⟨a591, ea591, ?_⟩
      refine ⟨o_a591, ?_⟩
      have i592 : vp_in x561 (hN _ a591) := (vin l_a591 (m := 4) (by decide) (qr232 r_kv5 r_kv6 r_kv7 hnf r_x9 q_x9 ph1_S11 ph3_S11 ph1_S18 bb_x24 iw_x24 c28 ph1_S514 ph1_S524 ph1_S531 ph1_S538 ph1_S545 ph1_S552 q_x558 c559 r_x561 q_x561 r_x565 q_x565 r_x571 q_x571 r_x578 q_x578 r_x583 q_x583 ex584))
      refine ⟨i592, ?_⟩
      intro S593 eS593
      have hIn : IV S593 := by rw [eS593]; exact iv10_aI hI o_a4 (rg_nw hG ea4) ea591 o_a591 (by decide)
      have hG := rg_a (jj := 20) (x := x561) eS593 hI ea4 o_a4 ea591 o_a591 (by decide) (h1_no (by decide)) (h2_no (y := 0) (by decide)) hG
      have el574 := el_ar eS593 (ow_ne hI o_a4 (by decide) o_a4 (by decide) ea591 ea569 (by decide)) el574
      have el581 := el_ar eS593 (ow_ne hI o_a4 (by decide) o_a4 (by decide) ea591 ea576 (by decide)) el581
      have hI := hIn
      have f0 := fr_A eS593 g0 f0 o_a591 (by decide)
      have d_kv6 := rd_Ik eS593 o_a591 o_a4 (by decide) d_kv6
      have d_x561 := rd_Ik eS593 o_a591 o_a4 (by decide) d_x561
      have d_x558 := rd_Ik eS593 o_a591 o_v0 (by decide) d_x558
      have d_kv556 := rd_Ik eS593 o_a591 o_v0 (by decide) d_kv556
      have d_kv557 := rd_Ik eS593 o_a591 o_v0 (by decide) d_kv557
      have d_x584 := rd_Ik eS593 o_a591 o_a4 (by decide) d_x584
      have ea4 := rf_I eS593 ea4
      have ea563 := rf_I eS593 ea563
      have ea569 := rf_I eS593 ea569
      have ea576 := rf_I eS593 ea576
      have ea587 := rf_I eS593 ea587
      have ea591 := rf_I eS593 ea591
      have l_a563 := ln_I eS593 l_a563
      have l_a569 := ln_I eS593 l_a569
      have l_a576 := ln_I eS593 l_a576
      have l_a587 := ln_I eS593 l_a587
      have l_a591 := ln_I eS593 l_a591
      have g0 := gr_I eS593 g0
      have o_a4 := ob_I eS593 o_a4
      have o_a563 := ob_I eS593 o_a563
      have o_a569 := ob_I eS593 o_a569
      have o_a576 := ob_I eS593 o_a576
      have o_a587 := ob_I eS593 o_a587
      have o_a591 := ob_I eS593 o_a591
      have o_v0 := ob_I eS593 o_v0
      refine ⟨a4, ea4, ?_⟩
      refine ⟨o_a4, ?_⟩
      obtain ⟨a595, ea595, o_a595, l_a595⟩ := shl 43 rfl hI o_a4
      refine ⟨a595, ea595, ?_⟩
      refine ⟨o_a595, ?_⟩
      intro x596 ex596
      have i597 : vp_in x561 (hN _ a595) := (vin l_a595 (m := 4) (by decide) (qr232 r_kv5 r_kv6 r_kv7 hnf r_x9 q_x9 ph1_S11 ph3_S11 ph1_S18 bb_x24 iw_x24 c28 ph1_S514 ph1_S524 ph1_S531 ph1_S538 ph1_S545 ph1_S552 q_x558 c559 r_x561 q_x561 r_x565 q_x565 r_x571 q_x571 r_x578 q_x578 r_x583 q_x583 ex584))
      refine ⟨i597, ?_⟩
      intro S598 eS598
      have hIn : IV S598 := by rw [eS598]; exact iv10_aI hI o_a4 (rg_nw hG ea4) ea595 o_a595 (by decide)
      have hG := rg_a (jj := 21) (x := x561) eS598 hI ea4 o_a4 ea595 o_a595 (by decide) (h1_no (by decide)) (h2_no (y := 0) (by decide)) hG
      have el574 := el_ar eS598 (ow_ne hI o_a4 (by decide) o_a4 (by decide) ea595 ea569 (by decide)) el574
      have el581 := el_ar eS598 (ow_ne hI o_a4 (by decide) o_a4 (by decide) ea595 ea576 (by decide)) el581
      have hI := hIn
      have f0 := fr_A eS598 g0 f0 o_a595 (by decide)
      have d_kv6 := rd_Ik eS598 o_a595 o_a4 (by decide) d_kv6
      have d_x561 := rd_Ik eS598 o_a595 o_a4 (by decide) d_x561
      have d_x558 := rd_Ik eS598 o_a595 o_v0 (by decide) d_x558
      have d_kv556 := rd_Ik eS598 o_a595 o_v0 (by decide) d_kv556
      have d_kv557 := rd_Ik eS598 o_a595 o_v0 (by decide) d_kv557
      have d_x584 := rd_Ik eS598 o_a595 o_a4 (by decide) d_x584
      have ea4 := rf_I eS598 ea4
      have ea563 := rf_I eS598 ea563
      have ea569 := rf_I eS598 ea569
      have ea576 := rf_I eS598 ea576
      have ea587 := rf_I eS598 ea587
      have ea591 := rf_I eS598 ea591
      have ea595 := rf_I eS598 ea595
      have l_a563 := ln_I eS598 l_a563
      have l_a569 := ln_I eS598 l_a569
      have l_a576 := ln_I eS598 l_a576
      have l_a587 := ln_I eS598 l_a587
      have l_a591 := ln_I eS598 l_a591
      have l_a595 := ln_I eS598 l_a595
      have g0 := gr_I eS598 g0
      have o_a4 := ob_I eS598 o_a4
      have o_a563 := ob_I eS598 o_a563
      have o_a569 := ob_I eS598 o_a569
      have o_a576 := ob_I eS598 o_a576
      have o_a587 := ob_I eS598 o_a587
      have o_a591 := ob_I eS598 o_a591
      have o_a595 := ob_I eS598 o_a595
      have o_v0 := ob_I eS598 o_v0
      refine ⟨a4, ea4, ?_⟩
      refine ⟨o_a4, ?_⟩
      obtain ⟨a600, ea600, o_a600, l_a600⟩ := shl 44 rfl hI o_a4
      refine ⟨a600, ea600, ?_⟩
      refine ⟨o_a600, ?_⟩
      intro x601 ex601
      have i602 : vp_in x561 (hN _ a600) := (vin l_a600 (m := 4) (by decide) (qr232 r_kv5 r_kv6 r_kv7 hnf r_x9 q_x9 ph1_S11 ph3_S11 ph1_S18 bb_x24 iw_x24 c28 ph1_S514 ph1_S524 ph1_S531 ph1_S538 ph1_S545 ph1_S552 q_x558 c559 r_x561 q_x561 r_x565 q_x565 r_x571 q_x571 r_x578 q_x578 r_x583 q_x583 ex584))
      refine ⟨i602, ?_⟩
      intro S603 eS603
      have hIn : IV S603 := by rw [eS603]; exact iv10_aI hI o_a4 (rg_nw hG ea4) ea600 o_a600 (by decide)
      have hG := rg_a (jj := 22) (x := x561) eS603 hI ea4 o_a4 ea600 o_a600 (by decide) (h1_no (by decide)) (h2_no (y := 0) (by decide)) hG
      have el574 := el_ar eS603 (ow_ne hI o_a4 (by decide) o_a4 (by decide) ea600 ea569 (by decide)) el574
      have el581 := el_ar eS603 (ow_ne hI o_a4 (by decide) o_a4 (by decide) ea600 ea576 (by decide)) el581
      have hI := hIn
      have f0 := fr_A eS603 g0 f0 o_a600 (by decide)
      have d_kv6 := rd_Ik eS603 o_a600 o_a4 (by decide) d_kv6
      have d_x561 := rd_Ik eS603 o_a600 o_a4 (by decide) d_x561
      have d_x558 := rd_Ik eS603 o_a600 o_v0 (by decide) d_x558
      have d_kv556 := rd_Ik eS603 o_a600 o_v0 (by decide) d_kv556
      have d_kv557 := rd_Ik eS603 o_a600 o_v0 (by decide) d_kv557
      have d_x584 := rd_Ik eS603 o_a600 o_a4 (by decide) d_x584
      have ea4 := rf_I eS603 ea4
      have ea563 := rf_I eS603 ea563
      have ea569 := rf_I eS603 ea569
      have ea576 := rf_I eS603 ea576
      have ea587 := rf_I eS603 ea587
      have ea591 := rf_I eS603 ea591
      have ea595 := rf_I eS603 ea595
      have ea600 := rf_I eS603 ea600
      have l_a563 := ln_I eS603 l_a563
      have l_a569 := ln_I eS603 l_a569
      have l_a576 := ln_I eS603 l_a576
      have l_a587 := ln_I eS603 l_a587
      have l_a591 := ln_I eS603 l_a591
      have l_a595 := ln_I eS603 l_a595
      have l_a600 := ln_I eS603 l_a600
      have g0 := gr_I eS603 g0
      have o_a4 := ob_I eS603 o_a4
      have o_a563 := ob_I eS603 o_a563
      have o_a569 := ob_I eS603 o_a569
      have o_a576 := ob_I eS603 o_a576
      have o_a587 := ob_I eS603 o_a587
      have o_a591 := ob_I eS603 o_a591
      have o_a595 := ob_I eS603 o_a595
      have o_a600 := ob_I eS603 o_a600
      have o_v0 := ob_I eS603 o_v0
      refine ⟨a4, ea4, ?_⟩
      refine ⟨o_a4, ?_⟩
      obtain ⟨a605, ea605, o_a605, l_a605⟩ := shl 45 rfl hI o_a4
      refine ⟨a605, ea605, ?_⟩
      refine ⟨o_a605, ?_⟩
      intro x606 ex606
      have i607 : vp_in x561 (hN _ a605) := (vin l_a605 (m := 4) (by decide) (qr232 r_kv5 r_kv6 r_kv7 hnf r_x9 q_x9 ph1_S11 ph3_S11 ph1_S18 bb_x24 iw_x24 c28 ph1_S514 ph1_S524 ph1_S531 ph1_S538 ph1_S545 ph1_S552 q_x558 c559 r_x561 q_x561 r_x565 q_x565 r_x571 q_x571 r_x578 q_x578 r_x583 q_x583 ex584))
      refine ⟨i607, ?_⟩
      intro S608 eS608
      have hIn : IV S608 := by rw [eS608]; exact iv10_aI hI o_a4 (rg_nw hG ea4) ea605 o_a605 (by decide)
      have hG := rg_a (jj := 23) (x := x561) eS608 hI ea4 o_a4 ea605 o_a605 (by decide) (h1_no (by decide)) (h2_no (y := 0) (by decide)) hG
      have el574 := el_ar eS608 (ow_ne hI o_a4 (by decide) o_a4 (by decide) ea605 ea569 (by decide)) el574
      have el581 := el_ar eS608 (ow_ne hI o_a4 (by decide) o_a4 (by decide) ea605 ea576 (by decide)) el581
      have hI := hIn
      have f0 := fr_A eS608 g0 f0 o_a605 (by decide)
      have d_kv6 := rd_Ik eS608 o_a605 o_a4 (by decide) d_kv6
      have d_x561 := rd_Ik eS608 o_a605 o_a4 (by decide) d_x561
      have d_x558 := rd_Ik eS608 o_a605 o_v0 (by decide) d_x558
      have d_kv556 := rd_Ik eS608 o_a605 o_v0 (by decide) d_kv556
      have d_kv557 := rd_Ik eS608 o_a605 o_v0 (by decide) d_kv557
      have d_x584 := rd_Ik eS608 o_a605 o_a4 (by decide) d_x584
      have ea4 := rf_I eS608 ea4
      have ea563 := rf_I eS608 ea563
      have ea569 := rf_I eS608 ea569
      have ea576 := rf_I eS608 ea576
      have ea587 := rf_I eS608 ea587
      have ea591 := rf_I eS608 ea591
      have ea595 := rf_I eS608 ea595
      have ea600 := rf_I eS608 ea600
      have ea605 := rf_I eS608 ea605
      have l_a563 := ln_I eS608 l_a563
      have l_a569 := ln_I eS608 l_a569
      have l_a576 := ln_I eS608 l_a576
      have l_a587 := ln_I eS608 l_a587
      have l_a591 := ln_I eS608 l_a591
      have l_a595 := ln_I eS608 l_a595
      have l_a600 := ln_I eS608 l_a600
      have l_a605 := ln_I eS608 l_a605
      have g0 := gr_I eS608 g0
      have o_a4 := ob_I eS608 o_a4
      have o_a563 := ob_I eS608 o_a563
      have o_a569 := ob_I eS608 o_a569
      have o_a576 := ob_I eS608 o_a576
      have o_a587 := ob_I eS608 o_a587
      have o_a591 := ob_I eS608 o_a591
      have o_a595 := ob_I eS608 o_a595
      have o_a600 := ob_I eS608 o_a600
      have o_a605 := ob_I eS608 o_a605
      have o_v0 := ob_I eS608 o_v0
      refine ⟨a4, ea4, ?_⟩
      refine ⟨o_a4, ?_⟩
      obtain ⟨a610, ea610, o_a610, l_a610⟩ := shl 46 rfl hI o_a4
      refine ⟨a610, ea610, ?_⟩
      refine ⟨o_a610, ?_⟩
      have i611 : vp_in x561 (hN _ a610) := (vin l_a610 (m := 4) (by decide) (qr232 r_kv5 r_kv6 r_kv7 hnf r_x9 q_x9 ph1_S11 ph3_S11 ph1_S18 bb_x24 iw_x24 c28 ph1_S514 ph1_S524 ph1_S531 ph1_S538 ph1_S545 ph1_S552 q_x558 c559 r_x561 q_x561 r_x565 q_x565 r_x571 q_x571 r_x578 q_x578 r_x583 q_x583 ex584))
      refine ⟨i611, ?_⟩
      intro S612 eS612
      have hIn : IV S612 := by rw [eS612]; exact iv10_aI hI o_a4 (rg_nw hG ea4) ea610 o_a610 (by decide)
      have hG := rg_a (jj := 24) (x := x561) eS612 hI ea4 o_a4 ea610 o_a610 (by decide) (h1_one (c := 4) (lo := 1) (hi := 9) (hf := 99) (by decide) (by rw [← d_x561]; exact (qr233 r_kv5 r_kv6 r_kv7 hnf r_x9 q_x9 ph1_S11 ph3_S11 ph1_S18 bb_x24 iw_x24 c28 ph1_S514 ph1_S524 ph1_S531 ph1_S538 ph1_S545 ph1_S552 q_x558 c559 r_x561 q_x561 r_x565 q_x565 r_x571 q_x571 r_x578 q_x578 r_x583 q_x583 ex584))) (h2_no (y := 0) (by decide)) hG
      have el574 := el_ar eS612 (ow_ne hI o_a4 (by decide) o_a4 (by decide) ea610 ea569 (by decide)) el574
      have el581 := el_ar eS612 (ow_ne hI o_a4 (by decide) o_a4 (by decide) ea610 ea576 (by decide)) el581
      have hI := hIn
      have f0 := fr_A eS612 g0 f0 o_a610 (by decide)
      have d_kv6 := rd_Ik eS612 o_a610 o_a4 (by decide) d_kv6
      have d_x561 := rd_Ik eS612 o_a610 o_a4 (by decide) d_x561
      have d_x558 := rd_Ik eS612 o_a610 o_v0 (by decide) d_x558
      have d_kv556 := rd_Ik eS612 o_a610 o_v0 (by decide) d_kv556
      have d_kv557 := rd_Ik eS612 o_a610 o_v0 (by decide) d_kv557
      have d_x584 := rd_Ik eS612 o_a610 o_a4 (by decide) d_x584
      have ea4 := rf_I eS612 ea4
      have ea563 := rf_I eS612 ea563
      have ea569 := rf_I eS612 ea569
      have ea576 := rf_I eS612 ea576
      have ea587 := rf_I eS612 ea587
      have ea591 := rf_I eS612 ea591
      have ea595 := rf_I eS612 ea595
      have ea600 := rf_I eS612 ea600
      have ea605 := rf_I eS612 ea605
      have ea610 := rf_I eS612 ea610
      have l_a563 := ln_I eS612 l_a563
      have l_a569 := ln_I eS612 l_a569
      have l_a576 := ln_I eS612 l_a576
      have l_a587 := ln_I eS612 l_a587
      have l_a591 := ln_I eS612 l_a591
      have l_a595 := ln_I eS612 l_a595
      have l_a600 := ln_I eS612 l_a600
      have l_a605 := ln_I eS612 l_a605
      have l_a610 := ln_I eS612 l_a610
      have g0 := gr_I eS612 g0
      have o_a4 := ob_I eS612 o_a4
      have o_a563 := ob_I eS612 o_a563
      have o_a569 := ob_I eS612 o_a569
      have o_a576 := ob_I eS612 o_a576
      have o_a587 := ob_I eS612 o_a587
      have o_a591 := ob_I eS612 o_a591
      have o_a595 := ob_I eS612 o_a595
      have o_a600 := ob_I eS612 o_a600
      have o_a605 := ob_I eS612 o_a605
      have o_a610 := ob_I eS612 o_a610
      have o_v0 := ob_I eS612 o_v0
      have el613 : fI S612 a610 x561.toNatClampNeg = x544 := by rw [eS612]; exact u2_self _ _ _ _
      refine ⟨a4, ea4, ?_⟩
      refine ⟨o_a4, ?_⟩
      obtain ⟨a615, ea615, o_a615, l_a615⟩ := shl 47 rfl hI o_a4
      refine ⟨a615, ea615, ?_⟩
      refine ⟨o_a615, ?_⟩
      have i616 : vp_in x561 (hN _ a615) := (vin l_a615 (m := 4) (by decide) (qr232 r_kv5 r_kv6 r_kv7 hnf r_x9 q_x9 ph1_S11 ph3_S11 ph1_S18 bb_x24 iw_x24 c28 ph1_S514 ph1_S524 ph1_S531 ph1_S538 ph1_S545 ph1_S552 q_x558 c559 r_x561 q_x561 r_x565 q_x565 r_x571 q_x571 r_x578 q_x578 r_x583 q_x583 ex584))
      refine ⟨i616, ?_⟩
      intro S617 eS617
      have hIn : IV S617 := by rw [eS617]; exact iv10_aI hI o_a4 (rg_nw hG ea4) ea615 o_a615 (by decide)
      have hG := rg_a (jj := 25) (x := x561) eS617 hI ea4 o_a4 ea615 o_a615 (by decide) (h1_one (c := 4) (lo := 0) (hi := 9) (hf := 99) (by decide) (by rw [← d_x561]; exact (qr233 r_kv5 r_kv6 r_kv7 hnf r_x9 q_x9 ph1_S11 ph3_S11 ph1_S18 bb_x24 iw_x24 c28 ph1_S514 ph1_S524 ph1_S531 ph1_S538 ph1_S545 ph1_S552 q_x558 c559 r_x561 q_x561 r_x565 q_x565 r_x571 q_x571 r_x578 q_x578 r_x583 q_x583 ex584))) (h2_no (y := 0) (by decide)) hG
      have el574 := el_ar eS617 (ow_ne hI o_a4 (by decide) o_a4 (by decide) ea615 ea569 (by decide)) el574
      have el581 := el_ar eS617 (ow_ne hI o_a4 (by decide) o_a4 (by decide) ea615 ea576 (by decide)) el581
      have el613 := el_ar eS617 (ow_ne hI o_a4 (by decide) o_a4 (by decide) ea615 ea610 (by decide)) el613
      have hI := hIn
      have f0 := fr_A eS617 g0 f0 o_a615 (by decide)
      have d_kv6 := rd_Ik eS617 o_a615 o_a4 (by decide) d_kv6
      have d_x561 := rd_Ik eS617 o_a615 o_a4 (by decide) d_x561
      have d_x558 := rd_Ik eS617 o_a615 o_v0 (by decide) d_x558
      have d_kv556 := rd_Ik eS617 o_a615 o_v0 (by decide) d_kv556
      have d_kv557 := rd_Ik eS617 o_a615 o_v0 (by decide) d_kv557
      have d_x584 := rd_Ik eS617 o_a615 o_a4 (by decide) d_x584
      have ea4 := rf_I eS617 ea4
      have ea563 := rf_I eS617 ea563
      have ea569 := rf_I eS617 ea569
      have ea576 := rf_I eS617 ea576
      have ea587 := rf_I eS617 ea587
      have ea591 := rf_I eS617 ea591
      have ea595 := rf_I eS617 ea595
      have ea600 := rf_I eS617 ea600
      have ea605 := rf_I eS617 ea605
      have ea610 := rf_I eS617 ea610
      have ea615 := rf_I eS617 ea615
      have l_a563 := ln_I eS617 l_a563
      have l_a569 := ln_I eS617 l_a569
      have l_a576 := ln_I eS617 l_a576
      have l_a587 := ln_I eS617 l_a587
      have l_a591 := ln_I eS617 l_a591
      have l_a595 := ln_I eS617 l_a595
      have l_a600 := ln_I eS617 l_a600
      have l_a605 := ln_I eS617 l_a605
      have l_a610 := ln_I eS617 l_a610
      have l_a615 := ln_I eS617 l_a615
      have g0 := gr_I eS617 g0
      have o_a4 := ob_I eS617 o_a4
      have o_a563 := ob_I eS617 o_a563
      have o_a569 := ob_I eS617 o_a569
      have o_a576 := ob_I eS617 o_a576
      have o_a587 := ob_I eS617 o_a587
      have o_a591 := ob_I eS617 o_a591
      have o_a595 := ob_I eS617 o_a595
      have o_a600 := ob_I eS617 o_a600
      have o_a605 := ob_I eS617 o_a605
      have o_a610 := ob_I eS617 o_a610
      have o_a615 := ob_I eS617 o_a615
      have o_v0 := ob_I eS617 o_v0
      have el618 : fI S617 a615 x561.toNatClampNeg = x551 := by rw [eS617]; exact u2_self _ _ _ _
      refine ⟨a4, ea4, ?_⟩
      refine ⟨o_a4, ?_⟩
      intro x620 ex620
      have r_x620 : (0 : Int32) ≤ x620 ∧ x620 ≤ (4 : Int32) := by rw [ex620]; exact nu 20 rfl hI o_a4
      have q_x620 : x620 = x561 := ex620.trans d_x561.symm
      have d_x620 := ex620
      intro x621 ex621
      intro S622 eS622
      have hIn : IV S622 := by rw [eS622]; exact iv10_sI hI o_a4 (rg_nw hG ea4) (nu_one (lo := (0 : Int32)) (hi := (4 : Int32)) (by decide) (qr234 r_kv5 r_kv6 r_kv7 hnf r_x9 q_x9 ph1_S11 ph3_S11 ph1_S18 bb_x24 iw_x24 c28 ph1_S514 ph1_S524 ph1_S531 ph1_S538 ph1_S545 ph1_S552 q_x558 c559 r_x561 q_x561 r_x565 q_x565 r_x571 q_x571 r_x578 q_x578 r_x583 q_x583 ex584 r_x620 q_x620 ex621))
      have hG := rg_inc (c := 4) (y := x620) eS622 hI ea4 o_a4 d_x620.symm (qr235 r_kv5 r_kv6 r_kv7 hnf r_x9 q_x9 ph1_S11 ph3_S11 ph1_S18 bb_x24 iw_x24 c28 ph1_S514 ph1_S524 ph1_S531 ph1_S538 ph1_S545 ph1_S552 q_x558 c559 r_x561 q_x561 r_x565 q_x565 r_x571 q_x571 r_x578 q_x578 r_x583 q_x583 ex584 r_x620 q_x620 ex621) (qr236 r_kv5 r_kv6 r_kv7 hnf r_x9 q_x9 ph1_S11 ph3_S11 ph1_S18 bb_x24 iw_x24 c28 ph1_S514 ph1_S524 ph1_S531 ph1_S538 ph1_S545 ph1_S552 q_x558 c559 r_x561 q_x561 r_x565 q_x565 r_x571 q_x571 r_x578 q_x578 r_x583 q_x583 ex584 r_x620 q_x620 ex621) (hn_4 ea610 (by rw [show x620 = x561 from (qr241 r_kv5 r_kv6 r_kv7 hnf r_x9 q_x9 ph1_S11 ph3_S11 ph1_S18 bb_x24 iw_x24 c28 ph1_S514 ph1_S524 ph1_S531 ph1_S538 ph1_S545 ph1_S552 q_x558 c559 r_x561 q_x561 r_x565 q_x565 r_x571 q_x571 r_x578 q_x578 r_x583 q_x583 ex584 r_x620 q_x620 ex621), el613]; exact ⟨(qr242 r_kv5 r_kv6 r_kv7 hnf r_x9 q_x9 ph1_S11 ph3_S11 ph1_S18 bb_x24 iw_x24 c28 ph1_S514 ph1_S524 ph1_S531 ph1_S538 ph1_S545 p_x544 ph1_S552 p_x551 q_x558 c559 r_x561 q_x561 r_x565 q_x565 r_x571 q_x571 r_x578 q_x578 r_x583 q_x583 ex584 r_x620 q_x620 ex621), (qr243 r_kv5 r_kv6 r_kv7 hnf r_x9 q_x9 ph1_S11 ph3_S11 ph1_S18 bb_x24 iw_x24 c28 ph1_S514 ph1_S524 ph1_S531 ph1_S538 ph1_S545 p_x544 ph1_S552 p_x551 q_x558 c559 r_x561 q_x561 r_x565 q_x565 r_x571 q_x571 r_x578 q_x578 r_x583 q_x583 ex584 r_x620 q_x620 ex621), Or.inl rfl⟩) ea615 (by rw [show x620 = x561 from (qr241 r_kv5 r_kv6 r_kv7 hnf r_x9 q_x9 ph1_S11 ph3_S11 ph1_S18 bb_x24 iw_x24 c28 ph1_S514 ph1_S524 ph1_S531 ph1_S538 ph1_S545 ph1_S552 q_x558 c559 r_x561 q_x561 r_x565 q_x565 r_x571 q_x571 r_x578 q_x578 r_x583 q_x583 ex584 r_x620 q_x620 ex621), el618]; exact ⟨(qr244 r_kv5 r_kv6 r_kv7 hnf r_x9 q_x9 ph1_S11 ph3_S11 ph1_S18 bb_x24 iw_x24 c28 ph1_S514 ph1_S524 ph1_S531 ph1_S538 ph1_S545 p_x544 ph1_S552 p_x551 q_x558 c559 r_x561 q_x561 r_x565 q_x565 r_x571 q_x571 r_x578 q_x578 r_x583 q_x583 ex584 r_x620 q_x620 ex621), (qr245 r_kv5 r_kv6 r_kv7 hnf r_x9 q_x9 ph1_S11 ph3_S11 ph1_S18 bb_x24 iw_x24 c28 ph1_S514 ph1_S524 ph1_S531 ph1_S538 ph1_S545 p_x544 ph1_S552 p_x551 q_x558 c559 r_x561 q_x561 r_x565 q_x565 r_x571 q_x571 r_x578 q_x578 r_x583 q_x583 ex584 r_x620 q_x620 ex621), Or.inl rfl⟩)) (hs_4 eS622 d_x620.symm d_kv6.symm (qr235 r_kv5 r_kv6 r_kv7 hnf r_x9 q_x9 ph1_S11 ph3_S11 ph1_S18 bb_x24 iw_x24 c28 ph1_S514 ph1_S524 ph1_S531 ph1_S538 ph1_S545 ph1_S552 q_x558 c559 r_x561 q_x561 r_x565 q_x565 r_x571 q_x571 r_x578 q_x578 r_x583 q_x583 ex584 r_x620 q_x620 ex621) (qr236 r_kv5 r_kv6 r_kv7 hnf r_x9 q_x9 ph1_S11 ph3_S11 ph1_S18 bb_x24 iw_x24 c28 ph1_S514 ph1_S524 ph1_S531 ph1_S538 ph1_S545 ph1_S552 q_x558 c559 r_x561 q_x561 r_x565 q_x565 r_x571 q_x571 r_x578 q_x578 r_x583 q_x583 ex584 r_x620 q_x620 ex621) (qr237 r_kv5 r_kv6 r_kv7 hnf r_x9 q_x9 ph1_S11 ph3_S11 ph1_S18 bb_x24 iw_x24 c28 ph1_S514 ph1_S524 ph1_S531 ph1_S538 ph1_S545 ph1_S552 q_x558 c559 r_x561 q_x561 r_x565 q_x565 r_x571 q_x571 r_x578 q_x578 r_x583 q_x583 ex584 r_x620 q_x620 ex621) ea569 ea576 el574 (el581.trans (qr238 r_kv5 r_kv6 r_kv7 hnf r_x9 q_x9 ph1_S11 ph3_S11 ph1_S18 bb_x24 iw_x24 c28 ph1_S514 ph1_S524 ph1_S531 ph1_S538 ph1_S545 ph1_S552 q_x558 c559 r_x561 q_x561 r_x565 q_x565 r_x571 q_x571 r_x578 q_x578 r_x583 q_x583 ex584 r_x620 q_x620 ex621)) (qr239 r_kv5 r_kv6 r_kv7 hnf r_x9 q_x9 ph1_S11 ph3_S11 ph1_S18 bb_x24 iw_x24 c28 ph1_S514 ph1_S524 ph1_S531 ph1_S538 ph1_S545 ph1_S552 q_x558 c559 r_x561 q_x561 r_x565 q_x565 r_x571 q_x571 r_x578 q_x578 r_x583 q_x583 ex584 r_x620 q_x620 ex621) (qr240 r_kv5 r_kv6 r_kv7 hnf r_x9 q_x9 ph1_S11 ph3_S11 ph1_S18 bb_x24 iw_x24 c28 ph1_S514 ph1_S524 ph1_S531 ph1_S538 ph1_S545 ph1_S552 q_x558 c559 r_x561 q_x561 r_x565 q_x565 r_x571 q_x571 r_x578 q_x578 r_x583 q_x583 ex584 r_x620 q_x620 ex621)) hG
      have el574 := el_ob eS622 o_a4 o_a569 (by decide) el574
      have el581 := el_ob eS622 o_a4 o_a576 (by decide) el581
      have el613 := el_ob eS622 o_a4 o_a610 (by decide) el613
      have el618 := el_ob eS622 o_a4 o_a615 (by decide) el618
      have hI := hIn
      have f0 := fr_I eS622 g0 f0 o_a4 (by decide)
      have d_kv6 := rd_Ij eS622 (by decide) d_kv6
      have d_x558 := rd_Ik eS622 o_a4 o_v0 (by decide) d_x558
      have d_kv556 := rd_Ik eS622 o_a4 o_v0 (by decide) d_kv556
      have d_kv557 := rd_Ik eS622 o_a4 o_v0 (by decide) d_kv557
      have d_x584 := rd_Ij eS622 (by decide) d_x584
      have d_x621 := rd_Is eS622 (rfl : x621 = x621)
      have ea4 := rf_I eS622 ea4
      have ea563 := rf_I eS622 ea563
      have ea569 := rf_I eS622 ea569
      have ea576 := rf_I eS622 ea576
      have ea587 := rf_I eS622 ea587
      have ea591 := rf_I eS622 ea591
      have ea595 := rf_I eS622 ea595
      have ea600 := rf_I eS622 ea600
      have ea605 := rf_I eS622 ea605
      have ea610 := rf_I eS622 ea610
      have ea615 := rf_I eS622 ea615
      have l_a563 := ln_I eS622 l_a563
      have l_a569 := ln_I eS622 l_a569
      have l_a576 := ln_I eS622 l_a576
      have l_a587 := ln_I eS622 l_a587
      have l_a591 := ln_I eS622 l_a591
      have l_a595 := ln_I eS622 l_a595
      have l_a600 := ln_I eS622 l_a600
      have l_a605 := ln_I eS622 l_a605
      have l_a610 := ln_I eS622 l_a610
      have l_a615 := ln_I eS622 l_a615
      have g0 := gr_I eS622 g0
      have o_a4 := ob_I eS622 o_a4
      have o_a563 := ob_I eS622 o_a563
      have o_a569 := ob_I eS622 o_a569
      have o_a576 := ob_I eS622 o_a576
      have o_a587 := ob_I eS622 o_a587
      have o_a591 := ob_I eS622 o_a591
      have o_a595 := ob_I eS622 o_a595
      have o_a600 := ob_I eS622 o_a600
      have o_a605 := ob_I eS622 o_a605
      have o_a610 := ob_I eS622 o_a610
      have o_a615 := ob_I eS622 o_a615
      have o_v0 := ob_I eS622 o_v0
      have hn : RN S622 v0 := fun z ez => by obtain rfl : a4 = z := Option.some.inj (ea4.symm.trans ez); rw [← d_x584, ← d_kv6, ← d_x621]; exact (qr246 r_kv5 r_kv6 r_kv7 hnf r_x9 q_x9 ph1_S11 ph3_S11 ph1_S18 bb_x24 iw_x24 c28 ph1_S514 ph1_S524 ph1_S531 ph1_S538 ph1_S545 ph1_S552 q_x558 c559 r_x561 q_x561 r_x565 q_x565 r_x571 q_x571 r_x578 q_x578 r_x583 q_x583 ex584 r_x620 q_x620 ex621)
      exact hq _ hI g0 f0 ⟨hG, hn, (by have t : x558 = 5 → 0 < kv556 := (qr247 hO r_kv5 r_kv6 r_kv7 hnf r_x9 q_x9 ph0_S11 ph1_S11 ph3_S11 ph0_S18 ph1_S18 bb_x24 iw_x24 c28 ph0_S514 ph1_S514 ph0_S524 ph1_S524 ph0_S531 ph1_S531 ph0_S538 ph1_S538 ph0_S545 ph1_S545 ph0_S552 ph1_S552 q_x558 c559 r_x561 q_x561 r_x565 q_x565 r_x571 q_x571 r_x578 q_x578 r_x583 q_x583 ex584 r_x620 q_x620 ex621); rw [d_x558, d_kv556] at t; exact t), (by have t : x558 = 5 ∨ ¬ kv2 = 5 := (qr248 r_kv5 r_kv6 r_kv7 hnf r_x9 q_x9 ph1_S11 ph3_S11 ph1_S18 bb_x24 iw_x24 c28 ph1_S514 ph1_S524 ph1_S531 ph1_S538 ph1_S545 ph1_S552 q_x558 c559 r_x561 q_x561 r_x565 q_x565 r_x571 q_x571 r_x578 q_x578 r_x583 q_x583 ex584 r_x620 q_x620 ex621); rw [di_9, d_x558] at t; exact t), (by have t : kv1 ≤ kv557 ∧ (x558 = 4 → kv1 < kv557 ∨ kv2 = 4) := (qr249 r_kv1 r_kv5 r_kv6 r_kv7 hnf r_x9 q_x9 ph1_S11 r_kv16 ph2_S11 ph3_S11 ph1_S18 r_kv23 ph2_S18 bb_x24 iw_x24 c28 ph1_S514 r_kv518 ph2_S514 ph1_S524 r_kv529 ph2_S524 ph1_S531 r_kv536 ph2_S531 ph1_S538 r_kv543 ph2_S538 ph1_S545 r_kv550 ph2_S545 ph1_S552 r_kv557 ph2_S552 q_x558 c559 r_x561 q_x561 r_x565 q_x565 r_x571 q_x571 r_x578 q_x578 r_x583 q_x583 ex584 r_x620 q_x620 ex621); rw [di_8, di_9, d_kv557, d_x558] at t; exact t)⟩
    · exact hq _ hI g0 f0 ⟨hG, hn, (by have t : x558 = 5 → 0 < kv556 := (qr250 hO r_kv5 r_kv6 r_kv7 hnf r_x9 q_x9 ph0_S11 ph1_S11 ph3_S11 ph0_S18 ph1_S18 bb_x24 iw_x24 c28 ph0_S514 ph1_S514 ph0_S524 ph1_S524 ph0_S531 ph1_S531 ph0_S538 ph1_S538 ph0_S545 ph1_S545 ph0_S552 ph1_S552 q_x558 c559); rw [d_x558, d_kv556] at t; exact t), (by have t : x558 = 5 ∨ ¬ kv2 = 5 := (qr251 r_kv5 r_kv6 r_kv7 hnf r_x9 q_x9 ph1_S11 ph3_S11 ph1_S18 bb_x24 iw_x24 c28 ph1_S514 ph1_S524 ph1_S531 ph1_S538 ph1_S545 ph1_S552 q_x558 c559); rw [di_9, d_x558] at t; exact t), (by have t : kv1 ≤ kv557 ∧ (x558 = 4 → kv1 < kv557 ∨ kv2 = 4) := (qr252 r_kv1 r_kv5 r_kv6 r_kv7 hnf r_x9 q_x9 ph1_S11 r_kv16 ph2_S11 ph3_S11 ph1_S18 r_kv23 ph2_S18 bb_x24 iw_x24 c28 ph1_S514 r_kv518 ph2_S514 ph1_S524 r_kv529 ph2_S524 ph1_S531 r_kv536 ph2_S531 ph1_S538 r_kv543 ph2_S538 ph1_S545 r_kv550 ph2_S545 ph1_S552 r_kv557 ph2_S552 q_x558 c559); rw [di_8, di_9, d_kv557, d_x558] at t; exact t)⟩
