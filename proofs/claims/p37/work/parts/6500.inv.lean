set_option maxHeartbeats 4000000 in
set_option maxRecDepth 20000 in
theorem m2_X9_putBytes {v0 : Nat} {v1 : Int32} {Q : HS → Prop} {S : HS} (hI : IV S) (o_v0 : ob S v0 9)     (hq : ∀ (T : HS), IV T → Gr S T → FRI [(9, 1)] [] S T → (fI S v0 1 ≤ 896 → fI T v0 1 = fI S v0 1 + 4) → Q T) : P_X9_putBytes v0 v1 Q S := by
  have g0 := gr_rf S
  have f0 := fri_rf [(9, 1)] [] S
  obtain ⟨kv1, d_kv1⟩ : ∃ z : Int32, z = fI S v0 1 := ⟨_, rfl⟩
  have r_kv1 : (0 : Int32) ≤ kv1 ∧ kv1 ≤ (900 : Int32) := by rw [d_kv1]; exact nu 0 rfl hI o_v0
  obtain ⟨iv2, hiv2⟩ : ∃ z : Int32, z = kv1 := ⟨_, rfl⟩
  have di_1 := hiv2.trans d_kv1
  refine u_X9_putBytes ?_
  refine u_X9_putBytes_0 ?_
  refine i_X9_putBytes_3 (fun (y0 : Nat) (y1 : Int32) (y2 : Int32) (Z : HS) => (y2.toInt - (-9 : Int32).toInt).toNat) (fun (y0 : Nat) (y1 : Int32) (y2 : Int32) (Z : HS) => (IV Z) ∧ (Gr S Z) ∧ (FRI [(9, 1)] [] S Z) ∧ (v0 = y0) ∧ (v1 = y1) ∧ (y2 ≤ 24 ∧ -8 ≤ y2) ∧ (iv2 ≤ 896 → (y2 = 24 ∧ fI Z v0 1 = iv2) ∨ (y2 = 16 ∧ fI Z v0 1 = iv2 + 1) ∨ (y2 = 8 ∧ fI Z v0 1 = iv2 + 2) ∨ (y2 = 0 ∧ fI Z v0 1 = iv2 + 3) ∨ (y2 = -8 ∧ fI Z v0 1 = iv2 + 4))) ?_ _ _ _ _ ⟨hI, (gr_rf _), (fri_rf _ _ _), rfl, rfl, (qy11), (by rw [← d_kv1]; exact (qy12 r_kv1 hiv2))⟩
  intro w7 w9 w11 S4 X12 ⟨hI, gL5, fL6, q8, q10, i1u3, k1u3⟩ ih13
  subst q8
  subst q10
  have f0 := fri_tr (S := S) g0 f0 fL6 (by decide) (by decide)
  have o_v0 := gr_ob gL5 o_v0
  have g0 := gr_tr (T := S) g0 gL5
  obtain ⟨kv14, d_kv14⟩ : ∃ z : Int32, z = fI S4 v0 1 := ⟨_, rfl⟩
  have r_kv14 : (0 : Int32) ≤ kv14 ∧ kv14 ≤ (900 : Int32) := by rw [d_kv14]; exact nu 0 rfl hI o_v0
  have p_k1u3 : iv2 ≤ 896 → (w11 = 24 ∧ kv14 = iv2) ∨ (w11 = 16 ∧ kv14 = iv2 + 1) ∨ (w11 = 8 ∧ kv14 = iv2 + 2) ∨ (w11 = 0 ∧ kv14 = iv2 + 3) ∨ (w11 = -8 ∧ kv14 = iv2 + 4) := by rw [d_kv14]; exact k1u3
  refine u_X9_putBytes_3 ?_
  refine ⟨fun c15 => ?_, fun c15 => ?_⟩
  · exact hq _ hI g0 f0 (by have t : iv2 ≤ 896 → kv14 = iv2 + 4 := (qy13 r_kv1 hiv2 i1u3 r_kv14 p_k1u3 c15); rw [di_1, d_kv14] at t; exact t)
  · refine ⟨o_v0, ?_⟩
    intro x16 ex16
    have r_x16 : (0 : Int32) ≤ x16 ∧ x16 ≤ (900 : Int32) := by rw [ex16]; exact nu 0 rfl hI o_v0
    have q_x16 : x16 = kv14 := ex16.trans d_kv14.symm
    have d_x16 := ex16
    refine ⟨fun c17 => ?_, fun c17 => ?_⟩
    · refine u_X9_putBytes_49 ?_
      intro x18 ex18
      exact ih13 _ _ _ _ ⟨hI, gL5, fL6, rfl, rfl, (qy14 r_kv1 hiv2 i1u3 r_kv14 p_k1u3 c15 r_x16 q_x16 c17 ex18), (by rw [← d_x16]; exact (qy15 r_kv1 hiv2 i1u3 r_kv14 p_k1u3 c15 r_x16 q_x16 c17 ex18))⟩ (mu_down (qy16 r_kv1 hiv2 i1u3 r_kv14 p_k1u3 c15 r_x16 q_x16 c17 ex18) (qy17 r_kv1 hiv2 i1u3 r_kv14 p_k1u3 c15 r_x16 q_x16 c17 ex18))
    · intro x19 ex19
      have r_x19 : (0 : Int32) ≤ x19 ∧ x19 ≤ (900 : Int32) := by rw [ex19]; exact nu 0 rfl hI o_v0
      have q_x19 : x19 = x16 := ex19.trans d_x16.symm
      have d_x19 := ex19
      obtain ⟨a20, ea20, o_a20, l_a20⟩ := shl 0 rfl hI o_v0
      refine ⟨a20, ea20, ?_⟩
      refine ⟨o_a20, ?_⟩
      have n_a20 : nI (hN S4 a20) = 900 := by rw [show hN S4 a20 = 900 from l_a20]; decide
      refine ⟨fun c21 => ?_, fun c21 => ?_⟩
      · rw [n_a20] at c21
        refine u_X9_putBytes_49 ?_
        intro x22 ex22
        exact ih13 _ _ _ _ ⟨hI, gL5, fL6, rfl, rfl, (qy18 r_kv1 hiv2 i1u3 r_kv14 p_k1u3 c15 r_x16 q_x16 c17 r_x19 q_x19 c21 ex22), (by rw [← d_x19]; exact (qy19 r_kv1 hiv2 i1u3 r_kv14 p_k1u3 c15 r_x16 q_x16 c17 r_x19 q_x19 c21 ex22))⟩ (mu_down (qy20 r_kv1 hiv2 i1u3 r_kv14 p_k1u3 c15 r_x16 q_x16 c17 r_x19 q_x19 c21 ex22) (qy21 r_kv1 hiv2 i1u3 r_kv14 p_k1u3 c15 r_x16 q_x16 c17 r_x19 q_x19 c21 ex22))
      · rw [n_a20] at c21
        refine ⟨a20, ea20, ?_⟩
        intro x24 ex24
        have r_x24 : (0 : Int32) ≤ x24 ∧ x24 ≤ (900 : Int32) := by rw [ex24]; exact nu 0 rfl hI o_v0
        have q_x24 : x24 = x19 := ex24.trans d_x19.symm
        have d_x24 := ex24
        refine ⟨o_a20, ?_⟩
        intro x25 ex25
        have i26 : vp_in x24 (hN _ a20) := (vin l_a20 (m := 900) (by decide) (qy22 r_kv1 hiv2 i1u3 r_kv14 p_k1u3 c15 r_x16 q_x16 c17 r_x19 q_x19 c21 r_x24 q_x24 ex25))
        refine ⟨i26, ?_⟩
        intro S27 eS27
        have hIn : IV S27 := by rw [eS27]; exact iv_aI hI o_v0 (by decide) ea20 o_a20 (by decide)
        have hI := hIn
        have f0 := fr_A eS27 g0 f0 o_a20 (by decide)
        have fL6 := fr_A eS27 gL5 fL6 o_a20 (by decide)
        have d_x24 := rd_Ik eS27 o_a20 o_v0 (by decide) d_x24
        have ea20 := rf_I eS27 ea20
        have l_a20 := ln_I eS27 l_a20
        have g0 := gr_I eS27 g0
        have gL5 := gr_I eS27 gL5
        have o_a20 := ob_I eS27 o_a20
        have o_v0 := ob_I eS27 o_v0
        intro x28 ex28
        have r_x28 : (0 : Int32) ≤ x28 ∧ x28 ≤ (900 : Int32) := by rw [ex28]; exact nu 0 rfl hI o_v0
        have q_x28 : x28 = x24 := ex28.trans d_x24.symm
        have d_x28 := ex28
        intro x29 ex29
        intro S30 eS30
        have hIn : IV S30 := by rw [eS30]; exact iv_sI hI o_v0 (by decide) (nu_one (lo := (0 : Int32)) (hi := (900 : Int32)) (by decide) (qy23 r_kv1 hiv2 i1u3 r_kv14 p_k1u3 c15 r_x16 q_x16 c17 r_x19 q_x19 c21 r_x24 q_x24 ex25 r_x28 q_x28 ex29))
        have hI := hIn
        have f0 := fr_I eS30 g0 f0 o_v0 (by decide)
        have fL6 := fr_I eS30 gL5 fL6 o_v0 (by decide)
        have d_x29 := rd_Is eS30 (rfl : x29 = x29)
        have ea20 := rf_I eS30 ea20
        have l_a20 := ln_I eS30 l_a20
        have g0 := gr_I eS30 g0
        have gL5 := gr_I eS30 gL5
        have o_a20 := ob_I eS30 o_a20
        have o_v0 := ob_I eS30 o_v0
        refine u_X9_putBytes_49 ?_
        intro x31 ex31
        exact ih13 _ _ _ _ ⟨hI, gL5, fL6, rfl, rfl, (qy24 r_kv1 hiv2 i1u3 r_kv14 p_k1u3 c15 r_x16 q_x16 c17 r_x19 q_x19 c21 r_x24 q_x24 ex25 r_x28 q_x28 ex29 ex31), (by rw [← d_x29]; exact (qy25 r_kv1 hiv2 i1u3 r_kv14 p_k1u3 c15 r_x16 q_x16 c17 r_x19 q_x19 c21 r_x24 q_x24 ex25 r_x28 q_x28 ex29 ex31))⟩ (mu_down (qy26 r_kv1 hiv2 i1u3 r_kv14 p_k1u3 c15 r_x16 q_x16 c17 r_x19 q_x19 c21 r_x24 q_x24 ex25 r_x28 q_x28 ex29 ex31) (qy27 r_kv1 hiv2 i1u3 r_kv14 p_k1u3 c15 r_x16 q_x16 c17 r_x19 q_x19 c21 r_x24 q_x24 ex25 r_x28 q_x28 ex29 ex31))
set_option maxHeartbeats 4000000 in
set_option maxRecDepth 20000 in
theorem m2_X9_feed {v0 : Nat} {v1 : Int32} {v2 : Int32} {v3 : Int32} {v4 : Int32} {v5 : Int32} {Q : Int32 → HS → Prop} {S : HS} (hI : IV S) (o_v0 : ob S v0 9)     (hq : ∀ (r : Int32) (T : HS), IV T → Gr S T → FRI [(9, 1)] [] S T → ((900 < fI S v0 1 + 20 → r = -1 ∧ fI T v0 1 = fI S v0 1) ∧ (fI S v0 1 + 20 ≤ 900 → r = fI T v0 1 ∧ fI T v0 1 = fI S v0 1 + 20)) → Q r T) : P_X9_feed v0 v1 v2 v3 v4 v5 Q S := by
  have g0 := gr_rf S
  have f0 := fri_rf [(9, 1)] [] S
  obtain ⟨kv1, d_kv1⟩ : ∃ z : Int32, z = fI S v0 1 := ⟨_, rfl⟩
  have r_kv1 : (0 : Int32) ≤ kv1 ∧ kv1 ≤ (900 : Int32) := by rw [d_kv1]; exact nu 0 rfl hI o_v0
  obtain ⟨iv2, hiv2⟩ : ∃ z : Int32, z = kv1 := ⟨_, rfl⟩
  have di_1 := hiv2.trans d_kv1
  refine u_X9_feed ?_
  refine u_X9_feed_0 ?_
  refine ⟨o_v0, ?_⟩
  intro x3 ex3
  have r_x3 : (0 : Int32) ≤ x3 ∧ x3 ≤ (900 : Int32) := by rw [ex3]; exact nu 0 rfl hI o_v0
  have q_x3 : x3 = kv1 := ex3.trans d_kv1.symm
  have d_x3 := ex3
  refine ⟨fun c4 => ?_, fun c4 => ?_⟩
  · have do4_x3 := d_x3
    refine m2_X9_putBytes hI o_v0 (fun S6 hJ g7 fc8 p_S6 => ?_)
    have pg0_S6 := p_S6
    have hI := hJ
    have f0 := fri_tr (S := S) g0 f0 fc8 (by decide) (by decide)
    have o_v0 := gr_ob g7 o_v0
    have g0 := gr_tr (T := S) g0 g7
    obtain ⟨kv9, d_kv9⟩ : ∃ z : Int32, z = fI S6 v0 1 := ⟨_, rfl⟩
    have r_kv9 : (0 : Int32) ≤ kv9 ∧ kv9 ≤ (900 : Int32) := by rw [d_kv9]; exact nu 0 rfl hI o_v0
    have ph0_S6 : x3 ≤ 896 → kv9 = x3 + 4 := by rw [do4_x3, d_kv9]; exact pg0_S6
    intro _
    have do9_kv9 := d_kv9
    refine m2_X9_putBytes hI o_v0 (fun S11 hJ g12 fc13 p_S11 => ?_)
    have pg0_S11 := p_S11
    have hI := hJ
    have f0 := fri_tr (S := S6) g0 f0 fc13 (by decide) (by decide)
    have o_v0 := gr_ob g12 o_v0
    have g0 := gr_tr (T := S6) g0 g12
    obtain ⟨kv14, d_kv14⟩ : ∃ z : Int32, z = fI S11 v0 1 := ⟨_, rfl⟩
    have r_kv14 : (0 : Int32) ≤ kv14 ∧ kv14 ≤ (900 : Int32) := by rw [d_kv14]; exact nu 0 rfl hI o_v0
    have ph0_S11 : kv9 ≤ 896 → kv14 = kv9 + 4 := by rw [do9_kv9, d_kv14]; exact pg0_S11
    intro _
    have do14_kv14 := d_kv14
    refine m2_X9_putBytes hI o_v0 (fun S16 hJ g17 fc18 p_S16 => ?_)
    have pg0_S16 := p_S16
    have hI := hJ
    have f0 := fri_tr (S := S11) g0 f0 fc18 (by decide) (by decide)
    have o_v0 := gr_ob g17 o_v0
    have g0 := gr_tr (T := S11) g0 g17
    obtain ⟨kv19, d_kv19⟩ : ∃ z : Int32, z = fI S16 v0 1 := ⟨_, rfl⟩
    have r_kv19 : (0 : Int32) ≤ kv19 ∧ kv19 ≤ (900 : Int32) := by rw [d_kv19]; exact nu 0 rfl hI o_v0
    have ph0_S16 : kv14 ≤ 896 → kv19 = kv14 + 4 := by rw [do14_kv14, d_kv19]; exact pg0_S16
    intro _
    have do19_kv19 := d_kv19
    refine m2_X9_putBytes hI o_v0 (fun S21 hJ g22 fc23 p_S21 => ?_)
    have pg0_S21 := p_S21
    have hI := hJ
    have f0 := fri_tr (S := S16) g0 f0 fc23 (by decide) (by decide)
    have o_v0 := gr_ob g22 o_v0
    have g0 := gr_tr (T := S16) g0 g22
    obtain ⟨kv24, d_kv24⟩ : ∃ z : Int32, z = fI S21 v0 1 := ⟨_, rfl⟩
    have r_kv24 : (0 : Int32) ≤ kv24 ∧ kv24 ≤ (900 : Int32) := by rw [d_kv24]; exact nu 0 rfl hI o_v0
    have ph0_S21 : kv19 ≤ 896 → kv24 = kv19 + 4 := by rw [do19_kv19, d_kv24]; exact pg0_S21
    intro _
    have do24_kv24 := d_kv24
    refine m2_X9_putBytes hI o_v0 (fun S26 hJ g27 fc28 p_S26 => ?_)
    have pg0_S26 := p_S26
    have hI := hJ
    have f0 := fri_tr (S := S21) g0 f0 fc28 (by decide) (by decide)
    have o_v0 := gr_ob g27 o_v0
    have g0 := gr_tr (T := S21) g0 g27
    obtain ⟨kv29, d_kv29⟩ : ∃ z : Int32, z = fI S26 v0 1 := ⟨_, rfl⟩
    have r_kv29 : (0 : Int32) ≤ kv29 ∧ kv29 ≤ (900 : Int32) := by rw [d_kv29]; exact nu 0 rfl hI o_v0
    have ph0_S26 : kv24 ≤ 896 → kv29 = kv24 + 4 := by rw [do24_kv24, d_kv29]; exact pg0_S26
    intro _
    intro x30 ex30
    have r_x30 : (0 : Int32) ≤ x30 ∧ x30 ≤ (900 : Int32) := by rw [ex30]; exact nu 0 rfl hI o_v0
    have q_x30 : x30 = kv29 := ex30.trans d_kv29.symm
    have d_x30 := ex30
    obtain ⟨ra31, hra31⟩ : ∃ z : Int32, z = x30 := ⟨_, rfl⟩
    exact hq _ _ hI g0 f0 (by have t : (900 < iv2 + 20 → ra31 = -1 ∧ x30 = iv2) ∧ (iv2 + 20 ≤ 900 → ra31 = x30 ∧ x30 = iv2 + 20) := (qy9 r_kv1 hiv2 r_x3 q_x3 c4 r_kv9 ph0_S6 r_kv14 ph0_S11 r_kv19 ph0_S16 r_kv24 ph0_S21 r_kv29 ph0_S26 r_x30 q_x30 hra31); rw [di_1, d_x30, hra31] at t; exact t)
  · exact hq _ _ hI g0 f0 (by have t : (900 < iv2 + 20 → (-1 : Int32) = -1 ∧ x3 = iv2) ∧ (iv2 + 20 ≤ 900 → (-1 : Int32) = x3 ∧ x3 = iv2 + 20) := (qy10 r_kv1 hiv2 r_x3 q_x3 c4); rw [di_1, d_x3] at t; exact t)
set_option maxHeartbeats 4000000 in
set_option maxRecDepth 20000 in
theorem m2_X9_world {v0 : Nat} {v1 : Int32} {Q : Int32 → HS → Prop} {S : HS} (hI : IV S) (o_v0 : ob S v0 9)     (hq : ∀ (r : Int32) (T : HS), IV T → Gr S T → FRI [(0, 0), (0, 2), (0, 3), (3, 0), (3, 1), (3, 2), (3, 3), (3, 4), (4, 0), (4, 1), (4, 3), (4, 4), (4, 6), (4, 7), (4, 9), (4, 10), (5, 0), (5, 1), (5, 2), (5, 3), (5, 4), (6, 0), (6, 1), (6, 2), (6, 3), (6, 4), (6, 5), (6, 6), (7, 10), (8, 0), (8, 1), (8, 2), (8, 3), (8, 4), (8, 5), (9, 1), (9, 7), (9, 8), (9, 9)] [(4, 2), (4, 5), (9, 2)] S T → ((v1 < 0 ∨ fI S v0 1 < v1 → fI T v0 1 = fI S v0 1) ∧ (0 ≤ v1 ∧ v1 ≤ fI S v0 1 → fI T v0 1 = 0)) → Q r T) : P_X9_world v0 v1 Q S := by
  have g0 := gr_rf S
  have f0 := fri_rf [(0, 0), (0, 2), (0, 3), (3, 0), (3, 1), (3, 2), (3, 3), (3, 4), (4, 0), (4, 1), (4, 3), (4, 4), (4, 6), (4, 7), (4, 9), (4, 10), (5, 0), (5, 1), (5, 2), (5, 3), (5, 4), (6, 0), (6, 1), (6, 2), (6, 3), (6, 4), (6, 5), (6, 6), (7, 10), (8, 0), (8, 1), (8, 2), (8, 3), (8, 4), (8, 5), (9, 1), (9, 7), (9, 8), (9, 9)] [(4, 2), (4, 5), (9, 2)] S
  obtain ⟨kv1, d_kv1⟩ : ∃ z : Int32, z = fI S v0 1 := ⟨_, rfl⟩
  have r_kv1 : (0 : Int32) ≤ kv1 ∧ kv1 ≤ (900 : Int32) := by rw [d_kv1]; exact nu 0 rfl hI o_v0
  obtain ⟨iv2, hiv2⟩ : ∃ z : Int32, z = kv1 := ⟨_, rfl⟩
  have di_1 := hiv2.trans d_kv1
  refine u_X9_world ?_
  refine u_X9_world_0 ?_
  refine ⟨fun c3 => ?_, fun c3 => ?_⟩
  · refine u_X9_world_12 ?_
    refine ⟨o_v0, ?_⟩
    refine u_X9_refuse ?_
    refine u_X9_refuse_0 ?_
    refine ⟨o_v0, ?_⟩
    intro S4 eS4
    have hIn : IV S4 := by rw [eS4]; exact iv_sI hI o_v0 (by decide) (nu_free (by decide))
    have hI := hIn
    have f0 := fr_I eS4 g0 f0 o_v0 (by decide)
    have d_kv1 := rd_Ij eS4 (by decide) d_kv1
    obtain ⟨kv5, hkv5⟩ : ∃ z : Int32, z = (2 : Int32) := ⟨_, rfl⟩
    have d_kv5 := rd_Is eS4 hkv5
    have g0 := gr_I eS4 g0
    have o_v0 := ob_I eS4 o_v0
    intro _
    exact hq _ _ hI g0 f0 (by have t : (v1 < 0 ∨ iv2 < v1 → kv1 = iv2) ∧ (0 ≤ v1 ∧ v1 ≤ iv2 → kv1 = 0) := (qy0 r_kv1 hiv2 c3); rw [di_1, d_kv1] at t; exact t)
  · refine ⟨o_v0, ?_⟩
    intro x7 ex7
    have r_x7 : (0 : Int32) ≤ x7 ∧ x7 ≤ (900 : Int32) := by rw [ex7]; exact nu 0 rfl hI o_v0
    have q_x7 : x7 = kv1 := ex7.trans d_kv1.symm
    have d_x7 := ex7
    refine ⟨fun c8 => ?_, fun c8 => ?_⟩
    · obtain ⟨a9, ea9, o_a9, -⟩ := sh 2 rfl hI o_v0
      refine ⟨a9, ea9, ?_⟩
      obtain ⟨a10, ea10, o_a10, l_a10⟩ := shl 0 rfl hI o_v0
      refine ⟨a10, ea10, ?_⟩
      refine ⟨o_a9, ?_⟩
      refine m_X4_read hI o_a9 o_a10 l_a10 (qy1 r_kv1 hiv2 c3 r_x7 q_x7 c8) (fun x11 S12 hJ g13 fc14 b_x11 => ?_)
      have hI := hJ
      have l_a10 := (gr_len g13 o_a10).trans l_a10
      have d_x7 := d_x7.trans (fri_at fc14 (by decide) (by decide) o_v0).symm
      have ea9 := (frr_at fc14 (by decide) (by decide) o_v0).trans ea9
      have ea10 := (frr_at fc14 (by decide) (by decide) o_v0).trans ea10
      have f0 := fri_tr (S := S) g0 f0 fc14 (by decide) (by decide)
      have o_a10 := gr_ob g13 o_a10
      have o_a9 := gr_ob g13 o_a9
      have o_v0 := gr_ob g13 o_v0
      have g0 := gr_tr (T := S) g0 g13
      intro _ _
      have bb_x11 : x11 = 0 ∨ x11 = 1 := b_x11
      intro S15 eS15
      have hIn : IV S15 := by rw [eS15]; exact iv_sI hI o_v0 (by decide) (nu_one (lo := (0 : Int32)) (hi := (900 : Int32)) (by decide) (qy2 r_kv1 hiv2 c3 r_x7 q_x7 c8))
      have hI := hIn
      have f0 := fr_I eS15 g0 f0 o_v0 (by decide)
      obtain ⟨kv16, hkv16⟩ : ∃ z : Int32, z = (0 : Int32) := ⟨_, rfl⟩
      have d_kv16 := rd_Is eS15 hkv16
      have ea9 := rf_I eS15 ea9
      have ea10 := rf_I eS15 ea10
      have l_a10 := ln_I eS15 l_a10
      have g0 := gr_I eS15 g0
      have o_a10 := ob_I eS15 o_a10
      have o_a9 := ob_I eS15 o_a9
      have o_v0 := ob_I eS15 o_v0
      refine ⟨a9, ea9, ?_⟩
      refine ⟨o_a9, ?_⟩
      intro x18 ex18
      have d_x18 := ex18
      intro S19 eS19
      have hIn : IV S19 := by rw [eS19]; exact iv_sI hI o_v0 (by decide) (nu_free (by decide))
      have hI := hIn
      have f0 := fr_I eS19 g0 f0 o_v0 (by decide)
      have d_kv16 := rd_Ij eS19 (by decide) d_kv16
      have d_x18 := rd_Ik eS19 o_v0 o_a9 (by decide) d_x18
      obtain ⟨kv20, hkv20⟩ : ∃ z : Int32, z = x18 := ⟨_, rfl⟩
      have d_kv20 := rd_Is eS19 hkv20
      have ea9 := rf_I eS19 ea9
      have ea10 := rf_I eS19 ea10
      have l_a10 := ln_I eS19 l_a10
      have g0 := gr_I eS19 g0
      have o_a10 := ob_I eS19 o_a10
      have o_a9 := ob_I eS19 o_a9
      have o_v0 := ob_I eS19 o_v0
      refine ⟨a9, ea9, ?_⟩
      refine ⟨o_a9, ?_⟩
      intro x22 ex22
      have d_x22 := ex22
      intro S23 eS23
      have hIn : IV S23 := by rw [eS23]; exact iv_sI hI o_v0 (by decide) (nu_free (by decide))
      have hI := hIn
      have f0 := fr_I eS23 g0 f0 o_v0 (by decide)
      have d_kv16 := rd_Ij eS23 (by decide) d_kv16
      have d_x18 := rd_Ik eS23 o_v0 o_a9 (by decide) d_x18
      have d_kv20 := rd_Ij eS23 (by decide) d_kv20
      have d_x22 := rd_Ik eS23 o_v0 o_a9 (by decide) d_x22
      obtain ⟨kv24, hkv24⟩ : ∃ z : Int32, z = x22 := ⟨_, rfl⟩
      have d_kv24 := rd_Is eS23 hkv24
      have ea9 := rf_I eS23 ea9
      have ea10 := rf_I eS23 ea10
      have l_a10 := ln_I eS23 l_a10
      have g0 := gr_I eS23 g0
      have o_a10 := ob_I eS23 o_a10
      have o_a9 := ob_I eS23 o_a9
      have o_v0 := ob_I eS23 o_v0
      refine ⟨fun c25 => ?_, fun c25 => ?_⟩
      · refine ⟨a9, ea9, ?_⟩
        obtain ⟨a27, ea27, o_a27, -⟩ := sh 1 rfl hI o_v0
        refine ⟨a27, ea27, ?_⟩
        refine ⟨o_a9, ?_⟩
        refine u_X4_exchange ?_
        refine u_X4_exchange_0 ?_
        refine ⟨o_a9, ?_⟩
        obtain ⟨a28, ea28, o_a28, -⟩ := sh 12 rfl hI o_a9
        refine ⟨a28, ea28, ?_⟩
        intro S29 eS29
        have hIn : IV S29 := by rw [eS29]; exact iv_sR (j := 5) (v := a27) hI o_a9 (by decide) (by decide) (npr hI.1 o_a27 (by decide)) o_a27.1 (sh_one (by decide) ⟨o_a27, Or.inl rfl⟩)
        have hI := hIn
        have f0 := fr_R eS29 g0 f0 o_a9 (by decide)
        have d_kv16 := rd_R eS29 d_kv16
        have d_x18 := rd_R eS29 d_x18
        have d_kv20 := rd_R eS29 d_kv20
        have d_x22 := rd_R eS29 d_x22
        have d_kv24 := rd_R eS29 d_kv24
        have ea9 := rf_Rk eS29 o_a9 o_v0 (by decide) ea9
        have ea10 := rf_Rk eS29 o_a9 o_v0 (by decide) ea10
        have ea27 := rf_Rk eS29 o_a9 o_v0 (by decide) ea27
        have l_a10 := ln_R eS29 l_a10
        have g0 := gr_R eS29 g0
        have o_a10 := ob_R eS29 o_a10
        have o_a27 := ob_R eS29 o_a27
        have o_a28 := ob_R eS29 o_a28
        have o_a9 := ob_R eS29 o_a9
        have o_v0 := ob_R eS29 o_v0
        intro _
        intro S30 eS30
        have hIn : IV S30 := by rw [eS30]; exact iv_sR (j := 2) (v := a28) hI o_v0 (by decide) (by decide) (npr hI.1 o_a28 (by decide)) o_a28.1 (sh_one (by decide) ⟨o_a28, Or.inl rfl⟩)
        have hI := hIn
        have f0 := fr_R eS30 g0 f0 o_v0 (by decide)
        have d_kv16 := rd_R eS30 d_kv16
        have d_x18 := rd_R eS30 d_x18
        have d_kv20 := rd_R eS30 d_kv20
        have d_x22 := rd_R eS30 d_x22
        have d_kv24 := rd_R eS30 d_kv24
        have ea9 := rf_Rj eS30 (by decide) ea9
        have ea10 := rf_Rj eS30 (by decide) ea10
        have l_a10 := ln_R eS30 l_a10
        have g0 := gr_R eS30 g0
        have o_a10 := ob_R eS30 o_a10
        have o_a27 := ob_R eS30 o_a27
        have o_a28 := ob_R eS30 o_a28
        have o_a9 := ob_R eS30 o_a9
        have o_v0 := ob_R eS30 o_v0
        obtain ⟨a31, ea31, o_a31, -⟩ := sh 4 rfl hI o_v0
        refine ⟨a31, ea31, ?_⟩
        refine ⟨o_a31, ?_⟩
        refine u_X7_forget ?_
        refine u_X7_forget_0 ?_
        refine ⟨o_a31, ?_⟩
        intro S32 eS32
        have hIn : IV S32 := by rw [eS32]; exact iv_sI hI o_a31 (by decide) (nu_free (by decide))
        have hI := hIn
        have f0 := fr_I eS32 g0 f0 o_a31 (by decide)
        have d_kv16 := rd_Ik eS32 o_a31 o_v0 (by decide) d_kv16
        have d_x18 := rd_Ik eS32 o_a31 o_a9 (by decide) d_x18
        have d_kv20 := rd_Ik eS32 o_a31 o_v0 (by decide) d_kv20
        have d_x22 := rd_Ik eS32 o_a31 o_a9 (by decide) d_x22
        have d_kv24 := rd_Ik eS32 o_a31 o_v0 (by decide) d_kv24
        obtain ⟨kv33, hkv33⟩ : ∃ z : Int32, z = (-1 : Int32) := ⟨_, rfl⟩
        have d_kv33 := rd_Is eS32 hkv33
        have ea9 := rf_I eS32 ea9
        have ea10 := rf_I eS32 ea10
        have ea31 := rf_I eS32 ea31
        have l_a10 := ln_I eS32 l_a10
        have g0 := gr_I eS32 g0
        have o_a10 := ob_I eS32 o_a10
        have o_a27 := ob_I eS32 o_a27
        have o_a28 := ob_I eS32 o_a28
        have o_a31 := ob_I eS32 o_a31
        have o_a9 := ob_I eS32 o_a9
        have o_v0 := ob_I eS32 o_v0
        intro _
        obtain ⟨a34, ea34, o_a34, -⟩ := sh 5 rfl hI o_v0
        refine ⟨a34, ea34, ?_⟩
        refine ⟨o_a34, ?_⟩
        refine u_X0_end ?_
        refine u_X0_end_0 ?_
        refine ⟨o_a34, ?_⟩
        intro S35 eS35
        have hIn : IV S35 := by rw [eS35]; exact iv_sI hI o_a34 (by decide) (nu_one (lo := (-1 : Int32)) (hi := (3 : Int32)) (by decide) (qy3 r_kv1 hiv2 c3 r_x7 q_x7 c8 bb_x11 c25))
        have hI := hIn
        have f0 := fr_I eS35 g0 f0 o_a34 (by decide)
        have d_kv16 := rd_Ik eS35 o_a34 o_v0 (by decide) d_kv16
        have d_x18 := rd_Ik eS35 o_a34 o_a9 (by decide) d_x18
        have d_kv20 := rd_Ik eS35 o_a34 o_v0 (by decide) d_kv20
        have d_x22 := rd_Ik eS35 o_a34 o_a9 (by decide) d_x22
        have d_kv24 := rd_Ik eS35 o_a34 o_v0 (by decide) d_kv24
        have d_kv33 := rd_Ik eS35 o_a34 o_a31 (by decide) d_kv33
        obtain ⟨kv36, hkv36⟩ : ∃ z : Int32, z = (-1 : Int32) := ⟨_, rfl⟩
        have d_kv36 := rd_Is eS35 hkv36
        have ea9 := rf_I eS35 ea9
        have ea10 := rf_I eS35 ea10
        have ea31 := rf_I eS35 ea31
        have ea34 := rf_I eS35 ea34
        have l_a10 := ln_I eS35 l_a10
        have g0 := gr_I eS35 g0
        have o_a10 := ob_I eS35 o_a10
        have o_a27 := ob_I eS35 o_a27
        have o_a28 := ob_I eS35 o_a28
        have o_a31 := ob_I eS35 o_a31
        have o_a34 := ob_I eS35 o_a34
        have o_a9 := ob_I eS35 o_a9
        have o_v0 := ob_I eS35 o_v0
        intro S37 eS37
        have hIn : IV S37 := by rw [eS37]; exact iv_sI hI o_a34 (by decide) (nu_one (lo := (0 : Int32)) (hi := (16 : Int32)) (by decide) (qy4 r_kv1 hiv2 c3 r_x7 q_x7 c8 bb_x11 c25))
        have hI := hIn
        have f0 := fr_I eS37 g0 f0 o_a34 (by decide)
        have d_kv16 := rd_Ik eS37 o_a34 o_v0 (by decide) d_kv16
        have d_x18 := rd_Ik eS37 o_a34 o_a9 (by decide) d_x18
        have d_kv20 := rd_Ik eS37 o_a34 o_v0 (by decide) d_kv20
        have d_x22 := rd_Ik eS37 o_a34 o_a9 (by decide) d_x22
        have d_kv24 := rd_Ik eS37 o_a34 o_v0 (by decide) d_kv24
        have d_kv33 := rd_Ik eS37 o_a34 o_a31 (by decide) d_kv33
        have d_kv36 := rd_Ij eS37 (by decide) d_kv36
        obtain ⟨kv38, hkv38⟩ : ∃ z : Int32, z = (0 : Int32) := ⟨_, rfl⟩
        have d_kv38 := rd_Is eS37 hkv38
        have ea9 := rf_I eS37 ea9
        have ea10 := rf_I eS37 ea10
        have ea31 := rf_I eS37 ea31
        have ea34 := rf_I eS37 ea34
        have l_a10 := ln_I eS37 l_a10
        have g0 := gr_I eS37 g0
        have o_a10 := ob_I eS37 o_a10
        have o_a27 := ob_I eS37 o_a27
        have o_a28 := ob_I eS37 o_a28
        have o_a31 := ob_I eS37 o_a31
        have o_a34 := ob_I eS37 o_a34
        have o_a9 := ob_I eS37 o_a9
        have o_v0 := ob_I eS37 o_v0
        intro S39 eS39
        have hIn : IV S39 := by rw [eS39]; exact iv_sI hI o_a34 (by decide) (nu_one (lo := (0 : Int32)) (hi := (3 : Int32)) (by decide) (qy5 r_kv1 hiv2 c3 r_x7 q_x7 c8 bb_x11 c25))
        have hI := hIn
        have f0 := fr_I eS39 g0 f0 o_a34 (by decide)
        have d_kv16 := rd_Ik eS39 o_a34 o_v0 (by decide) d_kv16
        have d_x18 := rd_Ik eS39 o_a34 o_a9 (by decide) d_x18
        have d_kv20 := rd_Ik eS39 o_a34 o_v0 (by decide) d_kv20
        have d_x22 := rd_Ik eS39 o_a34 o_a9 (by decide) d_x22
        have d_kv24 := rd_Ik eS39 o_a34 o_v0 (by decide) d_kv24
        have d_kv33 := rd_Ik eS39 o_a34 o_a31 (by decide) d_kv33
        have d_kv36 := rd_Ij eS39 (by decide) d_kv36
        have d_kv38 := rd_Ij eS39 (by decide) d_kv38
        obtain ⟨kv40, hkv40⟩ : ∃ z : Int32, z = (0 : Int32) := ⟨_, rfl⟩
        have d_kv40 := rd_Is eS39 hkv40
        have ea9 := rf_I eS39 ea9
        have ea10 := rf_I eS39 ea10
        have ea31 := rf_I eS39 ea31
        have ea34 := rf_I eS39 ea34
        have l_a10 := ln_I eS39 l_a10
        have g0 := gr_I eS39 g0
        have o_a10 := ob_I eS39 o_a10
        have o_a27 := ob_I eS39 o_a27
        have o_a28 := ob_I eS39 o_a28
        have o_a31 := ob_I eS39 o_a31
        have o_a34 := ob_I eS39 o_a34
        have o_a9 := ob_I eS39 o_a9
        have o_v0 := ob_I eS39 o_v0
        intro _
        obtain ⟨a41, ea41, o_a41, -⟩ := sh 1 rfl hI o_v0
        refine ⟨a41, ea41, ?_⟩
        refine ⟨o_a41, ?_⟩
        intro x42 ex42
        have r_x42 : (0 : Int32) ≤ x42 ∧ x42 ≤ (4 : Int32) := by rw [ex42]; exact nu 14 rfl hI o_a41
        have d_x42 := ex42
        refine u_X9_grant ?_
        refine u_X9_grant_0 ?_
        refine ⟨o_v0, ?_⟩
        intro S43 eS43
        have hIn : IV S43 := by rw [eS43]; exact iv_sI hI o_v0 (by decide) (nu_free (by decide))
        have hI := hIn
        have f0 := fr_I eS43 g0 f0 o_v0 (by decide)
        have d_kv16 := rd_Ij eS43 (by decide) d_kv16
        have d_x18 := rd_Ik eS43 o_v0 o_a9 (by decide) d_x18
        have d_kv20 := rd_Ij eS43 (by decide) d_kv20
        have d_x22 := rd_Ik eS43 o_v0 o_a9 (by decide) d_x22
        have d_kv24 := rd_Ij eS43 (by decide) d_kv24
        have d_kv33 := rd_Ik eS43 o_v0 o_a31 (by decide) d_kv33
        have d_kv36 := rd_Ik eS43 o_v0 o_a34 (by decide) d_kv36
        have d_kv38 := rd_Ik eS43 o_v0 o_a34 (by decide) d_kv38
        have d_kv40 := rd_Ik eS43 o_v0 o_a34 (by decide) d_kv40
        have d_x42 := rd_Ik eS43 o_v0 o_a41 (by decide) d_x42
        obtain ⟨kv44, hkv44⟩ : ∃ z : Int32, z = (0 : Int32) := ⟨_, rfl⟩
        have d_kv44 := rd_Is eS43 hkv44
        have ea9 := rf_I eS43 ea9
        have ea10 := rf_I eS43 ea10
        have ea31 := rf_I eS43 ea31
        have ea34 := rf_I eS43 ea34
        have ea41 := rf_I eS43 ea41
        have l_a10 := ln_I eS43 l_a10
        have g0 := gr_I eS43 g0
        have o_a10 := ob_I eS43 o_a10
        have o_a27 := ob_I eS43 o_a27
        have o_a28 := ob_I eS43 o_a28
        have o_a31 := ob_I eS43 o_a31
        have o_a34 := ob_I eS43 o_a34
        have o_a41 := ob_I eS43 o_a41
        have o_a9 := ob_I eS43 o_a9
        have o_v0 := ob_I eS43 o_v0
        intro _
        exact hq _ _ hI g0 f0 (by have t : (v1 < 0 ∨ iv2 < v1 → kv16 = iv2) ∧ (0 ≤ v1 ∧ v1 ≤ iv2 → kv16 = 0) := (qy6 r_kv1 hiv2 c3 r_x7 q_x7 c8 bb_x11 hkv16 c25); rw [di_1, d_kv16] at t; exact t)
      · refine u_X9_refuse ?_
        refine u_X9_refuse_0 ?_
        refine ⟨o_v0, ?_⟩
        intro S46 eS46
        have hIn : IV S46 := by rw [eS46]; exact iv_sI hI o_v0 (by decide) (nu_free (by decide))
        have hI := hIn
        have f0 := fr_I eS46 g0 f0 o_v0 (by decide)
        have d_kv16 := rd_Ij eS46 (by decide) d_kv16
        have d_x18 := rd_Ik eS46 o_v0 o_a9 (by decide) d_x18
        have d_kv20 := rd_Ij eS46 (by decide) d_kv20
        have d_x22 := rd_Ik eS46 o_v0 o_a9 (by decide) d_x22
        have d_kv24 := rd_Ij eS46 (by decide) d_kv24
        obtain ⟨kv47, hkv47⟩ : ∃ z : Int32, z = (4 : Int32) := ⟨_, rfl⟩
        have d_kv47 := rd_Is eS46 hkv47
        have ea9 := rf_I eS46 ea9
        have ea10 := rf_I eS46 ea10
        have l_a10 := ln_I eS46 l_a10
        have g0 := gr_I eS46 g0
        have o_a10 := ob_I eS46 o_a10
        have o_a9 := ob_I eS46 o_a9
        have o_v0 := ob_I eS46 o_v0
        intro _
        exact hq _ _ hI g0 f0 (by have t : (v1 < 0 ∨ iv2 < v1 → kv16 = iv2) ∧ (0 ≤ v1 ∧ v1 ≤ iv2 → kv16 = 0) := (qy7 r_kv1 hiv2 c3 r_x7 q_x7 c8 bb_x11 hkv16 c25); rw [di_1, d_kv16] at t; exact t)
    · refine u_X9_world_12 ?_
      refine ⟨o_v0, ?_⟩
      refine u_X9_refuse ?_
      refine u_X9_refuse_0 ?_
      refine ⟨o_v0, ?_⟩
      intro S49 eS49
      have hIn : IV S49 := by rw [eS49]; exact iv_sI hI o_v0 (by decide) (nu_free (by decide))
      have hI := hIn
      have f0 := fr_I eS49 g0 f0 o_v0 (by decide)
      have d_x7 := rd_Ij eS49 (by decide) d_x7
      obtain ⟨kv50, hkv50⟩ : ∃ z : Int32, z = (2 : Int32) := ⟨_, rfl⟩
      have d_kv50 := rd_Is eS49 hkv50
      have g0 := gr_I eS49 g0
      have o_v0 := ob_I eS49 o_v0
      intro _
      exact hq _ _ hI g0 f0 (by have t : (v1 < 0 ∨ iv2 < v1 → x7 = iv2) ∧ (0 ≤ v1 ∧ v1 ≤ iv2 → x7 = 0) := (qy8 r_kv1 hiv2 c3 r_x7 q_x7 c8); rw [di_1, d_x7] at t; exact t)
