set_option maxHeartbeats 4000000 in
set_option maxRecDepth 20000 in
theorem m_X11_lies {v0 : Nat} {Q : Int32 → HS → Prop} {S : HS} (hI : IV S) (o_v0 : ob S v0 11)     (hq : ∀ (r : Int32) (T : HS), IV T → Gr S T → FRI [(11, 0), (11, 1), (11, 2)] [] S T → Q r T) : P_X11_lies v0 Q S := by
  have g0 := gr_rf S
  have f0 := fri_rf [(11, 0), (11, 1), (11, 2)] [] S
  refine u_X11_lies ?_
  refine u_X11_lies_0 ?_
  refine ⟨o_v0, ?_⟩
  intro S1 eS1
  have hIn : IV S1 := by rw [eS1]; exact iv11_sI hI o_v0 (by decide) (nu_free (by decide))
  have hI := hIn
  have f0 := fr_I eS1 g0 f0 o_v0 (by decide)
  obtain ⟨kv2, hkv2⟩ : ∃ z : Int32, z = (0 : Int32) := ⟨_, rfl⟩
  have d_kv2 := rd_Is eS1 hkv2
  have g0 := gr_I eS1 g0
  have o_v0 := ob_I eS1 o_v0
  refine ⟨fun e4 => ?_, fun a3 ea3 => ?_⟩
  · refine u_X11_refused ?_
    refine u_X11_refused_0 ?_
    refine ⟨o_v0, ?_⟩
    intro S5 eS5
    have hIn : IV S5 := by rw [eS5]; exact iv11_sI hI o_v0 (by decide) (nu_free (by decide))
    have hI := hIn
    have f0 := fr_I eS5 g0 f0 o_v0 (by decide)
    have d_kv2 := rd_Ij eS5 (by decide) d_kv2
    obtain ⟨kv6, hkv6⟩ : ∃ z : Int32, z = (1 : Int32) := ⟨_, rfl⟩
    have d_kv6 := rd_Is eS5 hkv6
    have g0 := gr_I eS5 g0
    have o_v0 := ob_I eS5 o_v0
    intro S7 eS7
    have hIn : IV S7 := by rw [eS7]; exact iv11_sI hI o_v0 (by decide) (nu_free (by decide))
    have hI := hIn
    have f0 := fr_I eS7 g0 f0 o_v0 (by decide)
    have d_kv2 := rd_Ij eS7 (by decide) d_kv2
    have d_kv6 := rd_Ij eS7 (by decide) d_kv6
    obtain ⟨kv8, hkv8⟩ : ∃ z : Int32, z = (-1 : Int32) := ⟨_, rfl⟩
    have d_kv8 := rd_Is eS7 hkv8
    have g0 := gr_I eS7 g0
    have o_v0 := ob_I eS7 o_v0
    intro _
    exact hq _ _ hI g0 f0
  · have o_a3 := ml_ob hI o_v0 ea3
    refine i_X11_lies_22 (fun (y0 : Nat) (y1 : Int32) (y2 : Int32) (Z : HS) => ((2147483647 : Int32).toInt - y2.toInt).toNat) (fun (y0 : Nat) (y1 : Int32) (y2 : Int32) (Z : HS) => (S1 = Z) ∧ (v0 = y0) ∧ (0 ≤ y2)) ?_ _ _ _ _ ⟨rfl, rfl, (qm8)⟩
    intro w14 w16 w17 S11 X18 ⟨eS11, q15, i1u10⟩ ih19
    subst q15
    subst eS11
    refine u_X11_lies_22 ?_
    refine ⟨o_v0, ?_⟩
    refine ⟨a3, ea3, ?_⟩
    refine ⟨o_a3, ?_⟩
    intro x21 ex21
    have r_x21 : (0 : Int32) ≤ x21 ∧ x21 ≤ (4 : Int32) := by rw [ex21]; exact nu 21 rfl hI o_a3
    have d_x21 := ex21
    refine ⟨fun c22 => ?_, fun c22 => ?_⟩
    · refine u_X11_good ?_
      refine u_X11_good_0 ?_
      refine ⟨o_v0, ?_⟩
      intro S23 eS23
      have hIn : IV S23 := by rw [eS23]; exact iv11_sI hI o_v0 (by decide) (nu_free (by decide))
      have hI := hIn
      have f0 := fr_I eS23 g0 f0 o_v0 (by decide)
      have d_kv2 := rd_Ij eS23 (by decide) d_kv2
      have d_x21 := rd_Ik eS23 o_v0 o_a3 (by decide) d_x21
      obtain ⟨kv24, hkv24⟩ : ∃ z : Int32, z = (0 : Int32) := ⟨_, rfl⟩
      have d_kv24 := rd_Is eS23 hkv24
      have ea3 := rf_I eS23 ea3
      have g0 := gr_I eS23 g0
      have o_a3 := ob_I eS23 o_a3
      have o_v0 := ob_I eS23 o_v0
      intro S25 eS25
      have hIn : IV S25 := by rw [eS25]; exact iv11_sI hI o_v0 (by decide) (nu_free (by decide))
      have hI := hIn
      have f0 := fr_I eS25 g0 f0 o_v0 (by decide)
      have d_kv2 := rd_Ij eS25 (by decide) d_kv2
      have d_x21 := rd_Ik eS25 o_v0 o_a3 (by decide) d_x21
      have d_kv24 := rd_Ij eS25 (by decide) d_kv24
      obtain ⟨kv26, hkv26⟩ : ∃ z : Int32, z = (-1 : Int32) := ⟨_, rfl⟩
      have d_kv26 := rd_Is eS25 hkv26
      have ea3 := rf_I eS25 ea3
      have g0 := gr_I eS25 g0
      have o_a3 := ob_I eS25 o_a3
      have o_v0 := ob_I eS25 o_v0
      intro _
      exact hq _ _ hI g0 f0
    · refine m_X11_fitOf hI o_v0 ⟨_, ea3, (qm558 i1u10 r_x21 c22), (by rw [← d_x21]; exact (qm559 i1u10 r_x21 c22))⟩ (fun x28 S29 hI2 g30 p_x28 => ?_)
      subst p_x28
      intro _
      refine ⟨fun c32 => ?_, fun c32 => ?_⟩
      · refine u_X11_lies_50 ?_
        intro x33 ex33
        intro x34 ex34
        exact ih19 _ _ _ _ ⟨rfl, rfl, (qm560 i1u10 r_x21 c22 c32 ex34)⟩ (mu_up (qm561 i1u10 r_x21 c22 c32 ex34) (qm562 i1u10 r_x21 c22 c32 ex34))
      · refine u_X11_lies_50 ?_
        intro x35 ex35
        intro x36 ex36
        exact ih19 _ _ _ _ ⟨rfl, rfl, (qm563 i1u10 r_x21 c22 c32 ex35 ex36)⟩ (mu_up (qm564 i1u10 r_x21 c22 c32 ex35 ex36) (qm565 i1u10 r_x21 c22 c32 ex35 ex36))
set_option maxHeartbeats 4000000 in
set_option maxRecDepth 20000 in
theorem m_X11_mark {v0 : Nat} {Q : Int32 → HS → Prop} {S : HS} (hI : IV S) (o_v0 : ob S v0 11)     (hq : ∀ (r : Int32) (T : HS), IV T → Gr S T → FRI [(11, 0), (11, 1), (11, 2), (11, 25)] [] S T → Q r T) : P_X11_mark v0 Q S := by
  have g0 := gr_rf S
  have f0 := fri_rf [(11, 0), (11, 1), (11, 2), (11, 25)] [] S
  refine u_X11_mark ?_
  refine u_X11_mark_0 ?_
  refine ⟨o_v0, ?_⟩
  intro S1 eS1
  have hIn : IV S1 := by rw [eS1]; exact iv11_sI hI o_v0 (by decide) (nu_free (by decide))
  have hI := hIn
  have f0 := fr_I eS1 g0 f0 o_v0 (by decide)
  obtain ⟨kv2, hkv2⟩ : ∃ z : Int32, z = (0 : Int32) := ⟨_, rfl⟩
  have d_kv2 := rd_Is eS1 hkv2
  have g0 := gr_I eS1 g0
  have o_v0 := ob_I eS1 o_v0
  refine u_X11_isDay ?_
  refine u_X11_isDay_0 ?_
  refine ⟨o_v0, ?_⟩
  refine ⟨fun e4 => ?_, fun a3 ea3 => ?_⟩
  · intro _ _
    refine ⟨fun c6 => absurd (show ¬ (0 : Int32) = 0 from c6) (by decide), fun c6 => ?_⟩
    refine u_X11_refused ?_
    refine u_X11_refused_0 ?_
    refine ⟨o_v0, ?_⟩
    intro S7 eS7
    have hIn : IV S7 := by rw [eS7]; exact iv11_sI hI o_v0 (by decide) (nu_free (by decide))
    have hI := hIn
    have f0 := fr_I eS7 g0 f0 o_v0 (by decide)
    have d_kv2 := rd_Ij eS7 (by decide) d_kv2
    obtain ⟨kv8, hkv8⟩ : ∃ z : Int32, z = (1 : Int32) := ⟨_, rfl⟩
    have d_kv8 := rd_Is eS7 hkv8
    have g0 := gr_I eS7 g0
    have o_v0 := ob_I eS7 o_v0
    intro S9 eS9
    have hIn : IV S9 := by rw [eS9]; exact iv11_sI hI o_v0 (by decide) (nu_free (by decide))
    have hI := hIn
    have f0 := fr_I eS9 g0 f0 o_v0 (by decide)
    have d_kv2 := rd_Ij eS9 (by decide) d_kv2
    have d_kv8 := rd_Ij eS9 (by decide) d_kv8
    obtain ⟨kv10, hkv10⟩ : ∃ z : Int32, z = (-1 : Int32) := ⟨_, rfl⟩
    have d_kv10 := rd_Is eS9 hkv10
    have g0 := gr_I eS9 g0
    have o_v0 := ob_I eS9 o_v0
    intro _
    exact hq _ _ hI g0 f0
  · have o_a3 := ml_ob hI o_v0 ea3
    intro x12 ex12
    have r_x12 : (-2 : Int32) ≤ x12 ∧ x12 ≤ (3 : Int32) := by rw [ex12]; exact nu 26 rfl hI o_v0
    have d_x12 := ex12
    obtain ⟨kv13, d_kv13⟩ : ∃ z : Int32, z = fI S1 a3 4 := ⟨_, rfl⟩
    have r_kv13 : (0 : Int32) ≤ kv13 ∧ kv13 ≤ (4 : Int32) := by rw [d_kv13]; exact nu 20 rfl hI o_a3
    have wh_x12 : x12 = -2 ∨ (0 ≤ x12 ∧ x12 < kv13) := by rw [ex12, d_kv13]; exact ml_who hI o_v0 ea3
    refine ⟨fun c14 => ?_, fun c14 => ?_⟩
    · intro _ _
      refine ⟨fun c16 => absurd (show ¬ (0 : Int32) = 0 from c16) (by decide), fun c16 => ?_⟩
      refine u_X11_refused ?_
      refine u_X11_refused_0 ?_
      refine ⟨o_v0, ?_⟩
      intro S17 eS17
      have hIn : IV S17 := by rw [eS17]; exact iv11_sI hI o_v0 (by decide) (nu_free (by decide))
      have hI := hIn
      have f0 := fr_I eS17 g0 f0 o_v0 (by decide)
      have d_kv2 := rd_Ij eS17 (by decide) d_kv2
      have d_x12 := rd_Ij eS17 (by decide) d_x12
      have d_kv13 := rd_Ik eS17 o_v0 o_a3 (by decide) d_kv13
      obtain ⟨kv18, hkv18⟩ : ∃ z : Int32, z = (1 : Int32) := ⟨_, rfl⟩
      have d_kv18 := rd_Is eS17 hkv18
      have ea3 := rf_I eS17 ea3
      have g0 := gr_I eS17 g0
      have o_a3 := ob_I eS17 o_a3
      have o_v0 := ob_I eS17 o_v0
      intro S19 eS19
      have hIn : IV S19 := by rw [eS19]; exact iv11_sI hI o_v0 (by decide) (nu_free (by decide))
      have hI := hIn
      have f0 := fr_I eS19 g0 f0 o_v0 (by decide)
      have d_kv2 := rd_Ij eS19 (by decide) d_kv2
      have d_x12 := rd_Ij eS19 (by decide) d_x12
      have d_kv13 := rd_Ik eS19 o_v0 o_a3 (by decide) d_kv13
      have d_kv18 := rd_Ij eS19 (by decide) d_kv18
      obtain ⟨kv20, hkv20⟩ : ∃ z : Int32, z = (-1 : Int32) := ⟨_, rfl⟩
      have d_kv20 := rd_Is eS19 hkv20
      have ea3 := rf_I eS19 ea3
      have g0 := gr_I eS19 g0
      have o_a3 := ob_I eS19 o_a3
      have o_v0 := ob_I eS19 o_v0
      intro _
      exact hq _ _ hI g0 f0
    · intro _ _
      refine ⟨fun c23 => ?_, fun c23 => absurd (show (1 : Int32) = 0 from c23) (by decide)⟩
      intro x24 ex24
      have r_x24 : (0 : Int32) ≤ x24 ∧ x24 ≤ (3 : Int32) := by rw [ex24]; exact nu 28 rfl hI o_v0
      have d_x24 := ex24
      refine ⟨fun c25 => ?_, fun c25 => ?_⟩
      · refine i_X11_mark_34 (fun (y0 : Nat) (y1 : Int32) (Z : HS) => ((7 : Int32).toInt - y1.toInt).toNat) (fun (y0 : Nat) (y1 : Int32) (Z : HS) => (IV Z) ∧ (Gr S1 Z) ∧ (FRI [] [] S1 Z) ∧ (v0 = y0) ∧ (0 ≤ y1 ∧ y1 ≤ 7)) ?_ _ _ _ ⟨hI, (gr_rf _), (fri_rf _ _ _), rfl, (qm518 r_x12 r_kv13 wh_x12 c14 r_x24 c25)⟩
        intro w30 w32 S27 X33 ⟨hI, gL28, fL29, q31, i1u26⟩ ih34
        subst q31
        have d_kv2 := d_kv2.trans (fri_at fL29 (by decide) (by decide) o_v0).symm
        have d_x12 := d_x12.trans (fri_at fL29 (by decide) (by decide) o_v0).symm
        have d_kv13 := d_kv13.trans (fri_at fL29 (by decide) (by decide) o_a3).symm
        have d_x24 := d_x24.trans (fri_at fL29 (by decide) (by decide) o_v0).symm
        have ea3 := (frr_at fL29 (by decide) (by decide) o_v0).trans ea3
        have f0 := fri_tr (S := S1) g0 f0 fL29 (by decide) (by decide)
        have o_a3 := gr_ob gL28 o_a3
        have o_v0 := gr_ob gL28 o_v0
        have g0 := gr_tr (T := S1) g0 gL28
        refine u_X11_mark_34 ?_
        refine ⟨fun c35 => ?_, fun c35 => ?_⟩
        · refine ⟨o_v0, ?_⟩
          intro x36 ex36
          have r_x36 : (0 : Int32) ≤ x36 ∧ x36 ≤ (3 : Int32) := by rw [ex36]; exact nu 28 rfl hI o_v0
          have q_x36 : x36 = x24 := ex36.trans d_x24.symm
          have d_x36 := ex36
          intro x37 ex37
          intro S38 eS38
          have hIn : IV S38 := by rw [eS38]; exact iv11_sI hI o_v0 (by decide) (nu_one (lo := (0 : Int32)) (hi := (3 : Int32)) (by decide) (qm519 r_x12 r_kv13 wh_x12 c14 r_x24 c25 i1u26 c35 r_x36 q_x36 ex37))
          have hI := hIn
          have f0 := fr_I eS38 g0 f0 o_v0 (by decide)
          have d_kv2 := rd_Ij eS38 (by decide) d_kv2
          have d_x12 := rd_Ij eS38 (by decide) d_x12
          have d_kv13 := rd_Ik eS38 o_v0 o_a3 (by decide) d_kv13
          have d_x37 := rd_Is eS38 (rfl : x37 = x37)
          have ea3 := rf_I eS38 ea3
          have g0 := gr_I eS38 g0
          have o_a3 := ob_I eS38 o_a3
          have o_v0 := ob_I eS38 o_v0
          intro x39 ex39
          have r_x39 : (0 : Int32) ≤ x39 ∧ x39 ≤ (3 : Int32) := by rw [ex39]; exact nu 28 rfl hI o_v0
          have q_x39 : x39 = x37 := ex39.trans d_x37.symm
          have d_x39 := ex39
          refine u_X11_good ?_
          refine u_X11_good_0 ?_
          refine ⟨o_v0, ?_⟩
          intro S40 eS40
          have hIn : IV S40 := by rw [eS40]; exact iv11_sI hI o_v0 (by decide) (nu_free (by decide))
          have hI := hIn
          have f0 := fr_I eS40 g0 f0 o_v0 (by decide)
          have d_kv2 := rd_Ij eS40 (by decide) d_kv2
          have d_x12 := rd_Ij eS40 (by decide) d_x12
          have d_kv13 := rd_Ik eS40 o_v0 o_a3 (by decide) d_kv13
          have d_x39 := rd_Ij eS40 (by decide) d_x39
          obtain ⟨kv41, hkv41⟩ : ∃ z : Int32, z = (0 : Int32) := ⟨_, rfl⟩
          have d_kv41 := rd_Is eS40 hkv41
          have ea3 := rf_I eS40 ea3
          have g0 := gr_I eS40 g0
          have o_a3 := ob_I eS40 o_a3
          have o_v0 := ob_I eS40 o_v0
          intro S42 eS42
          have hIn : IV S42 := by rw [eS42]; exact iv11_sI hI o_v0 (by decide) (nu_free (by decide))
          have hI := hIn
          have f0 := fr_I eS42 g0 f0 o_v0 (by decide)
          have d_kv2 := rd_Ij eS42 (by decide) d_kv2
          have d_x12 := rd_Ij eS42 (by decide) d_x12
          have d_kv13 := rd_Ik eS42 o_v0 o_a3 (by decide) d_kv13
          have d_x39 := rd_Ij eS42 (by decide) d_x39
          have d_kv41 := rd_Ij eS42 (by decide) d_kv41
          obtain ⟨kv43, hkv43⟩ : ∃ z : Int32, z = (-1 : Int32) := ⟨_, rfl⟩
          have d_kv43 := rd_Is eS42 hkv43
          have ea3 := rf_I eS42 ea3
          have g0 := gr_I eS42 g0
          have o_a3 := ob_I eS42 o_a3
          have o_v0 := ob_I eS42 o_v0
          intro _
          exact hq _ _ hI g0 f0
        · refine ⟨o_v0, ?_⟩
          obtain ⟨a45, ea45, o_a45, l_a45⟩ := shl 59 rfl hI o_v0
          refine ⟨a45, ea45, ?_⟩
          intro x46 ex46
          have r_x46 : (0 : Int32) ≤ x46 ∧ x46 ≤ (3 : Int32) := by rw [ex46]; exact nu 28 rfl hI o_v0
          have q_x46 : x46 = x24 := ex46.trans d_x24.symm
          have d_x46 := ex46
          obtain ⟨a47, ea47, o_a47, l_a47⟩ := shl 57 rfl hI o_v0
          refine ⟨a47, ea47, ?_⟩
          refine ⟨o_a47, ?_⟩
          refine ⟨(vin l_a47 (m := 7) (by decide) (qm520 r_x12 r_kv13 wh_x12 c14 r_x24 c25 i1u26 c35 r_x46 q_x46)), ?_⟩
          intro x48 ex48
          have de_x48 := ml_de hI o_v0 (j := 21) (by decide) ea47 w32.toNatClampNeg
          rw [← ex48] at de_x48
          refine ⟨o_a45, ?_⟩
          have i49 : vp_in (((7 : Int32) * x46) + w32) (hN _ a45) := (vin l_a45 (m := 21) (by decide) (qm521 r_x12 r_kv13 wh_x12 c14 r_x24 c25 i1u26 c35 r_x46 q_x46))
          refine ⟨i49, ?_⟩
          intro S50 eS50
          have hIn : IV S50 := by rw [eS50]; exact iv11_aD hI (de_tr de_x48 (md_mul (a := x46) (k := w32) rfl (qm522 r_x12 r_kv13 wh_x12 c14 r_x24 c25 i1u26 c35 r_x46 q_x46) (qm523 r_x12 r_kv13 wh_x12 c14 r_x24 c25 i1u26 c35 r_x46 q_x46)))
          have hI := hIn
          have f0 := fr_J eS50 f0
          have fL29 := fr_J eS50 fL29
          have d_kv2 := rd_J eS50 d_kv2
          have d_x12 := rd_J eS50 d_x12
          have d_kv13 := rd_J eS50 d_kv13
          have d_x46 := rd_J eS50 d_x46
          have ea3 := rf_J eS50 ea3
          have ea45 := rf_J eS50 ea45
          have ea47 := rf_J eS50 ea47
          have l_a45 := ln_J eS50 l_a45
          have l_a47 := ln_J eS50 l_a47
          have g0 := gr_J eS50 g0
          have gL28 := gr_J eS50 gL28
          have o_a3 := ob_J eS50 o_a3
          have o_a45 := ob_J eS50 o_a45
          have o_a47 := ob_J eS50 o_a47
          have o_v0 := ob_J eS50 o_v0
          intro x51 ex51
          exact ih34 _ _ _ ⟨hI, gL28, fL29, rfl, (qm524 r_x12 r_kv13 wh_x12 c14 r_x24 c25 i1u26 c35 r_x46 q_x46 ex51)⟩ (mu_up (qm525 r_x12 r_kv13 wh_x12 c14 r_x24 c25 i1u26 c35 r_x46 q_x46 ex51) (qm526 r_x12 r_kv13 wh_x12 c14 r_x24 c25 i1u26 c35 r_x46 q_x46 ex51))
      · refine u_X11_refused ?_
        refine u_X11_refused_0 ?_
        refine ⟨o_v0, ?_⟩
        intro S52 eS52
        have hIn : IV S52 := by rw [eS52]; exact iv11_sI hI o_v0 (by decide) (nu_free (by decide))
        have hI := hIn
        have f0 := fr_I eS52 g0 f0 o_v0 (by decide)
        have d_kv2 := rd_Ij eS52 (by decide) d_kv2
        have d_x12 := rd_Ij eS52 (by decide) d_x12
        have d_kv13 := rd_Ik eS52 o_v0 o_a3 (by decide) d_kv13
        have d_x24 := rd_Ij eS52 (by decide) d_x24
        obtain ⟨kv53, hkv53⟩ : ∃ z : Int32, z = (3 : Int32) := ⟨_, rfl⟩
        have d_kv53 := rd_Is eS52 hkv53
        have ea3 := rf_I eS52 ea3
        have g0 := gr_I eS52 g0
        have o_a3 := ob_I eS52 o_a3
        have o_v0 := ob_I eS52 o_v0
        intro S54 eS54
        have hIn : IV S54 := by rw [eS54]; exact iv11_sI hI o_v0 (by decide) (nu_free (by decide))
        have hI := hIn
        have f0 := fr_I eS54 g0 f0 o_v0 (by decide)
        have d_kv2 := rd_Ij eS54 (by decide) d_kv2
        have d_x12 := rd_Ij eS54 (by decide) d_x12
        have d_kv13 := rd_Ik eS54 o_v0 o_a3 (by decide) d_kv13
        have d_x24 := rd_Ij eS54 (by decide) d_x24
        have d_kv53 := rd_Ij eS54 (by decide) d_kv53
        obtain ⟨kv55, hkv55⟩ : ∃ z : Int32, z = (-1 : Int32) := ⟨_, rfl⟩
        have d_kv55 := rd_Is eS54 hkv55
        have ea3 := rf_I eS54 ea3
        have g0 := gr_I eS54 g0
        have o_a3 := ob_I eS54 o_a3
        have o_v0 := ob_I eS54 o_v0
        intro _
        exact hq _ _ hI g0 f0
set_option maxHeartbeats 4000000 in
set_option maxRecDepth 20000 in
theorem m_X11_mean {v0 : Nat} {v1 : Int32} {v2 : Int32} {v3 : Int32} {v4 : Int32} {v5 : Int32} {v6 : Int32} {Q : Int64 → HS → Prop} {S : HS} (hI : IV S) (o_v0 : ob S v0 11)     (hq : ∀ (r : Int64) (T : HS), IV T → Gr S T → FRI [(11, 0), (11, 1), (11, 2)] [] S T → Q r T) : P_X11_mean v0 v1 v2 v3 v4 v5 v6 Q S := by
  have g0 := gr_rf S
  have f0 := fri_rf [(11, 0), (11, 1), (11, 2)] [] S
  refine u_X11_mean ?_
  refine u_X11_mean_0 ?_
  refine ⟨o_v0, ?_⟩
  intro S1 eS1
  have hIn : IV S1 := by rw [eS1]; exact iv11_sI hI o_v0 (by decide) (nu_free (by decide))
  have hI := hIn
  have f0 := fr_I eS1 g0 f0 o_v0 (by decide)
  obtain ⟨kv2, hkv2⟩ : ∃ z : Int32, z = (0 : Int32) := ⟨_, rfl⟩
  have d_kv2 := rd_Is eS1 hkv2
  have g0 := gr_I eS1 g0
  have o_v0 := ob_I eS1 o_v0
  refine u_X11_refuses ?_
  refine u_X11_refuses_0 ?_
  refine ⟨o_v0, ?_⟩
  refine u_X11_isWalker ?_
  refine u_X11_isWalker_0 ?_
  refine ⟨o_v0, ?_⟩
  refine ⟨fun e4 => ?_, fun a3 ea3 => ?_⟩
  · intro _ _
    refine ⟨fun c6 => ?_, fun c6 => absurd (show ¬ (0 : Int32) = 0 from c6) (by decide)⟩
    intro _
    refine ⟨fun c8 => absurd (show (1 : Int32) ≤ 0 from c8) (by decide), fun c8 => ?_⟩
    refine u_X11_refused ?_
    refine u_X11_refused_0 ?_
    refine ⟨o_v0, ?_⟩
    intro S9 eS9
    have hIn : IV S9 := by rw [eS9]; exact iv11_sI hI o_v0 (by decide) (nu_free (by decide))
    have hI := hIn
    have f0 := fr_I eS9 g0 f0 o_v0 (by decide)
    have d_kv2 := rd_Ij eS9 (by decide) d_kv2
    obtain ⟨kv10, hkv10⟩ : ∃ z : Int32, z = (1 : Int32) := ⟨_, rfl⟩
    have d_kv10 := rd_Is eS9 hkv10
    have g0 := gr_I eS9 g0
    have o_v0 := ob_I eS9 o_v0
    intro S11 eS11
    have hIn : IV S11 := by rw [eS11]; exact iv11_sI hI o_v0 (by decide) (nu_free (by decide))
    have hI := hIn
    have f0 := fr_I eS11 g0 f0 o_v0 (by decide)
    have d_kv2 := rd_Ij eS11 (by decide) d_kv2
    have d_kv10 := rd_Ij eS11 (by decide) d_kv10
    obtain ⟨kv12, hkv12⟩ : ∃ z : Int32, z = (-1 : Int32) := ⟨_, rfl⟩
    have d_kv12 := rd_Is eS11 hkv12
    have g0 := gr_I eS11 g0
    have o_v0 := ob_I eS11 o_v0
    intro _
    exact hq _ _ hI g0 f0
  · have o_a3 := ml_ob hI o_v0 ea3
    refine ⟨fun c14 => ?_, fun c14 => ?_⟩
    · intro _ _
      refine ⟨fun c16 => ?_, fun c16 => absurd (show ¬ (0 : Int32) = 0 from c16) (by decide)⟩
      intro _
      refine ⟨fun c18 => absurd (show (1 : Int32) ≤ 0 from c18) (by decide), fun c18 => ?_⟩
      refine u_X11_refused ?_
      refine u_X11_refused_0 ?_
      refine ⟨o_v0, ?_⟩
      intro S19 eS19
      have hIn : IV S19 := by rw [eS19]; exact iv11_sI hI o_v0 (by decide) (nu_free (by decide))
      have hI := hIn
      have f0 := fr_I eS19 g0 f0 o_v0 (by decide)
      have d_kv2 := rd_Ij eS19 (by decide) d_kv2
      obtain ⟨kv20, hkv20⟩ : ∃ z : Int32, z = (1 : Int32) := ⟨_, rfl⟩
      have d_kv20 := rd_Is eS19 hkv20
      have ea3 := rf_I eS19 ea3
      have g0 := gr_I eS19 g0
      have o_a3 := ob_I eS19 o_a3
      have o_v0 := ob_I eS19 o_v0
      intro S21 eS21
      have hIn : IV S21 := by rw [eS21]; exact iv11_sI hI o_v0 (by decide) (nu_free (by decide))
      have hI := hIn
      have f0 := fr_I eS21 g0 f0 o_v0 (by decide)
      have d_kv2 := rd_Ij eS21 (by decide) d_kv2
      have d_kv20 := rd_Ij eS21 (by decide) d_kv20
      obtain ⟨kv22, hkv22⟩ : ∃ z : Int32, z = (-1 : Int32) := ⟨_, rfl⟩
      have d_kv22 := rd_Is eS21 hkv22
      have ea3 := rf_I eS21 ea3
      have g0 := gr_I eS21 g0
      have o_a3 := ob_I eS21 o_a3
      have o_v0 := ob_I eS21 o_v0
      intro _
      exact hq _ _ hI g0 f0
    · refine ⟨a3, ea3, ?_⟩
      refine ⟨o_a3, ?_⟩
      intro x25 ex25
      have r_x25 : (0 : Int32) ≤ x25 ∧ x25 ≤ (4 : Int32) := by rw [ex25]; exact nu 20 rfl hI o_a3
      have d_x25 := ex25
      refine ⟨fun c26 => ?_, fun c26 => ?_⟩
      · intro _ _
        refine ⟨fun c28 => ?_, fun c28 => absurd (show ¬ (0 : Int32) = 0 from c28) (by decide)⟩
        intro _
        refine ⟨fun c30 => absurd (show (1 : Int32) ≤ 0 from c30) (by decide), fun c30 => ?_⟩
        refine u_X11_refused ?_
        refine u_X11_refused_0 ?_
        refine ⟨o_v0, ?_⟩
        intro S31 eS31
        have hIn : IV S31 := by rw [eS31]; exact iv11_sI hI o_v0 (by decide) (nu_free (by decide))
        have hI := hIn
        have f0 := fr_I eS31 g0 f0 o_v0 (by decide)
        have d_kv2 := rd_Ij eS31 (by decide) d_kv2
        have d_x25 := rd_Ik eS31 o_v0 o_a3 (by decide) d_x25
        obtain ⟨kv32, hkv32⟩ : ∃ z : Int32, z = (1 : Int32) := ⟨_, rfl⟩
        have d_kv32 := rd_Is eS31 hkv32
        have ea3 := rf_I eS31 ea3
        have g0 := gr_I eS31 g0
        have o_a3 := ob_I eS31 o_a3
        have o_v0 := ob_I eS31 o_v0
        intro S33 eS33
        have hIn : IV S33 := by rw [eS33]; exact iv11_sI hI o_v0 (by decide) (nu_free (by decide))
        have hI := hIn
        have f0 := fr_I eS33 g0 f0 o_v0 (by decide)
        have d_kv2 := rd_Ij eS33 (by decide) d_kv2
        have d_x25 := rd_Ik eS33 o_v0 o_a3 (by decide) d_x25
        have d_kv32 := rd_Ij eS33 (by decide) d_kv32
        obtain ⟨kv34, hkv34⟩ : ∃ z : Int32, z = (-1 : Int32) := ⟨_, rfl⟩
        have d_kv34 := rd_Is eS33 hkv34
        have ea3 := rf_I eS33 ea3
        have g0 := gr_I eS33 g0
        have o_a3 := ob_I eS33 o_a3
        have o_v0 := ob_I eS33 o_v0
        intro _
        exact hq _ _ hI g0 f0
      · intro _ _
        refine ⟨fun c37 => absurd (show (1 : Int32) = 0 from c37) (by decide), fun c37 => ?_⟩
        refine u_X11_isRoad ?_
        refine u_X11_isRoad_0 ?_
        refine ⟨o_v0, ?_⟩
        refine ⟨fun e39 => (nomatch (e39.symm.trans ea3)), fun a38 ea38 => ?_⟩
        obtain rfl : a3 = a38 := Option.some.inj (ea3.symm.trans ea38)
        refine ⟨fun c40 => ?_, fun c40 => ?_⟩
        · intro _ _
          refine ⟨fun c42 => ?_, fun c42 => absurd (show ¬ (0 : Int32) = 0 from c42) (by decide)⟩
          intro _
          refine ⟨fun c44 => absurd (show (1 : Int32) ≤ 0 from c44) (by decide), fun c44 => ?_⟩
          refine u_X11_refused ?_
          refine u_X11_refused_0 ?_
          refine ⟨o_v0, ?_⟩
          intro S45 eS45
          have hIn : IV S45 := by rw [eS45]; exact iv11_sI hI o_v0 (by decide) (nu_free (by decide))
          have hI := hIn
          have f0 := fr_I eS45 g0 f0 o_v0 (by decide)
          have d_kv2 := rd_Ij eS45 (by decide) d_kv2
          have d_x25 := rd_Ik eS45 o_v0 o_a3 (by decide) d_x25
          obtain ⟨kv46, hkv46⟩ : ∃ z : Int32, z = (1 : Int32) := ⟨_, rfl⟩
          have d_kv46 := rd_Is eS45 hkv46
          have ea3 := rf_I eS45 ea3
          have g0 := gr_I eS45 g0
          have o_a3 := ob_I eS45 o_a3
          have o_v0 := ob_I eS45 o_v0
          intro S47 eS47
          have hIn : IV S47 := by rw [eS47]; exact iv11_sI hI o_v0 (by decide) (nu_free (by decide))
          have hI := hIn
          have f0 := fr_I eS47 g0 f0 o_v0 (by decide)
          have d_kv2 := rd_Ij eS47 (by decide) d_kv2
          have d_x25 := rd_Ik eS47 o_v0 o_a3 (by decide) d_x25
          have d_kv46 := rd_Ij eS47 (by decide) d_kv46
          obtain ⟨kv48, hkv48⟩ : ∃ z : Int32, z = (-1 : Int32) := ⟨_, rfl⟩
          have d_kv48 := rd_Is eS47 hkv48
          have ea3 := rf_I eS47 ea3
          have g0 := gr_I eS47 g0
          have o_a3 := ob_I eS47 o_a3
          have o_v0 := ob_I eS47 o_v0
          intro _
          exact hq _ _ hI g0 f0
        · refine ⟨a3, ea3, ?_⟩
          refine ⟨o_a3, ?_⟩
          intro x51 ex51
          have r_x51 : (0 : Int32) ≤ x51 ∧ x51 ≤ (12 : Int32) := by rw [ex51]; exact nu 19 rfl hI o_a3
          have d_x51 := ex51
          refine ⟨fun c52 => ?_, fun c52 => ?_⟩
          · intro _ _
            refine ⟨fun c54 => ?_, fun c54 => absurd (show ¬ (0 : Int32) = 0 from c54) (by decide)⟩
            intro _
            refine ⟨fun c56 => absurd (show (1 : Int32) ≤ 0 from c56) (by decide), fun c56 => ?_⟩
            refine u_X11_refused ?_
            refine u_X11_refused_0 ?_
            refine ⟨o_v0, ?_⟩
            intro S57 eS57
            have hIn : IV S57 := by rw [eS57]; exact iv11_sI hI o_v0 (by decide) (nu_free (by decide))
            have hI := hIn
            have f0 := fr_I eS57 g0 f0 o_v0 (by decide)
            have d_kv2 := rd_Ij eS57 (by decide) d_kv2
            have d_x25 := rd_Ik eS57 o_v0 o_a3 (by decide) d_x25
            have d_x51 := rd_Ik eS57 o_v0 o_a3 (by decide) d_x51
            obtain ⟨kv58, hkv58⟩ : ∃ z : Int32, z = (1 : Int32) := ⟨_, rfl⟩
            have d_kv58 := rd_Is eS57 hkv58
            have ea3 := rf_I eS57 ea3
            have g0 := gr_I eS57 g0
            have o_a3 := ob_I eS57 o_a3
            have o_v0 := ob_I eS57 o_v0
            intro S59 eS59
            have hIn : IV S59 := by rw [eS59]; exact iv11_sI hI o_v0 (by decide) (nu_free (by decide))
            have hI := hIn
            have f0 := fr_I eS59 g0 f0 o_v0 (by decide)
            have d_kv2 := rd_Ij eS59 (by decide) d_kv2
            have d_x25 := rd_Ik eS59 o_v0 o_a3 (by decide) d_x25
            have d_x51 := rd_Ik eS59 o_v0 o_a3 (by decide) d_x51
            have d_kv58 := rd_Ij eS59 (by decide) d_kv58
            obtain ⟨kv60, hkv60⟩ : ∃ z : Int32, z = (-1 : Int32) := ⟨_, rfl⟩
            have d_kv60 := rd_Is eS59 hkv60
            have ea3 := rf_I eS59 ea3
            have g0 := gr_I eS59 g0
            have o_a3 := ob_I eS59 o_a3
            have o_v0 := ob_I eS59 o_v0
            intro _
            exact hq _ _ hI g0 f0
          · intro _ _
            refine ⟨fun c63 => absurd (show (1 : Int32) = 0 from c63) (by decide), fun c63 => ?_⟩
            refine u_X11_in ?_
            refine u_X11_in_0 ?_
            refine ⟨fun c64 => ?_, fun c64 => ?_⟩
            · intro _ _
              refine ⟨fun c66 => ?_, fun c66 => absurd (show ¬ (0 : Int32) = 0 from c66) (by decide)⟩
              intro _
              refine ⟨fun c68 => absurd (show (1 : Int32) ≤ 0 from c68) (by decide), fun c68 => ?_⟩
              refine u_X11_refused ?_
              refine u_X11_refused_0 ?_
              refine ⟨o_v0, ?_⟩
              intro S69 eS69
              have hIn : IV S69 := by rw [eS69]; exact iv11_sI hI o_v0 (by decide) (nu_free (by decide))
              have hI := hIn
              have f0 := fr_I eS69 g0 f0 o_v0 (by decide)
              have d_kv2 := rd_Ij eS69 (by decide) d_kv2
              have d_x25 := rd_Ik eS69 o_v0 o_a3 (by decide) d_x25
              have d_x51 := rd_Ik eS69 o_v0 o_a3 (by decide) d_x51
              obtain ⟨kv70, hkv70⟩ : ∃ z : Int32, z = (1 : Int32) := ⟨_, rfl⟩
              have d_kv70 := rd_Is eS69 hkv70
              have ea3 := rf_I eS69 ea3
              have g0 := gr_I eS69 g0
              have o_a3 := ob_I eS69 o_a3
              have o_v0 := ob_I eS69 o_v0
              intro S71 eS71
              have hIn : IV S71 := by rw [eS71]; exact iv11_sI hI o_v0 (by decide) (nu_free (by decide))
              have hI := hIn
              have f0 := fr_I eS71 g0 f0 o_v0 (by decide)
              have d_kv2 := rd_Ij eS71 (by decide) d_kv2
              have d_x25 := rd_Ik eS71 o_v0 o_a3 (by decide) d_x25
              have d_x51 := rd_Ik eS71 o_v0 o_a3 (by decide) d_x51
              have d_kv70 := rd_Ij eS71 (by decide) d_kv70
              obtain ⟨kv72, hkv72⟩ : ∃ z : Int32, z = (-1 : Int32) := ⟨_, rfl⟩
              have d_kv72 := rd_Is eS71 hkv72
              have ea3 := rf_I eS71 ea3
              have g0 := gr_I eS71 g0
              have o_a3 := ob_I eS71 o_a3
              have o_v0 := ob_I eS71 o_v0
              intro _
              exact hq _ _ hI g0 f0
            · refine ⟨fun c74 => ?_, fun c74 => ?_⟩
              · intro _ _
                refine ⟨fun c76 => ?_, fun c76 => absurd (show ¬ (0 : Int32) = 0 from c76) (by decide)⟩
                intro _
                refine ⟨fun c78 => absurd (show (1 : Int32) ≤ 0 from c78) (by decide), fun c78 => ?_⟩
                refine u_X11_refused ?_
                refine u_X11_refused_0 ?_
                refine ⟨o_v0, ?_⟩
                intro S79 eS79
                have hIn : IV S79 := by rw [eS79]; exact iv11_sI hI o_v0 (by decide) (nu_free (by decide))
                have hI := hIn
                have f0 := fr_I eS79 g0 f0 o_v0 (by decide)
                have d_kv2 := rd_Ij eS79 (by decide) d_kv2
                have d_x25 := rd_Ik eS79 o_v0 o_a3 (by decide) d_x25
                have d_x51 := rd_Ik eS79 o_v0 o_a3 (by decide) d_x51
                obtain ⟨kv80, hkv80⟩ : ∃ z : Int32, z = (1 : Int32) := ⟨_, rfl⟩
                have d_kv80 := rd_Is eS79 hkv80
                have ea3 := rf_I eS79 ea3
                have g0 := gr_I eS79 g0
                have o_a3 := ob_I eS79 o_a3
                have o_v0 := ob_I eS79 o_v0
                intro S81 eS81
                have hIn : IV S81 := by rw [eS81]; exact iv11_sI hI o_v0 (by decide) (nu_free (by decide))
                have hI := hIn
                have f0 := fr_I eS81 g0 f0 o_v0 (by decide)
                have d_kv2 := rd_Ij eS81 (by decide) d_kv2
                have d_x25 := rd_Ik eS81 o_v0 o_a3 (by decide) d_x25
                have d_x51 := rd_Ik eS81 o_v0 o_a3 (by decide) d_x51
                have d_kv80 := rd_Ij eS81 (by decide) d_kv80
                obtain ⟨kv82, hkv82⟩ : ∃ z : Int32, z = (-1 : Int32) := ⟨_, rfl⟩
                have d_kv82 := rd_Is eS81 hkv82
                have ea3 := rf_I eS81 ea3
                have g0 := gr_I eS81 g0
                have o_a3 := ob_I eS81 o_a3
                have o_v0 := ob_I eS81 o_v0
                intro _
                exact hq _ _ hI g0 f0
              · intro _ _
                refine ⟨fun c85 => absurd (show (1 : Int32) = 0 from c85) (by decide), fun c85 => ?_⟩
                refine u_X11_isHour ?_
                refine u_X11_isHour_0 ?_
                refine ⟨o_v0, ?_⟩
                refine ⟨fun e87 => (nomatch (e87.symm.trans ea3)), fun a86 ea86 => ?_⟩
                obtain rfl : a3 = a86 := Option.some.inj (ea3.symm.trans ea86)
                refine ⟨fun c88 => ?_, fun c88 => ?_⟩
                · intro _ _
                  refine ⟨fun c90 => absurd (show ¬ (0 : Int32) = 0 from c90) (by decide), fun c90 => ?_⟩
                  intro _
                  refine ⟨fun c92 => absurd (show (1 : Int32) ≤ 0 from c92) (by decide), fun c92 => ?_⟩
                  refine u_X11_refused ?_
                  refine u_X11_refused_0 ?_
                  refine ⟨o_v0, ?_⟩
                  intro S93 eS93
                  have hIn : IV S93 := by rw [eS93]; exact iv11_sI hI o_v0 (by decide) (nu_free (by decide))
                  have hI := hIn
                  have f0 := fr_I eS93 g0 f0 o_v0 (by decide)
                  have d_kv2 := rd_Ij eS93 (by decide) d_kv2
                  have d_x25 := rd_Ik eS93 o_v0 o_a3 (by decide) d_x25
                  have d_x51 := rd_Ik eS93 o_v0 o_a3 (by decide) d_x51
                  obtain ⟨kv94, hkv94⟩ : ∃ z : Int32, z = (1 : Int32) := ⟨_, rfl⟩
                  have d_kv94 := rd_Is eS93 hkv94
                  have ea3 := rf_I eS93 ea3
                  have g0 := gr_I eS93 g0
                  have o_a3 := ob_I eS93 o_a3
                  have o_v0 := ob_I eS93 o_v0
                  intro S95 eS95
                  have hIn : IV S95 := by rw [eS95]; exact iv11_sI hI o_v0 (by decide) (nu_free (by decide))
                  have hI := hIn
                  have f0 := fr_I eS95 g0 f0 o_v0 (by decide)
                  have d_kv2 := rd_Ij eS95 (by decide) d_kv2
                  have d_x25 := rd_Ik eS95 o_v0 o_a3 (by decide) d_x25
                  have d_x51 := rd_Ik eS95 o_v0 o_a3 (by decide) d_x51
                  have d_kv94 := rd_Ij eS95 (by decide) d_kv94
                  obtain ⟨kv96, hkv96⟩ : ∃ z : Int32, z = (-1 : Int32) := ⟨_, rfl⟩
                  have d_kv96 := rd_Is eS95 hkv96
                  have ea3 := rf_I eS95 ea3
                  have g0 := gr_I eS95 g0
                  have o_a3 := ob_I eS95 o_a3
                  have o_v0 := ob_I eS95 o_v0
                  intro _
                  exact hq _ _ hI g0 f0
                · refine ⟨a3, ea3, ?_⟩
                  refine ⟨o_a3, ?_⟩
                  intro x99 ex99
                  have r_x99 : (0 : Int32) ≤ x99 ∧ x99 ≤ (6 : Int32) := by rw [ex99]; exact nu 17 rfl hI o_a3
                  have d_x99 := ex99
                  refine ⟨fun c100 => ?_, fun c100 => ?_⟩
                  · intro _ _
                    refine ⟨fun c102 => absurd (show ¬ (0 : Int32) = 0 from c102) (by decide), fun c102 => ?_⟩
                    intro _
                    refine ⟨fun c104 => absurd (show (1 : Int32) ≤ 0 from c104) (by decide), fun c104 => ?_⟩
                    refine u_X11_refused ?_
                    refine u_X11_refused_0 ?_
                    refine ⟨o_v0, ?_⟩
                    intro S105 eS105
                    have hIn : IV S105 := by rw [eS105]; exact iv11_sI hI o_v0 (by decide) (nu_free (by decide))
                    have hI := hIn
                    have f0 := fr_I eS105 g0 f0 o_v0 (by decide)
                    have d_kv2 := rd_Ij eS105 (by decide) d_kv2
                    have d_x25 := rd_Ik eS105 o_v0 o_a3 (by decide) d_x25
                    have d_x51 := rd_Ik eS105 o_v0 o_a3 (by decide) d_x51
                    have d_x99 := rd_Ik eS105 o_v0 o_a3 (by decide) d_x99
                    obtain ⟨kv106, hkv106⟩ : ∃ z : Int32, z = (1 : Int32) := ⟨_, rfl⟩
                    have d_kv106 := rd_Is eS105 hkv106
                    have ea3 := rf_I eS105 ea3
                    have g0 := gr_I eS105 g0
                    have o_a3 := ob_I eS105 o_a3
                    have o_v0 := ob_I eS105 o_v0
                    intro S107 eS107
                    have hIn : IV S107 := by rw [eS107]; exact iv11_sI hI o_v0 (by decide) (nu_free (by decide))
                    have hI := hIn
                    have f0 := fr_I eS107 g0 f0 o_v0 (by decide)
                    have d_kv2 := rd_Ij eS107 (by decide) d_kv2
                    have d_x25 := rd_Ik eS107 o_v0 o_a3 (by decide) d_x25
                    have d_x51 := rd_Ik eS107 o_v0 o_a3 (by decide) d_x51
                    have d_x99 := rd_Ik eS107 o_v0 o_a3 (by decide) d_x99
                    have d_kv106 := rd_Ij eS107 (by decide) d_kv106
                    obtain ⟨kv108, hkv108⟩ : ∃ z : Int32, z = (-1 : Int32) := ⟨_, rfl⟩
                    have d_kv108 := rd_Is eS107 hkv108
                    have ea3 := rf_I eS107 ea3
                    have g0 := gr_I eS107 g0
                    have o_a3 := ob_I eS107 o_a3
                    have o_v0 := ob_I eS107 o_v0
                    intro _
                    exact hq _ _ hI g0 f0
                  · intro _ _
                    refine ⟨fun c111 => ?_, fun c111 => absurd (show (1 : Int32) = 0 from c111) (by decide)⟩
                    refine u_X11_isSpeed ?_
                    refine u_X11_isSpeed_0 ?_
                    refine ⟨o_v0, ?_⟩
                    refine ⟨a3, ea3, ?_⟩
                    refine ⟨o_a3, ?_⟩
                    obtain ⟨a113, ea113, o_a113, l_a113⟩ := shl 46 rfl hI o_a3
                    refine ⟨a113, ea113, ?_⟩
                    refine ⟨o_a113, ?_⟩
                    refine ⟨(vin l_a113 (m := 4) (by decide) (qm664 c14 r_x25 c26 c40 r_x51 c52 c64 c74 c88 r_x99 c100)), ?_⟩
                    intro x114 ex114
                    have gy_x114 : 0 ≤ v1 ∧ v1 < fI S1 a3 4 := by rw [← d_x25]; exact (qm665 c14 r_x25 c26 c40 r_x51 c52 c64 c74 c88 r_x99 c100)
                    have g_x114 : (1 : Int32) ≤ x114 ∧ x114 ≤ (9 : Int32) := by rw [ex114]; exact wg_at (ml_wg hI o_v0 ea3) 3 rfl gy_x114 ea113
                    refine ⟨a3, ea3, ?_⟩
                    refine ⟨o_a3, ?_⟩
                    obtain ⟨a116, ea116, o_a116, l_a116⟩ := shl 47 rfl hI o_a3
                    refine ⟨a116, ea116, ?_⟩
                    refine ⟨o_a116, ?_⟩
                    refine ⟨(vin l_a116 (m := 4) (by decide) (qm664 c14 r_x25 c26 c40 r_x51 c52 c64 c74 c88 r_x99 c100)), ?_⟩
                    intro x117 ex117
                    have gy_x117 : 0 ≤ v1 ∧ v1 < fI S1 a3 4 := by rw [← d_x25]; exact (qm665 c14 r_x25 c26 c40 r_x51 c52 c64 c74 c88 r_x99 c100)
                    have g_x117 : (0 : Int32) ≤ x117 ∧ x117 ≤ (9 : Int32) := by rw [ex117]; exact wg_at (ml_wg hI o_v0 ea3) 4 rfl gy_x117 ea116
                    refine u_X11_in ?_
                    refine u_X11_in_0 ?_
                    refine ⟨fun c118 => ?_, fun c118 => ?_⟩
                    · intro _ _
                      refine ⟨(Or.inl rfl), ?_⟩
                      intro _ _
                      refine ⟨fun c121 => ?_, fun c121 => absurd (show ¬ (0 : Int32) = 0 from c121) (by decide)⟩
                      intro _
                      refine ⟨fun c123 => absurd (show (2 : Int32) ≤ 0 from c123) (by decide), fun c123 => ?_⟩
                      refine u_X11_refused ?_
                      refine u_X11_refused_0 ?_
                      refine ⟨o_v0, ?_⟩
                      intro S124 eS124
                      have hIn : IV S124 := by rw [eS124]; exact iv11_sI hI o_v0 (by decide) (nu_free (by decide))
                      have hI := hIn
                      have f0 := fr_I eS124 g0 f0 o_v0 (by decide)
                      have d_kv2 := rd_Ij eS124 (by decide) d_kv2
                      have d_x25 := rd_Ik eS124 o_v0 o_a3 (by decide) d_x25
                      have d_x51 := rd_Ik eS124 o_v0 o_a3 (by decide) d_x51
                      have d_x99 := rd_Ik eS124 o_v0 o_a3 (by decide) d_x99
                      obtain ⟨kv125, hkv125⟩ : ∃ z : Int32, z = (2 : Int32) := ⟨_, rfl⟩
                      have d_kv125 := rd_Is eS124 hkv125
                      have ea3 := rf_I eS124 ea3
                      have ea113 := rf_I eS124 ea113
                      have ea116 := rf_I eS124 ea116
                      have l_a113 := ln_I eS124 l_a113
                      have l_a116 := ln_I eS124 l_a116
                      have g0 := gr_I eS124 g0
                      have o_a113 := ob_I eS124 o_a113
                      have o_a116 := ob_I eS124 o_a116
                      have o_a3 := ob_I eS124 o_a3
                      have o_v0 := ob_I eS124 o_v0
                      intro S126 eS126
                      have hIn : IV S126 := by rw [eS126]; exact iv11_sI hI o_v0 (by decide) (nu_free (by decide))
                      have hI := hIn
                      have f0 := fr_I eS126 g0 f0 o_v0 (by decide)
                      have d_kv2 := rd_Ij eS126 (by decide) d_kv2
                      have d_x25 := rd_Ik eS126 o_v0 o_a3 (by decide) d_x25
                      have d_x51 := rd_Ik eS126 o_v0 o_a3 (by decide) d_x51
                      have d_x99 := rd_Ik eS126 o_v0 o_a3 (by decide) d_x99
                      have d_kv125 := rd_Ij eS126 (by decide) d_kv125
                      obtain ⟨kv127, hkv127⟩ : ∃ z : Int32, z = (-1 : Int32) := ⟨_, rfl⟩
                      have d_kv127 := rd_Is eS126 hkv127
                      have ea3 := rf_I eS126 ea3
                      have ea113 := rf_I eS126 ea113
                      have ea116 := rf_I eS126 ea116
                      have l_a113 := ln_I eS126 l_a113
                      have l_a116 := ln_I eS126 l_a116
                      have g0 := gr_I eS126 g0
                      have o_a113 := ob_I eS126 o_a113
                      have o_a116 := ob_I eS126 o_a116
                      have o_a3 := ob_I eS126 o_a3
                      have o_v0 := ob_I eS126 o_v0
                      intro _
                      exact hq _ _ hI g0 f0
                    · refine ⟨fun c129 => ?_, fun c129 => ?_⟩
                      · intro _ _
                        refine ⟨(Or.inl rfl), ?_⟩
                        intro _ _
                        refine ⟨fun c132 => ?_, fun c132 => absurd (show ¬ (0 : Int32) = 0 from c132) (by decide)⟩
                        intro _
                        refine ⟨fun c134 => absurd (show (2 : Int32) ≤ 0 from c134) (by decide), fun c134 => ?_⟩
                        refine u_X11_refused ?_
                        refine u_X11_refused_0 ?_
                        refine ⟨o_v0, ?_⟩
                        intro S135 eS135
                        have hIn : IV S135 := by rw [eS135]; exact iv11_sI hI o_v0 (by decide) (nu_free (by decide))
                        have hI := hIn
                        have f0 := fr_I eS135 g0 f0 o_v0 (by decide)
                        have d_kv2 := rd_Ij eS135 (by decide) d_kv2
                        have d_x25 := rd_Ik eS135 o_v0 o_a3 (by decide) d_x25
                        have d_x51 := rd_Ik eS135 o_v0 o_a3 (by decide) d_x51
                        have d_x99 := rd_Ik eS135 o_v0 o_a3 (by decide) d_x99
                        obtain ⟨kv136, hkv136⟩ : ∃ z : Int32, z = (2 : Int32) := ⟨_, rfl⟩
                        have d_kv136 := rd_Is eS135 hkv136
                        have ea3 := rf_I eS135 ea3
                        have ea113 := rf_I eS135 ea113
                        have ea116 := rf_I eS135 ea116
                        have l_a113 := ln_I eS135 l_a113
                        have l_a116 := ln_I eS135 l_a116
                        have g0 := gr_I eS135 g0
                        have o_a113 := ob_I eS135 o_a113
                        have o_a116 := ob_I eS135 o_a116
                        have o_a3 := ob_I eS135 o_a3
                        have o_v0 := ob_I eS135 o_v0
                        intro S137 eS137
                        have hIn : IV S137 := by rw [eS137]; exact iv11_sI hI o_v0 (by decide) (nu_free (by decide))
                        have hI := hIn
                        have f0 := fr_I eS137 g0 f0 o_v0 (by decide)
                        have d_kv2 := rd_Ij eS137 (by decide) d_kv2
                        have d_x25 := rd_Ik eS137 o_v0 o_a3 (by decide) d_x25
                        have d_x51 := rd_Ik eS137 o_v0 o_a3 (by decide) d_x51
                        have d_x99 := rd_Ik eS137 o_v0 o_a3 (by decide) d_x99
                        have d_kv136 := rd_Ij eS137 (by decide) d_kv136
                        obtain ⟨kv138, hkv138⟩ : ∃ z : Int32, z = (-1 : Int32) := ⟨_, rfl⟩
                        have d_kv138 := rd_Is eS137 hkv138
                        have ea3 := rf_I eS137 ea3
                        have ea113 := rf_I eS137 ea113
                        have ea116 := rf_I eS137 ea116
                        have l_a113 := ln_I eS137 l_a113
                        have l_a116 := ln_I eS137 l_a116
                        have g0 := gr_I eS137 g0
                        have o_a113 := ob_I eS137 o_a113
                        have o_a116 := ob_I eS137 o_a116
                        have o_a3 := ob_I eS137 o_a3
                        have o_v0 := ob_I eS137 o_v0
                        intro _
                        exact hq _ _ hI g0 f0
                      · intro _ _
                        refine ⟨(Or.inr rfl), ?_⟩
                        intro _ _
                        refine ⟨fun c142 => absurd (show (1 : Int32) = 0 from c142) (by decide), fun c142 => ?_⟩
                        intro _
                        refine ⟨fun c144 => ?_, fun c144 => absurd (show ¬ (0 : Int32) ≤ 0 from c144) (by decide)⟩
                        refine m_X11_wetOf hI o_v0 (qm715 c14 r_x25 c26 c40 r_x51 c52 c64 c74 c88 r_x99 c100 g_x114 g_x117 c118 c129) (qm716 c14 r_x25 c26 c40 r_x51 c52 c64 c74 c88 r_x99 c100 g_x114 g_x117 c118 c129) (qm717 c14 r_x25 c26 c40 r_x51 c52 c64 c74 c88 r_x99 c100 g_x114 g_x117 c118 c129) (qm718 c14 r_x25 c26 c40 r_x51 c52 c64 c74 c88 r_x99 c100 g_x114 g_x117 c118 c129) ⟨_, ea3⟩ (fun x145 S146 hI2 g147 p_x145 => ?_)
                        subst p_x145
                        intro _
                        refine ⟨a3, ea3, ?_⟩
                        refine ⟨o_a3, ?_⟩
                        obtain ⟨a150, ea150, o_a150, l_a150⟩ := shl 33 rfl hI o_a3
                        refine ⟨a150, ea150, ?_⟩
                        refine ⟨o_a150, ?_⟩
                        refine ⟨(vin l_a150 (m := 6) (by decide) (qm719 c14 r_x25 c26 c40 r_x51 c52 c64 c74 c88 r_x99 c100 g_x114 g_x117 c118 c129)), ?_⟩
                        intro x151 ex151
                        refine m_X11_told hI o_v0 (qm720 c14 r_x25 c26 c40 r_x51 c52 c64 c74 c88 r_x99 c100 g_x114 g_x117 c118 c129) (fun x152 S153 hJ g154 fc155 => ?_)
                        have hI := hJ
                        have l_a113 := (gr_len g154 o_a113).trans l_a113
                        have l_a116 := (gr_len g154 o_a116).trans l_a116
                        have l_a150 := (gr_len g154 o_a150).trans l_a150
                        have d_kv2 := d_kv2.trans (fri_at fc155 (by decide) (by decide) o_v0).symm
                        have d_x25 := d_x25.trans (fri_at fc155 (by decide) (by decide) o_a3).symm
                        have d_x51 := d_x51.trans (fri_at fc155 (by decide) (by decide) o_a3).symm
                        have d_x99 := d_x99.trans (fri_at fc155 (by decide) (by decide) o_a3).symm
                        have ea3 := (frr_at fc155 (by decide) (by decide) o_v0).trans ea3
                        have ea113 := (frr_at fc155 (by decide) (by decide) o_a3).trans ea113
                        have ea116 := (frr_at fc155 (by decide) (by decide) o_a3).trans ea116
                        have ea150 := (frr_at fc155 (by decide) (by decide) o_a3).trans ea150
                        have f0 := fri_tr (S := S1) g0 f0 fc155 (by decide) (by decide)
                        have o_a113 := gr_ob g154 o_a113
                        have o_a116 := gr_ob g154 o_a116
                        have o_a150 := gr_ob g154 o_a150
                        have o_a3 := gr_ob g154 o_a3
                        have o_v0 := gr_ob g154 o_v0
                        have g0 := gr_tr (T := S1) g0 g154
                        intro _
                        exact hq _ _ hI g0 f0
