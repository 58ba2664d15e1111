set_option maxHeartbeats 4000000 in
set_option maxRecDepth 20000 in
theorem m_X11_trouble {v0 : Nat} {Q : Int32 → HS → Prop} {S : HS} (hI : IV S) (o_v0 : ob S v0 11)     (hq : ∀ (r : Int32) (T : HS), IV T → Gr S T → FRI [(11, 0)] [] S T → Q r T) : P_X11_trouble v0 Q S := by
  have g0 := gr_rf S
  have f0 := fri_rf [(11, 0)] [] S
  refine u_X11_trouble ?_
  refine u_X11_trouble_0 ?_
  refine ⟨o_v0, ?_⟩
  intro S1 eS1
  have hIn : IV S1 := by rw [eS1]; exact iv11_sI hI o_v0 (by decide) (nu_free (by decide))
  have hI := hIn
  have f0 := fr_I eS1 g0 f0 o_v0 (by decide)
  obtain ⟨kv2, hkv2⟩ : ∃ z : Int32, z = (0 : Int32) := ⟨_, rfl⟩
  have d_kv2 := rd_Is eS1 hkv2
  have g0 := gr_I eS1 g0
  have o_v0 := ob_I eS1 o_v0
  intro x3 ex3
  have d_x3 := ex3
  exact hq _ _ hI g0 f0
set_option maxHeartbeats 4000000 in
set_option maxRecDepth 20000 in
theorem m_X11_undo {v0 : Nat} {Q : Int32 → HS → Prop} {S : HS} (hI : IV S) (o_v0 : ob S v0 11)     (hq : ∀ (r : Int32) (T : HS), IV T → Gr S T → FRI [(11, 0), (11, 1), (11, 2), (11, 24)] [] S T → bl r → Q r T) : P_X11_undo v0 Q S := by
  have g0 := gr_rf S
  have f0 := fri_rf [(11, 0), (11, 1), (11, 2), (11, 24)] [] S
  refine u_X11_undo ?_
  refine u_X11_undo_0 ?_
  refine ⟨o_v0, ?_⟩
  intro S1 eS1
  have hIn : IV S1 := by rw [eS1]; exact iv11_sI hI o_v0 (by decide) (nu_free (by decide))
  have hI := hIn
  have f0 := fr_I eS1 g0 f0 o_v0 (by decide)
  obtain ⟨kv2, hkv2⟩ : ∃ z : Int32, z = (0 : Int32) := ⟨_, rfl⟩
  have d_kv2 := rd_Is eS1 hkv2
  have g0 := gr_I eS1 g0
  have o_v0 := ob_I eS1 o_v0
  refine u_X11_isDay ?_
  refine u_X11_isDay_0 ?_
  refine ⟨o_v0, ?_⟩
  refine ⟨fun e4 => ?_, fun a3 ea3 => ?_⟩
  · intro _ _
    refine ⟨fun c6 => ?_, fun c6 => absurd (show ¬ (0 : Int32) = 0 from c6) (by decide)⟩
    refine u_X11_undo_19 ?_
    refine ⟨o_v0, ?_⟩
    refine u_X11_denied ?_
    refine u_X11_denied_0 ?_
    refine ⟨o_v0, ?_⟩
    refine u_X11_refused ?_
    refine u_X11_refused_0 ?_
    refine ⟨o_v0, ?_⟩
    intro S7 eS7
    have hIn : IV S7 := by rw [eS7]; exact iv11_sI hI o_v0 (by decide) (nu_free (by decide))
    have hI := hIn
    have f0 := fr_I eS7 g0 f0 o_v0 (by decide)
    have d_kv2 := rd_Ij eS7 (by decide) d_kv2
    obtain ⟨kv8, hkv8⟩ : ∃ z : Int32, z = (6 : Int32) := ⟨_, rfl⟩
    have d_kv8 := rd_Is eS7 hkv8
    have g0 := gr_I eS7 g0
    have o_v0 := ob_I eS7 o_v0
    intro S9 eS9
    have hIn : IV S9 := by rw [eS9]; exact iv11_sI hI o_v0 (by decide) (nu_free (by decide))
    have hI := hIn
    have f0 := fr_I eS9 g0 f0 o_v0 (by decide)
    have d_kv2 := rd_Ij eS9 (by decide) d_kv2
    have d_kv8 := rd_Ij eS9 (by decide) d_kv8
    obtain ⟨kv10, hkv10⟩ : ∃ z : Int32, z = (-1 : Int32) := ⟨_, rfl⟩
    have d_kv10 := rd_Is eS9 hkv10
    have g0 := gr_I eS9 g0
    have o_v0 := ob_I eS9 o_v0
    intro _
    intro _ _
    refine ⟨(Or.inl rfl), ?_⟩
    exact hq _ _ hI g0 f0 (Or.inl rfl)
  · have o_a3 := ml_ob hI o_v0 ea3
    intro x13 ex13
    have r_x13 : (-2 : Int32) ≤ x13 ∧ x13 ≤ (3 : Int32) := by rw [ex13]; exact nu 26 rfl hI o_v0
    have d_x13 := ex13
    obtain ⟨kv14, d_kv14⟩ : ∃ z : Int32, z = fI S1 a3 4 := ⟨_, rfl⟩
    have r_kv14 : (0 : Int32) ≤ kv14 ∧ kv14 ≤ (4 : Int32) := by rw [d_kv14]; exact nu 20 rfl hI o_a3
    have wh_x13 : x13 = -2 ∨ (0 ≤ x13 ∧ x13 < kv14) := by rw [ex13, d_kv14]; exact ml_who hI o_v0 ea3
    refine ⟨fun c15 => ?_, fun c15 => ?_⟩
    · intro _ _
      refine ⟨fun c17 => ?_, fun c17 => absurd (show ¬ (0 : Int32) = 0 from c17) (by decide)⟩
      refine u_X11_undo_19 ?_
      refine ⟨o_v0, ?_⟩
      refine u_X11_denied ?_
      refine u_X11_denied_0 ?_
      refine ⟨o_v0, ?_⟩
      refine u_X11_refused ?_
      refine u_X11_refused_0 ?_
      refine ⟨o_v0, ?_⟩
      intro S18 eS18
      have hIn : IV S18 := by rw [eS18]; exact iv11_sI hI o_v0 (by decide) (nu_free (by decide))
      have hI := hIn
      have f0 := fr_I eS18 g0 f0 o_v0 (by decide)
      have d_kv2 := rd_Ij eS18 (by decide) d_kv2
      have d_x13 := rd_Ij eS18 (by decide) d_x13
      have d_kv14 := rd_Ik eS18 o_v0 o_a3 (by decide) d_kv14
      obtain ⟨kv19, hkv19⟩ : ∃ z : Int32, z = (6 : Int32) := ⟨_, rfl⟩
      have d_kv19 := rd_Is eS18 hkv19
      have ea3 := rf_I eS18 ea3
      have g0 := gr_I eS18 g0
      have o_a3 := ob_I eS18 o_a3
      have o_v0 := ob_I eS18 o_v0
      intro S20 eS20
      have hIn : IV S20 := by rw [eS20]; exact iv11_sI hI o_v0 (by decide) (nu_free (by decide))
      have hI := hIn
      have f0 := fr_I eS20 g0 f0 o_v0 (by decide)
      have d_kv2 := rd_Ij eS20 (by decide) d_kv2
      have d_x13 := rd_Ij eS20 (by decide) d_x13
      have d_kv14 := rd_Ik eS20 o_v0 o_a3 (by decide) d_kv14
      have d_kv19 := rd_Ij eS20 (by decide) d_kv19
      obtain ⟨kv21, hkv21⟩ : ∃ z : Int32, z = (-1 : Int32) := ⟨_, rfl⟩
      have d_kv21 := rd_Is eS20 hkv21
      have ea3 := rf_I eS20 ea3
      have g0 := gr_I eS20 g0
      have o_a3 := ob_I eS20 o_a3
      have o_v0 := ob_I eS20 o_v0
      intro _
      intro _ _
      refine ⟨(Or.inl rfl), ?_⟩
      exact hq _ _ hI g0 f0 (Or.inl rfl)
    · intro _ _
      refine ⟨fun c25 => absurd (show (1 : Int32) = 0 from c25) (by decide), fun c25 => ?_⟩
      intro x26 ex26
      have r_x26 : (0 : Int32) ≤ x26 ∧ x26 ≤ (16 : Int32) := by rw [ex26]; exact nu 27 rfl hI o_v0
      have d_x26 := ex26
      refine ⟨fun c27 => ?_, fun c27 => ?_⟩
      · intro x28 ex28
        have r_x28 : (0 : Int32) ≤ x28 ∧ x28 ≤ (16 : Int32) := by rw [ex28]; exact nu 27 rfl hI o_v0
        have q_x28 : x28 = x26 := ex28.trans d_x26.symm
        have d_x28 := ex28
        intro x29 ex29
        intro S30 eS30
        have hIn : IV S30 := by rw [eS30]; exact iv11_sI hI o_v0 (by decide) (nu_one (lo := (0 : Int32)) (hi := (16 : Int32)) (by decide) (qm527 r_x13 r_kv14 wh_x13 c15 r_x26 c27 r_x28 q_x28 ex29))
        have hI := hIn
        have f0 := fr_I eS30 g0 f0 o_v0 (by decide)
        have d_kv2 := rd_Ij eS30 (by decide) d_kv2
        have d_x13 := rd_Ij eS30 (by decide) d_x13
        have d_kv14 := rd_Ik eS30 o_v0 o_a3 (by decide) d_kv14
        have d_x29 := rd_Is eS30 (rfl : x29 = x29)
        have ea3 := rf_I eS30 ea3
        have g0 := gr_I eS30 g0
        have o_a3 := ob_I eS30 o_a3
        have o_v0 := ob_I eS30 o_v0
        refine i_X11_undo_38 (fun (y0 : Nat) (y1 : Int32) (Z : HS) => ((7 : Int32).toInt - y1.toInt).toNat) (fun (y0 : Nat) (y1 : Int32) (Z : HS) => (IV Z) ∧ (Gr S30 Z) ∧ (FRI [] [] S30 Z) ∧ (v0 = y0) ∧ (0 ≤ y1 ∧ y1 ≤ 7)) ?_ _ _ _ ⟨hI, (gr_rf _), (fri_rf _ _ _), rfl, (qm528 r_x13 r_kv14 wh_x13 c15 r_x26 c27 r_x28 q_x28 ex29)⟩
        intro w35 w37 S32 X38 ⟨hI, gL33, fL34, q36, i1u31⟩ ih39
        subst q36
        have d_kv2 := d_kv2.trans (fri_at fL34 (by decide) (by decide) o_v0).symm
        have d_x13 := d_x13.trans (fri_at fL34 (by decide) (by decide) o_v0).symm
        have d_kv14 := d_kv14.trans (fri_at fL34 (by decide) (by decide) o_a3).symm
        have d_x29 := d_x29.trans (fri_at fL34 (by decide) (by decide) o_v0).symm
        have ea3 := (frr_at fL34 (by decide) (by decide) o_v0).trans ea3
        have f0 := fri_tr (S := S30) g0 f0 fL34 (by decide) (by decide)
        have o_a3 := gr_ob gL33 o_a3
        have o_v0 := gr_ob gL33 o_v0
        have g0 := gr_tr (T := S30) g0 gL33
        refine u_X11_undo_38 ?_
        refine ⟨fun c40 => ?_, fun c40 => ?_⟩
        · refine ⟨o_v0, ?_⟩
          refine u_X11_granted ?_
          refine u_X11_granted_0 ?_
          refine ⟨o_v0, ?_⟩
          refine u_X11_good ?_
          refine u_X11_good_0 ?_
          refine ⟨o_v0, ?_⟩
          intro S41 eS41
          have hIn : IV S41 := by rw [eS41]; exact iv11_sI hI o_v0 (by decide) (nu_free (by decide))
          have hI := hIn
          have f0 := fr_I eS41 g0 f0 o_v0 (by decide)
          have d_kv2 := rd_Ij eS41 (by decide) d_kv2
          have d_x13 := rd_Ij eS41 (by decide) d_x13
          have d_kv14 := rd_Ik eS41 o_v0 o_a3 (by decide) d_kv14
          have d_x29 := rd_Ij eS41 (by decide) d_x29
          obtain ⟨kv42, hkv42⟩ : ∃ z : Int32, z = (0 : Int32) := ⟨_, rfl⟩
          have d_kv42 := rd_Is eS41 hkv42
          have ea3 := rf_I eS41 ea3
          have g0 := gr_I eS41 g0
          have o_a3 := ob_I eS41 o_a3
          have o_v0 := ob_I eS41 o_v0
          intro S43 eS43
          have hIn : IV S43 := by rw [eS43]; exact iv11_sI hI o_v0 (by decide) (nu_free (by decide))
          have hI := hIn
          have f0 := fr_I eS43 g0 f0 o_v0 (by decide)
          have d_kv2 := rd_Ij eS43 (by decide) d_kv2
          have d_x13 := rd_Ij eS43 (by decide) d_x13
          have d_kv14 := rd_Ik eS43 o_v0 o_a3 (by decide) d_kv14
          have d_x29 := rd_Ij eS43 (by decide) d_x29
          have d_kv42 := rd_Ij eS43 (by decide) d_kv42
          obtain ⟨kv44, hkv44⟩ : ∃ z : Int32, z = (-1 : Int32) := ⟨_, rfl⟩
          have d_kv44 := rd_Is eS43 hkv44
          have ea3 := rf_I eS43 ea3
          have g0 := gr_I eS43 g0
          have o_a3 := ob_I eS43 o_a3
          have o_v0 := ob_I eS43 o_v0
          intro _
          intro _ _
          refine ⟨(Or.inr rfl), ?_⟩
          exact hq _ _ hI g0 f0 (Or.inr rfl)
        · refine ⟨o_v0, ?_⟩
          obtain ⟨a47, ea47, o_a47, l_a47⟩ := shl 57 rfl hI o_v0
          refine ⟨a47, ea47, ?_⟩
          obtain ⟨a48, ea48, o_a48, l_a48⟩ := shl 58 rfl hI o_v0
          refine ⟨a48, ea48, ?_⟩
          intro x49 ex49
          have r_x49 : (0 : Int32) ≤ x49 ∧ x49 ≤ (16 : Int32) := by rw [ex49]; exact nu 27 rfl hI o_v0
          have q_x49 : x49 = x29 := ex49.trans d_x29.symm
          have d_x49 := ex49
          refine ⟨o_a48, ?_⟩
          intro x50 ex50
          refine ⟨(vin l_a48 (m := 112) (by decide) (qm529 r_x13 r_kv14 wh_x13 c15 r_x26 c27 r_x28 q_x28 ex29 i1u31 c40 r_x49 q_x49 ex50)), ?_⟩
          intro x51 ex51
          have de_x51 := ml_de hI o_v0 (j := 22) (by decide) ea48 x50.toNatClampNeg
          rw [← ex51] at de_x51
          refine ⟨o_a47, ?_⟩
          have i52 : vp_in w37 (hN _ a47) := (vin l_a47 (m := 7) (by decide) (qm530 r_x13 r_kv14 wh_x13 c15 r_x26 c27 r_x28 q_x28 ex29 i1u31 c40 r_x49 q_x49 ex50))
          refine ⟨i52, ?_⟩
          intro S53 eS53
          have hIn : IV S53 := by rw [eS53]; exact iv11_aD hI (de_tr de_x51 (md_mul (a := x49) (k := w37) ex50 (qm531 r_x13 r_kv14 wh_x13 c15 r_x26 c27 r_x28 q_x28 ex29 i1u31 c40 r_x49 q_x49 ex50) (qm532 r_x13 r_kv14 wh_x13 c15 r_x26 c27 r_x28 q_x28 ex29 i1u31 c40 r_x49 q_x49 ex50)).symm)
          have hI := hIn
          have f0 := fr_J eS53 f0
          have fL34 := fr_J eS53 fL34
          have d_kv2 := rd_J eS53 d_kv2
          have d_x13 := rd_J eS53 d_x13
          have d_kv14 := rd_J eS53 d_kv14
          have d_x49 := rd_J eS53 d_x49
          have ea3 := rf_J eS53 ea3
          have ea47 := rf_J eS53 ea47
          have ea48 := rf_J eS53 ea48
          have l_a47 := ln_J eS53 l_a47
          have l_a48 := ln_J eS53 l_a48
          have g0 := gr_J eS53 g0
          have gL33 := gr_J eS53 gL33
          have o_a3 := ob_J eS53 o_a3
          have o_a47 := ob_J eS53 o_a47
          have o_a48 := ob_J eS53 o_a48
          have o_v0 := ob_J eS53 o_v0
          intro x54 ex54
          exact ih39 _ _ _ ⟨hI, gL33, fL34, rfl, (qm533 r_x13 r_kv14 wh_x13 c15 r_x26 c27 r_x28 q_x28 ex29 i1u31 c40 r_x49 q_x49 ex50 ex54)⟩ (mu_up (qm534 r_x13 r_kv14 wh_x13 c15 r_x26 c27 r_x28 q_x28 ex29 i1u31 c40 r_x49 q_x49 ex50 ex54) (qm535 r_x13 r_kv14 wh_x13 c15 r_x26 c27 r_x28 q_x28 ex29 i1u31 c40 r_x49 q_x49 ex50 ex54))
      · refine u_X11_undo_19 ?_
        refine ⟨o_v0, ?_⟩
        refine u_X11_denied ?_
        refine u_X11_denied_0 ?_
        refine ⟨o_v0, ?_⟩
        refine u_X11_refused ?_
        refine u_X11_refused_0 ?_
        refine ⟨o_v0, ?_⟩
        intro S55 eS55
        have hIn : IV S55 := by rw [eS55]; exact iv11_sI hI o_v0 (by decide) (nu_free (by decide))
        have hI := hIn
        have f0 := fr_I eS55 g0 f0 o_v0 (by decide)
        have d_kv2 := rd_Ij eS55 (by decide) d_kv2
        have d_x13 := rd_Ij eS55 (by decide) d_x13
        have d_kv14 := rd_Ik eS55 o_v0 o_a3 (by decide) d_kv14
        have d_x26 := rd_Ij eS55 (by decide) d_x26
        obtain ⟨kv56, hkv56⟩ : ∃ z : Int32, z = (6 : Int32) := ⟨_, rfl⟩
        have d_kv56 := rd_Is eS55 hkv56
        have ea3 := rf_I eS55 ea3
        have g0 := gr_I eS55 g0
        have o_a3 := ob_I eS55 o_a3
        have o_v0 := ob_I eS55 o_v0
        intro S57 eS57
        have hIn : IV S57 := by rw [eS57]; exact iv11_sI hI o_v0 (by decide) (nu_free (by decide))
        have hI := hIn
        have f0 := fr_I eS57 g0 f0 o_v0 (by decide)
        have d_kv2 := rd_Ij eS57 (by decide) d_kv2
        have d_x13 := rd_Ij eS57 (by decide) d_x13
        have d_kv14 := rd_Ik eS57 o_v0 o_a3 (by decide) d_kv14
        have d_x26 := rd_Ij eS57 (by decide) d_x26
        have d_kv56 := rd_Ij eS57 (by decide) d_kv56
        obtain ⟨kv58, hkv58⟩ : ∃ z : Int32, z = (-1 : Int32) := ⟨_, rfl⟩
        have d_kv58 := rd_Is eS57 hkv58
        have ea3 := rf_I eS57 ea3
        have g0 := gr_I eS57 g0
        have o_a3 := ob_I eS57 o_a3
        have o_v0 := ob_I eS57 o_v0
        intro _
        intro _ _
        refine ⟨(Or.inl rfl), ?_⟩
        exact hq _ _ hI g0 f0 (Or.inl rfl)
set_option maxHeartbeats 4000000 in
set_option maxRecDepth 20000 in
theorem m_X11_walker {v0 : Nat} {v1 : Int32} {v2 : Int32} {Q : Int32 → HS → Prop} {S : HS} (hI : IV S) (o_v0 : ob S v0 11)     (hq : ∀ (r : Int32) (T : HS), IV T → Gr S T → FRI [(11, 0), (11, 1), (11, 2)] [] S T → Q r T) : P_X11_walker v0 v1 v2 Q S := by
  have g0 := gr_rf S
  have f0 := fri_rf [(11, 0), (11, 1), (11, 2)] [] S
  refine u_X11_walker ?_
  refine u_X11_walker_0 ?_
  refine ⟨o_v0, ?_⟩
  intro S1 eS1
  have hIn : IV S1 := by rw [eS1]; exact iv11_sI hI o_v0 (by decide) (nu_free (by decide))
  have hI := hIn
  have f0 := fr_I eS1 g0 f0 o_v0 (by decide)
  obtain ⟨kv2, hkv2⟩ : ∃ z : Int32, z = (0 : Int32) := ⟨_, rfl⟩
  have d_kv2 := rd_Is eS1 hkv2
  have g0 := gr_I eS1 g0
  have o_v0 := ob_I eS1 o_v0
  refine u_X11_isWalker ?_
  refine u_X11_isWalker_0 ?_
  refine ⟨o_v0, ?_⟩
  refine ⟨fun e4 => ?_, fun a3 ea3 => ?_⟩
  · intro _ _
    refine ⟨fun c6 => ?_, fun c6 => absurd (show ¬ (0 : Int32) = 0 from c6) (by decide)⟩
    refine u_X11_walker_23 ?_
    refine ⟨o_v0, ?_⟩
    refine u_X11_refused ?_
    refine u_X11_refused_0 ?_
    refine ⟨o_v0, ?_⟩
    intro S7 eS7
    have hIn : IV S7 := by rw [eS7]; exact iv11_sI hI o_v0 (by decide) (nu_free (by decide))
    have hI := hIn
    have f0 := fr_I eS7 g0 f0 o_v0 (by decide)
    have d_kv2 := rd_Ij eS7 (by decide) d_kv2
    obtain ⟨kv8, hkv8⟩ : ∃ z : Int32, z = (1 : Int32) := ⟨_, rfl⟩
    have d_kv8 := rd_Is eS7 hkv8
    have g0 := gr_I eS7 g0
    have o_v0 := ob_I eS7 o_v0
    intro S9 eS9
    have hIn : IV S9 := by rw [eS9]; exact iv11_sI hI o_v0 (by decide) (nu_free (by decide))
    have hI := hIn
    have f0 := fr_I eS9 g0 f0 o_v0 (by decide)
    have d_kv2 := rd_Ij eS9 (by decide) d_kv2
    have d_kv8 := rd_Ij eS9 (by decide) d_kv8
    obtain ⟨kv10, hkv10⟩ : ∃ z : Int32, z = (-1 : Int32) := ⟨_, rfl⟩
    have d_kv10 := rd_Is eS9 hkv10
    have g0 := gr_I eS9 g0
    have o_v0 := ob_I eS9 o_v0
    intro _
    exact hq _ _ hI g0 f0
  · have o_a3 := ml_ob hI o_v0 ea3
    refine ⟨fun c12 => ?_, fun c12 => ?_⟩
    · intro _ _
      refine ⟨fun c14 => ?_, fun c14 => absurd (show ¬ (0 : Int32) = 0 from c14) (by decide)⟩
      refine u_X11_walker_23 ?_
      refine ⟨o_v0, ?_⟩
      refine u_X11_refused ?_
      refine u_X11_refused_0 ?_
      refine ⟨o_v0, ?_⟩
      intro S15 eS15
      have hIn : IV S15 := by rw [eS15]; exact iv11_sI hI o_v0 (by decide) (nu_free (by decide))
      have hI := hIn
      have f0 := fr_I eS15 g0 f0 o_v0 (by decide)
      have d_kv2 := rd_Ij eS15 (by decide) d_kv2
      obtain ⟨kv16, hkv16⟩ : ∃ z : Int32, z = (1 : Int32) := ⟨_, rfl⟩
      have d_kv16 := rd_Is eS15 hkv16
      have ea3 := rf_I eS15 ea3
      have g0 := gr_I eS15 g0
      have o_a3 := ob_I eS15 o_a3
      have o_v0 := ob_I eS15 o_v0
      intro S17 eS17
      have hIn : IV S17 := by rw [eS17]; exact iv11_sI hI o_v0 (by decide) (nu_free (by decide))
      have hI := hIn
      have f0 := fr_I eS17 g0 f0 o_v0 (by decide)
      have d_kv2 := rd_Ij eS17 (by decide) d_kv2
      have d_kv16 := rd_Ij eS17 (by decide) d_kv16
      obtain ⟨kv18, hkv18⟩ : ∃ z : Int32, z = (-1 : Int32) := ⟨_, rfl⟩
      have d_kv18 := rd_Is eS17 hkv18
      have ea3 := rf_I eS17 ea3
      have g0 := gr_I eS17 g0
      have o_a3 := ob_I eS17 o_a3
      have o_v0 := ob_I eS17 o_v0
      intro _
      exact hq _ _ hI g0 f0
    · refine ⟨a3, ea3, ?_⟩
      refine ⟨o_a3, ?_⟩
      intro x21 ex21
      have r_x21 : (0 : Int32) ≤ x21 ∧ x21 ≤ (4 : Int32) := by rw [ex21]; exact nu 20 rfl hI o_a3
      have d_x21 := ex21
      refine ⟨fun c22 => ?_, fun c22 => ?_⟩
      · intro _ _
        refine ⟨fun c24 => ?_, fun c24 => absurd (show ¬ (0 : Int32) = 0 from c24) (by decide)⟩
        refine u_X11_walker_23 ?_
        refine ⟨o_v0, ?_⟩
        refine u_X11_refused ?_
        refine u_X11_refused_0 ?_
        refine ⟨o_v0, ?_⟩
        intro S25 eS25
        have hIn : IV S25 := by rw [eS25]; exact iv11_sI hI o_v0 (by decide) (nu_free (by decide))
        have hI := hIn
        have f0 := fr_I eS25 g0 f0 o_v0 (by decide)
        have d_kv2 := rd_Ij eS25 (by decide) d_kv2
        have d_x21 := rd_Ik eS25 o_v0 o_a3 (by decide) d_x21
        obtain ⟨kv26, hkv26⟩ : ∃ z : Int32, z = (1 : Int32) := ⟨_, rfl⟩
        have d_kv26 := rd_Is eS25 hkv26
        have ea3 := rf_I eS25 ea3
        have g0 := gr_I eS25 g0
        have o_a3 := ob_I eS25 o_a3
        have o_v0 := ob_I eS25 o_v0
        intro S27 eS27
        have hIn : IV S27 := by rw [eS27]; exact iv11_sI hI o_v0 (by decide) (nu_free (by decide))
        have hI := hIn
        have f0 := fr_I eS27 g0 f0 o_v0 (by decide)
        have d_kv2 := rd_Ij eS27 (by decide) d_kv2
        have d_x21 := rd_Ik eS27 o_v0 o_a3 (by decide) d_x21
        have d_kv26 := rd_Ij eS27 (by decide) d_kv26
        obtain ⟨kv28, hkv28⟩ : ∃ z : Int32, z = (-1 : Int32) := ⟨_, rfl⟩
        have d_kv28 := rd_Is eS27 hkv28
        have ea3 := rf_I eS27 ea3
        have g0 := gr_I eS27 g0
        have o_a3 := ob_I eS27 o_a3
        have o_v0 := ob_I eS27 o_v0
        intro _
        exact hq _ _ hI g0 f0
      · intro _ _
        refine ⟨fun c31 => absurd (show (1 : Int32) = 0 from c31) (by decide), fun c31 => ?_⟩
        refine u_X11_in ?_
        refine u_X11_in_0 ?_
        refine ⟨fun c32 => ?_, fun c32 => ?_⟩
        · intro _ _
          refine ⟨fun c34 => absurd (show ¬ (0 : Int32) = 0 from c34) (by decide), fun c34 => ?_⟩
          refine u_X11_walker_23 ?_
          refine ⟨o_v0, ?_⟩
          refine u_X11_refused ?_
          refine u_X11_refused_0 ?_
          refine ⟨o_v0, ?_⟩
          intro S35 eS35
          have hIn : IV S35 := by rw [eS35]; exact iv11_sI hI o_v0 (by decide) (nu_free (by decide))
          have hI := hIn
          have f0 := fr_I eS35 g0 f0 o_v0 (by decide)
          have d_kv2 := rd_Ij eS35 (by decide) d_kv2
          have d_x21 := rd_Ik eS35 o_v0 o_a3 (by decide) d_x21
          obtain ⟨kv36, hkv36⟩ : ∃ z : Int32, z = (1 : Int32) := ⟨_, rfl⟩
          have d_kv36 := rd_Is eS35 hkv36
          have ea3 := rf_I eS35 ea3
          have g0 := gr_I eS35 g0
          have o_a3 := ob_I eS35 o_a3
          have o_v0 := ob_I eS35 o_v0
          intro S37 eS37
          have hIn : IV S37 := by rw [eS37]; exact iv11_sI hI o_v0 (by decide) (nu_free (by decide))
          have hI := hIn
          have f0 := fr_I eS37 g0 f0 o_v0 (by decide)
          have d_kv2 := rd_Ij eS37 (by decide) d_kv2
          have d_x21 := rd_Ik eS37 o_v0 o_a3 (by decide) d_x21
          have d_kv36 := rd_Ij eS37 (by decide) d_kv36
          obtain ⟨kv38, hkv38⟩ : ∃ z : Int32, z = (-1 : Int32) := ⟨_, rfl⟩
          have d_kv38 := rd_Is eS37 hkv38
          have ea3 := rf_I eS37 ea3
          have g0 := gr_I eS37 g0
          have o_a3 := ob_I eS37 o_a3
          have o_v0 := ob_I eS37 o_v0
          intro _
          exact hq _ _ hI g0 f0
        · refine ⟨fun c40 => ?_, fun c40 => ?_⟩
          · intro _ _
            refine ⟨fun c42 => absurd (show ¬ (0 : Int32) = 0 from c42) (by decide), fun c42 => ?_⟩
            refine u_X11_walker_23 ?_
            refine ⟨o_v0, ?_⟩
            refine u_X11_refused ?_
            refine u_X11_refused_0 ?_
            refine ⟨o_v0, ?_⟩
            intro S43 eS43
            have hIn : IV S43 := by rw [eS43]; exact iv11_sI hI o_v0 (by decide) (nu_free (by decide))
            have hI := hIn
            have f0 := fr_I eS43 g0 f0 o_v0 (by decide)
            have d_kv2 := rd_Ij eS43 (by decide) d_kv2
            have d_x21 := rd_Ik eS43 o_v0 o_a3 (by decide) d_x21
            obtain ⟨kv44, hkv44⟩ : ∃ z : Int32, z = (1 : Int32) := ⟨_, rfl⟩
            have d_kv44 := rd_Is eS43 hkv44
            have ea3 := rf_I eS43 ea3
            have g0 := gr_I eS43 g0
            have o_a3 := ob_I eS43 o_a3
            have o_v0 := ob_I eS43 o_v0
            intro S45 eS45
            have hIn : IV S45 := by rw [eS45]; exact iv11_sI hI o_v0 (by decide) (nu_free (by decide))
            have hI := hIn
            have f0 := fr_I eS45 g0 f0 o_v0 (by decide)
            have d_kv2 := rd_Ij eS45 (by decide) d_kv2
            have d_x21 := rd_Ik eS45 o_v0 o_a3 (by decide) d_x21
            have d_kv44 := rd_Ij eS45 (by decide) d_kv44
            obtain ⟨kv46, hkv46⟩ : ∃ z : Int32, z = (-1 : Int32) := ⟨_, rfl⟩
            have d_kv46 := rd_Is eS45 hkv46
            have ea3 := rf_I eS45 ea3
            have g0 := gr_I eS45 g0
            have o_a3 := ob_I eS45 o_a3
            have o_v0 := ob_I eS45 o_v0
            intro _
            exact hq _ _ hI g0 f0
          · intro _ _
            refine ⟨fun c49 => ?_, fun c49 => absurd (show (1 : Int32) = 0 from c49) (by decide)⟩
            refine ⟨fun c50 => ?_, fun c50 => ?_, fun c50 => ?_, fun c50 => ?_, fun c50 => ?_, fun c50 => ?_, fun c50 => ?_⟩
            · refine ⟨a3, ea3, ?_⟩
              refine ⟨o_a3, ?_⟩
              obtain ⟨a52, ea52, o_a52, l_a52⟩ := shl 47 rfl hI o_a3
              refine ⟨a52, ea52, ?_⟩
              refine ⟨o_a52, ?_⟩
              refine ⟨(vin l_a52 (m := 4) (by decide) (qm539 c12 r_x21 c22 c32 c40)), ?_⟩
              intro x53 ex53
              refine u_X11_good ?_
              refine u_X11_good_0 ?_
              refine ⟨o_v0, ?_⟩
              intro S54 eS54
              have hIn : IV S54 := by rw [eS54]; exact iv11_sI hI o_v0 (by decide) (nu_free (by decide))
              have hI := hIn
              have f0 := fr_I eS54 g0 f0 o_v0 (by decide)
              have d_kv2 := rd_Ij eS54 (by decide) d_kv2
              have d_x21 := rd_Ik eS54 o_v0 o_a3 (by decide) d_x21
              obtain ⟨kv55, hkv55⟩ : ∃ z : Int32, z = (0 : Int32) := ⟨_, rfl⟩
              have d_kv55 := rd_Is eS54 hkv55
              have ea3 := rf_I eS54 ea3
              have ea52 := rf_I eS54 ea52
              have l_a52 := ln_I eS54 l_a52
              have g0 := gr_I eS54 g0
              have o_a3 := ob_I eS54 o_a3
              have o_a52 := ob_I eS54 o_a52
              have o_v0 := ob_I eS54 o_v0
              intro S56 eS56
              have hIn : IV S56 := by rw [eS56]; exact iv11_sI hI o_v0 (by decide) (nu_free (by decide))
              have hI := hIn
              have f0 := fr_I eS56 g0 f0 o_v0 (by decide)
              have d_kv2 := rd_Ij eS56 (by decide) d_kv2
              have d_x21 := rd_Ik eS56 o_v0 o_a3 (by decide) d_x21
              have d_kv55 := rd_Ij eS56 (by decide) d_kv55
              obtain ⟨kv57, hkv57⟩ : ∃ z : Int32, z = (-1 : Int32) := ⟨_, rfl⟩
              have d_kv57 := rd_Is eS56 hkv57
              have ea3 := rf_I eS56 ea3
              have ea52 := rf_I eS56 ea52
              have l_a52 := ln_I eS56 l_a52
              have g0 := gr_I eS56 g0
              have o_a3 := ob_I eS56 o_a3
              have o_a52 := ob_I eS56 o_a52
              have o_v0 := ob_I eS56 o_v0
              intro _
              exact hq _ _ hI g0 f0
            · refine ⟨a3, ea3, ?_⟩
              refine ⟨o_a3, ?_⟩
              obtain ⟨a60, ea60, o_a60, l_a60⟩ := shl 41 rfl hI o_a3
              refine ⟨a60, ea60, ?_⟩
              refine ⟨o_a60, ?_⟩
              refine ⟨(vin l_a60 (m := 4) (by decide) (qm539 c12 r_x21 c22 c32 c40)), ?_⟩
              intro x61 ex61
              refine u_X11_good ?_
              refine u_X11_good_0 ?_
              refine ⟨o_v0, ?_⟩
              intro S62 eS62
              have hIn : IV S62 := by rw [eS62]; exact iv11_sI hI o_v0 (by decide) (nu_free (by decide))
              have hI := hIn
              have f0 := fr_I eS62 g0 f0 o_v0 (by decide)
              have d_kv2 := rd_Ij eS62 (by decide) d_kv2
              have d_x21 := rd_Ik eS62 o_v0 o_a3 (by decide) d_x21
              obtain ⟨kv63, hkv63⟩ : ∃ z : Int32, z = (0 : Int32) := ⟨_, rfl⟩
              have d_kv63 := rd_Is eS62 hkv63
              have ea3 := rf_I eS62 ea3
              have ea60 := rf_I eS62 ea60
              have l_a60 := ln_I eS62 l_a60
              have g0 := gr_I eS62 g0
              have o_a3 := ob_I eS62 o_a3
              have o_a60 := ob_I eS62 o_a60
              have o_v0 := ob_I eS62 o_v0
              intro S64 eS64
              have hIn : IV S64 := by rw [eS64]; exact iv11_sI hI o_v0 (by decide) (nu_free (by decide))
              have hI := hIn
              have f0 := fr_I eS64 g0 f0 o_v0 (by decide)
              have d_kv2 := rd_Ij eS64 (by decide) d_kv2
              have d_x21 := rd_Ik eS64 o_v0 o_a3 (by decide) d_x21
              have d_kv63 := rd_Ij eS64 (by decide) d_kv63
              obtain ⟨kv65, hkv65⟩ : ∃ z : Int32, z = (-1 : Int32) := ⟨_, rfl⟩
              have d_kv65 := rd_Is eS64 hkv65
              have ea3 := rf_I eS64 ea3
              have ea60 := rf_I eS64 ea60
              have l_a60 := ln_I eS64 l_a60
              have g0 := gr_I eS64 g0
              have o_a3 := ob_I eS64 o_a3
              have o_a60 := ob_I eS64 o_a60
              have o_v0 := ob_I eS64 o_v0
              intro _
              exact hq _ _ hI g0 f0
            · refine ⟨a3, ea3, ?_⟩
              refine ⟨o_a3, ?_⟩
              obtain ⟨a68, ea68, o_a68, l_a68⟩ := shl 42 rfl hI o_a3
              refine ⟨a68, ea68, ?_⟩
              refine ⟨o_a68, ?_⟩
              refine ⟨(vin l_a68 (m := 4) (by decide) (qm539 c12 r_x21 c22 c32 c40)), ?_⟩
              intro x69 ex69
              refine u_X11_good ?_
              refine u_X11_good_0 ?_
              refine ⟨o_v0, ?_⟩
              intro S70 eS70
              have hIn : IV S70 := by rw [eS70]; exact iv11_sI hI o_v0 (by decide) (nu_free (by decide))
              have hI := hIn
              have f0 := fr_I eS70 g0 f0 o_v0 (by decide)
              have d_kv2 := rd_Ij eS70 (by decide) d_kv2
              have d_x21 := rd_Ik eS70 o_v0 o_a3 (by decide) d_x21
              obtain ⟨kv71, hkv71⟩ : ∃ z : Int32, z = (0 : Int32) := ⟨_, rfl⟩
              have d_kv71 := rd_Is eS70 hkv71
              have ea3 := rf_I eS70 ea3
              have ea68 := rf_I eS70 ea68
              have l_a68 := ln_I eS70 l_a68
              have g0 := gr_I eS70 g0
              have o_a3 := ob_I eS70 o_a3
              have o_a68 := ob_I eS70 o_a68
              have o_v0 := ob_I eS70 o_v0
              intro S72 eS72
              have hIn : IV S72 := by rw [eS72]; exact iv11_sI hI o_v0 (by decide) (nu_free (by decide))
              have hI := hIn
              have f0 := fr_I eS72 g0 f0 o_v0 (by decide)
              have d_kv2 := rd_Ij eS72 (by decide) d_kv2
              have d_x21 := rd_Ik eS72 o_v0 o_a3 (by decide) d_x21
              have d_kv71 := rd_Ij eS72 (by decide) d_kv71
              obtain ⟨kv73, hkv73⟩ : ∃ z : Int32, z = (-1 : Int32) := ⟨_, rfl⟩
              have d_kv73 := rd_Is eS72 hkv73
              have ea3 := rf_I eS72 ea3
              have ea68 := rf_I eS72 ea68
              have l_a68 := ln_I eS72 l_a68
              have g0 := gr_I eS72 g0
              have o_a3 := ob_I eS72 o_a3
              have o_a68 := ob_I eS72 o_a68
              have o_v0 := ob_I eS72 o_v0
              intro _
              exact hq _ _ hI g0 f0
            · refine ⟨a3, ea3, ?_⟩
              refine ⟨o_a3, ?_⟩
              obtain ⟨a76, ea76, o_a76, l_a76⟩ := shl 43 rfl hI o_a3
              refine ⟨a76, ea76, ?_⟩
              refine ⟨o_a76, ?_⟩
              refine ⟨(vin l_a76 (m := 4) (by decide) (qm539 c12 r_x21 c22 c32 c40)), ?_⟩
              intro x77 ex77
              refine u_X11_good ?_
              refine u_X11_good_0 ?_
              refine ⟨o_v0, ?_⟩
              intro S78 eS78
              have hIn : IV S78 := by rw [eS78]; exact iv11_sI hI o_v0 (by decide) (nu_free (by decide))
              have hI := hIn
              have f0 := fr_I eS78 g0 f0 o_v0 (by decide)
              have d_kv2 := rd_Ij eS78 (by decide) d_kv2
              have d_x21 := rd_Ik eS78 o_v0 o_a3 (by decide) d_x21
              obtain ⟨kv79, hkv79⟩ : ∃ z : Int32, z = (0 : Int32) := ⟨_, rfl⟩
              have d_kv79 := rd_Is eS78 hkv79
              have ea3 := rf_I eS78 ea3
              have ea76 := rf_I eS78 ea76
              have l_a76 := ln_I eS78 l_a76
              have g0 := gr_I eS78 g0
              have o_a3 := ob_I eS78 o_a3
              have o_a76 := ob_I eS78 o_a76
              have o_v0 := ob_I eS78 o_v0
              intro S80 eS80
              have hIn : IV S80 := by rw [eS80]; exact iv11_sI hI o_v0 (by decide) (nu_free (by decide))
              have hI := hIn
              have f0 := fr_I eS80 g0 f0 o_v0 (by decide)
              have d_kv2 := rd_Ij eS80 (by decide) d_kv2
              have d_x21 := rd_Ik eS80 o_v0 o_a3 (by decide) d_x21
              have d_kv79 := rd_Ij eS80 (by decide) d_kv79
              obtain ⟨kv81, hkv81⟩ : ∃ z : Int32, z = (-1 : Int32) := ⟨_, rfl⟩
              have d_kv81 := rd_Is eS80 hkv81
              have ea3 := rf_I eS80 ea3
              have ea76 := rf_I eS80 ea76
              have l_a76 := ln_I eS80 l_a76
              have g0 := gr_I eS80 g0
              have o_a3 := ob_I eS80 o_a3
              have o_a76 := ob_I eS80 o_a76
              have o_v0 := ob_I eS80 o_v0
              intro _
              exact hq _ _ hI g0 f0
            · refine ⟨a3, ea3, ?_⟩
              refine ⟨o_a3, ?_⟩
              obtain ⟨a84, ea84, o_a84, l_a84⟩ := shl 44 rfl hI o_a3
              refine ⟨a84, ea84, ?_⟩
              refine ⟨o_a84, ?_⟩
              refine ⟨(vin l_a84 (m := 4) (by decide) (qm539 c12 r_x21 c22 c32 c40)), ?_⟩
              intro x85 ex85
              refine u_X11_good ?_
              refine u_X11_good_0 ?_
              refine ⟨o_v0, ?_⟩
              intro S86 eS86
              have hIn : IV S86 := by rw [eS86]; exact iv11_sI hI o_v0 (by decide) (nu_free (by decide))
              have hI := hIn
              have f0 := fr_I eS86 g0 f0 o_v0 (by decide)
              have d_kv2 := rd_Ij eS86 (by decide) d_kv2
              have d_x21 := rd_Ik eS86 o_v0 o_a3 (by decide) d_x21
              obtain ⟨kv87, hkv87⟩ : ∃ z : Int32, z = (0 : Int32) := ⟨_, rfl⟩
              have d_kv87 := rd_Is eS86 hkv87
              have ea3 := rf_I eS86 ea3
              have ea84 := rf_I eS86 ea84
              have l_a84 := ln_I eS86 l_a84
              have g0 := gr_I eS86 g0
              have o_a3 := ob_I eS86 o_a3
              have o_a84 := ob_I eS86 o_a84
              have o_v0 := ob_I eS86 o_v0
              intro S88 eS88
              have hIn : IV S88 := by rw [eS88]; exact iv11_sI hI o_v0 (by decide) (nu_free (by decide))
              have hI := hIn
              have f0 := fr_I eS88 g0 f0 o_v0 (by decide)
              have d_kv2 := rd_Ij eS88 (by decide) d_kv2
              have d_x21 := rd_Ik eS88 o_v0 o_a3 (by decide) d_x21
              have d_kv87 := rd_Ij eS88 (by decide) d_kv87
              obtain ⟨kv89, hkv89⟩ : ∃ z : Int32, z = (-1 : Int32) := ⟨_, rfl⟩
              have d_kv89 := rd_Is eS88 hkv89
              have ea3 := rf_I eS88 ea3
              have ea84 := rf_I eS88 ea84
              have l_a84 := ln_I eS88 l_a84
              have g0 := gr_I eS88 g0
              have o_a3 := ob_I eS88 o_a3
              have o_a84 := ob_I eS88 o_a84
              have o_v0 := ob_I eS88 o_v0
              intro _
              exact hq _ _ hI g0 f0
            · refine ⟨a3, ea3, ?_⟩
              refine ⟨o_a3, ?_⟩
              obtain ⟨a92, ea92, o_a92, l_a92⟩ := shl 45 rfl hI o_a3
              refine ⟨a92, ea92, ?_⟩
              refine ⟨o_a92, ?_⟩
              refine ⟨(vin l_a92 (m := 4) (by decide) (qm539 c12 r_x21 c22 c32 c40)), ?_⟩
              intro x93 ex93
              refine u_X11_good ?_
              refine u_X11_good_0 ?_
              refine ⟨o_v0, ?_⟩
              intro S94 eS94
              have hIn : IV S94 := by rw [eS94]; exact iv11_sI hI o_v0 (by decide) (nu_free (by decide))
              have hI := hIn
              have f0 := fr_I eS94 g0 f0 o_v0 (by decide)
              have d_kv2 := rd_Ij eS94 (by decide) d_kv2
              have d_x21 := rd_Ik eS94 o_v0 o_a3 (by decide) d_x21
              obtain ⟨kv95, hkv95⟩ : ∃ z : Int32, z = (0 : Int32) := ⟨_, rfl⟩
              have d_kv95 := rd_Is eS94 hkv95
              have ea3 := rf_I eS94 ea3
              have ea92 := rf_I eS94 ea92
              have l_a92 := ln_I eS94 l_a92
              have g0 := gr_I eS94 g0
              have o_a3 := ob_I eS94 o_a3
              have o_a92 := ob_I eS94 o_a92
              have o_v0 := ob_I eS94 o_v0
              intro S96 eS96
              have hIn : IV S96 := by rw [eS96]; exact iv11_sI hI o_v0 (by decide) (nu_free (by decide))
              have hI := hIn
              have f0 := fr_I eS96 g0 f0 o_v0 (by decide)
              have d_kv2 := rd_Ij eS96 (by decide) d_kv2
              have d_x21 := rd_Ik eS96 o_v0 o_a3 (by decide) d_x21
              have d_kv95 := rd_Ij eS96 (by decide) d_kv95
              obtain ⟨kv97, hkv97⟩ : ∃ z : Int32, z = (-1 : Int32) := ⟨_, rfl⟩
              have d_kv97 := rd_Is eS96 hkv97
              have ea3 := rf_I eS96 ea3
              have ea92 := rf_I eS96 ea92
              have l_a92 := ln_I eS96 l_a92
              have g0 := gr_I eS96 g0
              have o_a3 := ob_I eS96 o_a3
              have o_a92 := ob_I eS96 o_a92
              have o_v0 := ob_I eS96 o_v0
              intro _
              exact hq _ _ hI g0 f0
            · refine ⟨a3, ea3, ?_⟩
              refine ⟨o_a3, ?_⟩
              obtain ⟨a100, ea100, o_a100, l_a100⟩ := shl 46 rfl hI o_a3
              refine ⟨a100, ea100, ?_⟩
              refine ⟨o_a100, ?_⟩
              refine ⟨(vin l_a100 (m := 4) (by decide) (qm539 c12 r_x21 c22 c32 c40)), ?_⟩
              intro x101 ex101
              refine u_X11_good ?_
              refine u_X11_good_0 ?_
              refine ⟨o_v0, ?_⟩
              intro S102 eS102
              have hIn : IV S102 := by rw [eS102]; exact iv11_sI hI o_v0 (by decide) (nu_free (by decide))
              have hI := hIn
              have f0 := fr_I eS102 g0 f0 o_v0 (by decide)
              have d_kv2 := rd_Ij eS102 (by decide) d_kv2
              have d_x21 := rd_Ik eS102 o_v0 o_a3 (by decide) d_x21
              obtain ⟨kv103, hkv103⟩ : ∃ z : Int32, z = (0 : Int32) := ⟨_, rfl⟩
              have d_kv103 := rd_Is eS102 hkv103
              have ea3 := rf_I eS102 ea3
              have ea100 := rf_I eS102 ea100
              have l_a100 := ln_I eS102 l_a100
              have g0 := gr_I eS102 g0
              have o_a100 := ob_I eS102 o_a100
              have o_a3 := ob_I eS102 o_a3
              have o_v0 := ob_I eS102 o_v0
              intro S104 eS104
              have hIn : IV S104 := by rw [eS104]; exact iv11_sI hI o_v0 (by decide) (nu_free (by decide))
              have hI := hIn
              have f0 := fr_I eS104 g0 f0 o_v0 (by decide)
              have d_kv2 := rd_Ij eS104 (by decide) d_kv2
              have d_x21 := rd_Ik eS104 o_v0 o_a3 (by decide) d_x21
              have d_kv103 := rd_Ij eS104 (by decide) d_kv103
              obtain ⟨kv105, hkv105⟩ : ∃ z : Int32, z = (-1 : Int32) := ⟨_, rfl⟩
              have d_kv105 := rd_Is eS104 hkv105
              have ea3 := rf_I eS104 ea3
              have ea100 := rf_I eS104 ea100
              have l_a100 := ln_I eS104 l_a100
              have g0 := gr_I eS104 g0
              have o_a100 := ob_I eS104 o_a100
              have o_a3 := ob_I eS104 o_a3
              have o_v0 := ob_I eS104 o_v0
              intro _
              exact hq _ _ hI g0 f0
set_option maxHeartbeats 4000000 in
set_option maxRecDepth 20000 in
theorem m_X11_wet {v0 : Nat} {v1 : Int32} {v2 : Int32} {v3 : Int32} {v4 : Int32} {v5 : Int32} {v6 : Int32} {Q : Int64 → HS → Prop} {S : HS} (hI : IV S) (o_v0 : ob S v0 11)     (hq : ∀ (r : Int64) (T : HS), IV T → Gr S T → FRI [(11, 0), (11, 1), (11, 2)] [] S T → Q r T) : P_X11_wet v0 v1 v2 v3 v4 v5 v6 Q S := by
  have g0 := gr_rf S
  have f0 := fri_rf [(11, 0), (11, 1), (11, 2)] [] S
  refine u_X11_wet ?_
  refine u_X11_wet_0 ?_
  refine ⟨o_v0, ?_⟩
  intro S1 eS1
  have hIn : IV S1 := by rw [eS1]; exact iv11_sI hI o_v0 (by decide) (nu_free (by decide))
  have hI := hIn
  have f0 := fr_I eS1 g0 f0 o_v0 (by decide)
  obtain ⟨kv2, hkv2⟩ : ∃ z : Int32, z = (0 : Int32) := ⟨_, rfl⟩
  have d_kv2 := rd_Is eS1 hkv2
  have g0 := gr_I eS1 g0
  have o_v0 := ob_I eS1 o_v0
  refine u_X11_refuses ?_
  refine u_X11_refuses_0 ?_
  refine ⟨o_v0, ?_⟩
  refine u_X11_isWalker ?_
  refine u_X11_isWalker_0 ?_
  refine ⟨o_v0, ?_⟩
  refine ⟨fun e4 => ?_, fun a3 ea3 => ?_⟩
  · intro _ _
    refine ⟨fun c6 => ?_, fun c6 => absurd (show ¬ (0 : Int32) = 0 from c6) (by decide)⟩
    intro _
    refine ⟨fun c8 => absurd (show (1 : Int32) ≤ 0 from c8) (by decide), fun c8 => ?_⟩
    refine u_X11_refused ?_
    refine u_X11_refused_0 ?_
    refine ⟨o_v0, ?_⟩
    intro S9 eS9
    have hIn : IV S9 := by rw [eS9]; exact iv11_sI hI o_v0 (by decide) (nu_free (by decide))
    have hI := hIn
    have f0 := fr_I eS9 g0 f0 o_v0 (by decide)
    have d_kv2 := rd_Ij eS9 (by decide) d_kv2
    obtain ⟨kv10, hkv10⟩ : ∃ z : Int32, z = (1 : Int32) := ⟨_, rfl⟩
    have d_kv10 := rd_Is eS9 hkv10
    have g0 := gr_I eS9 g0
    have o_v0 := ob_I eS9 o_v0
    intro S11 eS11
    have hIn : IV S11 := by rw [eS11]; exact iv11_sI hI o_v0 (by decide) (nu_free (by decide))
    have hI := hIn
    have f0 := fr_I eS11 g0 f0 o_v0 (by decide)
    have d_kv2 := rd_Ij eS11 (by decide) d_kv2
    have d_kv10 := rd_Ij eS11 (by decide) d_kv10
    obtain ⟨kv12, hkv12⟩ : ∃ z : Int32, z = (-1 : Int32) := ⟨_, rfl⟩
    have d_kv12 := rd_Is eS11 hkv12
    have g0 := gr_I eS11 g0
    have o_v0 := ob_I eS11 o_v0
    intro _
    exact hq _ _ hI g0 f0
  · have o_a3 := ml_ob hI o_v0 ea3
    refine ⟨fun c14 => ?_, fun c14 => ?_⟩
    · intro _ _
      refine ⟨fun c16 => ?_, fun c16 => absurd (show ¬ (0 : Int32) = 0 from c16) (by decide)⟩
      intro _
      refine ⟨fun c18 => absurd (show (1 : Int32) ≤ 0 from c18) (by decide), fun c18 => ?_⟩
      refine u_X11_refused ?_
      refine u_X11_refused_0 ?_
      refine ⟨o_v0, ?_⟩
      intro S19 eS19
      have hIn : IV S19 := by rw [eS19]; exact iv11_sI hI o_v0 (by decide) (nu_free (by decide))
      have hI := hIn
      have f0 := fr_I eS19 g0 f0 o_v0 (by decide)
      have d_kv2 := rd_Ij eS19 (by decide) d_kv2
      obtain ⟨kv20, hkv20⟩ : ∃ z : Int32, z = (1 : Int32) := ⟨_, rfl⟩
      have d_kv20 := rd_Is eS19 hkv20
      have ea3 := rf_I eS19 ea3
      have g0 := gr_I eS19 g0
      have o_a3 := ob_I eS19 o_a3
      have o_v0 := ob_I eS19 o_v0
      intro S21 eS21
      have hIn : IV S21 := by rw [eS21]; exact iv11_sI hI o_v0 (by decide) (nu_free (by decide))
      have hI := hIn
      have f0 := fr_I eS21 g0 f0 o_v0 (by decide)
      have d_kv2 := rd_Ij eS21 (by decide) d_kv2
      have d_kv20 := rd_Ij eS21 (by decide) d_kv20
      obtain ⟨kv22, hkv22⟩ : ∃ z : Int32, z = (-1 : Int32) := ⟨_, rfl⟩
      have d_kv22 := rd_Is eS21 hkv22
      have ea3 := rf_I eS21 ea3
      have g0 := gr_I eS21 g0
      have o_a3 := ob_I eS21 o_a3
      have o_v0 := ob_I eS21 o_v0
      intro _
      exact hq _ _ hI g0 f0
    · refine ⟨a3, ea3, ?_⟩
      refine ⟨o_a3, ?_⟩
      intro x25 ex25
      have r_x25 : (0 : Int32) ≤ x25 ∧ x25 ≤ (4 : Int32) := by rw [ex25]; exact nu 20 rfl hI o_a3
      have d_x25 := ex25
      refine ⟨fun c26 => ?_, fun c26 => ?_⟩
      · intro _ _
        refine ⟨fun c28 => ?_, fun c28 => absurd (show ¬ (0 : Int32) = 0 from c28) (by decide)⟩
        intro _
        refine ⟨fun c30 => absurd (show (1 : Int32) ≤ 0 from c30) (by decide), fun c30 => ?_⟩
        refine u_X11_refused ?_
        refine u_X11_refused_0 ?_
        refine ⟨o_v0, ?_⟩
        intro S31 eS31
        have hIn : IV S31 := by rw [eS31]; exact iv11_sI hI o_v0 (by decide) (nu_free (by decide))
        have hI := hIn
        have f0 := fr_I eS31 g0 f0 o_v0 (by decide)
        have d_kv2 := rd_Ij eS31 (by decide) d_kv2
        have d_x25 := rd_Ik eS31 o_v0 o_a3 (by decide) d_x25
        obtain ⟨kv32, hkv32⟩ : ∃ z : Int32, z = (1 : Int32) := ⟨_, rfl⟩
        have d_kv32 := rd_Is eS31 hkv32
        have ea3 := rf_I eS31 ea3
        have g0 := gr_I eS31 g0
        have o_a3 := ob_I eS31 o_a3
        have o_v0 := ob_I eS31 o_v0
        intro S33 eS33
        have hIn : IV S33 := by rw [eS33]; exact iv11_sI hI o_v0 (by decide) (nu_free (by decide))
        have hI := hIn
        have f0 := fr_I eS33 g0 f0 o_v0 (by decide)
        have d_kv2 := rd_Ij eS33 (by decide) d_kv2
        have d_x25 := rd_Ik eS33 o_v0 o_a3 (by decide) d_x25
        have d_kv32 := rd_Ij eS33 (by decide) d_kv32
        obtain ⟨kv34, hkv34⟩ : ∃ z : Int32, z = (-1 : Int32) := ⟨_, rfl⟩
        have d_kv34 := rd_Is eS33 hkv34
        have ea3 := rf_I eS33 ea3
        have g0 := gr_I eS33 g0
        have o_a3 := ob_I eS33 o_a3
        have o_v0 := ob_I eS33 o_v0
        intro _
        exact hq _ _ hI g0 f0
      · intro _ _
        refine ⟨fun c37 => absurd (show (1 : Int32) = 0 from c37) (by decide), fun c37 => ?_⟩
        refine u_X11_isRoad ?_
        refine u_X11_isRoad_0 ?_
        refine ⟨o_v0, ?_⟩
        refine ⟨fun e39 => (nomatch (e39.symm.trans ea3)), fun a38 ea38 => ?_⟩
        obtain rfl : a3 = a38 := Option.some.inj (ea3.symm.trans ea38)
        refine ⟨fun c40 => ?_, fun c40 => ?_⟩
        · intro _ _
          refine ⟨fun c42 => ?_, fun c42 => absurd (show ¬ (0 : Int32) = 0 from c42) (by decide)⟩
          intro _
          refine ⟨fun c44 => absurd (show (1 : Int32) ≤ 0 from c44) (by decide), fun c44 => ?_⟩
          refine u_X11_refused ?_
          refine u_X11_refused_0 ?_
          refine ⟨o_v0, ?_⟩
          intro S45 eS45
          have hIn : IV S45 := by rw [eS45]; exact iv11_sI hI o_v0 (by decide) (nu_free (by decide))
          have hI := hIn
          have f0 := fr_I eS45 g0 f0 o_v0 (by decide)
          have d_kv2 := rd_Ij eS45 (by decide) d_kv2
          have d_x25 := rd_Ik eS45 o_v0 o_a3 (by decide) d_x25
          obtain ⟨kv46, hkv46⟩ : ∃ z : Int32, z = (1 : Int32) := ⟨_, rfl⟩
          have d_kv46 := rd_Is eS45 hkv46
          have ea3 := rf_I eS45 ea3
          have g0 := gr_I eS45 g0
          have o_a3 := ob_I eS45 o_a3
          have o_v0 := ob_I eS45 o_v0
          intro S47 eS47
          have hIn : IV S47 := by rw [eS47]; exact iv11_sI hI o_v0 (by decide) (nu_free (by decide))
          have hI := hIn
          have f0 := fr_I eS47 g0 f0 o_v0 (by decide)
          have d_kv2 := rd_Ij eS47 (by decide) d_kv2
          have d_x25 := rd_Ik eS47 o_v0 o_a3 (by decide) d_x25
          have d_kv46 := rd_Ij eS47 (by decide) d_kv46
          obtain ⟨kv48, hkv48⟩ : ∃ z : Int32, z = (-1 : Int32) := ⟨_, rfl⟩
          have d_kv48 := rd_Is eS47 hkv48
          have ea3 := rf_I eS47 ea3
          have g0 := gr_I eS47 g0
          have o_a3 := ob_I eS47 o_a3
          have o_v0 := ob_I eS47 o_v0
          intro _
          exact hq _ _ hI g0 f0
        · refine ⟨a3, ea3, ?_⟩
          refine ⟨o_a3, ?_⟩
          intro x51 ex51
          have r_x51 : (0 : Int32) ≤ x51 ∧ x51 ≤ (12 : Int32) := by rw [ex51]; exact nu 19 rfl hI o_a3
          have d_x51 := ex51
          refine ⟨fun c52 => ?_, fun c52 => ?_⟩
          · intro _ _
            refine ⟨fun c54 => ?_, fun c54 => absurd (show ¬ (0 : Int32) = 0 from c54) (by decide)⟩
            intro _
            refine ⟨fun c56 => absurd (show (1 : Int32) ≤ 0 from c56) (by decide), fun c56 => ?_⟩
            refine u_X11_refused ?_
            refine u_X11_refused_0 ?_
            refine ⟨o_v0, ?_⟩
            intro S57 eS57
            have hIn : IV S57 := by rw [eS57]; exact iv11_sI hI o_v0 (by decide) (nu_free (by decide))
            have hI := hIn
            have f0 := fr_I eS57 g0 f0 o_v0 (by decide)
            have d_kv2 := rd_Ij eS57 (by decide) d_kv2
            have d_x25 := rd_Ik eS57 o_v0 o_a3 (by decide) d_x25
            have d_x51 := rd_Ik eS57 o_v0 o_a3 (by decide) d_x51
            obtain ⟨kv58, hkv58⟩ : ∃ z : Int32, z = (1 : Int32) := ⟨_, rfl⟩
            have d_kv58 := rd_Is eS57 hkv58
            have ea3 := rf_I eS57 ea3
            have g0 := gr_I eS57 g0
            have o_a3 := ob_I eS57 o_a3
            have o_v0 := ob_I eS57 o_v0
            intro S59 eS59
            have hIn : IV S59 := by rw [eS59]; exact iv11_sI hI o_v0 (by decide) (nu_free (by decide))
            have hI := hIn
            have f0 := fr_I eS59 g0 f0 o_v0 (by decide)
            have d_kv2 := rd_Ij eS59 (by decide) d_kv2
            have d_x25 := rd_Ik eS59 o_v0 o_a3 (by decide) d_x25
            have d_x51 := rd_Ik eS59 o_v0 o_a3 (by decide) d_x51
            have d_kv58 := rd_Ij eS59 (by decide) d_kv58
            obtain ⟨kv60, hkv60⟩ : ∃ z : Int32, z = (-1 : Int32) := ⟨_, rfl⟩
            have d_kv60 := rd_Is eS59 hkv60
            have ea3 := rf_I eS59 ea3
            have g0 := gr_I eS59 g0
            have o_a3 := ob_I eS59 o_a3
            have o_v0 := ob_I eS59 o_v0
            intro _
            exact hq _ _ hI g0 f0
          · intro _ _
            refine ⟨fun c63 => absurd (show (1 : Int32) = 0 from c63) (by decide), fun c63 => ?_⟩
            refine u_X11_in ?_
            refine u_X11_in_0 ?_
            refine ⟨fun c64 => ?_, fun c64 => ?_⟩
            · intro _ _
              refine ⟨fun c66 => ?_, fun c66 => absurd (show ¬ (0 : Int32) = 0 from c66) (by decide)⟩
              intro _
              refine ⟨fun c68 => absurd (show (1 : Int32) ≤ 0 from c68) (by decide), fun c68 => ?_⟩
              refine u_X11_refused ?_
              refine u_X11_refused_0 ?_
              refine ⟨o_v0, ?_⟩
              intro S69 eS69
              have hIn : IV S69 := by rw [eS69]; exact iv11_sI hI o_v0 (by decide) (nu_free (by decide))
              have hI := hIn
              have f0 := fr_I eS69 g0 f0 o_v0 (by decide)
              have d_kv2 := rd_Ij eS69 (by decide) d_kv2
              have d_x25 := rd_Ik eS69 o_v0 o_a3 (by decide) d_x25
              have d_x51 := rd_Ik eS69 o_v0 o_a3 (by decide) d_x51
              obtain ⟨kv70, hkv70⟩ : ∃ z : Int32, z = (1 : Int32) := ⟨_, rfl⟩
              have d_kv70 := rd_Is eS69 hkv70
              have ea3 := rf_I eS69 ea3
              have g0 := gr_I eS69 g0
              have o_a3 := ob_I eS69 o_a3
              have o_v0 := ob_I eS69 o_v0
              intro S71 eS71
              have hIn : IV S71 := by rw [eS71]; exact iv11_sI hI o_v0 (by decide) (nu_free (by decide))
              have hI := hIn
              have f0 := fr_I eS71 g0 f0 o_v0 (by decide)
              have d_kv2 := rd_Ij eS71 (by decide) d_kv2
              have d_x25 := rd_Ik eS71 o_v0 o_a3 (by decide) d_x25
              have d_x51 := rd_Ik eS71 o_v0 o_a3 (by decide) d_x51
              have d_kv70 := rd_Ij eS71 (by decide) d_kv70
              obtain ⟨kv72, hkv72⟩ : ∃ z : Int32, z = (-1 : Int32) := ⟨_, rfl⟩
              have d_kv72 := rd_Is eS71 hkv72
              have ea3 := rf_I eS71 ea3
              have g0 := gr_I eS71 g0
              have o_a3 := ob_I eS71 o_a3
              have o_v0 := ob_I eS71 o_v0
              intro _
              exact hq _ _ hI g0 f0
            · refine ⟨fun c74 => ?_, fun c74 => ?_⟩
              · intro _ _
                refine ⟨fun c76 => ?_, fun c76 => absurd (show ¬ (0 : Int32) = 0 from c76) (by decide)⟩
                intro _
                refine ⟨fun c78 => absurd (show (1 : Int32) ≤ 0 from c78) (by decide), fun c78 => ?_⟩
                refine u_X11_refused ?_
                refine u_X11_refused_0 ?_
                refine ⟨o_v0, ?_⟩
                intro S79 eS79
                have hIn : IV S79 := by rw [eS79]; exact iv11_sI hI o_v0 (by decide) (nu_free (by decide))
                have hI := hIn
                have f0 := fr_I eS79 g0 f0 o_v0 (by decide)
                have d_kv2 := rd_Ij eS79 (by decide) d_kv2
                have d_x25 := rd_Ik eS79 o_v0 o_a3 (by decide) d_x25
                have d_x51 := rd_Ik eS79 o_v0 o_a3 (by decide) d_x51
                obtain ⟨kv80, hkv80⟩ : ∃ z : Int32, z = (1 : Int32) := ⟨_, rfl⟩
                have d_kv80 := rd_Is eS79 hkv80
                have ea3 := rf_I eS79 ea3
                have g0 := gr_I eS79 g0
                have o_a3 := ob_I eS79 o_a3
                have o_v0 := ob_I eS79 o_v0
                intro S81 eS81
                have hIn : IV S81 := by rw [eS81]; exact iv11_sI hI o_v0 (by decide) (nu_free (by decide))
                have hI := hIn
                have f0 := fr_I eS81 g0 f0 o_v0 (by decide)
                have d_kv2 := rd_Ij eS81 (by decide) d_kv2
                have d_x25 := rd_Ik eS81 o_v0 o_a3 (by decide) d_x25
                have d_x51 := rd_Ik eS81 o_v0 o_a3 (by decide) d_x51
                have d_kv80 := rd_Ij eS81 (by decide) d_kv80
                obtain ⟨kv82, hkv82⟩ : ∃ z : Int32, z = (-1 : Int32) := ⟨_, rfl⟩
                have d_kv82 := rd_Is eS81 hkv82
                have ea3 := rf_I eS81 ea3
                have g0 := gr_I eS81 g0
                have o_a3 := ob_I eS81 o_a3
                have o_v0 := ob_I eS81 o_v0
                intro _
                exact hq _ _ hI g0 f0
              · intro _ _
                refine ⟨fun c85 => absurd (show (1 : Int32) = 0 from c85) (by decide), fun c85 => ?_⟩
                refine u_X11_isHour ?_
                refine u_X11_isHour_0 ?_
                refine ⟨o_v0, ?_⟩
                refine ⟨fun e87 => (nomatch (e87.symm.trans ea3)), fun a86 ea86 => ?_⟩
                obtain rfl : a3 = a86 := Option.some.inj (ea3.symm.trans ea86)
                refine ⟨fun c88 => ?_, fun c88 => ?_⟩
                · intro _ _
                  refine ⟨fun c90 => absurd (show ¬ (0 : Int32) = 0 from c90) (by decide), fun c90 => ?_⟩
                  intro _
                  refine ⟨fun c92 => absurd (show (1 : Int32) ≤ 0 from c92) (by decide), fun c92 => ?_⟩
                  refine u_X11_refused ?_
                  refine u_X11_refused_0 ?_
                  refine ⟨o_v0, ?_⟩
                  intro S93 eS93
                  have hIn : IV S93 := by rw [eS93]; exact iv11_sI hI o_v0 (by decide) (nu_free (by decide))
                  have hI := hIn
                  have f0 := fr_I eS93 g0 f0 o_v0 (by decide)
                  have d_kv2 := rd_Ij eS93 (by decide) d_kv2
                  have d_x25 := rd_Ik eS93 o_v0 o_a3 (by decide) d_x25
                  have d_x51 := rd_Ik eS93 o_v0 o_a3 (by decide) d_x51
                  obtain ⟨kv94, hkv94⟩ : ∃ z : Int32, z = (1 : Int32) := ⟨_, rfl⟩
                  have d_kv94 := rd_Is eS93 hkv94
                  have ea3 := rf_I eS93 ea3
                  have g0 := gr_I eS93 g0
                  have o_a3 := ob_I eS93 o_a3
                  have o_v0 := ob_I eS93 o_v0
                  intro S95 eS95
                  have hIn : IV S95 := by rw [eS95]; exact iv11_sI hI o_v0 (by decide) (nu_free (by decide))
                  have hI := hIn
                  have f0 := fr_I eS95 g0 f0 o_v0 (by decide)
                  have d_kv2 := rd_Ij eS95 (by decide) d_kv2
                  have d_x25 := rd_Ik eS95 o_v0 o_a3 (by decide) d_x25
                  have d_x51 := rd_Ik eS95 o_v0 o_a3 (by decide) d_x51
                  have d_kv94 := rd_Ij eS95 (by decide) d_kv94
                  obtain ⟨kv96, hkv96⟩ : ∃ z : Int32, z = (-1 : Int32) := ⟨_, rfl⟩
                  have d_kv96 := rd_Is eS95 hkv96
                  have ea3 := rf_I eS95 ea3
                  have g0 := gr_I eS95 g0
                  have o_a3 := ob_I eS95 o_a3
                  have o_v0 := ob_I eS95 o_v0
                  intro _
                  exact hq _ _ hI g0 f0
                · refine ⟨a3, ea3, ?_⟩
                  refine ⟨o_a3, ?_⟩
                  intro x99 ex99
                  have r_x99 : (0 : Int32) ≤ x99 ∧ x99 ≤ (6 : Int32) := by rw [ex99]; exact nu 17 rfl hI o_a3
                  have d_x99 := ex99
                  refine ⟨fun c100 => ?_, fun c100 => ?_⟩
                  · intro _ _
                    refine ⟨fun c102 => absurd (show ¬ (0 : Int32) = 0 from c102) (by decide), fun c102 => ?_⟩
                    intro _
                    refine ⟨fun c104 => absurd (show (1 : Int32) ≤ 0 from c104) (by decide), fun c104 => ?_⟩
                    refine u_X11_refused ?_
                    refine u_X11_refused_0 ?_
                    refine ⟨o_v0, ?_⟩
                    intro S105 eS105
                    have hIn : IV S105 := by rw [eS105]; exact iv11_sI hI o_v0 (by decide) (nu_free (by decide))
                    have hI := hIn
                    have f0 := fr_I eS105 g0 f0 o_v0 (by decide)
                    have d_kv2 := rd_Ij eS105 (by decide) d_kv2
                    have d_x25 := rd_Ik eS105 o_v0 o_a3 (by decide) d_x25
                    have d_x51 := rd_Ik eS105 o_v0 o_a3 (by decide) d_x51
                    have d_x99 := rd_Ik eS105 o_v0 o_a3 (by decide) d_x99
                    obtain ⟨kv106, hkv106⟩ : ∃ z : Int32, z = (1 : Int32) := ⟨_, rfl⟩
                    have d_kv106 := rd_Is eS105 hkv106
                    have ea3 := rf_I eS105 ea3
                    have g0 := gr_I eS105 g0
                    have o_a3 := ob_I eS105 o_a3
                    have o_v0 := ob_I eS105 o_v0
                    intro S107 eS107
                    have hIn : IV S107 := by rw [eS107]; exact iv11_sI hI o_v0 (by decide) (nu_free (by decide))
                    have hI := hIn
                    have f0 := fr_I eS107 g0 f0 o_v0 (by decide)
                    have d_kv2 := rd_Ij eS107 (by decide) d_kv2
                    have d_x25 := rd_Ik eS107 o_v0 o_a3 (by decide) d_x25
                    have d_x51 := rd_Ik eS107 o_v0 o_a3 (by decide) d_x51
                    have d_x99 := rd_Ik eS107 o_v0 o_a3 (by decide) d_x99
                    have d_kv106 := rd_Ij eS107 (by decide) d_kv106
                    obtain ⟨kv108, hkv108⟩ : ∃ z : Int32, z = (-1 : Int32) := ⟨_, rfl⟩
                    have d_kv108 := rd_Is eS107 hkv108
                    have ea3 := rf_I eS107 ea3
                    have g0 := gr_I eS107 g0
                    have o_a3 := ob_I eS107 o_a3
                    have o_v0 := ob_I eS107 o_v0
                    intro _
                    exact hq _ _ hI g0 f0
                  · intro _ _
                    refine ⟨fun c111 => ?_, fun c111 => absurd (show (1 : Int32) = 0 from c111) (by decide)⟩
                    refine u_X11_isSpeed ?_
                    refine u_X11_isSpeed_0 ?_
                    refine ⟨o_v0, ?_⟩
                    refine ⟨a3, ea3, ?_⟩
                    refine ⟨o_a3, ?_⟩
                    obtain ⟨a113, ea113, o_a113, l_a113⟩ := shl 46 rfl hI o_a3
                    refine ⟨a113, ea113, ?_⟩
                    refine ⟨o_a113, ?_⟩
                    refine ⟨(vin l_a113 (m := 4) (by decide) (qm664 c14 r_x25 c26 c40 r_x51 c52 c64 c74 c88 r_x99 c100)), ?_⟩
                    intro x114 ex114
                    have gy_x114 : 0 ≤ v1 ∧ v1 < fI S1 a3 4 := by rw [← d_x25]; exact (qm665 c14 r_x25 c26 c40 r_x51 c52 c64 c74 c88 r_x99 c100)
                    have g_x114 : (1 : Int32) ≤ x114 ∧ x114 ≤ (9 : Int32) := by rw [ex114]; exact wg_at (ml_wg hI o_v0 ea3) 3 rfl gy_x114 ea113
                    refine ⟨a3, ea3, ?_⟩
                    refine ⟨o_a3, ?_⟩
                    obtain ⟨a116, ea116, o_a116, l_a116⟩ := shl 47 rfl hI o_a3
                    refine ⟨a116, ea116, ?_⟩
                    refine ⟨o_a116, ?_⟩
                    refine ⟨(vin l_a116 (m := 4) (by decide) (qm664 c14 r_x25 c26 c40 r_x51 c52 c64 c74 c88 r_x99 c100)), ?_⟩
                    intro x117 ex117
                    have gy_x117 : 0 ≤ v1 ∧ v1 < fI S1 a3 4 := by rw [← d_x25]; exact (qm665 c14 r_x25 c26 c40 r_x51 c52 c64 c74 c88 r_x99 c100)
                    have g_x117 : (0 : Int32) ≤ x117 ∧ x117 ≤ (9 : Int32) := by rw [ex117]; exact wg_at (ml_wg hI o_v0 ea3) 4 rfl gy_x117 ea116
                    refine u_X11_in ?_
                    refine u_X11_in_0 ?_
                    refine ⟨fun c118 => ?_, fun c118 => ?_⟩
                    · intro _ _
                      refine ⟨(Or.inl rfl), ?_⟩
                      intro _ _
                      refine ⟨fun c121 => ?_, fun c121 => absurd (show ¬ (0 : Int32) = 0 from c121) (by decide)⟩
                      intro _
                      refine ⟨fun c123 => absurd (show (2 : Int32) ≤ 0 from c123) (by decide), fun c123 => ?_⟩
                      refine u_X11_refused ?_
                      refine u_X11_refused_0 ?_
                      refine ⟨o_v0, ?_⟩
                      intro S124 eS124
                      have hIn : IV S124 := by rw [eS124]; exact iv11_sI hI o_v0 (by decide) (nu_free (by decide))
                      have hI := hIn
                      have f0 := fr_I eS124 g0 f0 o_v0 (by decide)
                      have d_kv2 := rd_Ij eS124 (by decide) d_kv2
                      have d_x25 := rd_Ik eS124 o_v0 o_a3 (by decide) d_x25
                      have d_x51 := rd_Ik eS124 o_v0 o_a3 (by decide) d_x51
                      have d_x99 := rd_Ik eS124 o_v0 o_a3 (by decide) d_x99
                      obtain ⟨kv125, hkv125⟩ : ∃ z : Int32, z = (2 : Int32) := ⟨_, rfl⟩
                      have d_kv125 := rd_Is eS124 hkv125
                      have ea3 := rf_I eS124 ea3
                      have ea113 := rf_I eS124 ea113
                      have ea116 := rf_I eS124 ea116
                      have l_a113 := ln_I eS124 l_a113
                      have l_a116 := ln_I eS124 l_a116
                      have g0 := gr_I eS124 g0
                      have o_a113 := ob_I eS124 o_a113
                      have o_a116 := ob_I eS124 o_a116
                      have o_a3 := ob_I eS124 o_a3
                      have o_v0 := ob_I eS124 o_v0
                      intro S126 eS126
                      have hIn : IV S126 := by rw [eS126]; exact iv11_sI hI o_v0 (by decide) (nu_free (by decide))
                      have hI := hIn
                      have f0 := fr_I eS126 g0 f0 o_v0 (by decide)
                      have d_kv2 := rd_Ij eS126 (by decide) d_kv2
                      have d_x25 := rd_Ik eS126 o_v0 o_a3 (by decide) d_x25
                      have d_x51 := rd_Ik eS126 o_v0 o_a3 (by decide) d_x51
                      have d_x99 := rd_Ik eS126 o_v0 o_a3 (by decide) d_x99
                      have d_kv125 := rd_Ij eS126 (by decide) d_kv125
                      obtain ⟨kv127, hkv127⟩ : ∃ z : Int32, z = (-1 : Int32) := ⟨_, rfl⟩
                      have d_kv127 := rd_Is eS126 hkv127
                      have ea3 := rf_I eS126 ea3
                      have ea113 := rf_I eS126 ea113
                      have ea116 := rf_I eS126 ea116
                      have l_a113 := ln_I eS126 l_a113
                      have l_a116 := ln_I eS126 l_a116
                      have g0 := gr_I eS126 g0
                      have o_a113 := ob_I eS126 o_a113
                      have o_a116 := ob_I eS126 o_a116
                      have o_a3 := ob_I eS126 o_a3
                      have o_v0 := ob_I eS126 o_v0
                      intro _
                      exact hq _ _ hI g0 f0
                    · refine ⟨fun c129 => ?_, fun c129 => ?_⟩
                      · intro _ _
                        refine ⟨(Or.inl rfl), ?_⟩
                        intro _ _
                        refine ⟨fun c132 => ?_, fun c132 => absurd (show ¬ (0 : Int32) = 0 from c132) (by decide)⟩
                        intro _
                        refine ⟨fun c134 => absurd (show (2 : Int32) ≤ 0 from c134) (by decide), fun c134 => ?_⟩
                        refine u_X11_refused ?_
                        refine u_X11_refused_0 ?_
                        refine ⟨o_v0, ?_⟩
                        intro S135 eS135
                        have hIn : IV S135 := by rw [eS135]; exact iv11_sI hI o_v0 (by decide) (nu_free (by decide))
                        have hI := hIn
                        have f0 := fr_I eS135 g0 f0 o_v0 (by decide)
                        have d_kv2 := rd_Ij eS135 (by decide) d_kv2
                        have d_x25 := rd_Ik eS135 o_v0 o_a3 (by decide) d_x25
                        have d_x51 := rd_Ik eS135 o_v0 o_a3 (by decide) d_x51
                        have d_x99 := rd_Ik eS135 o_v0 o_a3 (by decide) d_x99
                        obtain ⟨kv136, hkv136⟩ : ∃ z : Int32, z = (2 : Int32) := ⟨_, rfl⟩
                        have d_kv136 := rd_Is eS135 hkv136
                        have ea3 := rf_I eS135 ea3
                        have ea113 := rf_I eS135 ea113
                        have ea116 := rf_I eS135 ea116
                        have l_a113 := ln_I eS135 l_a113
                        have l_a116 := ln_I eS135 l_a116
                        have g0 := gr_I eS135 g0
                        have o_a113 := ob_I eS135 o_a113
                        have o_a116 := ob_I eS135 o_a116
                        have o_a3 := ob_I eS135 o_a3
                        have o_v0 := ob_I eS135 o_v0
                        intro S137 eS137
                        have hIn : IV S137 := by rw [eS137]; exact iv11_sI hI o_v0 (by decide) (nu_free (by decide))
                        have hI := hIn
                        have f0 := fr_I eS137 g0 f0 o_v0 (by decide)
                        have d_kv2 := rd_Ij eS137 (by decide) d_kv2
                        have d_x25 := rd_Ik eS137 o_v0 o_a3 (by decide) d_x25
                        have d_x51 := rd_Ik eS137 o_v0 o_a3 (by decide) d_x51
                        have d_x99 := rd_Ik eS137 o_v0 o_a3 (by decide) d_x99
                        have d_kv136 := rd_Ij eS137 (by decide) d_kv136
                        obtain ⟨kv138, hkv138⟩ : ∃ z : Int32, z = (-1 : Int32) := ⟨_, rfl⟩
                        have d_kv138 := rd_Is eS137 hkv138
                        have ea3 := rf_I eS137 ea3
                        have ea113 := rf_I eS137 ea113
                        have ea116 := rf_I eS137 ea116
                        have l_a113 := ln_I eS137 l_a113
                        have l_a116 := ln_I eS137 l_a116
                        have g0 := gr_I eS137 g0
                        have o_a113 := ob_I eS137 o_a113
                        have o_a116 := ob_I eS137 o_a116
                        have o_a3 := ob_I eS137 o_a3
                        have o_v0 := ob_I eS137 o_v0
                        intro _
                        exact hq _ _ hI g0 f0
                      · intro _ _
                        refine ⟨(Or.inr rfl), ?_⟩
                        intro _ _
                        refine ⟨fun c142 => absurd (show (1 : Int32) = 0 from c142) (by decide), fun c142 => ?_⟩
                        intro _
                        refine ⟨fun c144 => ?_, fun c144 => absurd (show ¬ (0 : Int32) ≤ 0 from c144) (by decide)⟩
                        refine m_X11_wetOf hI o_v0 (qm715 c14 r_x25 c26 c40 r_x51 c52 c64 c74 c88 r_x99 c100 g_x114 g_x117 c118 c129) (qm716 c14 r_x25 c26 c40 r_x51 c52 c64 c74 c88 r_x99 c100 g_x114 g_x117 c118 c129) (qm717 c14 r_x25 c26 c40 r_x51 c52 c64 c74 c88 r_x99 c100 g_x114 g_x117 c118 c129) (qm718 c14 r_x25 c26 c40 r_x51 c52 c64 c74 c88 r_x99 c100 g_x114 g_x117 c118 c129) ⟨_, ea3⟩ (fun x145 S146 hI2 g147 p_x145 => ?_)
                        subst p_x145
                        intro _
                        refine m_X11_told hI o_v0 (qm721 c14 r_x25 c26 c40 r_x51 c52 c64 c74 c88 r_x99 c100 g_x114 g_x117 c118 c129) (fun x149 S150 hJ g151 fc152 => ?_)
                        have hI := hJ
                        have l_a113 := (gr_len g151 o_a113).trans l_a113
                        have l_a116 := (gr_len g151 o_a116).trans l_a116
                        have d_kv2 := d_kv2.trans (fri_at fc152 (by decide) (by decide) o_v0).symm
                        have d_x25 := d_x25.trans (fri_at fc152 (by decide) (by decide) o_a3).symm
                        have d_x51 := d_x51.trans (fri_at fc152 (by decide) (by decide) o_a3).symm
                        have d_x99 := d_x99.trans (fri_at fc152 (by decide) (by decide) o_a3).symm
                        have ea3 := (frr_at fc152 (by decide) (by decide) o_v0).trans ea3
                        have ea113 := (frr_at fc152 (by decide) (by decide) o_a3).trans ea113
                        have ea116 := (frr_at fc152 (by decide) (by decide) o_a3).trans ea116
                        have f0 := fri_tr (S := S1) g0 f0 fc152 (by decide) (by decide)
                        have o_a113 := gr_ob g151 o_a113
                        have o_a116 := gr_ob g151 o_a116
                        have o_a3 := gr_ob g151 o_a3
                        have o_v0 := gr_ob g151 o_v0
                        have g0 := gr_tr (T := S1) g0 g151
                        intro _
                        exact hq _ _ hI g0 f0
