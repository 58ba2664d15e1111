set_option maxHeartbeats 4000000 in
set_option maxRecDepth 20000 in
theorem m_X11_stay {v0 : Nat} {v1 : Int32} {Q : Int32 → HS → Prop} {S : HS} (hI : IV S) (o_v0 : ob S v0 11)     (hq : ∀ (r : Int32) (T : HS), IV T → Gr S T → FRI [(11, 0), (11, 1), (11, 2), (11, 24)] [] S T → bl r → Q r T) : P_X11_stay v0 v1 Q S := by
  have g0 := gr_rf S
  have f0 := fri_rf [(11, 0), (11, 1), (11, 2), (11, 24)] [] S
  refine u_X11_stay ?_
  refine u_X11_stay_0 ?_
  refine ⟨o_v0, ?_⟩
  intro S1 eS1
  have hIn : IV S1 := by rw [eS1]; exact iv11_sI hI o_v0 (by decide) (nu_free (by decide))
  have hI := hIn
  have f0 := fr_I eS1 g0 f0 o_v0 (by decide)
  obtain ⟨kv2, hkv2⟩ : ∃ z : Int32, z = (0 : Int32) := ⟨_, rfl⟩
  have d_kv2 := rd_Is eS1 hkv2
  have g0 := gr_I eS1 g0
  have o_v0 := ob_I eS1 o_v0
  refine u_X11_isDay ?_
  refine u_X11_isDay_0 ?_
  refine ⟨o_v0, ?_⟩
  refine ⟨fun e4 => ?_, fun a3 ea3 => ?_⟩
  · intro _ _
    refine ⟨fun c6 => absurd (show ¬ (0 : Int32) = 0 from c6) (by decide), fun c6 => ?_⟩
    refine u_X11_denied ?_
    refine u_X11_denied_0 ?_
    refine ⟨o_v0, ?_⟩
    refine u_X11_refused ?_
    refine u_X11_refused_0 ?_
    refine ⟨o_v0, ?_⟩
    intro S7 eS7
    have hIn : IV S7 := by rw [eS7]; exact iv11_sI hI o_v0 (by decide) (nu_free (by decide))
    have hI := hIn
    have f0 := fr_I eS7 g0 f0 o_v0 (by decide)
    have d_kv2 := rd_Ij eS7 (by decide) d_kv2
    obtain ⟨kv8, hkv8⟩ : ∃ z : Int32, z = (1 : Int32) := ⟨_, rfl⟩
    have d_kv8 := rd_Is eS7 hkv8
    have g0 := gr_I eS7 g0
    have o_v0 := ob_I eS7 o_v0
    intro S9 eS9
    have hIn : IV S9 := by rw [eS9]; exact iv11_sI hI o_v0 (by decide) (nu_free (by decide))
    have hI := hIn
    have f0 := fr_I eS9 g0 f0 o_v0 (by decide)
    have d_kv2 := rd_Ij eS9 (by decide) d_kv2
    have d_kv8 := rd_Ij eS9 (by decide) d_kv8
    obtain ⟨kv10, hkv10⟩ : ∃ z : Int32, z = (-1 : Int32) := ⟨_, rfl⟩
    have d_kv10 := rd_Is eS9 hkv10
    have g0 := gr_I eS9 g0
    have o_v0 := ob_I eS9 o_v0
    intro _
    intro _ _
    refine ⟨(Or.inl rfl), ?_⟩
    exact hq _ _ hI g0 f0 (Or.inl rfl)
  · have o_a3 := ml_ob hI o_v0 ea3
    intro x13 ex13
    have r_x13 : (-2 : Int32) ≤ x13 ∧ x13 ≤ (3 : Int32) := by rw [ex13]; exact nu 26 rfl hI o_v0
    have d_x13 := ex13
    obtain ⟨kv14, d_kv14⟩ : ∃ z : Int32, z = fI S1 a3 4 := ⟨_, rfl⟩
    have r_kv14 : (0 : Int32) ≤ kv14 ∧ kv14 ≤ (4 : Int32) := by rw [d_kv14]; exact nu 20 rfl hI o_a3
    have wh_x13 : x13 = -2 ∨ (0 ≤ x13 ∧ x13 < kv14) := by rw [ex13, d_kv14]; exact ml_who hI o_v0 ea3
    refine ⟨fun c15 => ?_, fun c15 => ?_⟩
    · intro _ _
      refine ⟨fun c17 => absurd (show ¬ (0 : Int32) = 0 from c17) (by decide), fun c17 => ?_⟩
      refine u_X11_denied ?_
      refine u_X11_denied_0 ?_
      refine ⟨o_v0, ?_⟩
      refine u_X11_refused ?_
      refine u_X11_refused_0 ?_
      refine ⟨o_v0, ?_⟩
      intro S18 eS18
      have hIn : IV S18 := by rw [eS18]; exact iv11_sI hI o_v0 (by decide) (nu_free (by decide))
      have hI := hIn
      have f0 := fr_I eS18 g0 f0 o_v0 (by decide)
      have d_kv2 := rd_Ij eS18 (by decide) d_kv2
      have d_x13 := rd_Ij eS18 (by decide) d_x13
      have d_kv14 := rd_Ik eS18 o_v0 o_a3 (by decide) d_kv14
      obtain ⟨kv19, hkv19⟩ : ∃ z : Int32, z = (1 : Int32) := ⟨_, rfl⟩
      have d_kv19 := rd_Is eS18 hkv19
      have ea3 := rf_I eS18 ea3
      have g0 := gr_I eS18 g0
      have o_a3 := ob_I eS18 o_a3
      have o_v0 := ob_I eS18 o_v0
      intro S20 eS20
      have hIn : IV S20 := by rw [eS20]; exact iv11_sI hI o_v0 (by decide) (nu_free (by decide))
      have hI := hIn
      have f0 := fr_I eS20 g0 f0 o_v0 (by decide)
      have d_kv2 := rd_Ij eS20 (by decide) d_kv2
      have d_x13 := rd_Ij eS20 (by decide) d_x13
      have d_kv14 := rd_Ik eS20 o_v0 o_a3 (by decide) d_kv14
      have d_kv19 := rd_Ij eS20 (by decide) d_kv19
      obtain ⟨kv21, hkv21⟩ : ∃ z : Int32, z = (-1 : Int32) := ⟨_, rfl⟩
      have d_kv21 := rd_Is eS20 hkv21
      have ea3 := rf_I eS20 ea3
      have g0 := gr_I eS20 g0
      have o_a3 := ob_I eS20 o_a3
      have o_v0 := ob_I eS20 o_v0
      intro _
      intro _ _
      refine ⟨(Or.inl rfl), ?_⟩
      exact hq _ _ hI g0 f0 (Or.inl rfl)
    · intro _ _
      refine ⟨fun c25 => ?_, fun c25 => absurd (show (1 : Int32) = 0 from c25) (by decide)⟩
      refine u_X11_in ?_
      refine u_X11_in_0 ?_
      refine ⟨fun c26 => ?_, fun c26 => ?_⟩
      · intro _ _
        refine ⟨fun c28 => absurd (show ¬ (0 : Int32) = 0 from c28) (by decide), fun c28 => ?_⟩
        refine u_X11_denied ?_
        refine u_X11_denied_0 ?_
        refine ⟨o_v0, ?_⟩
        refine u_X11_refused ?_
        refine u_X11_refused_0 ?_
        refine ⟨o_v0, ?_⟩
        intro S29 eS29
        have hIn : IV S29 := by rw [eS29]; exact iv11_sI hI o_v0 (by decide) (nu_free (by decide))
        have hI := hIn
        have f0 := fr_I eS29 g0 f0 o_v0 (by decide)
        have d_kv2 := rd_Ij eS29 (by decide) d_kv2
        have d_x13 := rd_Ij eS29 (by decide) d_x13
        have d_kv14 := rd_Ik eS29 o_v0 o_a3 (by decide) d_kv14
        obtain ⟨kv30, hkv30⟩ : ∃ z : Int32, z = (2 : Int32) := ⟨_, rfl⟩
        have d_kv30 := rd_Is eS29 hkv30
        have ea3 := rf_I eS29 ea3
        have g0 := gr_I eS29 g0
        have o_a3 := ob_I eS29 o_a3
        have o_v0 := ob_I eS29 o_v0
        intro S31 eS31
        have hIn : IV S31 := by rw [eS31]; exact iv11_sI hI o_v0 (by decide) (nu_free (by decide))
        have hI := hIn
        have f0 := fr_I eS31 g0 f0 o_v0 (by decide)
        have d_kv2 := rd_Ij eS31 (by decide) d_kv2
        have d_x13 := rd_Ij eS31 (by decide) d_x13
        have d_kv14 := rd_Ik eS31 o_v0 o_a3 (by decide) d_kv14
        have d_kv30 := rd_Ij eS31 (by decide) d_kv30
        obtain ⟨kv32, hkv32⟩ : ∃ z : Int32, z = (-1 : Int32) := ⟨_, rfl⟩
        have d_kv32 := rd_Is eS31 hkv32
        have ea3 := rf_I eS31 ea3
        have g0 := gr_I eS31 g0
        have o_a3 := ob_I eS31 o_a3
        have o_v0 := ob_I eS31 o_v0
        intro _
        intro _ _
        refine ⟨(Or.inl rfl), ?_⟩
        exact hq _ _ hI g0 f0 (Or.inl rfl)
      · refine ⟨fun c35 => ?_, fun c35 => ?_⟩
        · intro _ _
          refine ⟨fun c37 => absurd (show ¬ (0 : Int32) = 0 from c37) (by decide), fun c37 => ?_⟩
          refine u_X11_denied ?_
          refine u_X11_denied_0 ?_
          refine ⟨o_v0, ?_⟩
          refine u_X11_refused ?_
          refine u_X11_refused_0 ?_
          refine ⟨o_v0, ?_⟩
          intro S38 eS38
          have hIn : IV S38 := by rw [eS38]; exact iv11_sI hI o_v0 (by decide) (nu_free (by decide))
          have hI := hIn
          have f0 := fr_I eS38 g0 f0 o_v0 (by decide)
          have d_kv2 := rd_Ij eS38 (by decide) d_kv2
          have d_x13 := rd_Ij eS38 (by decide) d_x13
          have d_kv14 := rd_Ik eS38 o_v0 o_a3 (by decide) d_kv14
          obtain ⟨kv39, hkv39⟩ : ∃ z : Int32, z = (2 : Int32) := ⟨_, rfl⟩
          have d_kv39 := rd_Is eS38 hkv39
          have ea3 := rf_I eS38 ea3
          have g0 := gr_I eS38 g0
          have o_a3 := ob_I eS38 o_a3
          have o_v0 := ob_I eS38 o_v0
          intro S40 eS40
          have hIn : IV S40 := by rw [eS40]; exact iv11_sI hI o_v0 (by decide) (nu_free (by decide))
          have hI := hIn
          have f0 := fr_I eS40 g0 f0 o_v0 (by decide)
          have d_kv2 := rd_Ij eS40 (by decide) d_kv2
          have d_x13 := rd_Ij eS40 (by decide) d_x13
          have d_kv14 := rd_Ik eS40 o_v0 o_a3 (by decide) d_kv14
          have d_kv39 := rd_Ij eS40 (by decide) d_kv39
          obtain ⟨kv41, hkv41⟩ : ∃ z : Int32, z = (-1 : Int32) := ⟨_, rfl⟩
          have d_kv41 := rd_Is eS40 hkv41
          have ea3 := rf_I eS40 ea3
          have g0 := gr_I eS40 g0
          have o_a3 := ob_I eS40 o_a3
          have o_v0 := ob_I eS40 o_v0
          intro _
          intro _ _
          refine ⟨(Or.inl rfl), ?_⟩
          exact hq _ _ hI g0 f0 (Or.inl rfl)
        · intro _ _
          refine ⟨fun c45 => ?_, fun c45 => absurd (show (1 : Int32) = 0 from c45) (by decide)⟩
          obtain ⟨a46, ea46, o_a46, l_a46⟩ := shl 57 rfl hI o_v0
          refine ⟨a46, ea46, ?_⟩
          refine ⟨o_a46, ?_⟩
          refine ⟨(vin l_a46 (m := 7) (by decide) (qm73 r_x13 r_kv14 wh_x13 c15 c26 c35)), ?_⟩
          intro x47 ex47
          have de_x47 := ml_de hI o_v0 (j := 21) (by decide) ea46 (0 : Int32).toNatClampNeg
          rw [← ex47] at de_x47
          have dr_x47 : (0 : Int64) ≤ x47 ∧ x47 ≤ (7 : Int64) := de_x47.1 (by decide)
          have lr_x47 : 0 ≤ x47.toInt32 ∧ x47.toInt32 ≤ (7 : Int32) := l2i_rng (by decide) dr_x47
          intro x48 ex48
          refine u_X11_canWait ?_
          refine u_X11_canWait_0 ?_
          refine ⟨o_v0, ?_⟩
          refine ⟨a3, ea3, ?_⟩
          refine ⟨o_a3, ?_⟩
          obtain ⟨a50, ea50, o_a50, l_a50⟩ := shl 40 rfl hI o_a3
          refine ⟨a50, ea50, ?_⟩
          refine ⟨o_a50, ?_⟩
          refine ⟨(vin l_a50 (m := 8) (by decide) (qm74 r_x13 r_kv14 wh_x13 c15 c26 c35 dr_x47 lr_x47 ex48)), ?_⟩
          intro x51 ex51
          refine ⟨fun c52 => ?_, fun c52 => ?_⟩
          · intro _ _
            refine ⟨fun c54 => ?_, fun c54 => absurd (show (1 : Int32) = 0 from c54) (by decide)⟩
            refine ⟨a46, ea46, ?_⟩
            refine ⟨o_a46, ?_⟩
            refine ⟨(vin l_a46 (m := 7) (by decide) (qm75 r_x13 r_kv14 wh_x13 c15 c26 c35 c52)), ?_⟩
            intro x56 ex56
            have de_x56 := ml_de hI o_v0 (j := 21) (by decide) ea46 (1 : Int32).toNatClampNeg
            rw [← ex56] at de_x56
            have dr_x56 : (0 : Int64) ≤ x56 ∧ x56 ≤ (999 : Int64) := de_x56.2 (by decide)
            refine ⟨fun c57 => ?_, fun c57 => ?_⟩
            · refine m_X11_keeps hI o_v0 (fun S59 hJ g60 fc61 p_S59 => ?_)
              have hI := hJ
              have l_a46 := (gr_len g60 o_a46).trans l_a46
              have l_a50 := (gr_len g60 o_a50).trans l_a50
              have d_kv2 := d_kv2.trans (fri_at fc61 (by decide) (by decide) o_v0).symm
              have d_x13 := d_x13.trans (fri_at fc61 (by decide) (by decide) o_v0).symm
              have d_kv14 := d_kv14.trans (fri_at fc61 (by decide) (by decide) o_a3).symm
              have ea3 := (frr_at fc61 (by decide) (by decide) o_v0).trans ea3
              have ea46 := (frr_at fc61 (by decide) (by decide) o_v0).trans ea46
              have ea50 := (frr_at fc61 (by decide) (by decide) o_a3).trans ea50
              have f0 := fri_tr (S := S1) g0 f0 fc61 (by decide) (by decide)
              have o_a3 := gr_ob g60 o_a3
              have o_a46 := gr_ob g60 o_a46
              have o_a50 := gr_ob g60 o_a50
              have o_v0 := gr_ob g60 o_v0
              have g0 := gr_tr (T := S1) g0 g60
              intro _
              refine i_X11_stay_84 (fun (y0 : Nat) (y1 : Int32) (y2 : Int32) (y3 : Int32) (Z : HS) => ((60 : Int32).toInt - y3.toInt).toNat) (fun (y0 : Nat) (y1 : Int32) (y2 : Int32) (y3 : Int32) (Z : HS) => (IV Z) ∧ (Gr S59 Z) ∧ (FRI [] [] S59 Z) ∧ (v0 = y0) ∧ (v1 = y1) ∧ (x48 = y2) ∧ (0 ≤ y3 ∧ y3 ≤ 60) ∧ (SJ Z v0 y1 y3)) ?_ _ _ _ _ _ ⟨hI, (gr_rf _), (fri_rf _ _ _), rfl, rfl, rfl, (qm76 r_x13 r_kv14 wh_x13 c15 c26 c35 c52 dr_x56 c57), (sj_init ex56 p_S59 ea46 dr_x56 (qm77 r_x13 r_kv14 wh_x13 c15 c26 c35 c52 dr_x56 c57) (lc_le c57))⟩
              intro w66 w68 w70 w72 S63 X73 ⟨hI, gL64, fL65, q67, q69, q71, i1u62, sj⟩ ih74
              subst q67
              subst q69
              subst q71
              have l_a46 := (gr_len gL64 o_a46).trans l_a46
              have l_a50 := (gr_len gL64 o_a50).trans l_a50
              have d_kv2 := d_kv2.trans (fri_at fL65 (by decide) (by decide) o_v0).symm
              have d_x13 := d_x13.trans (fri_at fL65 (by decide) (by decide) o_v0).symm
              have d_kv14 := d_kv14.trans (fri_at fL65 (by decide) (by decide) o_a3).symm
              have ea3 := (frr_at fL65 (by decide) (by decide) o_v0).trans ea3
              have ea46 := (frr_at fL65 (by decide) (by decide) o_v0).trans ea46
              have ea50 := (frr_at fL65 (by decide) (by decide) o_a3).trans ea50
              have f0 := fri_tr (S := S59) g0 f0 fL65 (by decide) (by decide)
              have o_a3 := gr_ob gL64 o_a3
              have o_a46 := gr_ob gL64 o_a46
              have o_a50 := gr_ob gL64 o_a50
              have o_v0 := gr_ob gL64 o_v0
              have g0 := gr_tr (T := S59) g0 gL64
              refine u_X11_stay_84 ?_
              refine ⟨fun c75 => ?_, fun c75 => ?_⟩
              · refine ⟨o_v0, ?_⟩
                refine u_X11_granted ?_
                refine u_X11_granted_0 ?_
                refine ⟨o_v0, ?_⟩
                refine u_X11_good ?_
                refine u_X11_good_0 ?_
                refine ⟨o_v0, ?_⟩
                intro S76 eS76
                have hIn : IV S76 := by rw [eS76]; exact iv11_sI hI o_v0 (by decide) (nu_free (by decide))
                have sj := sj_I eS76 sj
                have hI := hIn
                have f0 := fr_I eS76 g0 f0 o_v0 (by decide)
                have d_kv2 := rd_Ij eS76 (by decide) d_kv2
                have d_x13 := rd_Ij eS76 (by decide) d_x13
                have d_kv14 := rd_Ik eS76 o_v0 o_a3 (by decide) d_kv14
                obtain ⟨kv77, hkv77⟩ : ∃ z : Int32, z = (0 : Int32) := ⟨_, rfl⟩
                have d_kv77 := rd_Is eS76 hkv77
                have ea3 := rf_I eS76 ea3
                have ea46 := rf_I eS76 ea46
                have ea50 := rf_I eS76 ea50
                have l_a46 := ln_I eS76 l_a46
                have l_a50 := ln_I eS76 l_a50
                have g0 := gr_I eS76 g0
                have o_a3 := ob_I eS76 o_a3
                have o_a46 := ob_I eS76 o_a46
                have o_a50 := ob_I eS76 o_a50
                have o_v0 := ob_I eS76 o_v0
                intro S78 eS78
                have hIn : IV S78 := by rw [eS78]; exact iv11_sI hI o_v0 (by decide) (nu_free (by decide))
                have sj := sj_I eS78 sj
                have hI := hIn
                have f0 := fr_I eS78 g0 f0 o_v0 (by decide)
                have d_kv2 := rd_Ij eS78 (by decide) d_kv2
                have d_x13 := rd_Ij eS78 (by decide) d_x13
                have d_kv14 := rd_Ik eS78 o_v0 o_a3 (by decide) d_kv14
                have d_kv77 := rd_Ij eS78 (by decide) d_kv77
                obtain ⟨kv79, hkv79⟩ : ∃ z : Int32, z = (-1 : Int32) := ⟨_, rfl⟩
                have d_kv79 := rd_Is eS78 hkv79
                have ea3 := rf_I eS78 ea3
                have ea46 := rf_I eS78 ea46
                have ea50 := rf_I eS78 ea50
                have l_a46 := ln_I eS78 l_a46
                have l_a50 := ln_I eS78 l_a50
                have g0 := gr_I eS78 g0
                have o_a3 := ob_I eS78 o_a3
                have o_a46 := ob_I eS78 o_a46
                have o_a50 := ob_I eS78 o_a50
                have o_v0 := ob_I eS78 o_v0
                intro _
                intro _ _
                refine ⟨(Or.inr rfl), ?_⟩
                exact hq _ _ hI g0 f0 (Or.inr rfl)
              · refine ⟨o_v0, ?_⟩
                refine ⟨a3, ea3, ?_⟩
                refine ⟨o_a3, ?_⟩
                refine ⟨a50, ea50, ?_⟩
                refine ⟨o_a50, ?_⟩
                refine ⟨(vin l_a50 (m := 8) (by decide) (qm78 r_x13 r_kv14 wh_x13 c15 c26 c35 dr_x47 lr_x47 ex48 c52 dr_x56 c57 i1u62 c75)), ?_⟩
                intro x84 ex84
                refine ⟨fun c85 => ?_, fun c85 => ?_⟩
                · refine u_X11_stay_133 ?_
                  refine ⟨o_v0, ?_⟩
                  refine ⟨a46, ea46, ?_⟩
                  refine ⟨o_a46, ?_⟩
                  refine ⟨(vin l_a46 (m := 7) (by decide) (qm79 r_x13 r_kv14 wh_x13 c15 c26 c35 c52 dr_x56 c57 i1u62 c75 c85)), ?_⟩
                  intro x87 ex87
                  have de_x87 := ml_de hI o_v0 (j := 21) (by decide) ea46 (1 : Int32).toNatClampNeg
                  rw [← ex87] at de_x87
                  have dr_x87 : (0 : Int64) ≤ x87 ∧ x87 ≤ (999 : Int64) := de_x87.2 (by decide)
                  intro x88 ex88
                  have i89 : vp_in (1 : Int32) (hN _ a46) := (vin l_a46 (m := 7) (by decide) (qm79 r_x13 r_kv14 wh_x13 c15 c26 c35 c52 dr_x56 c57 i1u62 c75 c85))
                  refine ⟨i89, ?_⟩
                  intro S90 eS90
                  have hIn : IV S90 := by rw [eS90]; exact iv11_aD hI (sj_de sj ea46 ex87 ex88 dr_x87 (qm80 r_x13 r_kv14 wh_x13 c15 c26 c35 c52 dr_x56 c57 i1u62 c75 c85))
                  have sj := sj_1 (k2 := w72 + 1) eS90 ea46 ex87 ex88 dr_x87 (qm81 r_x13 r_kv14 wh_x13 c15 c26 c35 c52 dr_x56 c57 i1u62 c75 c85) rfl sj
                  have hI := hIn
                  have f0 := fr_J eS90 f0
                  have fL65 := fr_J eS90 fL65
                  have d_kv2 := rd_J eS90 d_kv2
                  have d_x13 := rd_J eS90 d_x13
                  have d_kv14 := rd_J eS90 d_kv14
                  have ea3 := rf_J eS90 ea3
                  have ea46 := rf_J eS90 ea46
                  have ea50 := rf_J eS90 ea50
                  have l_a46 := ln_J eS90 l_a46
                  have l_a50 := ln_J eS90 l_a50
                  have g0 := gr_J eS90 g0
                  have gL64 := gr_J eS90 gL64
                  have o_a3 := ob_J eS90 o_a3
                  have o_a46 := ob_J eS90 o_a46
                  have o_a50 := ob_J eS90 o_a50
                  have o_v0 := ob_J eS90 o_v0
                  intro x91 ex91
                  exact ih74 _ _ _ _ _ ⟨hI, gL64, fL65, rfl, rfl, rfl, (qm82 r_x13 r_kv14 wh_x13 c15 c26 c35 c52 dr_x56 c57 i1u62 c75 c85 ex91), (by rw [ex91]; exact sj)⟩ (mu_up (qm83 r_x13 r_kv14 wh_x13 c15 c26 c35 c52 dr_x56 c57 i1u62 c75 c85 ex91) (qm84 r_x13 r_kv14 wh_x13 c15 c26 c35 c52 dr_x56 c57 i1u62 c75 c85 ex91))
                · refine ⟨a46, ea46, ?_⟩
                  refine ⟨o_a46, ?_⟩
                  refine ⟨(vin l_a46 (m := 7) (by decide) (qm85 r_x13 r_kv14 wh_x13 c15 c26 c35 c52 dr_x56 c57 i1u62 c75 c85)), ?_⟩
                  intro x93 ex93
                  have de_x93 := ml_de hI o_v0 (j := 21) (by decide) ea46 (1 : Int32).toNatClampNeg
                  rw [← ex93] at de_x93
                  have dr_x93 : (0 : Int64) ≤ x93 ∧ x93 ≤ (999 : Int64) := de_x93.2 (by decide)
                  have lr_x93 : 0 ≤ x93.toInt32 ∧ x93.toInt32 ≤ (999 : Int32) := l2i_rng (by decide) dr_x93
                  refine u_X11_rainsIn ?_
                  refine u_X11_rainsIn_0 ?_
                  refine ⟨o_v0, ?_⟩
                  refine u_X11_hourOf ?_
                  refine u_X11_hourOf_0 ?_
                  refine ⟨o_v0, ?_⟩
                  refine ⟨a3, ea3, ?_⟩
                  refine ⟨o_a3, ?_⟩
                  intro x95 ex95
                  have r_x95 : (0 : Int32) ≤ x95 ∧ x95 ≤ (60 : Int32) := by rw [ex95]; exact nu 16 rfl hI o_a3
                  have d_x95 := ex95
                  have hh_x95 : 1 ≤ x95 := by rw [ex95]; exact ml_hour hI o_v0 ea3
                  refine ⟨(qm86 r_x13 r_kv14 wh_x13 c15 c26 c35 c52 dr_x56 c57 i1u62 c75 c85 r_x95 hh_x95), ?_⟩
                  intro x96 ex96
                  have dv_x96 : 0 ≤ x96 ∧ x96 ≤ x93.toInt32 := by rw [ex96]; exact dv0 (qm87 r_x13 r_kv14 wh_x13 c15 c26 c35 c52 dr_x56 c57 i1u62 c75 c85 dr_x93 lr_x93 r_x95 hh_x95 ex96) (i32pos (qm88 r_x13 r_kv14 wh_x13 c15 c26 c35 c52 dr_x56 c57 i1u62 c75 c85 dr_x93 lr_x93 r_x95 hh_x95 ex96))
                  intro _
                  refine ⟨a3, ea3, ?_⟩
                  refine ⟨o_a3, ?_⟩
                  intro x99 ex99
                  have r_x99 : (0 : Int32) ≤ x99 ∧ x99 ≤ (6 : Int32) := by rw [ex99]; exact nu 17 rfl hI o_a3
                  have d_x99 := ex99
                  refine ⟨fun c100 => ?_, fun c100 => ?_⟩
                  · intro _ _
                    refine ⟨fun c102 => ?_, fun c102 => absurd (show ¬ (0 : Int32) = 0 from c102) (by decide)⟩
                    refine u_X11_stay_133 ?_
                    refine ⟨o_v0, ?_⟩
                    refine ⟨a46, ea46, ?_⟩
                    refine ⟨o_a46, ?_⟩
                    refine ⟨(vin l_a46 (m := 7) (by decide) (qm89 r_x13 r_kv14 wh_x13 c15 c26 c35 c52 dr_x56 c57 i1u62 c75 c85 dr_x93 lr_x93 r_x95 hh_x95 ex96 dv_x96 r_x99 c100)), ?_⟩
                    intro x104 ex104
                    have de_x104 := ml_de hI o_v0 (j := 21) (by decide) ea46 (1 : Int32).toNatClampNeg
                    rw [← ex104] at de_x104
                    have dr_x104 : (0 : Int64) ≤ x104 ∧ x104 ≤ (999 : Int64) := de_x104.2 (by decide)
                    intro x105 ex105
                    have i106 : vp_in (1 : Int32) (hN _ a46) := (vin l_a46 (m := 7) (by decide) (qm89 r_x13 r_kv14 wh_x13 c15 c26 c35 c52 dr_x56 c57 i1u62 c75 c85 dr_x93 lr_x93 r_x95 hh_x95 ex96 dv_x96 r_x99 c100))
                    refine ⟨i106, ?_⟩
                    intro S107 eS107
                    have hIn : IV S107 := by rw [eS107]; exact iv11_aD hI (sj_de sj ea46 ex104 ex105 dr_x104 (qm90 r_x13 r_kv14 wh_x13 c15 c26 c35 c52 dr_x56 c57 i1u62 c75 c85 dr_x93 lr_x93 r_x95 hh_x95 ex96 dv_x96 r_x99 c100))
                    have sj := sj_1 (k2 := w72 + 1) eS107 ea46 ex104 ex105 dr_x104 (qm91 r_x13 r_kv14 wh_x13 c15 c26 c35 c52 dr_x56 c57 i1u62 c75 c85 dr_x93 lr_x93 r_x95 hh_x95 ex96 dv_x96 r_x99 c100) rfl sj
                    have hI := hIn
                    have f0 := fr_J eS107 f0
                    have fL65 := fr_J eS107 fL65
                    have d_kv2 := rd_J eS107 d_kv2
                    have d_x13 := rd_J eS107 d_x13
                    have d_kv14 := rd_J eS107 d_kv14
                    have d_x95 := rd_J eS107 d_x95
                    have d_x99 := rd_J eS107 d_x99
                    have ea3 := rf_J eS107 ea3
                    have ea46 := rf_J eS107 ea46
                    have ea50 := rf_J eS107 ea50
                    have l_a46 := ln_J eS107 l_a46
                    have l_a50 := ln_J eS107 l_a50
                    have g0 := gr_J eS107 g0
                    have gL64 := gr_J eS107 gL64
                    have o_a3 := ob_J eS107 o_a3
                    have o_a46 := ob_J eS107 o_a46
                    have o_a50 := ob_J eS107 o_a50
                    have o_v0 := ob_J eS107 o_v0
                    intro x108 ex108
                    exact ih74 _ _ _ _ _ ⟨hI, gL64, fL65, rfl, rfl, rfl, (qm92 r_x13 r_kv14 wh_x13 c15 c26 c35 c52 dr_x56 c57 i1u62 c75 c85 dr_x93 lr_x93 r_x95 hh_x95 ex96 dv_x96 r_x99 c100 ex108), (by rw [ex108]; exact sj)⟩ (mu_up (qm93 r_x13 r_kv14 wh_x13 c15 c26 c35 c52 dr_x56 c57 i1u62 c75 c85 dr_x93 lr_x93 r_x95 hh_x95 ex96 dv_x96 r_x99 c100 ex108) (qm94 r_x13 r_kv14 wh_x13 c15 c26 c35 c52 dr_x56 c57 i1u62 c75 c85 dr_x93 lr_x93 r_x95 hh_x95 ex96 dv_x96 r_x99 c100 ex108))
                  · intro x109 ex109
                    have d_x109 := ex109
                    refine ⟨fun c110 => ?_, fun c110 => ?_⟩
                    · intro _ _
                      refine ⟨fun c112 => ?_, fun c112 => absurd (show ¬ (0 : Int32) = 0 from c112) (by decide)⟩
                      refine u_X11_stay_133 ?_
                      refine ⟨o_v0, ?_⟩
                      refine ⟨a46, ea46, ?_⟩
                      refine ⟨o_a46, ?_⟩
                      refine ⟨(vin l_a46 (m := 7) (by decide) (qm95 r_x13 r_kv14 wh_x13 c15 c26 c35 c52 dr_x56 c57 i1u62 c75 c85 dr_x93 lr_x93 r_x95 hh_x95 ex96 dv_x96 r_x99 c100 c110)), ?_⟩
                      intro x114 ex114
                      have de_x114 := ml_de hI o_v0 (j := 21) (by decide) ea46 (1 : Int32).toNatClampNeg
                      rw [← ex114] at de_x114
                      have dr_x114 : (0 : Int64) ≤ x114 ∧ x114 ≤ (999 : Int64) := de_x114.2 (by decide)
                      intro x115 ex115
                      have i116 : vp_in (1 : Int32) (hN _ a46) := (vin l_a46 (m := 7) (by decide) (qm95 r_x13 r_kv14 wh_x13 c15 c26 c35 c52 dr_x56 c57 i1u62 c75 c85 dr_x93 lr_x93 r_x95 hh_x95 ex96 dv_x96 r_x99 c100 c110))
                      refine ⟨i116, ?_⟩
                      intro S117 eS117
                      have hIn : IV S117 := by rw [eS117]; exact iv11_aD hI (sj_de sj ea46 ex114 ex115 dr_x114 (qm96 r_x13 r_kv14 wh_x13 c15 c26 c35 c52 dr_x56 c57 i1u62 c75 c85 dr_x93 lr_x93 r_x95 hh_x95 ex96 dv_x96 r_x99 c100 c110))
                      have sj := sj_1 (k2 := w72 + 1) eS117 ea46 ex114 ex115 dr_x114 (qm97 r_x13 r_kv14 wh_x13 c15 c26 c35 c52 dr_x56 c57 i1u62 c75 c85 dr_x93 lr_x93 r_x95 hh_x95 ex96 dv_x96 r_x99 c100 c110) rfl sj
                      have hI := hIn
                      have f0 := fr_J eS117 f0
                      have fL65 := fr_J eS117 fL65
                      have d_kv2 := rd_J eS117 d_kv2
                      have d_x13 := rd_J eS117 d_x13
                      have d_kv14 := rd_J eS117 d_kv14
                      have d_x95 := rd_J eS117 d_x95
                      have d_x99 := rd_J eS117 d_x99
                      have d_x109 := rd_J eS117 d_x109
                      have ea3 := rf_J eS117 ea3
                      have ea46 := rf_J eS117 ea46
                      have ea50 := rf_J eS117 ea50
                      have l_a46 := ln_J eS117 l_a46
                      have l_a50 := ln_J eS117 l_a50
                      have g0 := gr_J eS117 g0
                      have gL64 := gr_J eS117 gL64
                      have o_a3 := ob_J eS117 o_a3
                      have o_a46 := ob_J eS117 o_a46
                      have o_a50 := ob_J eS117 o_a50
                      have o_v0 := ob_J eS117 o_v0
                      intro x118 ex118
                      exact ih74 _ _ _ _ _ ⟨hI, gL64, fL65, rfl, rfl, rfl, (qm98 r_x13 r_kv14 wh_x13 c15 c26 c35 c52 dr_x56 c57 i1u62 c75 c85 dr_x93 lr_x93 r_x95 hh_x95 ex96 dv_x96 r_x99 c100 c110 ex118), (by rw [ex118]; exact sj)⟩ (mu_up (qm99 r_x13 r_kv14 wh_x13 c15 c26 c35 c52 dr_x56 c57 i1u62 c75 c85 dr_x93 lr_x93 r_x95 hh_x95 ex96 dv_x96 r_x99 c100 c110 ex118) (qm100 r_x13 r_kv14 wh_x13 c15 c26 c35 c52 dr_x56 c57 i1u62 c75 c85 dr_x93 lr_x93 r_x95 hh_x95 ex96 dv_x96 r_x99 c100 c110 ex118))
                    · intro _ _
                      refine ⟨fun c120 => absurd (show (1 : Int32) = 0 from c120) (by decide), fun c120 => ?_⟩
                      refine ⟨a46, ea46, ?_⟩
                      refine ⟨o_a46, ?_⟩
                      refine ⟨(vin l_a46 (m := 7) (by decide) (qm101 r_x13 r_kv14 wh_x13 c15 c26 c35 c52 dr_x56 c57 i1u62 c75 c85 dr_x93 lr_x93 r_x95 hh_x95 ex96 dv_x96 r_x99 c100 c110)), ?_⟩
                      intro x122 ex122
                      have de_x122 := ml_de hI o_v0 (j := 21) (by decide) ea46 (2 : Int32).toNatClampNeg
                      rw [← ex122] at de_x122
                      intro x123 ex123
                      have r_x123 : (-2 : Int32) ≤ x123 ∧ x123 ≤ (3 : Int32) := by rw [ex123]; exact nu 26 rfl hI o_v0
                      have q_x123 : x123 = x13 := ex123.trans d_x13.symm
                      have d_x123 := ex123
                      have wh_x123 : x123 = -2 ∨ (0 ≤ x123 ∧ x123 < kv14) := by rw [ex123, d_kv14]; exact ml_who hI o_v0 ea3
                      refine u_X11_drips ?_
                      refine u_X11_drips_0 ?_
                      refine ⟨o_v0, ?_⟩
                      refine ⟨a3, ea3, ?_⟩
                      refine ⟨o_a3, ?_⟩
                      obtain ⟨a125, ea125, o_a125, l_a125⟩ := shl 34 rfl hI o_a3
                      refine ⟨a125, ea125, ?_⟩
                      refine ⟨o_a125, ?_⟩
                      refine ⟨(vin l_a125 (m := 8) (by decide) (qm102 r_x13 r_kv14 wh_x13 c15 c26 c35 dr_x47 lr_x47 ex48 c52 dr_x56 c57 i1u62 c75 c85 dr_x93 lr_x93 r_x95 hh_x95 ex96 dv_x96 r_x99 c100 c110 r_x123 q_x123 wh_x123)), ?_⟩
                      intro x126 ex126
                      refine ⟨a3, ea3, ?_⟩
                      refine ⟨o_a3, ?_⟩
                      obtain ⟨a128, ea128, o_a128, l_a128⟩ := shl 43 rfl hI o_a3
                      refine ⟨a128, ea128, ?_⟩
                      refine ⟨o_a128, ?_⟩
                      refine ⟨(vin l_a128 (m := 4) (by decide) (qm103 r_x13 r_kv14 wh_x13 c15 c26 c35 c52 dr_x56 c57 i1u62 c75 c85 dr_x93 lr_x93 r_x95 hh_x95 ex96 dv_x96 r_x99 c100 c110 r_x123 q_x123 wh_x123)), ?_⟩
                      intro x129 ex129
                      refine ⟨a3, ea3, ?_⟩
                      refine ⟨o_a3, ?_⟩
                      refine u_X10_shield ?_
                      refine u_X10_shield_0 ?_
                      refine ⟨o_a3, ?_⟩
                      obtain ⟨a131, ea131, o_a131, l_a131⟩ := shl 41 rfl hI o_a3
                      refine ⟨a131, ea131, ?_⟩
                      refine ⟨o_a131, ?_⟩
                      refine ⟨(vin l_a131 (m := 4) (by decide) (qm103 r_x13 r_kv14 wh_x13 c15 c26 c35 c52 dr_x56 c57 i1u62 c75 c85 dr_x93 lr_x93 r_x95 hh_x95 ex96 dv_x96 r_x99 c100 c110 r_x123 q_x123 wh_x123)), ?_⟩
                      intro x132 ex132
                      refine ⟨fun c133 => ?_, fun c133 => ?_⟩
                      · intro _
                        refine u_X11_less ?_
                        refine u_X11_less_0 ?_
                        refine ⟨fun c135 => ?_, fun c135 => ?_⟩
                        · intro _
                          intro _
                          intro x138 ex138
                          have i139 : vp_in (2 : Int32) (hN _ a46) := (vin l_a46 (m := 7) (by decide) (qm104 r_x13 r_kv14 wh_x13 c15 c26 c35 c52 dr_x56 c57 i1u62 c75 c85 dr_x93 lr_x93 r_x95 hh_x95 ex96 dv_x96 r_x99 c100 c110 r_x123 q_x123 wh_x123 c133 c135))
                          refine ⟨i139, ?_⟩
                          intro S140 eS140
                          have hIn : IV S140 := by rw [eS140]; exact iv11_aD hI (de_free (qm105 r_x13 r_kv14 wh_x13 c15 c26 c35 c52 dr_x56 c57 i1u62 c75 c85 dr_x93 lr_x93 r_x95 hh_x95 ex96 dv_x96 r_x99 c100 c110 r_x123 q_x123 wh_x123 c133 c135))
                          have sj := sj_2 eS140 sj
                          have hI := hIn
                          have f0 := fr_J eS140 f0
                          have fL65 := fr_J eS140 fL65
                          have d_kv2 := rd_J eS140 d_kv2
                          have d_x123 := rd_J eS140 d_x123
                          have d_kv14 := rd_J eS140 d_kv14
                          have d_x95 := rd_J eS140 d_x95
                          have d_x99 := rd_J eS140 d_x99
                          have d_x109 := rd_J eS140 d_x109
                          have ea3 := rf_J eS140 ea3
                          have ea46 := rf_J eS140 ea46
                          have ea50 := rf_J eS140 ea50
                          have ea125 := rf_J eS140 ea125
                          have ea128 := rf_J eS140 ea128
                          have ea131 := rf_J eS140 ea131
                          have l_a125 := ln_J eS140 l_a125
                          have l_a128 := ln_J eS140 l_a128
                          have l_a131 := ln_J eS140 l_a131
                          have l_a46 := ln_J eS140 l_a46
                          have l_a50 := ln_J eS140 l_a50
                          have g0 := gr_J eS140 g0
                          have gL64 := gr_J eS140 gL64
                          have o_a125 := ob_J eS140 o_a125
                          have o_a128 := ob_J eS140 o_a128
                          have o_a131 := ob_J eS140 o_a131
                          have o_a3 := ob_J eS140 o_a3
                          have o_a46 := ob_J eS140 o_a46
                          have o_a50 := ob_J eS140 o_a50
                          have o_v0 := ob_J eS140 o_v0
                          refine u_X11_stay_133 ?_
                          refine ⟨o_v0, ?_⟩
                          refine ⟨a46, ea46, ?_⟩
                          refine ⟨o_a46, ?_⟩
                          refine ⟨(vin l_a46 (m := 7) (by decide) (qm106 r_x13 r_kv14 wh_x13 c15 c26 c35 c52 dr_x56 c57 i1u62 c75 c85 dr_x93 lr_x93 r_x95 hh_x95 ex96 dv_x96 r_x99 c100 c110 r_x123 q_x123 wh_x123 c133 c135)), ?_⟩
                          intro x142 ex142
                          have de_x142 := ml_de hI o_v0 (j := 21) (by decide) ea46 (1 : Int32).toNatClampNeg
                          rw [← ex142] at de_x142
                          have dr_x142 : (0 : Int64) ≤ x142 ∧ x142 ≤ (999 : Int64) := de_x142.2 (by decide)
                          intro x143 ex143
                          have i144 : vp_in (1 : Int32) (hN _ a46) := (vin l_a46 (m := 7) (by decide) (qm106 r_x13 r_kv14 wh_x13 c15 c26 c35 c52 dr_x56 c57 i1u62 c75 c85 dr_x93 lr_x93 r_x95 hh_x95 ex96 dv_x96 r_x99 c100 c110 r_x123 q_x123 wh_x123 c133 c135))
                          refine ⟨i144, ?_⟩
                          intro S145 eS145
                          have hIn : IV S145 := by rw [eS145]; exact iv11_aD hI (sj_de sj ea46 ex142 ex143 dr_x142 (qm107 r_x13 r_kv14 wh_x13 c15 c26 c35 c52 dr_x56 c57 i1u62 c75 c85 dr_x93 lr_x93 r_x95 hh_x95 ex96 dv_x96 r_x99 c100 c110 r_x123 q_x123 wh_x123 c133 c135))
                          have sj := sj_1 (k2 := w72 + 1) eS145 ea46 ex142 ex143 dr_x142 (qm108 r_x13 r_kv14 wh_x13 c15 c26 c35 c52 dr_x56 c57 i1u62 c75 c85 dr_x93 lr_x93 r_x95 hh_x95 ex96 dv_x96 r_x99 c100 c110 r_x123 q_x123 wh_x123 c133 c135) rfl sj
                          have hI := hIn
                          have f0 := fr_J eS145 f0
                          have fL65 := fr_J eS145 fL65
                          have d_kv2 := rd_J eS145 d_kv2
                          have d_x123 := rd_J eS145 d_x123
                          have d_kv14 := rd_J eS145 d_kv14
                          have d_x95 := rd_J eS145 d_x95
                          have d_x99 := rd_J eS145 d_x99
                          have d_x109 := rd_J eS145 d_x109
                          have ea3 := rf_J eS145 ea3
                          have ea46 := rf_J eS145 ea46
                          have ea50 := rf_J eS145 ea50
                          have ea125 := rf_J eS145 ea125
                          have ea128 := rf_J eS145 ea128
                          have ea131 := rf_J eS145 ea131
                          have l_a125 := ln_J eS145 l_a125
                          have l_a128 := ln_J eS145 l_a128
                          have l_a131 := ln_J eS145 l_a131
                          have l_a46 := ln_J eS145 l_a46
                          have l_a50 := ln_J eS145 l_a50
                          have g0 := gr_J eS145 g0
                          have gL64 := gr_J eS145 gL64
                          have o_a125 := ob_J eS145 o_a125
                          have o_a128 := ob_J eS145 o_a128
                          have o_a131 := ob_J eS145 o_a131
                          have o_a3 := ob_J eS145 o_a3
                          have o_a46 := ob_J eS145 o_a46
                          have o_a50 := ob_J eS145 o_a50
                          have o_v0 := ob_J eS145 o_v0
                          intro x146 ex146
                          exact ih74 _ _ _ _ _ ⟨hI, gL64, fL65, rfl, rfl, rfl, (qm109 r_x13 r_kv14 wh_x13 c15 c26 c35 c52 dr_x56 c57 i1u62 c75 c85 dr_x93 lr_x93 r_x95 hh_x95 ex96 dv_x96 r_x99 c100 c110 r_x123 q_x123 wh_x123 c133 c135 ex146), (by rw [ex146]; exact sj)⟩ (mu_up (qm110 r_x13 r_kv14 wh_x13 c15 c26 c35 c52 dr_x56 c57 i1u62 c75 c85 dr_x93 lr_x93 r_x95 hh_x95 ex96 dv_x96 r_x99 c100 c110 r_x123 q_x123 wh_x123 c133 c135 ex146) (qm111 r_x13 r_kv14 wh_x13 c15 c26 c35 c52 dr_x56 c57 i1u62 c75 c85 dr_x93 lr_x93 r_x95 hh_x95 ex96 dv_x96 r_x99 c100 c110 r_x123 q_x123 wh_x123 c133 c135 ex146))
                        · intro _
                          intro _
                          intro x149 ex149
                          have i150 : vp_in (2 : Int32) (hN _ a46) := (vin l_a46 (m := 7) (by decide) (qm112 r_x13 r_kv14 wh_x13 c15 c26 c35 c52 dr_x56 c57 i1u62 c75 c85 dr_x93 lr_x93 r_x95 hh_x95 ex96 dv_x96 r_x99 c100 c110 r_x123 q_x123 wh_x123 c133 c135))
                          refine ⟨i150, ?_⟩
                          intro S151 eS151
                          have hIn : IV S151 := by rw [eS151]; exact iv11_aD hI (de_free (qm113 r_x13 r_kv14 wh_x13 c15 c26 c35 c52 dr_x56 c57 i1u62 c75 c85 dr_x93 lr_x93 r_x95 hh_x95 ex96 dv_x96 r_x99 c100 c110 r_x123 q_x123 wh_x123 c133 c135))
                          have sj := sj_2 eS151 sj
                          have hI := hIn
                          have f0 := fr_J eS151 f0
                          have fL65 := fr_J eS151 fL65
                          have d_kv2 := rd_J eS151 d_kv2
                          have d_x123 := rd_J eS151 d_x123
                          have d_kv14 := rd_J eS151 d_kv14
                          have d_x95 := rd_J eS151 d_x95
                          have d_x99 := rd_J eS151 d_x99
                          have d_x109 := rd_J eS151 d_x109
                          have ea3 := rf_J eS151 ea3
                          have ea46 := rf_J eS151 ea46
                          have ea50 := rf_J eS151 ea50
                          have ea125 := rf_J eS151 ea125
                          have ea128 := rf_J eS151 ea128
                          have ea131 := rf_J eS151 ea131
                          have l_a125 := ln_J eS151 l_a125
                          have l_a128 := ln_J eS151 l_a128
                          have l_a131 := ln_J eS151 l_a131
                          have l_a46 := ln_J eS151 l_a46
                          have l_a50 := ln_J eS151 l_a50
                          have g0 := gr_J eS151 g0
                          have gL64 := gr_J eS151 gL64
                          have o_a125 := ob_J eS151 o_a125
                          have o_a128 := ob_J eS151 o_a128
                          have o_a131 := ob_J eS151 o_a131
                          have o_a3 := ob_J eS151 o_a3
                          have o_a46 := ob_J eS151 o_a46
                          have o_a50 := ob_J eS151 o_a50
                          have o_v0 := ob_J eS151 o_v0
                          refine u_X11_stay_133 ?_
                          refine ⟨o_v0, ?_⟩
                          refine ⟨a46, ea46, ?_⟩
                          refine ⟨o_a46, ?_⟩
                          refine ⟨(vin l_a46 (m := 7) (by decide) (qm114 r_x13 r_kv14 wh_x13 c15 c26 c35 c52 dr_x56 c57 i1u62 c75 c85 dr_x93 lr_x93 r_x95 hh_x95 ex96 dv_x96 r_x99 c100 c110 r_x123 q_x123 wh_x123 c133 c135)), ?_⟩
                          intro x153 ex153
                          have de_x153 := ml_de hI o_v0 (j := 21) (by decide) ea46 (1 : Int32).toNatClampNeg
                          rw [← ex153] at de_x153
                          have dr_x153 : (0 : Int64) ≤ x153 ∧ x153 ≤ (999 : Int64) := de_x153.2 (by decide)
                          intro x154 ex154
                          have i155 : vp_in (1 : Int32) (hN _ a46) := (vin l_a46 (m := 7) (by decide) (qm114 r_x13 r_kv14 wh_x13 c15 c26 c35 c52 dr_x56 c57 i1u62 c75 c85 dr_x93 lr_x93 r_x95 hh_x95 ex96 dv_x96 r_x99 c100 c110 r_x123 q_x123 wh_x123 c133 c135))
                          refine ⟨i155, ?_⟩
                          intro S156 eS156
                          have hIn : IV S156 := by rw [eS156]; exact iv11_aD hI (sj_de sj ea46 ex153 ex154 dr_x153 (qm115 r_x13 r_kv14 wh_x13 c15 c26 c35 c52 dr_x56 c57 i1u62 c75 c85 dr_x93 lr_x93 r_x95 hh_x95 ex96 dv_x96 r_x99 c100 c110 r_x123 q_x123 wh_x123 c133 c135))
                          have sj := sj_1 (k2 := w72 + 1) eS156 ea46 ex153 ex154 dr_x153 (qm116 r_x13 r_kv14 wh_x13 c15 c26 c35 c52 dr_x56 c57 i1u62 c75 c85 dr_x93 lr_x93 r_x95 hh_x95 ex96 dv_x96 r_x99 c100 c110 r_x123 q_x123 wh_x123 c133 c135) rfl sj
                          have hI := hIn
                          have f0 := fr_J eS156 f0
                          have fL65 := fr_J eS156 fL65
                          have d_kv2 := rd_J eS156 d_kv2
                          have d_x123 := rd_J eS156 d_x123
                          have d_kv14 := rd_J eS156 d_kv14
                          have d_x95 := rd_J eS156 d_x95
                          have d_x99 := rd_J eS156 d_x99
                          have d_x109 := rd_J eS156 d_x109
                          have ea3 := rf_J eS156 ea3
                          have ea46 := rf_J eS156 ea46
                          have ea50 := rf_J eS156 ea50
                          have ea125 := rf_J eS156 ea125
                          have ea128 := rf_J eS156 ea128
                          have ea131 := rf_J eS156 ea131
                          have l_a125 := ln_J eS156 l_a125
                          have l_a128 := ln_J eS156 l_a128
                          have l_a131 := ln_J eS156 l_a131
                          have l_a46 := ln_J eS156 l_a46
                          have l_a50 := ln_J eS156 l_a50
                          have g0 := gr_J eS156 g0
                          have gL64 := gr_J eS156 gL64
                          have o_a125 := ob_J eS156 o_a125
                          have o_a128 := ob_J eS156 o_a128
                          have o_a131 := ob_J eS156 o_a131
                          have o_a3 := ob_J eS156 o_a3
                          have o_a46 := ob_J eS156 o_a46
                          have o_a50 := ob_J eS156 o_a50
                          have o_v0 := ob_J eS156 o_v0
                          intro x157 ex157
                          exact ih74 _ _ _ _ _ ⟨hI, gL64, fL65, rfl, rfl, rfl, (qm117 r_x13 r_kv14 wh_x13 c15 c26 c35 c52 dr_x56 c57 i1u62 c75 c85 dr_x93 lr_x93 r_x95 hh_x95 ex96 dv_x96 r_x99 c100 c110 r_x123 q_x123 wh_x123 c133 c135 ex157), (by rw [ex157]; exact sj)⟩ (mu_up (qm118 r_x13 r_kv14 wh_x13 c15 c26 c35 c52 dr_x56 c57 i1u62 c75 c85 dr_x93 lr_x93 r_x95 hh_x95 ex96 dv_x96 r_x99 c100 c110 r_x123 q_x123 wh_x123 c133 c135 ex157) (qm119 r_x13 r_kv14 wh_x13 c15 c26 c35 c52 dr_x56 c57 i1u62 c75 c85 dr_x93 lr_x93 r_x95 hh_x95 ex96 dv_x96 r_x99 c100 c110 r_x123 q_x123 wh_x123 c133 c135 ex157))
                      · obtain ⟨a158, ea158, o_a158, l_a158⟩ := shl 42 rfl hI o_a3
                        refine ⟨a158, ea158, ?_⟩
                        refine ⟨o_a158, ?_⟩
                        refine ⟨(vin l_a158 (m := 4) (by decide) (qm120 r_x13 r_kv14 wh_x13 c15 c26 c35 c52 dr_x56 c57 i1u62 c75 c85 dr_x93 lr_x93 r_x95 hh_x95 ex96 dv_x96 r_x99 c100 c110 r_x123 q_x123 wh_x123 c133)), ?_⟩
                        intro x159 ex159
                        intro _
                        refine u_X11_less ?_
                        refine u_X11_less_0 ?_
                        refine ⟨fun c161 => ?_, fun c161 => ?_⟩
                        · intro _
                          intro _
                          intro x164 ex164
                          have i165 : vp_in (2 : Int32) (hN _ a46) := (vin l_a46 (m := 7) (by decide) (qm121 r_x13 r_kv14 wh_x13 c15 c26 c35 c52 dr_x56 c57 i1u62 c75 c85 dr_x93 lr_x93 r_x95 hh_x95 ex96 dv_x96 r_x99 c100 c110 r_x123 q_x123 wh_x123 c133 c161))
                          refine ⟨i165, ?_⟩
                          intro S166 eS166
                          have hIn : IV S166 := by rw [eS166]; exact iv11_aD hI (de_free (qm122 r_x13 r_kv14 wh_x13 c15 c26 c35 c52 dr_x56 c57 i1u62 c75 c85 dr_x93 lr_x93 r_x95 hh_x95 ex96 dv_x96 r_x99 c100 c110 r_x123 q_x123 wh_x123 c133 c161))
                          have sj := sj_2 eS166 sj
                          have hI := hIn
                          have f0 := fr_J eS166 f0
                          have fL65 := fr_J eS166 fL65
                          have d_kv2 := rd_J eS166 d_kv2
                          have d_x123 := rd_J eS166 d_x123
                          have d_kv14 := rd_J eS166 d_kv14
                          have d_x95 := rd_J eS166 d_x95
                          have d_x99 := rd_J eS166 d_x99
                          have d_x109 := rd_J eS166 d_x109
                          have ea3 := rf_J eS166 ea3
                          have ea46 := rf_J eS166 ea46
                          have ea50 := rf_J eS166 ea50
                          have ea125 := rf_J eS166 ea125
                          have ea128 := rf_J eS166 ea128
                          have ea131 := rf_J eS166 ea131
                          have ea158 := rf_J eS166 ea158
                          have l_a125 := ln_J eS166 l_a125
                          have l_a128 := ln_J eS166 l_a128
                          have l_a131 := ln_J eS166 l_a131
                          have l_a158 := ln_J eS166 l_a158
                          have l_a46 := ln_J eS166 l_a46
                          have l_a50 := ln_J eS166 l_a50
                          have g0 := gr_J eS166 g0
                          have gL64 := gr_J eS166 gL64
                          have o_a125 := ob_J eS166 o_a125
                          have o_a128 := ob_J eS166 o_a128
                          have o_a131 := ob_J eS166 o_a131
                          have o_a158 := ob_J eS166 o_a158
                          have o_a3 := ob_J eS166 o_a3
                          have o_a46 := ob_J eS166 o_a46
                          have o_a50 := ob_J eS166 o_a50
                          have o_v0 := ob_J eS166 o_v0
                          refine u_X11_stay_133 ?_
                          refine ⟨o_v0, ?_⟩
                          refine ⟨a46, ea46, ?_⟩
                          refine ⟨o_a46, ?_⟩
                          refine ⟨(vin l_a46 (m := 7) (by decide) (qm123 r_x13 r_kv14 wh_x13 c15 c26 c35 c52 dr_x56 c57 i1u62 c75 c85 dr_x93 lr_x93 r_x95 hh_x95 ex96 dv_x96 r_x99 c100 c110 r_x123 q_x123 wh_x123 c133 c161)), ?_⟩
                          intro x168 ex168
                          have de_x168 := ml_de hI o_v0 (j := 21) (by decide) ea46 (1 : Int32).toNatClampNeg
                          rw [← ex168] at de_x168
                          have dr_x168 : (0 : Int64) ≤ x168 ∧ x168 ≤ (999 : Int64) := de_x168.2 (by decide)
                          intro x169 ex169
                          have i170 : vp_in (1 : Int32) (hN _ a46) := (vin l_a46 (m := 7) (by decide) (qm123 r_x13 r_kv14 wh_x13 c15 c26 c35 c52 dr_x56 c57 i1u62 c75 c85 dr_x93 lr_x93 r_x95 hh_x95 ex96 dv_x96 r_x99 c100 c110 r_x123 q_x123 wh_x123 c133 c161))
                          refine ⟨i170, ?_⟩
                          intro S171 eS171
                          have hIn : IV S171 := by rw [eS171]; exact iv11_aD hI (sj_de sj ea46 ex168 ex169 dr_x168 (qm124 r_x13 r_kv14 wh_x13 c15 c26 c35 c52 dr_x56 c57 i1u62 c75 c85 dr_x93 lr_x93 r_x95 hh_x95 ex96 dv_x96 r_x99 c100 c110 r_x123 q_x123 wh_x123 c133 c161))
                          have sj := sj_1 (k2 := w72 + 1) eS171 ea46 ex168 ex169 dr_x168 (qm125 r_x13 r_kv14 wh_x13 c15 c26 c35 c52 dr_x56 c57 i1u62 c75 c85 dr_x93 lr_x93 r_x95 hh_x95 ex96 dv_x96 r_x99 c100 c110 r_x123 q_x123 wh_x123 c133 c161) rfl sj
                          have hI := hIn
                          have f0 := fr_J eS171 f0
                          have fL65 := fr_J eS171 fL65
                          have d_kv2 := rd_J eS171 d_kv2
                          have d_x123 := rd_J eS171 d_x123
                          have d_kv14 := rd_J eS171 d_kv14
                          have d_x95 := rd_J eS171 d_x95
                          have d_x99 := rd_J eS171 d_x99
                          have d_x109 := rd_J eS171 d_x109
                          have ea3 := rf_J eS171 ea3
                          have ea46 := rf_J eS171 ea46
                          have ea50 := rf_J eS171 ea50
                          have ea125 := rf_J eS171 ea125
                          have ea128 := rf_J eS171 ea128
                          have ea131 := rf_J eS171 ea131
                          have ea158 := rf_J eS171 ea158
                          have l_a125 := ln_J eS171 l_a125
                          have l_a128 := ln_J eS171 l_a128
                          have l_a131 := ln_J eS171 l_a131
                          have l_a158 := ln_J eS171 l_a158
                          have l_a46 := ln_J eS171 l_a46
                          have l_a50 := ln_J eS171 l_a50
                          have g0 := gr_J eS171 g0
                          have gL64 := gr_J eS171 gL64
                          have o_a125 := ob_J eS171 o_a125
                          have o_a128 := ob_J eS171 o_a128
                          have o_a131 := ob_J eS171 o_a131
                          have o_a158 := ob_J eS171 o_a158
                          have o_a3 := ob_J eS171 o_a3
                          have o_a46 := ob_J eS171 o_a46
                          have o_a50 := ob_J eS171 o_a50
                          have o_v0 := ob_J eS171 o_v0
                          intro x172 ex172
                          exact ih74 _ _ _ _ _ ⟨hI, gL64, fL65, rfl, rfl, rfl, (qm126 r_x13 r_kv14 wh_x13 c15 c26 c35 c52 dr_x56 c57 i1u62 c75 c85 dr_x93 lr_x93 r_x95 hh_x95 ex96 dv_x96 r_x99 c100 c110 r_x123 q_x123 wh_x123 c133 c161 ex172), (by rw [ex172]; exact sj)⟩ (mu_up (qm127 r_x13 r_kv14 wh_x13 c15 c26 c35 c52 dr_x56 c57 i1u62 c75 c85 dr_x93 lr_x93 r_x95 hh_x95 ex96 dv_x96 r_x99 c100 c110 r_x123 q_x123 wh_x123 c133 c161 ex172) (qm128 r_x13 r_kv14 wh_x13 c15 c26 c35 c52 dr_x56 c57 i1u62 c75 c85 dr_x93 lr_x93 r_x95 hh_x95 ex96 dv_x96 r_x99 c100 c110 r_x123 q_x123 wh_x123 c133 c161 ex172))
                        · intro _
                          intro _
                          intro x175 ex175
                          have i176 : vp_in (2 : Int32) (hN _ a46) := (vin l_a46 (m := 7) (by decide) (qm129 r_x13 r_kv14 wh_x13 c15 c26 c35 c52 dr_x56 c57 i1u62 c75 c85 dr_x93 lr_x93 r_x95 hh_x95 ex96 dv_x96 r_x99 c100 c110 r_x123 q_x123 wh_x123 c133 c161))
                          refine ⟨i176, ?_⟩
                          intro S177 eS177
                          have hIn : IV S177 := by rw [eS177]; exact iv11_aD hI (de_free (qm130 r_x13 r_kv14 wh_x13 c15 c26 c35 c52 dr_x56 c57 i1u62 c75 c85 dr_x93 lr_x93 r_x95 hh_x95 ex96 dv_x96 r_x99 c100 c110 r_x123 q_x123 wh_x123 c133 c161))
                          have sj := sj_2 eS177 sj
                          have hI := hIn
                          have f0 := fr_J eS177 f0
                          have fL65 := fr_J eS177 fL65
                          have d_kv2 := rd_J eS177 d_kv2
                          have d_x123 := rd_J eS177 d_x123
                          have d_kv14 := rd_J eS177 d_kv14
                          have d_x95 := rd_J eS177 d_x95
                          have d_x99 := rd_J eS177 d_x99
                          have d_x109 := rd_J eS177 d_x109
                          have ea3 := rf_J eS177 ea3
                          have ea46 := rf_J eS177 ea46
                          have ea50 := rf_J eS177 ea50
                          have ea125 := rf_J eS177 ea125
                          have ea128 := rf_J eS177 ea128
                          have ea131 := rf_J eS177 ea131
                          have ea158 := rf_J eS177 ea158
                          have l_a125 := ln_J eS177 l_a125
                          have l_a128 := ln_J eS177 l_a128
                          have l_a131 := ln_J eS177 l_a131
                          have l_a158 := ln_J eS177 l_a158
                          have l_a46 := ln_J eS177 l_a46
                          have l_a50 := ln_J eS177 l_a50
                          have g0 := gr_J eS177 g0
                          have gL64 := gr_J eS177 gL64
                          have o_a125 := ob_J eS177 o_a125
                          have o_a128 := ob_J eS177 o_a128
                          have o_a131 := ob_J eS177 o_a131
                          have o_a158 := ob_J eS177 o_a158
                          have o_a3 := ob_J eS177 o_a3
                          have o_a46 := ob_J eS177 o_a46
                          have o_a50 := ob_J eS177 o_a50
                          have o_v0 := ob_J eS177 o_v0
                          refine u_X11_stay_133 ?_
                          refine ⟨o_v0, ?_⟩
                          refine ⟨a46, ea46, ?_⟩
                          refine ⟨o_a46, ?_⟩
                          refine ⟨(vin l_a46 (m := 7) (by decide) (qm131 r_x13 r_kv14 wh_x13 c15 c26 c35 c52 dr_x56 c57 i1u62 c75 c85 dr_x93 lr_x93 r_x95 hh_x95 ex96 dv_x96 r_x99 c100 c110 r_x123 q_x123 wh_x123 c133 c161)), ?_⟩
                          intro x179 ex179
                          have de_x179 := ml_de hI o_v0 (j := 21) (by decide) ea46 (1 : Int32).toNatClampNeg
                          rw [← ex179] at de_x179
                          have dr_x179 : (0 : Int64) ≤ x179 ∧ x179 ≤ (999 : Int64) := de_x179.2 (by decide)
                          intro x180 ex180
                          have i181 : vp_in (1 : Int32) (hN _ a46) := (vin l_a46 (m := 7) (by decide) (qm131 r_x13 r_kv14 wh_x13 c15 c26 c35 c52 dr_x56 c57 i1u62 c75 c85 dr_x93 lr_x93 r_x95 hh_x95 ex96 dv_x96 r_x99 c100 c110 r_x123 q_x123 wh_x123 c133 c161))
                          refine ⟨i181, ?_⟩
                          intro S182 eS182
                          have hIn : IV S182 := by rw [eS182]; exact iv11_aD hI (sj_de sj ea46 ex179 ex180 dr_x179 (qm132 r_x13 r_kv14 wh_x13 c15 c26 c35 c52 dr_x56 c57 i1u62 c75 c85 dr_x93 lr_x93 r_x95 hh_x95 ex96 dv_x96 r_x99 c100 c110 r_x123 q_x123 wh_x123 c133 c161))
                          have sj := sj_1 (k2 := w72 + 1) eS182 ea46 ex179 ex180 dr_x179 (qm133 r_x13 r_kv14 wh_x13 c15 c26 c35 c52 dr_x56 c57 i1u62 c75 c85 dr_x93 lr_x93 r_x95 hh_x95 ex96 dv_x96 r_x99 c100 c110 r_x123 q_x123 wh_x123 c133 c161) rfl sj
                          have hI := hIn
                          have f0 := fr_J eS182 f0
                          have fL65 := fr_J eS182 fL65
                          have d_kv2 := rd_J eS182 d_kv2
                          have d_x123 := rd_J eS182 d_x123
                          have d_kv14 := rd_J eS182 d_kv14
                          have d_x95 := rd_J eS182 d_x95
                          have d_x99 := rd_J eS182 d_x99
                          have d_x109 := rd_J eS182 d_x109
                          have ea3 := rf_J eS182 ea3
                          have ea46 := rf_J eS182 ea46
                          have ea50 := rf_J eS182 ea50
                          have ea125 := rf_J eS182 ea125
                          have ea128 := rf_J eS182 ea128
                          have ea131 := rf_J eS182 ea131
                          have ea158 := rf_J eS182 ea158
                          have l_a125 := ln_J eS182 l_a125
                          have l_a128 := ln_J eS182 l_a128
                          have l_a131 := ln_J eS182 l_a131
                          have l_a158 := ln_J eS182 l_a158
                          have l_a46 := ln_J eS182 l_a46
                          have l_a50 := ln_J eS182 l_a50
                          have g0 := gr_J eS182 g0
                          have gL64 := gr_J eS182 gL64
                          have o_a125 := ob_J eS182 o_a125
                          have o_a128 := ob_J eS182 o_a128
                          have o_a131 := ob_J eS182 o_a131
                          have o_a158 := ob_J eS182 o_a158
                          have o_a3 := ob_J eS182 o_a3
                          have o_a46 := ob_J eS182 o_a46
                          have o_a50 := ob_J eS182 o_a50
                          have o_v0 := ob_J eS182 o_v0
                          intro x183 ex183
                          exact ih74 _ _ _ _ _ ⟨hI, gL64, fL65, rfl, rfl, rfl, (qm134 r_x13 r_kv14 wh_x13 c15 c26 c35 c52 dr_x56 c57 i1u62 c75 c85 dr_x93 lr_x93 r_x95 hh_x95 ex96 dv_x96 r_x99 c100 c110 r_x123 q_x123 wh_x123 c133 c161 ex183), (by rw [ex183]; exact sj)⟩ (mu_up (qm135 r_x13 r_kv14 wh_x13 c15 c26 c35 c52 dr_x56 c57 i1u62 c75 c85 dr_x93 lr_x93 r_x95 hh_x95 ex96 dv_x96 r_x99 c100 c110 r_x123 q_x123 wh_x123 c133 c161 ex183) (qm136 r_x13 r_kv14 wh_x13 c15 c26 c35 c52 dr_x56 c57 i1u62 c75 c85 dr_x93 lr_x93 r_x95 hh_x95 ex96 dv_x96 r_x99 c100 c110 r_x123 q_x123 wh_x123 c133 c161 ex183))
            · refine u_X11_denied ?_
              refine u_X11_denied_0 ?_
              refine ⟨o_v0, ?_⟩
              refine u_X11_refused ?_
              refine u_X11_refused_0 ?_
              refine ⟨o_v0, ?_⟩
              intro S184 eS184
              have hIn : IV S184 := by rw [eS184]; exact iv11_sI hI o_v0 (by decide) (nu_free (by decide))
              have hI := hIn
              have f0 := fr_I eS184 g0 f0 o_v0 (by decide)
              have d_kv2 := rd_Ij eS184 (by decide) d_kv2
              have d_x13 := rd_Ij eS184 (by decide) d_x13
              have d_kv14 := rd_Ik eS184 o_v0 o_a3 (by decide) d_kv14
              obtain ⟨kv185, hkv185⟩ : ∃ z : Int32, z = (3 : Int32) := ⟨_, rfl⟩
              have d_kv185 := rd_Is eS184 hkv185
              have ea3 := rf_I eS184 ea3
              have ea46 := rf_I eS184 ea46
              have ea50 := rf_I eS184 ea50
              have l_a46 := ln_I eS184 l_a46
              have l_a50 := ln_I eS184 l_a50
              have g0 := gr_I eS184 g0
              have o_a3 := ob_I eS184 o_a3
              have o_a46 := ob_I eS184 o_a46
              have o_a50 := ob_I eS184 o_a50
              have o_v0 := ob_I eS184 o_v0
              intro S186 eS186
              have hIn : IV S186 := by rw [eS186]; exact iv11_sI hI o_v0 (by decide) (nu_free (by decide))
              have hI := hIn
              have f0 := fr_I eS186 g0 f0 o_v0 (by decide)
              have d_kv2 := rd_Ij eS186 (by decide) d_kv2
              have d_x13 := rd_Ij eS186 (by decide) d_x13
              have d_kv14 := rd_Ik eS186 o_v0 o_a3 (by decide) d_kv14
              have d_kv185 := rd_Ij eS186 (by decide) d_kv185
              obtain ⟨kv187, hkv187⟩ : ∃ z : Int32, z = (-1 : Int32) := ⟨_, rfl⟩
              have d_kv187 := rd_Is eS186 hkv187
              have ea3 := rf_I eS186 ea3
              have ea46 := rf_I eS186 ea46
              have ea50 := rf_I eS186 ea50
              have l_a46 := ln_I eS186 l_a46
              have l_a50 := ln_I eS186 l_a50
              have g0 := gr_I eS186 g0
              have o_a3 := ob_I eS186 o_a3
              have o_a46 := ob_I eS186 o_a46
              have o_a50 := ob_I eS186 o_a50
              have o_v0 := ob_I eS186 o_v0
              intro _
              intro _ _
              refine ⟨(Or.inl rfl), ?_⟩
              exact hq _ _ hI g0 f0 (Or.inl rfl)
          · refine ⟨a3, ea3, ?_⟩
            refine ⟨o_a3, ?_⟩
            obtain ⟨a191, ea191, o_a191, l_a191⟩ := shl 34 rfl hI o_a3
            refine ⟨a191, ea191, ?_⟩
            refine ⟨o_a191, ?_⟩
            refine ⟨(vin l_a191 (m := 8) (by decide) (qm137 r_x13 r_kv14 wh_x13 c15 c26 c35 dr_x47 lr_x47 ex48 c52)), ?_⟩
            intro x192 ex192
            refine ⟨fun c193 => ?_, fun c193 => ?_⟩
            · intro _ _
              refine ⟨fun c195 => absurd (show ¬ (0 : Int32) = 0 from c195) (by decide), fun c195 => ?_⟩
              refine u_X11_denied ?_
              refine u_X11_denied_0 ?_
              refine ⟨o_v0, ?_⟩
              refine u_X11_refused ?_
              refine u_X11_refused_0 ?_
              refine ⟨o_v0, ?_⟩
              intro S196 eS196
              have hIn : IV S196 := by rw [eS196]; exact iv11_sI hI o_v0 (by decide) (nu_free (by decide))
              have hI := hIn
              have f0 := fr_I eS196 g0 f0 o_v0 (by decide)
              have d_kv2 := rd_Ij eS196 (by decide) d_kv2
              have d_x13 := rd_Ij eS196 (by decide) d_x13
              have d_kv14 := rd_Ik eS196 o_v0 o_a3 (by decide) d_kv14
              obtain ⟨kv197, hkv197⟩ : ∃ z : Int32, z = (5 : Int32) := ⟨_, rfl⟩
              have d_kv197 := rd_Is eS196 hkv197
              have ea3 := rf_I eS196 ea3
              have ea46 := rf_I eS196 ea46
              have ea50 := rf_I eS196 ea50
              have ea191 := rf_I eS196 ea191
              have l_a191 := ln_I eS196 l_a191
              have l_a46 := ln_I eS196 l_a46
              have l_a50 := ln_I eS196 l_a50
              have g0 := gr_I eS196 g0
              have o_a191 := ob_I eS196 o_a191
              have o_a3 := ob_I eS196 o_a3
              have o_a46 := ob_I eS196 o_a46
              have o_a50 := ob_I eS196 o_a50
              have o_v0 := ob_I eS196 o_v0
              intro S198 eS198
              have hIn : IV S198 := by rw [eS198]; exact iv11_sI hI o_v0 (by decide) (nu_free (by decide))
              have hI := hIn
              have f0 := fr_I eS198 g0 f0 o_v0 (by decide)
              have d_kv2 := rd_Ij eS198 (by decide) d_kv2
              have d_x13 := rd_Ij eS198 (by decide) d_x13
              have d_kv14 := rd_Ik eS198 o_v0 o_a3 (by decide) d_kv14
              have d_kv197 := rd_Ij eS198 (by decide) d_kv197
              obtain ⟨kv199, hkv199⟩ : ∃ z : Int32, z = (-1 : Int32) := ⟨_, rfl⟩
              have d_kv199 := rd_Is eS198 hkv199
              have ea3 := rf_I eS198 ea3
              have ea46 := rf_I eS198 ea46
              have ea50 := rf_I eS198 ea50
              have ea191 := rf_I eS198 ea191
              have l_a191 := ln_I eS198 l_a191
              have l_a46 := ln_I eS198 l_a46
              have l_a50 := ln_I eS198 l_a50
              have g0 := gr_I eS198 g0
              have o_a191 := ob_I eS198 o_a191
              have o_a3 := ob_I eS198 o_a3
              have o_a46 := ob_I eS198 o_a46
              have o_a50 := ob_I eS198 o_a50
              have o_v0 := ob_I eS198 o_v0
              intro _
              intro _ _
              refine ⟨(Or.inl rfl), ?_⟩
              exact hq _ _ hI g0 f0 (Or.inl rfl)
            · intro _ _
              refine ⟨fun c203 => ?_, fun c203 => absurd (show (1 : Int32) = 0 from c203) (by decide)⟩
              refine ⟨a46, ea46, ?_⟩
              refine ⟨o_a46, ?_⟩
              refine ⟨(vin l_a46 (m := 7) (by decide) (qm138 r_x13 r_kv14 wh_x13 c15 c26 c35 c52 c193)), ?_⟩
              intro x205 ex205
              have de_x205 := ml_de hI o_v0 (j := 21) (by decide) ea46 (1 : Int32).toNatClampNeg
              rw [← ex205] at de_x205
              have dr_x205 : (0 : Int64) ≤ x205 ∧ x205 ≤ (999 : Int64) := de_x205.2 (by decide)
              refine ⟨fun c206 => ?_, fun c206 => ?_⟩
              · refine m_X11_keeps hI o_v0 (fun S208 hJ g209 fc210 p_S208 => ?_)
                have hI := hJ
                have l_a191 := (gr_len g209 o_a191).trans l_a191
                have l_a46 := (gr_len g209 o_a46).trans l_a46
                have l_a50 := (gr_len g209 o_a50).trans l_a50
                have d_kv2 := d_kv2.trans (fri_at fc210 (by decide) (by decide) o_v0).symm
                have d_x13 := d_x13.trans (fri_at fc210 (by decide) (by decide) o_v0).symm
                have d_kv14 := d_kv14.trans (fri_at fc210 (by decide) (by decide) o_a3).symm
                have ea3 := (frr_at fc210 (by decide) (by decide) o_v0).trans ea3
                have ea46 := (frr_at fc210 (by decide) (by decide) o_v0).trans ea46
                have ea50 := (frr_at fc210 (by decide) (by decide) o_a3).trans ea50
                have ea191 := (frr_at fc210 (by decide) (by decide) o_a3).trans ea191
                have f0 := fri_tr (S := S1) g0 f0 fc210 (by decide) (by decide)
                have o_a191 := gr_ob g209 o_a191
                have o_a3 := gr_ob g209 o_a3
                have o_a46 := gr_ob g209 o_a46
                have o_a50 := gr_ob g209 o_a50
                have o_v0 := gr_ob g209 o_v0
                have g0 := gr_tr (T := S1) g0 g209
                intro _
                refine i_X11_stay_84 (fun (y0 : Nat) (y1 : Int32) (y2 : Int32) (y3 : Int32) (Z : HS) => ((60 : Int32).toInt - y3.toInt).toNat) (fun (y0 : Nat) (y1 : Int32) (y2 : Int32) (y3 : Int32) (Z : HS) => (IV Z) ∧ (Gr S208 Z) ∧ (FRI [] [] S208 Z) ∧ (v0 = y0) ∧ (v1 = y1) ∧ (x48 = y2) ∧ (0 ≤ y3 ∧ y3 ≤ 60) ∧ (SJ Z v0 y1 y3)) ?_ _ _ _ _ _ ⟨hI, (gr_rf _), (fri_rf _ _ _), rfl, rfl, rfl, (qm139 r_x13 r_kv14 wh_x13 c15 c26 c35 c52 c193 dr_x205 c206), (sj_init ex205 p_S208 ea46 dr_x205 (qm140 r_x13 r_kv14 wh_x13 c15 c26 c35 c52 c193 dr_x205 c206) (lc_le c206))⟩
                intro w215 w217 w219 w221 S212 X222 ⟨hI, gL213, fL214, q216, q218, q220, i1u211, sj⟩ ih223
                subst q216
                subst q218
                subst q220
                have l_a191 := (gr_len gL213 o_a191).trans l_a191
                have l_a46 := (gr_len gL213 o_a46).trans l_a46
                have l_a50 := (gr_len gL213 o_a50).trans l_a50
                have d_kv2 := d_kv2.trans (fri_at fL214 (by decide) (by decide) o_v0).symm
                have d_x13 := d_x13.trans (fri_at fL214 (by decide) (by decide) o_v0).symm
                have d_kv14 := d_kv14.trans (fri_at fL214 (by decide) (by decide) o_a3).symm
                have ea3 := (frr_at fL214 (by decide) (by decide) o_v0).trans ea3
                have ea46 := (frr_at fL214 (by decide) (by decide) o_v0).trans ea46
                have ea50 := (frr_at fL214 (by decide) (by decide) o_a3).trans ea50
                have ea191 := (frr_at fL214 (by decide) (by decide) o_a3).trans ea191
                have f0 := fri_tr (S := S208) g0 f0 fL214 (by decide) (by decide)
                have o_a191 := gr_ob gL213 o_a191
                have o_a3 := gr_ob gL213 o_a3
                have o_a46 := gr_ob gL213 o_a46
                have o_a50 := gr_ob gL213 o_a50
                have o_v0 := gr_ob gL213 o_v0
                have g0 := gr_tr (T := S208) g0 gL213
                refine u_X11_stay_84 ?_
                refine ⟨fun c224 => ?_, fun c224 => ?_⟩
                · refine ⟨o_v0, ?_⟩
                  refine u_X11_granted ?_
                  refine u_X11_granted_0 ?_
                  refine ⟨o_v0, ?_⟩
                  refine u_X11_good ?_
                  refine u_X11_good_0 ?_
                  refine ⟨o_v0, ?_⟩
                  intro S225 eS225
                  have hIn : IV S225 := by rw [eS225]; exact iv11_sI hI o_v0 (by decide) (nu_free (by decide))
                  have sj := sj_I eS225 sj
                  have hI := hIn
                  have f0 := fr_I eS225 g0 f0 o_v0 (by decide)
                  have d_kv2 := rd_Ij eS225 (by decide) d_kv2
                  have d_x13 := rd_Ij eS225 (by decide) d_x13
                  have d_kv14 := rd_Ik eS225 o_v0 o_a3 (by decide) d_kv14
                  obtain ⟨kv226, hkv226⟩ : ∃ z : Int32, z = (0 : Int32) := ⟨_, rfl⟩
                  have d_kv226 := rd_Is eS225 hkv226
                  have ea3 := rf_I eS225 ea3
                  have ea46 := rf_I eS225 ea46
                  have ea50 := rf_I eS225 ea50
                  have ea191 := rf_I eS225 ea191
                  have l_a191 := ln_I eS225 l_a191
                  have l_a46 := ln_I eS225 l_a46
                  have l_a50 := ln_I eS225 l_a50
                  have g0 := gr_I eS225 g0
                  have o_a191 := ob_I eS225 o_a191
                  have o_a3 := ob_I eS225 o_a3
                  have o_a46 := ob_I eS225 o_a46
                  have o_a50 := ob_I eS225 o_a50
                  have o_v0 := ob_I eS225 o_v0
                  intro S227 eS227
                  have hIn : IV S227 := by rw [eS227]; exact iv11_sI hI o_v0 (by decide) (nu_free (by decide))
                  have sj := sj_I eS227 sj
                  have hI := hIn
                  have f0 := fr_I eS227 g0 f0 o_v0 (by decide)
                  have d_kv2 := rd_Ij eS227 (by decide) d_kv2
                  have d_x13 := rd_Ij eS227 (by decide) d_x13
                  have d_kv14 := rd_Ik eS227 o_v0 o_a3 (by decide) d_kv14
                  have d_kv226 := rd_Ij eS227 (by decide) d_kv226
                  obtain ⟨kv228, hkv228⟩ : ∃ z : Int32, z = (-1 : Int32) := ⟨_, rfl⟩
                  have d_kv228 := rd_Is eS227 hkv228
                  have ea3 := rf_I eS227 ea3
                  have ea46 := rf_I eS227 ea46
                  have ea50 := rf_I eS227 ea50
                  have ea191 := rf_I eS227 ea191
                  have l_a191 := ln_I eS227 l_a191
                  have l_a46 := ln_I eS227 l_a46
                  have l_a50 := ln_I eS227 l_a50
                  have g0 := gr_I eS227 g0
                  have o_a191 := ob_I eS227 o_a191
                  have o_a3 := ob_I eS227 o_a3
                  have o_a46 := ob_I eS227 o_a46
                  have o_a50 := ob_I eS227 o_a50
                  have o_v0 := ob_I eS227 o_v0
                  intro _
                  intro _ _
                  refine ⟨(Or.inr rfl), ?_⟩
                  exact hq _ _ hI g0 f0 (Or.inr rfl)
                · refine ⟨o_v0, ?_⟩
                  refine ⟨a3, ea3, ?_⟩
                  refine ⟨o_a3, ?_⟩
                  refine ⟨a50, ea50, ?_⟩
                  refine ⟨o_a50, ?_⟩
                  refine ⟨(vin l_a50 (m := 8) (by decide) (qm141 r_x13 r_kv14 wh_x13 c15 c26 c35 dr_x47 lr_x47 ex48 c52 c193 dr_x205 c206 i1u211 c224)), ?_⟩
                  intro x233 ex233
                  refine ⟨fun c234 => ?_, fun c234 => ?_⟩
                  · refine u_X11_stay_133 ?_
                    refine ⟨o_v0, ?_⟩
                    refine ⟨a46, ea46, ?_⟩
                    refine ⟨o_a46, ?_⟩
                    refine ⟨(vin l_a46 (m := 7) (by decide) (qm142 r_x13 r_kv14 wh_x13 c15 c26 c35 c52 c193 dr_x205 c206 i1u211 c224 c234)), ?_⟩
                    intro x236 ex236
                    have de_x236 := ml_de hI o_v0 (j := 21) (by decide) ea46 (1 : Int32).toNatClampNeg
                    rw [← ex236] at de_x236
                    have dr_x236 : (0 : Int64) ≤ x236 ∧ x236 ≤ (999 : Int64) := de_x236.2 (by decide)
                    intro x237 ex237
                    have i238 : vp_in (1 : Int32) (hN _ a46) := (vin l_a46 (m := 7) (by decide) (qm142 r_x13 r_kv14 wh_x13 c15 c26 c35 c52 c193 dr_x205 c206 i1u211 c224 c234))
                    refine ⟨i238, ?_⟩
                    intro S239 eS239
                    have hIn : IV S239 := by rw [eS239]; exact iv11_aD hI (sj_de sj ea46 ex236 ex237 dr_x236 (qm143 r_x13 r_kv14 wh_x13 c15 c26 c35 c52 c193 dr_x205 c206 i1u211 c224 c234))
                    have sj := sj_1 (k2 := w221 + 1) eS239 ea46 ex236 ex237 dr_x236 (qm144 r_x13 r_kv14 wh_x13 c15 c26 c35 c52 c193 dr_x205 c206 i1u211 c224 c234) rfl sj
                    have hI := hIn
                    have f0 := fr_J eS239 f0
                    have fL214 := fr_J eS239 fL214
                    have d_kv2 := rd_J eS239 d_kv2
                    have d_x13 := rd_J eS239 d_x13
                    have d_kv14 := rd_J eS239 d_kv14
                    have ea3 := rf_J eS239 ea3
                    have ea46 := rf_J eS239 ea46
                    have ea50 := rf_J eS239 ea50
                    have ea191 := rf_J eS239 ea191
                    have l_a191 := ln_J eS239 l_a191
                    have l_a46 := ln_J eS239 l_a46
                    have l_a50 := ln_J eS239 l_a50
                    have g0 := gr_J eS239 g0
                    have gL213 := gr_J eS239 gL213
                    have o_a191 := ob_J eS239 o_a191
                    have o_a3 := ob_J eS239 o_a3
                    have o_a46 := ob_J eS239 o_a46
                    have o_a50 := ob_J eS239 o_a50
                    have o_v0 := ob_J eS239 o_v0
                    intro x240 ex240
                    exact ih223 _ _ _ _ _ ⟨hI, gL213, fL214, rfl, rfl, rfl, (qm145 r_x13 r_kv14 wh_x13 c15 c26 c35 c52 c193 dr_x205 c206 i1u211 c224 c234 ex240), (by rw [ex240]; exact sj)⟩ (mu_up (qm146 r_x13 r_kv14 wh_x13 c15 c26 c35 c52 c193 dr_x205 c206 i1u211 c224 c234 ex240) (qm147 r_x13 r_kv14 wh_x13 c15 c26 c35 c52 c193 dr_x205 c206 i1u211 c224 c234 ex240))
                  · refine ⟨a46, ea46, ?_⟩
                    refine ⟨o_a46, ?_⟩
                    refine ⟨(vin l_a46 (m := 7) (by decide) (qm148 r_x13 r_kv14 wh_x13 c15 c26 c35 c52 c193 dr_x205 c206 i1u211 c224 c234)), ?_⟩
                    intro x242 ex242
                    have de_x242 := ml_de hI o_v0 (j := 21) (by decide) ea46 (1 : Int32).toNatClampNeg
                    rw [← ex242] at de_x242
                    have dr_x242 : (0 : Int64) ≤ x242 ∧ x242 ≤ (999 : Int64) := de_x242.2 (by decide)
                    have lr_x242 : 0 ≤ x242.toInt32 ∧ x242.toInt32 ≤ (999 : Int32) := l2i_rng (by decide) dr_x242
                    refine u_X11_rainsIn ?_
                    refine u_X11_rainsIn_0 ?_
                    refine ⟨o_v0, ?_⟩
                    refine u_X11_hourOf ?_
                    refine u_X11_hourOf_0 ?_
                    refine ⟨o_v0, ?_⟩
                    refine ⟨a3, ea3, ?_⟩
                    refine ⟨o_a3, ?_⟩
                    intro x244 ex244
                    have r_x244 : (0 : Int32) ≤ x244 ∧ x244 ≤ (60 : Int32) := by rw [ex244]; exact nu 16 rfl hI o_a3
                    have d_x244 := ex244
                    have hh_x244 : 1 ≤ x244 := by rw [ex244]; exact ml_hour hI o_v0 ea3
                    refine ⟨(qm149 r_x13 r_kv14 wh_x13 c15 c26 c35 c52 c193 dr_x205 c206 i1u211 c224 c234 r_x244 hh_x244), ?_⟩
                    intro x245 ex245
                    have dv_x245 : 0 ≤ x245 ∧ x245 ≤ x242.toInt32 := by rw [ex245]; exact dv0 (qm150 r_x13 r_kv14 wh_x13 c15 c26 c35 c52 c193 dr_x205 c206 i1u211 c224 c234 dr_x242 lr_x242 r_x244 hh_x244 ex245) (i32pos (qm151 r_x13 r_kv14 wh_x13 c15 c26 c35 c52 c193 dr_x205 c206 i1u211 c224 c234 dr_x242 lr_x242 r_x244 hh_x244 ex245))
                    intro _
                    refine ⟨a3, ea3, ?_⟩
                    refine ⟨o_a3, ?_⟩
                    intro x248 ex248
                    have r_x248 : (0 : Int32) ≤ x248 ∧ x248 ≤ (6 : Int32) := by rw [ex248]; exact nu 17 rfl hI o_a3
                    have d_x248 := ex248
                    refine ⟨fun c249 => ?_, fun c249 => ?_⟩
                    · intro _ _
                      refine ⟨fun c251 => ?_, fun c251 => absurd (show ¬ (0 : Int32) = 0 from c251) (by decide)⟩
                      refine u_X11_stay_133 ?_
                      refine ⟨o_v0, ?_⟩
                      refine ⟨a46, ea46, ?_⟩
                      refine ⟨o_a46, ?_⟩
                      refine ⟨(vin l_a46 (m := 7) (by decide) (qm152 r_x13 r_kv14 wh_x13 c15 c26 c35 c52 c193 dr_x205 c206 i1u211 c224 c234 dr_x242 lr_x242 r_x244 hh_x244 ex245 dv_x245 r_x248 c249)), ?_⟩
                      intro x253 ex253
                      have de_x253 := ml_de hI o_v0 (j := 21) (by decide) ea46 (1 : Int32).toNatClampNeg
                      rw [← ex253] at de_x253
                      have dr_x253 : (0 : Int64) ≤ x253 ∧ x253 ≤ (999 : Int64) := de_x253.2 (by decide)
                      intro x254 ex254
                      have i255 : vp_in (1 : Int32) (hN _ a46) := (vin l_a46 (m := 7) (by decide) (qm152 r_x13 r_kv14 wh_x13 c15 c26 c35 c52 c193 dr_x205 c206 i1u211 c224 c234 dr_x242 lr_x242 r_x244 hh_x244 ex245 dv_x245 r_x248 c249))
                      refine ⟨i255, ?_⟩
                      intro S256 eS256
                      have hIn : IV S256 := by rw [eS256]; exact iv11_aD hI (sj_de sj ea46 ex253 ex254 dr_x253 (qm153 r_x13 r_kv14 wh_x13 c15 c26 c35 c52 c193 dr_x205 c206 i1u211 c224 c234 dr_x242 lr_x242 r_x244 hh_x244 ex245 dv_x245 r_x248 c249))
                      have sj := sj_1 (k2 := w221 + 1) eS256 ea46 ex253 ex254 dr_x253 (qm154 r_x13 r_kv14 wh_x13 c15 c26 c35 c52 c193 dr_x205 c206 i1u211 c224 c234 dr_x242 lr_x242 r_x244 hh_x244 ex245 dv_x245 r_x248 c249) rfl sj
                      have hI := hIn
                      have f0 := fr_J eS256 f0
                      have fL214 := fr_J eS256 fL214
                      have d_kv2 := rd_J eS256 d_kv2
                      have d_x13 := rd_J eS256 d_x13
                      have d_kv14 := rd_J eS256 d_kv14
                      have d_x244 := rd_J eS256 d_x244
                      have d_x248 := rd_J eS256 d_x248
                      have ea3 := rf_J eS256 ea3
                      have ea46 := rf_J eS256 ea46
                      have ea50 := rf_J eS256 ea50
                      have ea191 := rf_J eS256 ea191
                      have l_a191 := ln_J eS256 l_a191
                      have l_a46 := ln_J eS256 l_a46
                      have l_a50 := ln_J eS256 l_a50
                      have g0 := gr_J eS256 g0
                      have gL213 := gr_J eS256 gL213
                      have o_a191 := ob_J eS256 o_a191
                      have o_a3 := ob_J eS256 o_a3
                      have o_a46 := ob_J eS256 o_a46
                      have o_a50 := ob_J eS256 o_a50
                      have o_v0 := ob_J eS256 o_v0
                      intro x257 ex257
                      exact ih223 _ _ _ _ _ ⟨hI, gL213, fL214, rfl, rfl, rfl, (qm155 r_x13 r_kv14 wh_x13 c15 c26 c35 c52 c193 dr_x205 c206 i1u211 c224 c234 dr_x242 lr_x242 r_x244 hh_x244 ex245 dv_x245 r_x248 c249 ex257), (by rw [ex257]; exact sj)⟩ (mu_up (qm156 r_x13 r_kv14 wh_x13 c15 c26 c35 c52 c193 dr_x205 c206 i1u211 c224 c234 dr_x242 lr_x242 r_x244 hh_x244 ex245 dv_x245 r_x248 c249 ex257) (qm157 r_x13 r_kv14 wh_x13 c15 c26 c35 c52 c193 dr_x205 c206 i1u211 c224 c234 dr_x242 lr_x242 r_x244 hh_x244 ex245 dv_x245 r_x248 c249 ex257))
                    · intro x258 ex258
                      have d_x258 := ex258
                      refine ⟨fun c259 => ?_, fun c259 => ?_⟩
                      · intro _ _
                        refine ⟨fun c261 => ?_, fun c261 => absurd (show ¬ (0 : Int32) = 0 from c261) (by decide)⟩
                        refine u_X11_stay_133 ?_
                        refine ⟨o_v0, ?_⟩
                        refine ⟨a46, ea46, ?_⟩
                        refine ⟨o_a46, ?_⟩
                        refine ⟨(vin l_a46 (m := 7) (by decide) (qm158 r_x13 r_kv14 wh_x13 c15 c26 c35 c52 c193 dr_x205 c206 i1u211 c224 c234 dr_x242 lr_x242 r_x244 hh_x244 ex245 dv_x245 r_x248 c249 c259)), ?_⟩
                        intro x263 ex263
                        have de_x263 := ml_de hI o_v0 (j := 21) (by decide) ea46 (1 : Int32).toNatClampNeg
                        rw [← ex263] at de_x263
                        have dr_x263 : (0 : Int64) ≤ x263 ∧ x263 ≤ (999 : Int64) := de_x263.2 (by decide)
                        intro x264 ex264
                        have i265 : vp_in (1 : Int32) (hN _ a46) := (vin l_a46 (m := 7) (by decide) (qm158 r_x13 r_kv14 wh_x13 c15 c26 c35 c52 c193 dr_x205 c206 i1u211 c224 c234 dr_x242 lr_x242 r_x244 hh_x244 ex245 dv_x245 r_x248 c249 c259))
                        refine ⟨i265, ?_⟩
                        intro S266 eS266
                        have hIn : IV S266 := by rw [eS266]; exact iv11_aD hI (sj_de sj ea46 ex263 ex264 dr_x263 (qm159 r_x13 r_kv14 wh_x13 c15 c26 c35 c52 c193 dr_x205 c206 i1u211 c224 c234 dr_x242 lr_x242 r_x244 hh_x244 ex245 dv_x245 r_x248 c249 c259))
                        have sj := sj_1 (k2 := w221 + 1) eS266 ea46 ex263 ex264 dr_x263 (qm160 r_x13 r_kv14 wh_x13 c15 c26 c35 c52 c193 dr_x205 c206 i1u211 c224 c234 dr_x242 lr_x242 r_x244 hh_x244 ex245 dv_x245 r_x248 c249 c259) rfl sj
                        have hI := hIn
                        have f0 := fr_J eS266 f0
                        have fL214 := fr_J eS266 fL214
                        have d_kv2 := rd_J eS266 d_kv2
                        have d_x13 := rd_J eS266 d_x13
                        have d_kv14 := rd_J eS266 d_kv14
                        have d_x244 := rd_J eS266 d_x244
                        have d_x248 := rd_J eS266 d_x248
                        have d_x258 := rd_J eS266 d_x258
                        have ea3 := rf_J eS266 ea3
                        have ea46 := rf_J eS266 ea46
                        have ea50 := rf_J eS266 ea50
                        have ea191 := rf_J eS266 ea191
                        have l_a191 := ln_J eS266 l_a191
                        have l_a46 := ln_J eS266 l_a46
                        have l_a50 := ln_J eS266 l_a50
                        have g0 := gr_J eS266 g0
                        have gL213 := gr_J eS266 gL213
                        have o_a191 := ob_J eS266 o_a191
                        have o_a3 := ob_J eS266 o_a3
                        have o_a46 := ob_J eS266 o_a46
                        have o_a50 := ob_J eS266 o_a50
                        have o_v0 := ob_J eS266 o_v0
                        intro x267 ex267
                        exact ih223 _ _ _ _ _ ⟨hI, gL213, fL214, rfl, rfl, rfl, (qm161 r_x13 r_kv14 wh_x13 c15 c26 c35 c52 c193 dr_x205 c206 i1u211 c224 c234 dr_x242 lr_x242 r_x244 hh_x244 ex245 dv_x245 r_x248 c249 c259 ex267), (by rw [ex267]; exact sj)⟩ (mu_up (qm162 r_x13 r_kv14 wh_x13 c15 c26 c35 c52 c193 dr_x205 c206 i1u211 c224 c234 dr_x242 lr_x242 r_x244 hh_x244 ex245 dv_x245 r_x248 c249 c259 ex267) (qm163 r_x13 r_kv14 wh_x13 c15 c26 c35 c52 c193 dr_x205 c206 i1u211 c224 c234 dr_x242 lr_x242 r_x244 hh_x244 ex245 dv_x245 r_x248 c249 c259 ex267))
                      · intro _ _
                        refine ⟨fun c269 => absurd (show (1 : Int32) = 0 from c269) (by decide), fun c269 => ?_⟩
                        refine ⟨a46, ea46, ?_⟩
                        refine ⟨o_a46, ?_⟩
                        refine ⟨(vin l_a46 (m := 7) (by decide) (qm164 r_x13 r_kv14 wh_x13 c15 c26 c35 c52 c193 dr_x205 c206 i1u211 c224 c234 dr_x242 lr_x242 r_x244 hh_x244 ex245 dv_x245 r_x248 c249 c259)), ?_⟩
                        intro x271 ex271
                        have de_x271 := ml_de hI o_v0 (j := 21) (by decide) ea46 (2 : Int32).toNatClampNeg
                        rw [← ex271] at de_x271
                        intro x272 ex272
                        have r_x272 : (-2 : Int32) ≤ x272 ∧ x272 ≤ (3 : Int32) := by rw [ex272]; exact nu 26 rfl hI o_v0
                        have q_x272 : x272 = x13 := ex272.trans d_x13.symm
                        have d_x272 := ex272
                        have wh_x272 : x272 = -2 ∨ (0 ≤ x272 ∧ x272 < kv14) := by rw [ex272, d_kv14]; exact ml_who hI o_v0 ea3
                        refine u_X11_drips ?_
                        refine u_X11_drips_0 ?_
                        refine ⟨o_v0, ?_⟩
                        refine ⟨a3, ea3, ?_⟩
                        refine ⟨o_a3, ?_⟩
                        refine ⟨a191, ea191, ?_⟩
                        refine ⟨o_a191, ?_⟩
                        refine ⟨(vin l_a191 (m := 8) (by decide) (qm165 r_x13 r_kv14 wh_x13 c15 c26 c35 dr_x47 lr_x47 ex48 c52 c193 dr_x205 c206 i1u211 c224 c234 dr_x242 lr_x242 r_x244 hh_x244 ex245 dv_x245 r_x248 c249 c259 r_x272 q_x272 wh_x272)), ?_⟩
                        intro x275 ex275
                        refine ⟨a3, ea3, ?_⟩
                        refine ⟨o_a3, ?_⟩
                        obtain ⟨a277, ea277, o_a277, l_a277⟩ := shl 43 rfl hI o_a3
                        refine ⟨a277, ea277, ?_⟩
                        refine ⟨o_a277, ?_⟩
                        refine ⟨(vin l_a277 (m := 4) (by decide) (qm166 r_x13 r_kv14 wh_x13 c15 c26 c35 c52 c193 dr_x205 c206 i1u211 c224 c234 dr_x242 lr_x242 r_x244 hh_x244 ex245 dv_x245 r_x248 c249 c259 r_x272 q_x272 wh_x272)), ?_⟩
                        intro x278 ex278
                        refine ⟨a3, ea3, ?_⟩
                        refine ⟨o_a3, ?_⟩
                        refine u_X10_shield ?_
                        refine u_X10_shield_0 ?_
                        refine ⟨o_a3, ?_⟩
                        obtain ⟨a280, ea280, o_a280, l_a280⟩ := shl 41 rfl hI o_a3
                        refine ⟨a280, ea280, ?_⟩
                        refine ⟨o_a280, ?_⟩
                        refine ⟨(vin l_a280 (m := 4) (by decide) (qm166 r_x13 r_kv14 wh_x13 c15 c26 c35 c52 c193 dr_x205 c206 i1u211 c224 c234 dr_x242 lr_x242 r_x244 hh_x244 ex245 dv_x245 r_x248 c249 c259 r_x272 q_x272 wh_x272)), ?_⟩
                        intro x281 ex281
                        refine ⟨fun c282 => ?_, fun c282 => ?_⟩
                        · intro _
                          refine u_X11_less ?_
                          refine u_X11_less_0 ?_
                          refine ⟨fun c284 => ?_, fun c284 => ?_⟩
                          · intro _
                            intro _
                            intro x287 ex287
                            have i288 : vp_in (2 : Int32) (hN _ a46) := (vin l_a46 (m := 7) (by decide) (qm167 r_x13 r_kv14 wh_x13 c15 c26 c35 c52 c193 dr_x205 c206 i1u211 c224 c234 dr_x242 lr_x242 r_x244 hh_x244 ex245 dv_x245 r_x248 c249 c259 r_x272 q_x272 wh_x272 c282 c284))
                            refine ⟨i288, ?_⟩
                            intro S289 eS289
                            have hIn : IV S289 := by rw [eS289]; exact iv11_aD hI (de_free (qm168 r_x13 r_kv14 wh_x13 c15 c26 c35 c52 c193 dr_x205 c206 i1u211 c224 c234 dr_x242 lr_x242 r_x244 hh_x244 ex245 dv_x245 r_x248 c249 c259 r_x272 q_x272 wh_x272 c282 c284))
                            have sj := sj_2 eS289 sj
                            have hI := hIn
                            have f0 := fr_J eS289 f0
                            have fL214 := fr_J eS289 fL214
                            have d_kv2 := rd_J eS289 d_kv2
                            have d_x272 := rd_J eS289 d_x272
                            have d_kv14 := rd_J eS289 d_kv14
                            have d_x244 := rd_J eS289 d_x244
                            have d_x248 := rd_J eS289 d_x248
                            have d_x258 := rd_J eS289 d_x258
                            have ea3 := rf_J eS289 ea3
                            have ea46 := rf_J eS289 ea46
                            have ea50 := rf_J eS289 ea50
                            have ea191 := rf_J eS289 ea191
                            have ea277 := rf_J eS289 ea277
                            have ea280 := rf_J eS289 ea280
                            have l_a191 := ln_J eS289 l_a191
                            have l_a277 := ln_J eS289 l_a277
                            have l_a280 := ln_J eS289 l_a280
                            have l_a46 := ln_J eS289 l_a46
                            have l_a50 := ln_J eS289 l_a50
                            have g0 := gr_J eS289 g0
                            have gL213 := gr_J eS289 gL213
                            have o_a191 := ob_J eS289 o_a191
                            have o_a277 := ob_J eS289 o_a277
                            have o_a280 := ob_J eS289 o_a280
                            have o_a3 := ob_J eS289 o_a3
                            have o_a46 := ob_J eS289 o_a46
                            have o_a50 := ob_J eS289 o_a50
                            have o_v0 := ob_J eS289 o_v0
                            refine u_X11_stay_133 ?_
                            refine ⟨o_v0, ?_⟩
                            refine ⟨a46, ea46, ?_⟩
                            refine ⟨o_a46, ?_⟩
                            refine ⟨(vin l_a46 (m := 7) (by decide) (qm169 r_x13 r_kv14 wh_x13 c15 c26 c35 c52 c193 dr_x205 c206 i1u211 c224 c234 dr_x242 lr_x242 r_x244 hh_x244 ex245 dv_x245 r_x248 c249 c259 r_x272 q_x272 wh_x272 c282 c284)), ?_⟩
                            intro x291 ex291
                            have de_x291 := ml_de hI o_v0 (j := 21) (by decide) ea46 (1 : Int32).toNatClampNeg
                            rw [← ex291] at de_x291
                            have dr_x291 : (0 : Int64) ≤ x291 ∧ x291 ≤ (999 : Int64) := de_x291.2 (by decide)
                            intro x292 ex292
                            have i293 : vp_in (1 : Int32) (hN _ a46) := (vin l_a46 (m := 7) (by decide) (qm169 r_x13 r_kv14 wh_x13 c15 c26 c35 c52 c193 dr_x205 c206 i1u211 c224 c234 dr_x242 lr_x242 r_x244 hh_x244 ex245 dv_x245 r_x248 c249 c259 r_x272 q_x272 wh_x272 c282 c284))
                            refine ⟨i293, ?_⟩
                            intro S294 eS294
                            have hIn : IV S294 := by rw [eS294]; exact iv11_aD hI (sj_de sj ea46 ex291 ex292 dr_x291 (qm170 r_x13 r_kv14 wh_x13 c15 c26 c35 c52 c193 dr_x205 c206 i1u211 c224 c234 dr_x242 lr_x242 r_x244 hh_x244 ex245 dv_x245 r_x248 c249 c259 r_x272 q_x272 wh_x272 c282 c284))
                            have sj := sj_1 (k2 := w221 + 1) eS294 ea46 ex291 ex292 dr_x291 (qm171 r_x13 r_kv14 wh_x13 c15 c26 c35 c52 c193 dr_x205 c206 i1u211 c224 c234 dr_x242 lr_x242 r_x244 hh_x244 ex245 dv_x245 r_x248 c249 c259 r_x272 q_x272 wh_x272 c282 c284) rfl sj
                            have hI := hIn
                            have f0 := fr_J eS294 f0
                            have fL214 := fr_J eS294 fL214
                            have d_kv2 := rd_J eS294 d_kv2
                            have d_x272 := rd_J eS294 d_x272
                            have d_kv14 := rd_J eS294 d_kv14
                            have d_x244 := rd_J eS294 d_x244
                            have d_x248 := rd_J eS294 d_x248
                            have d_x258 := rd_J eS294 d_x258
                            have ea3 := rf_J eS294 ea3
                            have ea46 := rf_J eS294 ea46
                            have ea50 := rf_J eS294 ea50
                            have ea191 := rf_J eS294 ea191
                            have ea277 := rf_J eS294 ea277
                            have ea280 := rf_J eS294 ea280
                            have l_a191 := ln_J eS294 l_a191
                            have l_a277 := ln_J eS294 l_a277
                            have l_a280 := ln_J eS294 l_a280
                            have l_a46 := ln_J eS294 l_a46
                            have l_a50 := ln_J eS294 l_a50
                            have g0 := gr_J eS294 g0
                            have gL213 := gr_J eS294 gL213
                            have o_a191 := ob_J eS294 o_a191
                            have o_a277 := ob_J eS294 o_a277
                            have o_a280 := ob_J eS294 o_a280
                            have o_a3 := ob_J eS294 o_a3
                            have o_a46 := ob_J eS294 o_a46
                            have o_a50 := ob_J eS294 o_a50
                            have o_v0 := ob_J eS294 o_v0
                            intro x295 ex295
                            exact ih223 _ _ _ _ _ ⟨hI, gL213, fL214, rfl, rfl, rfl, (qm172 r_x13 r_kv14 wh_x13 c15 c26 c35 c52 c193 dr_x205 c206 i1u211 c224 c234 dr_x242 lr_x242 r_x244 hh_x244 ex245 dv_x245 r_x248 c249 c259 r_x272 q_x272 wh_x272 c282 c284 ex295), (by rw [ex295]; exact sj)⟩ (mu_up (qm173 r_x13 r_kv14 wh_x13 c15 c26 c35 c52 c193 dr_x205 c206 i1u211 c224 c234 dr_x242 lr_x242 r_x244 hh_x244 ex245 dv_x245 r_x248 c249 c259 r_x272 q_x272 wh_x272 c282 c284 ex295) (qm174 r_x13 r_kv14 wh_x13 c15 c26 c35 c52 c193 dr_x205 c206 i1u211 c224 c234 dr_x242 lr_x242 r_x244 hh_x244 ex245 dv_x245 r_x248 c249 c259 r_x272 q_x272 wh_x272 c282 c284 ex295))
                          · intro _
                            intro _
                            intro x298 ex298
                            have i299 : vp_in (2 : Int32) (hN _ a46) := (vin l_a46 (m := 7) (by decide) (qm175 r_x13 r_kv14 wh_x13 c15 c26 c35 c52 c193 dr_x205 c206 i1u211 c224 c234 dr_x242 lr_x242 r_x244 hh_x244 ex245 dv_x245 r_x248 c249 c259 r_x272 q_x272 wh_x272 c282 c284))
                            refine ⟨i299, ?_⟩
                            intro S300 eS300
                            have hIn : IV S300 := by rw [eS300]; exact iv11_aD hI (de_free (qm176 r_x13 r_kv14 wh_x13 c15 c26 c35 c52 c193 dr_x205 c206 i1u211 c224 c234 dr_x242 lr_x242 r_x244 hh_x244 ex245 dv_x245 r_x248 c249 c259 r_x272 q_x272 wh_x272 c282 c284))
                            have sj := sj_2 eS300 sj
                            have hI := hIn
                            have f0 := fr_J eS300 f0
                            have fL214 := fr_J eS300 fL214
                            have d_kv2 := rd_J eS300 d_kv2
                            have d_x272 := rd_J eS300 d_x272
                            have d_kv14 := rd_J eS300 d_kv14
                            have d_x244 := rd_J eS300 d_x244
                            have d_x248 := rd_J eS300 d_x248
                            have d_x258 := rd_J eS300 d_x258
                            have ea3 := rf_J eS300 ea3
                            have ea46 := rf_J eS300 ea46
                            have ea50 := rf_J eS300 ea50
                            have ea191 := rf_J eS300 ea191
                            have ea277 := rf_J eS300 ea277
                            have ea280 := rf_J eS300 ea280
                            have l_a191 := ln_J eS300 l_a191
                            have l_a277 := ln_J eS300 l_a277
                            have l_a280 := ln_J eS300 l_a280
                            have l_a46 := ln_J eS300 l_a46
                            have l_a50 := ln_J eS300 l_a50
                            have g0 := gr_J eS300 g0
                            have gL213 := gr_J eS300 gL213
                            have o_a191 := ob_J eS300 o_a191
                            have o_a277 := ob_J eS300 o_a277
                            have o_a280 := ob_J eS300 o_a280
                            have o_a3 := ob_J eS300 o_a3
                            have o_a46 := ob_J eS300 o_a46
                            have o_a50 := ob_J eS300 o_a50
                            have o_v0 := ob_J eS300 o_v0
                            refine u_X11_stay_133 ?_
                            refine ⟨o_v0, ?_⟩
                            refine ⟨a46, ea46, ?_⟩
                            refine ⟨o_a46, ?_⟩
                            refine ⟨(vin l_a46 (m := 7) (by decide) (qm177 r_x13 r_kv14 wh_x13 c15 c26 c35 c52 c193 dr_x205 c206 i1u211 c224 c234 dr_x242 lr_x242 r_x244 hh_x244 ex245 dv_x245 r_x248 c249 c259 r_x272 q_x272 wh_x272 c282 c284)), ?_⟩
                            intro x302 ex302
                            have de_x302 := ml_de hI o_v0 (j := 21) (by decide) ea46 (1 : Int32).toNatClampNeg
                            rw [← ex302] at de_x302
                            have dr_x302 : (0 : Int64) ≤ x302 ∧ x302 ≤ (999 : Int64) := de_x302.2 (by decide)
                            intro x303 ex303
                            have i304 : vp_in (1 : Int32) (hN _ a46) := (vin l_a46 (m := 7) (by decide) (qm177 r_x13 r_kv14 wh_x13 c15 c26 c35 c52 c193 dr_x205 c206 i1u211 c224 c234 dr_x242 lr_x242 r_x244 hh_x244 ex245 dv_x245 r_x248 c249 c259 r_x272 q_x272 wh_x272 c282 c284))
                            refine ⟨i304, ?_⟩
                            intro S305 eS305
                            have hIn : IV S305 := by rw [eS305]; exact iv11_aD hI (sj_de sj ea46 ex302 ex303 dr_x302 (qm178 r_x13 r_kv14 wh_x13 c15 c26 c35 c52 c193 dr_x205 c206 i1u211 c224 c234 dr_x242 lr_x242 r_x244 hh_x244 ex245 dv_x245 r_x248 c249 c259 r_x272 q_x272 wh_x272 c282 c284))
                            have sj := sj_1 (k2 := w221 + 1) eS305 ea46 ex302 ex303 dr_x302 (qm179 r_x13 r_kv14 wh_x13 c15 c26 c35 c52 c193 dr_x205 c206 i1u211 c224 c234 dr_x242 lr_x242 r_x244 hh_x244 ex245 dv_x245 r_x248 c249 c259 r_x272 q_x272 wh_x272 c282 c284) rfl sj
                            have hI := hIn
                            have f0 := fr_J eS305 f0
                            have fL214 := fr_J eS305 fL214
                            have d_kv2 := rd_J eS305 d_kv2
                            have d_x272 := rd_J eS305 d_x272
                            have d_kv14 := rd_J eS305 d_kv14
                            have d_x244 := rd_J eS305 d_x244
                            have d_x248 := rd_J eS305 d_x248
                            have d_x258 := rd_J eS305 d_x258
                            have ea3 := rf_J eS305 ea3
                            have ea46 := rf_J eS305 ea46
                            have ea50 := rf_J eS305 ea50
                            have ea191 := rf_J eS305 ea191
                            have ea277 := rf_J eS305 ea277
                            have ea280 := rf_J eS305 ea280
                            have l_a191 := ln_J eS305 l_a191
                            have l_a277 := ln_J eS305 l_a277
                            have l_a280 := ln_J eS305 l_a280
                            have l_a46 := ln_J eS305 l_a46
                            have l_a50 := ln_J eS305 l_a50
                            have g0 := gr_J eS305 g0
                            have gL213 := gr_J eS305 gL213
                            have o_a191 := ob_J eS305 o_a191
                            have o_a277 := ob_J eS305 o_a277
                            have o_a280 := ob_J eS305 o_a280
                            have o_a3 := ob_J eS305 o_a3
                            have o_a46 := ob_J eS305 o_a46
                            have o_a50 := ob_J eS305 o_a50
                            have o_v0 := ob_J eS305 o_v0
                            intro x306 ex306
                            exact ih223 _ _ _ _ _ ⟨hI, gL213, fL214, rfl, rfl, rfl, (qm180 r_x13 r_kv14 wh_x13 c15 c26 c35 c52 c193 dr_x205 c206 i1u211 c224 c234 dr_x242 lr_x242 r_x244 hh_x244 ex245 dv_x245 r_x248 c249 c259 r_x272 q_x272 wh_x272 c282 c284 ex306), (by rw [ex306]; exact sj)⟩ (mu_up (qm181 r_x13 r_kv14 wh_x13 c15 c26 c35 c52 c193 dr_x205 c206 i1u211 c224 c234 dr_x242 lr_x242 r_x244 hh_x244 ex245 dv_x245 r_x248 c249 c259 r_x272 q_x272 wh_x272 c282 c284 ex306) (qm182 r_x13 r_kv14 wh_x13 c15 c26 c35 c52 c193 dr_x205 c206 i1u211 c224 c234 dr_x242 lr_x242 r_x244 hh_x244 ex245 dv_x245 r_x248 c249 c259 r_x272 q_x272 wh_x272 c282 c284 ex306))
                        · obtain ⟨a307, ea307, o_a307, l_a307⟩ := shl 42 rfl hI o_a3
                          refine ⟨a307, ea307, ?_⟩
                          refine ⟨o_a307, ?_⟩
                          refine ⟨(vin l_a307 (m := 4) (by decide) (qm183 r_x13 r_kv14 wh_x13 c15 c26 c35 c52 c193 dr_x205 c206 i1u211 c224 c234 dr_x242 lr_x242 r_x244 hh_x244 ex245 dv_x245 r_x248 c249 c259 r_x272 q_x272 wh_x272 c282)), ?_⟩
                          intro x308 ex308
                          intro _
                          refine u_X11_less ?_
                          refine u_X11_less_0 ?_
                          refine ⟨fun c310 => ?_, fun c310 => ?_⟩
                          · intro _
                            intro _
                            intro x313 ex313
                            have i314 : vp_in (2 : Int32) (hN _ a46) := (vin l_a46 (m := 7) (by decide) (qm184 r_x13 r_kv14 wh_x13 c15 c26 c35 c52 c193 dr_x205 c206 i1u211 c224 c234 dr_x242 lr_x242 r_x244 hh_x244 ex245 dv_x245 r_x248 c249 c259 r_x272 q_x272 wh_x272 c282 c310))
                            refine ⟨i314, ?_⟩
                            intro S315 eS315
                            have hIn : IV S315 := by rw [eS315]; exact iv11_aD hI (de_free (qm185 r_x13 r_kv14 wh_x13 c15 c26 c35 c52 c193 dr_x205 c206 i1u211 c224 c234 dr_x242 lr_x242 r_x244 hh_x244 ex245 dv_x245 r_x248 c249 c259 r_x272 q_x272 wh_x272 c282 c310))
                            have sj := sj_2 eS315 sj
                            have hI := hIn
                            have f0 := fr_J eS315 f0
                            have fL214 := fr_J eS315 fL214
                            have d_kv2 := rd_J eS315 d_kv2
                            have d_x272 := rd_J eS315 d_x272
                            have d_kv14 := rd_J eS315 d_kv14
                            have d_x244 := rd_J eS315 d_x244
                            have d_x248 := rd_J eS315 d_x248
                            have d_x258 := rd_J eS315 d_x258
                            have ea3 := rf_J eS315 ea3
                            have ea46 := rf_J eS315 ea46
                            have ea50 := rf_J eS315 ea50
                            have ea191 := rf_J eS315 ea191
                            have ea277 := rf_J eS315 ea277
                            have ea280 := rf_J eS315 ea280
                            have ea307 := rf_J eS315 ea307
                            have l_a191 := ln_J eS315 l_a191
                            have l_a277 := ln_J eS315 l_a277
                            have l_a280 := ln_J eS315 l_a280
                            have l_a307 := ln_J eS315 l_a307
                            have l_a46 := ln_J eS315 l_a46
                            have l_a50 := ln_J eS315 l_a50
                            have g0 := gr_J eS315 g0
                            have gL213 := gr_J eS315 gL213
                            have o_a191 := ob_J eS315 o_a191
                            have o_a277 := ob_J eS315 o_a277
                            have o_a280 := ob_J eS315 o_a280
                            have o_a3 := ob_J eS315 o_a3
                            have o_a307 := ob_J eS315 o_a307
                            have o_a46 := ob_J eS315 o_a46
                            have o_a50 := ob_J eS315 o_a50
                            have o_v0 := ob_J eS315 o_v0
                            refine u_X11_stay_133 ?_
                            refine ⟨o_v0, ?_⟩
                            refine ⟨a46, ea46, ?_⟩
                            refine ⟨o_a46, ?_⟩
                            refine ⟨(vin l_a46 (m := 7) (by decide) (qm186 r_x13 r_kv14 wh_x13 c15 c26 c35 c52 c193 dr_x205 c206 i1u211 c224 c234 dr_x242 lr_x242 r_x244 hh_x244 ex245 dv_x245 r_x248 c249 c259 r_x272 q_x272 wh_x272 c282 c310)), ?_⟩
                            intro x317 ex317
                            have de_x317 := ml_de hI o_v0 (j := 21) (by decide) ea46 (1 : Int32).toNatClampNeg
                            rw [← ex317] at de_x317
                            have dr_x317 : (0 : Int64) ≤ x317 ∧ x317 ≤ (999 : Int64) := de_x317.2 (by decide)
                            intro x318 ex318
                            have i319 : vp_in (1 : Int32) (hN _ a46) := (vin l_a46 (m := 7) (by decide) (qm186 r_x13 r_kv14 wh_x13 c15 c26 c35 c52 c193 dr_x205 c206 i1u211 c224 c234 dr_x242 lr_x242 r_x244 hh_x244 ex245 dv_x245 r_x248 c249 c259 r_x272 q_x272 wh_x272 c282 c310))
                            refine ⟨i319, ?_⟩
                            intro S320 eS320
                            have hIn : IV S320 := by rw [eS320]; exact iv11_aD hI (sj_de sj ea46 ex317 ex318 dr_x317 (qm187 r_x13 r_kv14 wh_x13 c15 c26 c35 c52 c193 dr_x205 c206 i1u211 c224 c234 dr_x242 lr_x242 r_x244 hh_x244 ex245 dv_x245 r_x248 c249 c259 r_x272 q_x272 wh_x272 c282 c310))
                            have sj := sj_1 (k2 := w221 + 1) eS320 ea46 ex317 ex318 dr_x317 (qm188 r_x13 r_kv14 wh_x13 c15 c26 c35 c52 c193 dr_x205 c206 i1u211 c224 c234 dr_x242 lr_x242 r_x244 hh_x244 ex245 dv_x245 r_x248 c249 c259 r_x272 q_x272 wh_x272 c282 c310) rfl sj
                            have hI := hIn
                            have f0 := fr_J eS320 f0
                            have fL214 := fr_J eS320 fL214
                            have d_kv2 := rd_J eS320 d_kv2
                            have d_x272 := rd_J eS320 d_x272
                            have d_kv14 := rd_J eS320 d_kv14
                            have d_x244 := rd_J eS320 d_x244
                            have d_x248 := rd_J eS320 d_x248
                            have d_x258 := rd_J eS320 d_x258
                            have ea3 := rf_J eS320 ea3
                            have ea46 := rf_J eS320 ea46
                            have ea50 := rf_J eS320 ea50
                            have ea191 := rf_J eS320 ea191
                            have ea277 := rf_J eS320 ea277
                            have ea280 := rf_J eS320 ea280
                            have ea307 := rf_J eS320 ea307
                            have l_a191 := ln_J eS320 l_a191
                            have l_a277 := ln_J eS320 l_a277
                            have l_a280 := ln_J eS320 l_a280
                            have l_a307 := ln_J eS320 l_a307
                            have l_a46 := ln_J eS320 l_a46
                            have l_a50 := ln_J eS320 l_a50
                            have g0 := gr_J eS320 g0
                            have gL213 := gr_J eS320 gL213
                            have o_a191 := ob_J eS320 o_a191
                            have o_a277 := ob_J eS320 o_a277
                            have o_a280 := ob_J eS320 o_a280
                            have o_a3 := ob_J eS320 o_a3
                            have o_a307 := ob_J eS320 o_a307
                            have o_a46 := ob_J eS320 o_a46
                            have o_a50 := ob_J eS320 o_a50
                            have o_v0 := ob_J eS320 o_v0
                            intro x321 ex321
                            exact ih223 _ _ _ _ _ ⟨hI, gL213, fL214, rfl, rfl, rfl, (qm189 r_x13 r_kv14 wh_x13 c15 c26 c35 c52 c193 dr_x205 c206 i1u211 c224 c234 dr_x242 lr_x242 r_x244 hh_x244 ex245 dv_x245 r_x248 c249 c259 r_x272 q_x272 wh_x272 c282 c310 ex321), (by rw [ex321]; exact sj)⟩ (mu_up (qm190 r_x13 r_kv14 wh_x13 c15 c26 c35 c52 c193 dr_x205 c206 i1u211 c224 c234 dr_x242 lr_x242 r_x244 hh_x244 ex245 dv_x245 r_x248 c249 c259 r_x272 q_x272 wh_x272 c282 c310 ex321) (qm191 r_x13 r_kv14 wh_x13 c15 c26 c35 c52 c193 dr_x205 c206 i1u211 c224 c234 dr_x242 lr_x242 r_x244 hh_x244 ex245 dv_x245 r_x248 c249 c259 r_x272 q_x272 wh_x272 c282 c310 ex321))
                          · intro _
                            intro _
                            intro x324 ex324
                            have i325 : vp_in (2 : Int32) (hN _ a46) := (vin l_a46 (m := 7) (by decide) (qm192 r_x13 r_kv14 wh_x13 c15 c26 c35 c52 c193 dr_x205 c206 i1u211 c224 c234 dr_x242 lr_x242 r_x244 hh_x244 ex245 dv_x245 r_x248 c249 c259 r_x272 q_x272 wh_x272 c282 c310))
                            refine ⟨i325, ?_⟩
                            intro S326 eS326
                            have hIn : IV S326 := by rw [eS326]; exact iv11_aD hI (de_free (qm193 r_x13 r_kv14 wh_x13 c15 c26 c35 c52 c193 dr_x205 c206 i1u211 c224 c234 dr_x242 lr_x242 r_x244 hh_x244 ex245 dv_x245 r_x248 c249 c259 r_x272 q_x272 wh_x272 c282 c310))
                            have sj := sj_2 eS326 sj
                            have hI := hIn
                            have f0 := fr_J eS326 f0
                            have fL214 := fr_J eS326 fL214
                            have d_kv2 := rd_J eS326 d_kv2
                            have d_x272 := rd_J eS326 d_x272
                            have d_kv14 := rd_J eS326 d_kv14
                            have d_x244 := rd_J eS326 d_x244
                            have d_x248 := rd_J eS326 d_x248
                            have d_x258 := rd_J eS326 d_x258
                            have ea3 := rf_J eS326 ea3
                            have ea46 := rf_J eS326 ea46
                            have ea50 := rf_J eS326 ea50
                            have ea191 := rf_J eS326 ea191
                            have ea277 := rf_J eS326 ea277
                            have ea280 := rf_J eS326 ea280
                            have ea307 := rf_J eS326 ea307
                            have l_a191 := ln_J eS326 l_a191
                            have l_a277 := ln_J eS326 l_a277
                            have l_a280 := ln_J eS326 l_a280
                            have l_a307 := ln_J eS326 l_a307
                            have l_a46 := ln_J eS326 l_a46
                            have l_a50 := ln_J eS326 l_a50
                            have g0 := gr_J eS326 g0
                            have gL213 := gr_J eS326 gL213
                            have o_a191 := ob_J eS326 o_a191
                            have o_a277 := ob_J eS326 o_a277
                            have o_a280 := ob_J eS326 o_a280
                            have o_a3 := ob_J eS326 o_a3
                            have o_a307 := ob_J eS326 o_a307
                            have o_a46 := ob_J eS326 o_a46
                            have o_a50 := ob_J eS326 o_a50
                            have o_v0 := ob_J eS326 o_v0
                            refine u_X11_stay_133 ?_
                            refine ⟨o_v0, ?_⟩
                            refine ⟨a46, ea46, ?_⟩
                            refine ⟨o_a46, ?_⟩
                            refine ⟨(vin l_a46 (m := 7) (by decide) (qm194 r_x13 r_kv14 wh_x13 c15 c26 c35 c52 c193 dr_x205 c206 i1u211 c224 c234 dr_x242 lr_x242 r_x244 hh_x244 ex245 dv_x245 r_x248 c249 c259 r_x272 q_x272 wh_x272 c282 c310)), ?_⟩
                            intro x328 ex328
                            have de_x328 := ml_de hI o_v0 (j := 21) (by decide) ea46 (1 : Int32).toNatClampNeg
                            rw [← ex328] at de_x328
                            have dr_x328 : (0 : Int64) ≤ x328 ∧ x328 ≤ (999 : Int64) := de_x328.2 (by decide)
                            intro x329 ex329
                            have i330 : vp_in (1 : Int32) (hN _ a46) := (vin l_a46 (m := 7) (by decide) (qm194 r_x13 r_kv14 wh_x13 c15 c26 c35 c52 c193 dr_x205 c206 i1u211 c224 c234 dr_x242 lr_x242 r_x244 hh_x244 ex245 dv_x245 r_x248 c249 c259 r_x272 q_x272 wh_x272 c282 c310))
                            refine ⟨i330, ?_⟩
                            intro S331 eS331
                            have hIn : IV S331 := by rw [eS331]; exact iv11_aD hI (sj_de sj ea46 ex328 ex329 dr_x328 (qm195 r_x13 r_kv14 wh_x13 c15 c26 c35 c52 c193 dr_x205 c206 i1u211 c224 c234 dr_x242 lr_x242 r_x244 hh_x244 ex245 dv_x245 r_x248 c249 c259 r_x272 q_x272 wh_x272 c282 c310))
                            have sj := sj_1 (k2 := w221 + 1) eS331 ea46 ex328 ex329 dr_x328 (qm196 r_x13 r_kv14 wh_x13 c15 c26 c35 c52 c193 dr_x205 c206 i1u211 c224 c234 dr_x242 lr_x242 r_x244 hh_x244 ex245 dv_x245 r_x248 c249 c259 r_x272 q_x272 wh_x272 c282 c310) rfl sj
                            have hI := hIn
                            have f0 := fr_J eS331 f0
                            have fL214 := fr_J eS331 fL214
                            have d_kv2 := rd_J eS331 d_kv2
                            have d_x272 := rd_J eS331 d_x272
                            have d_kv14 := rd_J eS331 d_kv14
                            have d_x244 := rd_J eS331 d_x244
                            have d_x248 := rd_J eS331 d_x248
                            have d_x258 := rd_J eS331 d_x258
                            have ea3 := rf_J eS331 ea3
                            have ea46 := rf_J eS331 ea46
                            have ea50 := rf_J eS331 ea50
                            have ea191 := rf_J eS331 ea191
                            have ea277 := rf_J eS331 ea277
                            have ea280 := rf_J eS331 ea280
                            have ea307 := rf_J eS331 ea307
                            have l_a191 := ln_J eS331 l_a191
                            have l_a277 := ln_J eS331 l_a277
                            have l_a280 := ln_J eS331 l_a280
                            have l_a307 := ln_J eS331 l_a307
                            have l_a46 := ln_J eS331 l_a46
                            have l_a50 := ln_J eS331 l_a50
                            have g0 := gr_J eS331 g0
                            have gL213 := gr_J eS331 gL213
                            have o_a191 := ob_J eS331 o_a191
                            have o_a277 := ob_J eS331 o_a277
                            have o_a280 := ob_J eS331 o_a280
                            have o_a3 := ob_J eS331 o_a3
                            have o_a307 := ob_J eS331 o_a307
                            have o_a46 := ob_J eS331 o_a46
                            have o_a50 := ob_J eS331 o_a50
                            have o_v0 := ob_J eS331 o_v0
                            intro x332 ex332
                            exact ih223 _ _ _ _ _ ⟨hI, gL213, fL214, rfl, rfl, rfl, (qm197 r_x13 r_kv14 wh_x13 c15 c26 c35 c52 c193 dr_x205 c206 i1u211 c224 c234 dr_x242 lr_x242 r_x244 hh_x244 ex245 dv_x245 r_x248 c249 c259 r_x272 q_x272 wh_x272 c282 c310 ex332), (by rw [ex332]; exact sj)⟩ (mu_up (qm198 r_x13 r_kv14 wh_x13 c15 c26 c35 c52 c193 dr_x205 c206 i1u211 c224 c234 dr_x242 lr_x242 r_x244 hh_x244 ex245 dv_x245 r_x248 c249 c259 r_x272 q_x272 wh_x272 c282 c310 ex332) (qm199 r_x13 r_kv14 wh_x13 c15 c26 c35 c52 c193 dr_x205 c206 i1u211 c224 c234 dr_x242 lr_x242 r_x244 hh_x244 ex245 dv_x245 r_x248 c249 c259 r_x272 q_x272 wh_x272 c282 c310 ex332))
              · refine u_X11_denied ?_
                refine u_X11_denied_0 ?_
                refine ⟨o_v0, ?_⟩
                refine u_X11_refused ?_
                refine u_X11_refused_0 ?_
                refine ⟨o_v0, ?_⟩
                intro S333 eS333
                have hIn : IV S333 := by rw [eS333]; exact iv11_sI hI o_v0 (by decide) (nu_free (by decide))
                have hI := hIn
                have f0 := fr_I eS333 g0 f0 o_v0 (by decide)
                have d_kv2 := rd_Ij eS333 (by decide) d_kv2
                have d_x13 := rd_Ij eS333 (by decide) d_x13
                have d_kv14 := rd_Ik eS333 o_v0 o_a3 (by decide) d_kv14
                obtain ⟨kv334, hkv334⟩ : ∃ z : Int32, z = (3 : Int32) := ⟨_, rfl⟩
                have d_kv334 := rd_Is eS333 hkv334
                have ea3 := rf_I eS333 ea3
                have ea46 := rf_I eS333 ea46
                have ea50 := rf_I eS333 ea50
                have ea191 := rf_I eS333 ea191
                have l_a191 := ln_I eS333 l_a191
                have l_a46 := ln_I eS333 l_a46
                have l_a50 := ln_I eS333 l_a50
                have g0 := gr_I eS333 g0
                have o_a191 := ob_I eS333 o_a191
                have o_a3 := ob_I eS333 o_a3
                have o_a46 := ob_I eS333 o_a46
                have o_a50 := ob_I eS333 o_a50
                have o_v0 := ob_I eS333 o_v0
                intro S335 eS335
                have hIn : IV S335 := by rw [eS335]; exact iv11_sI hI o_v0 (by decide) (nu_free (by decide))
                have hI := hIn
                have f0 := fr_I eS335 g0 f0 o_v0 (by decide)
                have d_kv2 := rd_Ij eS335 (by decide) d_kv2
                have d_x13 := rd_Ij eS335 (by decide) d_x13
                have d_kv14 := rd_Ik eS335 o_v0 o_a3 (by decide) d_kv14
                have d_kv334 := rd_Ij eS335 (by decide) d_kv334
                obtain ⟨kv336, hkv336⟩ : ∃ z : Int32, z = (-1 : Int32) := ⟨_, rfl⟩
                have d_kv336 := rd_Is eS335 hkv336
                have ea3 := rf_I eS335 ea3
                have ea46 := rf_I eS335 ea46
                have ea50 := rf_I eS335 ea50
                have ea191 := rf_I eS335 ea191
                have l_a191 := ln_I eS335 l_a191
                have l_a46 := ln_I eS335 l_a46
                have l_a50 := ln_I eS335 l_a50
                have g0 := gr_I eS335 g0
                have o_a191 := ob_I eS335 o_a191
                have o_a3 := ob_I eS335 o_a3
                have o_a46 := ob_I eS335 o_a46
                have o_a50 := ob_I eS335 o_a50
                have o_v0 := ob_I eS335 o_v0
                intro _
                intro _ _
                refine ⟨(Or.inl rfl), ?_⟩
                exact hq _ _ hI g0 f0 (Or.inl rfl)
