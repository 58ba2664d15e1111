set_option maxHeartbeats 4000000 in
set_option maxRecDepth 20000 in
theorem m_X11_meanOf {v0 : Nat} {v1 : Int32} {v2 : Int32} {v3 : Int32} {v4 : Int32} {v5 : Int32} {Q : Int64 → HS → Prop} {S : HS} (hI : IV S) (o_v0 : ob S v0 11)   (h0 : 0 ≤ v1 ∧ v1 < 4) (h1 : 0 ≤ v2 ∧ v2 < 12) (h2 : 0 ≤ v4) (h3 : 1 ≤ v5)  (hw : WN S v0) (hq : ∀ (r : Int64) (T : HS), IV T → Gr S T → (S = T) → Q r T) : P_X11_meanOf v0 v1 v2 v3 v4 v5 Q S := by
  have g0 := gr_rf S
  obtain ⟨a1, ea1⟩ := hw
  have o_a1 := ml_ob hI o_v0 ea1
  refine u_X11_meanOf ?_
  refine u_X11_meanOf_0 ?_
  refine ⟨o_v0, ?_⟩
  refine u_X11_hourOf ?_
  refine u_X11_hourOf_0 ?_
  refine ⟨o_v0, ?_⟩
  refine ⟨a1, ea1, ?_⟩
  refine ⟨o_a1, ?_⟩
  intro x3 ex3
  have r_x3 : (0 : Int32) ≤ x3 ∧ x3 ≤ (60 : Int32) := by rw [ex3]; exact nu 16 rfl hI o_a1
  have d_x3 := ex3
  have hh_x3 : 1 ≤ x3 := by rw [ex3]; exact ml_hour hI o_v0 ea1
  refine ⟨(qm0 r_x3 hh_x3), ?_⟩
  intro x4 ex4
  have dv_x4 : 0 ≤ x4 ∧ x4 ≤ v4 := by rw [ex4]; exact dv0 (qm1 h2 r_x3 hh_x3 ex4) (i32pos (qm2 h2 r_x3 hh_x3 ex4))
  intro _
  refine ⟨a1, ea1, ?_⟩
  refine ⟨o_a1, ?_⟩
  intro x7 ex7
  have r_x7 : (0 : Int32) ≤ x7 ∧ x7 ≤ (6 : Int32) := by rw [ex7]; exact nu 17 rfl hI o_a1
  have d_x7 := ex7
  refine ⟨fun c8 => ?_, fun c8 => ?_⟩
  · exact hq _ _ hI g0 rfl
  · refine m_X11_wetOf hI o_v0 (qm3 h0 h2 r_x3 hh_x3 ex4 dv_x4 r_x7 c8) (qm4 h1 h2 r_x3 hh_x3 ex4 dv_x4 r_x7 c8) (qm5 h2 r_x3 hh_x3 ex4 dv_x4 r_x7 c8) (qm6 h2 h3 r_x3 hh_x3 ex4 dv_x4 r_x7 c8) ⟨_, ea1⟩ (fun x9 S10 hI2 g11 p_x9 => ?_)
    subst p_x9
    intro _
    refine ⟨a1, ea1, ?_⟩
    refine ⟨o_a1, ?_⟩
    obtain ⟨a14, ea14, o_a14, l_a14⟩ := shl 33 rfl hI o_a1
    refine ⟨a14, ea14, ?_⟩
    refine ⟨o_a14, ?_⟩
    refine ⟨(vin l_a14 (m := 6) (by decide) (qm7 h2 r_x3 hh_x3 ex4 dv_x4 r_x7 c8)), ?_⟩
    intro x15 ex15
    exact hq _ _ hI g0 rfl
set_option maxHeartbeats 4000000 in
set_option maxRecDepth 20000 in
theorem m_X11_led {v0 : Nat} {v1 : Int32} {Q : Int32 → HS → Prop} {S : HS} (hI : IV S) (o_v0 : ob S v0 11)     (hq : ∀ (r : Int32) (T : HS), IV T → Gr S T → FRI [(11, 0)] [] S T → Q r T) : P_X11_led v0 v1 Q S := by
  have g0 := gr_rf S
  have f0 := fri_rf [(11, 0)] [] S
  refine u_X11_led ?_
  refine u_X11_led_0 ?_
  refine ⟨o_v0, ?_⟩
  intro S1 eS1
  have hIn : IV S1 := by rw [eS1]; exact iv11_sI hI o_v0 (by decide) (nu_free (by decide))
  have hI := hIn
  have f0 := fr_I eS1 g0 f0 o_v0 (by decide)
  obtain ⟨kv2, hkv2⟩ : ∃ z : Int32, z = (0 : Int32) := ⟨_, rfl⟩
  have d_kv2 := rd_Is eS1 hkv2
  have g0 := gr_I eS1 g0
  have o_v0 := ob_I eS1 o_v0
  refine i_X11_led_9 (fun (y0 : Nat) (y1 : Int32) (y2 : Int32) (y3 : Int32) (Z : HS) => ((2147483647 : Int32).toInt - y3.toInt).toNat) (fun (y0 : Nat) (y1 : Int32) (y2 : Int32) (y3 : Int32) (Z : HS) => (S1 = Z) ∧ (v0 = y0) ∧ (v1 = y1) ∧ (0 ≤ y3)) ?_ _ _ _ _ _ ⟨rfl, rfl, rfl, (qm8)⟩
  intro w7 w9 w11 w12 S4 X13 ⟨eS4, q8, q10, i1u3⟩ ih14
  subst q8
  subst q10
  subst eS4
  refine u_X11_led_9 ?_
  refine ⟨o_v0, ?_⟩
  refine u_X11_isDay ?_
  refine u_X11_isDay_0 ?_
  refine ⟨o_v0, ?_⟩
  refine ⟨fun e16 => ?_, fun a15 ea15 => ?_⟩
  · intro _ _
    refine ⟨fun c18 => ?_, fun c18 => absurd (show ¬ (0 : Int32) = 0 from c18) (by decide)⟩
    intro S19 eS19
    have hIn : IV S19 := by rw [eS19]; exact iv11_sI hI o_v0 (by decide) (nu_free (by decide))
    have hI := hIn
    have f0 := fr_I eS19 g0 f0 o_v0 (by decide)
    obtain ⟨kv20, hkv20⟩ : ∃ z : Int32, z = (1 : Int32) := ⟨_, rfl⟩
    have d_kv20 := rd_Is eS19 hkv20
    have g0 := gr_I eS19 g0
    have o_v0 := ob_I eS19 o_v0
    exact hq _ _ hI g0 f0
  · have o_a15 := ml_ob hI o_v0 ea15
    intro x21 ex21
    have r_x21 : (-2 : Int32) ≤ x21 ∧ x21 ≤ (3 : Int32) := by rw [ex21]; exact nu 26 rfl hI o_v0
    have d_x21 := ex21
    obtain ⟨kv22, d_kv22⟩ : ∃ z : Int32, z = fI S1 a15 4 := ⟨_, rfl⟩
    have r_kv22 : (0 : Int32) ≤ kv22 ∧ kv22 ≤ (4 : Int32) := by rw [d_kv22]; exact nu 20 rfl hI o_a15
    have wh_x21 : x21 = -2 ∨ (0 ≤ x21 ∧ x21 < kv22) := by rw [ex21, d_kv22]; exact ml_who hI o_v0 ea15
    refine ⟨fun c23 => ?_, fun c23 => ?_⟩
    · intro _ _
      refine ⟨fun c25 => ?_, fun c25 => absurd (show ¬ (0 : Int32) = 0 from c25) (by decide)⟩
      intro S26 eS26
      have hIn : IV S26 := by rw [eS26]; exact iv11_sI hI o_v0 (by decide) (nu_free (by decide))
      have hI := hIn
      have f0 := fr_I eS26 g0 f0 o_v0 (by decide)
      have d_x21 := rd_Ij eS26 (by decide) d_x21
      have d_kv22 := rd_Ik eS26 o_v0 o_a15 (by decide) d_kv22
      obtain ⟨kv27, hkv27⟩ : ∃ z : Int32, z = (1 : Int32) := ⟨_, rfl⟩
      have d_kv27 := rd_Is eS26 hkv27
      have ea15 := rf_I eS26 ea15
      have g0 := gr_I eS26 g0
      have o_a15 := ob_I eS26 o_a15
      have o_v0 := ob_I eS26 o_v0
      exact hq _ _ hI g0 f0
    · intro _ _
      refine ⟨fun c29 => absurd (show (1 : Int32) = 0 from c29) (by decide), fun c29 => ?_⟩
      refine ⟨a15, ea15, ?_⟩
      refine ⟨o_a15, ?_⟩
      intro x31 ex31
      have r_x31 : (0 : Int32) ≤ x31 ∧ x31 ≤ (12 : Int32) := by rw [ex31]; exact nu 19 rfl hI o_a15
      have d_x31 := ex31
      refine ⟨fun c32 => ?_, fun c32 => ?_⟩
      · intro S33 eS33
        have hIn : IV S33 := by rw [eS33]; exact iv11_sI hI o_v0 (by decide) (nu_free (by decide))
        have hI := hIn
        have f0 := fr_I eS33 g0 f0 o_v0 (by decide)
        have d_x21 := rd_Ij eS33 (by decide) d_x21
        have d_kv22 := rd_Ik eS33 o_v0 o_a15 (by decide) d_kv22
        have d_x31 := rd_Ik eS33 o_v0 o_a15 (by decide) d_x31
        obtain ⟨kv34, hkv34⟩ : ∃ z : Int32, z = (1 : Int32) := ⟨_, rfl⟩
        have d_kv34 := rd_Is eS33 hkv34
        have ea15 := rf_I eS33 ea15
        have g0 := gr_I eS33 g0
        have o_a15 := ob_I eS33 o_a15
        have o_v0 := ob_I eS33 o_v0
        exact hq _ _ hI g0 f0
      · refine ⟨a15, ea15, ?_⟩
        refine ⟨o_a15, ?_⟩
        obtain ⟨a36, ea36, o_a36, l_a36⟩ := shl 35 rfl hI o_a15
        refine ⟨a36, ea36, ?_⟩
        refine ⟨o_a36, ?_⟩
        refine ⟨(vin l_a36 (m := 12) (by decide) (qm474 i1u3 r_x21 r_kv22 wh_x21 c23 r_x31 c32)), ?_⟩
        intro x37 ex37
        obtain ⟨a38, ea38, o_a38, l_a38⟩ := shl 57 rfl hI o_v0
        refine ⟨a38, ea38, ?_⟩
        refine ⟨o_a38, ?_⟩
        refine ⟨(vin l_a38 (m := 7) (by decide) (qm475 i1u3 r_x21 r_kv22 wh_x21 c23 r_x31 c32)), ?_⟩
        intro x39 ex39
        have de_x39 := ml_de hI o_v0 (j := 21) (by decide) ea38 (0 : Int32).toNatClampNeg
        rw [← ex39] at de_x39
        have dr_x39 : (0 : Int64) ≤ x39 ∧ x39 ≤ (7 : Int64) := de_x39.1 (by decide)
        refine ⟨fun c40 => ?_, fun c40 => ?_⟩
        · refine u_X11_led_70 ?_
          refine ⟨fun c41 => ?_, fun c41 => ?_⟩
          · intro x42 ex42
            refine u_X11_led_80 ?_
            intro x43 ex43
            exact ih14 _ _ _ _ _ ⟨rfl, rfl, rfl, (qm476 i1u3 r_x21 r_kv22 wh_x21 c23 r_x31 c32 dr_x39 c40 c41 ex42 ex43)⟩ (mu_up (qm477 i1u3 r_x21 r_kv22 wh_x21 c23 r_x31 c32 dr_x39 c40 c41 ex42 ex43) (qm478 i1u3 r_x21 r_kv22 wh_x21 c23 r_x31 c32 dr_x39 c40 c41 ex42 ex43))
          · exact hq _ _ hI g0 f0
        · refine ⟨a15, ea15, ?_⟩
          refine ⟨o_a15, ?_⟩
          obtain ⟨a45, ea45, o_a45, l_a45⟩ := shl 36 rfl hI o_a15
          refine ⟨a45, ea45, ?_⟩
          refine ⟨o_a45, ?_⟩
          refine ⟨(vin l_a45 (m := 12) (by decide) (qm479 i1u3 r_x21 r_kv22 wh_x21 c23 r_x31 c32 dr_x39 c40)), ?_⟩
          intro x46 ex46
          refine ⟨a38, ea38, ?_⟩
          refine ⟨o_a38, ?_⟩
          refine ⟨(vin l_a38 (m := 7) (by decide) (qm480 i1u3 r_x21 r_kv22 wh_x21 c23 r_x31 c32 dr_x39 c40)), ?_⟩
          intro x48 ex48
          have de_x48 := ml_de hI o_v0 (j := 21) (by decide) ea38 (0 : Int32).toNatClampNeg
          rw [← ex48] at de_x48
          have dr_x48 : (0 : Int64) ≤ x48 ∧ x48 ≤ (7 : Int64) := de_x48.1 (by decide)
          refine ⟨fun c49 => ?_, fun c49 => ?_⟩
          · refine u_X11_led_70 ?_
            refine ⟨fun c50 => ?_, fun c50 => ?_⟩
            · intro x51 ex51
              refine u_X11_led_80 ?_
              intro x52 ex52
              exact ih14 _ _ _ _ _ ⟨rfl, rfl, rfl, (qm481 i1u3 r_x21 r_kv22 wh_x21 c23 r_x31 c32 dr_x39 c40 dr_x48 c49 c50 ex51 ex52)⟩ (mu_up (qm482 i1u3 r_x21 r_kv22 wh_x21 c23 r_x31 c32 dr_x39 c40 dr_x48 c49 c50 ex51 ex52) (qm483 i1u3 r_x21 r_kv22 wh_x21 c23 r_x31 c32 dr_x39 c40 dr_x48 c49 c50 ex51 ex52))
            · exact hq _ _ hI g0 f0
          · refine u_X11_led_80 ?_
            intro x53 ex53
            exact ih14 _ _ _ _ _ ⟨rfl, rfl, rfl, (qm484 i1u3 r_x21 r_kv22 wh_x21 c23 r_x31 c32 dr_x39 c40 dr_x48 c49 ex53)⟩ (mu_up (qm485 i1u3 r_x21 r_kv22 wh_x21 c23 r_x31 c32 dr_x39 c40 dr_x48 c49 ex53) (qm486 i1u3 r_x21 r_kv22 wh_x21 c23 r_x31 c32 dr_x39 c40 dr_x48 c49 ex53))
set_option maxHeartbeats 4000000 in
set_option maxRecDepth 20000 in
theorem m_X11_lee {v0 : Nat} {v1 : Int32} {v2 : Int32} {v3 : Int32} {v4 : Int32} {v5 : Int32} {v6 : Int32} {v7 : Int32} {Q : Int64 → HS → Prop} {S : HS} (hI : IV S) (o_v0 : ob S v0 11)     (hq : ∀ (r : Int64) (T : HS), IV T → Gr S T → FRI [(11, 0), (11, 1), (11, 2)] [] S T → Q r T) : P_X11_lee v0 v1 v2 v3 v4 v5 v6 v7 Q S := by
  have g0 := gr_rf S
  have f0 := fri_rf [(11, 0), (11, 1), (11, 2)] [] S
  refine u_X11_lee ?_
  refine u_X11_lee_0 ?_
  refine ⟨o_v0, ?_⟩
  intro S1 eS1
  have hIn : IV S1 := by rw [eS1]; exact iv11_sI hI o_v0 (by decide) (nu_free (by decide))
  have hI := hIn
  have f0 := fr_I eS1 g0 f0 o_v0 (by decide)
  obtain ⟨kv2, hkv2⟩ : ∃ z : Int32, z = (0 : Int32) := ⟨_, rfl⟩
  have d_kv2 := rd_Is eS1 hkv2
  have g0 := gr_I eS1 g0
  have o_v0 := ob_I eS1 o_v0
  refine u_X11_refusesTwo ?_
  refine u_X11_refusesTwo_0 ?_
  refine ⟨fun c3 => ?_, fun c3 => ?_⟩
  · intro _
    refine ⟨fun c5 => absurd (show (1 : Int32) ≤ 0 from c5) (by decide), fun c5 => ?_⟩
    refine u_X11_refused ?_
    refine u_X11_refused_0 ?_
    refine ⟨o_v0, ?_⟩
    intro S6 eS6
    have hIn : IV S6 := by rw [eS6]; exact iv11_sI hI o_v0 (by decide) (nu_free (by decide))
    have hI := hIn
    have f0 := fr_I eS6 g0 f0 o_v0 (by decide)
    have d_kv2 := rd_Ij eS6 (by decide) d_kv2
    obtain ⟨kv7, hkv7⟩ : ∃ z : Int32, z = (1 : Int32) := ⟨_, rfl⟩
    have d_kv7 := rd_Is eS6 hkv7
    have g0 := gr_I eS6 g0
    have o_v0 := ob_I eS6 o_v0
    intro S8 eS8
    have hIn : IV S8 := by rw [eS8]; exact iv11_sI hI o_v0 (by decide) (nu_free (by decide))
    have hI := hIn
    have f0 := fr_I eS8 g0 f0 o_v0 (by decide)
    have d_kv2 := rd_Ij eS8 (by decide) d_kv2
    have d_kv7 := rd_Ij eS8 (by decide) d_kv7
    obtain ⟨kv9, hkv9⟩ : ∃ z : Int32, z = (-1 : Int32) := ⟨_, rfl⟩
    have d_kv9 := rd_Is eS8 hkv9
    have g0 := gr_I eS8 g0
    have o_v0 := ob_I eS8 o_v0
    intro _
    exact hq _ _ hI g0 f0
  · refine ⟨o_v0, ?_⟩
    refine u_X11_isWalker ?_
    refine u_X11_isWalker_0 ?_
    refine ⟨o_v0, ?_⟩
    refine ⟨fun e12 => ?_, fun a11 ea11 => ?_⟩
    · intro _ _
      refine ⟨fun c14 => absurd (show ¬ (0 : Int32) = 0 from c14) (by decide), fun c14 => ?_⟩
      intro _
      refine ⟨fun c16 => absurd (show (1 : Int32) ≤ 0 from c16) (by decide), fun c16 => ?_⟩
      refine u_X11_refused ?_
      refine u_X11_refused_0 ?_
      refine ⟨o_v0, ?_⟩
      intro S17 eS17
      have hIn : IV S17 := by rw [eS17]; exact iv11_sI hI o_v0 (by decide) (nu_free (by decide))
      have hI := hIn
      have f0 := fr_I eS17 g0 f0 o_v0 (by decide)
      have d_kv2 := rd_Ij eS17 (by decide) d_kv2
      obtain ⟨kv18, hkv18⟩ : ∃ z : Int32, z = (1 : Int32) := ⟨_, rfl⟩
      have d_kv18 := rd_Is eS17 hkv18
      have g0 := gr_I eS17 g0
      have o_v0 := ob_I eS17 o_v0
      intro S19 eS19
      have hIn : IV S19 := by rw [eS19]; exact iv11_sI hI o_v0 (by decide) (nu_free (by decide))
      have hI := hIn
      have f0 := fr_I eS19 g0 f0 o_v0 (by decide)
      have d_kv2 := rd_Ij eS19 (by decide) d_kv2
      have d_kv18 := rd_Ij eS19 (by decide) d_kv18
      obtain ⟨kv20, hkv20⟩ : ∃ z : Int32, z = (-1 : Int32) := ⟨_, rfl⟩
      have d_kv20 := rd_Is eS19 hkv20
      have g0 := gr_I eS19 g0
      have o_v0 := ob_I eS19 o_v0
      intro _
      exact hq _ _ hI g0 f0
    · have o_a11 := ml_ob hI o_v0 ea11
      refine ⟨fun c22 => ?_, fun c22 => ?_⟩
      · intro _ _
        refine ⟨fun c24 => absurd (show ¬ (0 : Int32) = 0 from c24) (by decide), fun c24 => ?_⟩
        intro _
        refine ⟨fun c26 => absurd (show (1 : Int32) ≤ 0 from c26) (by decide), fun c26 => ?_⟩
        refine u_X11_refused ?_
        refine u_X11_refused_0 ?_
        refine ⟨o_v0, ?_⟩
        intro S27 eS27
        have hIn : IV S27 := by rw [eS27]; exact iv11_sI hI o_v0 (by decide) (nu_free (by decide))
        have hI := hIn
        have f0 := fr_I eS27 g0 f0 o_v0 (by decide)
        have d_kv2 := rd_Ij eS27 (by decide) d_kv2
        obtain ⟨kv28, hkv28⟩ : ∃ z : Int32, z = (1 : Int32) := ⟨_, rfl⟩
        have d_kv28 := rd_Is eS27 hkv28
        have ea11 := rf_I eS27 ea11
        have g0 := gr_I eS27 g0
        have o_a11 := ob_I eS27 o_a11
        have o_v0 := ob_I eS27 o_v0
        intro S29 eS29
        have hIn : IV S29 := by rw [eS29]; exact iv11_sI hI o_v0 (by decide) (nu_free (by decide))
        have hI := hIn
        have f0 := fr_I eS29 g0 f0 o_v0 (by decide)
        have d_kv2 := rd_Ij eS29 (by decide) d_kv2
        have d_kv28 := rd_Ij eS29 (by decide) d_kv28
        obtain ⟨kv30, hkv30⟩ : ∃ z : Int32, z = (-1 : Int32) := ⟨_, rfl⟩
        have d_kv30 := rd_Is eS29 hkv30
        have ea11 := rf_I eS29 ea11
        have g0 := gr_I eS29 g0
        have o_a11 := ob_I eS29 o_a11
        have o_v0 := ob_I eS29 o_v0
        intro _
        exact hq _ _ hI g0 f0
      · refine ⟨a11, ea11, ?_⟩
        refine ⟨o_a11, ?_⟩
        intro x33 ex33
        have r_x33 : (0 : Int32) ≤ x33 ∧ x33 ≤ (4 : Int32) := by rw [ex33]; exact nu 20 rfl hI o_a11
        have d_x33 := ex33
        refine ⟨fun c34 => ?_, fun c34 => ?_⟩
        · intro _ _
          refine ⟨fun c36 => absurd (show ¬ (0 : Int32) = 0 from c36) (by decide), fun c36 => ?_⟩
          intro _
          refine ⟨fun c38 => absurd (show (1 : Int32) ≤ 0 from c38) (by decide), fun c38 => ?_⟩
          refine u_X11_refused ?_
          refine u_X11_refused_0 ?_
          refine ⟨o_v0, ?_⟩
          intro S39 eS39
          have hIn : IV S39 := by rw [eS39]; exact iv11_sI hI o_v0 (by decide) (nu_free (by decide))
          have hI := hIn
          have f0 := fr_I eS39 g0 f0 o_v0 (by decide)
          have d_kv2 := rd_Ij eS39 (by decide) d_kv2
          have d_x33 := rd_Ik eS39 o_v0 o_a11 (by decide) d_x33
          obtain ⟨kv40, hkv40⟩ : ∃ z : Int32, z = (1 : Int32) := ⟨_, rfl⟩
          have d_kv40 := rd_Is eS39 hkv40
          have ea11 := rf_I eS39 ea11
          have g0 := gr_I eS39 g0
          have o_a11 := ob_I eS39 o_a11
          have o_v0 := ob_I eS39 o_v0
          intro S41 eS41
          have hIn : IV S41 := by rw [eS41]; exact iv11_sI hI o_v0 (by decide) (nu_free (by decide))
          have hI := hIn
          have f0 := fr_I eS41 g0 f0 o_v0 (by decide)
          have d_kv2 := rd_Ij eS41 (by decide) d_kv2
          have d_x33 := rd_Ik eS41 o_v0 o_a11 (by decide) d_x33
          have d_kv40 := rd_Ij eS41 (by decide) d_kv40
          obtain ⟨kv42, hkv42⟩ : ∃ z : Int32, z = (-1 : Int32) := ⟨_, rfl⟩
          have d_kv42 := rd_Is eS41 hkv42
          have ea11 := rf_I eS41 ea11
          have g0 := gr_I eS41 g0
          have o_a11 := ob_I eS41 o_a11
          have o_v0 := ob_I eS41 o_v0
          intro _
          exact hq _ _ hI g0 f0
        · intro _ _
          refine ⟨fun c45 => ?_, fun c45 => absurd (show (1 : Int32) = 0 from c45) (by decide)⟩
          refine u_X11_refuses ?_
          refine u_X11_refuses_0 ?_
          refine ⟨o_v0, ?_⟩
          refine u_X11_isWalker ?_
          refine u_X11_isWalker_0 ?_
          refine ⟨o_v0, ?_⟩
          refine ⟨fun e47 => (nomatch (e47.symm.trans ea11)), fun a46 ea46 => ?_⟩
          obtain rfl : a11 = a46 := Option.some.inj (ea11.symm.trans ea46)
          refine ⟨fun c48 => ?_, fun c48 => ?_⟩
          · intro _ _
            refine ⟨fun c50 => ?_, fun c50 => absurd (show ¬ (0 : Int32) = 0 from c50) (by decide)⟩
            intro _
            refine ⟨fun c52 => absurd (show (1 : Int32) ≤ 0 from c52) (by decide), fun c52 => ?_⟩
            intro _
            refine ⟨fun c54 => absurd (show (1 : Int32) ≤ 0 from c54) (by decide), fun c54 => ?_⟩
            refine u_X11_refused ?_
            refine u_X11_refused_0 ?_
            refine ⟨o_v0, ?_⟩
            intro S55 eS55
            have hIn : IV S55 := by rw [eS55]; exact iv11_sI hI o_v0 (by decide) (nu_free (by decide))
            have hI := hIn
            have f0 := fr_I eS55 g0 f0 o_v0 (by decide)
            have d_kv2 := rd_Ij eS55 (by decide) d_kv2
            have d_x33 := rd_Ik eS55 o_v0 o_a11 (by decide) d_x33
            obtain ⟨kv56, hkv56⟩ : ∃ z : Int32, z = (1 : Int32) := ⟨_, rfl⟩
            have d_kv56 := rd_Is eS55 hkv56
            have ea11 := rf_I eS55 ea11
            have g0 := gr_I eS55 g0
            have o_a11 := ob_I eS55 o_a11
            have o_v0 := ob_I eS55 o_v0
            intro S57 eS57
            have hIn : IV S57 := by rw [eS57]; exact iv11_sI hI o_v0 (by decide) (nu_free (by decide))
            have hI := hIn
            have f0 := fr_I eS57 g0 f0 o_v0 (by decide)
            have d_kv2 := rd_Ij eS57 (by decide) d_kv2
            have d_x33 := rd_Ik eS57 o_v0 o_a11 (by decide) d_x33
            have d_kv56 := rd_Ij eS57 (by decide) d_kv56
            obtain ⟨kv58, hkv58⟩ : ∃ z : Int32, z = (-1 : Int32) := ⟨_, rfl⟩
            have d_kv58 := rd_Is eS57 hkv58
            have ea11 := rf_I eS57 ea11
            have g0 := gr_I eS57 g0
            have o_a11 := ob_I eS57 o_a11
            have o_v0 := ob_I eS57 o_v0
            intro _
            exact hq _ _ hI g0 f0
          · refine ⟨a11, ea11, ?_⟩
            refine ⟨o_a11, ?_⟩
            intro x61 ex61
            have r_x61 : (0 : Int32) ≤ x61 ∧ x61 ≤ (4 : Int32) := by rw [ex61]; exact nu 20 rfl hI o_a11
            have q_x61 : x61 = x33 := ex61.trans d_x33.symm
            have d_x61 := ex61
            refine ⟨fun c62 => ?_, fun c62 => ?_⟩
            · intro _ _
              refine ⟨fun c64 => ?_, fun c64 => absurd (show ¬ (0 : Int32) = 0 from c64) (by decide)⟩
              intro _
              refine ⟨fun c66 => absurd (show (1 : Int32) ≤ 0 from c66) (by decide), fun c66 => ?_⟩
              intro _
              refine ⟨fun c68 => absurd (show (1 : Int32) ≤ 0 from c68) (by decide), fun c68 => ?_⟩
              refine u_X11_refused ?_
              refine u_X11_refused_0 ?_
              refine ⟨o_v0, ?_⟩
              intro S69 eS69
              have hIn : IV S69 := by rw [eS69]; exact iv11_sI hI o_v0 (by decide) (nu_free (by decide))
              have hI := hIn
              have f0 := fr_I eS69 g0 f0 o_v0 (by decide)
              have d_kv2 := rd_Ij eS69 (by decide) d_kv2
              have d_x61 := rd_Ik eS69 o_v0 o_a11 (by decide) d_x61
              obtain ⟨kv70, hkv70⟩ : ∃ z : Int32, z = (1 : Int32) := ⟨_, rfl⟩
              have d_kv70 := rd_Is eS69 hkv70
              have ea11 := rf_I eS69 ea11
              have g0 := gr_I eS69 g0
              have o_a11 := ob_I eS69 o_a11
              have o_v0 := ob_I eS69 o_v0
              intro S71 eS71
              have hIn : IV S71 := by rw [eS71]; exact iv11_sI hI o_v0 (by decide) (nu_free (by decide))
              have hI := hIn
              have f0 := fr_I eS71 g0 f0 o_v0 (by decide)
              have d_kv2 := rd_Ij eS71 (by decide) d_kv2
              have d_x61 := rd_Ik eS71 o_v0 o_a11 (by decide) d_x61
              have d_kv70 := rd_Ij eS71 (by decide) d_kv70
              obtain ⟨kv72, hkv72⟩ : ∃ z : Int32, z = (-1 : Int32) := ⟨_, rfl⟩
              have d_kv72 := rd_Is eS71 hkv72
              have ea11 := rf_I eS71 ea11
              have g0 := gr_I eS71 g0
              have o_a11 := ob_I eS71 o_a11
              have o_v0 := ob_I eS71 o_v0
              intro _
              exact hq _ _ hI g0 f0
            · intro _ _
              refine ⟨fun c75 => absurd (show (1 : Int32) = 0 from c75) (by decide), fun c75 => ?_⟩
              refine u_X11_isRoad ?_
              refine u_X11_isRoad_0 ?_
              refine ⟨o_v0, ?_⟩
              refine ⟨fun e77 => (nomatch (e77.symm.trans ea11)), fun a76 ea76 => ?_⟩
              obtain rfl : a11 = a76 := Option.some.inj (ea11.symm.trans ea76)
              refine ⟨fun c78 => ?_, fun c78 => ?_⟩
              · intro _ _
                refine ⟨fun c80 => ?_, fun c80 => absurd (show ¬ (0 : Int32) = 0 from c80) (by decide)⟩
                intro _
                refine ⟨fun c82 => absurd (show (1 : Int32) ≤ 0 from c82) (by decide), fun c82 => ?_⟩
                intro _
                refine ⟨fun c84 => absurd (show (1 : Int32) ≤ 0 from c84) (by decide), fun c84 => ?_⟩
                refine u_X11_refused ?_
                refine u_X11_refused_0 ?_
                refine ⟨o_v0, ?_⟩
                intro S85 eS85
                have hIn : IV S85 := by rw [eS85]; exact iv11_sI hI o_v0 (by decide) (nu_free (by decide))
                have hI := hIn
                have f0 := fr_I eS85 g0 f0 o_v0 (by decide)
                have d_kv2 := rd_Ij eS85 (by decide) d_kv2
                have d_x61 := rd_Ik eS85 o_v0 o_a11 (by decide) d_x61
                obtain ⟨kv86, hkv86⟩ : ∃ z : Int32, z = (1 : Int32) := ⟨_, rfl⟩
                have d_kv86 := rd_Is eS85 hkv86
                have ea11 := rf_I eS85 ea11
                have g0 := gr_I eS85 g0
                have o_a11 := ob_I eS85 o_a11
                have o_v0 := ob_I eS85 o_v0
                intro S87 eS87
                have hIn : IV S87 := by rw [eS87]; exact iv11_sI hI o_v0 (by decide) (nu_free (by decide))
                have hI := hIn
                have f0 := fr_I eS87 g0 f0 o_v0 (by decide)
                have d_kv2 := rd_Ij eS87 (by decide) d_kv2
                have d_x61 := rd_Ik eS87 o_v0 o_a11 (by decide) d_x61
                have d_kv86 := rd_Ij eS87 (by decide) d_kv86
                obtain ⟨kv88, hkv88⟩ : ∃ z : Int32, z = (-1 : Int32) := ⟨_, rfl⟩
                have d_kv88 := rd_Is eS87 hkv88
                have ea11 := rf_I eS87 ea11
                have g0 := gr_I eS87 g0
                have o_a11 := ob_I eS87 o_a11
                have o_v0 := ob_I eS87 o_v0
                intro _
                exact hq _ _ hI g0 f0
              · refine ⟨a11, ea11, ?_⟩
                refine ⟨o_a11, ?_⟩
                intro x91 ex91
                have r_x91 : (0 : Int32) ≤ x91 ∧ x91 ≤ (12 : Int32) := by rw [ex91]; exact nu 19 rfl hI o_a11
                have d_x91 := ex91
                refine ⟨fun c92 => ?_, fun c92 => ?_⟩
                · intro _ _
                  refine ⟨fun c94 => ?_, fun c94 => absurd (show ¬ (0 : Int32) = 0 from c94) (by decide)⟩
                  intro _
                  refine ⟨fun c96 => absurd (show (1 : Int32) ≤ 0 from c96) (by decide), fun c96 => ?_⟩
                  intro _
                  refine ⟨fun c98 => absurd (show (1 : Int32) ≤ 0 from c98) (by decide), fun c98 => ?_⟩
                  refine u_X11_refused ?_
                  refine u_X11_refused_0 ?_
                  refine ⟨o_v0, ?_⟩
                  intro S99 eS99
                  have hIn : IV S99 := by rw [eS99]; exact iv11_sI hI o_v0 (by decide) (nu_free (by decide))
                  have hI := hIn
                  have f0 := fr_I eS99 g0 f0 o_v0 (by decide)
                  have d_kv2 := rd_Ij eS99 (by decide) d_kv2
                  have d_x61 := rd_Ik eS99 o_v0 o_a11 (by decide) d_x61
                  have d_x91 := rd_Ik eS99 o_v0 o_a11 (by decide) d_x91
                  obtain ⟨kv100, hkv100⟩ : ∃ z : Int32, z = (1 : Int32) := ⟨_, rfl⟩
                  have d_kv100 := rd_Is eS99 hkv100
                  have ea11 := rf_I eS99 ea11
                  have g0 := gr_I eS99 g0
                  have o_a11 := ob_I eS99 o_a11
                  have o_v0 := ob_I eS99 o_v0
                  intro S101 eS101
                  have hIn : IV S101 := by rw [eS101]; exact iv11_sI hI o_v0 (by decide) (nu_free (by decide))
                  have hI := hIn
                  have f0 := fr_I eS101 g0 f0 o_v0 (by decide)
                  have d_kv2 := rd_Ij eS101 (by decide) d_kv2
                  have d_x61 := rd_Ik eS101 o_v0 o_a11 (by decide) d_x61
                  have d_x91 := rd_Ik eS101 o_v0 o_a11 (by decide) d_x91
                  have d_kv100 := rd_Ij eS101 (by decide) d_kv100
                  obtain ⟨kv102, hkv102⟩ : ∃ z : Int32, z = (-1 : Int32) := ⟨_, rfl⟩
                  have d_kv102 := rd_Is eS101 hkv102
                  have ea11 := rf_I eS101 ea11
                  have g0 := gr_I eS101 g0
                  have o_a11 := ob_I eS101 o_a11
                  have o_v0 := ob_I eS101 o_v0
                  intro _
                  exact hq _ _ hI g0 f0
                · intro _ _
                  refine ⟨fun c105 => absurd (show (1 : Int32) = 0 from c105) (by decide), fun c105 => ?_⟩
                  refine u_X11_in ?_
                  refine u_X11_in_0 ?_
                  refine ⟨fun c106 => ?_, fun c106 => ?_⟩
                  · intro _ _
                    refine ⟨fun c108 => ?_, fun c108 => absurd (show ¬ (0 : Int32) = 0 from c108) (by decide)⟩
                    intro _
                    refine ⟨fun c110 => absurd (show (1 : Int32) ≤ 0 from c110) (by decide), fun c110 => ?_⟩
                    intro _
                    refine ⟨fun c112 => absurd (show (1 : Int32) ≤ 0 from c112) (by decide), fun c112 => ?_⟩
                    refine u_X11_refused ?_
                    refine u_X11_refused_0 ?_
                    refine ⟨o_v0, ?_⟩
                    intro S113 eS113
                    have hIn : IV S113 := by rw [eS113]; exact iv11_sI hI o_v0 (by decide) (nu_free (by decide))
                    have hI := hIn
                    have f0 := fr_I eS113 g0 f0 o_v0 (by decide)
                    have d_kv2 := rd_Ij eS113 (by decide) d_kv2
                    have d_x61 := rd_Ik eS113 o_v0 o_a11 (by decide) d_x61
                    have d_x91 := rd_Ik eS113 o_v0 o_a11 (by decide) d_x91
                    obtain ⟨kv114, hkv114⟩ : ∃ z : Int32, z = (1 : Int32) := ⟨_, rfl⟩
                    have d_kv114 := rd_Is eS113 hkv114
                    have ea11 := rf_I eS113 ea11
                    have g0 := gr_I eS113 g0
                    have o_a11 := ob_I eS113 o_a11
                    have o_v0 := ob_I eS113 o_v0
                    intro S115 eS115
                    have hIn : IV S115 := by rw [eS115]; exact iv11_sI hI o_v0 (by decide) (nu_free (by decide))
                    have hI := hIn
                    have f0 := fr_I eS115 g0 f0 o_v0 (by decide)
                    have d_kv2 := rd_Ij eS115 (by decide) d_kv2
                    have d_x61 := rd_Ik eS115 o_v0 o_a11 (by decide) d_x61
                    have d_x91 := rd_Ik eS115 o_v0 o_a11 (by decide) d_x91
                    have d_kv114 := rd_Ij eS115 (by decide) d_kv114
                    obtain ⟨kv116, hkv116⟩ : ∃ z : Int32, z = (-1 : Int32) := ⟨_, rfl⟩
                    have d_kv116 := rd_Is eS115 hkv116
                    have ea11 := rf_I eS115 ea11
                    have g0 := gr_I eS115 g0
                    have o_a11 := ob_I eS115 o_a11
                    have o_v0 := ob_I eS115 o_v0
                    intro _
                    exact hq _ _ hI g0 f0
                  · refine ⟨fun c118 => ?_, fun c118 => ?_⟩
                    · intro _ _
                      refine ⟨fun c120 => ?_, fun c120 => absurd (show ¬ (0 : Int32) = 0 from c120) (by decide)⟩
                      intro _
                      refine ⟨fun c122 => absurd (show (1 : Int32) ≤ 0 from c122) (by decide), fun c122 => ?_⟩
                      intro _
                      refine ⟨fun c124 => absurd (show (1 : Int32) ≤ 0 from c124) (by decide), fun c124 => ?_⟩
                      refine u_X11_refused ?_
                      refine u_X11_refused_0 ?_
                      refine ⟨o_v0, ?_⟩
                      intro S125 eS125
                      have hIn : IV S125 := by rw [eS125]; exact iv11_sI hI o_v0 (by decide) (nu_free (by decide))
                      have hI := hIn
                      have f0 := fr_I eS125 g0 f0 o_v0 (by decide)
                      have d_kv2 := rd_Ij eS125 (by decide) d_kv2
                      have d_x61 := rd_Ik eS125 o_v0 o_a11 (by decide) d_x61
                      have d_x91 := rd_Ik eS125 o_v0 o_a11 (by decide) d_x91
                      obtain ⟨kv126, hkv126⟩ : ∃ z : Int32, z = (1 : Int32) := ⟨_, rfl⟩
                      have d_kv126 := rd_Is eS125 hkv126
                      have ea11 := rf_I eS125 ea11
                      have g0 := gr_I eS125 g0
                      have o_a11 := ob_I eS125 o_a11
                      have o_v0 := ob_I eS125 o_v0
                      intro S127 eS127
                      have hIn : IV S127 := by rw [eS127]; exact iv11_sI hI o_v0 (by decide) (nu_free (by decide))
                      have hI := hIn
                      have f0 := fr_I eS127 g0 f0 o_v0 (by decide)
                      have d_kv2 := rd_Ij eS127 (by decide) d_kv2
                      have d_x61 := rd_Ik eS127 o_v0 o_a11 (by decide) d_x61
                      have d_x91 := rd_Ik eS127 o_v0 o_a11 (by decide) d_x91
                      have d_kv126 := rd_Ij eS127 (by decide) d_kv126
                      obtain ⟨kv128, hkv128⟩ : ∃ z : Int32, z = (-1 : Int32) := ⟨_, rfl⟩
                      have d_kv128 := rd_Is eS127 hkv128
                      have ea11 := rf_I eS127 ea11
                      have g0 := gr_I eS127 g0
                      have o_a11 := ob_I eS127 o_a11
                      have o_v0 := ob_I eS127 o_v0
                      intro _
                      exact hq _ _ hI g0 f0
                    · intro _ _
                      refine ⟨fun c131 => absurd (show (1 : Int32) = 0 from c131) (by decide), fun c131 => ?_⟩
                      refine u_X11_isHour ?_
                      refine u_X11_isHour_0 ?_
                      refine ⟨o_v0, ?_⟩
                      refine ⟨fun e133 => (nomatch (e133.symm.trans ea11)), fun a132 ea132 => ?_⟩
                      obtain rfl : a11 = a132 := Option.some.inj (ea11.symm.trans ea132)
                      refine ⟨fun c134 => ?_, fun c134 => ?_⟩
                      · intro _ _
                        refine ⟨fun c136 => absurd (show ¬ (0 : Int32) = 0 from c136) (by decide), fun c136 => ?_⟩
                        intro _
                        refine ⟨fun c138 => absurd (show (1 : Int32) ≤ 0 from c138) (by decide), fun c138 => ?_⟩
                        intro _
                        refine ⟨fun c140 => absurd (show (1 : Int32) ≤ 0 from c140) (by decide), fun c140 => ?_⟩
                        refine u_X11_refused ?_
                        refine u_X11_refused_0 ?_
                        refine ⟨o_v0, ?_⟩
                        intro S141 eS141
                        have hIn : IV S141 := by rw [eS141]; exact iv11_sI hI o_v0 (by decide) (nu_free (by decide))
                        have hI := hIn
                        have f0 := fr_I eS141 g0 f0 o_v0 (by decide)
                        have d_kv2 := rd_Ij eS141 (by decide) d_kv2
                        have d_x61 := rd_Ik eS141 o_v0 o_a11 (by decide) d_x61
                        have d_x91 := rd_Ik eS141 o_v0 o_a11 (by decide) d_x91
                        obtain ⟨kv142, hkv142⟩ : ∃ z : Int32, z = (1 : Int32) := ⟨_, rfl⟩
                        have d_kv142 := rd_Is eS141 hkv142
                        have ea11 := rf_I eS141 ea11
                        have g0 := gr_I eS141 g0
                        have o_a11 := ob_I eS141 o_a11
                        have o_v0 := ob_I eS141 o_v0
                        intro S143 eS143
                        have hIn : IV S143 := by rw [eS143]; exact iv11_sI hI o_v0 (by decide) (nu_free (by decide))
                        have hI := hIn
                        have f0 := fr_I eS143 g0 f0 o_v0 (by decide)
                        have d_kv2 := rd_Ij eS143 (by decide) d_kv2
                        have d_x61 := rd_Ik eS143 o_v0 o_a11 (by decide) d_x61
                        have d_x91 := rd_Ik eS143 o_v0 o_a11 (by decide) d_x91
                        have d_kv142 := rd_Ij eS143 (by decide) d_kv142
                        obtain ⟨kv144, hkv144⟩ : ∃ z : Int32, z = (-1 : Int32) := ⟨_, rfl⟩
                        have d_kv144 := rd_Is eS143 hkv144
                        have ea11 := rf_I eS143 ea11
                        have g0 := gr_I eS143 g0
                        have o_a11 := ob_I eS143 o_a11
                        have o_v0 := ob_I eS143 o_v0
                        intro _
                        exact hq _ _ hI g0 f0
                      · refine ⟨a11, ea11, ?_⟩
                        refine ⟨o_a11, ?_⟩
                        intro x147 ex147
                        have r_x147 : (0 : Int32) ≤ x147 ∧ x147 ≤ (6 : Int32) := by rw [ex147]; exact nu 17 rfl hI o_a11
                        have d_x147 := ex147
                        refine ⟨fun c148 => ?_, fun c148 => ?_⟩
                        · intro _ _
                          refine ⟨fun c150 => absurd (show ¬ (0 : Int32) = 0 from c150) (by decide), fun c150 => ?_⟩
                          intro _
                          refine ⟨fun c152 => absurd (show (1 : Int32) ≤ 0 from c152) (by decide), fun c152 => ?_⟩
                          intro _
                          refine ⟨fun c154 => absurd (show (1 : Int32) ≤ 0 from c154) (by decide), fun c154 => ?_⟩
                          refine u_X11_refused ?_
                          refine u_X11_refused_0 ?_
                          refine ⟨o_v0, ?_⟩
                          intro S155 eS155
                          have hIn : IV S155 := by rw [eS155]; exact iv11_sI hI o_v0 (by decide) (nu_free (by decide))
                          have hI := hIn
                          have f0 := fr_I eS155 g0 f0 o_v0 (by decide)
                          have d_kv2 := rd_Ij eS155 (by decide) d_kv2
                          have d_x61 := rd_Ik eS155 o_v0 o_a11 (by decide) d_x61
                          have d_x91 := rd_Ik eS155 o_v0 o_a11 (by decide) d_x91
                          have d_x147 := rd_Ik eS155 o_v0 o_a11 (by decide) d_x147
                          obtain ⟨kv156, hkv156⟩ : ∃ z : Int32, z = (1 : Int32) := ⟨_, rfl⟩
                          have d_kv156 := rd_Is eS155 hkv156
                          have ea11 := rf_I eS155 ea11
                          have g0 := gr_I eS155 g0
                          have o_a11 := ob_I eS155 o_a11
                          have o_v0 := ob_I eS155 o_v0
                          intro S157 eS157
                          have hIn : IV S157 := by rw [eS157]; exact iv11_sI hI o_v0 (by decide) (nu_free (by decide))
                          have hI := hIn
                          have f0 := fr_I eS157 g0 f0 o_v0 (by decide)
                          have d_kv2 := rd_Ij eS157 (by decide) d_kv2
                          have d_x61 := rd_Ik eS157 o_v0 o_a11 (by decide) d_x61
                          have d_x91 := rd_Ik eS157 o_v0 o_a11 (by decide) d_x91
                          have d_x147 := rd_Ik eS157 o_v0 o_a11 (by decide) d_x147
                          have d_kv156 := rd_Ij eS157 (by decide) d_kv156
                          obtain ⟨kv158, hkv158⟩ : ∃ z : Int32, z = (-1 : Int32) := ⟨_, rfl⟩
                          have d_kv158 := rd_Is eS157 hkv158
                          have ea11 := rf_I eS157 ea11
                          have g0 := gr_I eS157 g0
                          have o_a11 := ob_I eS157 o_a11
                          have o_v0 := ob_I eS157 o_v0
                          intro _
                          exact hq _ _ hI g0 f0
                        · intro _ _
                          refine ⟨fun c161 => ?_, fun c161 => absurd (show (1 : Int32) = 0 from c161) (by decide)⟩
                          refine u_X11_isSpeed ?_
                          refine u_X11_isSpeed_0 ?_
                          refine ⟨o_v0, ?_⟩
                          refine ⟨a11, ea11, ?_⟩
                          refine ⟨o_a11, ?_⟩
                          obtain ⟨a163, ea163, o_a163, l_a163⟩ := shl 46 rfl hI o_a11
                          refine ⟨a163, ea163, ?_⟩
                          refine ⟨o_a163, ?_⟩
                          refine ⟨(vin l_a163 (m := 4) (by decide) (qm614 c3 c22 r_x33 c34 c48 r_x61 q_x61 c62 c78 r_x91 c92 c106 c118 c134 r_x147 c148)), ?_⟩
                          intro x164 ex164
                          have gy_x164 : 0 ≤ v1 ∧ v1 < fI S1 a11 4 := by rw [← d_x61]; exact (qm615 c3 c22 r_x33 c34 c48 r_x61 q_x61 c62 c78 r_x91 c92 c106 c118 c134 r_x147 c148)
                          have g_x164 : (1 : Int32) ≤ x164 ∧ x164 ≤ (9 : Int32) := by rw [ex164]; exact wg_at (ml_wg hI o_v0 ea11) 3 rfl gy_x164 ea163
                          refine ⟨a11, ea11, ?_⟩
                          refine ⟨o_a11, ?_⟩
                          obtain ⟨a166, ea166, o_a166, l_a166⟩ := shl 47 rfl hI o_a11
                          refine ⟨a166, ea166, ?_⟩
                          refine ⟨o_a166, ?_⟩
                          refine ⟨(vin l_a166 (m := 4) (by decide) (qm614 c3 c22 r_x33 c34 c48 r_x61 q_x61 c62 c78 r_x91 c92 c106 c118 c134 r_x147 c148)), ?_⟩
                          intro x167 ex167
                          have gy_x167 : 0 ≤ v1 ∧ v1 < fI S1 a11 4 := by rw [← d_x61]; exact (qm615 c3 c22 r_x33 c34 c48 r_x61 q_x61 c62 c78 r_x91 c92 c106 c118 c134 r_x147 c148)
                          have g_x167 : (0 : Int32) ≤ x167 ∧ x167 ≤ (9 : Int32) := by rw [ex167]; exact wg_at (ml_wg hI o_v0 ea11) 4 rfl gy_x167 ea166
                          refine u_X11_in ?_
                          refine u_X11_in_0 ?_
                          refine ⟨fun c168 => ?_, fun c168 => ?_⟩
                          · intro _ _
                            refine ⟨(Or.inl rfl), ?_⟩
                            intro _ _
                            refine ⟨fun c171 => ?_, fun c171 => absurd (show ¬ (0 : Int32) = 0 from c171) (by decide)⟩
                            intro _
                            refine ⟨fun c173 => absurd (show (2 : Int32) ≤ 0 from c173) (by decide), fun c173 => ?_⟩
                            intro _
                            refine ⟨fun c175 => absurd (show (2 : Int32) ≤ 0 from c175) (by decide), fun c175 => ?_⟩
                            refine u_X11_refused ?_
                            refine u_X11_refused_0 ?_
                            refine ⟨o_v0, ?_⟩
                            intro S176 eS176
                            have hIn : IV S176 := by rw [eS176]; exact iv11_sI hI o_v0 (by decide) (nu_free (by decide))
                            have hI := hIn
                            have f0 := fr_I eS176 g0 f0 o_v0 (by decide)
                            have d_kv2 := rd_Ij eS176 (by decide) d_kv2
                            have d_x61 := rd_Ik eS176 o_v0 o_a11 (by decide) d_x61
                            have d_x91 := rd_Ik eS176 o_v0 o_a11 (by decide) d_x91
                            have d_x147 := rd_Ik eS176 o_v0 o_a11 (by decide) d_x147
                            obtain ⟨kv177, hkv177⟩ : ∃ z : Int32, z = (2 : Int32) := ⟨_, rfl⟩
                            have d_kv177 := rd_Is eS176 hkv177
                            have ea11 := rf_I eS176 ea11
                            have ea163 := rf_I eS176 ea163
                            have ea166 := rf_I eS176 ea166
                            have l_a163 := ln_I eS176 l_a163
                            have l_a166 := ln_I eS176 l_a166
                            have g0 := gr_I eS176 g0
                            have o_a11 := ob_I eS176 o_a11
                            have o_a163 := ob_I eS176 o_a163
                            have o_a166 := ob_I eS176 o_a166
                            have o_v0 := ob_I eS176 o_v0
                            intro S178 eS178
                            have hIn : IV S178 := by rw [eS178]; exact iv11_sI hI o_v0 (by decide) (nu_free (by decide))
                            have hI := hIn
                            have f0 := fr_I eS178 g0 f0 o_v0 (by decide)
                            have d_kv2 := rd_Ij eS178 (by decide) d_kv2
                            have d_x61 := rd_Ik eS178 o_v0 o_a11 (by decide) d_x61
                            have d_x91 := rd_Ik eS178 o_v0 o_a11 (by decide) d_x91
                            have d_x147 := rd_Ik eS178 o_v0 o_a11 (by decide) d_x147
                            have d_kv177 := rd_Ij eS178 (by decide) d_kv177
                            obtain ⟨kv179, hkv179⟩ : ∃ z : Int32, z = (-1 : Int32) := ⟨_, rfl⟩
                            have d_kv179 := rd_Is eS178 hkv179
                            have ea11 := rf_I eS178 ea11
                            have ea163 := rf_I eS178 ea163
                            have ea166 := rf_I eS178 ea166
                            have l_a163 := ln_I eS178 l_a163
                            have l_a166 := ln_I eS178 l_a166
                            have g0 := gr_I eS178 g0
                            have o_a11 := ob_I eS178 o_a11
                            have o_a163 := ob_I eS178 o_a163
                            have o_a166 := ob_I eS178 o_a166
                            have o_v0 := ob_I eS178 o_v0
                            intro _
                            exact hq _ _ hI g0 f0
                          · refine ⟨fun c181 => ?_, fun c181 => ?_⟩
                            · intro _ _
                              refine ⟨(Or.inl rfl), ?_⟩
                              intro _ _
                              refine ⟨fun c184 => ?_, fun c184 => absurd (show ¬ (0 : Int32) = 0 from c184) (by decide)⟩
                              intro _
                              refine ⟨fun c186 => absurd (show (2 : Int32) ≤ 0 from c186) (by decide), fun c186 => ?_⟩
                              intro _
                              refine ⟨fun c188 => absurd (show (2 : Int32) ≤ 0 from c188) (by decide), fun c188 => ?_⟩
                              refine u_X11_refused ?_
                              refine u_X11_refused_0 ?_
                              refine ⟨o_v0, ?_⟩
                              intro S189 eS189
                              have hIn : IV S189 := by rw [eS189]; exact iv11_sI hI o_v0 (by decide) (nu_free (by decide))
                              have hI := hIn
                              have f0 := fr_I eS189 g0 f0 o_v0 (by decide)
                              have d_kv2 := rd_Ij eS189 (by decide) d_kv2
                              have d_x61 := rd_Ik eS189 o_v0 o_a11 (by decide) d_x61
                              have d_x91 := rd_Ik eS189 o_v0 o_a11 (by decide) d_x91
                              have d_x147 := rd_Ik eS189 o_v0 o_a11 (by decide) d_x147
                              obtain ⟨kv190, hkv190⟩ : ∃ z : Int32, z = (2 : Int32) := ⟨_, rfl⟩
                              have d_kv190 := rd_Is eS189 hkv190
                              have ea11 := rf_I eS189 ea11
                              have ea163 := rf_I eS189 ea163
                              have ea166 := rf_I eS189 ea166
                              have l_a163 := ln_I eS189 l_a163
                              have l_a166 := ln_I eS189 l_a166
                              have g0 := gr_I eS189 g0
                              have o_a11 := ob_I eS189 o_a11
                              have o_a163 := ob_I eS189 o_a163
                              have o_a166 := ob_I eS189 o_a166
                              have o_v0 := ob_I eS189 o_v0
                              intro S191 eS191
                              have hIn : IV S191 := by rw [eS191]; exact iv11_sI hI o_v0 (by decide) (nu_free (by decide))
                              have hI := hIn
                              have f0 := fr_I eS191 g0 f0 o_v0 (by decide)
                              have d_kv2 := rd_Ij eS191 (by decide) d_kv2
                              have d_x61 := rd_Ik eS191 o_v0 o_a11 (by decide) d_x61
                              have d_x91 := rd_Ik eS191 o_v0 o_a11 (by decide) d_x91
                              have d_x147 := rd_Ik eS191 o_v0 o_a11 (by decide) d_x147
                              have d_kv190 := rd_Ij eS191 (by decide) d_kv190
                              obtain ⟨kv192, hkv192⟩ : ∃ z : Int32, z = (-1 : Int32) := ⟨_, rfl⟩
                              have d_kv192 := rd_Is eS191 hkv192
                              have ea11 := rf_I eS191 ea11
                              have ea163 := rf_I eS191 ea163
                              have ea166 := rf_I eS191 ea166
                              have l_a163 := ln_I eS191 l_a163
                              have l_a166 := ln_I eS191 l_a166
                              have g0 := gr_I eS191 g0
                              have o_a11 := ob_I eS191 o_a11
                              have o_a163 := ob_I eS191 o_a163
                              have o_a166 := ob_I eS191 o_a166
                              have o_v0 := ob_I eS191 o_v0
                              intro _
                              exact hq _ _ hI g0 f0
                            · intro _ _
                              refine ⟨(Or.inr rfl), ?_⟩
                              intro _ _
                              refine ⟨fun c196 => absurd (show (1 : Int32) = 0 from c196) (by decide), fun c196 => ?_⟩
                              intro _
                              refine ⟨fun c198 => ?_, fun c198 => absurd (show ¬ (0 : Int32) ≤ 0 from c198) (by decide)⟩
                              refine u_X11_isSpeed ?_
                              refine u_X11_isSpeed_0 ?_
                              refine ⟨o_v0, ?_⟩
                              refine ⟨a11, ea11, ?_⟩
                              refine ⟨o_a11, ?_⟩
                              refine ⟨a163, ea163, ?_⟩
                              refine ⟨o_a163, ?_⟩
                              refine ⟨(vin l_a163 (m := 4) (by decide) (qm616 c3 c22 r_x33 c34 c48 r_x61 q_x61 c62 c78 r_x91 c92 c106 c118 c134 r_x147 c148 g_x164 g_x167 c168 c181)), ?_⟩
                              intro x201 ex201
                              have gy_x201 : 0 ≤ v2 ∧ v2 < fI S1 a11 4 := by rw [← d_x61]; exact (qm617 c3 c22 r_x33 c34 c48 r_x61 q_x61 c62 c78 r_x91 c92 c106 c118 c134 r_x147 c148 g_x164 g_x167 c168 c181)
                              have g_x201 : (1 : Int32) ≤ x201 ∧ x201 ≤ (9 : Int32) := by rw [ex201]; exact wg_at (ml_wg hI o_v0 ea11) 3 rfl gy_x201 ea163
                              refine ⟨a11, ea11, ?_⟩
                              refine ⟨o_a11, ?_⟩
                              refine ⟨a166, ea166, ?_⟩
                              refine ⟨o_a166, ?_⟩
                              refine ⟨(vin l_a166 (m := 4) (by decide) (qm616 c3 c22 r_x33 c34 c48 r_x61 q_x61 c62 c78 r_x91 c92 c106 c118 c134 r_x147 c148 g_x164 g_x167 c168 c181)), ?_⟩
                              intro x204 ex204
                              have gy_x204 : 0 ≤ v2 ∧ v2 < fI S1 a11 4 := by rw [← d_x61]; exact (qm617 c3 c22 r_x33 c34 c48 r_x61 q_x61 c62 c78 r_x91 c92 c106 c118 c134 r_x147 c148 g_x164 g_x167 c168 c181)
                              have g_x204 : (0 : Int32) ≤ x204 ∧ x204 ≤ (9 : Int32) := by rw [ex204]; exact wg_at (ml_wg hI o_v0 ea11) 4 rfl gy_x204 ea166
                              refine u_X11_in ?_
                              refine u_X11_in_0 ?_
                              refine ⟨fun c205 => ?_, fun c205 => ?_⟩
                              · intro _ _
                                refine ⟨(Or.inl rfl), ?_⟩
                                intro _ _
                                refine ⟨fun c208 => ?_, fun c208 => absurd (show ¬ (0 : Int32) = 0 from c208) (by decide)⟩
                                intro _
                                refine ⟨fun c210 => absurd (show (2 : Int32) ≤ 0 from c210) (by decide), fun c210 => ?_⟩
                                refine u_X11_refused ?_
                                refine u_X11_refused_0 ?_
                                refine ⟨o_v0, ?_⟩
                                intro S211 eS211
                                have hIn : IV S211 := by rw [eS211]; exact iv11_sI hI o_v0 (by decide) (nu_free (by decide))
                                have hI := hIn
                                have f0 := fr_I eS211 g0 f0 o_v0 (by decide)
                                have d_kv2 := rd_Ij eS211 (by decide) d_kv2
                                have d_x61 := rd_Ik eS211 o_v0 o_a11 (by decide) d_x61
                                have d_x91 := rd_Ik eS211 o_v0 o_a11 (by decide) d_x91
                                have d_x147 := rd_Ik eS211 o_v0 o_a11 (by decide) d_x147
                                obtain ⟨kv212, hkv212⟩ : ∃ z : Int32, z = (2 : Int32) := ⟨_, rfl⟩
                                have d_kv212 := rd_Is eS211 hkv212
                                have ea11 := rf_I eS211 ea11
                                have ea163 := rf_I eS211 ea163
                                have ea166 := rf_I eS211 ea166
                                have l_a163 := ln_I eS211 l_a163
                                have l_a166 := ln_I eS211 l_a166
                                have g0 := gr_I eS211 g0
                                have o_a11 := ob_I eS211 o_a11
                                have o_a163 := ob_I eS211 o_a163
                                have o_a166 := ob_I eS211 o_a166
                                have o_v0 := ob_I eS211 o_v0
                                intro S213 eS213
                                have hIn : IV S213 := by rw [eS213]; exact iv11_sI hI o_v0 (by decide) (nu_free (by decide))
                                have hI := hIn
                                have f0 := fr_I eS213 g0 f0 o_v0 (by decide)
                                have d_kv2 := rd_Ij eS213 (by decide) d_kv2
                                have d_x61 := rd_Ik eS213 o_v0 o_a11 (by decide) d_x61
                                have d_x91 := rd_Ik eS213 o_v0 o_a11 (by decide) d_x91
                                have d_x147 := rd_Ik eS213 o_v0 o_a11 (by decide) d_x147
                                have d_kv212 := rd_Ij eS213 (by decide) d_kv212
                                obtain ⟨kv214, hkv214⟩ : ∃ z : Int32, z = (-1 : Int32) := ⟨_, rfl⟩
                                have d_kv214 := rd_Is eS213 hkv214
                                have ea11 := rf_I eS213 ea11
                                have ea163 := rf_I eS213 ea163
                                have ea166 := rf_I eS213 ea166
                                have l_a163 := ln_I eS213 l_a163
                                have l_a166 := ln_I eS213 l_a166
                                have g0 := gr_I eS213 g0
                                have o_a11 := ob_I eS213 o_a11
                                have o_a163 := ob_I eS213 o_a163
                                have o_a166 := ob_I eS213 o_a166
                                have o_v0 := ob_I eS213 o_v0
                                intro _
                                exact hq _ _ hI g0 f0
                              · refine ⟨fun c216 => ?_, fun c216 => ?_⟩
                                · intro _ _
                                  refine ⟨(Or.inl rfl), ?_⟩
                                  intro _ _
                                  refine ⟨fun c219 => ?_, fun c219 => absurd (show ¬ (0 : Int32) = 0 from c219) (by decide)⟩
                                  intro _
                                  refine ⟨fun c221 => absurd (show (2 : Int32) ≤ 0 from c221) (by decide), fun c221 => ?_⟩
                                  refine u_X11_refused ?_
                                  refine u_X11_refused_0 ?_
                                  refine ⟨o_v0, ?_⟩
                                  intro S222 eS222
                                  have hIn : IV S222 := by rw [eS222]; exact iv11_sI hI o_v0 (by decide) (nu_free (by decide))
                                  have hI := hIn
                                  have f0 := fr_I eS222 g0 f0 o_v0 (by decide)
                                  have d_kv2 := rd_Ij eS222 (by decide) d_kv2
                                  have d_x61 := rd_Ik eS222 o_v0 o_a11 (by decide) d_x61
                                  have d_x91 := rd_Ik eS222 o_v0 o_a11 (by decide) d_x91
                                  have d_x147 := rd_Ik eS222 o_v0 o_a11 (by decide) d_x147
                                  obtain ⟨kv223, hkv223⟩ : ∃ z : Int32, z = (2 : Int32) := ⟨_, rfl⟩
                                  have d_kv223 := rd_Is eS222 hkv223
                                  have ea11 := rf_I eS222 ea11
                                  have ea163 := rf_I eS222 ea163
                                  have ea166 := rf_I eS222 ea166
                                  have l_a163 := ln_I eS222 l_a163
                                  have l_a166 := ln_I eS222 l_a166
                                  have g0 := gr_I eS222 g0
                                  have o_a11 := ob_I eS222 o_a11
                                  have o_a163 := ob_I eS222 o_a163
                                  have o_a166 := ob_I eS222 o_a166
                                  have o_v0 := ob_I eS222 o_v0
                                  intro S224 eS224
                                  have hIn : IV S224 := by rw [eS224]; exact iv11_sI hI o_v0 (by decide) (nu_free (by decide))
                                  have hI := hIn
                                  have f0 := fr_I eS224 g0 f0 o_v0 (by decide)
                                  have d_kv2 := rd_Ij eS224 (by decide) d_kv2
                                  have d_x61 := rd_Ik eS224 o_v0 o_a11 (by decide) d_x61
                                  have d_x91 := rd_Ik eS224 o_v0 o_a11 (by decide) d_x91
                                  have d_x147 := rd_Ik eS224 o_v0 o_a11 (by decide) d_x147
                                  have d_kv223 := rd_Ij eS224 (by decide) d_kv223
                                  obtain ⟨kv225, hkv225⟩ : ∃ z : Int32, z = (-1 : Int32) := ⟨_, rfl⟩
                                  have d_kv225 := rd_Is eS224 hkv225
                                  have ea11 := rf_I eS224 ea11
                                  have ea163 := rf_I eS224 ea163
                                  have ea166 := rf_I eS224 ea166
                                  have l_a163 := ln_I eS224 l_a163
                                  have l_a166 := ln_I eS224 l_a166
                                  have g0 := gr_I eS224 g0
                                  have o_a11 := ob_I eS224 o_a11
                                  have o_a163 := ob_I eS224 o_a163
                                  have o_a166 := ob_I eS224 o_a166
                                  have o_v0 := ob_I eS224 o_v0
                                  intro _
                                  exact hq _ _ hI g0 f0
                                · intro _ _
                                  refine ⟨(Or.inr rfl), ?_⟩
                                  intro _ _
                                  refine ⟨fun c229 => absurd (show (1 : Int32) = 0 from c229) (by decide), fun c229 => ?_⟩
                                  intro _
                                  refine ⟨fun c231 => ?_, fun c231 => absurd (show ¬ (0 : Int32) ≤ 0 from c231) (by decide)⟩
                                  refine m_X11_together hI o_v0 (qm618 c3 c22 r_x33 c34 c48 r_x61 q_x61 c62 c78 r_x91 c92 c106 c118 c134 r_x147 c148 g_x164 g_x167 c168 c181 g_x201 g_x204 c205 c216) (qm619 c3 c22 r_x33 c34 c48 r_x61 q_x61 c62 c78 r_x91 c92 c106 c118 c134 r_x147 c148 g_x164 g_x167 c168 c181 g_x201 g_x204 c205 c216) (qm620 c3 c22 r_x33 c34 c48 r_x61 q_x61 c62 c78 r_x91 c92 c106 c118 c134 r_x147 c148 g_x164 g_x167 c168 c181 g_x201 g_x204 c205 c216) (qm621 c3 c22 r_x33 c34 c48 r_x61 q_x61 c62 c78 r_x91 c92 c106 c118 c134 r_x147 c148 g_x164 g_x167 c168 c181 g_x201 g_x204 c205 c216) (qm622 c3 c22 r_x33 c34 c48 r_x61 q_x61 c62 c78 r_x91 c92 c106 c118 c134 r_x147 c148 g_x164 g_x167 c168 c181 g_x201 g_x204 c205 c216) ⟨_, ea11⟩ (fun x232 S233 hI2 g234 p_x232 => ?_)
                                  subst p_x232
                                  intro _
                                  refine m_X11_told hI o_v0 (qm626 c3 c22 r_x33 c34 c48 r_x61 q_x61 c62 c78 r_x91 c92 c106 c118 c134 r_x147 c148 g_x164 g_x167 c168 c181 g_x201 g_x204 c205 c216) (fun x236 S237 hJ g238 fc239 => ?_)
                                  have hI := hJ
                                  have l_a163 := (gr_len g238 o_a163).trans l_a163
                                  have l_a166 := (gr_len g238 o_a166).trans l_a166
                                  have d_kv2 := d_kv2.trans (fri_at fc239 (by decide) (by decide) o_v0).symm
                                  have d_x61 := d_x61.trans (fri_at fc239 (by decide) (by decide) o_a11).symm
                                  have d_x91 := d_x91.trans (fri_at fc239 (by decide) (by decide) o_a11).symm
                                  have d_x147 := d_x147.trans (fri_at fc239 (by decide) (by decide) o_a11).symm
                                  have ea11 := (frr_at fc239 (by decide) (by decide) o_v0).trans ea11
                                  have ea163 := (frr_at fc239 (by decide) (by decide) o_a11).trans ea163
                                  have ea166 := (frr_at fc239 (by decide) (by decide) o_a11).trans ea166
                                  have f0 := fri_tr (S := S1) g0 f0 fc239 (by decide) (by decide)
                                  have o_a11 := gr_ob g238 o_a11
                                  have o_a163 := gr_ob g238 o_a163
                                  have o_a166 := gr_ob g238 o_a166
                                  have o_v0 := gr_ob g238 o_v0
                                  have g0 := gr_tr (T := S1) g0 g238
                                  intro _
                                  exact hq _ _ hI g0 f0
