set_option maxHeartbeats 4000000 in
set_option maxRecDepth 20000 in
theorem m_X11_got {v0 : Nat} {v1 : Int32} {v2 : Int32} {Q : Int64 → HS → Prop} {S : HS} (hI : IV S) (o_v0 : ob S v0 11)     (hq : ∀ (r : Int64) (T : HS), IV T → Gr S T → FRI [(11, 0), (11, 1), (11, 2)] [] S T → Q r T) : P_X11_got v0 v1 v2 Q S := by
  have g0 := gr_rf S
  have f0 := fri_rf [(11, 0), (11, 1), (11, 2)] [] S
  refine u_X11_got ?_
  refine u_X11_got_0 ?_
  refine ⟨o_v0, ?_⟩
  intro S1 eS1
  have hIn : IV S1 := by rw [eS1]; exact iv11_sI hI o_v0 (by decide) (nu_free (by decide))
  have hI := hIn
  have f0 := fr_I eS1 g0 f0 o_v0 (by decide)
  obtain ⟨kv2, hkv2⟩ : ∃ z : Int32, z = (0 : Int32) := ⟨_, rfl⟩
  have d_kv2 := rd_Is eS1 hkv2
  have g0 := gr_I eS1 g0
  have o_v0 := ob_I eS1 o_v0
  refine u_X11_isDay ?_
  refine u_X11_isDay_0 ?_
  refine ⟨o_v0, ?_⟩
  refine ⟨fun e4 => ?_, fun a3 ea3 => ?_⟩
  · intro _ _
    refine ⟨fun c6 => ?_, fun c6 => absurd (show ¬ (0 : Int32) = 0 from c6) (by decide)⟩
    refine u_X11_got_40 ?_
    refine ⟨o_v0, ?_⟩
    refine u_X11_refused ?_
    refine u_X11_refused_0 ?_
    refine ⟨o_v0, ?_⟩
    intro S7 eS7
    have hIn : IV S7 := by rw [eS7]; exact iv11_sI hI o_v0 (by decide) (nu_free (by decide))
    have hI := hIn
    have f0 := fr_I eS7 g0 f0 o_v0 (by decide)
    have d_kv2 := rd_Ij eS7 (by decide) d_kv2
    obtain ⟨kv8, hkv8⟩ : ∃ z : Int32, z = (1 : Int32) := ⟨_, rfl⟩
    have d_kv8 := rd_Is eS7 hkv8
    have g0 := gr_I eS7 g0
    have o_v0 := ob_I eS7 o_v0
    intro S9 eS9
    have hIn : IV S9 := by rw [eS9]; exact iv11_sI hI o_v0 (by decide) (nu_free (by decide))
    have hI := hIn
    have f0 := fr_I eS9 g0 f0 o_v0 (by decide)
    have d_kv2 := rd_Ij eS9 (by decide) d_kv2
    have d_kv8 := rd_Ij eS9 (by decide) d_kv8
    obtain ⟨kv10, hkv10⟩ : ∃ z : Int32, z = (-1 : Int32) := ⟨_, rfl⟩
    have d_kv10 := rd_Is eS9 hkv10
    have g0 := gr_I eS9 g0
    have o_v0 := ob_I eS9 o_v0
    intro _
    exact hq _ _ hI g0 f0
  · have o_a3 := ml_ob hI o_v0 ea3
    intro x12 ex12
    have r_x12 : (-2 : Int32) ≤ x12 ∧ x12 ≤ (3 : Int32) := by rw [ex12]; exact nu 26 rfl hI o_v0
    have d_x12 := ex12
    obtain ⟨kv13, d_kv13⟩ : ∃ z : Int32, z = fI S1 a3 4 := ⟨_, rfl⟩
    have r_kv13 : (0 : Int32) ≤ kv13 ∧ kv13 ≤ (4 : Int32) := by rw [d_kv13]; exact nu 20 rfl hI o_a3
    have wh_x12 : x12 = -2 ∨ (0 ≤ x12 ∧ x12 < kv13) := by rw [ex12, d_kv13]; exact ml_who hI o_v0 ea3
    refine ⟨fun c14 => ?_, fun c14 => ?_⟩
    · intro _ _
      refine ⟨fun c16 => ?_, fun c16 => absurd (show ¬ (0 : Int32) = 0 from c16) (by decide)⟩
      refine u_X11_got_40 ?_
      refine ⟨o_v0, ?_⟩
      refine u_X11_refused ?_
      refine u_X11_refused_0 ?_
      refine ⟨o_v0, ?_⟩
      intro S17 eS17
      have hIn : IV S17 := by rw [eS17]; exact iv11_sI hI o_v0 (by decide) (nu_free (by decide))
      have hI := hIn
      have f0 := fr_I eS17 g0 f0 o_v0 (by decide)
      have d_kv2 := rd_Ij eS17 (by decide) d_kv2
      have d_x12 := rd_Ij eS17 (by decide) d_x12
      have d_kv13 := rd_Ik eS17 o_v0 o_a3 (by decide) d_kv13
      obtain ⟨kv18, hkv18⟩ : ∃ z : Int32, z = (1 : Int32) := ⟨_, rfl⟩
      have d_kv18 := rd_Is eS17 hkv18
      have ea3 := rf_I eS17 ea3
      have g0 := gr_I eS17 g0
      have o_a3 := ob_I eS17 o_a3
      have o_v0 := ob_I eS17 o_v0
      intro S19 eS19
      have hIn : IV S19 := by rw [eS19]; exact iv11_sI hI o_v0 (by decide) (nu_free (by decide))
      have hI := hIn
      have f0 := fr_I eS19 g0 f0 o_v0 (by decide)
      have d_kv2 := rd_Ij eS19 (by decide) d_kv2
      have d_x12 := rd_Ij eS19 (by decide) d_x12
      have d_kv13 := rd_Ik eS19 o_v0 o_a3 (by decide) d_kv13
      have d_kv18 := rd_Ij eS19 (by decide) d_kv18
      obtain ⟨kv20, hkv20⟩ : ∃ z : Int32, z = (-1 : Int32) := ⟨_, rfl⟩
      have d_kv20 := rd_Is eS19 hkv20
      have ea3 := rf_I eS19 ea3
      have g0 := gr_I eS19 g0
      have o_a3 := ob_I eS19 o_a3
      have o_v0 := ob_I eS19 o_v0
      intro _
      exact hq _ _ hI g0 f0
    · intro _ _
      refine ⟨fun c23 => absurd (show (1 : Int32) = 0 from c23) (by decide), fun c23 => ?_⟩
      refine u_X11_in ?_
      refine u_X11_in_0 ?_
      refine ⟨fun c24 => ?_, fun c24 => ?_⟩
      · intro _ _
        refine ⟨fun c26 => ?_, fun c26 => absurd (show ¬ (0 : Int32) = 0 from c26) (by decide)⟩
        refine u_X11_got_40 ?_
        refine ⟨o_v0, ?_⟩
        refine u_X11_refused ?_
        refine u_X11_refused_0 ?_
        refine ⟨o_v0, ?_⟩
        intro S27 eS27
        have hIn : IV S27 := by rw [eS27]; exact iv11_sI hI o_v0 (by decide) (nu_free (by decide))
        have hI := hIn
        have f0 := fr_I eS27 g0 f0 o_v0 (by decide)
        have d_kv2 := rd_Ij eS27 (by decide) d_kv2
        have d_x12 := rd_Ij eS27 (by decide) d_x12
        have d_kv13 := rd_Ik eS27 o_v0 o_a3 (by decide) d_kv13
        obtain ⟨kv28, hkv28⟩ : ∃ z : Int32, z = (1 : Int32) := ⟨_, rfl⟩
        have d_kv28 := rd_Is eS27 hkv28
        have ea3 := rf_I eS27 ea3
        have g0 := gr_I eS27 g0
        have o_a3 := ob_I eS27 o_a3
        have o_v0 := ob_I eS27 o_v0
        intro S29 eS29
        have hIn : IV S29 := by rw [eS29]; exact iv11_sI hI o_v0 (by decide) (nu_free (by decide))
        have hI := hIn
        have f0 := fr_I eS29 g0 f0 o_v0 (by decide)
        have d_kv2 := rd_Ij eS29 (by decide) d_kv2
        have d_x12 := rd_Ij eS29 (by decide) d_x12
        have d_kv13 := rd_Ik eS29 o_v0 o_a3 (by decide) d_kv13
        have d_kv28 := rd_Ij eS29 (by decide) d_kv28
        obtain ⟨kv30, hkv30⟩ : ∃ z : Int32, z = (-1 : Int32) := ⟨_, rfl⟩
        have d_kv30 := rd_Is eS29 hkv30
        have ea3 := rf_I eS29 ea3
        have g0 := gr_I eS29 g0
        have o_a3 := ob_I eS29 o_a3
        have o_v0 := ob_I eS29 o_v0
        intro _
        exact hq _ _ hI g0 f0
      · refine ⟨fun c32 => ?_, fun c32 => ?_⟩
        · intro _ _
          refine ⟨fun c34 => ?_, fun c34 => absurd (show ¬ (0 : Int32) = 0 from c34) (by decide)⟩
          refine u_X11_got_40 ?_
          refine ⟨o_v0, ?_⟩
          refine u_X11_refused ?_
          refine u_X11_refused_0 ?_
          refine ⟨o_v0, ?_⟩
          intro S35 eS35
          have hIn : IV S35 := by rw [eS35]; exact iv11_sI hI o_v0 (by decide) (nu_free (by decide))
          have hI := hIn
          have f0 := fr_I eS35 g0 f0 o_v0 (by decide)
          have d_kv2 := rd_Ij eS35 (by decide) d_kv2
          have d_x12 := rd_Ij eS35 (by decide) d_x12
          have d_kv13 := rd_Ik eS35 o_v0 o_a3 (by decide) d_kv13
          obtain ⟨kv36, hkv36⟩ : ∃ z : Int32, z = (1 : Int32) := ⟨_, rfl⟩
          have d_kv36 := rd_Is eS35 hkv36
          have ea3 := rf_I eS35 ea3
          have g0 := gr_I eS35 g0
          have o_a3 := ob_I eS35 o_a3
          have o_v0 := ob_I eS35 o_v0
          intro S37 eS37
          have hIn : IV S37 := by rw [eS37]; exact iv11_sI hI o_v0 (by decide) (nu_free (by decide))
          have hI := hIn
          have f0 := fr_I eS37 g0 f0 o_v0 (by decide)
          have d_kv2 := rd_Ij eS37 (by decide) d_kv2
          have d_x12 := rd_Ij eS37 (by decide) d_x12
          have d_kv13 := rd_Ik eS37 o_v0 o_a3 (by decide) d_kv13
          have d_kv36 := rd_Ij eS37 (by decide) d_kv36
          obtain ⟨kv38, hkv38⟩ : ∃ z : Int32, z = (-1 : Int32) := ⟨_, rfl⟩
          have d_kv38 := rd_Is eS37 hkv38
          have ea3 := rf_I eS37 ea3
          have g0 := gr_I eS37 g0
          have o_a3 := ob_I eS37 o_a3
          have o_v0 := ob_I eS37 o_v0
          intro _
          exact hq _ _ hI g0 f0
        · intro _ _
          refine ⟨fun c41 => absurd (show (1 : Int32) = 0 from c41) (by decide), fun c41 => ?_⟩
          obtain ⟨a42, ea42, o_a42, l_a42⟩ := shl 57 rfl hI o_v0
          refine ⟨a42, ea42, ?_⟩
          refine ⟨o_a42, ?_⟩
          intro x43 ex43
          refine ⟨(vin l_a42 (m := 7) (by decide) (qm540 r_x12 r_kv13 wh_x12 c14 c24 c32 ex43)), ?_⟩
          intro x44 ex44
          have de_x44 := ml_de hI o_v0 (j := 21) (by decide) ea42 x43.toNatClampNeg
          rw [← ex44] at de_x44
          refine m_X11_told hI o_v0 (qm541 r_x12 r_kv13 wh_x12 c14 c24 c32 ex43) (fun x45 S46 hJ g47 fc48 => ?_)
          have hI := hJ
          have l_a42 := (gr_len g47 o_a42).trans l_a42
          have d_kv2 := d_kv2.trans (fri_at fc48 (by decide) (by decide) o_v0).symm
          have d_x12 := d_x12.trans (fri_at fc48 (by decide) (by decide) o_v0).symm
          have d_kv13 := d_kv13.trans (fri_at fc48 (by decide) (by decide) o_a3).symm
          have ea3 := (frr_at fc48 (by decide) (by decide) o_v0).trans ea3
          have ea42 := (frr_at fc48 (by decide) (by decide) o_v0).trans ea42
          have f0 := fri_tr (S := S1) g0 f0 fc48 (by decide) (by decide)
          have o_a3 := gr_ob g47 o_a3
          have o_a42 := gr_ob g47 o_a42
          have o_v0 := gr_ob g47 o_v0
          have g0 := gr_tr (T := S1) g0 g47
          intro _
          exact hq _ _ hI g0 f0
set_option maxHeartbeats 4000000 in
set_option maxRecDepth 20000 in
theorem m_X11_gotInAll {v0 : Nat} {Q : Int64 → HS → Prop} {S : HS} (hI : IV S) (o_v0 : ob S v0 11)     (hq : ∀ (r : Int64) (T : HS), IV T → Gr S T → (S = T) → Q r T) : P_X11_gotInAll v0 Q S := by
  have g0 := gr_rf S
  refine u_X11_gotInAll ?_
  refine u_X11_gotInAll_0 ?_
  refine i_X11_gotInAll_4 (fun (y0 : Nat) (y1 : Int64) (y3 : Int32) (Z : HS) => ((2147483647 : Int32).toInt - y3.toInt).toNat) (fun (y0 : Nat) (y1 : Int64) (y3 : Int32) (Z : HS) => (S = Z) ∧ (v0 = y0) ∧ (0 ≤ y3)) ?_ _ _ _ _ ⟨rfl, rfl, (qm8)⟩
  intro w5 w7 w8 S2 X9 ⟨eS2, q6, i1u1⟩ ih10
  subst q6
  subst eS2
  refine u_X11_gotInAll_4 ?_
  refine ⟨fun c11 => ?_, fun c11 => ?_⟩
  · exact hq _ _ hI g0 rfl
  · refine ⟨o_v0, ?_⟩
    obtain ⟨a12, ea12, o_a12, l_a12⟩ := shl 57 rfl hI o_v0
    refine ⟨a12, ea12, ?_⟩
    refine ⟨o_a12, ?_⟩
    intro x13 ex13
    refine ⟨(vin l_a12 (m := 7) (by decide) (qm550 i1u1 c11 ex13)), ?_⟩
    intro x14 ex14
    have de_x14 := ml_de hI o_v0 (j := 21) (by decide) ea12 x13.toNatClampNeg
    rw [← ex14] at de_x14
    intro x15 ex15
    intro x16 ex16
    exact ih10 _ _ _ _ ⟨rfl, rfl, (qm551 i1u1 c11 ex13 ex16)⟩ (mu_up (qm552 i1u1 c11 ex13 ex16) (qm553 i1u1 c11 ex13 ex16))
set_option maxHeartbeats 4000000 in
set_option maxRecDepth 20000 in
theorem m_X11_held {v0 : Nat} {v1 : Int32} {v2 : Int32} {v3 : Int32} {v4 : Int32} {v5 : Int32} {Q : Int32 → HS → Prop} {S : HS} (hI : IV S) (o_v0 : ob S v0 11)     (hq : ∀ (r : Int32) (T : HS), IV T → Gr S T → FRI [(11, 0), (11, 1), (11, 2)] [] S T → Q r T) : P_X11_held v0 v1 v2 v3 v4 v5 Q S := by
  have g0 := gr_rf S
  have f0 := fri_rf [(11, 0), (11, 1), (11, 2)] [] S
  refine u_X11_held ?_
  refine u_X11_held_0 ?_
  refine ⟨o_v0, ?_⟩
  intro S1 eS1
  have hIn : IV S1 := by rw [eS1]; exact iv11_sI hI o_v0 (by decide) (nu_free (by decide))
  have hI := hIn
  have f0 := fr_I eS1 g0 f0 o_v0 (by decide)
  obtain ⟨kv2, hkv2⟩ : ∃ z : Int32, z = (0 : Int32) := ⟨_, rfl⟩
  have d_kv2 := rd_Is eS1 hkv2
  have g0 := gr_I eS1 g0
  have o_v0 := ob_I eS1 o_v0
  refine u_X11_refuses ?_
  refine u_X11_refuses_0 ?_
  refine ⟨o_v0, ?_⟩
  refine u_X11_isWalker ?_
  refine u_X11_isWalker_0 ?_
  refine ⟨o_v0, ?_⟩
  refine ⟨fun e4 => ?_, fun a3 ea3 => ?_⟩
  · intro _ _
    refine ⟨fun c6 => ?_, fun c6 => absurd (show ¬ (0 : Int32) = 0 from c6) (by decide)⟩
    intro _
    refine ⟨fun c8 => absurd (show (1 : Int32) ≤ 0 from c8) (by decide), fun c8 => ?_⟩
    refine u_X11_refused ?_
    refine u_X11_refused_0 ?_
    refine ⟨o_v0, ?_⟩
    intro S9 eS9
    have hIn : IV S9 := by rw [eS9]; exact iv11_sI hI o_v0 (by decide) (nu_free (by decide))
    have hI := hIn
    have f0 := fr_I eS9 g0 f0 o_v0 (by decide)
    have d_kv2 := rd_Ij eS9 (by decide) d_kv2
    obtain ⟨kv10, hkv10⟩ : ∃ z : Int32, z = (1 : Int32) := ⟨_, rfl⟩
    have d_kv10 := rd_Is eS9 hkv10
    have g0 := gr_I eS9 g0
    have o_v0 := ob_I eS9 o_v0
    intro S11 eS11
    have hIn : IV S11 := by rw [eS11]; exact iv11_sI hI o_v0 (by decide) (nu_free (by decide))
    have hI := hIn
    have f0 := fr_I eS11 g0 f0 o_v0 (by decide)
    have d_kv2 := rd_Ij eS11 (by decide) d_kv2
    have d_kv10 := rd_Ij eS11 (by decide) d_kv10
    obtain ⟨kv12, hkv12⟩ : ∃ z : Int32, z = (-1 : Int32) := ⟨_, rfl⟩
    have d_kv12 := rd_Is eS11 hkv12
    have g0 := gr_I eS11 g0
    have o_v0 := ob_I eS11 o_v0
    intro _
    exact hq _ _ hI g0 f0
  · have o_a3 := ml_ob hI o_v0 ea3
    refine ⟨fun c14 => ?_, fun c14 => ?_⟩
    · intro _ _
      refine ⟨fun c16 => ?_, fun c16 => absurd (show ¬ (0 : Int32) = 0 from c16) (by decide)⟩
      intro _
      refine ⟨fun c18 => absurd (show (1 : Int32) ≤ 0 from c18) (by decide), fun c18 => ?_⟩
      refine u_X11_refused ?_
      refine u_X11_refused_0 ?_
      refine ⟨o_v0, ?_⟩
      intro S19 eS19
      have hIn : IV S19 := by rw [eS19]; exact iv11_sI hI o_v0 (by decide) (nu_free (by decide))
      have hI := hIn
      have f0 := fr_I eS19 g0 f0 o_v0 (by decide)
      have d_kv2 := rd_Ij eS19 (by decide) d_kv2
      obtain ⟨kv20, hkv20⟩ : ∃ z : Int32, z = (1 : Int32) := ⟨_, rfl⟩
      have d_kv20 := rd_Is eS19 hkv20
      have ea3 := rf_I eS19 ea3
      have g0 := gr_I eS19 g0
      have o_a3 := ob_I eS19 o_a3
      have o_v0 := ob_I eS19 o_v0
      intro S21 eS21
      have hIn : IV S21 := by rw [eS21]; exact iv11_sI hI o_v0 (by decide) (nu_free (by decide))
      have hI := hIn
      have f0 := fr_I eS21 g0 f0 o_v0 (by decide)
      have d_kv2 := rd_Ij eS21 (by decide) d_kv2
      have d_kv20 := rd_Ij eS21 (by decide) d_kv20
      obtain ⟨kv22, hkv22⟩ : ∃ z : Int32, z = (-1 : Int32) := ⟨_, rfl⟩
      have d_kv22 := rd_Is eS21 hkv22
      have ea3 := rf_I eS21 ea3
      have g0 := gr_I eS21 g0
      have o_a3 := ob_I eS21 o_a3
      have o_v0 := ob_I eS21 o_v0
      intro _
      exact hq _ _ hI g0 f0
    · refine ⟨a3, ea3, ?_⟩
      refine ⟨o_a3, ?_⟩
      intro x25 ex25
      have r_x25 : (0 : Int32) ≤ x25 ∧ x25 ≤ (4 : Int32) := by rw [ex25]; exact nu 20 rfl hI o_a3
      have d_x25 := ex25
      refine ⟨fun c26 => ?_, fun c26 => ?_⟩
      · intro _ _
        refine ⟨fun c28 => ?_, fun c28 => absurd (show ¬ (0 : Int32) = 0 from c28) (by decide)⟩
        intro _
        refine ⟨fun c30 => absurd (show (1 : Int32) ≤ 0 from c30) (by decide), fun c30 => ?_⟩
        refine u_X11_refused ?_
        refine u_X11_refused_0 ?_
        refine ⟨o_v0, ?_⟩
        intro S31 eS31
        have hIn : IV S31 := by rw [eS31]; exact iv11_sI hI o_v0 (by decide) (nu_free (by decide))
        have hI := hIn
        have f0 := fr_I eS31 g0 f0 o_v0 (by decide)
        have d_kv2 := rd_Ij eS31 (by decide) d_kv2
        have d_x25 := rd_Ik eS31 o_v0 o_a3 (by decide) d_x25
        obtain ⟨kv32, hkv32⟩ : ∃ z : Int32, z = (1 : Int32) := ⟨_, rfl⟩
        have d_kv32 := rd_Is eS31 hkv32
        have ea3 := rf_I eS31 ea3
        have g0 := gr_I eS31 g0
        have o_a3 := ob_I eS31 o_a3
        have o_v0 := ob_I eS31 o_v0
        intro S33 eS33
        have hIn : IV S33 := by rw [eS33]; exact iv11_sI hI o_v0 (by decide) (nu_free (by decide))
        have hI := hIn
        have f0 := fr_I eS33 g0 f0 o_v0 (by decide)
        have d_kv2 := rd_Ij eS33 (by decide) d_kv2
        have d_x25 := rd_Ik eS33 o_v0 o_a3 (by decide) d_x25
        have d_kv32 := rd_Ij eS33 (by decide) d_kv32
        obtain ⟨kv34, hkv34⟩ : ∃ z : Int32, z = (-1 : Int32) := ⟨_, rfl⟩
        have d_kv34 := rd_Is eS33 hkv34
        have ea3 := rf_I eS33 ea3
        have g0 := gr_I eS33 g0
        have o_a3 := ob_I eS33 o_a3
        have o_v0 := ob_I eS33 o_v0
        intro _
        exact hq _ _ hI g0 f0
      · intro _ _
        refine ⟨fun c37 => absurd (show (1 : Int32) = 0 from c37) (by decide), fun c37 => ?_⟩
        refine u_X11_isRoad ?_
        refine u_X11_isRoad_0 ?_
        refine ⟨o_v0, ?_⟩
        refine ⟨fun e39 => (nomatch (e39.symm.trans ea3)), fun a38 ea38 => ?_⟩
        obtain rfl : a3 = a38 := Option.some.inj (ea3.symm.trans ea38)
        refine ⟨fun c40 => ?_, fun c40 => ?_⟩
        · intro _ _
          refine ⟨fun c42 => ?_, fun c42 => absurd (show ¬ (0 : Int32) = 0 from c42) (by decide)⟩
          intro _
          refine ⟨fun c44 => absurd (show (1 : Int32) ≤ 0 from c44) (by decide), fun c44 => ?_⟩
          refine u_X11_refused ?_
          refine u_X11_refused_0 ?_
          refine ⟨o_v0, ?_⟩
          intro S45 eS45
          have hIn : IV S45 := by rw [eS45]; exact iv11_sI hI o_v0 (by decide) (nu_free (by decide))
          have hI := hIn
          have f0 := fr_I eS45 g0 f0 o_v0 (by decide)
          have d_kv2 := rd_Ij eS45 (by decide) d_kv2
          have d_x25 := rd_Ik eS45 o_v0 o_a3 (by decide) d_x25
          obtain ⟨kv46, hkv46⟩ : ∃ z : Int32, z = (1 : Int32) := ⟨_, rfl⟩
          have d_kv46 := rd_Is eS45 hkv46
          have ea3 := rf_I eS45 ea3
          have g0 := gr_I eS45 g0
          have o_a3 := ob_I eS45 o_a3
          have o_v0 := ob_I eS45 o_v0
          intro S47 eS47
          have hIn : IV S47 := by rw [eS47]; exact iv11_sI hI o_v0 (by decide) (nu_free (by decide))
          have hI := hIn
          have f0 := fr_I eS47 g0 f0 o_v0 (by decide)
          have d_kv2 := rd_Ij eS47 (by decide) d_kv2
          have d_x25 := rd_Ik eS47 o_v0 o_a3 (by decide) d_x25
          have d_kv46 := rd_Ij eS47 (by decide) d_kv46
          obtain ⟨kv48, hkv48⟩ : ∃ z : Int32, z = (-1 : Int32) := ⟨_, rfl⟩
          have d_kv48 := rd_Is eS47 hkv48
          have ea3 := rf_I eS47 ea3
          have g0 := gr_I eS47 g0
          have o_a3 := ob_I eS47 o_a3
          have o_v0 := ob_I eS47 o_v0
          intro _
          exact hq _ _ hI g0 f0
        · refine ⟨a3, ea3, ?_⟩
          refine ⟨o_a3, ?_⟩
          intro x51 ex51
          have r_x51 : (0 : Int32) ≤ x51 ∧ x51 ≤ (12 : Int32) := by rw [ex51]; exact nu 19 rfl hI o_a3
          have d_x51 := ex51
          refine ⟨fun c52 => ?_, fun c52 => ?_⟩
          · intro _ _
            refine ⟨fun c54 => ?_, fun c54 => absurd (show ¬ (0 : Int32) = 0 from c54) (by decide)⟩
            intro _
            refine ⟨fun c56 => absurd (show (1 : Int32) ≤ 0 from c56) (by decide), fun c56 => ?_⟩
            refine u_X11_refused ?_
            refine u_X11_refused_0 ?_
            refine ⟨o_v0, ?_⟩
            intro S57 eS57
            have hIn : IV S57 := by rw [eS57]; exact iv11_sI hI o_v0 (by decide) (nu_free (by decide))
            have hI := hIn
            have f0 := fr_I eS57 g0 f0 o_v0 (by decide)
            have d_kv2 := rd_Ij eS57 (by decide) d_kv2
            have d_x25 := rd_Ik eS57 o_v0 o_a3 (by decide) d_x25
            have d_x51 := rd_Ik eS57 o_v0 o_a3 (by decide) d_x51
            obtain ⟨kv58, hkv58⟩ : ∃ z : Int32, z = (1 : Int32) := ⟨_, rfl⟩
            have d_kv58 := rd_Is eS57 hkv58
            have ea3 := rf_I eS57 ea3
            have g0 := gr_I eS57 g0
            have o_a3 := ob_I eS57 o_a3
            have o_v0 := ob_I eS57 o_v0
            intro S59 eS59
            have hIn : IV S59 := by rw [eS59]; exact iv11_sI hI o_v0 (by decide) (nu_free (by decide))
            have hI := hIn
            have f0 := fr_I eS59 g0 f0 o_v0 (by decide)
            have d_kv2 := rd_Ij eS59 (by decide) d_kv2
            have d_x25 := rd_Ik eS59 o_v0 o_a3 (by decide) d_x25
            have d_x51 := rd_Ik eS59 o_v0 o_a3 (by decide) d_x51
            have d_kv58 := rd_Ij eS59 (by decide) d_kv58
            obtain ⟨kv60, hkv60⟩ : ∃ z : Int32, z = (-1 : Int32) := ⟨_, rfl⟩
            have d_kv60 := rd_Is eS59 hkv60
            have ea3 := rf_I eS59 ea3
            have g0 := gr_I eS59 g0
            have o_a3 := ob_I eS59 o_a3
            have o_v0 := ob_I eS59 o_v0
            intro _
            exact hq _ _ hI g0 f0
          · intro _ _
            refine ⟨fun c63 => absurd (show (1 : Int32) = 0 from c63) (by decide), fun c63 => ?_⟩
            refine u_X11_in ?_
            refine u_X11_in_0 ?_
            refine ⟨fun c64 => ?_, fun c64 => ?_⟩
            · intro _ _
              refine ⟨fun c66 => ?_, fun c66 => absurd (show ¬ (0 : Int32) = 0 from c66) (by decide)⟩
              intro _
              refine ⟨fun c68 => absurd (show (1 : Int32) ≤ 0 from c68) (by decide), fun c68 => ?_⟩
              refine u_X11_refused ?_
              refine u_X11_refused_0 ?_
              refine ⟨o_v0, ?_⟩
              intro S69 eS69
              have hIn : IV S69 := by rw [eS69]; exact iv11_sI hI o_v0 (by decide) (nu_free (by decide))
              have hI := hIn
              have f0 := fr_I eS69 g0 f0 o_v0 (by decide)
              have d_kv2 := rd_Ij eS69 (by decide) d_kv2
              have d_x25 := rd_Ik eS69 o_v0 o_a3 (by decide) d_x25
              have d_x51 := rd_Ik eS69 o_v0 o_a3 (by decide) d_x51
              obtain ⟨kv70, hkv70⟩ : ∃ z : Int32, z = (1 : Int32) := ⟨_, rfl⟩
              have d_kv70 := rd_Is eS69 hkv70
              have ea3 := rf_I eS69 ea3
              have g0 := gr_I eS69 g0
              have o_a3 := ob_I eS69 o_a3
              have o_v0 := ob_I eS69 o_v0
              intro S71 eS71
              have hIn : IV S71 := by rw [eS71]; exact iv11_sI hI o_v0 (by decide) (nu_free (by decide))
              have hI := hIn
              have f0 := fr_I eS71 g0 f0 o_v0 (by decide)
              have d_kv2 := rd_Ij eS71 (by decide) d_kv2
              have d_x25 := rd_Ik eS71 o_v0 o_a3 (by decide) d_x25
              have d_x51 := rd_Ik eS71 o_v0 o_a3 (by decide) d_x51
              have d_kv70 := rd_Ij eS71 (by decide) d_kv70
              obtain ⟨kv72, hkv72⟩ : ∃ z : Int32, z = (-1 : Int32) := ⟨_, rfl⟩
              have d_kv72 := rd_Is eS71 hkv72
              have ea3 := rf_I eS71 ea3
              have g0 := gr_I eS71 g0
              have o_a3 := ob_I eS71 o_a3
              have o_v0 := ob_I eS71 o_v0
              intro _
              exact hq _ _ hI g0 f0
            · refine ⟨fun c74 => ?_, fun c74 => ?_⟩
              · intro _ _
                refine ⟨fun c76 => ?_, fun c76 => absurd (show ¬ (0 : Int32) = 0 from c76) (by decide)⟩
                intro _
                refine ⟨fun c78 => absurd (show (1 : Int32) ≤ 0 from c78) (by decide), fun c78 => ?_⟩
                refine u_X11_refused ?_
                refine u_X11_refused_0 ?_
                refine ⟨o_v0, ?_⟩
                intro S79 eS79
                have hIn : IV S79 := by rw [eS79]; exact iv11_sI hI o_v0 (by decide) (nu_free (by decide))
                have hI := hIn
                have f0 := fr_I eS79 g0 f0 o_v0 (by decide)
                have d_kv2 := rd_Ij eS79 (by decide) d_kv2
                have d_x25 := rd_Ik eS79 o_v0 o_a3 (by decide) d_x25
                have d_x51 := rd_Ik eS79 o_v0 o_a3 (by decide) d_x51
                obtain ⟨kv80, hkv80⟩ : ∃ z : Int32, z = (1 : Int32) := ⟨_, rfl⟩
                have d_kv80 := rd_Is eS79 hkv80
                have ea3 := rf_I eS79 ea3
                have g0 := gr_I eS79 g0
                have o_a3 := ob_I eS79 o_a3
                have o_v0 := ob_I eS79 o_v0
                intro S81 eS81
                have hIn : IV S81 := by rw [eS81]; exact iv11_sI hI o_v0 (by decide) (nu_free (by decide))
                have hI := hIn
                have f0 := fr_I eS81 g0 f0 o_v0 (by decide)
                have d_kv2 := rd_Ij eS81 (by decide) d_kv2
                have d_x25 := rd_Ik eS81 o_v0 o_a3 (by decide) d_x25
                have d_x51 := rd_Ik eS81 o_v0 o_a3 (by decide) d_x51
                have d_kv80 := rd_Ij eS81 (by decide) d_kv80
                obtain ⟨kv82, hkv82⟩ : ∃ z : Int32, z = (-1 : Int32) := ⟨_, rfl⟩
                have d_kv82 := rd_Is eS81 hkv82
                have ea3 := rf_I eS81 ea3
                have g0 := gr_I eS81 g0
                have o_a3 := ob_I eS81 o_a3
                have o_v0 := ob_I eS81 o_v0
                intro _
                exact hq _ _ hI g0 f0
              · intro _ _
                refine ⟨fun c85 => absurd (show (1 : Int32) = 0 from c85) (by decide), fun c85 => ?_⟩
                refine u_X11_isHour ?_
                refine u_X11_isHour_0 ?_
                refine ⟨o_v0, ?_⟩
                refine ⟨fun e87 => (nomatch (e87.symm.trans ea3)), fun a86 ea86 => ?_⟩
                obtain rfl : a3 = a86 := Option.some.inj (ea3.symm.trans ea86)
                refine ⟨fun c88 => ?_, fun c88 => ?_⟩
                · intro _ _
                  refine ⟨fun c90 => absurd (show ¬ (0 : Int32) = 0 from c90) (by decide), fun c90 => ?_⟩
                  intro _
                  refine ⟨fun c92 => absurd (show (1 : Int32) ≤ 0 from c92) (by decide), fun c92 => ?_⟩
                  refine u_X11_refused ?_
                  refine u_X11_refused_0 ?_
                  refine ⟨o_v0, ?_⟩
                  intro S93 eS93
                  have hIn : IV S93 := by rw [eS93]; exact iv11_sI hI o_v0 (by decide) (nu_free (by decide))
                  have hI := hIn
                  have f0 := fr_I eS93 g0 f0 o_v0 (by decide)
                  have d_kv2 := rd_Ij eS93 (by decide) d_kv2
                  have d_x25 := rd_Ik eS93 o_v0 o_a3 (by decide) d_x25
                  have d_x51 := rd_Ik eS93 o_v0 o_a3 (by decide) d_x51
                  obtain ⟨kv94, hkv94⟩ : ∃ z : Int32, z = (1 : Int32) := ⟨_, rfl⟩
                  have d_kv94 := rd_Is eS93 hkv94
                  have ea3 := rf_I eS93 ea3
                  have g0 := gr_I eS93 g0
                  have o_a3 := ob_I eS93 o_a3
                  have o_v0 := ob_I eS93 o_v0
                  intro S95 eS95
                  have hIn : IV S95 := by rw [eS95]; exact iv11_sI hI o_v0 (by decide) (nu_free (by decide))
                  have hI := hIn
                  have f0 := fr_I eS95 g0 f0 o_v0 (by decide)
                  have d_kv2 := rd_Ij eS95 (by decide) d_kv2
                  have d_x25 := rd_Ik eS95 o_v0 o_a3 (by decide) d_x25
                  have d_x51 := rd_Ik eS95 o_v0 o_a3 (by decide) d_x51
                  have d_kv94 := rd_Ij eS95 (by decide) d_kv94
                  obtain ⟨kv96, hkv96⟩ : ∃ z : Int32, z = (-1 : Int32) := ⟨_, rfl⟩
                  have d_kv96 := rd_Is eS95 hkv96
                  have ea3 := rf_I eS95 ea3
                  have g0 := gr_I eS95 g0
                  have o_a3 := ob_I eS95 o_a3
                  have o_v0 := ob_I eS95 o_v0
                  intro _
                  exact hq _ _ hI g0 f0
                · refine ⟨a3, ea3, ?_⟩
                  refine ⟨o_a3, ?_⟩
                  intro x99 ex99
                  have r_x99 : (0 : Int32) ≤ x99 ∧ x99 ≤ (6 : Int32) := by rw [ex99]; exact nu 17 rfl hI o_a3
                  have d_x99 := ex99
                  refine ⟨fun c100 => ?_, fun c100 => ?_⟩
                  · intro _ _
                    refine ⟨fun c102 => absurd (show ¬ (0 : Int32) = 0 from c102) (by decide), fun c102 => ?_⟩
                    intro _
                    refine ⟨fun c104 => absurd (show (1 : Int32) ≤ 0 from c104) (by decide), fun c104 => ?_⟩
                    refine u_X11_refused ?_
                    refine u_X11_refused_0 ?_
                    refine ⟨o_v0, ?_⟩
                    intro S105 eS105
                    have hIn : IV S105 := by rw [eS105]; exact iv11_sI hI o_v0 (by decide) (nu_free (by decide))
                    have hI := hIn
                    have f0 := fr_I eS105 g0 f0 o_v0 (by decide)
                    have d_kv2 := rd_Ij eS105 (by decide) d_kv2
                    have d_x25 := rd_Ik eS105 o_v0 o_a3 (by decide) d_x25
                    have d_x51 := rd_Ik eS105 o_v0 o_a3 (by decide) d_x51
                    have d_x99 := rd_Ik eS105 o_v0 o_a3 (by decide) d_x99
                    obtain ⟨kv106, hkv106⟩ : ∃ z : Int32, z = (1 : Int32) := ⟨_, rfl⟩
                    have d_kv106 := rd_Is eS105 hkv106
                    have ea3 := rf_I eS105 ea3
                    have g0 := gr_I eS105 g0
                    have o_a3 := ob_I eS105 o_a3
                    have o_v0 := ob_I eS105 o_v0
                    intro S107 eS107
                    have hIn : IV S107 := by rw [eS107]; exact iv11_sI hI o_v0 (by decide) (nu_free (by decide))
                    have hI := hIn
                    have f0 := fr_I eS107 g0 f0 o_v0 (by decide)
                    have d_kv2 := rd_Ij eS107 (by decide) d_kv2
                    have d_x25 := rd_Ik eS107 o_v0 o_a3 (by decide) d_x25
                    have d_x51 := rd_Ik eS107 o_v0 o_a3 (by decide) d_x51
                    have d_x99 := rd_Ik eS107 o_v0 o_a3 (by decide) d_x99
                    have d_kv106 := rd_Ij eS107 (by decide) d_kv106
                    obtain ⟨kv108, hkv108⟩ : ∃ z : Int32, z = (-1 : Int32) := ⟨_, rfl⟩
                    have d_kv108 := rd_Is eS107 hkv108
                    have ea3 := rf_I eS107 ea3
                    have g0 := gr_I eS107 g0
                    have o_a3 := ob_I eS107 o_a3
                    have o_v0 := ob_I eS107 o_v0
                    intro _
                    exact hq _ _ hI g0 f0
                  · intro _ _
                    refine ⟨fun c111 => ?_, fun c111 => absurd (show (1 : Int32) = 0 from c111) (by decide)⟩
                    refine u_X11_isSpeed ?_
                    refine u_X11_isSpeed_0 ?_
                    refine ⟨o_v0, ?_⟩
                    refine ⟨a3, ea3, ?_⟩
                    refine ⟨o_a3, ?_⟩
                    obtain ⟨a113, ea113, o_a113, l_a113⟩ := shl 46 rfl hI o_a3
                    refine ⟨a113, ea113, ?_⟩
                    refine ⟨o_a113, ?_⟩
                    refine ⟨(vin l_a113 (m := 4) (by decide) (qm664 c14 r_x25 c26 c40 r_x51 c52 c64 c74 c88 r_x99 c100)), ?_⟩
                    intro x114 ex114
                    have gy_x114 : 0 ≤ v1 ∧ v1 < fI S1 a3 4 := by rw [← d_x25]; exact (qm665 c14 r_x25 c26 c40 r_x51 c52 c64 c74 c88 r_x99 c100)
                    have g_x114 : (1 : Int32) ≤ x114 ∧ x114 ≤ (9 : Int32) := by rw [ex114]; exact wg_at (ml_wg hI o_v0 ea3) 3 rfl gy_x114 ea113
                    refine ⟨a3, ea3, ?_⟩
                    refine ⟨o_a3, ?_⟩
                    obtain ⟨a116, ea116, o_a116, l_a116⟩ := shl 47 rfl hI o_a3
                    refine ⟨a116, ea116, ?_⟩
                    refine ⟨o_a116, ?_⟩
                    refine ⟨(vin l_a116 (m := 4) (by decide) (qm664 c14 r_x25 c26 c40 r_x51 c52 c64 c74 c88 r_x99 c100)), ?_⟩
                    intro x117 ex117
                    have gy_x117 : 0 ≤ v1 ∧ v1 < fI S1 a3 4 := by rw [← d_x25]; exact (qm665 c14 r_x25 c26 c40 r_x51 c52 c64 c74 c88 r_x99 c100)
                    have g_x117 : (0 : Int32) ≤ x117 ∧ x117 ≤ (9 : Int32) := by rw [ex117]; exact wg_at (ml_wg hI o_v0 ea3) 4 rfl gy_x117 ea116
                    refine u_X11_in ?_
                    refine u_X11_in_0 ?_
                    refine ⟨fun c118 => ?_, fun c118 => ?_⟩
                    · intro _ _
                      refine ⟨(Or.inl rfl), ?_⟩
                      intro _ _
                      refine ⟨fun c121 => ?_, fun c121 => absurd (show ¬ (0 : Int32) = 0 from c121) (by decide)⟩
                      intro _
                      refine ⟨fun c123 => absurd (show (2 : Int32) ≤ 0 from c123) (by decide), fun c123 => ?_⟩
                      refine u_X11_refused ?_
                      refine u_X11_refused_0 ?_
                      refine ⟨o_v0, ?_⟩
                      intro S124 eS124
                      have hIn : IV S124 := by rw [eS124]; exact iv11_sI hI o_v0 (by decide) (nu_free (by decide))
                      have hI := hIn
                      have f0 := fr_I eS124 g0 f0 o_v0 (by decide)
                      have d_kv2 := rd_Ij eS124 (by decide) d_kv2
                      have d_x25 := rd_Ik eS124 o_v0 o_a3 (by decide) d_x25
                      have d_x51 := rd_Ik eS124 o_v0 o_a3 (by decide) d_x51
                      have d_x99 := rd_Ik eS124 o_v0 o_a3 (by decide) d_x99
                      obtain ⟨kv125, hkv125⟩ : ∃ z : Int32, z = (2 : Int32) := ⟨_, rfl⟩
                      have d_kv125 := rd_Is eS124 hkv125
                      have ea3 := rf_I eS124 ea3
                      have ea113 := rf_I eS124 ea113
                      have ea116 := rf_I eS124 ea116
                      have l_a113 := ln_I eS124 l_a113
                      have l_a116 := ln_I eS124 l_a116
                      have g0 := gr_I eS124 g0
                      have o_a113 := ob_I eS124 o_a113
                      have o_a116 := ob_I eS124 o_a116
                      have o_a3 := ob_I eS124 o_a3
                      have o_v0 := ob_I eS124 o_v0
                      intro S126 eS126
                      have hIn : IV S126 := by rw [eS126]; exact iv11_sI hI o_v0 (by decide) (nu_free (by decide))
                      have hI := hIn
                      have f0 := fr_I eS126 g0 f0 o_v0 (by decide)
                      have d_kv2 := rd_Ij eS126 (by decide) d_kv2
                      have d_x25 := rd_Ik eS126 o_v0 o_a3 (by decide) d_x25
                      have d_x51 := rd_Ik eS126 o_v0 o_a3 (by decide) d_x51
                      have d_x99 := rd_Ik eS126 o_v0 o_a3 (by decide) d_x99
                      have d_kv125 := rd_Ij eS126 (by decide) d_kv125
                      obtain ⟨kv127, hkv127⟩ : ∃ z : Int32, z = (-1 : Int32) := ⟨_, rfl⟩
                      have d_kv127 := rd_Is eS126 hkv127
                      have ea3 := rf_I eS126 ea3
                      have ea113 := rf_I eS126 ea113
                      have ea116 := rf_I eS126 ea116
                      have l_a113 := ln_I eS126 l_a113
                      have l_a116 := ln_I eS126 l_a116
                      have g0 := gr_I eS126 g0
                      have o_a113 := ob_I eS126 o_a113
                      have o_a116 := ob_I eS126 o_a116
                      have o_a3 := ob_I eS126 o_a3
                      have o_v0 := ob_I eS126 o_v0
                      intro _
                      exact hq _ _ hI g0 f0
                    · refine ⟨fun c129 => ?_, fun c129 => ?_⟩
                      · intro _ _
                        refine ⟨(Or.inl rfl), ?_⟩
                        intro _ _
                        refine ⟨fun c132 => ?_, fun c132 => absurd (show ¬ (0 : Int32) = 0 from c132) (by decide)⟩
                        intro _
                        refine ⟨fun c134 => absurd (show (2 : Int32) ≤ 0 from c134) (by decide), fun c134 => ?_⟩
                        refine u_X11_refused ?_
                        refine u_X11_refused_0 ?_
                        refine ⟨o_v0, ?_⟩
                        intro S135 eS135
                        have hIn : IV S135 := by rw [eS135]; exact iv11_sI hI o_v0 (by decide) (nu_free (by decide))
                        have hI := hIn
                        have f0 := fr_I eS135 g0 f0 o_v0 (by decide)
                        have d_kv2 := rd_Ij eS135 (by decide) d_kv2
                        have d_x25 := rd_Ik eS135 o_v0 o_a3 (by decide) d_x25
                        have d_x51 := rd_Ik eS135 o_v0 o_a3 (by decide) d_x51
                        have d_x99 := rd_Ik eS135 o_v0 o_a3 (by decide) d_x99
                        obtain ⟨kv136, hkv136⟩ : ∃ z : Int32, z = (2 : Int32) := ⟨_, rfl⟩
                        have d_kv136 := rd_Is eS135 hkv136
                        have ea3 := rf_I eS135 ea3
                        have ea113 := rf_I eS135 ea113
                        have ea116 := rf_I eS135 ea116
                        have l_a113 := ln_I eS135 l_a113
                        have l_a116 := ln_I eS135 l_a116
                        have g0 := gr_I eS135 g0
                        have o_a113 := ob_I eS135 o_a113
                        have o_a116 := ob_I eS135 o_a116
                        have o_a3 := ob_I eS135 o_a3
                        have o_v0 := ob_I eS135 o_v0
                        intro S137 eS137
                        have hIn : IV S137 := by rw [eS137]; exact iv11_sI hI o_v0 (by decide) (nu_free (by decide))
                        have hI := hIn
                        have f0 := fr_I eS137 g0 f0 o_v0 (by decide)
                        have d_kv2 := rd_Ij eS137 (by decide) d_kv2
                        have d_x25 := rd_Ik eS137 o_v0 o_a3 (by decide) d_x25
                        have d_x51 := rd_Ik eS137 o_v0 o_a3 (by decide) d_x51
                        have d_x99 := rd_Ik eS137 o_v0 o_a3 (by decide) d_x99
                        have d_kv136 := rd_Ij eS137 (by decide) d_kv136
                        obtain ⟨kv138, hkv138⟩ : ∃ z : Int32, z = (-1 : Int32) := ⟨_, rfl⟩
                        have d_kv138 := rd_Is eS137 hkv138
                        have ea3 := rf_I eS137 ea3
                        have ea113 := rf_I eS137 ea113
                        have ea116 := rf_I eS137 ea116
                        have l_a113 := ln_I eS137 l_a113
                        have l_a116 := ln_I eS137 l_a116
                        have g0 := gr_I eS137 g0
                        have o_a113 := ob_I eS137 o_a113
                        have o_a116 := ob_I eS137 o_a116
                        have o_a3 := ob_I eS137 o_a3
                        have o_v0 := ob_I eS137 o_v0
                        intro _
                        exact hq _ _ hI g0 f0
                      · intro _ _
                        refine ⟨(Or.inr rfl), ?_⟩
                        intro _ _
                        refine ⟨fun c142 => absurd (show (1 : Int32) = 0 from c142) (by decide), fun c142 => ?_⟩
                        intro _
                        refine ⟨fun c144 => ?_, fun c144 => absurd (show ¬ (0 : Int32) ≤ 0 from c144) (by decide)⟩
                        refine ⟨a3, ea3, ?_⟩
                        refine ⟨o_a3, ?_⟩
                        obtain ⟨a146, ea146, o_a146, l_a146⟩ := shl 41 rfl hI o_a3
                        refine ⟨a146, ea146, ?_⟩
                        refine ⟨o_a146, ?_⟩
                        refine ⟨(vin l_a146 (m := 4) (by decide) (qm700 c14 r_x25 c26 c40 r_x51 c52 c64 c74 c88 r_x99 c100 g_x114 g_x117 c118 c129)), ?_⟩
                        intro x147 ex147
                        refine ⟨fun c148 => ?_, fun c148 => ?_⟩
                        · refine m_X11_isForward hI o_v0 (qm701 c14 r_x25 c26 c40 r_x51 c52 c64 c74 c88 r_x99 c100 g_x114 g_x117 c118 c129 c148) (qm702 c14 r_x25 c26 c40 r_x51 c52 c64 c74 c88 r_x99 c100 g_x114 g_x117 c118 c129 c148) (qm703 c14 r_x25 c26 c40 r_x51 c52 c64 c74 c88 r_x99 c100 g_x114 g_x117 c118 c129 c148) ⟨_, ea3⟩ (fun x149 S150 hI2 g151 b_x149 p_x149 => ?_)
                          subst p_x149
                          intro _ _
                          have bb_x149 : x149 = 0 ∨ x149 = 1 := b_x149
                          refine ⟨fun c153 => ?_, fun c153 => ?_⟩
                          · refine u_X11_held_68 ?_
                            refine ⟨o_v0, ?_⟩
                            refine u_X11_good ?_
                            refine u_X11_good_0 ?_
                            refine ⟨o_v0, ?_⟩
                            intro S154 eS154
                            have hIn : IV S154 := by rw [eS154]; exact iv11_sI hI o_v0 (by decide) (nu_free (by decide))
                            have hI := hIn
                            have f0 := fr_I eS154 g0 f0 o_v0 (by decide)
                            have d_kv2 := rd_Ij eS154 (by decide) d_kv2
                            have d_x25 := rd_Ik eS154 o_v0 o_a3 (by decide) d_x25
                            have d_x51 := rd_Ik eS154 o_v0 o_a3 (by decide) d_x51
                            have d_x99 := rd_Ik eS154 o_v0 o_a3 (by decide) d_x99
                            obtain ⟨kv155, hkv155⟩ : ∃ z : Int32, z = (0 : Int32) := ⟨_, rfl⟩
                            have d_kv155 := rd_Is eS154 hkv155
                            have ea3 := rf_I eS154 ea3
                            have ea113 := rf_I eS154 ea113
                            have ea116 := rf_I eS154 ea116
                            have ea146 := rf_I eS154 ea146
                            have l_a113 := ln_I eS154 l_a113
                            have l_a116 := ln_I eS154 l_a116
                            have l_a146 := ln_I eS154 l_a146
                            have g0 := gr_I eS154 g0
                            have o_a113 := ob_I eS154 o_a113
                            have o_a116 := ob_I eS154 o_a116
                            have o_a146 := ob_I eS154 o_a146
                            have o_a3 := ob_I eS154 o_a3
                            have o_v0 := ob_I eS154 o_v0
                            intro S156 eS156
                            have hIn : IV S156 := by rw [eS156]; exact iv11_sI hI o_v0 (by decide) (nu_free (by decide))
                            have hI := hIn
                            have f0 := fr_I eS156 g0 f0 o_v0 (by decide)
                            have d_kv2 := rd_Ij eS156 (by decide) d_kv2
                            have d_x25 := rd_Ik eS156 o_v0 o_a3 (by decide) d_x25
                            have d_x51 := rd_Ik eS156 o_v0 o_a3 (by decide) d_x51
                            have d_x99 := rd_Ik eS156 o_v0 o_a3 (by decide) d_x99
                            have d_kv155 := rd_Ij eS156 (by decide) d_kv155
                            obtain ⟨kv157, hkv157⟩ : ∃ z : Int32, z = (-1 : Int32) := ⟨_, rfl⟩
                            have d_kv157 := rd_Is eS156 hkv157
                            have ea3 := rf_I eS156 ea3
                            have ea113 := rf_I eS156 ea113
                            have ea116 := rf_I eS156 ea116
                            have ea146 := rf_I eS156 ea146
                            have l_a113 := ln_I eS156 l_a113
                            have l_a116 := ln_I eS156 l_a116
                            have l_a146 := ln_I eS156 l_a146
                            have g0 := gr_I eS156 g0
                            have o_a113 := ob_I eS156 o_a113
                            have o_a116 := ob_I eS156 o_a116
                            have o_a146 := ob_I eS156 o_a146
                            have o_a3 := ob_I eS156 o_a3
                            have o_v0 := ob_I eS156 o_v0
                            intro _
                            exact hq _ _ hI g0 f0
                          · refine u_X11_held_68 ?_
                            refine ⟨o_v0, ?_⟩
                            refine u_X11_good ?_
                            refine u_X11_good_0 ?_
                            refine ⟨o_v0, ?_⟩
                            intro S159 eS159
                            have hIn : IV S159 := by rw [eS159]; exact iv11_sI hI o_v0 (by decide) (nu_free (by decide))
                            have hI := hIn
                            have f0 := fr_I eS159 g0 f0 o_v0 (by decide)
                            have d_kv2 := rd_Ij eS159 (by decide) d_kv2
                            have d_x25 := rd_Ik eS159 o_v0 o_a3 (by decide) d_x25
                            have d_x51 := rd_Ik eS159 o_v0 o_a3 (by decide) d_x51
                            have d_x99 := rd_Ik eS159 o_v0 o_a3 (by decide) d_x99
                            obtain ⟨kv160, hkv160⟩ : ∃ z : Int32, z = (0 : Int32) := ⟨_, rfl⟩
                            have d_kv160 := rd_Is eS159 hkv160
                            have ea3 := rf_I eS159 ea3
                            have ea113 := rf_I eS159 ea113
                            have ea116 := rf_I eS159 ea116
                            have ea146 := rf_I eS159 ea146
                            have l_a113 := ln_I eS159 l_a113
                            have l_a116 := ln_I eS159 l_a116
                            have l_a146 := ln_I eS159 l_a146
                            have g0 := gr_I eS159 g0
                            have o_a113 := ob_I eS159 o_a113
                            have o_a116 := ob_I eS159 o_a116
                            have o_a146 := ob_I eS159 o_a146
                            have o_a3 := ob_I eS159 o_a3
                            have o_v0 := ob_I eS159 o_v0
                            intro S161 eS161
                            have hIn : IV S161 := by rw [eS161]; exact iv11_sI hI o_v0 (by decide) (nu_free (by decide))
                            have hI := hIn
                            have f0 := fr_I eS161 g0 f0 o_v0 (by decide)
                            have d_kv2 := rd_Ij eS161 (by decide) d_kv2
                            have d_x25 := rd_Ik eS161 o_v0 o_a3 (by decide) d_x25
                            have d_x51 := rd_Ik eS161 o_v0 o_a3 (by decide) d_x51
                            have d_x99 := rd_Ik eS161 o_v0 o_a3 (by decide) d_x99
                            have d_kv160 := rd_Ij eS161 (by decide) d_kv160
                            obtain ⟨kv162, hkv162⟩ : ∃ z : Int32, z = (-1 : Int32) := ⟨_, rfl⟩
                            have d_kv162 := rd_Is eS161 hkv162
                            have ea3 := rf_I eS161 ea3
                            have ea113 := rf_I eS161 ea113
                            have ea116 := rf_I eS161 ea116
                            have ea146 := rf_I eS161 ea146
                            have l_a113 := ln_I eS161 l_a113
                            have l_a116 := ln_I eS161 l_a116
                            have l_a146 := ln_I eS161 l_a146
                            have g0 := gr_I eS161 g0
                            have o_a113 := ob_I eS161 o_a113
                            have o_a116 := ob_I eS161 o_a116
                            have o_a146 := ob_I eS161 o_a146
                            have o_a3 := ob_I eS161 o_a3
                            have o_v0 := ob_I eS161 o_v0
                            intro _
                            exact hq _ _ hI g0 f0
                        · refine u_X11_held_68 ?_
                          refine ⟨o_v0, ?_⟩
                          refine u_X11_good ?_
                          refine u_X11_good_0 ?_
                          refine ⟨o_v0, ?_⟩
                          intro S164 eS164
                          have hIn : IV S164 := by rw [eS164]; exact iv11_sI hI o_v0 (by decide) (nu_free (by decide))
                          have hI := hIn
                          have f0 := fr_I eS164 g0 f0 o_v0 (by decide)
                          have d_kv2 := rd_Ij eS164 (by decide) d_kv2
                          have d_x25 := rd_Ik eS164 o_v0 o_a3 (by decide) d_x25
                          have d_x51 := rd_Ik eS164 o_v0 o_a3 (by decide) d_x51
                          have d_x99 := rd_Ik eS164 o_v0 o_a3 (by decide) d_x99
                          obtain ⟨kv165, hkv165⟩ : ∃ z : Int32, z = (0 : Int32) := ⟨_, rfl⟩
                          have d_kv165 := rd_Is eS164 hkv165
                          have ea3 := rf_I eS164 ea3
                          have ea113 := rf_I eS164 ea113
                          have ea116 := rf_I eS164 ea116
                          have ea146 := rf_I eS164 ea146
                          have l_a113 := ln_I eS164 l_a113
                          have l_a116 := ln_I eS164 l_a116
                          have l_a146 := ln_I eS164 l_a146
                          have g0 := gr_I eS164 g0
                          have o_a113 := ob_I eS164 o_a113
                          have o_a116 := ob_I eS164 o_a116
                          have o_a146 := ob_I eS164 o_a146
                          have o_a3 := ob_I eS164 o_a3
                          have o_v0 := ob_I eS164 o_v0
                          intro S166 eS166
                          have hIn : IV S166 := by rw [eS166]; exact iv11_sI hI o_v0 (by decide) (nu_free (by decide))
                          have hI := hIn
                          have f0 := fr_I eS166 g0 f0 o_v0 (by decide)
                          have d_kv2 := rd_Ij eS166 (by decide) d_kv2
                          have d_x25 := rd_Ik eS166 o_v0 o_a3 (by decide) d_x25
                          have d_x51 := rd_Ik eS166 o_v0 o_a3 (by decide) d_x51
                          have d_x99 := rd_Ik eS166 o_v0 o_a3 (by decide) d_x99
                          have d_kv165 := rd_Ij eS166 (by decide) d_kv165
                          obtain ⟨kv167, hkv167⟩ : ∃ z : Int32, z = (-1 : Int32) := ⟨_, rfl⟩
                          have d_kv167 := rd_Is eS166 hkv167
                          have ea3 := rf_I eS166 ea3
                          have ea113 := rf_I eS166 ea113
                          have ea116 := rf_I eS166 ea116
                          have ea146 := rf_I eS166 ea146
                          have l_a113 := ln_I eS166 l_a113
                          have l_a116 := ln_I eS166 l_a116
                          have l_a146 := ln_I eS166 l_a146
                          have g0 := gr_I eS166 g0
                          have o_a113 := ob_I eS166 o_a113
                          have o_a116 := ob_I eS166 o_a116
                          have o_a146 := ob_I eS166 o_a146
                          have o_a3 := ob_I eS166 o_a3
                          have o_v0 := ob_I eS166 o_v0
                          intro _
                          exact hq _ _ hI g0 f0
