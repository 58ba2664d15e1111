set_option maxHeartbeats 4000000 in
set_option maxRecDepth 20000 in
theorem m_X7_trace {v0 : Nat} {v1 : Nat} {v2 : Int32} {v3 : Int32} {Q : Int32 → HS → Prop} {S : HS} (hI : IV S) (o_v0 : ob S v0 7) (o_v1 : ob S v1 8)     (hq : ∀ (r : Int32) (T : HS), IV T → Gr S T → FRI [] [] S T → Q r T) : P_X7_trace v0 v1 v2 v3 Q S := by
  have g0 := gr_rf S
  have f0 := fri_rf [] [] S
  refine u_X7_trace ?_
  refine u_X7_trace_0 ?_
  refine i_X7_trace_9 (fun (y0 : Nat) (y1 : Nat) (y4 : Int32) (y5 : Int32) (y6 : Int32) (Z : HS) => ((2147483647 : Int32).toInt - y6.toInt).toNat) (fun (y0 : Nat) (y1 : Nat) (y4 : Int32) (y5 : Int32) (y6 : Int32) (Z : HS) => (IV Z) ∧ (Gr S Z) ∧ (FRI [] [] S Z) ∧ (v0 = y0) ∧ (v1 = y1) ∧ (0 ≤ y6)) ?_ _ _ _ _ _ _ ⟨hI, (gr_rf _), (fri_rf _ _ _), rfl, rfl, (q82)⟩
  intro w4 w6 w8 w9 w10 S1 X11 ⟨hI, gL2, fL3, q5, q7, i1⟩ ih12
  subst q5
  subst q7
  have f0 := fri_tr (S := S) g0 f0 fL3 (by decide) (by decide)
  have o_v0 := gr_ob gL2 o_v0
  have o_v1 := gr_ob gL2 o_v1
  have g0 := gr_tr (T := S) g0 gL2
  refine u_X7_trace_9 ?_
  refine ⟨o_v0, ?_⟩
  obtain ⟨a13, ea13, o_a13, -⟩ := sh 21 rfl hI o_v0
  have hl_a13 := wyl hI o_v0 0 rfl (by decide) ea13
  refine ⟨a13, ea13, ?_⟩
  refine ⟨o_a13, ?_⟩
  refine ⟨fun c14 => ?_, fun c14 => ?_⟩
  · refine ⟨a13, ea13, ?_⟩
    refine ⟨o_a13, ?_⟩
    exact hq _ _ hI g0 f0
  · intro x16 ex16
    refine ⟨fun c17 => ?_, fun c17 => ?_⟩
    · refine u_X7_trace_55 ?_
      refine u_X7_trace_56 ?_
      refine ⟨fun c18 => ?_, fun c18 => ?_⟩
      · refine ⟨o_v0, ?_⟩
        refine ⟨a13, ea13, ?_⟩
        refine ⟨o_a13, ?_⟩
        have i20 : vp_in w10 (hN _ a13) := (vinL hl_a13 (q407 i1 c14 ex16 c17 c18))
        refine ⟨i20, ?_⟩
        intro S21 eS21
        have hI : IV S21 := by rw [eS21]; exact iv_aI hI o_v0 (by decide) ea13 o_a13 (by decide)
        have f0 := fr_A eS21 g0 f0 o_a13 (by decide)
        have fL3 := fr_A eS21 gL2 fL3 o_a13 (by decide)
        have ea13 := rf_I eS21 ea13
        have hl_a13 := hl_I eS21 hl_a13
        have g0 := gr_I eS21 g0
        have gL2 := gr_I eS21 gL2
        have o_a13 := ob_I eS21 o_a13
        have o_v0 := ob_I eS21 o_v0
        have o_v1 := ob_I eS21 o_v1
        refine ⟨fun c22 => ?_, fun c22 => ?_⟩
        · intro x23 ex23
          refine ⟨o_v1, ?_⟩
          refine m_X8_hasRoad hI o_v1 (fun x24 S25 hI2 g26 b_x24 p_x24 => ?_)
          obtain ⟨z_S25, p_x24⟩ := p_x24
          subst z_S25
          intro _ _
          have bb_x24 : x24 = 0 ∨ x24 = 1 := b_x24
          refine ⟨fun c28 => ?_, fun c28 => ?_⟩
          · refine u_X7_trace_143 ?_
            intro x29 ex29
            exact ih12 _ _ _ _ _ _ ⟨hI, gL2, fL3, rfl, rfl, (q408 i1 c14 ex16 c17 c18 c22 ex23 p_x24 bb_x24 c28 ex29)⟩ (mu_up (q409 i1 c14 ex16 c17 c18 c22 ex23 p_x24 bb_x24 c28 ex29) (q410 i1 c14 ex16 c17 c18 c22 ex23 p_x24 bb_x24 c28 ex29))
          · obtain ⟨a30, ea30, o_a30, l_a30⟩ := shl 17 rfl hI o_v1
            refine ⟨a30, ea30, ?_⟩
            intro x31 ex31
            refine ⟨o_a30, ?_⟩
            have i33 : vp_in x31 (hN _ a30) := (vin l_a30 (m := 12) (by decide) (q411 i1 c14 ex16 c17 c18 c22 ex23 p_x24 bb_x24 c28 ex31))
            obtain ⟨a32, ea32, o_a32⟩ := ae hI o_a30 (by decide) (by decide) i33
            replace o_a32 : ob _ a32 5 := o_a32
            refine ⟨i33, a32, ea32, ?_⟩
            intro x34 ex34
            intro x35 ex35
            refine ⟨o_a32, ?_⟩
            refine m_X5_endOf hI o_a32 (fun x36 S37 hI2 g38 p_x36 => ?_)
            subst p_x36
            intro _
            intro x40 ex40
            refine m_X5_minutesAt hI o_a32 (fun x41 S42 hI2 g43 p_x41 => ?_)
            subst p_x41
            intro _
            intro x45 ex45
            refine u_X7_trace_143 ?_
            intro x46 ex46
            exact ih12 _ _ _ _ _ _ ⟨hI, gL2, fL3, rfl, rfl, (q412 i1 c14 ex16 c17 c18 c22 ex23 p_x24 bb_x24 c28 ex45 ex46)⟩ (mu_up (q413 i1 c14 ex16 c17 c18 c22 ex23 p_x24 bb_x24 c28 ex45 ex46) (q414 i1 c14 ex16 c17 c18 c22 ex23 p_x24 bb_x24 c28 ex45 ex46))
        · intro x47 ex47
          refine u_X7_trace_143 ?_
          intro x48 ex48
          exact ih12 _ _ _ _ _ _ ⟨hI, gL2, fL3, rfl, rfl, (q415 i1 c14 ex16 c17 c18 c22 ex47 ex48)⟩ (mu_up (q416 i1 c14 ex16 c17 c18 c22 ex47 ex48) (q417 i1 c14 ex16 c17 c18 c22 ex47 ex48))
      · exact hq _ _ hI g0 f0
    · obtain ⟨a49, ea49, o_a49, -⟩ := sh 23 rfl hI o_v0
      have hl_a49 := wyl hI o_v0 2 rfl (by decide) ea49
      refine ⟨a49, ea49, ?_⟩
      refine ⟨o_a49, ?_⟩
      refine ⟨fun c50 => ?_, fun c50 => ?_⟩
      · refine u_X7_trace_55 ?_
        refine u_X7_trace_56 ?_
        refine ⟨fun c51 => ?_, fun c51 => ?_⟩
        · refine ⟨o_v0, ?_⟩
          refine ⟨a13, ea13, ?_⟩
          refine ⟨o_a13, ?_⟩
          have i53 : vp_in w10 (hN _ a13) := (vinL hl_a13 (q418 i1 c14 ex16 c17 c50 c51))
          refine ⟨i53, ?_⟩
          intro S54 eS54
          have hI : IV S54 := by rw [eS54]; exact iv_aI hI o_v0 (by decide) ea13 o_a13 (by decide)
          have f0 := fr_A eS54 g0 f0 o_a13 (by decide)
          have fL3 := fr_A eS54 gL2 fL3 o_a13 (by decide)
          have ea13 := rf_I eS54 ea13
          have ea49 := rf_I eS54 ea49
          have hl_a13 := hl_I eS54 hl_a13
          have hl_a49 := hl_I eS54 hl_a49
          have g0 := gr_I eS54 g0
          have gL2 := gr_I eS54 gL2
          have o_a13 := ob_I eS54 o_a13
          have o_a49 := ob_I eS54 o_a49
          have o_v0 := ob_I eS54 o_v0
          have o_v1 := ob_I eS54 o_v1
          refine ⟨fun c55 => ?_, fun c55 => ?_⟩
          · intro x56 ex56
            refine ⟨o_v1, ?_⟩
            refine m_X8_hasRoad hI o_v1 (fun x57 S58 hI2 g59 b_x57 p_x57 => ?_)
            obtain ⟨z_S58, p_x57⟩ := p_x57
            subst z_S58
            intro _ _
            have bb_x57 : x57 = 0 ∨ x57 = 1 := b_x57
            refine ⟨fun c61 => ?_, fun c61 => ?_⟩
            · refine u_X7_trace_143 ?_
              intro x62 ex62
              exact ih12 _ _ _ _ _ _ ⟨hI, gL2, fL3, rfl, rfl, (q419 i1 c14 ex16 c17 c50 c51 c55 ex56 p_x57 bb_x57 c61 ex62)⟩ (mu_up (q420 i1 c14 ex16 c17 c50 c51 c55 ex56 p_x57 bb_x57 c61 ex62) (q421 i1 c14 ex16 c17 c50 c51 c55 ex56 p_x57 bb_x57 c61 ex62))
            · obtain ⟨a63, ea63, o_a63, l_a63⟩ := shl 17 rfl hI o_v1
              refine ⟨a63, ea63, ?_⟩
              intro x64 ex64
              refine ⟨o_a63, ?_⟩
              have i66 : vp_in x64 (hN _ a63) := (vin l_a63 (m := 12) (by decide) (q422 i1 c14 ex16 c17 c50 c51 c55 ex56 p_x57 bb_x57 c61 ex64))
              obtain ⟨a65, ea65, o_a65⟩ := ae hI o_a63 (by decide) (by decide) i66
              replace o_a65 : ob _ a65 5 := o_a65
              refine ⟨i66, a65, ea65, ?_⟩
              intro x67 ex67
              intro x68 ex68
              refine ⟨o_a65, ?_⟩
              refine m_X5_endOf hI o_a65 (fun x69 S70 hI2 g71 p_x69 => ?_)
              subst p_x69
              intro _
              intro x73 ex73
              refine m_X5_minutesAt hI o_a65 (fun x74 S75 hI2 g76 p_x74 => ?_)
              subst p_x74
              intro _
              intro x78 ex78
              refine u_X7_trace_143 ?_
              intro x79 ex79
              exact ih12 _ _ _ _ _ _ ⟨hI, gL2, fL3, rfl, rfl, (q423 i1 c14 ex16 c17 c50 c51 c55 ex56 p_x57 bb_x57 c61 ex78 ex79)⟩ (mu_up (q424 i1 c14 ex16 c17 c50 c51 c55 ex56 p_x57 bb_x57 c61 ex78 ex79) (q425 i1 c14 ex16 c17 c50 c51 c55 ex56 p_x57 bb_x57 c61 ex78 ex79))
          · intro x80 ex80
            refine u_X7_trace_143 ?_
            intro x81 ex81
            exact ih12 _ _ _ _ _ _ ⟨hI, gL2, fL3, rfl, rfl, (q426 i1 c14 ex16 c17 c50 c51 c55 ex80 ex81)⟩ (mu_up (q427 i1 c14 ex16 c17 c50 c51 c55 ex80 ex81) (q428 i1 c14 ex16 c17 c50 c51 c55 ex80 ex81))
        · exact hq _ _ hI g0 f0
      · refine ⟨a49, ea49, ?_⟩
        refine ⟨o_a49, ?_⟩
        refine ⟨(vinL hl_a49 (q429 i1 c14 ex16 c17 c50)), ?_⟩
        intro x83 ex83
        refine u_X7_trace_56 ?_
        refine ⟨fun c84 => ?_, fun c84 => ?_⟩
        · refine ⟨o_v0, ?_⟩
          refine ⟨a13, ea13, ?_⟩
          refine ⟨o_a13, ?_⟩
          have i86 : vp_in w10 (hN _ a13) := (vinL hl_a13 (q430 i1 c14 ex16 c17 c50 c84))
          refine ⟨i86, ?_⟩
          intro S87 eS87
          have hI : IV S87 := by rw [eS87]; exact iv_aI hI o_v0 (by decide) ea13 o_a13 (by decide)
          have f0 := fr_A eS87 g0 f0 o_a13 (by decide)
          have fL3 := fr_A eS87 gL2 fL3 o_a13 (by decide)
          have ea13 := rf_I eS87 ea13
          have ea49 := rf_I eS87 ea49
          have hl_a13 := hl_I eS87 hl_a13
          have hl_a49 := hl_I eS87 hl_a49
          have g0 := gr_I eS87 g0
          have gL2 := gr_I eS87 gL2
          have o_a13 := ob_I eS87 o_a13
          have o_a49 := ob_I eS87 o_a49
          have o_v0 := ob_I eS87 o_v0
          have o_v1 := ob_I eS87 o_v1
          refine ⟨fun c88 => ?_, fun c88 => ?_⟩
          · intro x89 ex89
            refine ⟨o_v1, ?_⟩
            refine m_X8_hasRoad hI o_v1 (fun x90 S91 hI2 g92 b_x90 p_x90 => ?_)
            obtain ⟨z_S91, p_x90⟩ := p_x90
            subst z_S91
            intro _ _
            have bb_x90 : x90 = 0 ∨ x90 = 1 := b_x90
            refine ⟨fun c94 => ?_, fun c94 => ?_⟩
            · refine u_X7_trace_143 ?_
              intro x95 ex95
              exact ih12 _ _ _ _ _ _ ⟨hI, gL2, fL3, rfl, rfl, (q431 i1 c14 ex16 c17 c50 c84 c88 ex89 p_x90 bb_x90 c94 ex95)⟩ (mu_up (q432 i1 c14 ex16 c17 c50 c84 c88 ex89 p_x90 bb_x90 c94 ex95) (q433 i1 c14 ex16 c17 c50 c84 c88 ex89 p_x90 bb_x90 c94 ex95))
            · obtain ⟨a96, ea96, o_a96, l_a96⟩ := shl 17 rfl hI o_v1
              refine ⟨a96, ea96, ?_⟩
              intro x97 ex97
              refine ⟨o_a96, ?_⟩
              have i99 : vp_in x97 (hN _ a96) := (vin l_a96 (m := 12) (by decide) (q434 i1 c14 ex16 c17 c50 c84 c88 ex89 p_x90 bb_x90 c94 ex97))
              obtain ⟨a98, ea98, o_a98⟩ := ae hI o_a96 (by decide) (by decide) i99
              replace o_a98 : ob _ a98 5 := o_a98
              refine ⟨i99, a98, ea98, ?_⟩
              intro x100 ex100
              intro x101 ex101
              refine ⟨o_a98, ?_⟩
              refine m_X5_endOf hI o_a98 (fun x102 S103 hI2 g104 p_x102 => ?_)
              subst p_x102
              intro _
              intro x106 ex106
              refine m_X5_minutesAt hI o_a98 (fun x107 S108 hI2 g109 p_x107 => ?_)
              subst p_x107
              intro _
              intro x111 ex111
              refine u_X7_trace_143 ?_
              intro x112 ex112
              exact ih12 _ _ _ _ _ _ ⟨hI, gL2, fL3, rfl, rfl, (q435 i1 c14 ex16 c17 c50 c84 c88 ex89 p_x90 bb_x90 c94 ex97 ex100 ex101 ex106 ex111 ex112)⟩ (mu_up (q436 i1 c14 ex16 c17 c50 c84 c88 ex89 p_x90 bb_x90 c94 ex97 ex100 ex101 ex106 ex111 ex112) (q437 i1 c14 ex16 c17 c50 c84 c88 ex89 p_x90 bb_x90 c94 ex97 ex100 ex101 ex106 ex111 ex112))
          · intro x113 ex113
            refine u_X7_trace_143 ?_
            intro x114 ex114
            exact ih12 _ _ _ _ _ _ ⟨hI, gL2, fL3, rfl, rfl, (q438 i1 c14 ex16 c17 c50 c84 c88 ex113 ex114)⟩ (mu_up (q439 i1 c14 ex16 c17 c50 c84 c88 ex113 ex114) (q440 i1 c14 ex16 c17 c50 c84 c88 ex113 ex114))
        · exact hq _ _ hI g0 f0
set_option maxHeartbeats 4000000 in
set_option maxRecDepth 20000 in
theorem m_X9_grant {v0 : Nat} {v1 : Int32} {Q : Int32 → HS → Prop} {S : HS} (hI : IV S) (o_v0 : ob S v0 9)     (hq : ∀ (r : Int32) (T : HS), IV T → Gr S T → FRI [(9, 9)] [] S T → Q r T) : P_X9_grant v0 v1 Q S := by
  have g0 := gr_rf S
  have f0 := fri_rf [(9, 9)] [] S
  refine u_X9_grant ?_
  refine u_X9_grant_0 ?_
  refine ⟨o_v0, ?_⟩
  intro S1 eS1
  have hI : IV S1 := by rw [eS1]; exact iv_sI hI o_v0 (by decide) (nu_free (by decide))
  have f0 := fr_I eS1 g0 f0 o_v0 (by decide)
  obtain ⟨y2, hy2⟩ : ∃ z : Int32, z = (0 : Int32) := ⟨_, rfl⟩
  have d_y2 := rd_Is eS1 hy2
  have g0 := gr_I eS1 g0
  have o_v0 := ob_I eS1 o_v0
  exact hq _ _ hI g0 f0
set_option maxHeartbeats 4000000 in
set_option maxRecDepth 20000 in
theorem m_X9_isWay {v0 : Int32} {Q : Int32 → HS → Prop} {S : HS} (hI : IV S)      (hq : ∀ (r : Int32) (T : HS), IV T → Gr S T → bl r → (S = T) ∧ (r = 1 → 0 ≤ v0 ∧ v0 ≤ 1) → Q r T) : P_X9_isWay v0 Q S := by
  have g0 := gr_rf S
  refine u_X9_isWay ?_
  refine u_X9_isWay_0 ?_
  refine ⟨fun c1 => ?_, fun c1 => ?_⟩
  · exact hq _ _ hI g0 (Or.inr rfl) ⟨rfl, (q16 c1)⟩
  · refine ⟨fun c2 => ?_, fun c2 => ?_⟩
    · exact hq _ _ hI g0 (Or.inl rfl) ⟨rfl, (q17 c1 c2)⟩
    · exact hq _ _ hI g0 (Or.inr rfl) ⟨rfl, (q18 c1 c2)⟩
set_option maxHeartbeats 4000000 in
set_option maxRecDepth 20000 in
theorem m_X9_air {v0 : Nat} {v1 : Int32} {v2 : Int32} {v3 : Int32} {Q : Int32 → HS → Prop} {S : HS} (hI : IV S) (o_v0 : ob S v0 9)     (hq : ∀ (r : Int32) (T : HS), IV T → Gr S T → FRI [(9, 9)] [] S T → Q r T) : P_X9_air v0 v1 v2 v3 Q S := by
  have g0 := gr_rf S
  have f0 := fri_rf [(9, 9)] [] S
  refine u_X9_air ?_
  refine u_X9_air_0 ?_
  refine ⟨o_v0, ?_⟩
  obtain ⟨a1, ea1, o_a1, -⟩ := sh 1 rfl hI o_v0
  refine ⟨a1, ea1, ?_⟩
  refine ⟨o_a1, ?_⟩
  refine m_X8_hasRoad hI o_a1 (fun x2 S3 hI2 g4 b_x2 p_x2 => ?_)
  obtain ⟨z_S3, p_x2⟩ := p_x2
  subst z_S3
  intro _ _
  have bb_x2 : x2 = 0 ∨ x2 = 1 := b_x2
  refine ⟨fun c6 => ?_, fun c6 => ?_⟩
  · intro S7 eS7
    have hI : IV S7 := by rw [eS7]; exact iv_sI hI o_v0 (by decide) (nu_free (by decide))
    have f0 := fr_I eS7 g0 f0 o_v0 (by decide)
    obtain ⟨y8, hy8⟩ : ∃ z : Int32, z = (1 : Int32) := ⟨_, rfl⟩
    have d_y8 := rd_Is eS7 hy8
    have ea1 := rf_I eS7 ea1
    have g0 := gr_I eS7 g0
    have o_a1 := ob_I eS7 o_a1
    have o_v0 := ob_I eS7 o_v0
    exact hq _ _ hI g0 f0
  · refine m_X9_isWay hI (fun x9 S10 hI2 g11 b_x9 p_x9 => ?_)
    obtain ⟨z_S10, p_x9⟩ := p_x9
    subst z_S10
    intro _ _
    have bb_x9 : x9 = 0 ∨ x9 = 1 := b_x9
    refine ⟨fun c13 => ?_, fun c13 => ?_⟩
    · intro S14 eS14
      have hI : IV S14 := by rw [eS14]; exact iv_sI hI o_v0 (by decide) (nu_free (by decide))
      have f0 := fr_I eS14 g0 f0 o_v0 (by decide)
      obtain ⟨y15, hy15⟩ : ∃ z : Int32, z = (1 : Int32) := ⟨_, rfl⟩
      have d_y15 := rd_Is eS14 hy15
      have ea1 := rf_I eS14 ea1
      have g0 := gr_I eS14 g0
      have o_a1 := ob_I eS14 o_a1
      have o_v0 := ob_I eS14 o_v0
      exact hq _ _ hI g0 f0
    · refine ⟨a1, ea1, ?_⟩
      refine ⟨o_a1, ?_⟩
      refine m_X8_hasHour hI o_a1 (fun x17 S18 hI2 g19 b_x17 p_x17 => ?_)
      obtain ⟨z_S18, p_x17⟩ := p_x17
      subst z_S18
      intro _ _
      have bb_x17 : x17 = 0 ∨ x17 = 1 := b_x17
      refine ⟨fun c21 => ?_, fun c21 => ?_⟩
      · refine ⟨a1, ea1, ?_⟩
        refine ⟨o_a1, ?_⟩
        obtain ⟨a23, ea23, o_a23, l_a23⟩ := shl 17 rfl hI o_a1
        refine ⟨a23, ea23, ?_⟩
        refine ⟨o_a23, ?_⟩
        have i25 : vp_in v1 (hN _ a23) := (vin l_a23 (m := 12) (by decide) (q775 p_x2 bb_x2 c6 p_x9 bb_x9 c13 p_x17 bb_x17 c21))
        obtain ⟨a24, ea24, o_a24⟩ := ae hI o_a23 (by decide) (by decide) i25
        replace o_a24 : ob _ a24 5 := o_a24
        refine ⟨i25, a24, ea24, ?_⟩
        refine ⟨a1, ea1, ?_⟩
        refine ⟨o_a1, ?_⟩
        obtain ⟨a27, ea27, o_a27, l_a27⟩ := shl 15 rfl hI o_a1
        refine ⟨a27, ea27, ?_⟩
        refine ⟨o_a27, ?_⟩
        have i29 : vp_in v3 (hN _ a27) := (vin l_a27 (m := 6) (by decide) (q776 p_x2 bb_x2 c6 p_x9 bb_x9 c13 p_x17 bb_x17 c21))
        obtain ⟨a28, ea28, o_a28⟩ := ae hI o_a27 (by decide) (by decide) i29
        replace o_a28 : ob _ a28 3 := o_a28
        refine ⟨i29, a28, ea28, ?_⟩
        refine ⟨o_a24, ?_⟩
        refine m_X5_airAlong hI o_a24 o_a28 (fun x30 S31 hI2 g32 p_x30 => ?_)
        subst p_x30
        intro _
        refine u_X9_grant ?_
        refine u_X9_grant_0 ?_
        refine ⟨o_v0, ?_⟩
        intro S34 eS34
        have hI : IV S34 := by rw [eS34]; exact iv_sI hI o_v0 (by decide) (nu_free (by decide))
        have f0 := fr_I eS34 g0 f0 o_v0 (by decide)
        obtain ⟨y35, hy35⟩ : ∃ z : Int32, z = (0 : Int32) := ⟨_, rfl⟩
        have d_y35 := rd_Is eS34 hy35
        have ea1 := rf_I eS34 ea1
        have ea23 := rf_I eS34 ea23
        have ea27 := rf_I eS34 ea27
        have l_a23 := ln_I eS34 l_a23
        have l_a27 := ln_I eS34 l_a27
        have g0 := gr_I eS34 g0
        have o_a1 := ob_I eS34 o_a1
        have o_a23 := ob_I eS34 o_a23
        have o_a24 := ob_I eS34 o_a24
        have o_a27 := ob_I eS34 o_a27
        have o_a28 := ob_I eS34 o_a28
        have o_v0 := ob_I eS34 o_v0
        intro _
        exact hq _ _ hI g0 f0
      · intro S37 eS37
        have hI : IV S37 := by rw [eS37]; exact iv_sI hI o_v0 (by decide) (nu_free (by decide))
        have f0 := fr_I eS37 g0 f0 o_v0 (by decide)
        obtain ⟨y38, hy38⟩ : ∃ z : Int32, z = (1 : Int32) := ⟨_, rfl⟩
        have d_y38 := rd_Is eS37 hy38
        have ea1 := rf_I eS37 ea1
        have g0 := gr_I eS37 g0
        have o_a1 := ob_I eS37 o_a1
        have o_v0 := ob_I eS37 o_v0
        exact hq _ _ hI g0 f0
set_option maxHeartbeats 4000000 in
set_option maxRecDepth 20000 in
theorem m_X9_refusedBy {v0 : Nat} {v1 : Int32} {Q : Int32 → HS → Prop} {S : HS} (hI : IV S) (o_v0 : ob S v0 9)     (hq : ∀ (r : Int32) (T : HS), IV T → Gr S T → FRI [(9, 9)] [] S T → bl r → Q r T) : P_X9_refusedBy v0 v1 Q S := by
  have g0 := gr_rf S
  have f0 := fri_rf [(9, 9)] [] S
  refine u_X9_refusedBy ?_
  refine u_X9_refusedBy_0 ?_
  refine ⟨o_v0, ?_⟩
  intro S1 eS1
  have hI : IV S1 := by rw [eS1]; exact iv_sI hI o_v0 (by decide) (nu_free (by decide))
  have f0 := fr_I eS1 g0 f0 o_v0 (by decide)
  have d_v1 := rd_Is eS1 (rfl : v1 = v1)
  have g0 := gr_I eS1 g0
  have o_v0 := ob_I eS1 o_v0
  refine ⟨fun c2 => ?_, fun c2 => ?_⟩
  · exact hq _ _ hI g0 f0 (Or.inl rfl)
  · exact hq _ _ hI g0 f0 (Or.inr rfl)
set_option maxHeartbeats 4000000 in
set_option maxRecDepth 20000 in
theorem m_X9_back {v0 : Nat} {v1 : Int32} {Q : Int32 → HS → Prop} {S : HS} (hI : IV S) (o_v0 : ob S v0 9)     (hq : ∀ (r : Int32) (T : HS), IV T → Gr S T → FRI [(0, 2), (2, 0), (2, 1), (9, 9)] [] S T → bl r → Q r T) : P_X9_back v0 v1 Q S := by
  have g0 := gr_rf S
  have f0 := fri_rf [(0, 2), (2, 0), (2, 1), (9, 9)] [] S
  refine u_X9_back ?_
  refine u_X9_back_0 ?_
  refine ⟨o_v0, ?_⟩
  obtain ⟨a1, ea1, o_a1, -⟩ := sh 5 rfl hI o_v0
  refine ⟨a1, ea1, ?_⟩
  refine ⟨o_a1, ?_⟩
  refine m_X0_returnTo hI o_a1 (fun x2 S3 hI g4 fc5 b_x2 => ?_)
  have ea1 := (frr_at fc5 (by decide) (by decide) o_v0).trans ea1
  have f0 := fri_tr (S := S) g0 f0 fc5 (by decide) (by decide)
  have o_a1 := gr_ob g4 o_a1
  have o_v0 := gr_ob g4 o_v0
  have g0 := gr_tr (T := S) g0 g4
  intro _ _
  have bb_x2 : x2 = 0 ∨ x2 = 1 := b_x2
  refine ⟨fun c6 => ?_, fun c6 => ?_⟩
  · refine u_X9_back_17 ?_
    refine ⟨o_v0, ?_⟩
    refine u_X9_refusedBy ?_
    refine u_X9_refusedBy_0 ?_
    refine ⟨o_v0, ?_⟩
    intro S7 eS7
    have hI : IV S7 := by rw [eS7]; exact iv_sI hI o_v0 (by decide) (nu_free (by decide))
    have f0 := fr_I eS7 g0 f0 o_v0 (by decide)
    obtain ⟨y8, hy8⟩ : ∃ z : Int32, z = (1 : Int32) := ⟨_, rfl⟩
    have d_y8 := rd_Is eS7 hy8
    have ea1 := rf_I eS7 ea1
    have g0 := gr_I eS7 g0
    have o_a1 := ob_I eS7 o_a1
    have o_v0 := ob_I eS7 o_v0
    refine ⟨fun c9 => ?_, fun c9 => ?_⟩
    · intro _ _
      refine ⟨fun c11 => ?_, fun c11 => ?_⟩
      · exact hq _ _ hI g0 f0 (Or.inl rfl)
      · exact hq _ _ hI g0 f0 (Or.inr rfl)
    · intro _ _
      refine ⟨fun c13 => ?_, fun c13 => ?_⟩
      · exact hq _ _ hI g0 f0 (Or.inl rfl)
      · exact hq _ _ hI g0 f0 (Or.inr rfl)
  · refine u_X9_back_17 ?_
    refine ⟨o_v0, ?_⟩
    refine u_X9_refusedBy ?_
    refine u_X9_refusedBy_0 ?_
    refine ⟨o_v0, ?_⟩
    intro S14 eS14
    have hI : IV S14 := by rw [eS14]; exact iv_sI hI o_v0 (by decide) (nu_free (by decide))
    have f0 := fr_I eS14 g0 f0 o_v0 (by decide)
    obtain ⟨y15, hy15⟩ : ∃ z : Int32, z = (0 : Int32) := ⟨_, rfl⟩
    have d_y15 := rd_Is eS14 hy15
    have ea1 := rf_I eS14 ea1
    have g0 := gr_I eS14 g0
    have o_a1 := ob_I eS14 o_a1
    have o_v0 := ob_I eS14 o_v0
    refine ⟨fun c16 => ?_, fun c16 => ?_⟩
    · intro _ _
      refine ⟨fun c18 => ?_, fun c18 => ?_⟩
      · exact hq _ _ hI g0 f0 (Or.inl rfl)
      · exact hq _ _ hI g0 f0 (Or.inr rfl)
    · intro _ _
      refine ⟨fun c20 => ?_, fun c20 => ?_⟩
      · exact hq _ _ hI g0 f0 (Or.inl rfl)
      · exact hq _ _ hI g0 f0 (Or.inr rfl)
set_option maxHeartbeats 4000000 in
set_option maxRecDepth 20000 in
theorem m_X9_tripTrouble {v0 : Nat} {v1 : Int32} {v2 : Int32} {v3 : Int32} {v4 : Int32} {Q : Int32 → HS → Prop} {S : HS} (hI : IV S) (o_v0 : ob S v0 9)     (hq : ∀ (r : Int32) (T : HS), IV T → Gr S T → (S = T) ∧ (r = 0 → 0 ≤ v1 ∧ v1 < 4 ∧ 0 ≤ v2 ∧ v2 < 12 ∧ 0 ≤ v4 ∧ v4 < 6) → Q r T) : P_X9_tripTrouble v0 v1 v2 v3 v4 Q S := by
  have g0 := gr_rf S
  refine u_X9_tripTrouble ?_
  refine u_X9_tripTrouble_0 ?_
  refine ⟨o_v0, ?_⟩
  obtain ⟨a1, ea1, o_a1, -⟩ := sh 1 rfl hI o_v0
  refine ⟨a1, ea1, ?_⟩
  refine ⟨o_a1, ?_⟩
  refine m_X8_hasWalker hI o_a1 (fun x2 S3 hI2 g4 b_x2 p_x2 => ?_)
  obtain ⟨z_S3, p_x2⟩ := p_x2
  subst z_S3
  intro _ _
  have bb_x2 : x2 = 0 ∨ x2 = 1 := b_x2
  refine ⟨fun c6 => ?_, fun c6 => ?_⟩
  · refine u_X9_tripTrouble_45 ?_
    refine u_X9_tripTrouble_46 ?_
    refine ⟨fun c7 => ?_, fun c7 => ?_⟩
    · exact hq _ _ hI g0 ⟨rfl, (q6 p_x2 bb_x2 c6)⟩
    · exact hq _ _ hI g0 ⟨rfl, (q7 p_x2 bb_x2 c6 c7)⟩
  · refine ⟨a1, ea1, ?_⟩
    refine ⟨o_a1, ?_⟩
    refine m_X8_hasRoad hI o_a1 (fun x9 S10 hI2 g11 b_x9 p_x9 => ?_)
    obtain ⟨z_S10, p_x9⟩ := p_x9
    subst z_S10
    intro _ _
    have bb_x9 : x9 = 0 ∨ x9 = 1 := b_x9
    refine ⟨fun c13 => ?_, fun c13 => ?_⟩
    · refine u_X9_tripTrouble_45 ?_
      refine u_X9_tripTrouble_46 ?_
      refine ⟨fun c14 => ?_, fun c14 => ?_⟩
      · exact hq _ _ hI g0 ⟨rfl, (q8 p_x2 bb_x2 c6 p_x9 bb_x9 c13)⟩
      · exact hq _ _ hI g0 ⟨rfl, (q9 p_x2 bb_x2 c6 p_x9 bb_x9 c13 c14)⟩
    · refine m_X9_isWay hI (fun x15 S16 hI2 g17 b_x15 p_x15 => ?_)
      obtain ⟨z_S16, p_x15⟩ := p_x15
      subst z_S16
      intro _ _
      have bb_x15 : x15 = 0 ∨ x15 = 1 := b_x15
      refine ⟨fun c19 => ?_, fun c19 => ?_⟩
      · refine u_X9_tripTrouble_45 ?_
        refine u_X9_tripTrouble_46 ?_
        refine ⟨fun c20 => ?_, fun c20 => ?_⟩
        · exact hq _ _ hI g0 ⟨rfl, (q10 p_x2 bb_x2 c6 p_x9 bb_x9 c13 p_x15 bb_x15 c19)⟩
        · exact hq _ _ hI g0 ⟨rfl, (q11 p_x2 bb_x2 c6 p_x9 bb_x9 c13 p_x15 bb_x15 c19 c20)⟩
      · refine ⟨a1, ea1, ?_⟩
        refine ⟨o_a1, ?_⟩
        refine m_X8_hasHour hI o_a1 (fun x22 S23 hI2 g24 b_x22 p_x22 => ?_)
        obtain ⟨z_S23, p_x22⟩ := p_x22
        subst z_S23
        intro _ _
        have bb_x22 : x22 = 0 ∨ x22 = 1 := b_x22
        refine ⟨fun c26 => ?_, fun c26 => ?_⟩
        · refine u_X9_tripTrouble_45 ?_
          refine u_X9_tripTrouble_46 ?_
          refine ⟨fun c27 => ?_, fun c27 => ?_⟩
          · exact hq _ _ hI g0 ⟨rfl, (q12 p_x2 bb_x2 c6 p_x9 bb_x9 c13 p_x15 bb_x15 c19 p_x22 bb_x22 c26)⟩
          · exact hq _ _ hI g0 ⟨rfl, (q13 p_x2 bb_x2 c6 p_x9 bb_x9 c13 p_x15 bb_x15 c19 p_x22 bb_x22 c26 c27)⟩
        · refine u_X9_tripTrouble_46 ?_
          refine ⟨fun c28 => ?_, fun c28 => ?_⟩
          · exact hq _ _ hI g0 ⟨rfl, (q14 p_x2 bb_x2 c6 p_x9 bb_x9 c13 p_x15 bb_x15 c19 p_x22 bb_x22 c26 c28)⟩
          · exact hq _ _ hI g0 ⟨rfl, (q15 p_x2 bb_x2 c6 p_x9 bb_x9 c13 p_x15 bb_x15 c19 p_x22 bb_x22 c26)⟩
set_option maxHeartbeats 4000000 in
set_option maxRecDepth 20000 in
theorem m_X9_best {v0 : Nat} {v1 : Int32} {v2 : Int32} {v3 : Int32} {v4 : Int32} {Q : Int32 → HS → Prop} {S : HS} (hI : IV S) (o_v0 : ob S v0 9)     (hq : ∀ (r : Int32) (T : HS), IV T → Gr S T → FRI [(9, 9)] [] S T → Q r T) : P_X9_best v0 v1 v2 v3 v4 Q S := by
  have g0 := gr_rf S
  have f0 := fri_rf [(9, 9)] [] S
  refine u_X9_best ?_
  refine u_X9_best_0 ?_
  refine ⟨o_v0, ?_⟩
  refine m_X9_tripTrouble hI o_v0 (fun x1 S2 hI2 g3 p_x1 => ?_)
  obtain ⟨z_S2, p_x1⟩ := p_x1
  subst z_S2
  intro _
  refine u_X9_refusedBy ?_
  refine u_X9_refusedBy_0 ?_
  refine ⟨o_v0, ?_⟩
  intro S5 eS5
  have hI : IV S5 := by rw [eS5]; exact iv_sI hI o_v0 (by decide) (nu_free (by decide))
  have f0 := fr_I eS5 g0 f0 o_v0 (by decide)
  have d_x1 := rd_Is eS5 (rfl : x1 = x1)
  have g0 := gr_I eS5 g0
  have o_v0 := ob_I eS5 o_v0
  refine ⟨fun c6 => ?_, fun c6 => ?_⟩
  · intro _ _
    refine ⟨fun c8 => ?_, fun c8 => ?_⟩
    · obtain ⟨a9, ea9, o_a9, -⟩ := sh 3 rfl hI o_v0
      refine ⟨a9, ea9, ?_⟩
      obtain ⟨a10, ea10, o_a10, -⟩ := sh 1 rfl hI o_v0
      refine ⟨a10, ea10, ?_⟩
      refine ⟨o_a10, ?_⟩
      obtain ⟨a11, ea11, o_a11, l_a11⟩ := shl 18 rfl hI o_a10
      refine ⟨a11, ea11, ?_⟩
      refine ⟨o_a11, ?_⟩
      have i13 : vp_in v1 (hN _ a11) := (vin l_a11 (m := 4) (by decide) (q0 p_x1 c6))
      obtain ⟨a12, ea12, o_a12⟩ := ae hI o_a11 (by decide) (by decide) i13
      replace o_a12 : ob _ a12 6 := o_a12
      refine ⟨i13, a12, ea12, ?_⟩
      refine ⟨a10, ea10, ?_⟩
      refine ⟨o_a10, ?_⟩
      obtain ⟨a15, ea15, o_a15, l_a15⟩ := shl 17 rfl hI o_a10
      refine ⟨a15, ea15, ?_⟩
      refine ⟨o_a15, ?_⟩
      have i17 : vp_in v2 (hN _ a15) := (vin l_a15 (m := 12) (by decide) (q1 p_x1 c6))
      obtain ⟨a16, ea16, o_a16⟩ := ae hI o_a15 (by decide) (by decide) i17
      replace o_a16 : ob _ a16 5 := o_a16
      refine ⟨i17, a16, ea16, ?_⟩
      refine ⟨a10, ea10, ?_⟩
      refine ⟨o_a10, ?_⟩
      obtain ⟨a19, ea19, o_a19, l_a19⟩ := shl 15 rfl hI o_a10
      refine ⟨a19, ea19, ?_⟩
      refine ⟨o_a19, ?_⟩
      have i21 : vp_in v4 (hN _ a19) := (vin l_a19 (m := 6) (by decide) (q2 p_x1 c6))
      obtain ⟨a20, ea20, o_a20⟩ := ae hI o_a19 (by decide) (by decide) i21
      replace o_a20 : ob _ a20 3 := o_a20
      refine ⟨i21, a20, ea20, ?_⟩
      refine ⟨o_a9, ?_⟩
      refine m_X1_bestSpeed hI o_a9 o_a12 o_a16 o_a20 (fun x22 S23 hI g24 fc25 => ?_)
      have l_a11 := (gr_len g24 o_a11).trans l_a11
      have l_a15 := (gr_len g24 o_a15).trans l_a15
      have l_a19 := (gr_len g24 o_a19).trans l_a19
      have d_x1 := d_x1.trans (fri_at fc25 (by decide) (by decide) o_v0).symm
      have ea9 := (frr_at fc25 (by decide) (by decide) o_v0).trans ea9
      have ea10 := (frr_at fc25 (by decide) (by decide) o_v0).trans ea10
      have ea11 := (frr_at fc25 (by decide) (by decide) o_a10).trans ea11
      have ea15 := (frr_at fc25 (by decide) (by decide) o_a10).trans ea15
      have ea19 := (frr_at fc25 (by decide) (by decide) o_a10).trans ea19
      have f0 := fri_tr (S := S5) g0 f0 fc25 (by decide) (by decide)
      have o_a10 := gr_ob g24 o_a10
      have o_a11 := gr_ob g24 o_a11
      have o_a12 := gr_ob g24 o_a12
      have o_a15 := gr_ob g24 o_a15
      have o_a16 := gr_ob g24 o_a16
      have o_a19 := gr_ob g24 o_a19
      have o_a20 := gr_ob g24 o_a20
      have o_a9 := gr_ob g24 o_a9
      have o_v0 := gr_ob g24 o_v0
      have g0 := gr_tr (T := S5) g0 g24
      intro _
      exact hq _ _ hI g0 f0
    · exact hq _ _ hI g0 f0
  · intro _ _
    refine ⟨fun c27 => ?_, fun c27 => ?_⟩
    · obtain ⟨a28, ea28, o_a28, -⟩ := sh 3 rfl hI o_v0
      refine ⟨a28, ea28, ?_⟩
      obtain ⟨a29, ea29, o_a29, -⟩ := sh 1 rfl hI o_v0
      refine ⟨a29, ea29, ?_⟩
      refine ⟨o_a29, ?_⟩
      obtain ⟨a30, ea30, o_a30, l_a30⟩ := shl 18 rfl hI o_a29
      refine ⟨a30, ea30, ?_⟩
      refine ⟨o_a30, ?_⟩
      have i32 : vp_in v1 (hN _ a30) := (vin l_a30 (m := 4) (by decide) (q3 p_x1 c6 c27))
      obtain ⟨a31, ea31, o_a31⟩ := ae hI o_a30 (by decide) (by decide) i32
      replace o_a31 : ob _ a31 6 := o_a31
      refine ⟨i32, a31, ea31, ?_⟩
      refine ⟨a29, ea29, ?_⟩
      refine ⟨o_a29, ?_⟩
      obtain ⟨a34, ea34, o_a34, l_a34⟩ := shl 17 rfl hI o_a29
      refine ⟨a34, ea34, ?_⟩
      refine ⟨o_a34, ?_⟩
      have i36 : vp_in v2 (hN _ a34) := (vin l_a34 (m := 12) (by decide) (q4 p_x1 c6 c27))
      obtain ⟨a35, ea35, o_a35⟩ := ae hI o_a34 (by decide) (by decide) i36
      replace o_a35 : ob _ a35 5 := o_a35
      refine ⟨i36, a35, ea35, ?_⟩
      refine ⟨a29, ea29, ?_⟩
      refine ⟨o_a29, ?_⟩
      obtain ⟨a38, ea38, o_a38, l_a38⟩ := shl 15 rfl hI o_a29
      refine ⟨a38, ea38, ?_⟩
      refine ⟨o_a38, ?_⟩
      have i40 : vp_in v4 (hN _ a38) := (vin l_a38 (m := 6) (by decide) (q5 p_x1 c6 c27))
      obtain ⟨a39, ea39, o_a39⟩ := ae hI o_a38 (by decide) (by decide) i40
      replace o_a39 : ob _ a39 3 := o_a39
      refine ⟨i40, a39, ea39, ?_⟩
      refine ⟨o_a28, ?_⟩
      refine m_X1_bestSpeed hI o_a28 o_a31 o_a35 o_a39 (fun x41 S42 hI g43 fc44 => ?_)
      have l_a30 := (gr_len g43 o_a30).trans l_a30
      have l_a34 := (gr_len g43 o_a34).trans l_a34
      have l_a38 := (gr_len g43 o_a38).trans l_a38
      have d_x1 := d_x1.trans (fri_at fc44 (by decide) (by decide) o_v0).symm
      have ea28 := (frr_at fc44 (by decide) (by decide) o_v0).trans ea28
      have ea29 := (frr_at fc44 (by decide) (by decide) o_v0).trans ea29
      have ea30 := (frr_at fc44 (by decide) (by decide) o_a29).trans ea30
      have ea34 := (frr_at fc44 (by decide) (by decide) o_a29).trans ea34
      have ea38 := (frr_at fc44 (by decide) (by decide) o_a29).trans ea38
      have f0 := fri_tr (S := S5) g0 f0 fc44 (by decide) (by decide)
      have o_a28 := gr_ob g43 o_a28
      have o_a29 := gr_ob g43 o_a29
      have o_a30 := gr_ob g43 o_a30
      have o_a31 := gr_ob g43 o_a31
      have o_a34 := gr_ob g43 o_a34
      have o_a35 := gr_ob g43 o_a35
      have o_a38 := gr_ob g43 o_a38
      have o_a39 := gr_ob g43 o_a39
      have o_v0 := gr_ob g43 o_v0
      have g0 := gr_tr (T := S5) g0 g43
      intro _
      exact hq _ _ hI g0 f0
    · exact hq _ _ hI g0 f0
set_option maxHeartbeats 4000000 in
set_option maxRecDepth 20000 in
theorem m_X9_coatParts {v0 : Nat} {Q : Int64 → HS → Prop} {S : HS} (hI : IV S) (o_v0 : ob S v0 6)     (hq : ∀ (r : Int64) (T : HS), IV T → Gr S T → (S = T) → Q r T) : P_X9_coatParts v0 Q S := by
  have g0 := gr_rf S
  refine u_X9_coatParts ?_
  refine u_X9_coatParts_0 ?_
  refine ⟨o_v0, ?_⟩
  intro x1 ex1
  have d_x1 := ex1
  refine ⟨fun c2 => ?_, fun c2 => ?_⟩
  · exact hq _ _ hI g0 rfl
  · intro x3 ex3
    have d_x3 := ex3
    exact hq _ _ hI g0 rfl
set_option maxHeartbeats 4000000 in
set_option maxRecDepth 20000 in
theorem m_X9_commonDivisor {v0 : Int64} {v2 : Int64} {Q : Int64 → HS → Prop} {S : HS} (hI : IV S)      (hq : ∀ (r : Int64) (T : HS), IV T → Gr S T → (S = T) → Q r T) : P_X9_commonDivisor v0 v2 Q S := by
  have g0 := gr_rf S
  refine u_X9_commonDivisor ?_
  refine u_X9_commonDivisor_0 ?_
  refine i_X9_commonDivisor_9 (fun (y4 : Int64) (y6 : Int64) (y8 : Int32) (Z : HS) => ((2147483647 : Int32).toInt - y8.toInt).toNat) (fun (y4 : Int64) (y6 : Int64) (y8 : Int32) (Z : HS) => (S = Z) ∧ (0 ≤ y8)) ?_ _ _ _ _ ⟨rfl, (q82)⟩
  intro w4 w5 w6 S1 X7 ⟨eS1, i1⟩ ih8
  subst eS1
  refine u_X9_commonDivisor_9 ?_
  refine ⟨fun c9 => ?_, fun c9 => ?_⟩
  · exact hq _ _ hI g0 rfl
  · refine ⟨fun c10 => ?_, fun c10 => ?_⟩
    · exact hq _ _ hI g0 rfl
    · refine ⟨(lc_ne c10), ?_⟩
      intro x11 ex11
      intro x12 ex12
      exact ih8 _ _ _ _ ⟨rfl, (q83 i1 c9 c10 ex12)⟩ (mu_up (q84 i1 c9 c10 ex12) (q85 i1 c9 c10 ex12))
set_option maxHeartbeats 4000000 in
set_option maxRecDepth 20000 in
theorem m_X9_refuse {v0 : Nat} {v1 : Int32} {Q : Int32 → HS → Prop} {S : HS} (hI : IV S) (o_v0 : ob S v0 9)     (hq : ∀ (r : Int32) (T : HS), IV T → Gr S T → FRI [(9, 9)] [] S T → Q r T) : P_X9_refuse v0 v1 Q S := by
  have g0 := gr_rf S
  have f0 := fri_rf [(9, 9)] [] S
  refine u_X9_refuse ?_
  refine u_X9_refuse_0 ?_
  refine ⟨o_v0, ?_⟩
  intro S1 eS1
  have hI : IV S1 := by rw [eS1]; exact iv_sI hI o_v0 (by decide) (nu_free (by decide))
  have f0 := fr_I eS1 g0 f0 o_v0 (by decide)
  have d_v1 := rd_Is eS1 (rfl : v1 = v1)
  have g0 := gr_I eS1 g0
  have o_v0 := ob_I eS1 o_v0
  exact hq _ _ hI g0 f0
set_option maxHeartbeats 4000000 in
set_option maxRecDepth 20000 in
theorem m_X9_day {v0 : Nat} {v1 : Int32} {v2 : Int32} {v3 : Int32} {v4 : Int32} {Q : Int32 → HS → Prop} {S : HS} (hI : IV S) (o_v0 : ob S v0 9)     (hq : ∀ (r : Int32) (T : HS), IV T → Gr S T → FRI [(0, 0), (0, 1), (0, 2), (0, 3), (2, 0), (2, 1), (9, 9)] [] S T → Q r T) : P_X9_day v0 v1 v2 v3 v4 Q S := by
  have g0 := gr_rf S
  have f0 := fri_rf [(0, 0), (0, 1), (0, 2), (0, 3), (2, 0), (2, 1), (9, 9)] [] S
  refine u_X9_day ?_
  refine u_X9_day_0 ?_
  refine ⟨o_v0, ?_⟩
  obtain ⟨a1, ea1, o_a1, -⟩ := sh 1 rfl hI o_v0
  refine ⟨a1, ea1, ?_⟩
  refine ⟨o_a1, ?_⟩
  refine m_X8_hasWalker hI o_a1 (fun x2 S3 hI2 g4 b_x2 p_x2 => ?_)
  obtain ⟨z_S3, p_x2⟩ := p_x2
  subst z_S3
  intro _ _
  have bb_x2 : x2 = 0 ∨ x2 = 1 := b_x2
  refine ⟨fun c6 => ?_, fun c6 => ?_⟩
  · refine u_X9_day_22 ?_
    refine ⟨o_v0, ?_⟩
    refine u_X9_refuse ?_
    refine u_X9_refuse_0 ?_
    refine ⟨o_v0, ?_⟩
    intro S7 eS7
    have hI : IV S7 := by rw [eS7]; exact iv_sI hI o_v0 (by decide) (nu_free (by decide))
    have f0 := fr_I eS7 g0 f0 o_v0 (by decide)
    obtain ⟨y8, hy8⟩ : ∃ z : Int32, z = (1 : Int32) := ⟨_, rfl⟩
    have d_y8 := rd_Is eS7 hy8
    have ea1 := rf_I eS7 ea1
    have g0 := gr_I eS7 g0
    have o_a1 := ob_I eS7 o_a1
    have o_v0 := ob_I eS7 o_v0
    intro _
    exact hq _ _ hI g0 f0
  · refine ⟨a1, ea1, ?_⟩
    refine ⟨o_a1, ?_⟩
    refine m_X8_hasPlace hI o_a1 (fun x11 S12 hI2 g13 b_x11 p_x11 => ?_)
    obtain ⟨z_S12, p_x11⟩ := p_x11
    subst z_S12
    intro _ _
    have bb_x11 : x11 = 0 ∨ x11 = 1 := b_x11
    refine ⟨fun c15 => ?_, fun c15 => ?_⟩
    · refine ⟨fun c16 => ?_, fun c16 => ?_⟩
      · refine u_X9_day_52 ?_
        refine ⟨o_v0, ?_⟩
        refine u_X9_refuse ?_
        refine u_X9_refuse_0 ?_
        refine ⟨o_v0, ?_⟩
        intro S17 eS17
        have hI : IV S17 := by rw [eS17]; exact iv_sI hI o_v0 (by decide) (nu_free (by decide))
        have f0 := fr_I eS17 g0 f0 o_v0 (by decide)
        obtain ⟨y18, hy18⟩ : ∃ z : Int32, z = (2 : Int32) := ⟨_, rfl⟩
        have d_y18 := rd_Is eS17 hy18
        have ea1 := rf_I eS17 ea1
        have g0 := gr_I eS17 g0
        have o_a1 := ob_I eS17 o_a1
        have o_v0 := ob_I eS17 o_v0
        intro _
        exact hq _ _ hI g0 f0
      · refine ⟨fun c20 => ?_, fun c20 => ?_⟩
        · refine u_X9_day_52 ?_
          refine ⟨o_v0, ?_⟩
          refine u_X9_refuse ?_
          refine u_X9_refuse_0 ?_
          refine ⟨o_v0, ?_⟩
          intro S21 eS21
          have hI : IV S21 := by rw [eS21]; exact iv_sI hI o_v0 (by decide) (nu_free (by decide))
          have f0 := fr_I eS21 g0 f0 o_v0 (by decide)
          obtain ⟨y22, hy22⟩ : ∃ z : Int32, z = (2 : Int32) := ⟨_, rfl⟩
          have d_y22 := rd_Is eS21 hy22
          have ea1 := rf_I eS21 ea1
          have g0 := gr_I eS21 g0
          have o_a1 := ob_I eS21 o_a1
          have o_v0 := ob_I eS21 o_v0
          intro _
          exact hq _ _ hI g0 f0
        · refine ⟨fun c24 => ?_, fun c24 => ?_⟩
          · refine u_X9_day_52 ?_
            refine ⟨o_v0, ?_⟩
            refine u_X9_refuse ?_
            refine u_X9_refuse_0 ?_
            refine ⟨o_v0, ?_⟩
            intro S25 eS25
            have hI : IV S25 := by rw [eS25]; exact iv_sI hI o_v0 (by decide) (nu_free (by decide))
            have f0 := fr_I eS25 g0 f0 o_v0 (by decide)
            obtain ⟨y26, hy26⟩ : ∃ z : Int32, z = (2 : Int32) := ⟨_, rfl⟩
            have d_y26 := rd_Is eS25 hy26
            have ea1 := rf_I eS25 ea1
            have g0 := gr_I eS25 g0
            have o_a1 := ob_I eS25 o_a1
            have o_v0 := ob_I eS25 o_v0
            intro _
            exact hq _ _ hI g0 f0
          · refine ⟨fun c28 => ?_, fun c28 => ?_⟩
            · obtain ⟨a29, ea29, o_a29, -⟩ := sh 5 rfl hI o_v0
              refine ⟨a29, ea29, ?_⟩
              refine ⟨o_a29, ?_⟩
              refine m_X0_begin hI o_a29 (q761 p_x2 bb_x2 c6 p_x11 bb_x11 c15 c16 c20 c24 c28) (fun S31 hI g32 fc33 => ?_)
              have ea1 := (frr_at fc33 (by decide) (by decide) o_v0).trans ea1
              have ea29 := (frr_at fc33 (by decide) (by decide) o_v0).trans ea29
              have f0 := fri_tr (S := S) g0 f0 fc33 (by decide) (by decide)
              have o_a1 := gr_ob g32 o_a1
              have o_a29 := gr_ob g32 o_a29
              have o_v0 := gr_ob g32 o_v0
              have g0 := gr_tr (T := S) g0 g32
              intro _
              refine ⟨a29, ea29, ?_⟩
              refine ⟨a1, ea1, ?_⟩
              refine ⟨o_a29, ?_⟩
              refine m_X0_draw hI o_a29 o_a1 (fun S37 hI g38 fc39 => ?_)
              have ea1 := (frr_at fc39 (by decide) (by decide) o_v0).trans ea1
              have ea29 := (frr_at fc39 (by decide) (by decide) o_v0).trans ea29
              have f0 := fri_tr (S := S31) g0 f0 fc39 (by decide) (by decide)
              have o_a1 := gr_ob g38 o_a1
              have o_a29 := gr_ob g38 o_a29
              have o_v0 := gr_ob g38 o_v0
              have g0 := gr_tr (T := S31) g0 g38
              intro _
              refine ⟨a29, ea29, ?_⟩
              refine ⟨o_a29, ?_⟩
              intro x41 ex41
              have d_x41 := ex41
              refine u_X9_grant ?_
              refine u_X9_grant_0 ?_
              refine ⟨o_v0, ?_⟩
              intro S42 eS42
              have hI : IV S42 := by rw [eS42]; exact iv_sI hI o_v0 (by decide) (nu_free (by decide))
              have f0 := fr_I eS42 g0 f0 o_v0 (by decide)
              have d_x41 := rd_Ik eS42 o_v0 o_a29 (by decide) d_x41
              obtain ⟨y43, hy43⟩ : ∃ z : Int32, z = (0 : Int32) := ⟨_, rfl⟩
              have d_y43 := rd_Is eS42 hy43
              have ea1 := rf_I eS42 ea1
              have ea29 := rf_I eS42 ea29
              have g0 := gr_I eS42 g0
              have o_a1 := ob_I eS42 o_a1
              have o_a29 := ob_I eS42 o_a29
              have o_v0 := ob_I eS42 o_v0
              intro _
              exact hq _ _ hI g0 f0
            · refine u_X9_day_52 ?_
              refine ⟨o_v0, ?_⟩
              refine u_X9_refuse ?_
              refine u_X9_refuse_0 ?_
              refine ⟨o_v0, ?_⟩
              intro S45 eS45
              have hI : IV S45 := by rw [eS45]; exact iv_sI hI o_v0 (by decide) (nu_free (by decide))
              have f0 := fr_I eS45 g0 f0 o_v0 (by decide)
              obtain ⟨y46, hy46⟩ : ∃ z : Int32, z = (2 : Int32) := ⟨_, rfl⟩
              have d_y46 := rd_Is eS45 hy46
              have ea1 := rf_I eS45 ea1
              have g0 := gr_I eS45 g0
              have o_a1 := ob_I eS45 o_a1
              have o_v0 := ob_I eS45 o_v0
              intro _
              exact hq _ _ hI g0 f0
    · refine u_X9_day_22 ?_
      refine ⟨o_v0, ?_⟩
      refine u_X9_refuse ?_
      refine u_X9_refuse_0 ?_
      refine ⟨o_v0, ?_⟩
      intro S48 eS48
      have hI : IV S48 := by rw [eS48]; exact iv_sI hI o_v0 (by decide) (nu_free (by decide))
      have f0 := fr_I eS48 g0 f0 o_v0 (by decide)
      obtain ⟨y49, hy49⟩ : ∃ z : Int32, z = (1 : Int32) := ⟨_, rfl⟩
      have d_y49 := rd_Is eS48 hy49
      have ea1 := rf_I eS48 ea1
      have g0 := gr_I eS48 g0
      have o_a1 := ob_I eS48 o_a1
      have o_v0 := ob_I eS48 o_v0
      intro _
      exact hq _ _ hI g0 f0
set_option maxHeartbeats 4000000 in
set_option maxRecDepth 20000 in
theorem m_X9_driest {v0 : Nat} {v1 : Int32} {v2 : Int32} {v3 : Int32} {Q : Int32 → HS → Prop} {S : HS} (hI : IV S) (o_v0 : ob S v0 9)     (hq : ∀ (r : Int32) (T : HS), IV T → Gr S T → FRI [(9, 9)] [] S T → Q r T) : P_X9_driest v0 v1 v2 v3 Q S := by
  have g0 := gr_rf S
  have f0 := fri_rf [(9, 9)] [] S
  refine u_X9_driest ?_
  refine u_X9_driest_0 ?_
  refine ⟨o_v0, ?_⟩
  obtain ⟨a1, ea1, o_a1, -⟩ := sh 1 rfl hI o_v0
  refine ⟨a1, ea1, ?_⟩
  refine ⟨o_a1, ?_⟩
  refine m_X8_hasWalker hI o_a1 (fun x2 S3 hI2 g4 b_x2 p_x2 => ?_)
  obtain ⟨z_S3, p_x2⟩ := p_x2
  subst z_S3
  intro _ _
  have bb_x2 : x2 = 0 ∨ x2 = 1 := b_x2
  refine ⟨fun c6 => ?_, fun c6 => ?_⟩
  · refine u_X9_driest_29 ?_
    refine ⟨o_v0, ?_⟩
    refine u_X9_refuse ?_
    refine u_X9_refuse_0 ?_
    refine ⟨o_v0, ?_⟩
    intro S7 eS7
    have hI : IV S7 := by rw [eS7]; exact iv_sI hI o_v0 (by decide) (nu_free (by decide))
    have f0 := fr_I eS7 g0 f0 o_v0 (by decide)
    obtain ⟨y8, hy8⟩ : ∃ z : Int32, z = (1 : Int32) := ⟨_, rfl⟩
    have d_y8 := rd_Is eS7 hy8
    have ea1 := rf_I eS7 ea1
    have g0 := gr_I eS7 g0
    have o_a1 := ob_I eS7 o_a1
    have o_v0 := ob_I eS7 o_v0
    intro _
    exact hq _ _ hI g0 f0
  · refine ⟨a1, ea1, ?_⟩
    refine ⟨o_a1, ?_⟩
    refine m_X8_hasRoad hI o_a1 (fun x11 S12 hI2 g13 b_x11 p_x11 => ?_)
    obtain ⟨z_S12, p_x11⟩ := p_x11
    subst z_S12
    intro _ _
    have bb_x11 : x11 = 0 ∨ x11 = 1 := b_x11
    refine ⟨fun c15 => ?_, fun c15 => ?_⟩
    · refine u_X9_driest_29 ?_
      refine ⟨o_v0, ?_⟩
      refine u_X9_refuse ?_
      refine u_X9_refuse_0 ?_
      refine ⟨o_v0, ?_⟩
      intro S16 eS16
      have hI : IV S16 := by rw [eS16]; exact iv_sI hI o_v0 (by decide) (nu_free (by decide))
      have f0 := fr_I eS16 g0 f0 o_v0 (by decide)
      obtain ⟨y17, hy17⟩ : ∃ z : Int32, z = (1 : Int32) := ⟨_, rfl⟩
      have d_y17 := rd_Is eS16 hy17
      have ea1 := rf_I eS16 ea1
      have g0 := gr_I eS16 g0
      have o_a1 := ob_I eS16 o_a1
      have o_v0 := ob_I eS16 o_v0
      intro _
      exact hq _ _ hI g0 f0
    · refine m_X9_isWay hI (fun x19 S20 hI2 g21 b_x19 p_x19 => ?_)
      obtain ⟨z_S20, p_x19⟩ := p_x19
      subst z_S20
      intro _ _
      have bb_x19 : x19 = 0 ∨ x19 = 1 := b_x19
      refine ⟨fun c23 => ?_, fun c23 => ?_⟩
      · refine ⟨a1, ea1, ?_⟩
        refine ⟨o_a1, ?_⟩
        intro x25 ex25
        have r_x25 : (0 : Int32) ≤ x25 ∧ x25 ≤ (6 : Int32) := by rw [ex25]; exact nu 11 rfl hI o_a1
        have d_x25 := ex25
        refine ⟨fun c26 => ?_, fun c26 => ?_⟩
        · refine i_X9_driest_63 (fun (y0 : Nat) (y1 : Int32) (y2 : Int32) (y3 : Int32) (y4 : Int32) (y5 : Int64) (y7 : Int32) (Z : HS) => ((2147483647 : Int32).toInt - y7.toInt).toNat) (fun (y0 : Nat) (y1 : Int32) (y2 : Int32) (y3 : Int32) (y4 : Int32) (y5 : Int64) (y7 : Int32) (Z : HS) => (IV Z) ∧ (Gr S Z) ∧ (FRI [] [] S Z) ∧ (v0 = y0) ∧ (v1 = y1) ∧ (v2 = y2) ∧ (v3 = y3) ∧ (0 ≤ y7)) ?_ _ _ _ _ _ _ _ _ ⟨hI, (gr_rf _), (fri_rf _ _ _), rfl, rfl, rfl, rfl, (q751 p_x2 bb_x2 c6 p_x11 bb_x11 c15 p_x19 bb_x19 c23 r_x25 c26)⟩
          intro w30 w32 w34 w36 w38 w39 w40 S27 X41 ⟨hI, gL28, fL29, q31, q33, q35, q37, i1⟩ ih42
          subst q31
          subst q33
          subst q35
          subst q37
          have d_x25 := d_x25.trans (fri_at fL29 (by decide) (by decide) o_a1).symm
          have ea1 := (frr_at fL29 (by decide) (by decide) o_v0).trans ea1
          have f0 := fri_tr (S := S) g0 f0 fL29 (by decide) (by decide)
          have o_a1 := gr_ob gL28 o_a1
          have o_v0 := gr_ob gL28 o_v0
          have g0 := gr_tr (T := S) g0 gL28
          refine u_X9_driest_63 ?_
          refine ⟨o_v0, ?_⟩
          refine ⟨a1, ea1, ?_⟩
          refine ⟨o_a1, ?_⟩
          intro x44 ex44
          have r_x44 : (0 : Int32) ≤ x44 ∧ x44 ≤ (6 : Int32) := by rw [ex44]; exact nu 11 rfl hI o_a1
          have q_x44 : x44 = x25 := ex44.trans d_x25.symm
          have d_x44 := ex44
          refine ⟨fun c45 => ?_, fun c45 => ?_⟩
          · refine u_X9_grant ?_
            refine u_X9_grant_0 ?_
            refine ⟨o_v0, ?_⟩
            intro S46 eS46
            have hI : IV S46 := by rw [eS46]; exact iv_sI hI o_v0 (by decide) (nu_free (by decide))
            have f0 := fr_I eS46 g0 f0 o_v0 (by decide)
            have d_x44 := rd_Ik eS46 o_v0 o_a1 (by decide) d_x44
            obtain ⟨y47, hy47⟩ : ∃ z : Int32, z = (0 : Int32) := ⟨_, rfl⟩
            have d_y47 := rd_Is eS46 hy47
            have ea1 := rf_I eS46 ea1
            have g0 := gr_I eS46 g0
            have o_a1 := ob_I eS46 o_a1
            have o_v0 := ob_I eS46 o_v0
            intro _
            exact hq _ _ hI g0 f0
          · refine ⟨a1, ea1, ?_⟩
            refine ⟨o_a1, ?_⟩
            obtain ⟨a50, ea50, o_a50, l_a50⟩ := shl 15 rfl hI o_a1
            refine ⟨a50, ea50, ?_⟩
            refine ⟨o_a50, ?_⟩
            have i52 : vp_in w40 (hN _ a50) := (vin l_a50 (m := 6) (by decide) (q752 p_x2 bb_x2 c6 p_x11 bb_x11 c15 p_x19 bb_x19 c23 r_x25 c26 i1 r_x44 q_x44 c45))
            obtain ⟨a51, ea51, o_a51⟩ := ae hI o_a50 (by decide) (by decide) i52
            replace o_a51 : ob _ a51 3 := o_a51
            refine ⟨i52, a51, ea51, ?_⟩
            obtain ⟨a53, ea53, o_a53, -⟩ := sh 3 rfl hI o_v0
            refine ⟨a53, ea53, ?_⟩
            refine ⟨a1, ea1, ?_⟩
            refine ⟨o_a1, ?_⟩
            obtain ⟨a55, ea55, o_a55, l_a55⟩ := shl 18 rfl hI o_a1
            refine ⟨a55, ea55, ?_⟩
            refine ⟨o_a55, ?_⟩
            have i57 : vp_in v1 (hN _ a55) := (vin l_a55 (m := 4) (by decide) (q753 p_x2 bb_x2 c6 p_x11 bb_x11 c15 p_x19 bb_x19 c23 r_x25 c26 i1 r_x44 q_x44 c45))
            obtain ⟨a56, ea56, o_a56⟩ := ae hI o_a55 (by decide) (by decide) i57
            replace o_a56 : ob _ a56 6 := o_a56
            refine ⟨i57, a56, ea56, ?_⟩
            refine ⟨a1, ea1, ?_⟩
            refine ⟨o_a1, ?_⟩
            obtain ⟨a59, ea59, o_a59, l_a59⟩ := shl 17 rfl hI o_a1
            refine ⟨a59, ea59, ?_⟩
            refine ⟨o_a59, ?_⟩
            have i61 : vp_in v2 (hN _ a59) := (vin l_a59 (m := 12) (by decide) (q754 p_x2 bb_x2 c6 p_x11 bb_x11 c15 p_x19 bb_x19 c23 r_x25 c26 i1 r_x44 q_x44 c45))
            obtain ⟨a60, ea60, o_a60⟩ := ae hI o_a59 (by decide) (by decide) i61
            replace o_a60 : ob _ a60 5 := o_a60
            refine ⟨i61, a60, ea60, ?_⟩
            refine ⟨o_a53, ?_⟩
            refine m_X1_leastWet hI o_a53 o_a56 o_a60 o_a51 (fun x62 S63 hI g64 fc65 => ?_)
            have l_a50 := (gr_len g64 o_a50).trans l_a50
            have l_a55 := (gr_len g64 o_a55).trans l_a55
            have l_a59 := (gr_len g64 o_a59).trans l_a59
            have d_x44 := d_x44.trans (fri_at fc65 (by decide) (by decide) o_a1).symm
            have ea1 := (frr_at fc65 (by decide) (by decide) o_v0).trans ea1
            have ea50 := (frr_at fc65 (by decide) (by decide) o_a1).trans ea50
            have ea53 := (frr_at fc65 (by decide) (by decide) o_v0).trans ea53
            have ea55 := (frr_at fc65 (by decide) (by decide) o_a1).trans ea55
            have ea59 := (frr_at fc65 (by decide) (by decide) o_a1).trans ea59
            have f0 := fri_tr (S := S27) g0 f0 fc65 (by decide) (by decide)
            have fL29 := fri_tr (S := S27) gL28 fL29 fc65 (by decide) (by decide)
            have o_a1 := gr_ob g64 o_a1
            have o_a50 := gr_ob g64 o_a50
            have o_a51 := gr_ob g64 o_a51
            have o_a53 := gr_ob g64 o_a53
            have o_a55 := gr_ob g64 o_a55
            have o_a56 := gr_ob g64 o_a56
            have o_a59 := gr_ob g64 o_a59
            have o_a60 := gr_ob g64 o_a60
            have o_v0 := gr_ob g64 o_v0
            have g0 := gr_tr (T := S27) g0 g64
            have gL28 := gr_tr (T := S27) gL28 g64
            intro _
            refine ⟨o_a51, ?_⟩
            intro x66 ex66
            have d_x66 := ex66
            intro x67 ex67
            refine ⟨fun c68 => ?_, fun c68 => ?_⟩
            · refine u_X9_driest_140 ?_
              intro x69 ex69
              exact ih42 _ _ _ _ _ _ _ _ ⟨hI, gL28, fL29, rfl, rfl, rfl, rfl, (q755 p_x2 bb_x2 c6 p_x11 bb_x11 c15 p_x19 bb_x19 c23 r_x25 c26 i1 r_x44 q_x44 c45 c68 ex69)⟩ (mu_up (q756 p_x2 bb_x2 c6 p_x11 bb_x11 c15 p_x19 bb_x19 c23 r_x25 c26 i1 r_x44 q_x44 c45 c68 ex69) (q757 p_x2 bb_x2 c6 p_x11 bb_x11 c15 p_x19 bb_x19 c23 r_x25 c26 i1 r_x44 q_x44 c45 c68 ex69))
            · refine u_X9_driest_140 ?_
              intro x70 ex70
              exact ih42 _ _ _ _ _ _ _ _ ⟨hI, gL28, fL29, rfl, rfl, rfl, rfl, (q758 p_x2 bb_x2 c6 p_x11 bb_x11 c15 p_x19 bb_x19 c23 r_x25 c26 i1 r_x44 q_x44 c45 c68 ex70)⟩ (mu_up (q759 p_x2 bb_x2 c6 p_x11 bb_x11 c15 p_x19 bb_x19 c23 r_x25 c26 i1 r_x44 q_x44 c45 c68 ex70) (q760 p_x2 bb_x2 c6 p_x11 bb_x11 c15 p_x19 bb_x19 c23 r_x25 c26 i1 r_x44 q_x44 c45 c68 ex70))
        · refine u_X9_refuse ?_
          refine u_X9_refuse_0 ?_
          refine ⟨o_v0, ?_⟩
          intro S71 eS71
          have hI : IV S71 := by rw [eS71]; exact iv_sI hI o_v0 (by decide) (nu_free (by decide))
          have f0 := fr_I eS71 g0 f0 o_v0 (by decide)
          have d_x25 := rd_Ik eS71 o_v0 o_a1 (by decide) d_x25
          obtain ⟨y72, hy72⟩ : ∃ z : Int32, z = (6 : Int32) := ⟨_, rfl⟩
          have d_y72 := rd_Is eS71 hy72
          have ea1 := rf_I eS71 ea1
          have g0 := gr_I eS71 g0
          have o_a1 := ob_I eS71 o_a1
          have o_v0 := ob_I eS71 o_v0
          intro _
          exact hq _ _ hI g0 f0
      · refine u_X9_driest_29 ?_
        refine ⟨o_v0, ?_⟩
        refine u_X9_refuse ?_
        refine u_X9_refuse_0 ?_
        refine ⟨o_v0, ?_⟩
        intro S74 eS74
        have hI : IV S74 := by rw [eS74]; exact iv_sI hI o_v0 (by decide) (nu_free (by decide))
        have f0 := fr_I eS74 g0 f0 o_v0 (by decide)
        obtain ⟨y75, hy75⟩ : ∃ z : Int32, z = (1 : Int32) := ⟨_, rfl⟩
        have d_y75 := rd_Is eS74 hy75
        have ea1 := rf_I eS74 ea1
        have g0 := gr_I eS74 g0
        have o_a1 := ob_I eS74 o_a1
        have o_v0 := ob_I eS74 o_v0
        intro _
        exact hq _ _ hI g0 f0
