set_option maxHeartbeats 4000000 in
set_option maxRecDepth 20000 in
theorem m_X7_trace {v0 : Nat} {v1 : Nat} {v2 : Int32} {v3 : Int32} {Q : Int32 → HS → Prop} {S : HS} (hI : IV S) (o_v0 : ob S v0 7) (o_v1 : ob S v1 8)     (hq : ∀ (r : Int32) (T : HS), IV T → Gr S T → FRI [] [] S T → Q r T) : P_X7_trace v0 v1 v2 v3 Q S := by
  have g0 := gr_rf S
  have f0 := fri_rf [] [] S
  refine u_X7_trace ?_
  refine u_X7_trace_0 ?_
  refine i_X7_trace_9 (fun (y0 : Nat) (y1 : Nat) (y4 : Int32) (y5 : Int32) (y6 : Int32) (Z : HS) => ((2147483647 : Int32).toInt - y6.toInt).toNat) (fun (y0 : Nat) (y1 : Nat) (y4 : Int32) (y5 : Int32) (y6 : Int32) (Z : HS) => (IV Z) ∧ (Gr S Z) ∧ (FRI [] [] S Z) ∧ (v0 = y0) ∧ (v1 = y1) ∧ (0 ≤ y6)) ?_ _ _ _ _ _ _ ⟨hI, (gr_rf _), (fri_rf _ _ _), rfl, rfl, (q82)⟩
  intro w5 w7 w9 w10 w11 S2 X12 ⟨hI, gL3, fL4, q6, q8, i1u1⟩ ih13
  subst q6
  subst q8
  have f0 := fri_tr (S := S) g0 f0 fL4 (by decide) (by decide)
  have o_v0 := gr_ob gL3 o_v0
  have o_v1 := gr_ob gL3 o_v1
  have g0 := gr_tr (T := S) g0 gL3
  refine u_X7_trace_9 ?_
  refine ⟨o_v0, ?_⟩
  obtain ⟨a14, ea14, o_a14, -⟩ := sh 21 rfl hI o_v0
  have hl_a14 := wyl hI o_v0 0 rfl (by decide) ea14
  refine ⟨a14, ea14, ?_⟩
  refine ⟨o_a14, ?_⟩
  refine ⟨fun c15 => ?_, fun c15 => ?_⟩
  · refine ⟨a14, ea14, ?_⟩
    refine ⟨o_a14, ?_⟩
    exact hq _ _ hI g0 f0
  · intro x17 ex17
    refine ⟨fun c18 => ?_, fun c18 => ?_⟩
    · refine u_X7_trace_55 ?_
      refine u_X7_trace_56 ?_
      refine ⟨fun c19 => ?_, fun c19 => ?_⟩
      · refine ⟨o_v0, ?_⟩
        refine ⟨a14, ea14, ?_⟩
        refine ⟨o_a14, ?_⟩
        have i21 : vp_in w11 (hN _ a14) := (vinL hl_a14 (q1052 i1u1 c15 ex17 c18 c19))
        refine ⟨i21, ?_⟩
        intro S22 eS22
        have hI : IV S22 := by rw [eS22]; exact iv_aI hI o_v0 (by decide) ea14 o_a14 (by decide)
        have f0 := fr_A eS22 g0 f0 o_a14 (by decide)
        have fL4 := fr_A eS22 gL3 fL4 o_a14 (by decide)
        have ea14 := rf_I eS22 ea14
        have hl_a14 := hl_I eS22 hl_a14
        have g0 := gr_I eS22 g0
        have gL3 := gr_I eS22 gL3
        have o_a14 := ob_I eS22 o_a14
        have o_v0 := ob_I eS22 o_v0
        have o_v1 := ob_I eS22 o_v1
        refine ⟨fun c23 => ?_, fun c23 => ?_⟩
        · intro x24 ex24
          refine ⟨o_v1, ?_⟩
          refine m_X8_hasRoad hI o_v1 (fun x25 S26 hI2 g27 b_x25 p_x25 => ?_)
          obtain ⟨z_S26, p_x25⟩ := p_x25
          subst z_S26
          intro _ _
          have bb_x25 : x25 = 0 ∨ x25 = 1 := b_x25
          refine ⟨fun c29 => ?_, fun c29 => ?_⟩
          · refine u_X7_trace_143 ?_
            intro x30 ex30
            exact ih13 _ _ _ _ _ _ ⟨hI, gL3, fL4, rfl, rfl, (q1053 i1u1 c15 ex17 c18 c19 c23 ex24 p_x25 bb_x25 c29 ex30)⟩ (mu_up (q1054 i1u1 c15 ex17 c18 c19 c23 ex24 p_x25 bb_x25 c29 ex30) (q1055 i1u1 c15 ex17 c18 c19 c23 ex24 p_x25 bb_x25 c29 ex30))
          · obtain ⟨a31, ea31, o_a31, l_a31⟩ := shl 17 rfl hI o_v1
            refine ⟨a31, ea31, ?_⟩
            intro x32 ex32
            refine ⟨o_a31, ?_⟩
            have i34 : vp_in x32 (hN _ a31) := (vin l_a31 (m := 12) (by decide) (q1056 i1u1 c15 ex17 c18 c19 c23 ex24 p_x25 bb_x25 c29 ex32))
            obtain ⟨a33, ea33, o_a33⟩ := ae hI o_a31 (by decide) (by decide) i34
            replace o_a33 : ob _ a33 5 := o_a33
            refine ⟨i34, a33, ea33, ?_⟩
            intro x35 ex35
            intro x36 ex36
            refine ⟨o_a33, ?_⟩
            refine m_X5_endOf hI o_a33 (fun x37 S38 hI2 g39 p_x37 => ?_)
            subst p_x37
            intro _
            intro x41 ex41
            refine m_X5_minutesAt hI o_a33 (fun x42 S43 hI2 g44 p_x42 => ?_)
            subst p_x42
            intro _
            intro x46 ex46
            refine u_X7_trace_143 ?_
            intro x47 ex47
            exact ih13 _ _ _ _ _ _ ⟨hI, gL3, fL4, rfl, rfl, (q1057 i1u1 c15 ex17 c18 c19 c23 ex24 p_x25 bb_x25 c29 ex46 ex47)⟩ (mu_up (q1058 i1u1 c15 ex17 c18 c19 c23 ex24 p_x25 bb_x25 c29 ex46 ex47) (q1059 i1u1 c15 ex17 c18 c19 c23 ex24 p_x25 bb_x25 c29 ex46 ex47))
        · intro x48 ex48
          refine u_X7_trace_143 ?_
          intro x49 ex49
          exact ih13 _ _ _ _ _ _ ⟨hI, gL3, fL4, rfl, rfl, (q1060 i1u1 c15 ex17 c18 c19 c23 ex48 ex49)⟩ (mu_up (q1061 i1u1 c15 ex17 c18 c19 c23 ex48 ex49) (q1062 i1u1 c15 ex17 c18 c19 c23 ex48 ex49))
      · exact hq _ _ hI g0 f0
    · obtain ⟨a50, ea50, o_a50, -⟩ := sh 23 rfl hI o_v0
      have hl_a50 := wyl hI o_v0 2 rfl (by decide) ea50
      refine ⟨a50, ea50, ?_⟩
      refine ⟨o_a50, ?_⟩
      refine ⟨fun c51 => ?_, fun c51 => ?_⟩
      · refine u_X7_trace_55 ?_
        refine u_X7_trace_56 ?_
        refine ⟨fun c52 => ?_, fun c52 => ?_⟩
        · refine ⟨o_v0, ?_⟩
          refine ⟨a14, ea14, ?_⟩
          refine ⟨o_a14, ?_⟩
          have i54 : vp_in w11 (hN _ a14) := (vinL hl_a14 (q1063 i1u1 c15 ex17 c18 c51 c52))
          refine ⟨i54, ?_⟩
          intro S55 eS55
          have hI : IV S55 := by rw [eS55]; exact iv_aI hI o_v0 (by decide) ea14 o_a14 (by decide)
          have f0 := fr_A eS55 g0 f0 o_a14 (by decide)
          have fL4 := fr_A eS55 gL3 fL4 o_a14 (by decide)
          have ea14 := rf_I eS55 ea14
          have ea50 := rf_I eS55 ea50
          have hl_a14 := hl_I eS55 hl_a14
          have hl_a50 := hl_I eS55 hl_a50
          have g0 := gr_I eS55 g0
          have gL3 := gr_I eS55 gL3
          have o_a14 := ob_I eS55 o_a14
          have o_a50 := ob_I eS55 o_a50
          have o_v0 := ob_I eS55 o_v0
          have o_v1 := ob_I eS55 o_v1
          refine ⟨fun c56 => ?_, fun c56 => ?_⟩
          · intro x57 ex57
            refine ⟨o_v1, ?_⟩
            refine m_X8_hasRoad hI o_v1 (fun x58 S59 hI2 g60 b_x58 p_x58 => ?_)
            obtain ⟨z_S59, p_x58⟩ := p_x58
            subst z_S59
            intro _ _
            have bb_x58 : x58 = 0 ∨ x58 = 1 := b_x58
            refine ⟨fun c62 => ?_, fun c62 => ?_⟩
            · refine u_X7_trace_143 ?_
              intro x63 ex63
              exact ih13 _ _ _ _ _ _ ⟨hI, gL3, fL4, rfl, rfl, (q1064 i1u1 c15 ex17 c18 c51 c52 c56 ex57 p_x58 bb_x58 c62 ex63)⟩ (mu_up (q1065 i1u1 c15 ex17 c18 c51 c52 c56 ex57 p_x58 bb_x58 c62 ex63) (q1066 i1u1 c15 ex17 c18 c51 c52 c56 ex57 p_x58 bb_x58 c62 ex63))
            · obtain ⟨a64, ea64, o_a64, l_a64⟩ := shl 17 rfl hI o_v1
              refine ⟨a64, ea64, ?_⟩
              intro x65 ex65
              refine ⟨o_a64, ?_⟩
              have i67 : vp_in x65 (hN _ a64) := (vin l_a64 (m := 12) (by decide) (q1067 i1u1 c15 ex17 c18 c51 c52 c56 ex57 p_x58 bb_x58 c62 ex65))
              obtain ⟨a66, ea66, o_a66⟩ := ae hI o_a64 (by decide) (by decide) i67
              replace o_a66 : ob _ a66 5 := o_a66
              refine ⟨i67, a66, ea66, ?_⟩
              intro x68 ex68
              intro x69 ex69
              refine ⟨o_a66, ?_⟩
              refine m_X5_endOf hI o_a66 (fun x70 S71 hI2 g72 p_x70 => ?_)
              subst p_x70
              intro _
              intro x74 ex74
              refine m_X5_minutesAt hI o_a66 (fun x75 S76 hI2 g77 p_x75 => ?_)
              subst p_x75
              intro _
              intro x79 ex79
              refine u_X7_trace_143 ?_
              intro x80 ex80
              exact ih13 _ _ _ _ _ _ ⟨hI, gL3, fL4, rfl, rfl, (q1068 i1u1 c15 ex17 c18 c51 c52 c56 ex57 p_x58 bb_x58 c62 ex79 ex80)⟩ (mu_up (q1069 i1u1 c15 ex17 c18 c51 c52 c56 ex57 p_x58 bb_x58 c62 ex79 ex80) (q1070 i1u1 c15 ex17 c18 c51 c52 c56 ex57 p_x58 bb_x58 c62 ex79 ex80))
          · intro x81 ex81
            refine u_X7_trace_143 ?_
            intro x82 ex82
            exact ih13 _ _ _ _ _ _ ⟨hI, gL3, fL4, rfl, rfl, (q1071 i1u1 c15 ex17 c18 c51 c52 c56 ex81 ex82)⟩ (mu_up (q1072 i1u1 c15 ex17 c18 c51 c52 c56 ex81 ex82) (q1073 i1u1 c15 ex17 c18 c51 c52 c56 ex81 ex82))
        · exact hq _ _ hI g0 f0
      · refine ⟨a50, ea50, ?_⟩
        refine ⟨o_a50, ?_⟩
        refine ⟨(vinL hl_a50 (q1074 i1u1 c15 ex17 c18 c51)), ?_⟩
        intro x84 ex84
        refine u_X7_trace_56 ?_
        refine ⟨fun c85 => ?_, fun c85 => ?_⟩
        · refine ⟨o_v0, ?_⟩
          refine ⟨a14, ea14, ?_⟩
          refine ⟨o_a14, ?_⟩
          have i87 : vp_in w11 (hN _ a14) := (vinL hl_a14 (q1075 i1u1 c15 ex17 c18 c51 c85))
          refine ⟨i87, ?_⟩
          intro S88 eS88
          have hI : IV S88 := by rw [eS88]; exact iv_aI hI o_v0 (by decide) ea14 o_a14 (by decide)
          have f0 := fr_A eS88 g0 f0 o_a14 (by decide)
          have fL4 := fr_A eS88 gL3 fL4 o_a14 (by decide)
          have ea14 := rf_I eS88 ea14
          have ea50 := rf_I eS88 ea50
          have hl_a14 := hl_I eS88 hl_a14
          have hl_a50 := hl_I eS88 hl_a50
          have g0 := gr_I eS88 g0
          have gL3 := gr_I eS88 gL3
          have o_a14 := ob_I eS88 o_a14
          have o_a50 := ob_I eS88 o_a50
          have o_v0 := ob_I eS88 o_v0
          have o_v1 := ob_I eS88 o_v1
          refine ⟨fun c89 => ?_, fun c89 => ?_⟩
          · intro x90 ex90
            refine ⟨o_v1, ?_⟩
            refine m_X8_hasRoad hI o_v1 (fun x91 S92 hI2 g93 b_x91 p_x91 => ?_)
            obtain ⟨z_S92, p_x91⟩ := p_x91
            subst z_S92
            intro _ _
            have bb_x91 : x91 = 0 ∨ x91 = 1 := b_x91
            refine ⟨fun c95 => ?_, fun c95 => ?_⟩
            · refine u_X7_trace_143 ?_
              intro x96 ex96
              exact ih13 _ _ _ _ _ _ ⟨hI, gL3, fL4, rfl, rfl, (q1076 i1u1 c15 ex17 c18 c51 c85 c89 ex90 p_x91 bb_x91 c95 ex96)⟩ (mu_up (q1077 i1u1 c15 ex17 c18 c51 c85 c89 ex90 p_x91 bb_x91 c95 ex96) (q1078 i1u1 c15 ex17 c18 c51 c85 c89 ex90 p_x91 bb_x91 c95 ex96))
            · obtain ⟨a97, ea97, o_a97, l_a97⟩ := shl 17 rfl hI o_v1
              refine ⟨a97, ea97, ?_⟩
              intro x98 ex98
              refine ⟨o_a97, ?_⟩
              have i100 : vp_in x98 (hN _ a97) := (vin l_a97 (m := 12) (by decide) (q1079 i1u1 c15 ex17 c18 c51 c85 c89 ex90 p_x91 bb_x91 c95 ex98))
              obtain ⟨a99, ea99, o_a99⟩ := ae hI o_a97 (by decide) (by decide) i100
              replace o_a99 : ob _ a99 5 := o_a99
              refine ⟨i100, a99, ea99, ?_⟩
              intro x101 ex101
              intro x102 ex102
              refine ⟨o_a99, ?_⟩
              refine m_X5_endOf hI o_a99 (fun x103 S104 hI2 g105 p_x103 => ?_)
              subst p_x103
              intro _
              intro x107 ex107
              refine m_X5_minutesAt hI o_a99 (fun x108 S109 hI2 g110 p_x108 => ?_)
              subst p_x108
              intro _
              intro x112 ex112
              refine u_X7_trace_143 ?_
              intro x113 ex113
              exact ih13 _ _ _ _ _ _ ⟨hI, gL3, fL4, rfl, rfl, (q1080 i1u1 c15 ex17 c18 c51 c85 c89 ex90 p_x91 bb_x91 c95 ex98 ex101 ex102 ex107 ex112 ex113)⟩ (mu_up (q1081 i1u1 c15 ex17 c18 c51 c85 c89 ex90 p_x91 bb_x91 c95 ex98 ex101 ex102 ex107 ex112 ex113) (q1082 i1u1 c15 ex17 c18 c51 c85 c89 ex90 p_x91 bb_x91 c95 ex98 ex101 ex102 ex107 ex112 ex113))
          · intro x114 ex114
            refine u_X7_trace_143 ?_
            intro x115 ex115
            exact ih13 _ _ _ _ _ _ ⟨hI, gL3, fL4, rfl, rfl, (q1083 i1u1 c15 ex17 c18 c51 c85 c89 ex114 ex115)⟩ (mu_up (q1084 i1u1 c15 ex17 c18 c51 c85 c89 ex114 ex115) (q1085 i1u1 c15 ex17 c18 c51 c85 c89 ex114 ex115))
        · exact hq _ _ hI g0 f0
set_option maxHeartbeats 4000000 in
set_option maxRecDepth 20000 in
theorem m_X9_grant {v0 : Nat} {v1 : Int32} {Q : Int32 → HS → Prop} {S : HS} (hI : IV S) (o_v0 : ob S v0 9)     (hq : ∀ (r : Int32) (T : HS), IV T → Gr S T → FRI [(9, 9)] [] S T → Q r T) : P_X9_grant v0 v1 Q S := by
  have g0 := gr_rf S
  have f0 := fri_rf [(9, 9)] [] S
  refine u_X9_grant ?_
  refine u_X9_grant_0 ?_
  refine ⟨o_v0, ?_⟩
  intro S1 eS1
  have hI : IV S1 := by rw [eS1]; exact iv_sI hI o_v0 (by decide) (nu_free (by decide))
  have f0 := fr_I eS1 g0 f0 o_v0 (by decide)
  obtain ⟨y2, hy2⟩ : ∃ z : Int32, z = (0 : Int32) := ⟨_, rfl⟩
  have d_y2 := rd_Is eS1 hy2
  have g0 := gr_I eS1 g0
  have o_v0 := ob_I eS1 o_v0
  exact hq _ _ hI g0 f0
set_option maxHeartbeats 4000000 in
set_option maxRecDepth 20000 in
theorem m_X9_isWay {v0 : Int32} {Q : Int32 → HS → Prop} {S : HS} (hI : IV S)      (hq : ∀ (r : Int32) (T : HS), IV T → Gr S T → bl r → (S = T) ∧ (r = 1 → 0 ≤ v0 ∧ v0 ≤ 1) → Q r T) : P_X9_isWay v0 Q S := by
  have g0 := gr_rf S
  refine u_X9_isWay ?_
  refine u_X9_isWay_0 ?_
  refine ⟨fun c1 => ?_, fun c1 => ?_⟩
  · exact hq _ _ hI g0 (Or.inr rfl) ⟨rfl, (q16 c1)⟩
  · refine ⟨fun c2 => ?_, fun c2 => ?_⟩
    · exact hq _ _ hI g0 (Or.inl rfl) ⟨rfl, (q17 c1 c2)⟩
    · exact hq _ _ hI g0 (Or.inr rfl) ⟨rfl, (q18 c1 c2)⟩
set_option maxHeartbeats 4000000 in
set_option maxRecDepth 20000 in
theorem m_X9_air {v0 : Nat} {v1 : Int32} {v2 : Int32} {v3 : Int32} {Q : Int32 → HS → Prop} {S : HS} (hI : IV S) (o_v0 : ob S v0 9)     (hq : ∀ (r : Int32) (T : HS), IV T → Gr S T → FRI [(9, 9)] [] S T → Q r T) : P_X9_air v0 v1 v2 v3 Q S := by
  have g0 := gr_rf S
  have f0 := fri_rf [(9, 9)] [] S
  refine u_X9_air ?_
  refine u_X9_air_0 ?_
  refine ⟨o_v0, ?_⟩
  obtain ⟨a1, ea1, o_a1, -⟩ := sh 1 rfl hI o_v0
  refine ⟨a1, ea1, ?_⟩
  refine ⟨o_a1, ?_⟩
  refine m_X8_hasRoad hI o_a1 (fun x2 S3 hI2 g4 b_x2 p_x2 => ?_)
  obtain ⟨z_S3, p_x2⟩ := p_x2
  subst z_S3
  intro _ _
  have bb_x2 : x2 = 0 ∨ x2 = 1 := b_x2
  refine ⟨fun c6 => ?_, fun c6 => ?_⟩
  · intro S7 eS7
    have hI : IV S7 := by rw [eS7]; exact iv_sI hI o_v0 (by decide) (nu_free (by decide))
    have f0 := fr_I eS7 g0 f0 o_v0 (by decide)
    obtain ⟨y8, hy8⟩ : ∃ z : Int32, z = (1 : Int32) := ⟨_, rfl⟩
    have d_y8 := rd_Is eS7 hy8
    have ea1 := rf_I eS7 ea1
    have g0 := gr_I eS7 g0
    have o_a1 := ob_I eS7 o_a1
    have o_v0 := ob_I eS7 o_v0
    exact hq _ _ hI g0 f0
  · refine m_X9_isWay hI (fun x9 S10 hI2 g11 b_x9 p_x9 => ?_)
    obtain ⟨z_S10, p_x9⟩ := p_x9
    subst z_S10
    intro _ _
    have bb_x9 : x9 = 0 ∨ x9 = 1 := b_x9
    refine ⟨fun c13 => ?_, fun c13 => ?_⟩
    · intro S14 eS14
      have hI : IV S14 := by rw [eS14]; exact iv_sI hI o_v0 (by decide) (nu_free (by decide))
      have f0 := fr_I eS14 g0 f0 o_v0 (by decide)
      obtain ⟨y15, hy15⟩ : ∃ z : Int32, z = (1 : Int32) := ⟨_, rfl⟩
      have d_y15 := rd_Is eS14 hy15
      have ea1 := rf_I eS14 ea1
      have g0 := gr_I eS14 g0
      have o_a1 := ob_I eS14 o_a1
      have o_v0 := ob_I eS14 o_v0
      exact hq _ _ hI g0 f0
    · refine ⟨a1, ea1, ?_⟩
      refine ⟨o_a1, ?_⟩
      refine m_X8_hasHour hI o_a1 (fun x17 S18 hI2 g19 b_x17 p_x17 => ?_)
      obtain ⟨z_S18, p_x17⟩ := p_x17
      subst z_S18
      intro _ _
      have bb_x17 : x17 = 0 ∨ x17 = 1 := b_x17
      refine ⟨fun c21 => ?_, fun c21 => ?_⟩
      · refine ⟨a1, ea1, ?_⟩
        refine ⟨o_a1, ?_⟩
        obtain ⟨a23, ea23, o_a23, l_a23⟩ := shl 17 rfl hI o_a1
        refine ⟨a23, ea23, ?_⟩
        refine ⟨o_a23, ?_⟩
        have i25 : vp_in v1 (hN _ a23) := (vin l_a23 (m := 12) (by decide) (q1419 p_x2 bb_x2 c6 p_x9 bb_x9 c13 p_x17 bb_x17 c21))
        obtain ⟨a24, ea24, o_a24⟩ := ae hI o_a23 (by decide) (by decide) i25
        replace o_a24 : ob _ a24 5 := o_a24
        refine ⟨i25, a24, ea24, ?_⟩
        refine ⟨a1, ea1, ?_⟩
        refine ⟨o_a1, ?_⟩
        obtain ⟨a27, ea27, o_a27, l_a27⟩ := shl 15 rfl hI o_a1
        refine ⟨a27, ea27, ?_⟩
        refine ⟨o_a27, ?_⟩
        have i29 : vp_in v3 (hN _ a27) := (vin l_a27 (m := 6) (by decide) (q1420 p_x2 bb_x2 c6 p_x9 bb_x9 c13 p_x17 bb_x17 c21))
        obtain ⟨a28, ea28, o_a28⟩ := ae hI o_a27 (by decide) (by decide) i29
        replace o_a28 : ob _ a28 3 := o_a28
        refine ⟨i29, a28, ea28, ?_⟩
        refine ⟨o_a24, ?_⟩
        refine m_X5_airAlong hI o_a24 o_a28 (fun x30 S31 hI2 g32 p_x30 => ?_)
        subst p_x30
        intro _
        refine u_X9_grant ?_
        refine u_X9_grant_0 ?_
        refine ⟨o_v0, ?_⟩
        intro S34 eS34
        have hI : IV S34 := by rw [eS34]; exact iv_sI hI o_v0 (by decide) (nu_free (by decide))
        have f0 := fr_I eS34 g0 f0 o_v0 (by decide)
        obtain ⟨y35, hy35⟩ : ∃ z : Int32, z = (0 : Int32) := ⟨_, rfl⟩
        have d_y35 := rd_Is eS34 hy35
        have ea1 := rf_I eS34 ea1
        have ea23 := rf_I eS34 ea23
        have ea27 := rf_I eS34 ea27
        have l_a23 := ln_I eS34 l_a23
        have l_a27 := ln_I eS34 l_a27
        have g0 := gr_I eS34 g0
        have o_a1 := ob_I eS34 o_a1
        have o_a23 := ob_I eS34 o_a23
        have o_a24 := ob_I eS34 o_a24
        have o_a27 := ob_I eS34 o_a27
        have o_a28 := ob_I eS34 o_a28
        have o_v0 := ob_I eS34 o_v0
        intro _
        exact hq _ _ hI g0 f0
      · intro S37 eS37
        have hI : IV S37 := by rw [eS37]; exact iv_sI hI o_v0 (by decide) (nu_free (by decide))
        have f0 := fr_I eS37 g0 f0 o_v0 (by decide)
        obtain ⟨y38, hy38⟩ : ∃ z : Int32, z = (1 : Int32) := ⟨_, rfl⟩
        have d_y38 := rd_Is eS37 hy38
        have ea1 := rf_I eS37 ea1
        have g0 := gr_I eS37 g0
        have o_a1 := ob_I eS37 o_a1
        have o_v0 := ob_I eS37 o_v0
        exact hq _ _ hI g0 f0
set_option maxHeartbeats 4000000 in
set_option maxRecDepth 20000 in
theorem m_X9_refusedBy {v0 : Nat} {v1 : Int32} {Q : Int32 → HS → Prop} {S : HS} (hI : IV S) (o_v0 : ob S v0 9)     (hq : ∀ (r : Int32) (T : HS), IV T → Gr S T → FRI [(9, 9)] [] S T → bl r → Q r T) : P_X9_refusedBy v0 v1 Q S := by
  have g0 := gr_rf S
  have f0 := fri_rf [(9, 9)] [] S
  refine u_X9_refusedBy ?_
  refine u_X9_refusedBy_0 ?_
  refine ⟨o_v0, ?_⟩
  intro S1 eS1
  have hI : IV S1 := by rw [eS1]; exact iv_sI hI o_v0 (by decide) (nu_free (by decide))
  have f0 := fr_I eS1 g0 f0 o_v0 (by decide)
  have d_v1 := rd_Is eS1 (rfl : v1 = v1)
  have g0 := gr_I eS1 g0
  have o_v0 := ob_I eS1 o_v0
  refine ⟨fun c2 => ?_, fun c2 => ?_⟩
  · exact hq _ _ hI g0 f0 (Or.inl rfl)
  · exact hq _ _ hI g0 f0 (Or.inr rfl)
set_option maxHeartbeats 4000000 in
set_option maxRecDepth 20000 in
theorem m_X9_back {v0 : Nat} {v1 : Int32} {Q : Int32 → HS → Prop} {S : HS} (hI : IV S) (o_v0 : ob S v0 9)     (hq : ∀ (r : Int32) (T : HS), IV T → Gr S T → FRI [(0, 2), (2, 0), (2, 1), (9, 9)] [] S T → bl r → Q r T) : P_X9_back v0 v1 Q S := by
  have g0 := gr_rf S
  have f0 := fri_rf [(0, 2), (2, 0), (2, 1), (9, 9)] [] S
  refine u_X9_back ?_
  refine u_X9_back_0 ?_
  refine ⟨o_v0, ?_⟩
  obtain ⟨a1, ea1, o_a1, -⟩ := sh 5 rfl hI o_v0
  refine ⟨a1, ea1, ?_⟩
  refine ⟨o_a1, ?_⟩
  refine m_X0_returnTo hI o_a1 (fun x2 S3 hJ g4 fc5 b_x2 => ?_)
  have hI := hJ
  have ea1 := (frr_at fc5 (by decide) (by decide) o_v0).trans ea1
  have f0 := fri_tr (S := S) g0 f0 fc5 (by decide) (by decide)
  have o_a1 := gr_ob g4 o_a1
  have o_v0 := gr_ob g4 o_v0
  have g0 := gr_tr (T := S) g0 g4
  intro _ _
  have bb_x2 : x2 = 0 ∨ x2 = 1 := b_x2
  refine ⟨fun c6 => ?_, fun c6 => ?_⟩
  · refine u_X9_back_17 ?_
    refine ⟨o_v0, ?_⟩
    refine u_X9_refusedBy ?_
    refine u_X9_refusedBy_0 ?_
    refine ⟨o_v0, ?_⟩
    intro S7 eS7
    have hI : IV S7 := by rw [eS7]; exact iv_sI hI o_v0 (by decide) (nu_free (by decide))
    have f0 := fr_I eS7 g0 f0 o_v0 (by decide)
    obtain ⟨y8, hy8⟩ : ∃ z : Int32, z = (1 : Int32) := ⟨_, rfl⟩
    have d_y8 := rd_Is eS7 hy8
    have ea1 := rf_I eS7 ea1
    have g0 := gr_I eS7 g0
    have o_a1 := ob_I eS7 o_a1
    have o_v0 := ob_I eS7 o_v0
    refine ⟨fun c9 => ?_, fun c9 => ?_⟩
    · intro _ _
      refine ⟨fun c11 => ?_, fun c11 => ?_⟩
      · exact hq _ _ hI g0 f0 (Or.inl rfl)
      · exact hq _ _ hI g0 f0 (Or.inr rfl)
    · intro _ _
      refine ⟨fun c13 => ?_, fun c13 => ?_⟩
      · exact hq _ _ hI g0 f0 (Or.inl rfl)
      · exact hq _ _ hI g0 f0 (Or.inr rfl)
  · refine u_X9_back_17 ?_
    refine ⟨o_v0, ?_⟩
    refine u_X9_refusedBy ?_
    refine u_X9_refusedBy_0 ?_
    refine ⟨o_v0, ?_⟩
    intro S14 eS14
    have hI : IV S14 := by rw [eS14]; exact iv_sI hI o_v0 (by decide) (nu_free (by decide))
    have f0 := fr_I eS14 g0 f0 o_v0 (by decide)
    obtain ⟨y15, hy15⟩ : ∃ z : Int32, z = (0 : Int32) := ⟨_, rfl⟩
    have d_y15 := rd_Is eS14 hy15
    have ea1 := rf_I eS14 ea1
    have g0 := gr_I eS14 g0
    have o_a1 := ob_I eS14 o_a1
    have o_v0 := ob_I eS14 o_v0
    refine ⟨fun c16 => ?_, fun c16 => ?_⟩
    · intro _ _
      refine ⟨fun c18 => ?_, fun c18 => ?_⟩
      · exact hq _ _ hI g0 f0 (Or.inl rfl)
      · exact hq _ _ hI g0 f0 (Or.inr rfl)
    · intro _ _
      refine ⟨fun c20 => ?_, fun c20 => ?_⟩
      · exact hq _ _ hI g0 f0 (Or.inl rfl)
      · exact hq _ _ hI g0 f0 (Or.inr rfl)
set_option maxHeartbeats 4000000 in
set_option maxRecDepth 20000 in
theorem m_X9_tripTrouble {v0 : Nat} {v1 : Int32} {v2 : Int32} {v3 : Int32} {v4 : Int32} {Q : Int32 → HS → Prop} {S : HS} (hI : IV S) (o_v0 : ob S v0 9)     (hq : ∀ (r : Int32) (T : HS), IV T → Gr S T → (S = T) ∧ (r = 0 → 0 ≤ v1 ∧ v1 < 4 ∧ 0 ≤ v2 ∧ v2 < 12 ∧ 0 ≤ v4 ∧ v4 < 6) → Q r T) : P_X9_tripTrouble v0 v1 v2 v3 v4 Q S := by
  have g0 := gr_rf S
  refine u_X9_tripTrouble ?_
  refine u_X9_tripTrouble_0 ?_
  refine ⟨o_v0, ?_⟩
  obtain ⟨a1, ea1, o_a1, -⟩ := sh 1 rfl hI o_v0
  refine ⟨a1, ea1, ?_⟩
  refine ⟨o_a1, ?_⟩
  refine m_X8_hasWalker hI o_a1 (fun x2 S3 hI2 g4 b_x2 p_x2 => ?_)
  obtain ⟨z_S3, p_x2⟩ := p_x2
  subst z_S3
  intro _ _
  have bb_x2 : x2 = 0 ∨ x2 = 1 := b_x2
  refine ⟨fun c6 => ?_, fun c6 => ?_⟩
  · refine u_X9_tripTrouble_45 ?_
    refine u_X9_tripTrouble_46 ?_
    refine ⟨fun c7 => ?_, fun c7 => ?_⟩
    · exact hq _ _ hI g0 ⟨rfl, (q6 p_x2 bb_x2 c6)⟩
    · exact hq _ _ hI g0 ⟨rfl, (q7 p_x2 bb_x2 c6 c7)⟩
  · refine ⟨a1, ea1, ?_⟩
    refine ⟨o_a1, ?_⟩
    refine m_X8_hasRoad hI o_a1 (fun x9 S10 hI2 g11 b_x9 p_x9 => ?_)
    obtain ⟨z_S10, p_x9⟩ := p_x9
    subst z_S10
    intro _ _
    have bb_x9 : x9 = 0 ∨ x9 = 1 := b_x9
    refine ⟨fun c13 => ?_, fun c13 => ?_⟩
    · refine u_X9_tripTrouble_45 ?_
      refine u_X9_tripTrouble_46 ?_
      refine ⟨fun c14 => ?_, fun c14 => ?_⟩
      · exact hq _ _ hI g0 ⟨rfl, (q8 p_x2 bb_x2 c6 p_x9 bb_x9 c13)⟩
      · exact hq _ _ hI g0 ⟨rfl, (q9 p_x2 bb_x2 c6 p_x9 bb_x9 c13 c14)⟩
    · refine m_X9_isWay hI (fun x15 S16 hI2 g17 b_x15 p_x15 => ?_)
      obtain ⟨z_S16, p_x15⟩ := p_x15
      subst z_S16
      intro _ _
      have bb_x15 : x15 = 0 ∨ x15 = 1 := b_x15
      refine ⟨fun c19 => ?_, fun c19 => ?_⟩
      · refine u_X9_tripTrouble_45 ?_
        refine u_X9_tripTrouble_46 ?_
        refine ⟨fun c20 => ?_, fun c20 => ?_⟩
        · exact hq _ _ hI g0 ⟨rfl, (q10 p_x2 bb_x2 c6 p_x9 bb_x9 c13 p_x15 bb_x15 c19)⟩
        · exact hq _ _ hI g0 ⟨rfl, (q11 p_x2 bb_x2 c6 p_x9 bb_x9 c13 p_x15 bb_x15 c19 c20)⟩
      · refine ⟨a1, ea1, ?_⟩
        refine ⟨o_a1, ?_⟩
        refine m_X8_hasHour hI o_a1 (fun x22 S23 hI2 g24 b_x22 p_x22 => ?_)
        obtain ⟨z_S23, p_x22⟩ := p_x22
        subst z_S23
        intro _ _
        have bb_x22 : x22 = 0 ∨ x22 = 1 := b_x22
        refine ⟨fun c26 => ?_, fun c26 => ?_⟩
        · refine u_X9_tripTrouble_45 ?_
          refine u_X9_tripTrouble_46 ?_
          refine ⟨fun c27 => ?_, fun c27 => ?_⟩
          · exact hq _ _ hI g0 ⟨rfl, (q12 p_x2 bb_x2 c6 p_x9 bb_x9 c13 p_x15 bb_x15 c19 p_x22 bb_x22 c26)⟩
          · exact hq _ _ hI g0 ⟨rfl, (q13 p_x2 bb_x2 c6 p_x9 bb_x9 c13 p_x15 bb_x15 c19 p_x22 bb_x22 c26 c27)⟩
        · refine u_X9_tripTrouble_46 ?_
          refine ⟨fun c28 => ?_, fun c28 => ?_⟩
          · exact hq _ _ hI g0 ⟨rfl, (q14 p_x2 bb_x2 c6 p_x9 bb_x9 c13 p_x15 bb_x15 c19 p_x22 bb_x22 c26 c28)⟩
          · exact hq _ _ hI g0 ⟨rfl, (q15 p_x2 bb_x2 c6 p_x9 bb_x9 c13 p_x15 bb_x15 c19 p_x22 bb_x22 c26)⟩
set_option maxHeartbeats 4000000 in
set_option maxRecDepth 20000 in
theorem m_X9_best {v0 : Nat} {v1 : Int32} {v2 : Int32} {v3 : Int32} {v4 : Int32} {Q : Int32 → HS → Prop} {S : HS} (hI : IV S) (o_v0 : ob S v0 9)     (hq : ∀ (r : Int32) (T : HS), IV T → Gr S T → FRI [(9, 9)] [] S T → Q r T) : P_X9_best v0 v1 v2 v3 v4 Q S := by
  have g0 := gr_rf S
  have f0 := fri_rf [(9, 9)] [] S
  refine u_X9_best ?_
  refine u_X9_best_0 ?_
  refine ⟨o_v0, ?_⟩
  refine m_X9_tripTrouble hI o_v0 (fun x1 S2 hI2 g3 p_x1 => ?_)
  obtain ⟨z_S2, p_x1⟩ := p_x1
  subst z_S2
  intro _
  refine u_X9_refusedBy ?_
  refine u_X9_refusedBy_0 ?_
  refine ⟨o_v0, ?_⟩
  intro S5 eS5
  have hI : IV S5 := by rw [eS5]; exact iv_sI hI o_v0 (by decide) (nu_free (by decide))
  have f0 := fr_I eS5 g0 f0 o_v0 (by decide)
  have d_x1 := rd_Is eS5 (rfl : x1 = x1)
  have g0 := gr_I eS5 g0
  have o_v0 := ob_I eS5 o_v0
  refine ⟨fun c6 => ?_, fun c6 => ?_⟩
  · intro _ _
    refine ⟨fun c8 => ?_, fun c8 => ?_⟩
    · obtain ⟨a9, ea9, o_a9, -⟩ := sh 3 rfl hI o_v0
      refine ⟨a9, ea9, ?_⟩
      obtain ⟨a10, ea10, o_a10, -⟩ := sh 1 rfl hI o_v0
      refine ⟨a10, ea10, ?_⟩
      refine ⟨o_a10, ?_⟩
      obtain ⟨a11, ea11, o_a11, l_a11⟩ := shl 18 rfl hI o_a10
      refine ⟨a11, ea11, ?_⟩
      refine ⟨o_a11, ?_⟩
      have i13 : vp_in v1 (hN _ a11) := (vin l_a11 (m := 4) (by decide) (q0 p_x1 c6))
      obtain ⟨a12, ea12, o_a12⟩ := ae hI o_a11 (by decide) (by decide) i13
      replace o_a12 : ob _ a12 6 := o_a12
      refine ⟨i13, a12, ea12, ?_⟩
      refine ⟨a10, ea10, ?_⟩
      refine ⟨o_a10, ?_⟩
      obtain ⟨a15, ea15, o_a15, l_a15⟩ := shl 17 rfl hI o_a10
      refine ⟨a15, ea15, ?_⟩
      refine ⟨o_a15, ?_⟩
      have i17 : vp_in v2 (hN _ a15) := (vin l_a15 (m := 12) (by decide) (q1 p_x1 c6))
      obtain ⟨a16, ea16, o_a16⟩ := ae hI o_a15 (by decide) (by decide) i17
      replace o_a16 : ob _ a16 5 := o_a16
      refine ⟨i17, a16, ea16, ?_⟩
      refine ⟨a10, ea10, ?_⟩
      refine ⟨o_a10, ?_⟩
      obtain ⟨a19, ea19, o_a19, l_a19⟩ := shl 15 rfl hI o_a10
      refine ⟨a19, ea19, ?_⟩
      refine ⟨o_a19, ?_⟩
      have i21 : vp_in v4 (hN _ a19) := (vin l_a19 (m := 6) (by decide) (q2 p_x1 c6))
      obtain ⟨a20, ea20, o_a20⟩ := ae hI o_a19 (by decide) (by decide) i21
      replace o_a20 : ob _ a20 3 := o_a20
      refine ⟨i21, a20, ea20, ?_⟩
      refine ⟨o_a9, ?_⟩
      refine m_X1_bestSpeed hI o_a9 o_a12 o_a16 o_a20 (fun x22 S23 hJ g24 fc25 => ?_)
      have hI := hJ
      have l_a11 := (gr_len g24 o_a11).trans l_a11
      have l_a15 := (gr_len g24 o_a15).trans l_a15
      have l_a19 := (gr_len g24 o_a19).trans l_a19
      have d_x1 := d_x1.trans (fri_at fc25 (by decide) (by decide) o_v0).symm
      have ea9 := (frr_at fc25 (by decide) (by decide) o_v0).trans ea9
      have ea10 := (frr_at fc25 (by decide) (by decide) o_v0).trans ea10
      have ea11 := (frr_at fc25 (by decide) (by decide) o_a10).trans ea11
      have ea15 := (frr_at fc25 (by decide) (by decide) o_a10).trans ea15
      have ea19 := (frr_at fc25 (by decide) (by decide) o_a10).trans ea19
      have f0 := fri_tr (S := S5) g0 f0 fc25 (by decide) (by decide)
      have o_a10 := gr_ob g24 o_a10
      have o_a11 := gr_ob g24 o_a11
      have o_a12 := gr_ob g24 o_a12
      have o_a15 := gr_ob g24 o_a15
      have o_a16 := gr_ob g24 o_a16
      have o_a19 := gr_ob g24 o_a19
      have o_a20 := gr_ob g24 o_a20
      have o_a9 := gr_ob g24 o_a9
      have o_v0 := gr_ob g24 o_v0
      have g0 := gr_tr (T := S5) g0 g24
      intro _
      exact hq _ _ hI g0 f0
    · exact hq _ _ hI g0 f0
  · intro _ _
    refine ⟨fun c27 => ?_, fun c27 => ?_⟩
    · obtain ⟨a28, ea28, o_a28, -⟩ := sh 3 rfl hI o_v0
      refine ⟨a28, ea28, ?_⟩
      obtain ⟨a29, ea29, o_a29, -⟩ := sh 1 rfl hI o_v0
      refine ⟨a29, ea29, ?_⟩
      refine ⟨o_a29, ?_⟩
      obtain ⟨a30, ea30, o_a30, l_a30⟩ := shl 18 rfl hI o_a29
      refine ⟨a30, ea30, ?_⟩
      refine ⟨o_a30, ?_⟩
      have i32 : vp_in v1 (hN _ a30) := (vin l_a30 (m := 4) (by decide) (q3 p_x1 c6 c27))
      obtain ⟨a31, ea31, o_a31⟩ := ae hI o_a30 (by decide) (by decide) i32
      replace o_a31 : ob _ a31 6 := o_a31
      refine ⟨i32, a31, ea31, ?_⟩
      refine ⟨a29, ea29, ?_⟩
      refine ⟨o_a29, ?_⟩
      obtain ⟨a34, ea34, o_a34, l_a34⟩ := shl 17 rfl hI o_a29
      refine ⟨a34, ea34, ?_⟩
      refine ⟨o_a34, ?_⟩
      have i36 : vp_in v2 (hN _ a34) := (vin l_a34 (m := 12) (by decide) (q4 p_x1 c6 c27))
      obtain ⟨a35, ea35, o_a35⟩ := ae hI o_a34 (by decide) (by decide) i36
      replace o_a35 : ob _ a35 5 := o_a35
      refine ⟨i36, a35, ea35, ?_⟩
      refine ⟨a29, ea29, ?_⟩
      refine ⟨o_a29, ?_⟩
      obtain ⟨a38, ea38, o_a38, l_a38⟩ := shl 15 rfl hI o_a29
      refine ⟨a38, ea38, ?_⟩
      refine ⟨o_a38, ?_⟩
      have i40 : vp_in v4 (hN _ a38) := (vin l_a38 (m := 6) (by decide) (q5 p_x1 c6 c27))
      obtain ⟨a39, ea39, o_a39⟩ := ae hI o_a38 (by decide) (by decide) i40
      replace o_a39 : ob _ a39 3 := o_a39
      refine ⟨i40, a39, ea39, ?_⟩
      refine ⟨o_a28, ?_⟩
      refine m_X1_bestSpeed hI o_a28 o_a31 o_a35 o_a39 (fun x41 S42 hJ g43 fc44 => ?_)
      have hI := hJ
      have l_a30 := (gr_len g43 o_a30).trans l_a30
      have l_a34 := (gr_len g43 o_a34).trans l_a34
      have l_a38 := (gr_len g43 o_a38).trans l_a38
      have d_x1 := d_x1.trans (fri_at fc44 (by decide) (by decide) o_v0).symm
      have ea28 := (frr_at fc44 (by decide) (by decide) o_v0).trans ea28
      have ea29 := (frr_at fc44 (by decide) (by decide) o_v0).trans ea29
      have ea30 := (frr_at fc44 (by decide) (by decide) o_a29).trans ea30
      have ea34 := (frr_at fc44 (by decide) (by decide) o_a29).trans ea34
      have ea38 := (frr_at fc44 (by decide) (by decide) o_a29).trans ea38
      have f0 := fri_tr (S := S5) g0 f0 fc44 (by decide) (by decide)
      have o_a28 := gr_ob g43 o_a28
      have o_a29 := gr_ob g43 o_a29
      have o_a30 := gr_ob g43 o_a30
      have o_a31 := gr_ob g43 o_a31
      have o_a34 := gr_ob g43 o_a34
      have o_a35 := gr_ob g43 o_a35
      have o_a38 := gr_ob g43 o_a38
      have o_a39 := gr_ob g43 o_a39
      have o_v0 := gr_ob g43 o_v0
      have g0 := gr_tr (T := S5) g0 g43
      intro _
      exact hq _ _ hI g0 f0
    · exact hq _ _ hI g0 f0
set_option maxHeartbeats 4000000 in
set_option maxRecDepth 20000 in
theorem m_X9_coatParts {v0 : Nat} {Q : Int64 → HS → Prop} {S : HS} (hI : IV S) (o_v0 : ob S v0 6)     (hq : ∀ (r : Int64) (T : HS), IV T → Gr S T → (S = T) → Q r T) : P_X9_coatParts v0 Q S := by
  have g0 := gr_rf S
  refine u_X9_coatParts ?_
  refine u_X9_coatParts_0 ?_
  refine ⟨o_v0, ?_⟩
  intro x1 ex1
  have d_x1 := ex1
  refine ⟨fun c2 => ?_, fun c2 => ?_⟩
  · exact hq _ _ hI g0 rfl
  · intro x3 ex3
    have d_x3 := ex3
    exact hq _ _ hI g0 rfl
set_option maxHeartbeats 4000000 in
set_option maxRecDepth 20000 in
theorem m_X9_commonDivisor {v0 : Int64} {v2 : Int64} {Q : Int64 → HS → Prop} {S : HS} (hI : IV S)      (hq : ∀ (r : Int64) (T : HS), IV T → Gr S T → (S = T) → Q r T) : P_X9_commonDivisor v0 v2 Q S := by
  have g0 := gr_rf S
  refine u_X9_commonDivisor ?_
  refine u_X9_commonDivisor_0 ?_
  refine i_X9_commonDivisor_9 (fun (y4 : Int64) (y6 : Int64) (y8 : Int32) (Z : HS) => ((2147483647 : Int32).toInt - y8.toInt).toNat) (fun (y4 : Int64) (y6 : Int64) (y8 : Int32) (Z : HS) => (S = Z) ∧ (0 ≤ y8)) ?_ _ _ _ _ ⟨rfl, (q82)⟩
  intro w5 w6 w7 S2 X8 ⟨eS2, i1u1⟩ ih9
  subst eS2
  refine u_X9_commonDivisor_9 ?_
  refine ⟨fun c10 => ?_, fun c10 => ?_⟩
  · exact hq _ _ hI g0 rfl
  · refine ⟨fun c11 => ?_, fun c11 => ?_⟩
    · exact hq _ _ hI g0 rfl
    · refine ⟨(lc_ne c11), ?_⟩
      intro x12 ex12
      intro x13 ex13
      exact ih9 _ _ _ _ ⟨rfl, (q728 i1u1 c10 c11 ex13)⟩ (mu_up (q729 i1u1 c10 c11 ex13) (q730 i1u1 c10 c11 ex13))
set_option maxHeartbeats 4000000 in
set_option maxRecDepth 20000 in
theorem m_X9_refuse {v0 : Nat} {v1 : Int32} {Q : Int32 → HS → Prop} {S : HS} (hI : IV S) (o_v0 : ob S v0 9)     (hq : ∀ (r : Int32) (T : HS), IV T → Gr S T → FRI [(9, 9)] [] S T → Q r T) : P_X9_refuse v0 v1 Q S := by
  have g0 := gr_rf S
  have f0 := fri_rf [(9, 9)] [] S
  refine u_X9_refuse ?_
  refine u_X9_refuse_0 ?_
  refine ⟨o_v0, ?_⟩
  intro S1 eS1
  have hI : IV S1 := by rw [eS1]; exact iv_sI hI o_v0 (by decide) (nu_free (by decide))
  have f0 := fr_I eS1 g0 f0 o_v0 (by decide)
  have d_v1 := rd_Is eS1 (rfl : v1 = v1)
  have g0 := gr_I eS1 g0
  have o_v0 := ob_I eS1 o_v0
  exact hq _ _ hI g0 f0
set_option maxHeartbeats 4000000 in
set_option maxRecDepth 20000 in
theorem m_X9_day {v0 : Nat} {v1 : Int32} {v2 : Int32} {v3 : Int32} {v4 : Int32} {Q : Int32 → HS → Prop} {S : HS} (hI : IV S) (o_v0 : ob S v0 9)     (hq : ∀ (r : Int32) (T : HS), IV T → Gr S T → FRI [(0, 0), (0, 1), (0, 2), (0, 3), (2, 0), (2, 1), (9, 9)] [] S T → Q r T) : P_X9_day v0 v1 v2 v3 v4 Q S := by
  have g0 := gr_rf S
  have f0 := fri_rf [(0, 0), (0, 1), (0, 2), (0, 3), (2, 0), (2, 1), (9, 9)] [] S
  refine u_X9_day ?_
  refine u_X9_day_0 ?_
  refine ⟨o_v0, ?_⟩
  obtain ⟨a1, ea1, o_a1, -⟩ := sh 1 rfl hI o_v0
  refine ⟨a1, ea1, ?_⟩
  refine ⟨o_a1, ?_⟩
  refine m_X8_hasWalker hI o_a1 (fun x2 S3 hI2 g4 b_x2 p_x2 => ?_)
  obtain ⟨z_S3, p_x2⟩ := p_x2
  subst z_S3
  intro _ _
  have bb_x2 : x2 = 0 ∨ x2 = 1 := b_x2
  refine ⟨fun c6 => ?_, fun c6 => ?_⟩
  · refine u_X9_day_22 ?_
    refine ⟨o_v0, ?_⟩
    refine u_X9_refuse ?_
    refine u_X9_refuse_0 ?_
    refine ⟨o_v0, ?_⟩
    intro S7 eS7
    have hI : IV S7 := by rw [eS7]; exact iv_sI hI o_v0 (by decide) (nu_free (by decide))
    have f0 := fr_I eS7 g0 f0 o_v0 (by decide)
    obtain ⟨y8, hy8⟩ : ∃ z : Int32, z = (1 : Int32) := ⟨_, rfl⟩
    have d_y8 := rd_Is eS7 hy8
    have ea1 := rf_I eS7 ea1
    have g0 := gr_I eS7 g0
    have o_a1 := ob_I eS7 o_a1
    have o_v0 := ob_I eS7 o_v0
    intro _
    exact hq _ _ hI g0 f0
  · refine ⟨a1, ea1, ?_⟩
    refine ⟨o_a1, ?_⟩
    refine m_X8_hasPlace hI o_a1 (fun x11 S12 hI2 g13 b_x11 p_x11 => ?_)
    obtain ⟨z_S12, p_x11⟩ := p_x11
    subst z_S12
    intro _ _
    have bb_x11 : x11 = 0 ∨ x11 = 1 := b_x11
    refine ⟨fun c15 => ?_, fun c15 => ?_⟩
    · refine ⟨fun c16 => ?_, fun c16 => ?_⟩
      · refine u_X9_day_52 ?_
        refine ⟨o_v0, ?_⟩
        refine u_X9_refuse ?_
        refine u_X9_refuse_0 ?_
        refine ⟨o_v0, ?_⟩
        intro S17 eS17
        have hI : IV S17 := by rw [eS17]; exact iv_sI hI o_v0 (by decide) (nu_free (by decide))
        have f0 := fr_I eS17 g0 f0 o_v0 (by decide)
        obtain ⟨y18, hy18⟩ : ∃ z : Int32, z = (2 : Int32) := ⟨_, rfl⟩
        have d_y18 := rd_Is eS17 hy18
        have ea1 := rf_I eS17 ea1
        have g0 := gr_I eS17 g0
        have o_a1 := ob_I eS17 o_a1
        have o_v0 := ob_I eS17 o_v0
        intro _
        exact hq _ _ hI g0 f0
      · refine ⟨fun c20 => ?_, fun c20 => ?_⟩
        · refine u_X9_day_52 ?_
          refine ⟨o_v0, ?_⟩
          refine u_X9_refuse ?_
          refine u_X9_refuse_0 ?_
          refine ⟨o_v0, ?_⟩
          intro S21 eS21
          have hI : IV S21 := by rw [eS21]; exact iv_sI hI o_v0 (by decide) (nu_free (by decide))
          have f0 := fr_I eS21 g0 f0 o_v0 (by decide)
          obtain ⟨y22, hy22⟩ : ∃ z : Int32, z = (2 : Int32) := ⟨_, rfl⟩
          have d_y22 := rd_Is eS21 hy22
          have ea1 := rf_I eS21 ea1
          have g0 := gr_I eS21 g0
          have o_a1 := ob_I eS21 o_a1
          have o_v0 := ob_I eS21 o_v0
          intro _
          exact hq _ _ hI g0 f0
        · refine ⟨fun c24 => ?_, fun c24 => ?_⟩
          · refine u_X9_day_52 ?_
            refine ⟨o_v0, ?_⟩
            refine u_X9_refuse ?_
            refine u_X9_refuse_0 ?_
            refine ⟨o_v0, ?_⟩
            intro S25 eS25
            have hI : IV S25 := by rw [eS25]; exact iv_sI hI o_v0 (by decide) (nu_free (by decide))
            have f0 := fr_I eS25 g0 f0 o_v0 (by decide)
            obtain ⟨y26, hy26⟩ : ∃ z : Int32, z = (2 : Int32) := ⟨_, rfl⟩
            have d_y26 := rd_Is eS25 hy26
            have ea1 := rf_I eS25 ea1
            have g0 := gr_I eS25 g0
            have o_a1 := ob_I eS25 o_a1
            have o_v0 := ob_I eS25 o_v0
            intro _
            exact hq _ _ hI g0 f0
          · refine ⟨fun c28 => ?_, fun c28 => ?_⟩
            · obtain ⟨a29, ea29, o_a29, -⟩ := sh 5 rfl hI o_v0
              refine ⟨a29, ea29, ?_⟩
              refine ⟨o_a29, ?_⟩
              refine m_X0_begin hI o_a29 (q1405 p_x2 bb_x2 c6 p_x11 bb_x11 c15 c16 c20 c24 c28) (fun S31 hJ g32 fc33 => ?_)
              have hI := hJ
              have ea1 := (frr_at fc33 (by decide) (by decide) o_v0).trans ea1
              have ea29 := (frr_at fc33 (by decide) (by decide) o_v0).trans ea29
              have f0 := fri_tr (S := S) g0 f0 fc33 (by decide) (by decide)
              have o_a1 := gr_ob g32 o_a1
              have o_a29 := gr_ob g32 o_a29
              have o_v0 := gr_ob g32 o_v0
              have g0 := gr_tr (T := S) g0 g32
              intro _
              refine ⟨a29, ea29, ?_⟩
              refine ⟨a1, ea1, ?_⟩
              refine ⟨o_a29, ?_⟩
              refine m_X0_draw hI o_a29 o_a1 (fun S37 hJ g38 fc39 => ?_)
              have hI := hJ
              have ea1 := (frr_at fc39 (by decide) (by decide) o_v0).trans ea1
              have ea29 := (frr_at fc39 (by decide) (by decide) o_v0).trans ea29
              have f0 := fri_tr (S := S31) g0 f0 fc39 (by decide) (by decide)
              have o_a1 := gr_ob g38 o_a1
              have o_a29 := gr_ob g38 o_a29
              have o_v0 := gr_ob g38 o_v0
              have g0 := gr_tr (T := S31) g0 g38
              intro _
              refine ⟨a29, ea29, ?_⟩
              refine ⟨o_a29, ?_⟩
              intro x41 ex41
              have d_x41 := ex41
              refine u_X9_grant ?_
              refine u_X9_grant_0 ?_
              refine ⟨o_v0, ?_⟩
              intro S42 eS42
              have hI : IV S42 := by rw [eS42]; exact iv_sI hI o_v0 (by decide) (nu_free (by decide))
              have f0 := fr_I eS42 g0 f0 o_v0 (by decide)
              have d_x41 := rd_Ik eS42 o_v0 o_a29 (by decide) d_x41
              obtain ⟨y43, hy43⟩ : ∃ z : Int32, z = (0 : Int32) := ⟨_, rfl⟩
              have d_y43 := rd_Is eS42 hy43
              have ea1 := rf_I eS42 ea1
              have ea29 := rf_I eS42 ea29
              have g0 := gr_I eS42 g0
              have o_a1 := ob_I eS42 o_a1
              have o_a29 := ob_I eS42 o_a29
              have o_v0 := ob_I eS42 o_v0
              intro _
              exact hq _ _ hI g0 f0
            · refine u_X9_day_52 ?_
              refine ⟨o_v0, ?_⟩
              refine u_X9_refuse ?_
              refine u_X9_refuse_0 ?_
              refine ⟨o_v0, ?_⟩
              intro S45 eS45
              have hI : IV S45 := by rw [eS45]; exact iv_sI hI o_v0 (by decide) (nu_free (by decide))
              have f0 := fr_I eS45 g0 f0 o_v0 (by decide)
              obtain ⟨y46, hy46⟩ : ∃ z : Int32, z = (2 : Int32) := ⟨_, rfl⟩
              have d_y46 := rd_Is eS45 hy46
              have ea1 := rf_I eS45 ea1
              have g0 := gr_I eS45 g0
              have o_a1 := ob_I eS45 o_a1
              have o_v0 := ob_I eS45 o_v0
              intro _
              exact hq _ _ hI g0 f0
    · refine u_X9_day_22 ?_
      refine ⟨o_v0, ?_⟩
      refine u_X9_refuse ?_
      refine u_X9_refuse_0 ?_
      refine ⟨o_v0, ?_⟩
      intro S48 eS48
      have hI : IV S48 := by rw [eS48]; exact iv_sI hI o_v0 (by decide) (nu_free (by decide))
      have f0 := fr_I eS48 g0 f0 o_v0 (by decide)
      obtain ⟨y49, hy49⟩ : ∃ z : Int32, z = (1 : Int32) := ⟨_, rfl⟩
      have d_y49 := rd_Is eS48 hy49
      have ea1 := rf_I eS48 ea1
      have g0 := gr_I eS48 g0
      have o_a1 := ob_I eS48 o_a1
      have o_v0 := ob_I eS48 o_v0
      intro _
      exact hq _ _ hI g0 f0
set_option maxHeartbeats 4000000 in
set_option maxRecDepth 20000 in
theorem m_X9_driest {v0 : Nat} {v1 : Int32} {v2 : Int32} {v3 : Int32} {Q : Int32 → HS → Prop} {S : HS} (hI : IV S) (o_v0 : ob S v0 9)     (hq : ∀ (r : Int32) (T : HS), IV T → Gr S T → FRI [(9, 9)] [] S T → Q r T) : P_X9_driest v0 v1 v2 v3 Q S := by
  have g0 := gr_rf S
  have f0 := fri_rf [(9, 9)] [] S
  refine u_X9_driest ?_
  refine u_X9_driest_0 ?_
  refine ⟨o_v0, ?_⟩
  obtain ⟨a1, ea1, o_a1, -⟩ := sh 1 rfl hI o_v0
  refine ⟨a1, ea1, ?_⟩
  refine ⟨o_a1, ?_⟩
  refine m_X8_hasWalker hI o_a1 (fun x2 S3 hI2 g4 b_x2 p_x2 => ?_)
  obtain ⟨z_S3, p_x2⟩ := p_x2
  subst z_S3
  intro _ _
  have bb_x2 : x2 = 0 ∨ x2 = 1 := b_x2
  refine ⟨fun c6 => ?_, fun c6 => ?_⟩
  · refine u_X9_driest_29 ?_
    refine ⟨o_v0, ?_⟩
    refine u_X9_refuse ?_
    refine u_X9_refuse_0 ?_
    refine ⟨o_v0, ?_⟩
    intro S7 eS7
    have hI : IV S7 := by rw [eS7]; exact iv_sI hI o_v0 (by decide) (nu_free (by decide))
    have f0 := fr_I eS7 g0 f0 o_v0 (by decide)
    obtain ⟨y8, hy8⟩ : ∃ z : Int32, z = (1 : Int32) := ⟨_, rfl⟩
    have d_y8 := rd_Is eS7 hy8
    have ea1 := rf_I eS7 ea1
    have g0 := gr_I eS7 g0
    have o_a1 := ob_I eS7 o_a1
    have o_v0 := ob_I eS7 o_v0
    intro _
    exact hq _ _ hI g0 f0
  · refine ⟨a1, ea1, ?_⟩
    refine ⟨o_a1, ?_⟩
    refine m_X8_hasRoad hI o_a1 (fun x11 S12 hI2 g13 b_x11 p_x11 => ?_)
    obtain ⟨z_S12, p_x11⟩ := p_x11
    subst z_S12
    intro _ _
    have bb_x11 : x11 = 0 ∨ x11 = 1 := b_x11
    refine ⟨fun c15 => ?_, fun c15 => ?_⟩
    · refine u_X9_driest_29 ?_
      refine ⟨o_v0, ?_⟩
      refine u_X9_refuse ?_
      refine u_X9_refuse_0 ?_
      refine ⟨o_v0, ?_⟩
      intro S16 eS16
      have hI : IV S16 := by rw [eS16]; exact iv_sI hI o_v0 (by decide) (nu_free (by decide))
      have f0 := fr_I eS16 g0 f0 o_v0 (by decide)
      obtain ⟨y17, hy17⟩ : ∃ z : Int32, z = (1 : Int32) := ⟨_, rfl⟩
      have d_y17 := rd_Is eS16 hy17
      have ea1 := rf_I eS16 ea1
      have g0 := gr_I eS16 g0
      have o_a1 := ob_I eS16 o_a1
      have o_v0 := ob_I eS16 o_v0
      intro _
      exact hq _ _ hI g0 f0
    · refine m_X9_isWay hI (fun x19 S20 hI2 g21 b_x19 p_x19 => ?_)
      obtain ⟨z_S20, p_x19⟩ := p_x19
      subst z_S20
      intro _ _
      have bb_x19 : x19 = 0 ∨ x19 = 1 := b_x19
      refine ⟨fun c23 => ?_, fun c23 => ?_⟩
      · refine ⟨a1, ea1, ?_⟩
        refine ⟨o_a1, ?_⟩
        intro x25 ex25
        have r_x25 : (0 : Int32) ≤ x25 ∧ x25 ≤ (6 : Int32) := by rw [ex25]; exact nu 11 rfl hI o_a1
        have d_x25 := ex25
        refine ⟨fun c26 => ?_, fun c26 => ?_⟩
        · refine i_X9_driest_63 (fun (y0 : Nat) (y1 : Int32) (y2 : Int32) (y3 : Int32) (y4 : Int32) (y5 : Int64) (y7 : Int32) (Z : HS) => ((2147483647 : Int32).toInt - y7.toInt).toNat) (fun (y0 : Nat) (y1 : Int32) (y2 : Int32) (y3 : Int32) (y4 : Int32) (y5 : Int64) (y7 : Int32) (Z : HS) => (IV Z) ∧ (Gr S Z) ∧ (FRI [] [] S Z) ∧ (v0 = y0) ∧ (v1 = y1) ∧ (v2 = y2) ∧ (v3 = y3) ∧ (0 ≤ y7)) ?_ _ _ _ _ _ _ _ _ ⟨hI, (gr_rf _), (fri_rf _ _ _), rfl, rfl, rfl, rfl, (q1395 p_x2 bb_x2 c6 p_x11 bb_x11 c15 p_x19 bb_x19 c23 r_x25 c26)⟩
          intro w31 w33 w35 w37 w39 w40 w41 S28 X42 ⟨hI, gL29, fL30, q32, q34, q36, q38, i1u27⟩ ih43
          subst q32
          subst q34
          subst q36
          subst q38
          have d_x25 := d_x25.trans (fri_at fL30 (by decide) (by decide) o_a1).symm
          have ea1 := (frr_at fL30 (by decide) (by decide) o_v0).trans ea1
          have f0 := fri_tr (S := S) g0 f0 fL30 (by decide) (by decide)
          have o_a1 := gr_ob gL29 o_a1
          have o_v0 := gr_ob gL29 o_v0
          have g0 := gr_tr (T := S) g0 gL29
          refine u_X9_driest_63 ?_
          refine ⟨o_v0, ?_⟩
          refine ⟨a1, ea1, ?_⟩
          refine ⟨o_a1, ?_⟩
          intro x45 ex45
          have r_x45 : (0 : Int32) ≤ x45 ∧ x45 ≤ (6 : Int32) := by rw [ex45]; exact nu 11 rfl hI o_a1
          have q_x45 : x45 = x25 := ex45.trans d_x25.symm
          have d_x45 := ex45
          refine ⟨fun c46 => ?_, fun c46 => ?_⟩
          · refine u_X9_grant ?_
            refine u_X9_grant_0 ?_
            refine ⟨o_v0, ?_⟩
            intro S47 eS47
            have hI : IV S47 := by rw [eS47]; exact iv_sI hI o_v0 (by decide) (nu_free (by decide))
            have f0 := fr_I eS47 g0 f0 o_v0 (by decide)
            have d_x45 := rd_Ik eS47 o_v0 o_a1 (by decide) d_x45
            obtain ⟨y48, hy48⟩ : ∃ z : Int32, z = (0 : Int32) := ⟨_, rfl⟩
            have d_y48 := rd_Is eS47 hy48
            have ea1 := rf_I eS47 ea1
            have g0 := gr_I eS47 g0
            have o_a1 := ob_I eS47 o_a1
            have o_v0 := ob_I eS47 o_v0
            intro _
            exact hq _ _ hI g0 f0
          · refine ⟨a1, ea1, ?_⟩
            refine ⟨o_a1, ?_⟩
            obtain ⟨a51, ea51, o_a51, l_a51⟩ := shl 15 rfl hI o_a1
            refine ⟨a51, ea51, ?_⟩
            refine ⟨o_a51, ?_⟩
            have i53 : vp_in w41 (hN _ a51) := (vin l_a51 (m := 6) (by decide) (q1396 p_x2 bb_x2 c6 p_x11 bb_x11 c15 p_x19 bb_x19 c23 r_x25 c26 i1u27 r_x45 q_x45 c46))
            obtain ⟨a52, ea52, o_a52⟩ := ae hI o_a51 (by decide) (by decide) i53
            replace o_a52 : ob _ a52 3 := o_a52
            refine ⟨i53, a52, ea52, ?_⟩
            obtain ⟨a54, ea54, o_a54, -⟩ := sh 3 rfl hI o_v0
            refine ⟨a54, ea54, ?_⟩
            refine ⟨a1, ea1, ?_⟩
            refine ⟨o_a1, ?_⟩
            obtain ⟨a56, ea56, o_a56, l_a56⟩ := shl 18 rfl hI o_a1
            refine ⟨a56, ea56, ?_⟩
            refine ⟨o_a56, ?_⟩
            have i58 : vp_in v1 (hN _ a56) := (vin l_a56 (m := 4) (by decide) (q1397 p_x2 bb_x2 c6 p_x11 bb_x11 c15 p_x19 bb_x19 c23 r_x25 c26 i1u27 r_x45 q_x45 c46))
            obtain ⟨a57, ea57, o_a57⟩ := ae hI o_a56 (by decide) (by decide) i58
            replace o_a57 : ob _ a57 6 := o_a57
            refine ⟨i58, a57, ea57, ?_⟩
            refine ⟨a1, ea1, ?_⟩
            refine ⟨o_a1, ?_⟩
            obtain ⟨a60, ea60, o_a60, l_a60⟩ := shl 17 rfl hI o_a1
            refine ⟨a60, ea60, ?_⟩
            refine ⟨o_a60, ?_⟩
            have i62 : vp_in v2 (hN _ a60) := (vin l_a60 (m := 12) (by decide) (q1398 p_x2 bb_x2 c6 p_x11 bb_x11 c15 p_x19 bb_x19 c23 r_x25 c26 i1u27 r_x45 q_x45 c46))
            obtain ⟨a61, ea61, o_a61⟩ := ae hI o_a60 (by decide) (by decide) i62
            replace o_a61 : ob _ a61 5 := o_a61
            refine ⟨i62, a61, ea61, ?_⟩
            refine ⟨o_a54, ?_⟩
            refine m_X1_leastWet hI o_a54 o_a57 o_a61 o_a52 (fun x63 S64 hJ g65 fc66 => ?_)
            have hI := hJ
            have l_a51 := (gr_len g65 o_a51).trans l_a51
            have l_a56 := (gr_len g65 o_a56).trans l_a56
            have l_a60 := (gr_len g65 o_a60).trans l_a60
            have d_x45 := d_x45.trans (fri_at fc66 (by decide) (by decide) o_a1).symm
            have ea1 := (frr_at fc66 (by decide) (by decide) o_v0).trans ea1
            have ea51 := (frr_at fc66 (by decide) (by decide) o_a1).trans ea51
            have ea54 := (frr_at fc66 (by decide) (by decide) o_v0).trans ea54
            have ea56 := (frr_at fc66 (by decide) (by decide) o_a1).trans ea56
            have ea60 := (frr_at fc66 (by decide) (by decide) o_a1).trans ea60
            have f0 := fri_tr (S := S28) g0 f0 fc66 (by decide) (by decide)
            have fL30 := fri_tr (S := S28) gL29 fL30 fc66 (by decide) (by decide)
            have o_a1 := gr_ob g65 o_a1
            have o_a51 := gr_ob g65 o_a51
            have o_a52 := gr_ob g65 o_a52
            have o_a54 := gr_ob g65 o_a54
            have o_a56 := gr_ob g65 o_a56
            have o_a57 := gr_ob g65 o_a57
            have o_a60 := gr_ob g65 o_a60
            have o_a61 := gr_ob g65 o_a61
            have o_v0 := gr_ob g65 o_v0
            have g0 := gr_tr (T := S28) g0 g65
            have gL29 := gr_tr (T := S28) gL29 g65
            intro _
            refine ⟨o_a52, ?_⟩
            intro x67 ex67
            have d_x67 := ex67
            intro x68 ex68
            refine ⟨fun c69 => ?_, fun c69 => ?_⟩
            · refine u_X9_driest_140 ?_
              intro x70 ex70
              exact ih43 _ _ _ _ _ _ _ _ ⟨hI, gL29, fL30, rfl, rfl, rfl, rfl, (q1399 p_x2 bb_x2 c6 p_x11 bb_x11 c15 p_x19 bb_x19 c23 r_x25 c26 i1u27 r_x45 q_x45 c46 c69 ex70)⟩ (mu_up (q1400 p_x2 bb_x2 c6 p_x11 bb_x11 c15 p_x19 bb_x19 c23 r_x25 c26 i1u27 r_x45 q_x45 c46 c69 ex70) (q1401 p_x2 bb_x2 c6 p_x11 bb_x11 c15 p_x19 bb_x19 c23 r_x25 c26 i1u27 r_x45 q_x45 c46 c69 ex70))
            · refine u_X9_driest_140 ?_
              intro x71 ex71
              exact ih43 _ _ _ _ _ _ _ _ ⟨hI, gL29, fL30, rfl, rfl, rfl, rfl, (q1402 p_x2 bb_x2 c6 p_x11 bb_x11 c15 p_x19 bb_x19 c23 r_x25 c26 i1u27 r_x45 q_x45 c46 c69 ex71)⟩ (mu_up (q1403 p_x2 bb_x2 c6 p_x11 bb_x11 c15 p_x19 bb_x19 c23 r_x25 c26 i1u27 r_x45 q_x45 c46 c69 ex71) (q1404 p_x2 bb_x2 c6 p_x11 bb_x11 c15 p_x19 bb_x19 c23 r_x25 c26 i1u27 r_x45 q_x45 c46 c69 ex71))
        · refine u_X9_refuse ?_
          refine u_X9_refuse_0 ?_
          refine ⟨o_v0, ?_⟩
          intro S72 eS72
          have hI : IV S72 := by rw [eS72]; exact iv_sI hI o_v0 (by decide) (nu_free (by decide))
          have f0 := fr_I eS72 g0 f0 o_v0 (by decide)
          have d_x25 := rd_Ik eS72 o_v0 o_a1 (by decide) d_x25
          obtain ⟨y73, hy73⟩ : ∃ z : Int32, z = (6 : Int32) := ⟨_, rfl⟩
          have d_y73 := rd_Is eS72 hy73
          have ea1 := rf_I eS72 ea1
          have g0 := gr_I eS72 g0
          have o_a1 := ob_I eS72 o_a1
          have o_v0 := ob_I eS72 o_v0
          intro _
          exact hq _ _ hI g0 f0
      · refine u_X9_driest_29 ?_
        refine ⟨o_v0, ?_⟩
        refine u_X9_refuse ?_
        refine u_X9_refuse_0 ?_
        refine ⟨o_v0, ?_⟩
        intro S75 eS75
        have hI : IV S75 := by rw [eS75]; exact iv_sI hI o_v0 (by decide) (nu_free (by decide))
        have f0 := fr_I eS75 g0 f0 o_v0 (by decide)
        obtain ⟨y76, hy76⟩ : ∃ z : Int32, z = (1 : Int32) := ⟨_, rfl⟩
        have d_y76 := rd_Is eS75 hy76
        have ea1 := rf_I eS75 ea1
        have g0 := gr_I eS75 g0
        have o_a1 := ob_I eS75 o_a1
        have o_v0 := ob_I eS75 o_v0
        intro _
        exact hq _ _ hI g0 f0
