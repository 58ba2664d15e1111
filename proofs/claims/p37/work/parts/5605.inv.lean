set_option maxHeartbeats 4000000 in
set_option maxRecDepth 20000 in
theorem m_X11_fitOf {v0 : Nat} {v1 : Int32} {v2 : Int32} {Q : Int32 → HS → Prop} {S : HS} (hI : IV S) (o_v0 : ob S v0 11)     (hwi1 : WI S v0 5 v1) (hq : ∀ (r : Int32) (T : HS), IV T → Gr S T → (S = T) → Q r T) : P_X11_fitOf v0 v1 v2 Q S := by
  have g0 := gr_rf S
  obtain ⟨a1, ea1, hx1⟩ := hwi1
  have o_a1 := ml_ob hI o_v0 ea1
  obtain ⟨kv2, d_kv2⟩ : ∃ z : Int32, z = fI S a1 5 := ⟨_, rfl⟩
  have r_kv2 : (0 : Int32) ≤ kv2 ∧ kv2 ≤ (4 : Int32) := by rw [d_kv2]; exact nu 21 rfl hI o_a1
  have hwi1 : 0 ≤ v1 ∧ v1 < kv2 := by rw [d_kv2]; exact hx1
  refine u_X11_fitOf ?_
  refine u_X11_fitOf_0 ?_
  refine ⟨o_v0, ?_⟩
  refine ⟨a1, ea1, ?_⟩
  refine ⟨o_a1, ?_⟩
  obtain ⟨a4, ea4, o_a4, l_a4⟩ := shl 48 rfl hI o_a1
  refine ⟨a4, ea4, ?_⟩
  refine ⟨o_a4, ?_⟩
  refine ⟨(vin l_a4 (m := 4) (by decide) (qm566 r_kv2 hwi1)), ?_⟩
  intro x5 ex5
  have gy_x5 : 0 ≤ v1 ∧ v1 < fI S a1 5 := by rw [← d_kv2]; exact (qm567 r_kv2 hwi1)
  have g_x5 : (0 : Int32) ≤ x5 ∧ x5 ≤ (3 : Int32) := by rw [ex5]; exact wg_at (ml_wg hI o_v0 ea1) 5 rfl gy_x5 ea4
  obtain ⟨kv6, d_kv6⟩ : ∃ z : Int32, z = fI S a1 4 := ⟨_, rfl⟩
  have r_kv6 : (0 : Int32) ≤ kv6 ∧ kv6 ≤ (4 : Int32) := by rw [d_kv6]; exact nu 20 rfl hI o_a1
  have gl_x5 : x5 < kv6 := by rw [ex5, d_kv6]; exact wg_lt (ml_wg hI o_v0 ea1) 5 rfl (by decide) gy_x5 ea4
  refine i_X11_fitOf_16 (fun (y0 : Nat) (y1 : Int32) (y2 : Int32) (y3 : Int32) (y4 : Int32) (y5 : Int32) (Z : HS) => ((2147483647 : Int32).toInt - y5.toInt).toNat) (fun (y0 : Nat) (y1 : Int32) (y2 : Int32) (y3 : Int32) (y4 : Int32) (y5 : Int32) (Z : HS) => (S = Z) ∧ (v0 = y0) ∧ (v1 = y1) ∧ (v2 = y2) ∧ (x5 = y3) ∧ (0 ≤ y5)) ?_ _ _ _ _ _ _ _ ⟨rfl, rfl, rfl, rfl, rfl, (qm8)⟩
  intro w11 w13 w15 w17 w19 w20 S8 X21 ⟨eS8, q12, q14, q16, q18, i1u7⟩ ih22
  subst q12
  subst q14
  subst q16
  subst q18
  subst eS8
  refine u_X11_fitOf_16 ?_
  refine ⟨o_v0, ?_⟩
  refine ⟨a1, ea1, ?_⟩
  refine ⟨o_a1, ?_⟩
  intro x24 ex24
  have r_x24 : (0 : Int32) ≤ x24 ∧ x24 ≤ (12 : Int32) := by rw [ex24]; exact nu 19 rfl hI o_a1
  have d_x24 := ex24
  refine ⟨fun c25 => ?_, fun c25 => ?_⟩
  · refine ⟨fun c26 => ?_, fun c26 => ?_⟩
    · exact hq _ _ hI g0 rfl
    · exact hq _ _ hI g0 rfl
  · refine i_X11_fitOf_31 (fun (y0 : Nat) (y1 : Int32) (y2 : Int32) (y3 : Int32) (y4 : Int32) (y5 : Int32) (y6 : Int32) (Z : HS) => ((2147483647 : Int32).toInt - y6.toInt).toNat) (fun (y0 : Nat) (y1 : Int32) (y2 : Int32) (y3 : Int32) (y4 : Int32) (y5 : Int32) (y6 : Int32) (Z : HS) => (S = Z) ∧ (v0 = y0) ∧ (v1 = y1) ∧ (v2 = y2) ∧ (x5 = y3) ∧ (w20 = y5) ∧ (0 ≤ y6)) ?_ _ _ _ _ _ _ _ _ ⟨rfl, rfl, rfl, rfl, rfl, rfl, (qm568 i1u7 r_x24 c25)⟩
    intro w31 w33 w35 w37 w39 w40 w42 S28 X43 ⟨eS28, q32, q34, q36, q38, q41, i1u27⟩ ih44
    subst q32
    subst q34
    subst q36
    subst q38
    subst q41
    subst eS28
    refine u_X11_fitOf_31 ?_
    refine ⟨fun c45 => ?_, fun c45 => ?_⟩
    · intro x46 ex46
      exact ih22 _ _ _ _ _ _ _ ⟨rfl, rfl, rfl, rfl, rfl, (qm569 i1u7 r_x24 c25 i1u27 c45 ex46)⟩ (mu_up (qm570 i1u7 r_x24 c25 i1u27 c45 ex46) (qm571 i1u7 r_x24 c25 i1u27 c45 ex46))
    · refine i_X11_fitOf_40 (fun (y0 : Nat) (y1 : Int32) (y2 : Int32) (y3 : Int32) (y4 : Int32) (y5 : Int32) (y6 : Int32) (y7 : Int32) (Z : HS) => ((2147483647 : Int32).toInt - y7.toInt).toNat) (fun (y0 : Nat) (y1 : Int32) (y2 : Int32) (y3 : Int32) (y4 : Int32) (y5 : Int32) (y6 : Int32) (y7 : Int32) (Z : HS) => (S = Z) ∧ (v0 = y0) ∧ (v1 = y1) ∧ (v2 = y2) ∧ (x5 = y3) ∧ (w20 = y5) ∧ (w42 = y6) ∧ (0 ≤ y7)) ?_ _ _ _ _ _ _ _ _ _ ⟨rfl, rfl, rfl, rfl, rfl, rfl, rfl, (qm572 i1u7 r_x24 c25 i1u27 c45)⟩
      intro w51 w53 w55 w57 w59 w60 w62 w64 S48 X65 ⟨eS48, q52, q54, q56, q58, q61, q63, i1u47⟩ ih66
      subst q52
      subst q54
      subst q56
      subst q58
      subst q61
      subst q63
      subst eS48
      refine u_X11_fitOf_40 ?_
      refine ⟨o_v0, ?_⟩
      refine ⟨a1, ea1, ?_⟩
      refine ⟨o_a1, ?_⟩
      intro x68 ex68
      have r_x68 : (0 : Int32) ≤ x68 ∧ x68 ≤ (6 : Int32) := by rw [ex68]; exact nu 17 rfl hI o_a1
      have d_x68 := ex68
      refine ⟨fun c69 => ?_, fun c69 => ?_⟩
      · intro x70 ex70
        exact ih44 _ _ _ _ _ _ _ _ ⟨rfl, rfl, rfl, rfl, rfl, rfl, (qm573 i1u7 r_x24 c25 i1u27 c45 i1u47 r_x68 c69 ex70)⟩ (mu_up (qm574 i1u7 r_x24 c25 i1u27 c45 i1u47 r_x68 c69 ex70) (qm575 i1u7 r_x24 c25 i1u27 c45 i1u47 r_x68 c69 ex70))
      · refine ⟨a1, ea1, ?_⟩
        refine ⟨o_a1, ?_⟩
        obtain ⟨a72, ea72, o_a72, l_a72⟩ := shl 46 rfl hI o_a1
        refine ⟨a72, ea72, ?_⟩
        refine ⟨o_a72, ?_⟩
        refine ⟨(vin l_a72 (m := 4) (by decide) (qm576 g_x5 r_kv6 gl_x5 i1u7 r_x24 c25 i1u27 c45 i1u47 r_x68 c69)), ?_⟩
        intro x73 ex73
        have gy_x73 : 0 ≤ x5 ∧ x5 < fI S a1 4 := by rw [← d_kv6]; exact (qm577 g_x5 r_kv6 gl_x5 i1u7 r_x24 c25 i1u27 c45 i1u47 r_x68 c69)
        have g_x73 : (1 : Int32) ≤ x73 ∧ x73 ≤ (9 : Int32) := by rw [ex73]; exact wg_at (ml_wg hI o_v0 ea1) 3 rfl gy_x73 ea72
        refine i_X11_fitOf_63 (fun (y0 : Nat) (y1 : Int32) (y2 : Int32) (y3 : Int32) (y4 : Int32) (y5 : Int32) (y6 : Int32) (y7 : Int32) (y8 : Int32) (Z : HS) => ((2147483647 : Int32).toInt - y8.toInt).toNat) (fun (y0 : Nat) (y1 : Int32) (y2 : Int32) (y3 : Int32) (y4 : Int32) (y5 : Int32) (y6 : Int32) (y7 : Int32) (y8 : Int32) (Z : HS) => (S = Z) ∧ (v0 = y0) ∧ (v1 = y1) ∧ (v2 = y2) ∧ (x5 = y3) ∧ (w20 = y5) ∧ (w42 = y6) ∧ (w64 = y7) ∧ (1 ≤ y8)) ?_ _ _ _ _ _ _ _ _ _ _ ⟨rfl, rfl, rfl, rfl, rfl, rfl, rfl, rfl, (qm578 i1u7 r_x24 c25 i1u27 c45 i1u47 r_x68 c69 g_x73)⟩
        intro w78 w80 w82 w84 w86 w87 w89 w91 w93 S75 X94 ⟨eS75, q79, q81, q83, q85, q88, q90, q92, i1u74⟩ ih95
        subst q79
        subst q81
        subst q83
        subst q85
        subst q88
        subst q90
        subst q92
        subst eS75
        refine u_X11_fitOf_63 ?_
        refine ⟨o_v0, ?_⟩
        refine ⟨a1, ea1, ?_⟩
        refine ⟨o_a1, ?_⟩
        obtain ⟨a97, ea97, o_a97, l_a97⟩ := shl 47 rfl hI o_a1
        refine ⟨a97, ea97, ?_⟩
        refine ⟨o_a97, ?_⟩
        refine ⟨(vin l_a97 (m := 4) (by decide) (qm576 g_x5 r_kv6 gl_x5 i1u7 r_x24 c25 i1u27 c45 i1u47 r_x68 c69)), ?_⟩
        intro x98 ex98
        have gy_x98 : 0 ≤ x5 ∧ x5 < fI S a1 4 := by rw [← d_kv6]; exact (qm577 g_x5 r_kv6 gl_x5 i1u7 r_x24 c25 i1u27 c45 i1u47 r_x68 c69)
        have g_x98 : (0 : Int32) ≤ x98 ∧ x98 ≤ (9 : Int32) := by rw [ex98]; exact wg_at (ml_wg hI o_v0 ea1) 4 rfl gy_x98 ea97
        refine ⟨fun c99 => ?_, fun c99 => ?_⟩
        · intro x100 ex100
          exact ih66 _ _ _ _ _ _ _ _ _ ⟨rfl, rfl, rfl, rfl, rfl, rfl, rfl, (qm579 i1u7 r_x24 c25 i1u27 c45 i1u47 r_x68 c69 i1u74 g_x98 c99 ex100)⟩ (mu_up (qm580 i1u7 r_x24 c25 i1u27 c45 i1u47 r_x68 c69 i1u74 g_x98 c99 ex100) (qm581 i1u7 r_x24 c25 i1u27 c45 i1u47 r_x68 c69 i1u74 g_x98 c99 ex100))
        · refine i_X11_fitOf_83 (fun (y0 : Nat) (y1 : Int32) (y2 : Int32) (y3 : Int32) (y4 : Int32) (y5 : Int32) (y6 : Int32) (y7 : Int32) (y8 : Int32) (y9 : Int32) (y10 : Int32) (Z : HS) => ((2147483647 : Int32).toInt - y10.toInt).toNat) (fun (y0 : Nat) (y1 : Int32) (y2 : Int32) (y3 : Int32) (y4 : Int32) (y5 : Int32) (y6 : Int32) (y7 : Int32) (y8 : Int32) (y9 : Int32) (y10 : Int32) (Z : HS) => (S = Z) ∧ (v0 = y0) ∧ (v1 = y1) ∧ (v2 = y2) ∧ (x5 = y3) ∧ (w86 = y4) ∧ (w20 = y5) ∧ (w42 = y6) ∧ (w64 = y7) ∧ (w93 = y8) ∧ (0 ≤ y10)) ?_ _ _ _ _ _ _ _ _ _ _ _ _ ⟨rfl, rfl, rfl, rfl, rfl, rfl, rfl, rfl, rfl, rfl, (qm582 i1u7 r_x24 c25 i1u27 c45 i1u47 r_x68 c69 i1u74 g_x98 c99)⟩
          intro w105 w107 w109 w111 w113 w115 w117 w119 w121 w123 w124 S102 X125 ⟨eS102, q106, q108, q110, q112, q114, q116, q118, q120, q122, i1u101⟩ ih126
          subst q106
          subst q108
          subst q110
          subst q112
          subst q114
          subst q116
          subst q118
          subst q120
          subst q122
          subst eS102
          refine u_X11_fitOf_83 ?_
          refine ⟨fun c127 => ?_, fun c127 => ?_⟩
          · refine ⟨fun c128 => ?_, fun c128 => ?_⟩
            · refine ⟨fun c129 => ?_, fun c129 => ?_⟩
              · intro x130 ex130
                refine u_X11_fitOf_184 ?_
                intro x131 ex131
                exact ih95 _ _ _ _ _ _ _ _ _ _ ⟨rfl, rfl, rfl, rfl, rfl, rfl, rfl, rfl, (qm583 i1u7 r_x24 c25 i1u27 c45 i1u47 r_x68 c69 i1u74 g_x98 c99 i1u101 c127 c128 c129 ex130 ex131)⟩ (mu_up (qm584 i1u7 r_x24 c25 i1u27 c45 i1u47 r_x68 c69 i1u74 g_x98 c99 i1u101 c127 c128 c129 ex130 ex131) (qm585 i1u7 r_x24 c25 i1u27 c45 i1u47 r_x68 c69 i1u74 g_x98 c99 i1u101 c127 c128 c129 ex130 ex131))
              · exact hq _ _ hI g0 rfl
            · refine u_X11_fitOf_184 ?_
              intro x132 ex132
              exact ih95 _ _ _ _ _ _ _ _ _ _ ⟨rfl, rfl, rfl, rfl, rfl, rfl, rfl, rfl, (qm586 i1u7 r_x24 c25 i1u27 c45 i1u47 r_x68 c69 i1u74 g_x98 c99 i1u101 c127 c128 ex132)⟩ (mu_up (qm587 i1u7 r_x24 c25 i1u27 c45 i1u47 r_x68 c69 i1u74 g_x98 c99 i1u101 c127 c128 ex132) (qm588 i1u7 r_x24 c25 i1u27 c45 i1u47 r_x68 c69 i1u74 g_x98 c99 i1u101 c127 c128 ex132))
          · refine ⟨fun c133 => ?_, fun c133 => ?_⟩
            · refine u_X11_fitOf_136 ?_
              refine u_X11_fitOf_137 ?_
              intro x134 ex134
              exact ih126 _ _ _ _ _ _ _ _ _ _ _ _ ⟨rfl, rfl, rfl, rfl, rfl, rfl, rfl, rfl, rfl, rfl, (qm589 i1u7 r_x24 c25 i1u27 c45 i1u47 r_x68 c69 i1u74 g_x98 c99 i1u101 c127 c133 ex134)⟩ (mu_up (qm590 i1u7 r_x24 c25 i1u27 c45 i1u47 r_x68 c69 i1u74 g_x98 c99 i1u101 c127 c133 ex134) (qm591 i1u7 r_x24 c25 i1u27 c45 i1u47 r_x68 c69 i1u74 g_x98 c99 i1u101 c127 c133 ex134))
            · refine ⟨o_v0, ?_⟩
              refine m_X11_partsOf hI o_v0 (qm592 g_x5 r_kv6 gl_x5 i1u7 r_x24 c25 i1u27 c45 i1u47 r_x68 c69 i1u74 g_x98 c99 i1u101 c127 c133) (qm593 i1u7 r_x24 c25 i1u27 c45 i1u47 r_x68 c69 i1u74 g_x98 c99 i1u101 c127 c133) (qm594 i1u7 r_x24 c25 i1u27 c45 i1u47 r_x68 c69 i1u74 g_x98 c99 i1u101 c127 c133) (qm595 i1u7 r_x24 c25 i1u27 c45 i1u47 r_x68 c69 i1u74 g_x98 c99 i1u101 c127 c133) ⟨_, ea1⟩ (fun x135 S136 hI2 g137 p_x135 => ?_)
              subst p_x135
              intro _
              refine ⟨a1, ea1, ?_⟩
              refine ⟨o_a1, ?_⟩
              obtain ⟨a140, ea140, o_a140, l_a140⟩ := shl 49 rfl hI o_a1
              refine ⟨a140, ea140, ?_⟩
              refine ⟨o_a140, ?_⟩
              intro x141 ex141
              refine ⟨(vin l_a140 (m := 20) (by decide) (qm596 r_kv2 hwi1 i1u7 r_x24 c25 i1u27 c45 i1u47 r_x68 c69 i1u74 g_x98 c99 i1u101 c127 c133 ex141)), ?_⟩
              intro x142 ex142
              refine ⟨fun c143 => ?_, fun c143 => ?_⟩
              · refine u_X11_fitOf_136 ?_
                refine u_X11_fitOf_137 ?_
                intro x144 ex144
                exact ih126 _ _ _ _ _ _ _ _ _ _ _ _ ⟨rfl, rfl, rfl, rfl, rfl, rfl, rfl, rfl, rfl, rfl, (qm597 r_kv2 hwi1 i1u7 r_x24 c25 i1u27 c45 i1u47 r_x68 c69 i1u74 g_x98 c99 i1u101 c127 c133 ex141 c143 ex144)⟩ (mu_up (qm598 r_kv2 hwi1 i1u7 r_x24 c25 i1u27 c45 i1u47 r_x68 c69 i1u74 g_x98 c99 i1u101 c127 c133 ex141 c143 ex144) (qm599 r_kv2 hwi1 i1u7 r_x24 c25 i1u27 c45 i1u47 r_x68 c69 i1u74 g_x98 c99 i1u101 c127 c133 ex141 c143 ex144))
              · refine u_X11_fitOf_137 ?_
                intro x145 ex145
                exact ih126 _ _ _ _ _ _ _ _ _ _ _ _ ⟨rfl, rfl, rfl, rfl, rfl, rfl, rfl, rfl, rfl, rfl, (qm600 r_kv2 hwi1 i1u7 r_x24 c25 i1u27 c45 i1u47 r_x68 c69 i1u74 g_x98 c99 i1u101 c127 c133 ex141 c143 ex145)⟩ (mu_up (qm601 r_kv2 hwi1 i1u7 r_x24 c25 i1u27 c45 i1u47 r_x68 c69 i1u74 g_x98 c99 i1u101 c127 c133 ex141 c143 ex145) (qm602 r_kv2 hwi1 i1u7 r_x24 c25 i1u27 c45 i1u47 r_x68 c69 i1u74 g_x98 c99 i1u101 c127 c133 ex141 c143 ex145))
set_option maxHeartbeats 4000000 in
set_option maxRecDepth 20000 in
theorem m_X11_fit {v0 : Nat} {v1 : Int32} {v2 : Int32} {Q : Int32 → HS → Prop} {S : HS} (hI : IV S) (o_v0 : ob S v0 11)     (hq : ∀ (r : Int32) (T : HS), IV T → Gr S T → FRI [(11, 0), (11, 1), (11, 2)] [] S T → Q r T) : P_X11_fit v0 v1 v2 Q S := by
  have g0 := gr_rf S
  have f0 := fri_rf [(11, 0), (11, 1), (11, 2)] [] S
  refine u_X11_fit ?_
  refine u_X11_fit_0 ?_
  refine ⟨o_v0, ?_⟩
  intro S1 eS1
  have hIn : IV S1 := by rw [eS1]; exact iv11_sI hI o_v0 (by decide) (nu_free (by decide))
  have hI := hIn
  have f0 := fr_I eS1 g0 f0 o_v0 (by decide)
  obtain ⟨kv2, hkv2⟩ : ∃ z : Int32, z = (0 : Int32) := ⟨_, rfl⟩
  have d_kv2 := rd_Is eS1 hkv2
  have g0 := gr_I eS1 g0
  have o_v0 := ob_I eS1 o_v0
  refine u_X11_isSeen ?_
  refine u_X11_isSeen_0 ?_
  refine ⟨o_v0, ?_⟩
  refine ⟨fun e4 => ?_, fun a3 ea3 => ?_⟩
  · intro _ _
    refine ⟨fun c6 => ?_, fun c6 => absurd (show ¬ (0 : Int32) = 0 from c6) (by decide)⟩
    refine u_X11_fit_26 ?_
    refine u_X11_fit_27 ?_
    refine ⟨fun c7 => absurd (show ¬ (-1 : Int32) = (-1 : Int32) from c7) (by decide), fun c7 => ?_⟩
    refine ⟨o_v0, ?_⟩
    refine u_X11_refused ?_
    refine u_X11_refused_0 ?_
    refine ⟨o_v0, ?_⟩
    intro S8 eS8
    have hIn : IV S8 := by rw [eS8]; exact iv11_sI hI o_v0 (by decide) (nu_free (by decide))
    have hI := hIn
    have f0 := fr_I eS8 g0 f0 o_v0 (by decide)
    have d_kv2 := rd_Ij eS8 (by decide) d_kv2
    obtain ⟨kv9, hkv9⟩ : ∃ z : Int32, z = (1 : Int32) := ⟨_, rfl⟩
    have d_kv9 := rd_Is eS8 hkv9
    have g0 := gr_I eS8 g0
    have o_v0 := ob_I eS8 o_v0
    intro S10 eS10
    have hIn : IV S10 := by rw [eS10]; exact iv11_sI hI o_v0 (by decide) (nu_free (by decide))
    have hI := hIn
    have f0 := fr_I eS10 g0 f0 o_v0 (by decide)
    have d_kv2 := rd_Ij eS10 (by decide) d_kv2
    have d_kv9 := rd_Ij eS10 (by decide) d_kv9
    obtain ⟨kv11, hkv11⟩ : ∃ z : Int32, z = (-1 : Int32) := ⟨_, rfl⟩
    have d_kv11 := rd_Is eS10 hkv11
    have g0 := gr_I eS10 g0
    have o_v0 := ob_I eS10 o_v0
    intro _
    exact hq _ _ hI g0 f0
  · have o_a3 := ml_ob hI o_v0 ea3
    refine ⟨fun c13 => ?_, fun c13 => ?_⟩
    · intro _ _
      refine ⟨fun c15 => ?_, fun c15 => absurd (show ¬ (0 : Int32) = 0 from c15) (by decide)⟩
      refine u_X11_fit_26 ?_
      refine u_X11_fit_27 ?_
      refine ⟨fun c16 => absurd (show ¬ (-1 : Int32) = (-1 : Int32) from c16) (by decide), fun c16 => ?_⟩
      refine ⟨o_v0, ?_⟩
      refine u_X11_refused ?_
      refine u_X11_refused_0 ?_
      refine ⟨o_v0, ?_⟩
      intro S17 eS17
      have hIn : IV S17 := by rw [eS17]; exact iv11_sI hI o_v0 (by decide) (nu_free (by decide))
      have hI := hIn
      have f0 := fr_I eS17 g0 f0 o_v0 (by decide)
      have d_kv2 := rd_Ij eS17 (by decide) d_kv2
      obtain ⟨kv18, hkv18⟩ : ∃ z : Int32, z = (1 : Int32) := ⟨_, rfl⟩
      have d_kv18 := rd_Is eS17 hkv18
      have ea3 := rf_I eS17 ea3
      have g0 := gr_I eS17 g0
      have o_a3 := ob_I eS17 o_a3
      have o_v0 := ob_I eS17 o_v0
      intro S19 eS19
      have hIn : IV S19 := by rw [eS19]; exact iv11_sI hI o_v0 (by decide) (nu_free (by decide))
      have hI := hIn
      have f0 := fr_I eS19 g0 f0 o_v0 (by decide)
      have d_kv2 := rd_Ij eS19 (by decide) d_kv2
      have d_kv18 := rd_Ij eS19 (by decide) d_kv18
      obtain ⟨kv20, hkv20⟩ : ∃ z : Int32, z = (-1 : Int32) := ⟨_, rfl⟩
      have d_kv20 := rd_Is eS19 hkv20
      have ea3 := rf_I eS19 ea3
      have g0 := gr_I eS19 g0
      have o_a3 := ob_I eS19 o_a3
      have o_v0 := ob_I eS19 o_v0
      intro _
      exact hq _ _ hI g0 f0
    · refine ⟨a3, ea3, ?_⟩
      refine ⟨o_a3, ?_⟩
      intro x23 ex23
      have r_x23 : (0 : Int32) ≤ x23 ∧ x23 ≤ (4 : Int32) := by rw [ex23]; exact nu 21 rfl hI o_a3
      have d_x23 := ex23
      refine ⟨fun c24 => ?_, fun c24 => ?_⟩
      · intro _ _
        refine ⟨fun c26 => ?_, fun c26 => absurd (show ¬ (0 : Int32) = 0 from c26) (by decide)⟩
        refine u_X11_fit_26 ?_
        refine u_X11_fit_27 ?_
        refine ⟨fun c27 => absurd (show ¬ (-1 : Int32) = (-1 : Int32) from c27) (by decide), fun c27 => ?_⟩
        refine ⟨o_v0, ?_⟩
        refine u_X11_refused ?_
        refine u_X11_refused_0 ?_
        refine ⟨o_v0, ?_⟩
        intro S28 eS28
        have hIn : IV S28 := by rw [eS28]; exact iv11_sI hI o_v0 (by decide) (nu_free (by decide))
        have hI := hIn
        have f0 := fr_I eS28 g0 f0 o_v0 (by decide)
        have d_kv2 := rd_Ij eS28 (by decide) d_kv2
        have d_x23 := rd_Ik eS28 o_v0 o_a3 (by decide) d_x23
        obtain ⟨kv29, hkv29⟩ : ∃ z : Int32, z = (1 : Int32) := ⟨_, rfl⟩
        have d_kv29 := rd_Is eS28 hkv29
        have ea3 := rf_I eS28 ea3
        have g0 := gr_I eS28 g0
        have o_a3 := ob_I eS28 o_a3
        have o_v0 := ob_I eS28 o_v0
        intro S30 eS30
        have hIn : IV S30 := by rw [eS30]; exact iv11_sI hI o_v0 (by decide) (nu_free (by decide))
        have hI := hIn
        have f0 := fr_I eS30 g0 f0 o_v0 (by decide)
        have d_kv2 := rd_Ij eS30 (by decide) d_kv2
        have d_x23 := rd_Ik eS30 o_v0 o_a3 (by decide) d_x23
        have d_kv29 := rd_Ij eS30 (by decide) d_kv29
        obtain ⟨kv31, hkv31⟩ : ∃ z : Int32, z = (-1 : Int32) := ⟨_, rfl⟩
        have d_kv31 := rd_Is eS30 hkv31
        have ea3 := rf_I eS30 ea3
        have g0 := gr_I eS30 g0
        have o_a3 := ob_I eS30 o_a3
        have o_v0 := ob_I eS30 o_v0
        intro _
        exact hq _ _ hI g0 f0
      · intro _ _
        refine ⟨fun c34 => absurd (show (1 : Int32) = 0 from c34) (by decide), fun c34 => ?_⟩
        refine ⟨fun c35 => ?_, fun c35 => ?_⟩
        · refine u_X11_fit_26 ?_
          refine u_X11_fit_27 ?_
          refine ⟨fun c36 => absurd (show ¬ (-1 : Int32) = (-1 : Int32) from c36) (by decide), fun c36 => ?_⟩
          refine ⟨o_v0, ?_⟩
          refine u_X11_refused ?_
          refine u_X11_refused_0 ?_
          refine ⟨o_v0, ?_⟩
          intro S37 eS37
          have hIn : IV S37 := by rw [eS37]; exact iv11_sI hI o_v0 (by decide) (nu_free (by decide))
          have hI := hIn
          have f0 := fr_I eS37 g0 f0 o_v0 (by decide)
          have d_kv2 := rd_Ij eS37 (by decide) d_kv2
          have d_x23 := rd_Ik eS37 o_v0 o_a3 (by decide) d_x23
          obtain ⟨kv38, hkv38⟩ : ∃ z : Int32, z = (1 : Int32) := ⟨_, rfl⟩
          have d_kv38 := rd_Is eS37 hkv38
          have ea3 := rf_I eS37 ea3
          have g0 := gr_I eS37 g0
          have o_a3 := ob_I eS37 o_a3
          have o_v0 := ob_I eS37 o_v0
          intro S39 eS39
          have hIn : IV S39 := by rw [eS39]; exact iv11_sI hI o_v0 (by decide) (nu_free (by decide))
          have hI := hIn
          have f0 := fr_I eS39 g0 f0 o_v0 (by decide)
          have d_kv2 := rd_Ij eS39 (by decide) d_kv2
          have d_x23 := rd_Ik eS39 o_v0 o_a3 (by decide) d_x23
          have d_kv38 := rd_Ij eS39 (by decide) d_kv38
          obtain ⟨kv40, hkv40⟩ : ∃ z : Int32, z = (-1 : Int32) := ⟨_, rfl⟩
          have d_kv40 := rd_Is eS39 hkv40
          have ea3 := rf_I eS39 ea3
          have g0 := gr_I eS39 g0
          have o_a3 := ob_I eS39 o_a3
          have o_v0 := ob_I eS39 o_v0
          intro _
          exact hq _ _ hI g0 f0
        · refine m_X11_fitOf hI o_v0 ⟨_, ea3, (qm603 c13 r_x23 c24 c35), (by rw [← d_x23]; exact (qm604 c13 r_x23 c24 c35))⟩ (fun x42 S43 hI2 g44 p_x42 => ?_)
          subst p_x42
          intro _
          refine u_X11_fit_27 ?_
          refine ⟨fun c46 => ?_, fun c46 => ?_⟩
          · refine ⟨o_v0, ?_⟩
            refine u_X11_good ?_
            refine u_X11_good_0 ?_
            refine ⟨o_v0, ?_⟩
            intro S47 eS47
            have hIn : IV S47 := by rw [eS47]; exact iv11_sI hI o_v0 (by decide) (nu_free (by decide))
            have hI := hIn
            have f0 := fr_I eS47 g0 f0 o_v0 (by decide)
            have d_kv2 := rd_Ij eS47 (by decide) d_kv2
            have d_x23 := rd_Ik eS47 o_v0 o_a3 (by decide) d_x23
            obtain ⟨kv48, hkv48⟩ : ∃ z : Int32, z = (0 : Int32) := ⟨_, rfl⟩
            have d_kv48 := rd_Is eS47 hkv48
            have ea3 := rf_I eS47 ea3
            have g0 := gr_I eS47 g0
            have o_a3 := ob_I eS47 o_a3
            have o_v0 := ob_I eS47 o_v0
            intro S49 eS49
            have hIn : IV S49 := by rw [eS49]; exact iv11_sI hI o_v0 (by decide) (nu_free (by decide))
            have hI := hIn
            have f0 := fr_I eS49 g0 f0 o_v0 (by decide)
            have d_kv2 := rd_Ij eS49 (by decide) d_kv2
            have d_x23 := rd_Ik eS49 o_v0 o_a3 (by decide) d_x23
            have d_kv48 := rd_Ij eS49 (by decide) d_kv48
            obtain ⟨kv50, hkv50⟩ : ∃ z : Int32, z = (-1 : Int32) := ⟨_, rfl⟩
            have d_kv50 := rd_Is eS49 hkv50
            have ea3 := rf_I eS49 ea3
            have g0 := gr_I eS49 g0
            have o_a3 := ob_I eS49 o_a3
            have o_v0 := ob_I eS49 o_v0
            intro _
            exact hq _ _ hI g0 f0
          · refine ⟨o_v0, ?_⟩
            refine u_X11_refused ?_
            refine u_X11_refused_0 ?_
            refine ⟨o_v0, ?_⟩
            intro S52 eS52
            have hIn : IV S52 := by rw [eS52]; exact iv11_sI hI o_v0 (by decide) (nu_free (by decide))
            have hI := hIn
            have f0 := fr_I eS52 g0 f0 o_v0 (by decide)
            have d_kv2 := rd_Ij eS52 (by decide) d_kv2
            have d_x23 := rd_Ik eS52 o_v0 o_a3 (by decide) d_x23
            obtain ⟨kv53, hkv53⟩ : ∃ z : Int32, z = (1 : Int32) := ⟨_, rfl⟩
            have d_kv53 := rd_Is eS52 hkv53
            have ea3 := rf_I eS52 ea3
            have g0 := gr_I eS52 g0
            have o_a3 := ob_I eS52 o_a3
            have o_v0 := ob_I eS52 o_v0
            intro S54 eS54
            have hIn : IV S54 := by rw [eS54]; exact iv11_sI hI o_v0 (by decide) (nu_free (by decide))
            have hI := hIn
            have f0 := fr_I eS54 g0 f0 o_v0 (by decide)
            have d_kv2 := rd_Ij eS54 (by decide) d_kv2
            have d_x23 := rd_Ik eS54 o_v0 o_a3 (by decide) d_x23
            have d_kv53 := rd_Ij eS54 (by decide) d_kv53
            obtain ⟨kv55, hkv55⟩ : ∃ z : Int32, z = (-1 : Int32) := ⟨_, rfl⟩
            have d_kv55 := rd_Is eS54 hkv55
            have ea3 := rf_I eS54 ea3
            have g0 := gr_I eS54 g0
            have o_a3 := ob_I eS54 o_a3
            have o_v0 := ob_I eS54 o_v0
            intro _
            exact hq _ _ hI g0 f0
set_option maxHeartbeats 4000000 in
set_option maxRecDepth 20000 in
theorem m_X11_fits {v0 : Nat} {v1 : Int32} {Q : Int32 → HS → Prop} {S : HS} (hI : IV S) (o_v0 : ob S v0 11)     (hq : ∀ (r : Int32) (T : HS), IV T → Gr S T → FRI [(11, 0), (11, 1), (11, 2)] [] S T → Q r T) : P_X11_fits v0 v1 Q S := by
  have g0 := gr_rf S
  have f0 := fri_rf [(11, 0), (11, 1), (11, 2)] [] S
  refine u_X11_fits ?_
  refine u_X11_fits_0 ?_
  refine ⟨o_v0, ?_⟩
  intro S1 eS1
  have hIn : IV S1 := by rw [eS1]; exact iv11_sI hI o_v0 (by decide) (nu_free (by decide))
  have hI := hIn
  have f0 := fr_I eS1 g0 f0 o_v0 (by decide)
  obtain ⟨kv2, hkv2⟩ : ∃ z : Int32, z = (0 : Int32) := ⟨_, rfl⟩
  have d_kv2 := rd_Is eS1 hkv2
  have g0 := gr_I eS1 g0
  have o_v0 := ob_I eS1 o_v0
  refine u_X11_isSeen ?_
  refine u_X11_isSeen_0 ?_
  refine ⟨o_v0, ?_⟩
  refine ⟨fun e4 => ?_, fun a3 ea3 => ?_⟩
  · intro _ _
    refine ⟨fun c6 => ?_, fun c6 => absurd (show ¬ (0 : Int32) = 0 from c6) (by decide)⟩
    refine u_X11_refused ?_
    refine u_X11_refused_0 ?_
    refine ⟨o_v0, ?_⟩
    intro S7 eS7
    have hIn : IV S7 := by rw [eS7]; exact iv11_sI hI o_v0 (by decide) (nu_free (by decide))
    have hI := hIn
    have f0 := fr_I eS7 g0 f0 o_v0 (by decide)
    have d_kv2 := rd_Ij eS7 (by decide) d_kv2
    obtain ⟨kv8, hkv8⟩ : ∃ z : Int32, z = (1 : Int32) := ⟨_, rfl⟩
    have d_kv8 := rd_Is eS7 hkv8
    have g0 := gr_I eS7 g0
    have o_v0 := ob_I eS7 o_v0
    intro S9 eS9
    have hIn : IV S9 := by rw [eS9]; exact iv11_sI hI o_v0 (by decide) (nu_free (by decide))
    have hI := hIn
    have f0 := fr_I eS9 g0 f0 o_v0 (by decide)
    have d_kv2 := rd_Ij eS9 (by decide) d_kv2
    have d_kv8 := rd_Ij eS9 (by decide) d_kv8
    obtain ⟨kv10, hkv10⟩ : ∃ z : Int32, z = (-1 : Int32) := ⟨_, rfl⟩
    have d_kv10 := rd_Is eS9 hkv10
    have g0 := gr_I eS9 g0
    have o_v0 := ob_I eS9 o_v0
    intro _
    exact hq _ _ hI g0 f0
  · have o_a3 := ml_ob hI o_v0 ea3
    refine ⟨fun c12 => ?_, fun c12 => ?_⟩
    · intro _ _
      refine ⟨fun c14 => ?_, fun c14 => absurd (show ¬ (0 : Int32) = 0 from c14) (by decide)⟩
      refine u_X11_refused ?_
      refine u_X11_refused_0 ?_
      refine ⟨o_v0, ?_⟩
      intro S15 eS15
      have hIn : IV S15 := by rw [eS15]; exact iv11_sI hI o_v0 (by decide) (nu_free (by decide))
      have hI := hIn
      have f0 := fr_I eS15 g0 f0 o_v0 (by decide)
      have d_kv2 := rd_Ij eS15 (by decide) d_kv2
      obtain ⟨kv16, hkv16⟩ : ∃ z : Int32, z = (1 : Int32) := ⟨_, rfl⟩
      have d_kv16 := rd_Is eS15 hkv16
      have ea3 := rf_I eS15 ea3
      have g0 := gr_I eS15 g0
      have o_a3 := ob_I eS15 o_a3
      have o_v0 := ob_I eS15 o_v0
      intro S17 eS17
      have hIn : IV S17 := by rw [eS17]; exact iv11_sI hI o_v0 (by decide) (nu_free (by decide))
      have hI := hIn
      have f0 := fr_I eS17 g0 f0 o_v0 (by decide)
      have d_kv2 := rd_Ij eS17 (by decide) d_kv2
      have d_kv16 := rd_Ij eS17 (by decide) d_kv16
      obtain ⟨kv18, hkv18⟩ : ∃ z : Int32, z = (-1 : Int32) := ⟨_, rfl⟩
      have d_kv18 := rd_Is eS17 hkv18
      have ea3 := rf_I eS17 ea3
      have g0 := gr_I eS17 g0
      have o_a3 := ob_I eS17 o_a3
      have o_v0 := ob_I eS17 o_v0
      intro _
      exact hq _ _ hI g0 f0
    · refine ⟨a3, ea3, ?_⟩
      refine ⟨o_a3, ?_⟩
      intro x21 ex21
      have r_x21 : (0 : Int32) ≤ x21 ∧ x21 ≤ (4 : Int32) := by rw [ex21]; exact nu 21 rfl hI o_a3
      have d_x21 := ex21
      refine ⟨fun c22 => ?_, fun c22 => ?_⟩
      · intro _ _
        refine ⟨fun c24 => ?_, fun c24 => absurd (show ¬ (0 : Int32) = 0 from c24) (by decide)⟩
        refine u_X11_refused ?_
        refine u_X11_refused_0 ?_
        refine ⟨o_v0, ?_⟩
        intro S25 eS25
        have hIn : IV S25 := by rw [eS25]; exact iv11_sI hI o_v0 (by decide) (nu_free (by decide))
        have hI := hIn
        have f0 := fr_I eS25 g0 f0 o_v0 (by decide)
        have d_kv2 := rd_Ij eS25 (by decide) d_kv2
        have d_x21 := rd_Ik eS25 o_v0 o_a3 (by decide) d_x21
        obtain ⟨kv26, hkv26⟩ : ∃ z : Int32, z = (1 : Int32) := ⟨_, rfl⟩
        have d_kv26 := rd_Is eS25 hkv26
        have ea3 := rf_I eS25 ea3
        have g0 := gr_I eS25 g0
        have o_a3 := ob_I eS25 o_a3
        have o_v0 := ob_I eS25 o_v0
        intro S27 eS27
        have hIn : IV S27 := by rw [eS27]; exact iv11_sI hI o_v0 (by decide) (nu_free (by decide))
        have hI := hIn
        have f0 := fr_I eS27 g0 f0 o_v0 (by decide)
        have d_kv2 := rd_Ij eS27 (by decide) d_kv2
        have d_x21 := rd_Ik eS27 o_v0 o_a3 (by decide) d_x21
        have d_kv26 := rd_Ij eS27 (by decide) d_kv26
        obtain ⟨kv28, hkv28⟩ : ∃ z : Int32, z = (-1 : Int32) := ⟨_, rfl⟩
        have d_kv28 := rd_Is eS27 hkv28
        have ea3 := rf_I eS27 ea3
        have g0 := gr_I eS27 g0
        have o_a3 := ob_I eS27 o_a3
        have o_v0 := ob_I eS27 o_v0
        intro _
        exact hq _ _ hI g0 f0
      · intro _ _
        refine ⟨fun c31 => absurd (show (1 : Int32) = 0 from c31) (by decide), fun c31 => ?_⟩
        refine m_X11_fitOf hI o_v0 ⟨_, ea3, (qm605 c12 r_x21 c22), (by rw [← d_x21]; exact (qm606 c12 r_x21 c22))⟩ (fun x32 S33 hI2 g34 p_x32 => ?_)
        subst p_x32
        intro _
        refine u_X11_good ?_
        refine u_X11_good_0 ?_
        refine ⟨o_v0, ?_⟩
        intro S36 eS36
        have hIn : IV S36 := by rw [eS36]; exact iv11_sI hI o_v0 (by decide) (nu_free (by decide))
        have hI := hIn
        have f0 := fr_I eS36 g0 f0 o_v0 (by decide)
        have d_kv2 := rd_Ij eS36 (by decide) d_kv2
        have d_x21 := rd_Ik eS36 o_v0 o_a3 (by decide) d_x21
        obtain ⟨kv37, hkv37⟩ : ∃ z : Int32, z = (0 : Int32) := ⟨_, rfl⟩
        have d_kv37 := rd_Is eS36 hkv37
        have ea3 := rf_I eS36 ea3
        have g0 := gr_I eS36 g0
        have o_a3 := ob_I eS36 o_a3
        have o_v0 := ob_I eS36 o_v0
        intro S38 eS38
        have hIn : IV S38 := by rw [eS38]; exact iv11_sI hI o_v0 (by decide) (nu_free (by decide))
        have hI := hIn
        have f0 := fr_I eS38 g0 f0 o_v0 (by decide)
        have d_kv2 := rd_Ij eS38 (by decide) d_kv2
        have d_x21 := rd_Ik eS38 o_v0 o_a3 (by decide) d_x21
        have d_kv37 := rd_Ij eS38 (by decide) d_kv37
        obtain ⟨kv39, hkv39⟩ : ∃ z : Int32, z = (-1 : Int32) := ⟨_, rfl⟩
        have d_kv39 := rd_Is eS38 hkv39
        have ea3 := rf_I eS38 ea3
        have g0 := gr_I eS38 g0
        have o_a3 := ob_I eS38 o_a3
        have o_v0 := ob_I eS38 o_v0
        intro _
        exact hq _ _ hI g0 f0
set_option maxHeartbeats 4000000 in
set_option maxRecDepth 20000 in
theorem m_X11_keeps {v0 : Nat} {Q : HS → Prop} {S : HS} (hI : IV S) (o_v0 : ob S v0 11)     (hq : ∀ (T : HS), IV T → Gr S T → FRI [(11, 24)] [] S T → (KP S T v0) → Q T) : P_X11_keeps v0 Q S := by
  have g0 := gr_rf S
  have f0 := fri_rf [(11, 24)] [] S
  have hP : KP S S v0 := kp_rf S v0
  refine u_X11_keeps ?_
  refine u_X11_keeps_0 ?_
  refine ⟨o_v0, ?_⟩
  intro x1 ex1
  have r_x1 : (0 : Int32) ≤ x1 ∧ x1 ≤ (16 : Int32) := by rw [ex1]; exact nu 27 rfl hI o_v0
  have d_x1 := ex1
  refine ⟨fun c2 => ?_, fun c2 => ?_⟩
  · refine u_X11_keeps_48 ?_
    refine i_X11_keeps_50 (fun (y0 : Nat) (y1 : Int32) (Z : HS) => ((7 : Int32).toInt - y1.toInt).toNat) (fun (y0 : Nat) (y1 : Int32) (Z : HS) => (IV Z) ∧ (Gr S Z) ∧ (FRI [] [] S Z) ∧ (v0 = y0) ∧ (KP S Z v0) ∧ (0 ≤ y1 ∧ y1 ≤ 7)) ?_ _ _ _ ⟨hI, (gr_rf _), (fri_rf _ _ _), rfl, hP, (qm200 r_x1 c2)⟩
    intro w7 w9 S4 X10 ⟨hI, gL5, fL6, q8, hP, i1u3⟩ ih11
    subst q8
    have d_x1 := d_x1.trans (fri_at fL6 (by decide) (by decide) o_v0).symm
    have f0 := fri_tr (S := S) g0 f0 fL6 (by decide) (by decide)
    have o_v0 := gr_ob gL5 o_v0
    have g0 := gr_tr (T := S) g0 gL5
    refine u_X11_keeps_50 ?_
    refine ⟨fun c12 => ?_, fun c12 => ?_⟩
    · refine ⟨o_v0, ?_⟩
      intro x13 ex13
      have r_x13 : (0 : Int32) ≤ x13 ∧ x13 ≤ (16 : Int32) := by rw [ex13]; exact nu 27 rfl hI o_v0
      have q_x13 : x13 = x1 := ex13.trans d_x1.symm
      have d_x13 := ex13
      intro x14 ex14
      intro S15 eS15
      have hIn : IV S15 := by rw [eS15]; exact iv11_sI hI o_v0 (by decide) (nu_one (lo := (0 : Int32)) (hi := (16 : Int32)) (by decide) (qm201 r_x1 c2 i1u3 c12 r_x13 q_x13 ex14))
      have hP := kp_I eS15 o_v0 (by decide) hP
      have hI := hIn
      have f0 := fr_I eS15 g0 f0 o_v0 (by decide)
      have d_x14 := rd_Is eS15 (rfl : x14 = x14)
      have g0 := gr_I eS15 g0
      have o_v0 := ob_I eS15 o_v0
      exact hq _ hI g0 f0 hP
    · refine ⟨o_v0, ?_⟩
      obtain ⟨a16, ea16, o_a16, l_a16⟩ := shl 58 rfl hI o_v0
      refine ⟨a16, ea16, ?_⟩
      intro x17 ex17
      have r_x17 : (0 : Int32) ≤ x17 ∧ x17 ≤ (16 : Int32) := by rw [ex17]; exact nu 27 rfl hI o_v0
      have q_x17 : x17 = x1 := ex17.trans d_x1.symm
      have d_x17 := ex17
      obtain ⟨a18, ea18, o_a18, l_a18⟩ := shl 57 rfl hI o_v0
      refine ⟨a18, ea18, ?_⟩
      refine ⟨o_a18, ?_⟩
      refine ⟨(vin l_a18 (m := 7) (by decide) (qm202 r_x1 c2 i1u3 c12 r_x17 q_x17)), ?_⟩
      intro x19 ex19
      have de_x19 := ml_de hI o_v0 (j := 21) (by decide) ea18 w9.toNatClampNeg
      rw [← ex19] at de_x19
      refine ⟨o_a16, ?_⟩
      have i20 : vp_in (((7 : Int32) * x17) + w9) (hN _ a16) := (vin l_a16 (m := 112) (by decide) (qm203 r_x1 c2 i1u3 c12 r_x17 q_x17))
      refine ⟨i20, ?_⟩
      intro S21 eS21
      have hIn : IV S21 := by rw [eS21]; exact iv11_aD hI (de_tr de_x19 (md_mul (a := x17) (k := w9) rfl (qm204 r_x1 c2 i1u3 c12 r_x17 q_x17) (qm205 r_x1 c2 i1u3 c12 r_x17 q_x17)))
      have hP := kp_J eS21 hI o_v0 ea16 hP
      have hI := hIn
      have f0 := fr_J eS21 f0
      have fL6 := fr_J eS21 fL6
      have d_x17 := rd_J eS21 d_x17
      have ea16 := rf_J eS21 ea16
      have ea18 := rf_J eS21 ea18
      have l_a16 := ln_J eS21 l_a16
      have l_a18 := ln_J eS21 l_a18
      have g0 := gr_J eS21 g0
      have gL5 := gr_J eS21 gL5
      have o_a16 := ob_J eS21 o_a16
      have o_a18 := ob_J eS21 o_a18
      have o_v0 := ob_J eS21 o_v0
      intro x22 ex22
      exact ih11 _ _ _ ⟨hI, gL5, fL6, rfl, hP, (qm206 r_x1 c2 i1u3 c12 r_x17 q_x17 ex22)⟩ (mu_up (qm207 r_x1 c2 i1u3 c12 r_x17 q_x17 ex22) (qm208 r_x1 c2 i1u3 c12 r_x17 q_x17 ex22))
  · refine i_X11_keeps_11 (fun (y0 : Nat) (y1 : Int32) (Z : HS) => ((105 : Int32).toInt - y1.toInt).toNat) (fun (y0 : Nat) (y1 : Int32) (Z : HS) => (IV Z) ∧ (Gr S Z) ∧ (FRI [] [] S Z) ∧ (v0 = y0) ∧ (KP S Z v0) ∧ (0 ≤ y1 ∧ y1 ≤ 105)) ?_ _ _ _ ⟨hI, (gr_rf _), (fri_rf _ _ _), rfl, hP, (qm209 r_x1 c2)⟩
    intro w27 w29 S24 X30 ⟨hI, gL25, fL26, q28, hP, i1u23⟩ ih31
    subst q28
    have d_x1 := d_x1.trans (fri_at fL26 (by decide) (by decide) o_v0).symm
    have f0 := fri_tr (S := S) g0 f0 fL26 (by decide) (by decide)
    have o_v0 := gr_ob gL25 o_v0
    have g0 := gr_tr (T := S) g0 gL25
    refine u_X11_keeps_11 ?_
    refine ⟨fun c32 => ?_, fun c32 => ?_⟩
    · refine ⟨o_v0, ?_⟩
      intro x33 ex33
      have r_x33 : (0 : Int32) ≤ x33 ∧ x33 ≤ (16 : Int32) := by rw [ex33]; exact nu 27 rfl hI o_v0
      have q_x33 : x33 = x1 := ex33.trans d_x1.symm
      have d_x33 := ex33
      intro x34 ex34
      intro S35 eS35
      have hIn : IV S35 := by rw [eS35]; exact iv11_sI hI o_v0 (by decide) (nu_one (lo := (0 : Int32)) (hi := (16 : Int32)) (by decide) (qm210 r_x1 c2 i1u23 c32 r_x33 q_x33 ex34))
      have hP := kp_I eS35 o_v0 (by decide) hP
      have hI := hIn
      have f0 := fr_I eS35 g0 f0 o_v0 (by decide)
      have d_x34 := rd_Is eS35 (rfl : x34 = x34)
      have g0 := gr_I eS35 g0
      have o_v0 := ob_I eS35 o_v0
      refine u_X11_keeps_48 ?_
      refine i_X11_keeps_50 (fun (y0 : Nat) (y1 : Int32) (Z : HS) => ((7 : Int32).toInt - y1.toInt).toNat) (fun (y0 : Nat) (y1 : Int32) (Z : HS) => (IV Z) ∧ (Gr S35 Z) ∧ (FRI [] [] S35 Z) ∧ (v0 = y0) ∧ (KP S Z v0) ∧ (0 ≤ y1 ∧ y1 ≤ 7)) ?_ _ _ _ ⟨hI, (gr_rf _), (fri_rf _ _ _), rfl, hP, (qm211 r_x1 c2 i1u23 c32 r_x33 q_x33 ex34)⟩
      intro w40 w42 S37 X43 ⟨hI, gL38, fL39, q41, hP, i1u36⟩ ih44
      subst q41
      have d_x34 := d_x34.trans (fri_at fL39 (by decide) (by decide) o_v0).symm
      have f0 := fri_tr (S := S35) g0 f0 fL39 (by decide) (by decide)
      have o_v0 := gr_ob gL38 o_v0
      have g0 := gr_tr (T := S35) g0 gL38
      refine u_X11_keeps_50 ?_
      refine ⟨fun c45 => ?_, fun c45 => ?_⟩
      · refine ⟨o_v0, ?_⟩
        intro x46 ex46
        have r_x46 : (0 : Int32) ≤ x46 ∧ x46 ≤ (16 : Int32) := by rw [ex46]; exact nu 27 rfl hI o_v0
        have q_x46 : x46 = x34 := ex46.trans d_x34.symm
        have d_x46 := ex46
        intro x47 ex47
        intro S48 eS48
        have hIn : IV S48 := by rw [eS48]; exact iv11_sI hI o_v0 (by decide) (nu_one (lo := (0 : Int32)) (hi := (16 : Int32)) (by decide) (qm212 r_x1 c2 i1u23 c32 r_x33 q_x33 ex34 i1u36 c45 r_x46 q_x46 ex47))
        have hP := kp_I eS48 o_v0 (by decide) hP
        have hI := hIn
        have f0 := fr_I eS48 g0 f0 o_v0 (by decide)
        have d_x47 := rd_Is eS48 (rfl : x47 = x47)
        have g0 := gr_I eS48 g0
        have o_v0 := ob_I eS48 o_v0
        exact hq _ hI g0 f0 hP
      · refine ⟨o_v0, ?_⟩
        obtain ⟨a49, ea49, o_a49, l_a49⟩ := shl 58 rfl hI o_v0
        refine ⟨a49, ea49, ?_⟩
        intro x50 ex50
        have r_x50 : (0 : Int32) ≤ x50 ∧ x50 ≤ (16 : Int32) := by rw [ex50]; exact nu 27 rfl hI o_v0
        have q_x50 : x50 = x34 := ex50.trans d_x34.symm
        have d_x50 := ex50
        obtain ⟨a51, ea51, o_a51, l_a51⟩ := shl 57 rfl hI o_v0
        refine ⟨a51, ea51, ?_⟩
        refine ⟨o_a51, ?_⟩
        refine ⟨(vin l_a51 (m := 7) (by decide) (qm213 r_x1 c2 i1u23 c32 r_x33 q_x33 ex34 i1u36 c45 r_x50 q_x50)), ?_⟩
        intro x52 ex52
        have de_x52 := ml_de hI o_v0 (j := 21) (by decide) ea51 w42.toNatClampNeg
        rw [← ex52] at de_x52
        refine ⟨o_a49, ?_⟩
        have i53 : vp_in (((7 : Int32) * x50) + w42) (hN _ a49) := (vin l_a49 (m := 112) (by decide) (qm214 r_x1 c2 i1u23 c32 r_x33 q_x33 ex34 i1u36 c45 r_x50 q_x50))
        refine ⟨i53, ?_⟩
        intro S54 eS54
        have hIn : IV S54 := by rw [eS54]; exact iv11_aD hI (de_tr de_x52 (md_mul (a := x50) (k := w42) rfl (qm215 r_x1 c2 i1u23 c32 r_x33 q_x33 ex34 i1u36 c45 r_x50 q_x50) (qm216 r_x1 c2 i1u23 c32 r_x33 q_x33 ex34 i1u36 c45 r_x50 q_x50)))
        have hP := kp_J eS54 hI o_v0 ea49 hP
        have hI := hIn
        have f0 := fr_J eS54 f0
        have fL39 := fr_J eS54 fL39
        have d_x50 := rd_J eS54 d_x50
        have ea49 := rf_J eS54 ea49
        have ea51 := rf_J eS54 ea51
        have l_a49 := ln_J eS54 l_a49
        have l_a51 := ln_J eS54 l_a51
        have g0 := gr_J eS54 g0
        have gL38 := gr_J eS54 gL38
        have o_a49 := ob_J eS54 o_a49
        have o_a51 := ob_J eS54 o_a51
        have o_v0 := ob_J eS54 o_v0
        intro x55 ex55
        exact ih44 _ _ _ ⟨hI, gL38, fL39, rfl, hP, (qm217 r_x1 c2 i1u23 c32 r_x33 q_x33 ex34 i1u36 c45 r_x50 q_x50 ex55)⟩ (mu_up (qm218 r_x1 c2 i1u23 c32 r_x33 q_x33 ex34 i1u36 c45 r_x50 q_x50 ex55) (qm219 r_x1 c2 i1u23 c32 r_x33 q_x33 ex34 i1u36 c45 r_x50 q_x50 ex55))
    · refine ⟨o_v0, ?_⟩
      obtain ⟨a56, ea56, o_a56, l_a56⟩ := shl 58 rfl hI o_v0
      refine ⟨a56, ea56, ?_⟩
      refine ⟨a56, ea56, ?_⟩
      refine ⟨o_a56, ?_⟩
      intro x58 ex58
      refine ⟨(vin l_a56 (m := 112) (by decide) (qm220 r_x1 c2 i1u23 c32 ex58)), ?_⟩
      intro x59 ex59
      have de_x59 := ml_de hI o_v0 (j := 22) (by decide) ea56 x58.toNatClampNeg
      rw [← ex59] at de_x59
      refine ⟨o_a56, ?_⟩
      have i60 : vp_in w29 (hN _ a56) := (vin l_a56 (m := 112) (by decide) (qm221 r_x1 c2 i1u23 c32 ex58))
      refine ⟨i60, ?_⟩
      intro S61 eS61
      have hIn : IV S61 := by rw [eS61]; exact iv11_aD hI (de_tr de_x59 (md_add ex58 (qm222 r_x1 c2 i1u23 c32 ex58)))
      have hP := kp_J eS61 hI o_v0 ea56 hP
      have hI := hIn
      have f0 := fr_J eS61 f0
      have fL26 := fr_J eS61 fL26
      have d_x1 := rd_J eS61 d_x1
      have ea56 := rf_J eS61 ea56
      have l_a56 := ln_J eS61 l_a56
      have g0 := gr_J eS61 g0
      have gL25 := gr_J eS61 gL25
      have o_a56 := ob_J eS61 o_a56
      have o_v0 := ob_J eS61 o_v0
      intro x62 ex62
      exact ih31 _ _ _ ⟨hI, gL25, fL26, rfl, hP, (qm223 r_x1 c2 i1u23 c32 ex58 ex62)⟩ (mu_up (qm224 r_x1 c2 i1u23 c32 ex58 ex62) (qm225 r_x1 c2 i1u23 c32 ex58 ex62))
set_option maxHeartbeats 4000000 in
set_option maxRecDepth 20000 in
theorem m_X11_go {v0 : Nat} {v1 : Int32} {v2 : Int32} {v3 : Int32} {Q : Int32 → HS → Prop} {S : HS} (hI : IV S) (o_v0 : ob S v0 11)     (hq : ∀ (r : Int32) (T : HS), IV T → Gr S T → FRI [(11, 0), (11, 1), (11, 2), (11, 24)] [] S T → Q r T) : P_X11_go v0 v1 v2 v3 Q S := by
  have g0 := gr_rf S
  have f0 := fri_rf [(11, 0), (11, 1), (11, 2), (11, 24)] [] S
  refine u_X11_go ?_
  refine u_X11_go_0 ?_
  refine ⟨o_v0, ?_⟩
  intro S1 eS1
  have hIn : IV S1 := by rw [eS1]; exact iv11_sI hI o_v0 (by decide) (nu_free (by decide))
  have hI := hIn
  have f0 := fr_I eS1 g0 f0 o_v0 (by decide)
  obtain ⟨kv2, hkv2⟩ : ∃ z : Int32, z = (0 : Int32) := ⟨_, rfl⟩
  have d_kv2 := rd_Is eS1 hkv2
  have g0 := gr_I eS1 g0
  have o_v0 := ob_I eS1 o_v0
  refine u_X11_isDay ?_
  refine u_X11_isDay_0 ?_
  refine ⟨o_v0, ?_⟩
  refine ⟨fun e4 => ?_, fun a3 ea3 => ?_⟩
  · intro _ _
    refine ⟨fun c6 => ?_, fun c6 => absurd (show ¬ (0 : Int32) = 0 from c6) (by decide)⟩
    refine u_X11_go_29 ?_
    refine ⟨o_v0, ?_⟩
    refine u_X11_refused ?_
    refine u_X11_refused_0 ?_
    refine ⟨o_v0, ?_⟩
    intro S7 eS7
    have hIn : IV S7 := by rw [eS7]; exact iv11_sI hI o_v0 (by decide) (nu_free (by decide))
    have hI := hIn
    have f0 := fr_I eS7 g0 f0 o_v0 (by decide)
    have d_kv2 := rd_Ij eS7 (by decide) d_kv2
    obtain ⟨kv8, hkv8⟩ : ∃ z : Int32, z = (1 : Int32) := ⟨_, rfl⟩
    have d_kv8 := rd_Is eS7 hkv8
    have g0 := gr_I eS7 g0
    have o_v0 := ob_I eS7 o_v0
    intro S9 eS9
    have hIn : IV S9 := by rw [eS9]; exact iv11_sI hI o_v0 (by decide) (nu_free (by decide))
    have hI := hIn
    have f0 := fr_I eS9 g0 f0 o_v0 (by decide)
    have d_kv2 := rd_Ij eS9 (by decide) d_kv2
    have d_kv8 := rd_Ij eS9 (by decide) d_kv8
    obtain ⟨kv10, hkv10⟩ : ∃ z : Int32, z = (-1 : Int32) := ⟨_, rfl⟩
    have d_kv10 := rd_Is eS9 hkv10
    have g0 := gr_I eS9 g0
    have o_v0 := ob_I eS9 o_v0
    intro _
    exact hq _ _ hI g0 f0
  · have o_a3 := ml_ob hI o_v0 ea3
    intro x12 ex12
    have r_x12 : (-2 : Int32) ≤ x12 ∧ x12 ≤ (3 : Int32) := by rw [ex12]; exact nu 26 rfl hI o_v0
    have d_x12 := ex12
    obtain ⟨kv13, d_kv13⟩ : ∃ z : Int32, z = fI S1 a3 4 := ⟨_, rfl⟩
    have r_kv13 : (0 : Int32) ≤ kv13 ∧ kv13 ≤ (4 : Int32) := by rw [d_kv13]; exact nu 20 rfl hI o_a3
    have wh_x12 : x12 = -2 ∨ (0 ≤ x12 ∧ x12 < kv13) := by rw [ex12, d_kv13]; exact ml_who hI o_v0 ea3
    refine ⟨fun c14 => ?_, fun c14 => ?_⟩
    · intro _ _
      refine ⟨fun c16 => ?_, fun c16 => absurd (show ¬ (0 : Int32) = 0 from c16) (by decide)⟩
      refine u_X11_go_29 ?_
      refine ⟨o_v0, ?_⟩
      refine u_X11_refused ?_
      refine u_X11_refused_0 ?_
      refine ⟨o_v0, ?_⟩
      intro S17 eS17
      have hIn : IV S17 := by rw [eS17]; exact iv11_sI hI o_v0 (by decide) (nu_free (by decide))
      have hI := hIn
      have f0 := fr_I eS17 g0 f0 o_v0 (by decide)
      have d_kv2 := rd_Ij eS17 (by decide) d_kv2
      have d_x12 := rd_Ij eS17 (by decide) d_x12
      have d_kv13 := rd_Ik eS17 o_v0 o_a3 (by decide) d_kv13
      obtain ⟨kv18, hkv18⟩ : ∃ z : Int32, z = (1 : Int32) := ⟨_, rfl⟩
      have d_kv18 := rd_Is eS17 hkv18
      have ea3 := rf_I eS17 ea3
      have g0 := gr_I eS17 g0
      have o_a3 := ob_I eS17 o_a3
      have o_v0 := ob_I eS17 o_v0
      intro S19 eS19
      have hIn : IV S19 := by rw [eS19]; exact iv11_sI hI o_v0 (by decide) (nu_free (by decide))
      have hI := hIn
      have f0 := fr_I eS19 g0 f0 o_v0 (by decide)
      have d_kv2 := rd_Ij eS19 (by decide) d_kv2
      have d_x12 := rd_Ij eS19 (by decide) d_x12
      have d_kv13 := rd_Ik eS19 o_v0 o_a3 (by decide) d_kv13
      have d_kv18 := rd_Ij eS19 (by decide) d_kv18
      obtain ⟨kv20, hkv20⟩ : ∃ z : Int32, z = (-1 : Int32) := ⟨_, rfl⟩
      have d_kv20 := rd_Is eS19 hkv20
      have ea3 := rf_I eS19 ea3
      have g0 := gr_I eS19 g0
      have o_a3 := ob_I eS19 o_a3
      have o_v0 := ob_I eS19 o_v0
      intro _
      exact hq _ _ hI g0 f0
    · intro _ _
      refine ⟨fun c23 => absurd (show (1 : Int32) = 0 from c23) (by decide), fun c23 => ?_⟩
      refine u_X11_isRoad ?_
      refine u_X11_isRoad_0 ?_
      refine ⟨o_v0, ?_⟩
      refine ⟨fun e25 => (nomatch (e25.symm.trans ea3)), fun a24 ea24 => ?_⟩
      obtain rfl : a3 = a24 := Option.some.inj (ea3.symm.trans ea24)
      refine ⟨fun c26 => ?_, fun c26 => ?_⟩
      · intro _ _
        refine ⟨fun c28 => ?_, fun c28 => absurd (show ¬ (0 : Int32) = 0 from c28) (by decide)⟩
        refine u_X11_go_29 ?_
        refine ⟨o_v0, ?_⟩
        refine u_X11_refused ?_
        refine u_X11_refused_0 ?_
        refine ⟨o_v0, ?_⟩
        intro S29 eS29
        have hIn : IV S29 := by rw [eS29]; exact iv11_sI hI o_v0 (by decide) (nu_free (by decide))
        have hI := hIn
        have f0 := fr_I eS29 g0 f0 o_v0 (by decide)
        have d_kv2 := rd_Ij eS29 (by decide) d_kv2
        have d_x12 := rd_Ij eS29 (by decide) d_x12
        have d_kv13 := rd_Ik eS29 o_v0 o_a3 (by decide) d_kv13
        obtain ⟨kv30, hkv30⟩ : ∃ z : Int32, z = (1 : Int32) := ⟨_, rfl⟩
        have d_kv30 := rd_Is eS29 hkv30
        have ea3 := rf_I eS29 ea3
        have g0 := gr_I eS29 g0
        have o_a3 := ob_I eS29 o_a3
        have o_v0 := ob_I eS29 o_v0
        intro S31 eS31
        have hIn : IV S31 := by rw [eS31]; exact iv11_sI hI o_v0 (by decide) (nu_free (by decide))
        have hI := hIn
        have f0 := fr_I eS31 g0 f0 o_v0 (by decide)
        have d_kv2 := rd_Ij eS31 (by decide) d_kv2
        have d_x12 := rd_Ij eS31 (by decide) d_x12
        have d_kv13 := rd_Ik eS31 o_v0 o_a3 (by decide) d_kv13
        have d_kv30 := rd_Ij eS31 (by decide) d_kv30
        obtain ⟨kv32, hkv32⟩ : ∃ z : Int32, z = (-1 : Int32) := ⟨_, rfl⟩
        have d_kv32 := rd_Is eS31 hkv32
        have ea3 := rf_I eS31 ea3
        have g0 := gr_I eS31 g0
        have o_a3 := ob_I eS31 o_a3
        have o_v0 := ob_I eS31 o_v0
        intro _
        exact hq _ _ hI g0 f0
      · refine ⟨a3, ea3, ?_⟩
        refine ⟨o_a3, ?_⟩
        intro x35 ex35
        have r_x35 : (0 : Int32) ≤ x35 ∧ x35 ≤ (12 : Int32) := by rw [ex35]; exact nu 19 rfl hI o_a3
        have d_x35 := ex35
        refine ⟨fun c36 => ?_, fun c36 => ?_⟩
        · intro _ _
          refine ⟨fun c38 => ?_, fun c38 => absurd (show ¬ (0 : Int32) = 0 from c38) (by decide)⟩
          refine u_X11_go_29 ?_
          refine ⟨o_v0, ?_⟩
          refine u_X11_refused ?_
          refine u_X11_refused_0 ?_
          refine ⟨o_v0, ?_⟩
          intro S39 eS39
          have hIn : IV S39 := by rw [eS39]; exact iv11_sI hI o_v0 (by decide) (nu_free (by decide))
          have hI := hIn
          have f0 := fr_I eS39 g0 f0 o_v0 (by decide)
          have d_kv2 := rd_Ij eS39 (by decide) d_kv2
          have d_x12 := rd_Ij eS39 (by decide) d_x12
          have d_kv13 := rd_Ik eS39 o_v0 o_a3 (by decide) d_kv13
          have d_x35 := rd_Ik eS39 o_v0 o_a3 (by decide) d_x35
          obtain ⟨kv40, hkv40⟩ : ∃ z : Int32, z = (1 : Int32) := ⟨_, rfl⟩
          have d_kv40 := rd_Is eS39 hkv40
          have ea3 := rf_I eS39 ea3
          have g0 := gr_I eS39 g0
          have o_a3 := ob_I eS39 o_a3
          have o_v0 := ob_I eS39 o_v0
          intro S41 eS41
          have hIn : IV S41 := by rw [eS41]; exact iv11_sI hI o_v0 (by decide) (nu_free (by decide))
          have hI := hIn
          have f0 := fr_I eS41 g0 f0 o_v0 (by decide)
          have d_kv2 := rd_Ij eS41 (by decide) d_kv2
          have d_x12 := rd_Ij eS41 (by decide) d_x12
          have d_kv13 := rd_Ik eS41 o_v0 o_a3 (by decide) d_kv13
          have d_x35 := rd_Ik eS41 o_v0 o_a3 (by decide) d_x35
          have d_kv40 := rd_Ij eS41 (by decide) d_kv40
          obtain ⟨kv42, hkv42⟩ : ∃ z : Int32, z = (-1 : Int32) := ⟨_, rfl⟩
          have d_kv42 := rd_Is eS41 hkv42
          have ea3 := rf_I eS41 ea3
          have g0 := gr_I eS41 g0
          have o_a3 := ob_I eS41 o_a3
          have o_v0 := ob_I eS41 o_v0
          intro _
          exact hq _ _ hI g0 f0
        · intro _ _
          refine ⟨fun c45 => absurd (show (1 : Int32) = 0 from c45) (by decide), fun c45 => ?_⟩
          refine u_X11_in ?_
          refine u_X11_in_0 ?_
          refine ⟨fun c46 => ?_, fun c46 => ?_⟩
          · intro _ _
            refine ⟨fun c48 => absurd (show ¬ (0 : Int32) = 0 from c48) (by decide), fun c48 => ?_⟩
            refine u_X11_go_29 ?_
            refine ⟨o_v0, ?_⟩
            refine u_X11_refused ?_
            refine u_X11_refused_0 ?_
            refine ⟨o_v0, ?_⟩
            intro S49 eS49
            have hIn : IV S49 := by rw [eS49]; exact iv11_sI hI o_v0 (by decide) (nu_free (by decide))
            have hI := hIn
            have f0 := fr_I eS49 g0 f0 o_v0 (by decide)
            have d_kv2 := rd_Ij eS49 (by decide) d_kv2
            have d_x12 := rd_Ij eS49 (by decide) d_x12
            have d_kv13 := rd_Ik eS49 o_v0 o_a3 (by decide) d_kv13
            have d_x35 := rd_Ik eS49 o_v0 o_a3 (by decide) d_x35
            obtain ⟨kv50, hkv50⟩ : ∃ z : Int32, z = (1 : Int32) := ⟨_, rfl⟩
            have d_kv50 := rd_Is eS49 hkv50
            have ea3 := rf_I eS49 ea3
            have g0 := gr_I eS49 g0
            have o_a3 := ob_I eS49 o_a3
            have o_v0 := ob_I eS49 o_v0
            intro S51 eS51
            have hIn : IV S51 := by rw [eS51]; exact iv11_sI hI o_v0 (by decide) (nu_free (by decide))
            have hI := hIn
            have f0 := fr_I eS51 g0 f0 o_v0 (by decide)
            have d_kv2 := rd_Ij eS51 (by decide) d_kv2
            have d_x12 := rd_Ij eS51 (by decide) d_x12
            have d_kv13 := rd_Ik eS51 o_v0 o_a3 (by decide) d_kv13
            have d_x35 := rd_Ik eS51 o_v0 o_a3 (by decide) d_x35
            have d_kv50 := rd_Ij eS51 (by decide) d_kv50
            obtain ⟨kv52, hkv52⟩ : ∃ z : Int32, z = (-1 : Int32) := ⟨_, rfl⟩
            have d_kv52 := rd_Is eS51 hkv52
            have ea3 := rf_I eS51 ea3
            have g0 := gr_I eS51 g0
            have o_a3 := ob_I eS51 o_a3
            have o_v0 := ob_I eS51 o_v0
            intro _
            exact hq _ _ hI g0 f0
          · refine ⟨fun c54 => ?_, fun c54 => ?_⟩
            · intro _ _
              refine ⟨fun c56 => absurd (show ¬ (0 : Int32) = 0 from c56) (by decide), fun c56 => ?_⟩
              refine u_X11_go_29 ?_
              refine ⟨o_v0, ?_⟩
              refine u_X11_refused ?_
              refine u_X11_refused_0 ?_
              refine ⟨o_v0, ?_⟩
              intro S57 eS57
              have hIn : IV S57 := by rw [eS57]; exact iv11_sI hI o_v0 (by decide) (nu_free (by decide))
              have hI := hIn
              have f0 := fr_I eS57 g0 f0 o_v0 (by decide)
              have d_kv2 := rd_Ij eS57 (by decide) d_kv2
              have d_x12 := rd_Ij eS57 (by decide) d_x12
              have d_kv13 := rd_Ik eS57 o_v0 o_a3 (by decide) d_kv13
              have d_x35 := rd_Ik eS57 o_v0 o_a3 (by decide) d_x35
              obtain ⟨kv58, hkv58⟩ : ∃ z : Int32, z = (1 : Int32) := ⟨_, rfl⟩
              have d_kv58 := rd_Is eS57 hkv58
              have ea3 := rf_I eS57 ea3
              have g0 := gr_I eS57 g0
              have o_a3 := ob_I eS57 o_a3
              have o_v0 := ob_I eS57 o_v0
              intro S59 eS59
              have hIn : IV S59 := by rw [eS59]; exact iv11_sI hI o_v0 (by decide) (nu_free (by decide))
              have hI := hIn
              have f0 := fr_I eS59 g0 f0 o_v0 (by decide)
              have d_kv2 := rd_Ij eS59 (by decide) d_kv2
              have d_x12 := rd_Ij eS59 (by decide) d_x12
              have d_kv13 := rd_Ik eS59 o_v0 o_a3 (by decide) d_kv13
              have d_x35 := rd_Ik eS59 o_v0 o_a3 (by decide) d_x35
              have d_kv58 := rd_Ij eS59 (by decide) d_kv58
              obtain ⟨kv60, hkv60⟩ : ∃ z : Int32, z = (-1 : Int32) := ⟨_, rfl⟩
              have d_kv60 := rd_Is eS59 hkv60
              have ea3 := rf_I eS59 ea3
              have g0 := gr_I eS59 g0
              have o_a3 := ob_I eS59 o_a3
              have o_v0 := ob_I eS59 o_v0
              intro _
              exact hq _ _ hI g0 f0
            · intro _ _
              refine ⟨fun c63 => ?_, fun c63 => absurd (show (1 : Int32) = 0 from c63) (by decide)⟩
              intro x64 ex64
              have r_x64 : (-2 : Int32) ≤ x64 ∧ x64 ≤ (3 : Int32) := by rw [ex64]; exact nu 26 rfl hI o_v0
              have q_x64 : x64 = x12 := ex64.trans d_x12.symm
              have d_x64 := ex64
              have wh_x64 : x64 = -2 ∨ (0 ≤ x64 ∧ x64 < kv13) := by rw [ex64, d_kv13]; exact ml_who hI o_v0 ea3
              refine u_X11_isSpeed ?_
              refine u_X11_isSpeed_0 ?_
              refine ⟨o_v0, ?_⟩
              refine ⟨a3, ea3, ?_⟩
              refine ⟨o_a3, ?_⟩
              obtain ⟨a66, ea66, o_a66, l_a66⟩ := shl 46 rfl hI o_a3
              refine ⟨a66, ea66, ?_⟩
              refine ⟨o_a66, ?_⟩
              refine ⟨(vin l_a66 (m := 4) (by decide) (qm226 r_x12 r_kv13 wh_x12 c14 c26 r_x35 c36 c46 c54 r_x64 q_x64 wh_x64)), ?_⟩
              intro x67 ex67
              have gy_x67 : 0 ≤ x64 ∧ x64 < fI S1 a3 4 := by rw [← d_kv13]; exact (qm227 r_x12 r_kv13 wh_x12 c14 c26 r_x35 c36 c46 c54 r_x64 q_x64 wh_x64)
              have g_x67 : (1 : Int32) ≤ x67 ∧ x67 ≤ (9 : Int32) := by rw [ex67]; exact wg_at (ml_wg hI o_v0 ea3) 3 rfl gy_x67 ea66
              refine ⟨a3, ea3, ?_⟩
              refine ⟨o_a3, ?_⟩
              obtain ⟨a69, ea69, o_a69, l_a69⟩ := shl 47 rfl hI o_a3
              refine ⟨a69, ea69, ?_⟩
              refine ⟨o_a69, ?_⟩
              refine ⟨(vin l_a69 (m := 4) (by decide) (qm226 r_x12 r_kv13 wh_x12 c14 c26 r_x35 c36 c46 c54 r_x64 q_x64 wh_x64)), ?_⟩
              intro x70 ex70
              have gy_x70 : 0 ≤ x64 ∧ x64 < fI S1 a3 4 := by rw [← d_kv13]; exact (qm227 r_x12 r_kv13 wh_x12 c14 c26 r_x35 c36 c46 c54 r_x64 q_x64 wh_x64)
              have g_x70 : (0 : Int32) ≤ x70 ∧ x70 ≤ (9 : Int32) := by rw [ex70]; exact wg_at (ml_wg hI o_v0 ea3) 4 rfl gy_x70 ea69
              refine u_X11_in ?_
              refine u_X11_in_0 ?_
              refine ⟨fun c71 => ?_, fun c71 => ?_⟩
              · intro _ _
                refine ⟨(Or.inl rfl), ?_⟩
                intro _ _
                refine ⟨fun c74 => absurd (show ¬ (0 : Int32) = 0 from c74) (by decide), fun c74 => ?_⟩
                refine u_X11_refused ?_
                refine u_X11_refused_0 ?_
                refine ⟨o_v0, ?_⟩
                intro S75 eS75
                have hIn : IV S75 := by rw [eS75]; exact iv11_sI hI o_v0 (by decide) (nu_free (by decide))
                have hI := hIn
                have f0 := fr_I eS75 g0 f0 o_v0 (by decide)
                have d_kv2 := rd_Ij eS75 (by decide) d_kv2
                have d_x64 := rd_Ij eS75 (by decide) d_x64
                have d_kv13 := rd_Ik eS75 o_v0 o_a3 (by decide) d_kv13
                have d_x35 := rd_Ik eS75 o_v0 o_a3 (by decide) d_x35
                obtain ⟨kv76, hkv76⟩ : ∃ z : Int32, z = (2 : Int32) := ⟨_, rfl⟩
                have d_kv76 := rd_Is eS75 hkv76
                have ea3 := rf_I eS75 ea3
                have ea66 := rf_I eS75 ea66
                have ea69 := rf_I eS75 ea69
                have l_a66 := ln_I eS75 l_a66
                have l_a69 := ln_I eS75 l_a69
                have g0 := gr_I eS75 g0
                have o_a3 := ob_I eS75 o_a3
                have o_a66 := ob_I eS75 o_a66
                have o_a69 := ob_I eS75 o_a69
                have o_v0 := ob_I eS75 o_v0
                intro S77 eS77
                have hIn : IV S77 := by rw [eS77]; exact iv11_sI hI o_v0 (by decide) (nu_free (by decide))
                have hI := hIn
                have f0 := fr_I eS77 g0 f0 o_v0 (by decide)
                have d_kv2 := rd_Ij eS77 (by decide) d_kv2
                have d_x64 := rd_Ij eS77 (by decide) d_x64
                have d_kv13 := rd_Ik eS77 o_v0 o_a3 (by decide) d_kv13
                have d_x35 := rd_Ik eS77 o_v0 o_a3 (by decide) d_x35
                have d_kv76 := rd_Ij eS77 (by decide) d_kv76
                obtain ⟨kv78, hkv78⟩ : ∃ z : Int32, z = (-1 : Int32) := ⟨_, rfl⟩
                have d_kv78 := rd_Is eS77 hkv78
                have ea3 := rf_I eS77 ea3
                have ea66 := rf_I eS77 ea66
                have ea69 := rf_I eS77 ea69
                have l_a66 := ln_I eS77 l_a66
                have l_a69 := ln_I eS77 l_a69
                have g0 := gr_I eS77 g0
                have o_a3 := ob_I eS77 o_a3
                have o_a66 := ob_I eS77 o_a66
                have o_a69 := ob_I eS77 o_a69
                have o_v0 := ob_I eS77 o_v0
                intro _
                exact hq _ _ hI g0 f0
              · refine ⟨fun c80 => ?_, fun c80 => ?_⟩
                · intro _ _
                  refine ⟨(Or.inl rfl), ?_⟩
                  intro _ _
                  refine ⟨fun c83 => absurd (show ¬ (0 : Int32) = 0 from c83) (by decide), fun c83 => ?_⟩
                  refine u_X11_refused ?_
                  refine u_X11_refused_0 ?_
                  refine ⟨o_v0, ?_⟩
                  intro S84 eS84
                  have hIn : IV S84 := by rw [eS84]; exact iv11_sI hI o_v0 (by decide) (nu_free (by decide))
                  have hI := hIn
                  have f0 := fr_I eS84 g0 f0 o_v0 (by decide)
                  have d_kv2 := rd_Ij eS84 (by decide) d_kv2
                  have d_x64 := rd_Ij eS84 (by decide) d_x64
                  have d_kv13 := rd_Ik eS84 o_v0 o_a3 (by decide) d_kv13
                  have d_x35 := rd_Ik eS84 o_v0 o_a3 (by decide) d_x35
                  obtain ⟨kv85, hkv85⟩ : ∃ z : Int32, z = (2 : Int32) := ⟨_, rfl⟩
                  have d_kv85 := rd_Is eS84 hkv85
                  have ea3 := rf_I eS84 ea3
                  have ea66 := rf_I eS84 ea66
                  have ea69 := rf_I eS84 ea69
                  have l_a66 := ln_I eS84 l_a66
                  have l_a69 := ln_I eS84 l_a69
                  have g0 := gr_I eS84 g0
                  have o_a3 := ob_I eS84 o_a3
                  have o_a66 := ob_I eS84 o_a66
                  have o_a69 := ob_I eS84 o_a69
                  have o_v0 := ob_I eS84 o_v0
                  intro S86 eS86
                  have hIn : IV S86 := by rw [eS86]; exact iv11_sI hI o_v0 (by decide) (nu_free (by decide))
                  have hI := hIn
                  have f0 := fr_I eS86 g0 f0 o_v0 (by decide)
                  have d_kv2 := rd_Ij eS86 (by decide) d_kv2
                  have d_x64 := rd_Ij eS86 (by decide) d_x64
                  have d_kv13 := rd_Ik eS86 o_v0 o_a3 (by decide) d_kv13
                  have d_x35 := rd_Ik eS86 o_v0 o_a3 (by decide) d_x35
                  have d_kv85 := rd_Ij eS86 (by decide) d_kv85
                  obtain ⟨kv87, hkv87⟩ : ∃ z : Int32, z = (-1 : Int32) := ⟨_, rfl⟩
                  have d_kv87 := rd_Is eS86 hkv87
                  have ea3 := rf_I eS86 ea3
                  have ea66 := rf_I eS86 ea66
                  have ea69 := rf_I eS86 ea69
                  have l_a66 := ln_I eS86 l_a66
                  have l_a69 := ln_I eS86 l_a69
                  have g0 := gr_I eS86 g0
                  have o_a3 := ob_I eS86 o_a3
                  have o_a66 := ob_I eS86 o_a66
                  have o_a69 := ob_I eS86 o_a69
                  have o_v0 := ob_I eS86 o_v0
                  intro _
                  exact hq _ _ hI g0 f0
                · intro _ _
                  refine ⟨(Or.inr rfl), ?_⟩
                  intro _ _
                  refine ⟨fun c91 => ?_, fun c91 => absurd (show (1 : Int32) = 0 from c91) (by decide)⟩
                  refine ⟨a3, ea3, ?_⟩
                  refine ⟨o_a3, ?_⟩
                  refine u_X10_begins ?_
                  refine u_X10_begins_0 ?_
                  refine ⟨fun c93 => ?_, fun c93 => ?_⟩
                  · refine ⟨o_a3, ?_⟩
                    obtain ⟨a94, ea94, o_a94, l_a94⟩ := shl 36 rfl hI o_a3
                    refine ⟨a94, ea94, ?_⟩
                    refine ⟨o_a94, ?_⟩
                    refine ⟨(vin l_a94 (m := 12) (by decide) (qm228 r_x12 r_kv13 wh_x12 c14 c26 r_x35 c36 c46 c54 r_x64 q_x64 wh_x64 g_x67 g_x70 c71 c80 c93)), ?_⟩
                    intro x95 ex95
                    have gy_x95 : 0 ≤ v1 ∧ v1 < fI S1 a3 3 := by rw [← d_x35]; exact (qm229 r_x12 r_kv13 wh_x12 c14 c26 r_x35 c36 c46 c54 r_x64 q_x64 wh_x64 g_x67 g_x70 c71 c80 c93)
                    have g_x95 : (0 : Int32) ≤ x95 ∧ x95 ≤ (7 : Int32) := by rw [ex95]; exact wg_at (ml_wg hI o_v0 ea3) 1 rfl gy_x95 ea94
                    obtain ⟨kv96, d_kv96⟩ : ∃ z : Int32, z = fI S1 a3 2 := ⟨_, rfl⟩
                    have r_kv96 : (0 : Int32) ≤ kv96 ∧ kv96 ≤ (8 : Int32) := by rw [d_kv96]; exact nu 18 rfl hI o_a3
                    have gl_x95 : x95 < kv96 := by rw [ex95, d_kv96]; exact wg_lt (ml_wg hI o_v0 ea3) 1 rfl (by decide) gy_x95 ea94
                    intro _
                    obtain ⟨a98, ea98, o_a98, l_a98⟩ := shl 57 rfl hI o_v0
                    refine ⟨a98, ea98, ?_⟩
                    refine ⟨o_a98, ?_⟩
                    refine ⟨(vin l_a98 (m := 7) (by decide) (qm230 r_x12 r_kv13 wh_x12 c14 c26 r_x35 c36 c46 c54 r_x64 q_x64 wh_x64 g_x67 g_x70 c71 c80 c93)), ?_⟩
                    intro x99 ex99
                    have de_x99 := ml_de hI o_v0 (j := 21) (by decide) ea98 (0 : Int32).toNatClampNeg
                    rw [← ex99] at de_x99
                    have dr_x99 : (0 : Int64) ≤ x99 ∧ x99 ≤ (7 : Int64) := de_x99.1 (by decide)
                    refine ⟨fun c100 => ?_, fun c100 => ?_⟩
                    · refine ⟨a98, ea98, ?_⟩
                      refine ⟨o_a98, ?_⟩
                      refine ⟨(vin l_a98 (m := 7) (by decide) (qm231 r_x12 r_kv13 wh_x12 c14 c26 r_x35 c36 c46 c54 r_x64 q_x64 wh_x64 g_x67 g_x70 c71 c80 c93 g_x95 r_kv96 gl_x95 dr_x99 c100)), ?_⟩
                      intro x102 ex102
                      have de_x102 := ml_de hI o_v0 (j := 21) (by decide) ea98 (1 : Int32).toNatClampNeg
                      rw [← ex102] at de_x102
                      have dr_x102 : (0 : Int64) ≤ x102 ∧ x102 ≤ (999 : Int64) := de_x102.2 (by decide)
                      have lr_x102 : 0 ≤ x102.toInt32 ∧ x102.toInt32 ≤ (999 : Int32) := l2i_rng (by decide) dr_x102
                      intro x103 ex103
                      refine ⟨a3, ea3, ?_⟩
                      refine ⟨o_a3, ?_⟩
                      refine u_X10_minutes ?_
                      refine u_X10_minutes_0 ?_
                      refine ⟨o_a3, ?_⟩
                      obtain ⟨a105, ea105, o_a105, l_a105⟩ := shl 38 rfl hI o_a3
                      refine ⟨a105, ea105, ?_⟩
                      refine ⟨o_a105, ?_⟩
                      refine ⟨(vin l_a105 (m := 12) (by decide) (qm232 r_x12 r_kv13 wh_x12 c14 c26 r_x35 c36 c46 c54 r_x64 q_x64 wh_x64 g_x67 g_x70 c71 c80 c93 g_x95 r_kv96 gl_x95 dr_x99 c100)), ?_⟩
                      intro x106 ex106
                      have el107 := ex106.symm
                      have gy_x106 : 0 ≤ v1 ∧ v1 < fI S1 a3 3 := by rw [← d_x35]; exact (qm233 r_x12 r_kv13 wh_x12 c14 c26 r_x35 c36 c46 c54 r_x64 q_x64 wh_x64 g_x67 g_x70 c71 c80 c93 g_x95 r_kv96 gl_x95 dr_x99 c100)
                      have g_x106 : (1 : Int32) ≤ x106 ∧ x106 ≤ (60 : Int32) := by rw [ex106]; exact wg_at (ml_wg hI o_v0 ea3) 2 rfl gy_x106 ea105
                      refine ⟨(qm234 r_x12 r_kv13 wh_x12 c14 c26 r_x35 c36 c46 c54 r_x64 q_x64 wh_x64 g_x67 g_x70 c71 c80 c93 g_x95 r_kv96 gl_x95 dr_x99 c100), ?_⟩
                      intro x108 ex108
                      have dv_x108 : 0 ≤ x108 ∧ x108 ≤ ((x106 + v3) - (1 : Int32)) := by rw [ex108]; exact dv0 (qm235 r_x12 r_kv13 wh_x12 c14 c26 r_x35 c36 c46 c54 r_x64 q_x64 wh_x64 g_x67 g_x70 c71 c80 c93 g_x95 r_kv96 gl_x95 dr_x99 c100 g_x106 ex108) (i32pos (qm236 r_x12 r_kv13 wh_x12 c14 c26 r_x35 c36 c46 c54 r_x64 q_x64 wh_x64 g_x67 g_x70 c71 c80 c93 g_x95 r_kv96 gl_x95 dr_x99 c100 g_x106 ex108))
                      have dw_x108 : (1 : Int32) ≤ x108 := by rw [ex108]; exact dv1 (qm237 r_x12 r_kv13 wh_x12 c14 c26 r_x35 c36 c46 c54 r_x64 q_x64 wh_x64 g_x67 g_x70 c71 c80 c93 g_x95 r_kv96 gl_x95 dr_x99 c100 g_x106 ex108) (qm238 r_x12 r_kv13 wh_x12 c14 c26 r_x35 c36 c46 c54 r_x64 q_x64 wh_x64 g_x67 g_x70 c71 c80 c93 g_x95 r_kv96 gl_x95 dr_x99 c100 g_x106 ex108)
                      intro _
                      refine ⟨fun c110 => ?_, fun c110 => ?_⟩
                      · refine m_X11_keeps hI o_v0 (fun S112 hJ g113 fc114 p_S112 => ?_)
                        have hI := hJ
                        have l_a105 := (gr_len g113 o_a105).trans l_a105
                        have l_a66 := (gr_len g113 o_a66).trans l_a66
                        have l_a69 := (gr_len g113 o_a69).trans l_a69
                        have l_a94 := (gr_len g113 o_a94).trans l_a94
                        have l_a98 := (gr_len g113 o_a98).trans l_a98
                        have d_kv2 := d_kv2.trans (fri_at fc114 (by decide) (by decide) o_v0).symm
                        have d_x64 := d_x64.trans (fri_at fc114 (by decide) (by decide) o_v0).symm
                        have d_kv13 := d_kv13.trans (fri_at fc114 (by decide) (by decide) o_a3).symm
                        have d_x35 := d_x35.trans (fri_at fc114 (by decide) (by decide) o_a3).symm
                        have d_kv96 := d_kv96.trans (fri_at fc114 (by decide) (by decide) o_a3).symm
                        have ea3 := (frr_at fc114 (by decide) (by decide) o_v0).trans ea3
                        have ea66 := (frr_at fc114 (by decide) (by decide) o_a3).trans ea66
                        have ea69 := (frr_at fc114 (by decide) (by decide) o_a3).trans ea69
                        have ea94 := (frr_at fc114 (by decide) (by decide) o_a3).trans ea94
                        have ea98 := (frr_at fc114 (by decide) (by decide) o_v0).trans ea98
                        have ea105 := (frr_at fc114 (by decide) (by decide) o_a3).trans ea105
                        have f0 := fri_tr (S := S1) g0 f0 fc114 (by decide) (by decide)
                        have o_a105 := gr_ob g113 o_a105
                        have o_a3 := gr_ob g113 o_a3
                        have o_a66 := gr_ob g113 o_a66
                        have o_a69 := gr_ob g113 o_a69
                        have o_a94 := gr_ob g113 o_a94
                        have o_a98 := gr_ob g113 o_a98
                        have o_v0 := gr_ob g113 o_v0
                        have g0 := gr_tr (T := S1) g0 g113
                        intro _
                        have el107 := (congrFun (p_S112.1 _ _ o_a105 (by decide)) _).trans el107
                        refine i_X11_go_119 (fun (y0 : Nat) (y1 : Int32) (y2 : Int32) (y3 : Int32) (y4 : Int32) (y5 : Int32) (Z : HS) => ((2147483647 : Int32).toInt - y5.toInt).toNat) (fun (y0 : Nat) (y1 : Int32) (y2 : Int32) (y3 : Int32) (y4 : Int32) (y5 : Int32) (Z : HS) => (IV Z) ∧ (Gr S112 Z) ∧ (FRI [] [] S112 Z) ∧ (v0 = y0) ∧ (v1 = y1) ∧ (v2 = y2) ∧ (v3 = y3) ∧ (x103 = y4) ∧ (0 ≤ y5) ∧ (fI Z a105 v1.toNatClampNeg = x106)) ?_ _ _ _ _ _ _ _ ⟨hI, (gr_rf _), (fri_rf _ _ _), rfl, rfl, rfl, rfl, rfl, (qm239 r_x12 r_kv13 wh_x12 c14 c26 r_x35 c36 c46 c54 r_x64 q_x64 wh_x64 g_x67 g_x70 c71 c80 c93 g_x95 r_kv96 gl_x95 dr_x99 c100 dr_x102 lr_x102 ex103 g_x106 ex108 dv_x108 dw_x108 c110), el107⟩
                        intro w119 w121 w123 w125 w127 w129 S116 X130 ⟨hI, gL117, fL118, q120, q122, q124, q126, q128, i1u115, el107⟩ ih131
                        subst q120
                        subst q122
                        subst q124
                        subst q126
                        subst q128
                        have l_a105 := (gr_len gL117 o_a105).trans l_a105
                        have l_a66 := (gr_len gL117 o_a66).trans l_a66
                        have l_a69 := (gr_len gL117 o_a69).trans l_a69
                        have l_a94 := (gr_len gL117 o_a94).trans l_a94
                        have l_a98 := (gr_len gL117 o_a98).trans l_a98
                        have d_kv2 := d_kv2.trans (fri_at fL118 (by decide) (by decide) o_v0).symm
                        have d_x64 := d_x64.trans (fri_at fL118 (by decide) (by decide) o_v0).symm
                        have d_kv13 := d_kv13.trans (fri_at fL118 (by decide) (by decide) o_a3).symm
                        have d_x35 := d_x35.trans (fri_at fL118 (by decide) (by decide) o_a3).symm
                        have d_kv96 := d_kv96.trans (fri_at fL118 (by decide) (by decide) o_a3).symm
                        have ea3 := (frr_at fL118 (by decide) (by decide) o_v0).trans ea3
                        have ea66 := (frr_at fL118 (by decide) (by decide) o_a3).trans ea66
                        have ea69 := (frr_at fL118 (by decide) (by decide) o_a3).trans ea69
                        have ea94 := (frr_at fL118 (by decide) (by decide) o_a3).trans ea94
                        have ea98 := (frr_at fL118 (by decide) (by decide) o_v0).trans ea98
                        have ea105 := (frr_at fL118 (by decide) (by decide) o_a3).trans ea105
                        have f0 := fri_tr (S := S112) g0 f0 fL118 (by decide) (by decide)
                        have o_a105 := gr_ob gL117 o_a105
                        have o_a3 := gr_ob gL117 o_a3
                        have o_a66 := gr_ob gL117 o_a66
                        have o_a69 := gr_ob gL117 o_a69
                        have o_a94 := gr_ob gL117 o_a94
                        have o_a98 := gr_ob gL117 o_a98
                        have o_v0 := gr_ob gL117 o_v0
                        have g0 := gr_tr (T := S112) g0 gL117
                        refine u_X11_go_119 ?_
                        refine ⟨fun c132 => ?_, fun c132 => ?_⟩
                        · refine u_X11_go_171 ?_
                          refine ⟨o_v0, ?_⟩
                          refine ⟨a98, ea98, ?_⟩
                          refine ⟨a3, ea3, ?_⟩
                          refine ⟨o_a3, ?_⟩
                          refine u_X10_ends ?_
                          refine u_X10_ends_0 ?_
                          refine ⟨fun c135 => ?_, fun c135 => ?_⟩
                          · refine ⟨o_a3, ?_⟩
                            obtain ⟨a136, ea136, o_a136, l_a136⟩ := shl 35 rfl hI o_a3
                            refine ⟨a136, ea136, ?_⟩
                            refine ⟨o_a136, ?_⟩
                            refine ⟨(vin l_a136 (m := 12) (by decide) (qm240 r_x12 r_kv13 wh_x12 c14 c26 r_x35 c36 c46 c54 r_x64 q_x64 wh_x64 g_x67 g_x70 c71 c80 c93 g_x95 r_kv96 gl_x95 dr_x99 c100 dr_x102 lr_x102 ex103 g_x106 ex108 dv_x108 dw_x108 c110 i1u115 c132 c135)), ?_⟩
                            intro x137 ex137
                            have gy_x137 : 0 ≤ v1 ∧ v1 < fI S116 a3 3 := by rw [← d_x35]; exact (qm241 r_x12 r_kv13 wh_x12 c14 c26 r_x35 c36 c46 c54 r_x64 q_x64 wh_x64 g_x67 g_x70 c71 c80 c93 g_x95 r_kv96 gl_x95 dr_x99 c100 dr_x102 lr_x102 ex103 g_x106 ex108 dv_x108 dw_x108 c110 i1u115 c132 c135)
                            have g_x137 : (0 : Int32) ≤ x137 ∧ x137 ≤ (7 : Int32) := by rw [ex137]; exact wg_at (ml_wg hI o_v0 ea3) 0 rfl gy_x137 ea136
                            have gl_x137 : x137 < kv96 := by rw [ex137, d_kv96]; exact wg_lt (ml_wg hI o_v0 ea3) 0 rfl (by decide) gy_x137 ea136
                            intro _
                            refine ⟨o_a98, ?_⟩
                            intro x139 ex139
                            have i140 : vp_in (0 : Int32) (hN _ a98) := (vin l_a98 (m := 7) (by decide) (qm242 r_x12 r_kv13 wh_x12 c14 c26 r_x35 c36 c46 c54 r_x64 q_x64 wh_x64 g_x67 g_x70 c71 c80 c93 g_x95 r_kv96 gl_x95 dr_x99 c100 dr_x102 lr_x102 ex103 g_x106 ex108 dv_x108 dw_x108 c110 i1u115 c132 c135 g_x137 gl_x137 ex139))
                            refine ⟨i140, ?_⟩
                            intro S141 eS141
                            have hIn : IV S141 := by rw [eS141]; exact iv11_aD hI (de_0 (by rw [ex139]; exact i2l_rng (lo := 0) (hi := 7) (qm243 r_x12 r_kv13 wh_x12 c14 c26 r_x35 c36 c46 c54 r_x64 q_x64 wh_x64 g_x67 g_x70 c71 c80 c93 g_x95 r_kv96 gl_x95 dr_x99 c100 dr_x102 lr_x102 ex103 g_x106 ex108 dv_x108 dw_x108 c110 i1u115 c132 c135 g_x137 gl_x137 ex139)))
                            have el107 := el_J eS141 el107
                            have hI := hIn
                            have f0 := fr_J eS141 f0
                            have d_kv2 := rd_J eS141 d_kv2
                            have d_x64 := rd_J eS141 d_x64
                            have d_kv13 := rd_J eS141 d_kv13
                            have d_x35 := rd_J eS141 d_x35
                            have d_kv96 := rd_J eS141 d_kv96
                            have ea3 := rf_J eS141 ea3
                            have ea66 := rf_J eS141 ea66
                            have ea69 := rf_J eS141 ea69
                            have ea94 := rf_J eS141 ea94
                            have ea98 := rf_J eS141 ea98
                            have ea105 := rf_J eS141 ea105
                            have ea136 := rf_J eS141 ea136
                            have l_a105 := ln_J eS141 l_a105
                            have l_a136 := ln_J eS141 l_a136
                            have l_a66 := ln_J eS141 l_a66
                            have l_a69 := ln_J eS141 l_a69
                            have l_a94 := ln_J eS141 l_a94
                            have l_a98 := ln_J eS141 l_a98
                            have g0 := gr_J eS141 g0
                            have o_a105 := ob_J eS141 o_a105
                            have o_a136 := ob_J eS141 o_a136
                            have o_a3 := ob_J eS141 o_a3
                            have o_a66 := ob_J eS141 o_a66
                            have o_a69 := ob_J eS141 o_a69
                            have o_a94 := ob_J eS141 o_a94
                            have o_a98 := ob_J eS141 o_a98
                            have o_v0 := ob_J eS141 o_v0
                            refine ⟨a98, ea98, ?_⟩
                            refine ⟨a3, ea3, ?_⟩
                            refine ⟨o_a3, ?_⟩
                            refine u_X10_minutes ?_
                            refine u_X10_minutes_0 ?_
                            refine ⟨o_a3, ?_⟩
                            refine ⟨a105, ea105, ?_⟩
                            refine ⟨o_a105, ?_⟩
                            refine ⟨(vin l_a105 (m := 12) (by decide) (qm244 r_x12 r_kv13 wh_x12 c14 c26 r_x35 c36 c46 c54 r_x64 q_x64 wh_x64 g_x67 g_x70 c71 c80 c93 g_x95 r_kv96 gl_x95 dr_x99 c100 dr_x102 lr_x102 ex103 g_x106 ex108 dv_x108 dw_x108 c110 i1u115 c132 c135 g_x137 gl_x137 ex139)), ?_⟩
                            intro x145 ex145
                            have qe_x145 : x145 = x106 := ex145.trans el107
                            have gy_x145 : 0 ≤ v1 ∧ v1 < fI S141 a3 3 := by rw [← d_x35]; exact (qm245 r_x12 r_kv13 wh_x12 c14 c26 r_x35 c36 c46 c54 r_x64 q_x64 wh_x64 g_x67 g_x70 c71 c80 c93 g_x95 r_kv96 gl_x95 dr_x99 c100 dr_x102 lr_x102 ex103 g_x106 ex108 dv_x108 dw_x108 c110 i1u115 c132 c135 g_x137 gl_x137 ex139 qe_x145)
                            have g_x145 : (1 : Int32) ≤ x145 ∧ x145 ≤ (60 : Int32) := by rw [ex145]; exact wg_at (ml_wg hI o_v0 ea3) 2 rfl gy_x145 ea105
                            refine ⟨(qm246 r_x12 r_kv13 wh_x12 c14 c26 r_x35 c36 c46 c54 r_x64 q_x64 wh_x64 g_x67 g_x70 c71 c80 c93 g_x95 r_kv96 gl_x95 dr_x99 c100 dr_x102 lr_x102 ex103 g_x106 ex108 dv_x108 dw_x108 c110 i1u115 c132 c135 g_x137 gl_x137 ex139 qe_x145 g_x145), ?_⟩
                            intro x146 ex146
                            have dv_x146 : 0 ≤ x146 ∧ x146 ≤ ((x145 + v3) - (1 : Int32)) := by rw [ex146]; exact dv0 (qm247 r_x12 r_kv13 wh_x12 c14 c26 r_x35 c36 c46 c54 r_x64 q_x64 wh_x64 g_x67 g_x70 c71 c80 c93 g_x95 r_kv96 gl_x95 dr_x99 c100 dr_x102 lr_x102 ex103 g_x106 ex108 dv_x108 dw_x108 c110 i1u115 c132 c135 g_x137 gl_x137 ex139 qe_x145 g_x145 ex146) (i32pos (qm248 r_x12 r_kv13 wh_x12 c14 c26 r_x35 c36 c46 c54 r_x64 q_x64 wh_x64 g_x67 g_x70 c71 c80 c93 g_x95 r_kv96 gl_x95 dr_x99 c100 dr_x102 lr_x102 ex103 g_x106 ex108 dv_x108 dw_x108 c110 i1u115 c132 c135 g_x137 gl_x137 ex139 qe_x145 g_x145 ex146))
                            have dw_x146 : (1 : Int32) ≤ x146 := by rw [ex146]; exact dv1 (qm249 r_x12 r_kv13 wh_x12 c14 c26 r_x35 c36 c46 c54 r_x64 q_x64 wh_x64 g_x67 g_x70 c71 c80 c93 g_x95 r_kv96 gl_x95 dr_x99 c100 dr_x102 lr_x102 ex103 g_x106 ex108 dv_x108 dw_x108 c110 i1u115 c132 c135 g_x137 gl_x137 ex139 qe_x145 g_x145 ex146) (qm250 r_x12 r_kv13 wh_x12 c14 c26 r_x35 c36 c46 c54 r_x64 q_x64 wh_x64 g_x67 g_x70 c71 c80 c93 g_x95 r_kv96 gl_x95 dr_x99 c100 dr_x102 lr_x102 ex103 g_x106 ex108 dv_x108 dw_x108 c110 i1u115 c132 c135 g_x137 gl_x137 ex139 qe_x145 g_x145 ex146)
                            intro _
                            refine ⟨o_a98, ?_⟩
                            intro x148 ex148
                            have i149 : vp_in (1 : Int32) (hN _ a98) := (vin l_a98 (m := 7) (by decide) (qm251 r_x12 r_kv13 wh_x12 c14 c26 r_x35 c36 c46 c54 r_x64 q_x64 wh_x64 g_x67 g_x70 c71 c80 c93 g_x95 r_kv96 gl_x95 dr_x99 c100 dr_x102 lr_x102 ex103 g_x106 ex108 dv_x108 dw_x108 c110 i1u115 c132 c135 g_x137 gl_x137 ex139 qe_x145 g_x145 ex146 dv_x146 dw_x146 ex148))
                            refine ⟨i149, ?_⟩
                            intro S150 eS150
                            have hIn : IV S150 := by rw [eS150]; exact iv11_aD hI (de_1 (by rw [ex148]; exact i2l_rng (lo := 0) (hi := 999) (qm252 r_x12 r_kv13 wh_x12 c14 c26 r_x35 c36 c46 c54 r_x64 q_x64 wh_x64 g_x67 g_x70 c71 c80 c93 g_x95 r_kv96 gl_x95 dr_x99 c100 dr_x102 lr_x102 ex103 g_x106 ex108 dv_x108 dw_x108 c110 i1u115 c132 c135 g_x137 gl_x137 ex139 qe_x145 g_x145 ex146 dv_x146 dw_x146 ex148)))
                            have el107 := el_J eS150 el107
                            have hI := hIn
                            have f0 := fr_J eS150 f0
                            have d_kv2 := rd_J eS150 d_kv2
                            have d_x64 := rd_J eS150 d_x64
                            have d_kv13 := rd_J eS150 d_kv13
                            have d_x35 := rd_J eS150 d_x35
                            have d_kv96 := rd_J eS150 d_kv96
                            have ea3 := rf_J eS150 ea3
                            have ea66 := rf_J eS150 ea66
                            have ea69 := rf_J eS150 ea69
                            have ea94 := rf_J eS150 ea94
                            have ea98 := rf_J eS150 ea98
                            have ea105 := rf_J eS150 ea105
                            have ea136 := rf_J eS150 ea136
                            have l_a105 := ln_J eS150 l_a105
                            have l_a136 := ln_J eS150 l_a136
                            have l_a66 := ln_J eS150 l_a66
                            have l_a69 := ln_J eS150 l_a69
                            have l_a94 := ln_J eS150 l_a94
                            have l_a98 := ln_J eS150 l_a98
                            have g0 := gr_J eS150 g0
                            have o_a105 := ob_J eS150 o_a105
                            have o_a136 := ob_J eS150 o_a136
                            have o_a3 := ob_J eS150 o_a3
                            have o_a66 := ob_J eS150 o_a66
                            have o_a69 := ob_J eS150 o_a69
                            have o_a94 := ob_J eS150 o_a94
                            have o_a98 := ob_J eS150 o_a98
                            have o_v0 := ob_J eS150 o_v0
                            refine ⟨a98, ea98, ?_⟩
                            refine ⟨o_a98, ?_⟩
                            refine ⟨(vin l_a98 (m := 7) (by decide) (qm251 r_x12 r_kv13 wh_x12 c14 c26 r_x35 c36 c46 c54 r_x64 q_x64 wh_x64 g_x67 g_x70 c71 c80 c93 g_x95 r_kv96 gl_x95 dr_x99 c100 dr_x102 lr_x102 ex103 g_x106 ex108 dv_x108 dw_x108 c110 i1u115 c132 c135 g_x137 gl_x137 ex139 qe_x145 g_x145 ex146 dv_x146 dw_x146 ex148)), ?_⟩
                            intro x152 ex152
                            have de_x152 := ml_de hI o_v0 (j := 21) (by decide) ea98 (1 : Int32).toNatClampNeg
                            rw [← ex152] at de_x152
                            have dr_x152 : (0 : Int64) ≤ x152 ∧ x152 ≤ (999 : Int64) := de_x152.2 (by decide)
                            have lr_x152 : 0 ≤ x152.toInt32 ∧ x152.toInt32 ≤ (999 : Int32) := l2i_rng (by decide) dr_x152
                            refine u_X11_good ?_
                            refine u_X11_good_0 ?_
                            refine ⟨o_v0, ?_⟩
                            intro S153 eS153
                            have hIn : IV S153 := by rw [eS153]; exact iv11_sI hI o_v0 (by decide) (nu_free (by decide))
                            have el107 := el_ob eS153 o_v0 o_a105 (by decide) el107
                            have hI := hIn
                            have f0 := fr_I eS153 g0 f0 o_v0 (by decide)
                            have d_kv2 := rd_Ij eS153 (by decide) d_kv2
                            have d_x64 := rd_Ij eS153 (by decide) d_x64
                            have d_kv13 := rd_Ik eS153 o_v0 o_a3 (by decide) d_kv13
                            have d_x35 := rd_Ik eS153 o_v0 o_a3 (by decide) d_x35
                            have d_kv96 := rd_Ik eS153 o_v0 o_a3 (by decide) d_kv96
                            obtain ⟨kv154, hkv154⟩ : ∃ z : Int32, z = (0 : Int32) := ⟨_, rfl⟩
                            have d_kv154 := rd_Is eS153 hkv154
                            have ea3 := rf_I eS153 ea3
                            have ea66 := rf_I eS153 ea66
                            have ea69 := rf_I eS153 ea69
                            have ea94 := rf_I eS153 ea94
                            have ea98 := rf_I eS153 ea98
                            have ea105 := rf_I eS153 ea105
                            have ea136 := rf_I eS153 ea136
                            have l_a105 := ln_I eS153 l_a105
                            have l_a136 := ln_I eS153 l_a136
                            have l_a66 := ln_I eS153 l_a66
                            have l_a69 := ln_I eS153 l_a69
                            have l_a94 := ln_I eS153 l_a94
                            have l_a98 := ln_I eS153 l_a98
                            have g0 := gr_I eS153 g0
                            have o_a105 := ob_I eS153 o_a105
                            have o_a136 := ob_I eS153 o_a136
                            have o_a3 := ob_I eS153 o_a3
                            have o_a66 := ob_I eS153 o_a66
                            have o_a69 := ob_I eS153 o_a69
                            have o_a94 := ob_I eS153 o_a94
                            have o_a98 := ob_I eS153 o_a98
                            have o_v0 := ob_I eS153 o_v0
                            intro S155 eS155
                            have hIn : IV S155 := by rw [eS155]; exact iv11_sI hI o_v0 (by decide) (nu_free (by decide))
                            have el107 := el_ob eS155 o_v0 o_a105 (by decide) el107
                            have hI := hIn
                            have f0 := fr_I eS155 g0 f0 o_v0 (by decide)
                            have d_kv2 := rd_Ij eS155 (by decide) d_kv2
                            have d_x64 := rd_Ij eS155 (by decide) d_x64
                            have d_kv13 := rd_Ik eS155 o_v0 o_a3 (by decide) d_kv13
                            have d_x35 := rd_Ik eS155 o_v0 o_a3 (by decide) d_x35
                            have d_kv96 := rd_Ik eS155 o_v0 o_a3 (by decide) d_kv96
                            have d_kv154 := rd_Ij eS155 (by decide) d_kv154
                            obtain ⟨kv156, hkv156⟩ : ∃ z : Int32, z = (-1 : Int32) := ⟨_, rfl⟩
                            have d_kv156 := rd_Is eS155 hkv156
                            have ea3 := rf_I eS155 ea3
                            have ea66 := rf_I eS155 ea66
                            have ea69 := rf_I eS155 ea69
                            have ea94 := rf_I eS155 ea94
                            have ea98 := rf_I eS155 ea98
                            have ea105 := rf_I eS155 ea105
                            have ea136 := rf_I eS155 ea136
                            have l_a105 := ln_I eS155 l_a105
                            have l_a136 := ln_I eS155 l_a136
                            have l_a66 := ln_I eS155 l_a66
                            have l_a69 := ln_I eS155 l_a69
                            have l_a94 := ln_I eS155 l_a94
                            have l_a98 := ln_I eS155 l_a98
                            have g0 := gr_I eS155 g0
                            have o_a105 := ob_I eS155 o_a105
                            have o_a136 := ob_I eS155 o_a136
                            have o_a3 := ob_I eS155 o_a3
                            have o_a66 := ob_I eS155 o_a66
                            have o_a69 := ob_I eS155 o_a69
                            have o_a94 := ob_I eS155 o_a94
                            have o_a98 := ob_I eS155 o_a98
                            have o_v0 := ob_I eS155 o_v0
                            intro _
                            exact hq _ _ hI g0 f0
                          · refine ⟨o_a3, ?_⟩
                            refine ⟨a94, ea94, ?_⟩
                            refine ⟨o_a94, ?_⟩
                            refine ⟨(vin l_a94 (m := 12) (by decide) (qm253 r_x12 r_kv13 wh_x12 c14 c26 r_x35 c36 c46 c54 r_x64 q_x64 wh_x64 g_x67 g_x70 c71 c80 c93 g_x95 r_kv96 gl_x95 dr_x99 c100 dr_x102 lr_x102 ex103 g_x106 ex108 dv_x108 dw_x108 c110 i1u115 c132 c135)), ?_⟩
                            intro x159 ex159
                            have gy_x159 : 0 ≤ v1 ∧ v1 < fI S116 a3 3 := by rw [← d_x35]; exact (qm254 r_x12 r_kv13 wh_x12 c14 c26 r_x35 c36 c46 c54 r_x64 q_x64 wh_x64 g_x67 g_x70 c71 c80 c93 g_x95 r_kv96 gl_x95 dr_x99 c100 dr_x102 lr_x102 ex103 g_x106 ex108 dv_x108 dw_x108 c110 i1u115 c132 c135)
                            have g_x159 : (0 : Int32) ≤ x159 ∧ x159 ≤ (7 : Int32) := by rw [ex159]; exact wg_at (ml_wg hI o_v0 ea3) 1 rfl gy_x159 ea94
                            have gl_x159 : x159 < kv96 := by rw [ex159, d_kv96]; exact wg_lt (ml_wg hI o_v0 ea3) 1 rfl (by decide) gy_x159 ea94
                            intro _
                            refine ⟨o_a98, ?_⟩
                            intro x161 ex161
                            have i162 : vp_in (0 : Int32) (hN _ a98) := (vin l_a98 (m := 7) (by decide) (qm255 r_x12 r_kv13 wh_x12 c14 c26 r_x35 c36 c46 c54 r_x64 q_x64 wh_x64 g_x67 g_x70 c71 c80 c93 g_x95 r_kv96 gl_x95 dr_x99 c100 dr_x102 lr_x102 ex103 g_x106 ex108 dv_x108 dw_x108 c110 i1u115 c132 c135 g_x159 gl_x159 ex161))
                            refine ⟨i162, ?_⟩
                            intro S163 eS163
                            have hIn : IV S163 := by rw [eS163]; exact iv11_aD hI (de_0 (by rw [ex161]; exact i2l_rng (lo := 0) (hi := 7) (qm256 r_x12 r_kv13 wh_x12 c14 c26 r_x35 c36 c46 c54 r_x64 q_x64 wh_x64 g_x67 g_x70 c71 c80 c93 g_x95 r_kv96 gl_x95 dr_x99 c100 dr_x102 lr_x102 ex103 g_x106 ex108 dv_x108 dw_x108 c110 i1u115 c132 c135 g_x159 gl_x159 ex161)))
                            have el107 := el_J eS163 el107
                            have hI := hIn
                            have f0 := fr_J eS163 f0
                            have d_kv2 := rd_J eS163 d_kv2
                            have d_x64 := rd_J eS163 d_x64
                            have d_kv13 := rd_J eS163 d_kv13
                            have d_x35 := rd_J eS163 d_x35
                            have d_kv96 := rd_J eS163 d_kv96
                            have ea3 := rf_J eS163 ea3
                            have ea66 := rf_J eS163 ea66
                            have ea69 := rf_J eS163 ea69
                            have ea94 := rf_J eS163 ea94
                            have ea98 := rf_J eS163 ea98
                            have ea105 := rf_J eS163 ea105
                            have l_a105 := ln_J eS163 l_a105
                            have l_a66 := ln_J eS163 l_a66
                            have l_a69 := ln_J eS163 l_a69
                            have l_a94 := ln_J eS163 l_a94
                            have l_a98 := ln_J eS163 l_a98
                            have g0 := gr_J eS163 g0
                            have o_a105 := ob_J eS163 o_a105
                            have o_a3 := ob_J eS163 o_a3
                            have o_a66 := ob_J eS163 o_a66
                            have o_a69 := ob_J eS163 o_a69
                            have o_a94 := ob_J eS163 o_a94
                            have o_a98 := ob_J eS163 o_a98
                            have o_v0 := ob_J eS163 o_v0
                            refine ⟨a98, ea98, ?_⟩
                            refine ⟨a3, ea3, ?_⟩
                            refine ⟨o_a3, ?_⟩
                            refine u_X10_minutes ?_
                            refine u_X10_minutes_0 ?_
                            refine ⟨o_a3, ?_⟩
                            refine ⟨a105, ea105, ?_⟩
                            refine ⟨o_a105, ?_⟩
                            refine ⟨(vin l_a105 (m := 12) (by decide) (qm257 r_x12 r_kv13 wh_x12 c14 c26 r_x35 c36 c46 c54 r_x64 q_x64 wh_x64 g_x67 g_x70 c71 c80 c93 g_x95 r_kv96 gl_x95 dr_x99 c100 dr_x102 lr_x102 ex103 g_x106 ex108 dv_x108 dw_x108 c110 i1u115 c132 c135 g_x159 gl_x159 ex161)), ?_⟩
                            intro x167 ex167
                            have qe_x167 : x167 = x106 := ex167.trans el107
                            have gy_x167 : 0 ≤ v1 ∧ v1 < fI S163 a3 3 := by rw [← d_x35]; exact (qm258 r_x12 r_kv13 wh_x12 c14 c26 r_x35 c36 c46 c54 r_x64 q_x64 wh_x64 g_x67 g_x70 c71 c80 c93 g_x95 r_kv96 gl_x95 dr_x99 c100 dr_x102 lr_x102 ex103 g_x106 ex108 dv_x108 dw_x108 c110 i1u115 c132 c135 g_x159 gl_x159 ex161 qe_x167)
                            have g_x167 : (1 : Int32) ≤ x167 ∧ x167 ≤ (60 : Int32) := by rw [ex167]; exact wg_at (ml_wg hI o_v0 ea3) 2 rfl gy_x167 ea105
                            refine ⟨(qm259 r_x12 r_kv13 wh_x12 c14 c26 r_x35 c36 c46 c54 r_x64 q_x64 wh_x64 g_x67 g_x70 c71 c80 c93 g_x95 r_kv96 gl_x95 dr_x99 c100 dr_x102 lr_x102 ex103 g_x106 ex108 dv_x108 dw_x108 c110 i1u115 c132 c135 g_x159 gl_x159 ex161 qe_x167 g_x167), ?_⟩
                            intro x168 ex168
                            have dv_x168 : 0 ≤ x168 ∧ x168 ≤ ((x167 + v3) - (1 : Int32)) := by rw [ex168]; exact dv0 (qm260 r_x12 r_kv13 wh_x12 c14 c26 r_x35 c36 c46 c54 r_x64 q_x64 wh_x64 g_x67 g_x70 c71 c80 c93 g_x95 r_kv96 gl_x95 dr_x99 c100 dr_x102 lr_x102 ex103 g_x106 ex108 dv_x108 dw_x108 c110 i1u115 c132 c135 g_x159 gl_x159 ex161 qe_x167 g_x167 ex168) (i32pos (qm261 r_x12 r_kv13 wh_x12 c14 c26 r_x35 c36 c46 c54 r_x64 q_x64 wh_x64 g_x67 g_x70 c71 c80 c93 g_x95 r_kv96 gl_x95 dr_x99 c100 dr_x102 lr_x102 ex103 g_x106 ex108 dv_x108 dw_x108 c110 i1u115 c132 c135 g_x159 gl_x159 ex161 qe_x167 g_x167 ex168))
                            have dw_x168 : (1 : Int32) ≤ x168 := by rw [ex168]; exact dv1 (qm262 r_x12 r_kv13 wh_x12 c14 c26 r_x35 c36 c46 c54 r_x64 q_x64 wh_x64 g_x67 g_x70 c71 c80 c93 g_x95 r_kv96 gl_x95 dr_x99 c100 dr_x102 lr_x102 ex103 g_x106 ex108 dv_x108 dw_x108 c110 i1u115 c132 c135 g_x159 gl_x159 ex161 qe_x167 g_x167 ex168) (qm263 r_x12 r_kv13 wh_x12 c14 c26 r_x35 c36 c46 c54 r_x64 q_x64 wh_x64 g_x67 g_x70 c71 c80 c93 g_x95 r_kv96 gl_x95 dr_x99 c100 dr_x102 lr_x102 ex103 g_x106 ex108 dv_x108 dw_x108 c110 i1u115 c132 c135 g_x159 gl_x159 ex161 qe_x167 g_x167 ex168)
                            intro _
                            refine ⟨o_a98, ?_⟩
                            intro x170 ex170
                            have i171 : vp_in (1 : Int32) (hN _ a98) := (vin l_a98 (m := 7) (by decide) (qm264 r_x12 r_kv13 wh_x12 c14 c26 r_x35 c36 c46 c54 r_x64 q_x64 wh_x64 g_x67 g_x70 c71 c80 c93 g_x95 r_kv96 gl_x95 dr_x99 c100 dr_x102 lr_x102 ex103 g_x106 ex108 dv_x108 dw_x108 c110 i1u115 c132 c135 g_x159 gl_x159 ex161 qe_x167 g_x167 ex168 dv_x168 dw_x168 ex170))
                            refine ⟨i171, ?_⟩
                            intro S172 eS172
                            have hIn : IV S172 := by rw [eS172]; exact iv11_aD hI (de_1 (by rw [ex170]; exact i2l_rng (lo := 0) (hi := 999) (qm265 r_x12 r_kv13 wh_x12 c14 c26 r_x35 c36 c46 c54 r_x64 q_x64 wh_x64 g_x67 g_x70 c71 c80 c93 g_x95 r_kv96 gl_x95 dr_x99 c100 dr_x102 lr_x102 ex103 g_x106 ex108 dv_x108 dw_x108 c110 i1u115 c132 c135 g_x159 gl_x159 ex161 qe_x167 g_x167 ex168 dv_x168 dw_x168 ex170)))
                            have el107 := el_J eS172 el107
                            have hI := hIn
                            have f0 := fr_J eS172 f0
                            have d_kv2 := rd_J eS172 d_kv2
                            have d_x64 := rd_J eS172 d_x64
                            have d_kv13 := rd_J eS172 d_kv13
                            have d_x35 := rd_J eS172 d_x35
                            have d_kv96 := rd_J eS172 d_kv96
                            have ea3 := rf_J eS172 ea3
                            have ea66 := rf_J eS172 ea66
                            have ea69 := rf_J eS172 ea69
                            have ea94 := rf_J eS172 ea94
                            have ea98 := rf_J eS172 ea98
                            have ea105 := rf_J eS172 ea105
                            have l_a105 := ln_J eS172 l_a105
                            have l_a66 := ln_J eS172 l_a66
                            have l_a69 := ln_J eS172 l_a69
                            have l_a94 := ln_J eS172 l_a94
                            have l_a98 := ln_J eS172 l_a98
                            have g0 := gr_J eS172 g0
                            have o_a105 := ob_J eS172 o_a105
                            have o_a3 := ob_J eS172 o_a3
                            have o_a66 := ob_J eS172 o_a66
                            have o_a69 := ob_J eS172 o_a69
                            have o_a94 := ob_J eS172 o_a94
                            have o_a98 := ob_J eS172 o_a98
                            have o_v0 := ob_J eS172 o_v0
                            refine ⟨a98, ea98, ?_⟩
                            refine ⟨o_a98, ?_⟩
                            refine ⟨(vin l_a98 (m := 7) (by decide) (qm264 r_x12 r_kv13 wh_x12 c14 c26 r_x35 c36 c46 c54 r_x64 q_x64 wh_x64 g_x67 g_x70 c71 c80 c93 g_x95 r_kv96 gl_x95 dr_x99 c100 dr_x102 lr_x102 ex103 g_x106 ex108 dv_x108 dw_x108 c110 i1u115 c132 c135 g_x159 gl_x159 ex161 qe_x167 g_x167 ex168 dv_x168 dw_x168 ex170)), ?_⟩
                            intro x174 ex174
                            have de_x174 := ml_de hI o_v0 (j := 21) (by decide) ea98 (1 : Int32).toNatClampNeg
                            rw [← ex174] at de_x174
                            have dr_x174 : (0 : Int64) ≤ x174 ∧ x174 ≤ (999 : Int64) := de_x174.2 (by decide)
                            have lr_x174 : 0 ≤ x174.toInt32 ∧ x174.toInt32 ≤ (999 : Int32) := l2i_rng (by decide) dr_x174
                            refine u_X11_good ?_
                            refine u_X11_good_0 ?_
                            refine ⟨o_v0, ?_⟩
                            intro S175 eS175
                            have hIn : IV S175 := by rw [eS175]; exact iv11_sI hI o_v0 (by decide) (nu_free (by decide))
                            have el107 := el_ob eS175 o_v0 o_a105 (by decide) el107
                            have hI := hIn
                            have f0 := fr_I eS175 g0 f0 o_v0 (by decide)
                            have d_kv2 := rd_Ij eS175 (by decide) d_kv2
                            have d_x64 := rd_Ij eS175 (by decide) d_x64
                            have d_kv13 := rd_Ik eS175 o_v0 o_a3 (by decide) d_kv13
                            have d_x35 := rd_Ik eS175 o_v0 o_a3 (by decide) d_x35
                            have d_kv96 := rd_Ik eS175 o_v0 o_a3 (by decide) d_kv96
                            obtain ⟨kv176, hkv176⟩ : ∃ z : Int32, z = (0 : Int32) := ⟨_, rfl⟩
                            have d_kv176 := rd_Is eS175 hkv176
                            have ea3 := rf_I eS175 ea3
                            have ea66 := rf_I eS175 ea66
                            have ea69 := rf_I eS175 ea69
                            have ea94 := rf_I eS175 ea94
                            have ea98 := rf_I eS175 ea98
                            have ea105 := rf_I eS175 ea105
                            have l_a105 := ln_I eS175 l_a105
                            have l_a66 := ln_I eS175 l_a66
                            have l_a69 := ln_I eS175 l_a69
                            have l_a94 := ln_I eS175 l_a94
                            have l_a98 := ln_I eS175 l_a98
                            have g0 := gr_I eS175 g0
                            have o_a105 := ob_I eS175 o_a105
                            have o_a3 := ob_I eS175 o_a3
                            have o_a66 := ob_I eS175 o_a66
                            have o_a69 := ob_I eS175 o_a69
                            have o_a94 := ob_I eS175 o_a94
                            have o_a98 := ob_I eS175 o_a98
                            have o_v0 := ob_I eS175 o_v0
                            intro S177 eS177
                            have hIn : IV S177 := by rw [eS177]; exact iv11_sI hI o_v0 (by decide) (nu_free (by decide))
                            have el107 := el_ob eS177 o_v0 o_a105 (by decide) el107
                            have hI := hIn
                            have f0 := fr_I eS177 g0 f0 o_v0 (by decide)
                            have d_kv2 := rd_Ij eS177 (by decide) d_kv2
                            have d_x64 := rd_Ij eS177 (by decide) d_x64
                            have d_kv13 := rd_Ik eS177 o_v0 o_a3 (by decide) d_kv13
                            have d_x35 := rd_Ik eS177 o_v0 o_a3 (by decide) d_x35
                            have d_kv96 := rd_Ik eS177 o_v0 o_a3 (by decide) d_kv96
                            have d_kv176 := rd_Ij eS177 (by decide) d_kv176
                            obtain ⟨kv178, hkv178⟩ : ∃ z : Int32, z = (-1 : Int32) := ⟨_, rfl⟩
                            have d_kv178 := rd_Is eS177 hkv178
                            have ea3 := rf_I eS177 ea3
                            have ea66 := rf_I eS177 ea66
                            have ea69 := rf_I eS177 ea69
                            have ea94 := rf_I eS177 ea94
                            have ea98 := rf_I eS177 ea98
                            have ea105 := rf_I eS177 ea105
                            have l_a105 := ln_I eS177 l_a105
                            have l_a66 := ln_I eS177 l_a66
                            have l_a69 := ln_I eS177 l_a69
                            have l_a94 := ln_I eS177 l_a94
                            have l_a98 := ln_I eS177 l_a98
                            have g0 := gr_I eS177 g0
                            have o_a105 := ob_I eS177 o_a105
                            have o_a3 := ob_I eS177 o_a3
                            have o_a66 := ob_I eS177 o_a66
                            have o_a69 := ob_I eS177 o_a69
                            have o_a94 := ob_I eS177 o_a94
                            have o_a98 := ob_I eS177 o_a98
                            have o_v0 := ob_I eS177 o_v0
                            intro _
                            exact hq _ _ hI g0 f0
                        · refine ⟨o_v0, ?_⟩
                          refine u_X11_rainsIn ?_
                          refine u_X11_rainsIn_0 ?_
                          refine ⟨o_v0, ?_⟩
                          refine u_X11_hourOf ?_
                          refine u_X11_hourOf_0 ?_
                          refine ⟨o_v0, ?_⟩
                          refine ⟨a3, ea3, ?_⟩
                          refine ⟨o_a3, ?_⟩
                          intro x181 ex181
                          have r_x181 : (0 : Int32) ≤ x181 ∧ x181 ≤ (60 : Int32) := by rw [ex181]; exact nu 16 rfl hI o_a3
                          have d_x181 := ex181
                          have hh_x181 : 1 ≤ x181 := by rw [ex181]; exact ml_hour hI o_v0 ea3
                          refine ⟨(qm266 r_x12 r_kv13 wh_x12 c14 c26 r_x35 c36 c46 c54 r_x64 q_x64 wh_x64 g_x67 g_x70 c71 c80 c93 g_x95 r_kv96 gl_x95 dr_x99 c100 dr_x102 lr_x102 ex103 g_x106 ex108 dv_x108 dw_x108 c110 i1u115 c132 r_x181 hh_x181), ?_⟩
                          intro x182 ex182
                          have dv_x182 : 0 ≤ x182 ∧ x182 ≤ x103 := by rw [ex182]; exact dv0 (qm267 r_x12 r_kv13 wh_x12 c14 c26 r_x35 c36 c46 c54 r_x64 q_x64 wh_x64 g_x67 g_x70 c71 c80 c93 g_x95 r_kv96 gl_x95 dr_x99 c100 dr_x102 lr_x102 ex103 g_x106 ex108 dv_x108 dw_x108 c110 i1u115 c132 r_x181 hh_x181 ex182) (i32pos (qm268 r_x12 r_kv13 wh_x12 c14 c26 r_x35 c36 c46 c54 r_x64 q_x64 wh_x64 g_x67 g_x70 c71 c80 c93 g_x95 r_kv96 gl_x95 dr_x99 c100 dr_x102 lr_x102 ex103 g_x106 ex108 dv_x108 dw_x108 c110 i1u115 c132 r_x181 hh_x181 ex182))
                          intro _
                          refine ⟨a3, ea3, ?_⟩
                          refine ⟨o_a3, ?_⟩
                          intro x185 ex185
                          have r_x185 : (0 : Int32) ≤ x185 ∧ x185 ≤ (6 : Int32) := by rw [ex185]; exact nu 17 rfl hI o_a3
                          have d_x185 := ex185
                          refine ⟨fun c186 => ?_, fun c186 => ?_⟩
                          · intro _ _
                            refine ⟨fun c188 => ?_, fun c188 => absurd (show ¬ (0 : Int32) = 0 from c188) (by decide)⟩
                            refine u_X11_go_171 ?_
                            refine ⟨o_v0, ?_⟩
                            refine ⟨a98, ea98, ?_⟩
                            refine ⟨a3, ea3, ?_⟩
                            refine ⟨o_a3, ?_⟩
                            refine u_X10_ends ?_
                            refine u_X10_ends_0 ?_
                            refine ⟨fun c191 => ?_, fun c191 => ?_⟩
                            · refine ⟨o_a3, ?_⟩
                              obtain ⟨a192, ea192, o_a192, l_a192⟩ := shl 35 rfl hI o_a3
                              refine ⟨a192, ea192, ?_⟩
                              refine ⟨o_a192, ?_⟩
                              refine ⟨(vin l_a192 (m := 12) (by decide) (qm269 r_x12 r_kv13 wh_x12 c14 c26 r_x35 c36 c46 c54 r_x64 q_x64 wh_x64 g_x67 g_x70 c71 c80 c93 g_x95 r_kv96 gl_x95 dr_x99 c100 dr_x102 lr_x102 ex103 g_x106 ex108 dv_x108 dw_x108 c110 i1u115 c132 r_x181 hh_x181 ex182 dv_x182 r_x185 c186 c191)), ?_⟩
                              intro x193 ex193
                              have gy_x193 : 0 ≤ v1 ∧ v1 < fI S116 a3 3 := by rw [← d_x35]; exact (qm270 r_x12 r_kv13 wh_x12 c14 c26 r_x35 c36 c46 c54 r_x64 q_x64 wh_x64 g_x67 g_x70 c71 c80 c93 g_x95 r_kv96 gl_x95 dr_x99 c100 dr_x102 lr_x102 ex103 g_x106 ex108 dv_x108 dw_x108 c110 i1u115 c132 r_x181 hh_x181 ex182 dv_x182 r_x185 c186 c191)
                              have g_x193 : (0 : Int32) ≤ x193 ∧ x193 ≤ (7 : Int32) := by rw [ex193]; exact wg_at (ml_wg hI o_v0 ea3) 0 rfl gy_x193 ea192
                              have gl_x193 : x193 < kv96 := by rw [ex193, d_kv96]; exact wg_lt (ml_wg hI o_v0 ea3) 0 rfl (by decide) gy_x193 ea192
                              intro _
                              refine ⟨o_a98, ?_⟩
                              intro x195 ex195
                              have i196 : vp_in (0 : Int32) (hN _ a98) := (vin l_a98 (m := 7) (by decide) (qm271 r_x12 r_kv13 wh_x12 c14 c26 r_x35 c36 c46 c54 r_x64 q_x64 wh_x64 g_x67 g_x70 c71 c80 c93 g_x95 r_kv96 gl_x95 dr_x99 c100 dr_x102 lr_x102 ex103 g_x106 ex108 dv_x108 dw_x108 c110 i1u115 c132 r_x181 hh_x181 ex182 dv_x182 r_x185 c186 c191 g_x193 gl_x193 ex195))
                              refine ⟨i196, ?_⟩
                              intro S197 eS197
                              have hIn : IV S197 := by rw [eS197]; exact iv11_aD hI (de_0 (by rw [ex195]; exact i2l_rng (lo := 0) (hi := 7) (qm272 r_x12 r_kv13 wh_x12 c14 c26 r_x35 c36 c46 c54 r_x64 q_x64 wh_x64 g_x67 g_x70 c71 c80 c93 g_x95 r_kv96 gl_x95 dr_x99 c100 dr_x102 lr_x102 ex103 g_x106 ex108 dv_x108 dw_x108 c110 i1u115 c132 r_x181 hh_x181 ex182 dv_x182 r_x185 c186 c191 g_x193 gl_x193 ex195)))
                              have el107 := el_J eS197 el107
                              have hI := hIn
                              have f0 := fr_J eS197 f0
                              have d_kv2 := rd_J eS197 d_kv2
                              have d_x64 := rd_J eS197 d_x64
                              have d_kv13 := rd_J eS197 d_kv13
                              have d_x35 := rd_J eS197 d_x35
                              have d_kv96 := rd_J eS197 d_kv96
                              have d_x181 := rd_J eS197 d_x181
                              have d_x185 := rd_J eS197 d_x185
                              have ea3 := rf_J eS197 ea3
                              have ea66 := rf_J eS197 ea66
                              have ea69 := rf_J eS197 ea69
                              have ea94 := rf_J eS197 ea94
                              have ea98 := rf_J eS197 ea98
                              have ea105 := rf_J eS197 ea105
                              have ea192 := rf_J eS197 ea192
                              have l_a105 := ln_J eS197 l_a105
                              have l_a192 := ln_J eS197 l_a192
                              have l_a66 := ln_J eS197 l_a66
                              have l_a69 := ln_J eS197 l_a69
                              have l_a94 := ln_J eS197 l_a94
                              have l_a98 := ln_J eS197 l_a98
                              have g0 := gr_J eS197 g0
                              have o_a105 := ob_J eS197 o_a105
                              have o_a192 := ob_J eS197 o_a192
                              have o_a3 := ob_J eS197 o_a3
                              have o_a66 := ob_J eS197 o_a66
                              have o_a69 := ob_J eS197 o_a69
                              have o_a94 := ob_J eS197 o_a94
                              have o_a98 := ob_J eS197 o_a98
                              have o_v0 := ob_J eS197 o_v0
                              refine ⟨a98, ea98, ?_⟩
                              refine ⟨a3, ea3, ?_⟩
                              refine ⟨o_a3, ?_⟩
                              refine u_X10_minutes ?_
                              refine u_X10_minutes_0 ?_
                              refine ⟨o_a3, ?_⟩
                              refine ⟨a105, ea105, ?_⟩
                              refine ⟨o_a105, ?_⟩
                              refine ⟨(vin l_a105 (m := 12) (by decide) (qm273 r_x12 r_kv13 wh_x12 c14 c26 r_x35 c36 c46 c54 r_x64 q_x64 wh_x64 g_x67 g_x70 c71 c80 c93 g_x95 r_kv96 gl_x95 dr_x99 c100 dr_x102 lr_x102 ex103 g_x106 ex108 dv_x108 dw_x108 c110 i1u115 c132 r_x181 hh_x181 ex182 dv_x182 r_x185 c186 c191 g_x193 gl_x193 ex195)), ?_⟩
                              intro x201 ex201
                              have qe_x201 : x201 = x106 := ex201.trans el107
                              have gy_x201 : 0 ≤ v1 ∧ v1 < fI S197 a3 3 := by rw [← d_x35]; exact (qm274 r_x12 r_kv13 wh_x12 c14 c26 r_x35 c36 c46 c54 r_x64 q_x64 wh_x64 g_x67 g_x70 c71 c80 c93 g_x95 r_kv96 gl_x95 dr_x99 c100 dr_x102 lr_x102 ex103 g_x106 ex108 dv_x108 dw_x108 c110 i1u115 c132 r_x181 hh_x181 ex182 dv_x182 r_x185 c186 c191 g_x193 gl_x193 ex195 qe_x201)
                              have g_x201 : (1 : Int32) ≤ x201 ∧ x201 ≤ (60 : Int32) := by rw [ex201]; exact wg_at (ml_wg hI o_v0 ea3) 2 rfl gy_x201 ea105
                              refine ⟨(qm275 r_x12 r_kv13 wh_x12 c14 c26 r_x35 c36 c46 c54 r_x64 q_x64 wh_x64 g_x67 g_x70 c71 c80 c93 g_x95 r_kv96 gl_x95 dr_x99 c100 dr_x102 lr_x102 ex103 g_x106 ex108 dv_x108 dw_x108 c110 i1u115 c132 r_x181 hh_x181 ex182 dv_x182 r_x185 c186 c191 g_x193 gl_x193 ex195 qe_x201 g_x201), ?_⟩
                              intro x202 ex202
                              have dv_x202 : 0 ≤ x202 ∧ x202 ≤ ((x201 + v3) - (1 : Int32)) := by rw [ex202]; exact dv0 (qm276 r_x12 r_kv13 wh_x12 c14 c26 r_x35 c36 c46 c54 r_x64 q_x64 wh_x64 g_x67 g_x70 c71 c80 c93 g_x95 r_kv96 gl_x95 dr_x99 c100 dr_x102 lr_x102 ex103 g_x106 ex108 dv_x108 dw_x108 c110 i1u115 c132 r_x181 hh_x181 ex182 dv_x182 r_x185 c186 c191 g_x193 gl_x193 ex195 qe_x201 g_x201 ex202) (i32pos (qm277 r_x12 r_kv13 wh_x12 c14 c26 r_x35 c36 c46 c54 r_x64 q_x64 wh_x64 g_x67 g_x70 c71 c80 c93 g_x95 r_kv96 gl_x95 dr_x99 c100 dr_x102 lr_x102 ex103 g_x106 ex108 dv_x108 dw_x108 c110 i1u115 c132 r_x181 hh_x181 ex182 dv_x182 r_x185 c186 c191 g_x193 gl_x193 ex195 qe_x201 g_x201 ex202))
                              have dw_x202 : (1 : Int32) ≤ x202 := by rw [ex202]; exact dv1 (qm278 r_x12 r_kv13 wh_x12 c14 c26 r_x35 c36 c46 c54 r_x64 q_x64 wh_x64 g_x67 g_x70 c71 c80 c93 g_x95 r_kv96 gl_x95 dr_x99 c100 dr_x102 lr_x102 ex103 g_x106 ex108 dv_x108 dw_x108 c110 i1u115 c132 r_x181 hh_x181 ex182 dv_x182 r_x185 c186 c191 g_x193 gl_x193 ex195 qe_x201 g_x201 ex202) (qm279 r_x12 r_kv13 wh_x12 c14 c26 r_x35 c36 c46 c54 r_x64 q_x64 wh_x64 g_x67 g_x70 c71 c80 c93 g_x95 r_kv96 gl_x95 dr_x99 c100 dr_x102 lr_x102 ex103 g_x106 ex108 dv_x108 dw_x108 c110 i1u115 c132 r_x181 hh_x181 ex182 dv_x182 r_x185 c186 c191 g_x193 gl_x193 ex195 qe_x201 g_x201 ex202)
                              intro _
                              refine ⟨o_a98, ?_⟩
                              intro x204 ex204
                              have i205 : vp_in (1 : Int32) (hN _ a98) := (vin l_a98 (m := 7) (by decide) (qm280 r_x12 r_kv13 wh_x12 c14 c26 r_x35 c36 c46 c54 r_x64 q_x64 wh_x64 g_x67 g_x70 c71 c80 c93 g_x95 r_kv96 gl_x95 dr_x99 c100 dr_x102 lr_x102 ex103 g_x106 ex108 dv_x108 dw_x108 c110 i1u115 c132 r_x181 hh_x181 ex182 dv_x182 r_x185 c186 c191 g_x193 gl_x193 ex195 qe_x201 g_x201 ex202 dv_x202 dw_x202 ex204))
                              refine ⟨i205, ?_⟩
                              intro S206 eS206
                              have hIn : IV S206 := by rw [eS206]; exact iv11_aD hI (de_1 (by rw [ex204]; exact i2l_rng (lo := 0) (hi := 999) (qm281 r_x12 r_kv13 wh_x12 c14 c26 r_x35 c36 c46 c54 r_x64 q_x64 wh_x64 g_x67 g_x70 c71 c80 c93 g_x95 r_kv96 gl_x95 dr_x99 c100 dr_x102 lr_x102 ex103 g_x106 ex108 dv_x108 dw_x108 c110 i1u115 c132 r_x181 hh_x181 ex182 dv_x182 r_x185 c186 c191 g_x193 gl_x193 ex195 qe_x201 g_x201 ex202 dv_x202 dw_x202 ex204)))
                              have el107 := el_J eS206 el107
                              have hI := hIn
                              have f0 := fr_J eS206 f0
                              have d_kv2 := rd_J eS206 d_kv2
                              have d_x64 := rd_J eS206 d_x64
                              have d_kv13 := rd_J eS206 d_kv13
                              have d_x35 := rd_J eS206 d_x35
                              have d_kv96 := rd_J eS206 d_kv96
                              have d_x181 := rd_J eS206 d_x181
                              have d_x185 := rd_J eS206 d_x185
                              have ea3 := rf_J eS206 ea3
                              have ea66 := rf_J eS206 ea66
                              have ea69 := rf_J eS206 ea69
                              have ea94 := rf_J eS206 ea94
                              have ea98 := rf_J eS206 ea98
                              have ea105 := rf_J eS206 ea105
                              have ea192 := rf_J eS206 ea192
                              have l_a105 := ln_J eS206 l_a105
                              have l_a192 := ln_J eS206 l_a192
                              have l_a66 := ln_J eS206 l_a66
                              have l_a69 := ln_J eS206 l_a69
                              have l_a94 := ln_J eS206 l_a94
                              have l_a98 := ln_J eS206 l_a98
                              have g0 := gr_J eS206 g0
                              have o_a105 := ob_J eS206 o_a105
                              have o_a192 := ob_J eS206 o_a192
                              have o_a3 := ob_J eS206 o_a3
                              have o_a66 := ob_J eS206 o_a66
                              have o_a69 := ob_J eS206 o_a69
                              have o_a94 := ob_J eS206 o_a94
                              have o_a98 := ob_J eS206 o_a98
                              have o_v0 := ob_J eS206 o_v0
                              refine ⟨a98, ea98, ?_⟩
                              refine ⟨o_a98, ?_⟩
                              refine ⟨(vin l_a98 (m := 7) (by decide) (qm280 r_x12 r_kv13 wh_x12 c14 c26 r_x35 c36 c46 c54 r_x64 q_x64 wh_x64 g_x67 g_x70 c71 c80 c93 g_x95 r_kv96 gl_x95 dr_x99 c100 dr_x102 lr_x102 ex103 g_x106 ex108 dv_x108 dw_x108 c110 i1u115 c132 r_x181 hh_x181 ex182 dv_x182 r_x185 c186 c191 g_x193 gl_x193 ex195 qe_x201 g_x201 ex202 dv_x202 dw_x202 ex204)), ?_⟩
                              intro x208 ex208
                              have de_x208 := ml_de hI o_v0 (j := 21) (by decide) ea98 (1 : Int32).toNatClampNeg
                              rw [← ex208] at de_x208
                              have dr_x208 : (0 : Int64) ≤ x208 ∧ x208 ≤ (999 : Int64) := de_x208.2 (by decide)
                              have lr_x208 : 0 ≤ x208.toInt32 ∧ x208.toInt32 ≤ (999 : Int32) := l2i_rng (by decide) dr_x208
                              refine u_X11_good ?_
                              refine u_X11_good_0 ?_
                              refine ⟨o_v0, ?_⟩
                              intro S209 eS209
                              have hIn : IV S209 := by rw [eS209]; exact iv11_sI hI o_v0 (by decide) (nu_free (by decide))
                              have el107 := el_ob eS209 o_v0 o_a105 (by decide) el107
                              have hI := hIn
                              have f0 := fr_I eS209 g0 f0 o_v0 (by decide)
                              have d_kv2 := rd_Ij eS209 (by decide) d_kv2
                              have d_x64 := rd_Ij eS209 (by decide) d_x64
                              have d_kv13 := rd_Ik eS209 o_v0 o_a3 (by decide) d_kv13
                              have d_x35 := rd_Ik eS209 o_v0 o_a3 (by decide) d_x35
                              have d_kv96 := rd_Ik eS209 o_v0 o_a3 (by decide) d_kv96
                              have d_x181 := rd_Ik eS209 o_v0 o_a3 (by decide) d_x181
                              have d_x185 := rd_Ik eS209 o_v0 o_a3 (by decide) d_x185
                              obtain ⟨kv210, hkv210⟩ : ∃ z : Int32, z = (0 : Int32) := ⟨_, rfl⟩
                              have d_kv210 := rd_Is eS209 hkv210
                              have ea3 := rf_I eS209 ea3
                              have ea66 := rf_I eS209 ea66
                              have ea69 := rf_I eS209 ea69
                              have ea94 := rf_I eS209 ea94
                              have ea98 := rf_I eS209 ea98
                              have ea105 := rf_I eS209 ea105
                              have ea192 := rf_I eS209 ea192
                              have l_a105 := ln_I eS209 l_a105
                              have l_a192 := ln_I eS209 l_a192
                              have l_a66 := ln_I eS209 l_a66
                              have l_a69 := ln_I eS209 l_a69
                              have l_a94 := ln_I eS209 l_a94
                              have l_a98 := ln_I eS209 l_a98
                              have g0 := gr_I eS209 g0
                              have o_a105 := ob_I eS209 o_a105
                              have o_a192 := ob_I eS209 o_a192
                              have o_a3 := ob_I eS209 o_a3
                              have o_a66 := ob_I eS209 o_a66
                              have o_a69 := ob_I eS209 o_a69
                              have o_a94 := ob_I eS209 o_a94
                              have o_a98 := ob_I eS209 o_a98
                              have o_v0 := ob_I eS209 o_v0
                              intro S211 eS211
                              have hIn : IV S211 := by rw [eS211]; exact iv11_sI hI o_v0 (by decide) (nu_free (by decide))
                              have el107 := el_ob eS211 o_v0 o_a105 (by decide) el107
                              have hI := hIn
                              have f0 := fr_I eS211 g0 f0 o_v0 (by decide)
                              have d_kv2 := rd_Ij eS211 (by decide) d_kv2
                              have d_x64 := rd_Ij eS211 (by decide) d_x64
                              have d_kv13 := rd_Ik eS211 o_v0 o_a3 (by decide) d_kv13
                              have d_x35 := rd_Ik eS211 o_v0 o_a3 (by decide) d_x35
                              have d_kv96 := rd_Ik eS211 o_v0 o_a3 (by decide) d_kv96
                              have d_x181 := rd_Ik eS211 o_v0 o_a3 (by decide) d_x181
                              have d_x185 := rd_Ik eS211 o_v0 o_a3 (by decide) d_x185
                              have d_kv210 := rd_Ij eS211 (by decide) d_kv210
                              obtain ⟨kv212, hkv212⟩ : ∃ z : Int32, z = (-1 : Int32) := ⟨_, rfl⟩
                              have d_kv212 := rd_Is eS211 hkv212
                              have ea3 := rf_I eS211 ea3
                              have ea66 := rf_I eS211 ea66
                              have ea69 := rf_I eS211 ea69
                              have ea94 := rf_I eS211 ea94
                              have ea98 := rf_I eS211 ea98
                              have ea105 := rf_I eS211 ea105
                              have ea192 := rf_I eS211 ea192
                              have l_a105 := ln_I eS211 l_a105
                              have l_a192 := ln_I eS211 l_a192
                              have l_a66 := ln_I eS211 l_a66
                              have l_a69 := ln_I eS211 l_a69
                              have l_a94 := ln_I eS211 l_a94
                              have l_a98 := ln_I eS211 l_a98
                              have g0 := gr_I eS211 g0
                              have o_a105 := ob_I eS211 o_a105
                              have o_a192 := ob_I eS211 o_a192
                              have o_a3 := ob_I eS211 o_a3
                              have o_a66 := ob_I eS211 o_a66
                              have o_a69 := ob_I eS211 o_a69
                              have o_a94 := ob_I eS211 o_a94
                              have o_a98 := ob_I eS211 o_a98
                              have o_v0 := ob_I eS211 o_v0
                              intro _
                              exact hq _ _ hI g0 f0
                            · refine ⟨o_a3, ?_⟩
                              refine ⟨a94, ea94, ?_⟩
                              refine ⟨o_a94, ?_⟩
                              refine ⟨(vin l_a94 (m := 12) (by decide) (qm282 r_x12 r_kv13 wh_x12 c14 c26 r_x35 c36 c46 c54 r_x64 q_x64 wh_x64 g_x67 g_x70 c71 c80 c93 g_x95 r_kv96 gl_x95 dr_x99 c100 dr_x102 lr_x102 ex103 g_x106 ex108 dv_x108 dw_x108 c110 i1u115 c132 r_x181 hh_x181 ex182 dv_x182 r_x185 c186 c191)), ?_⟩
                              intro x215 ex215
                              have gy_x215 : 0 ≤ v1 ∧ v1 < fI S116 a3 3 := by rw [← d_x35]; exact (qm283 r_x12 r_kv13 wh_x12 c14 c26 r_x35 c36 c46 c54 r_x64 q_x64 wh_x64 g_x67 g_x70 c71 c80 c93 g_x95 r_kv96 gl_x95 dr_x99 c100 dr_x102 lr_x102 ex103 g_x106 ex108 dv_x108 dw_x108 c110 i1u115 c132 r_x181 hh_x181 ex182 dv_x182 r_x185 c186 c191)
                              have g_x215 : (0 : Int32) ≤ x215 ∧ x215 ≤ (7 : Int32) := by rw [ex215]; exact wg_at (ml_wg hI o_v0 ea3) 1 rfl gy_x215 ea94
                              have gl_x215 : x215 < kv96 := by rw [ex215, d_kv96]; exact wg_lt (ml_wg hI o_v0 ea3) 1 rfl (by decide) gy_x215 ea94
                              intro _
                              refine ⟨o_a98, ?_⟩
                              intro x217 ex217
                              have i218 : vp_in (0 : Int32) (hN _ a98) := (vin l_a98 (m := 7) (by decide) (qm284 r_x12 r_kv13 wh_x12 c14 c26 r_x35 c36 c46 c54 r_x64 q_x64 wh_x64 g_x67 g_x70 c71 c80 c93 g_x95 r_kv96 gl_x95 dr_x99 c100 dr_x102 lr_x102 ex103 g_x106 ex108 dv_x108 dw_x108 c110 i1u115 c132 r_x181 hh_x181 ex182 dv_x182 r_x185 c186 c191 g_x215 gl_x215 ex217))
                              refine ⟨i218, ?_⟩
                              intro S219 eS219
                              have hIn : IV S219 := by rw [eS219]; exact iv11_aD hI (de_0 (by rw [ex217]; exact i2l_rng (lo := 0) (hi := 7) (qm285 r_x12 r_kv13 wh_x12 c14 c26 r_x35 c36 c46 c54 r_x64 q_x64 wh_x64 g_x67 g_x70 c71 c80 c93 g_x95 r_kv96 gl_x95 dr_x99 c100 dr_x102 lr_x102 ex103 g_x106 ex108 dv_x108 dw_x108 c110 i1u115 c132 r_x181 hh_x181 ex182 dv_x182 r_x185 c186 c191 g_x215 gl_x215 ex217)))
                              have el107 := el_J eS219 el107
                              have hI := hIn
                              have f0 := fr_J eS219 f0
                              have d_kv2 := rd_J eS219 d_kv2
                              have d_x64 := rd_J eS219 d_x64
                              have d_kv13 := rd_J eS219 d_kv13
                              have d_x35 := rd_J eS219 d_x35
                              have d_kv96 := rd_J eS219 d_kv96
                              have d_x181 := rd_J eS219 d_x181
                              have d_x185 := rd_J eS219 d_x185
                              have ea3 := rf_J eS219 ea3
                              have ea66 := rf_J eS219 ea66
                              have ea69 := rf_J eS219 ea69
                              have ea94 := rf_J eS219 ea94
                              have ea98 := rf_J eS219 ea98
                              have ea105 := rf_J eS219 ea105
                              have l_a105 := ln_J eS219 l_a105
                              have l_a66 := ln_J eS219 l_a66
                              have l_a69 := ln_J eS219 l_a69
                              have l_a94 := ln_J eS219 l_a94
                              have l_a98 := ln_J eS219 l_a98
                              have g0 := gr_J eS219 g0
                              have o_a105 := ob_J eS219 o_a105
                              have o_a3 := ob_J eS219 o_a3
                              have o_a66 := ob_J eS219 o_a66
                              have o_a69 := ob_J eS219 o_a69
                              have o_a94 := ob_J eS219 o_a94
                              have o_a98 := ob_J eS219 o_a98
                              have o_v0 := ob_J eS219 o_v0
                              refine ⟨a98, ea98, ?_⟩
                              refine ⟨a3, ea3, ?_⟩
                              refine ⟨o_a3, ?_⟩
                              refine u_X10_minutes ?_
                              refine u_X10_minutes_0 ?_
                              refine ⟨o_a3, ?_⟩
                              refine ⟨a105, ea105, ?_⟩
                              refine ⟨o_a105, ?_⟩
                              refine ⟨(vin l_a105 (m := 12) (by decide) (qm286 r_x12 r_kv13 wh_x12 c14 c26 r_x35 c36 c46 c54 r_x64 q_x64 wh_x64 g_x67 g_x70 c71 c80 c93 g_x95 r_kv96 gl_x95 dr_x99 c100 dr_x102 lr_x102 ex103 g_x106 ex108 dv_x108 dw_x108 c110 i1u115 c132 r_x181 hh_x181 ex182 dv_x182 r_x185 c186 c191 g_x215 gl_x215 ex217)), ?_⟩
                              intro x223 ex223
                              have qe_x223 : x223 = x106 := ex223.trans el107
                              have gy_x223 : 0 ≤ v1 ∧ v1 < fI S219 a3 3 := by rw [← d_x35]; exact (qm287 r_x12 r_kv13 wh_x12 c14 c26 r_x35 c36 c46 c54 r_x64 q_x64 wh_x64 g_x67 g_x70 c71 c80 c93 g_x95 r_kv96 gl_x95 dr_x99 c100 dr_x102 lr_x102 ex103 g_x106 ex108 dv_x108 dw_x108 c110 i1u115 c132 r_x181 hh_x181 ex182 dv_x182 r_x185 c186 c191 g_x215 gl_x215 ex217 qe_x223)
                              have g_x223 : (1 : Int32) ≤ x223 ∧ x223 ≤ (60 : Int32) := by rw [ex223]; exact wg_at (ml_wg hI o_v0 ea3) 2 rfl gy_x223 ea105
                              refine ⟨(qm288 r_x12 r_kv13 wh_x12 c14 c26 r_x35 c36 c46 c54 r_x64 q_x64 wh_x64 g_x67 g_x70 c71 c80 c93 g_x95 r_kv96 gl_x95 dr_x99 c100 dr_x102 lr_x102 ex103 g_x106 ex108 dv_x108 dw_x108 c110 i1u115 c132 r_x181 hh_x181 ex182 dv_x182 r_x185 c186 c191 g_x215 gl_x215 ex217 qe_x223 g_x223), ?_⟩
                              intro x224 ex224
                              have dv_x224 : 0 ≤ x224 ∧ x224 ≤ ((x223 + v3) - (1 : Int32)) := by rw [ex224]; exact dv0 (qm289 r_x12 r_kv13 wh_x12 c14 c26 r_x35 c36 c46 c54 r_x64 q_x64 wh_x64 g_x67 g_x70 c71 c80 c93 g_x95 r_kv96 gl_x95 dr_x99 c100 dr_x102 lr_x102 ex103 g_x106 ex108 dv_x108 dw_x108 c110 i1u115 c132 r_x181 hh_x181 ex182 dv_x182 r_x185 c186 c191 g_x215 gl_x215 ex217 qe_x223 g_x223 ex224) (i32pos (qm290 r_x12 r_kv13 wh_x12 c14 c26 r_x35 c36 c46 c54 r_x64 q_x64 wh_x64 g_x67 g_x70 c71 c80 c93 g_x95 r_kv96 gl_x95 dr_x99 c100 dr_x102 lr_x102 ex103 g_x106 ex108 dv_x108 dw_x108 c110 i1u115 c132 r_x181 hh_x181 ex182 dv_x182 r_x185 c186 c191 g_x215 gl_x215 ex217 qe_x223 g_x223 ex224))
                              have dw_x224 : (1 : Int32) ≤ x224 := by rw [ex224]; exact dv1 (qm291 r_x12 r_kv13 wh_x12 c14 c26 r_x35 c36 c46 c54 r_x64 q_x64 wh_x64 g_x67 g_x70 c71 c80 c93 g_x95 r_kv96 gl_x95 dr_x99 c100 dr_x102 lr_x102 ex103 g_x106 ex108 dv_x108 dw_x108 c110 i1u115 c132 r_x181 hh_x181 ex182 dv_x182 r_x185 c186 c191 g_x215 gl_x215 ex217 qe_x223 g_x223 ex224) (qm292 r_x12 r_kv13 wh_x12 c14 c26 r_x35 c36 c46 c54 r_x64 q_x64 wh_x64 g_x67 g_x70 c71 c80 c93 g_x95 r_kv96 gl_x95 dr_x99 c100 dr_x102 lr_x102 ex103 g_x106 ex108 dv_x108 dw_x108 c110 i1u115 c132 r_x181 hh_x181 ex182 dv_x182 r_x185 c186 c191 g_x215 gl_x215 ex217 qe_x223 g_x223 ex224)
                              intro _
                              refine ⟨o_a98, ?_⟩
                              intro x226 ex226
                              have i227 : vp_in (1 : Int32) (hN _ a98) := (vin l_a98 (m := 7) (by decide) (qm293 r_x12 r_kv13 wh_x12 c14 c26 r_x35 c36 c46 c54 r_x64 q_x64 wh_x64 g_x67 g_x70 c71 c80 c93 g_x95 r_kv96 gl_x95 dr_x99 c100 dr_x102 lr_x102 ex103 g_x106 ex108 dv_x108 dw_x108 c110 i1u115 c132 r_x181 hh_x181 ex182 dv_x182 r_x185 c186 c191 g_x215 gl_x215 ex217 qe_x223 g_x223 ex224 dv_x224 dw_x224 ex226))
                              refine ⟨i227, ?_⟩
                              intro S228 eS228
                              have hIn : IV S228 := by rw [eS228]; exact iv11_aD hI (de_1 (by rw [ex226]; exact i2l_rng (lo := 0) (hi := 999) (qm294 r_x12 r_kv13 wh_x12 c14 c26 r_x35 c36 c46 c54 r_x64 q_x64 wh_x64 g_x67 g_x70 c71 c80 c93 g_x95 r_kv96 gl_x95 dr_x99 c100 dr_x102 lr_x102 ex103 g_x106 ex108 dv_x108 dw_x108 c110 i1u115 c132 r_x181 hh_x181 ex182 dv_x182 r_x185 c186 c191 g_x215 gl_x215 ex217 qe_x223 g_x223 ex224 dv_x224 dw_x224 ex226)))
                              have el107 := el_J eS228 el107
                              have hI := hIn
                              have f0 := fr_J eS228 f0
                              have d_kv2 := rd_J eS228 d_kv2
                              have d_x64 := rd_J eS228 d_x64
                              have d_kv13 := rd_J eS228 d_kv13
                              have d_x35 := rd_J eS228 d_x35
                              have d_kv96 := rd_J eS228 d_kv96
                              have d_x181 := rd_J eS228 d_x181
                              have d_x185 := rd_J eS228 d_x185
                              have ea3 := rf_J eS228 ea3
                              have ea66 := rf_J eS228 ea66
                              have ea69 := rf_J eS228 ea69
                              have ea94 := rf_J eS228 ea94
                              have ea98 := rf_J eS228 ea98
                              have ea105 := rf_J eS228 ea105
                              have l_a105 := ln_J eS228 l_a105
                              have l_a66 := ln_J eS228 l_a66
                              have l_a69 := ln_J eS228 l_a69
                              have l_a94 := ln_J eS228 l_a94
                              have l_a98 := ln_J eS228 l_a98
                              have g0 := gr_J eS228 g0
                              have o_a105 := ob_J eS228 o_a105
                              have o_a3 := ob_J eS228 o_a3
                              have o_a66 := ob_J eS228 o_a66
                              have o_a69 := ob_J eS228 o_a69
                              have o_a94 := ob_J eS228 o_a94
                              have o_a98 := ob_J eS228 o_a98
                              have o_v0 := ob_J eS228 o_v0
                              refine ⟨a98, ea98, ?_⟩
                              refine ⟨o_a98, ?_⟩
                              refine ⟨(vin l_a98 (m := 7) (by decide) (qm293 r_x12 r_kv13 wh_x12 c14 c26 r_x35 c36 c46 c54 r_x64 q_x64 wh_x64 g_x67 g_x70 c71 c80 c93 g_x95 r_kv96 gl_x95 dr_x99 c100 dr_x102 lr_x102 ex103 g_x106 ex108 dv_x108 dw_x108 c110 i1u115 c132 r_x181 hh_x181 ex182 dv_x182 r_x185 c186 c191 g_x215 gl_x215 ex217 qe_x223 g_x223 ex224 dv_x224 dw_x224 ex226)), ?_⟩
                              intro x230 ex230
                              have de_x230 := ml_de hI o_v0 (j := 21) (by decide) ea98 (1 : Int32).toNatClampNeg
                              rw [← ex230] at de_x230
                              have dr_x230 : (0 : Int64) ≤ x230 ∧ x230 ≤ (999 : Int64) := de_x230.2 (by decide)
                              have lr_x230 : 0 ≤ x230.toInt32 ∧ x230.toInt32 ≤ (999 : Int32) := l2i_rng (by decide) dr_x230
                              refine u_X11_good ?_
                              refine u_X11_good_0 ?_
                              refine ⟨o_v0, ?_⟩
                              intro S231 eS231
                              have hIn : IV S231 := by rw [eS231]; exact iv11_sI hI o_v0 (by decide) (nu_free (by decide))
                              have el107 := el_ob eS231 o_v0 o_a105 (by decide) el107
                              have hI := hIn
                              have f0 := fr_I eS231 g0 f0 o_v0 (by decide)
                              have d_kv2 := rd_Ij eS231 (by decide) d_kv2
                              have d_x64 := rd_Ij eS231 (by decide) d_x64
                              have d_kv13 := rd_Ik eS231 o_v0 o_a3 (by decide) d_kv13
                              have d_x35 := rd_Ik eS231 o_v0 o_a3 (by decide) d_x35
                              have d_kv96 := rd_Ik eS231 o_v0 o_a3 (by decide) d_kv96
                              have d_x181 := rd_Ik eS231 o_v0 o_a3 (by decide) d_x181
                              have d_x185 := rd_Ik eS231 o_v0 o_a3 (by decide) d_x185
                              obtain ⟨kv232, hkv232⟩ : ∃ z : Int32, z = (0 : Int32) := ⟨_, rfl⟩
                              have d_kv232 := rd_Is eS231 hkv232
                              have ea3 := rf_I eS231 ea3
                              have ea66 := rf_I eS231 ea66
                              have ea69 := rf_I eS231 ea69
                              have ea94 := rf_I eS231 ea94
                              have ea98 := rf_I eS231 ea98
                              have ea105 := rf_I eS231 ea105
                              have l_a105 := ln_I eS231 l_a105
                              have l_a66 := ln_I eS231 l_a66
                              have l_a69 := ln_I eS231 l_a69
                              have l_a94 := ln_I eS231 l_a94
                              have l_a98 := ln_I eS231 l_a98
                              have g0 := gr_I eS231 g0
                              have o_a105 := ob_I eS231 o_a105
                              have o_a3 := ob_I eS231 o_a3
                              have o_a66 := ob_I eS231 o_a66
                              have o_a69 := ob_I eS231 o_a69
                              have o_a94 := ob_I eS231 o_a94
                              have o_a98 := ob_I eS231 o_a98
                              have o_v0 := ob_I eS231 o_v0
                              intro S233 eS233
                              have hIn : IV S233 := by rw [eS233]; exact iv11_sI hI o_v0 (by decide) (nu_free (by decide))
                              have el107 := el_ob eS233 o_v0 o_a105 (by decide) el107
                              have hI := hIn
                              have f0 := fr_I eS233 g0 f0 o_v0 (by decide)
                              have d_kv2 := rd_Ij eS233 (by decide) d_kv2
                              have d_x64 := rd_Ij eS233 (by decide) d_x64
                              have d_kv13 := rd_Ik eS233 o_v0 o_a3 (by decide) d_kv13
                              have d_x35 := rd_Ik eS233 o_v0 o_a3 (by decide) d_x35
                              have d_kv96 := rd_Ik eS233 o_v0 o_a3 (by decide) d_kv96
                              have d_x181 := rd_Ik eS233 o_v0 o_a3 (by decide) d_x181
                              have d_x185 := rd_Ik eS233 o_v0 o_a3 (by decide) d_x185
                              have d_kv232 := rd_Ij eS233 (by decide) d_kv232
                              obtain ⟨kv234, hkv234⟩ : ∃ z : Int32, z = (-1 : Int32) := ⟨_, rfl⟩
                              have d_kv234 := rd_Is eS233 hkv234
                              have ea3 := rf_I eS233 ea3
                              have ea66 := rf_I eS233 ea66
                              have ea69 := rf_I eS233 ea69
                              have ea94 := rf_I eS233 ea94
                              have ea98 := rf_I eS233 ea98
                              have ea105 := rf_I eS233 ea105
                              have l_a105 := ln_I eS233 l_a105
                              have l_a66 := ln_I eS233 l_a66
                              have l_a69 := ln_I eS233 l_a69
                              have l_a94 := ln_I eS233 l_a94
                              have l_a98 := ln_I eS233 l_a98
                              have g0 := gr_I eS233 g0
                              have o_a105 := ob_I eS233 o_a105
                              have o_a3 := ob_I eS233 o_a3
                              have o_a66 := ob_I eS233 o_a66
                              have o_a69 := ob_I eS233 o_a69
                              have o_a94 := ob_I eS233 o_a94
                              have o_a98 := ob_I eS233 o_a98
                              have o_v0 := ob_I eS233 o_v0
                              intro _
                              exact hq _ _ hI g0 f0
                          · intro x236 ex236
                            have d_x236 := ex236
                            refine ⟨fun c237 => ?_, fun c237 => ?_⟩
                            · intro _ _
                              refine ⟨fun c239 => ?_, fun c239 => absurd (show ¬ (0 : Int32) = 0 from c239) (by decide)⟩
                              refine u_X11_go_171 ?_
                              refine ⟨o_v0, ?_⟩
                              refine ⟨a98, ea98, ?_⟩
                              refine ⟨a3, ea3, ?_⟩
                              refine ⟨o_a3, ?_⟩
                              refine u_X10_ends ?_
                              refine u_X10_ends_0 ?_
                              refine ⟨fun c242 => ?_, fun c242 => ?_⟩
                              · refine ⟨o_a3, ?_⟩
                                obtain ⟨a243, ea243, o_a243, l_a243⟩ := shl 35 rfl hI o_a3
                                refine ⟨a243, ea243, ?_⟩
                                refine ⟨o_a243, ?_⟩
                                refine ⟨(vin l_a243 (m := 12) (by decide) (qm295 r_x12 r_kv13 wh_x12 c14 c26 r_x35 c36 c46 c54 r_x64 q_x64 wh_x64 g_x67 g_x70 c71 c80 c93 g_x95 r_kv96 gl_x95 dr_x99 c100 dr_x102 lr_x102 ex103 g_x106 ex108 dv_x108 dw_x108 c110 i1u115 c132 r_x181 hh_x181 ex182 dv_x182 r_x185 c186 c237 c242)), ?_⟩
                                intro x244 ex244
                                have gy_x244 : 0 ≤ v1 ∧ v1 < fI S116 a3 3 := by rw [← d_x35]; exact (qm296 r_x12 r_kv13 wh_x12 c14 c26 r_x35 c36 c46 c54 r_x64 q_x64 wh_x64 g_x67 g_x70 c71 c80 c93 g_x95 r_kv96 gl_x95 dr_x99 c100 dr_x102 lr_x102 ex103 g_x106 ex108 dv_x108 dw_x108 c110 i1u115 c132 r_x181 hh_x181 ex182 dv_x182 r_x185 c186 c237 c242)
                                have g_x244 : (0 : Int32) ≤ x244 ∧ x244 ≤ (7 : Int32) := by rw [ex244]; exact wg_at (ml_wg hI o_v0 ea3) 0 rfl gy_x244 ea243
                                have gl_x244 : x244 < kv96 := by rw [ex244, d_kv96]; exact wg_lt (ml_wg hI o_v0 ea3) 0 rfl (by decide) gy_x244 ea243
                                intro _
                                refine ⟨o_a98, ?_⟩
                                intro x246 ex246
                                have i247 : vp_in (0 : Int32) (hN _ a98) := (vin l_a98 (m := 7) (by decide) (qm297 r_x12 r_kv13 wh_x12 c14 c26 r_x35 c36 c46 c54 r_x64 q_x64 wh_x64 g_x67 g_x70 c71 c80 c93 g_x95 r_kv96 gl_x95 dr_x99 c100 dr_x102 lr_x102 ex103 g_x106 ex108 dv_x108 dw_x108 c110 i1u115 c132 r_x181 hh_x181 ex182 dv_x182 r_x185 c186 c237 c242 g_x244 gl_x244 ex246))
                                refine ⟨i247, ?_⟩
                                intro S248 eS248
                                have hIn : IV S248 := by rw [eS248]; exact iv11_aD hI (de_0 (by rw [ex246]; exact i2l_rng (lo := 0) (hi := 7) (qm298 r_x12 r_kv13 wh_x12 c14 c26 r_x35 c36 c46 c54 r_x64 q_x64 wh_x64 g_x67 g_x70 c71 c80 c93 g_x95 r_kv96 gl_x95 dr_x99 c100 dr_x102 lr_x102 ex103 g_x106 ex108 dv_x108 dw_x108 c110 i1u115 c132 r_x181 hh_x181 ex182 dv_x182 r_x185 c186 c237 c242 g_x244 gl_x244 ex246)))
                                have el107 := el_J eS248 el107
                                have hI := hIn
                                have f0 := fr_J eS248 f0
                                have d_kv2 := rd_J eS248 d_kv2
                                have d_x64 := rd_J eS248 d_x64
                                have d_kv13 := rd_J eS248 d_kv13
                                have d_x35 := rd_J eS248 d_x35
                                have d_kv96 := rd_J eS248 d_kv96
                                have d_x181 := rd_J eS248 d_x181
                                have d_x185 := rd_J eS248 d_x185
                                have d_x236 := rd_J eS248 d_x236
                                have ea3 := rf_J eS248 ea3
                                have ea66 := rf_J eS248 ea66
                                have ea69 := rf_J eS248 ea69
                                have ea94 := rf_J eS248 ea94
                                have ea98 := rf_J eS248 ea98
                                have ea105 := rf_J eS248 ea105
                                have ea243 := rf_J eS248 ea243
                                have l_a105 := ln_J eS248 l_a105
                                have l_a243 := ln_J eS248 l_a243
                                have l_a66 := ln_J eS248 l_a66
                                have l_a69 := ln_J eS248 l_a69
                                have l_a94 := ln_J eS248 l_a94
                                have l_a98 := ln_J eS248 l_a98
                                have g0 := gr_J eS248 g0
                                have o_a105 := ob_J eS248 o_a105
                                have o_a243 := ob_J eS248 o_a243
                                have o_a3 := ob_J eS248 o_a3
                                have o_a66 := ob_J eS248 o_a66
                                have o_a69 := ob_J eS248 o_a69
                                have o_a94 := ob_J eS248 o_a94
                                have o_a98 := ob_J eS248 o_a98
                                have o_v0 := ob_J eS248 o_v0
                                refine ⟨a98, ea98, ?_⟩
                                refine ⟨a3, ea3, ?_⟩
                                refine ⟨o_a3, ?_⟩
                                refine u_X10_minutes ?_
                                refine u_X10_minutes_0 ?_
                                refine ⟨o_a3, ?_⟩
                                refine ⟨a105, ea105, ?_⟩
                                refine ⟨o_a105, ?_⟩
                                refine ⟨(vin l_a105 (m := 12) (by decide) (qm299 r_x12 r_kv13 wh_x12 c14 c26 r_x35 c36 c46 c54 r_x64 q_x64 wh_x64 g_x67 g_x70 c71 c80 c93 g_x95 r_kv96 gl_x95 dr_x99 c100 dr_x102 lr_x102 ex103 g_x106 ex108 dv_x108 dw_x108 c110 i1u115 c132 r_x181 hh_x181 ex182 dv_x182 r_x185 c186 c237 c242 g_x244 gl_x244 ex246)), ?_⟩
                                intro x252 ex252
                                have qe_x252 : x252 = x106 := ex252.trans el107
                                have gy_x252 : 0 ≤ v1 ∧ v1 < fI S248 a3 3 := by rw [← d_x35]; exact (qm300 r_x12 r_kv13 wh_x12 c14 c26 r_x35 c36 c46 c54 r_x64 q_x64 wh_x64 g_x67 g_x70 c71 c80 c93 g_x95 r_kv96 gl_x95 dr_x99 c100 dr_x102 lr_x102 ex103 g_x106 ex108 dv_x108 dw_x108 c110 i1u115 c132 r_x181 hh_x181 ex182 dv_x182 r_x185 c186 c237 c242 g_x244 gl_x244 ex246 qe_x252)
                                have g_x252 : (1 : Int32) ≤ x252 ∧ x252 ≤ (60 : Int32) := by rw [ex252]; exact wg_at (ml_wg hI o_v0 ea3) 2 rfl gy_x252 ea105
                                refine ⟨(qm301 r_x12 r_kv13 wh_x12 c14 c26 r_x35 c36 c46 c54 r_x64 q_x64 wh_x64 g_x67 g_x70 c71 c80 c93 g_x95 r_kv96 gl_x95 dr_x99 c100 dr_x102 lr_x102 ex103 g_x106 ex108 dv_x108 dw_x108 c110 i1u115 c132 r_x181 hh_x181 ex182 dv_x182 r_x185 c186 c237 c242 g_x244 gl_x244 ex246 qe_x252 g_x252), ?_⟩
                                intro x253 ex253
                                have dv_x253 : 0 ≤ x253 ∧ x253 ≤ ((x252 + v3) - (1 : Int32)) := by rw [ex253]; exact dv0 (qm302 r_x12 r_kv13 wh_x12 c14 c26 r_x35 c36 c46 c54 r_x64 q_x64 wh_x64 g_x67 g_x70 c71 c80 c93 g_x95 r_kv96 gl_x95 dr_x99 c100 dr_x102 lr_x102 ex103 g_x106 ex108 dv_x108 dw_x108 c110 i1u115 c132 r_x181 hh_x181 ex182 dv_x182 r_x185 c186 c237 c242 g_x244 gl_x244 ex246 qe_x252 g_x252 ex253) (i32pos (qm303 r_x12 r_kv13 wh_x12 c14 c26 r_x35 c36 c46 c54 r_x64 q_x64 wh_x64 g_x67 g_x70 c71 c80 c93 g_x95 r_kv96 gl_x95 dr_x99 c100 dr_x102 lr_x102 ex103 g_x106 ex108 dv_x108 dw_x108 c110 i1u115 c132 r_x181 hh_x181 ex182 dv_x182 r_x185 c186 c237 c242 g_x244 gl_x244 ex246 qe_x252 g_x252 ex253))
                                have dw_x253 : (1 : Int32) ≤ x253 := by rw [ex253]; exact dv1 (qm304 r_x12 r_kv13 wh_x12 c14 c26 r_x35 c36 c46 c54 r_x64 q_x64 wh_x64 g_x67 g_x70 c71 c80 c93 g_x95 r_kv96 gl_x95 dr_x99 c100 dr_x102 lr_x102 ex103 g_x106 ex108 dv_x108 dw_x108 c110 i1u115 c132 r_x181 hh_x181 ex182 dv_x182 r_x185 c186 c237 c242 g_x244 gl_x244 ex246 qe_x252 g_x252 ex253) (qm305 r_x12 r_kv13 wh_x12 c14 c26 r_x35 c36 c46 c54 r_x64 q_x64 wh_x64 g_x67 g_x70 c71 c80 c93 g_x95 r_kv96 gl_x95 dr_x99 c100 dr_x102 lr_x102 ex103 g_x106 ex108 dv_x108 dw_x108 c110 i1u115 c132 r_x181 hh_x181 ex182 dv_x182 r_x185 c186 c237 c242 g_x244 gl_x244 ex246 qe_x252 g_x252 ex253)
                                intro _
                                refine ⟨o_a98, ?_⟩
                                intro x255 ex255
                                have i256 : vp_in (1 : Int32) (hN _ a98) := (vin l_a98 (m := 7) (by decide) (qm306 r_x12 r_kv13 wh_x12 c14 c26 r_x35 c36 c46 c54 r_x64 q_x64 wh_x64 g_x67 g_x70 c71 c80 c93 g_x95 r_kv96 gl_x95 dr_x99 c100 dr_x102 lr_x102 ex103 g_x106 ex108 dv_x108 dw_x108 c110 i1u115 c132 r_x181 hh_x181 ex182 dv_x182 r_x185 c186 c237 c242 g_x244 gl_x244 ex246 qe_x252 g_x252 ex253 dv_x253 dw_x253 ex255))
                                refine ⟨i256, ?_⟩
                                intro S257 eS257
                                have hIn : IV S257 := by rw [eS257]; exact iv11_aD hI (de_1 (by rw [ex255]; exact i2l_rng (lo := 0) (hi := 999) (qm307 r_x12 r_kv13 wh_x12 c14 c26 r_x35 c36 c46 c54 r_x64 q_x64 wh_x64 g_x67 g_x70 c71 c80 c93 g_x95 r_kv96 gl_x95 dr_x99 c100 dr_x102 lr_x102 ex103 g_x106 ex108 dv_x108 dw_x108 c110 i1u115 c132 r_x181 hh_x181 ex182 dv_x182 r_x185 c186 c237 c242 g_x244 gl_x244 ex246 qe_x252 g_x252 ex253 dv_x253 dw_x253 ex255)))
                                have el107 := el_J eS257 el107
                                have hI := hIn
                                have f0 := fr_J eS257 f0
                                have d_kv2 := rd_J eS257 d_kv2
                                have d_x64 := rd_J eS257 d_x64
                                have d_kv13 := rd_J eS257 d_kv13
                                have d_x35 := rd_J eS257 d_x35
                                have d_kv96 := rd_J eS257 d_kv96
                                have d_x181 := rd_J eS257 d_x181
                                have d_x185 := rd_J eS257 d_x185
                                have d_x236 := rd_J eS257 d_x236
                                have ea3 := rf_J eS257 ea3
                                have ea66 := rf_J eS257 ea66
                                have ea69 := rf_J eS257 ea69
                                have ea94 := rf_J eS257 ea94
                                have ea98 := rf_J eS257 ea98
                                have ea105 := rf_J eS257 ea105
                                have ea243 := rf_J eS257 ea243
                                have l_a105 := ln_J eS257 l_a105
                                have l_a243 := ln_J eS257 l_a243
                                have l_a66 := ln_J eS257 l_a66
                                have l_a69 := ln_J eS257 l_a69
                                have l_a94 := ln_J eS257 l_a94
                                have l_a98 := ln_J eS257 l_a98
                                have g0 := gr_J eS257 g0
                                have o_a105 := ob_J eS257 o_a105
                                have o_a243 := ob_J eS257 o_a243
                                have o_a3 := ob_J eS257 o_a3
                                have o_a66 := ob_J eS257 o_a66
                                have o_a69 := ob_J eS257 o_a69
                                have o_a94 := ob_J eS257 o_a94
                                have o_a98 := ob_J eS257 o_a98
                                have o_v0 := ob_J eS257 o_v0
                                refine ⟨a98, ea98, ?_⟩
                                refine ⟨o_a98, ?_⟩
                                refine ⟨(vin l_a98 (m := 7) (by decide) (qm306 r_x12 r_kv13 wh_x12 c14 c26 r_x35 c36 c46 c54 r_x64 q_x64 wh_x64 g_x67 g_x70 c71 c80 c93 g_x95 r_kv96 gl_x95 dr_x99 c100 dr_x102 lr_x102 ex103 g_x106 ex108 dv_x108 dw_x108 c110 i1u115 c132 r_x181 hh_x181 ex182 dv_x182 r_x185 c186 c237 c242 g_x244 gl_x244 ex246 qe_x252 g_x252 ex253 dv_x253 dw_x253 ex255)), ?_⟩
                                intro x259 ex259
                                have de_x259 := ml_de hI o_v0 (j := 21) (by decide) ea98 (1 : Int32).toNatClampNeg
                                rw [← ex259] at de_x259
                                have dr_x259 : (0 : Int64) ≤ x259 ∧ x259 ≤ (999 : Int64) := de_x259.2 (by decide)
                                have lr_x259 : 0 ≤ x259.toInt32 ∧ x259.toInt32 ≤ (999 : Int32) := l2i_rng (by decide) dr_x259
                                refine u_X11_good ?_
                                refine u_X11_good_0 ?_
                                refine ⟨o_v0, ?_⟩
                                intro S260 eS260
                                have hIn : IV S260 := by rw [eS260]; exact iv11_sI hI o_v0 (by decide) (nu_free (by decide))
                                have el107 := el_ob eS260 o_v0 o_a105 (by decide) el107
                                have hI := hIn
                                have f0 := fr_I eS260 g0 f0 o_v0 (by decide)
                                have d_kv2 := rd_Ij eS260 (by decide) d_kv2
                                have d_x64 := rd_Ij eS260 (by decide) d_x64
                                have d_kv13 := rd_Ik eS260 o_v0 o_a3 (by decide) d_kv13
                                have d_x35 := rd_Ik eS260 o_v0 o_a3 (by decide) d_x35
                                have d_kv96 := rd_Ik eS260 o_v0 o_a3 (by decide) d_kv96
                                have d_x181 := rd_Ik eS260 o_v0 o_a3 (by decide) d_x181
                                have d_x185 := rd_Ik eS260 o_v0 o_a3 (by decide) d_x185
                                have d_x236 := rd_Ij eS260 (by decide) d_x236
                                obtain ⟨kv261, hkv261⟩ : ∃ z : Int32, z = (0 : Int32) := ⟨_, rfl⟩
                                have d_kv261 := rd_Is eS260 hkv261
                                have ea3 := rf_I eS260 ea3
                                have ea66 := rf_I eS260 ea66
                                have ea69 := rf_I eS260 ea69
                                have ea94 := rf_I eS260 ea94
                                have ea98 := rf_I eS260 ea98
                                have ea105 := rf_I eS260 ea105
                                have ea243 := rf_I eS260 ea243
                                have l_a105 := ln_I eS260 l_a105
                                have l_a243 := ln_I eS260 l_a243
                                have l_a66 := ln_I eS260 l_a66
                                have l_a69 := ln_I eS260 l_a69
                                have l_a94 := ln_I eS260 l_a94
                                have l_a98 := ln_I eS260 l_a98
                                have g0 := gr_I eS260 g0
                                have o_a105 := ob_I eS260 o_a105
                                have o_a243 := ob_I eS260 o_a243
                                have o_a3 := ob_I eS260 o_a3
                                have o_a66 := ob_I eS260 o_a66
                                have o_a69 := ob_I eS260 o_a69
                                have o_a94 := ob_I eS260 o_a94
                                have o_a98 := ob_I eS260 o_a98
                                have o_v0 := ob_I eS260 o_v0
                                intro S262 eS262
                                have hIn : IV S262 := by rw [eS262]; exact iv11_sI hI o_v0 (by decide) (nu_free (by decide))
                                have el107 := el_ob eS262 o_v0 o_a105 (by decide) el107
                                have hI := hIn
                                have f0 := fr_I eS262 g0 f0 o_v0 (by decide)
                                have d_kv2 := rd_Ij eS262 (by decide) d_kv2
                                have d_x64 := rd_Ij eS262 (by decide) d_x64
                                have d_kv13 := rd_Ik eS262 o_v0 o_a3 (by decide) d_kv13
                                have d_x35 := rd_Ik eS262 o_v0 o_a3 (by decide) d_x35
                                have d_kv96 := rd_Ik eS262 o_v0 o_a3 (by decide) d_kv96
                                have d_x181 := rd_Ik eS262 o_v0 o_a3 (by decide) d_x181
                                have d_x185 := rd_Ik eS262 o_v0 o_a3 (by decide) d_x185
                                have d_x236 := rd_Ij eS262 (by decide) d_x236
                                have d_kv261 := rd_Ij eS262 (by decide) d_kv261
                                obtain ⟨kv263, hkv263⟩ : ∃ z : Int32, z = (-1 : Int32) := ⟨_, rfl⟩
                                have d_kv263 := rd_Is eS262 hkv263
                                have ea3 := rf_I eS262 ea3
                                have ea66 := rf_I eS262 ea66
                                have ea69 := rf_I eS262 ea69
                                have ea94 := rf_I eS262 ea94
                                have ea98 := rf_I eS262 ea98
                                have ea105 := rf_I eS262 ea105
                                have ea243 := rf_I eS262 ea243
                                have l_a105 := ln_I eS262 l_a105
                                have l_a243 := ln_I eS262 l_a243
                                have l_a66 := ln_I eS262 l_a66
                                have l_a69 := ln_I eS262 l_a69
                                have l_a94 := ln_I eS262 l_a94
                                have l_a98 := ln_I eS262 l_a98
                                have g0 := gr_I eS262 g0
                                have o_a105 := ob_I eS262 o_a105
                                have o_a243 := ob_I eS262 o_a243
                                have o_a3 := ob_I eS262 o_a3
                                have o_a66 := ob_I eS262 o_a66
                                have o_a69 := ob_I eS262 o_a69
                                have o_a94 := ob_I eS262 o_a94
                                have o_a98 := ob_I eS262 o_a98
                                have o_v0 := ob_I eS262 o_v0
                                intro _
                                exact hq _ _ hI g0 f0
                              · refine ⟨o_a3, ?_⟩
                                refine ⟨a94, ea94, ?_⟩
                                refine ⟨o_a94, ?_⟩
                                refine ⟨(vin l_a94 (m := 12) (by decide) (qm308 r_x12 r_kv13 wh_x12 c14 c26 r_x35 c36 c46 c54 r_x64 q_x64 wh_x64 g_x67 g_x70 c71 c80 c93 g_x95 r_kv96 gl_x95 dr_x99 c100 dr_x102 lr_x102 ex103 g_x106 ex108 dv_x108 dw_x108 c110 i1u115 c132 r_x181 hh_x181 ex182 dv_x182 r_x185 c186 c237 c242)), ?_⟩
                                intro x266 ex266
                                have gy_x266 : 0 ≤ v1 ∧ v1 < fI S116 a3 3 := by rw [← d_x35]; exact (qm309 r_x12 r_kv13 wh_x12 c14 c26 r_x35 c36 c46 c54 r_x64 q_x64 wh_x64 g_x67 g_x70 c71 c80 c93 g_x95 r_kv96 gl_x95 dr_x99 c100 dr_x102 lr_x102 ex103 g_x106 ex108 dv_x108 dw_x108 c110 i1u115 c132 r_x181 hh_x181 ex182 dv_x182 r_x185 c186 c237 c242)
                                have g_x266 : (0 : Int32) ≤ x266 ∧ x266 ≤ (7 : Int32) := by rw [ex266]; exact wg_at (ml_wg hI o_v0 ea3) 1 rfl gy_x266 ea94
                                have gl_x266 : x266 < kv96 := by rw [ex266, d_kv96]; exact wg_lt (ml_wg hI o_v0 ea3) 1 rfl (by decide) gy_x266 ea94
                                intro _
                                refine ⟨o_a98, ?_⟩
                                intro x268 ex268
                                have i269 : vp_in (0 : Int32) (hN _ a98) := (vin l_a98 (m := 7) (by decide) (qm310 r_x12 r_kv13 wh_x12 c14 c26 r_x35 c36 c46 c54 r_x64 q_x64 wh_x64 g_x67 g_x70 c71 c80 c93 g_x95 r_kv96 gl_x95 dr_x99 c100 dr_x102 lr_x102 ex103 g_x106 ex108 dv_x108 dw_x108 c110 i1u115 c132 r_x181 hh_x181 ex182 dv_x182 r_x185 c186 c237 c242 g_x266 gl_x266 ex268))
                                refine ⟨i269, ?_⟩
                                intro S270 eS270
                                have hIn : IV S270 := by rw [eS270]; exact iv11_aD hI (de_0 (by rw [ex268]; exact i2l_rng (lo := 0) (hi := 7) (qm311 r_x12 r_kv13 wh_x12 c14 c26 r_x35 c36 c46 c54 r_x64 q_x64 wh_x64 g_x67 g_x70 c71 c80 c93 g_x95 r_kv96 gl_x95 dr_x99 c100 dr_x102 lr_x102 ex103 g_x106 ex108 dv_x108 dw_x108 c110 i1u115 c132 r_x181 hh_x181 ex182 dv_x182 r_x185 c186 c237 c242 g_x266 gl_x266 ex268)))
                                have el107 := el_J eS270 el107
                                have hI := hIn
                                have f0 := fr_J eS270 f0
                                have d_kv2 := rd_J eS270 d_kv2
                                have d_x64 := rd_J eS270 d_x64
                                have d_kv13 := rd_J eS270 d_kv13
                                have d_x35 := rd_J eS270 d_x35
                                have d_kv96 := rd_J eS270 d_kv96
                                have d_x181 := rd_J eS270 d_x181
                                have d_x185 := rd_J eS270 d_x185
                                have d_x236 := rd_J eS270 d_x236
                                have ea3 := rf_J eS270 ea3
                                have ea66 := rf_J eS270 ea66
                                have ea69 := rf_J eS270 ea69
                                have ea94 := rf_J eS270 ea94
                                have ea98 := rf_J eS270 ea98
                                have ea105 := rf_J eS270 ea105
                                have l_a105 := ln_J eS270 l_a105
                                have l_a66 := ln_J eS270 l_a66
                                have l_a69 := ln_J eS270 l_a69
                                have l_a94 := ln_J eS270 l_a94
                                have l_a98 := ln_J eS270 l_a98
                                have g0 := gr_J eS270 g0
                                have o_a105 := ob_J eS270 o_a105
                                have o_a3 := ob_J eS270 o_a3
                                have o_a66 := ob_J eS270 o_a66
                                have o_a69 := ob_J eS270 o_a69
                                have o_a94 := ob_J eS270 o_a94
                                have o_a98 := ob_J eS270 o_a98
                                have o_v0 := ob_J eS270 o_v0
                                refine ⟨a98, ea98, ?_⟩
                                refine ⟨a3, ea3, ?_⟩
                                refine ⟨o_a3, ?_⟩
                                refine u_X10_minutes ?_
                                refine u_X10_minutes_0 ?_
                                refine ⟨o_a3, ?_⟩
                                refine ⟨a105, ea105, ?_⟩
                                refine ⟨o_a105, ?_⟩
                                refine ⟨(vin l_a105 (m := 12) (by decide) (qm312 r_x12 r_kv13 wh_x12 c14 c26 r_x35 c36 c46 c54 r_x64 q_x64 wh_x64 g_x67 g_x70 c71 c80 c93 g_x95 r_kv96 gl_x95 dr_x99 c100 dr_x102 lr_x102 ex103 g_x106 ex108 dv_x108 dw_x108 c110 i1u115 c132 r_x181 hh_x181 ex182 dv_x182 r_x185 c186 c237 c242 g_x266 gl_x266 ex268)), ?_⟩
                                intro x274 ex274
                                have qe_x274 : x274 = x106 := ex274.trans el107
                                have gy_x274 : 0 ≤ v1 ∧ v1 < fI S270 a3 3 := by rw [← d_x35]; exact (qm313 r_x12 r_kv13 wh_x12 c14 c26 r_x35 c36 c46 c54 r_x64 q_x64 wh_x64 g_x67 g_x70 c71 c80 c93 g_x95 r_kv96 gl_x95 dr_x99 c100 dr_x102 lr_x102 ex103 g_x106 ex108 dv_x108 dw_x108 c110 i1u115 c132 r_x181 hh_x181 ex182 dv_x182 r_x185 c186 c237 c242 g_x266 gl_x266 ex268 qe_x274)
                                have g_x274 : (1 : Int32) ≤ x274 ∧ x274 ≤ (60 : Int32) := by rw [ex274]; exact wg_at (ml_wg hI o_v0 ea3) 2 rfl gy_x274 ea105
                                refine ⟨(qm314 r_x12 r_kv13 wh_x12 c14 c26 r_x35 c36 c46 c54 r_x64 q_x64 wh_x64 g_x67 g_x70 c71 c80 c93 g_x95 r_kv96 gl_x95 dr_x99 c100 dr_x102 lr_x102 ex103 g_x106 ex108 dv_x108 dw_x108 c110 i1u115 c132 r_x181 hh_x181 ex182 dv_x182 r_x185 c186 c237 c242 g_x266 gl_x266 ex268 qe_x274 g_x274), ?_⟩
                                intro x275 ex275
                                have dv_x275 : 0 ≤ x275 ∧ x275 ≤ ((x274 + v3) - (1 : Int32)) := by rw [ex275]; exact dv0 (qm315 r_x12 r_kv13 wh_x12 c14 c26 r_x35 c36 c46 c54 r_x64 q_x64 wh_x64 g_x67 g_x70 c71 c80 c93 g_x95 r_kv96 gl_x95 dr_x99 c100 dr_x102 lr_x102 ex103 g_x106 ex108 dv_x108 dw_x108 c110 i1u115 c132 r_x181 hh_x181 ex182 dv_x182 r_x185 c186 c237 c242 g_x266 gl_x266 ex268 qe_x274 g_x274 ex275) (i32pos (qm316 r_x12 r_kv13 wh_x12 c14 c26 r_x35 c36 c46 c54 r_x64 q_x64 wh_x64 g_x67 g_x70 c71 c80 c93 g_x95 r_kv96 gl_x95 dr_x99 c100 dr_x102 lr_x102 ex103 g_x106 ex108 dv_x108 dw_x108 c110 i1u115 c132 r_x181 hh_x181 ex182 dv_x182 r_x185 c186 c237 c242 g_x266 gl_x266 ex268 qe_x274 g_x274 ex275))
                                have dw_x275 : (1 : Int32) ≤ x275 := by rw [ex275]; exact dv1 (qm317 r_x12 r_kv13 wh_x12 c14 c26 r_x35 c36 c46 c54 r_x64 q_x64 wh_x64 g_x67 g_x70 c71 c80 c93 g_x95 r_kv96 gl_x95 dr_x99 c100 dr_x102 lr_x102 ex103 g_x106 ex108 dv_x108 dw_x108 c110 i1u115 c132 r_x181 hh_x181 ex182 dv_x182 r_x185 c186 c237 c242 g_x266 gl_x266 ex268 qe_x274 g_x274 ex275) (qm318 r_x12 r_kv13 wh_x12 c14 c26 r_x35 c36 c46 c54 r_x64 q_x64 wh_x64 g_x67 g_x70 c71 c80 c93 g_x95 r_kv96 gl_x95 dr_x99 c100 dr_x102 lr_x102 ex103 g_x106 ex108 dv_x108 dw_x108 c110 i1u115 c132 r_x181 hh_x181 ex182 dv_x182 r_x185 c186 c237 c242 g_x266 gl_x266 ex268 qe_x274 g_x274 ex275)
                                intro _
                                refine ⟨o_a98, ?_⟩
                                intro x277 ex277
                                have i278 : vp_in (1 : Int32) (hN _ a98) := (vin l_a98 (m := 7) (by decide) (qm319 r_x12 r_kv13 wh_x12 c14 c26 r_x35 c36 c46 c54 r_x64 q_x64 wh_x64 g_x67 g_x70 c71 c80 c93 g_x95 r_kv96 gl_x95 dr_x99 c100 dr_x102 lr_x102 ex103 g_x106 ex108 dv_x108 dw_x108 c110 i1u115 c132 r_x181 hh_x181 ex182 dv_x182 r_x185 c186 c237 c242 g_x266 gl_x266 ex268 qe_x274 g_x274 ex275 dv_x275 dw_x275 ex277))
                                refine ⟨i278, ?_⟩
                                intro S279 eS279
                                have hIn : IV S279 := by rw [eS279]; exact iv11_aD hI (de_1 (by rw [ex277]; exact i2l_rng (lo := 0) (hi := 999) (qm320 r_x12 r_kv13 wh_x12 c14 c26 r_x35 c36 c46 c54 r_x64 q_x64 wh_x64 g_x67 g_x70 c71 c80 c93 g_x95 r_kv96 gl_x95 dr_x99 c100 dr_x102 lr_x102 ex103 g_x106 ex108 dv_x108 dw_x108 c110 i1u115 c132 r_x181 hh_x181 ex182 dv_x182 r_x185 c186 c237 c242 g_x266 gl_x266 ex268 qe_x274 g_x274 ex275 dv_x275 dw_x275 ex277)))
                                have el107 := el_J eS279 el107
                                have hI := hIn
                                have f0 := fr_J eS279 f0
                                have d_kv2 := rd_J eS279 d_kv2
                                have d_x64 := rd_J eS279 d_x64
                                have d_kv13 := rd_J eS279 d_kv13
                                have d_x35 := rd_J eS279 d_x35
                                have d_kv96 := rd_J eS279 d_kv96
                                have d_x181 := rd_J eS279 d_x181
                                have d_x185 := rd_J eS279 d_x185
                                have d_x236 := rd_J eS279 d_x236
                                have ea3 := rf_J eS279 ea3
                                have ea66 := rf_J eS279 ea66
                                have ea69 := rf_J eS279 ea69
                                have ea94 := rf_J eS279 ea94
                                have ea98 := rf_J eS279 ea98
                                have ea105 := rf_J eS279 ea105
                                have l_a105 := ln_J eS279 l_a105
                                have l_a66 := ln_J eS279 l_a66
                                have l_a69 := ln_J eS279 l_a69
                                have l_a94 := ln_J eS279 l_a94
                                have l_a98 := ln_J eS279 l_a98
                                have g0 := gr_J eS279 g0
                                have o_a105 := ob_J eS279 o_a105
                                have o_a3 := ob_J eS279 o_a3
                                have o_a66 := ob_J eS279 o_a66
                                have o_a69 := ob_J eS279 o_a69
                                have o_a94 := ob_J eS279 o_a94
                                have o_a98 := ob_J eS279 o_a98
                                have o_v0 := ob_J eS279 o_v0
                                refine ⟨a98, ea98, ?_⟩
                                refine ⟨o_a98, ?_⟩
                                refine ⟨(vin l_a98 (m := 7) (by decide) (qm319 r_x12 r_kv13 wh_x12 c14 c26 r_x35 c36 c46 c54 r_x64 q_x64 wh_x64 g_x67 g_x70 c71 c80 c93 g_x95 r_kv96 gl_x95 dr_x99 c100 dr_x102 lr_x102 ex103 g_x106 ex108 dv_x108 dw_x108 c110 i1u115 c132 r_x181 hh_x181 ex182 dv_x182 r_x185 c186 c237 c242 g_x266 gl_x266 ex268 qe_x274 g_x274 ex275 dv_x275 dw_x275 ex277)), ?_⟩
                                intro x281 ex281
                                have de_x281 := ml_de hI o_v0 (j := 21) (by decide) ea98 (1 : Int32).toNatClampNeg
                                rw [← ex281] at de_x281
                                have dr_x281 : (0 : Int64) ≤ x281 ∧ x281 ≤ (999 : Int64) := de_x281.2 (by decide)
                                have lr_x281 : 0 ≤ x281.toInt32 ∧ x281.toInt32 ≤ (999 : Int32) := l2i_rng (by decide) dr_x281
                                refine u_X11_good ?_
                                refine u_X11_good_0 ?_
                                refine ⟨o_v0, ?_⟩
                                intro S282 eS282
                                have hIn : IV S282 := by rw [eS282]; exact iv11_sI hI o_v0 (by decide) (nu_free (by decide))
                                have el107 := el_ob eS282 o_v0 o_a105 (by decide) el107
                                have hI := hIn
                                have f0 := fr_I eS282 g0 f0 o_v0 (by decide)
                                have d_kv2 := rd_Ij eS282 (by decide) d_kv2
                                have d_x64 := rd_Ij eS282 (by decide) d_x64
                                have d_kv13 := rd_Ik eS282 o_v0 o_a3 (by decide) d_kv13
                                have d_x35 := rd_Ik eS282 o_v0 o_a3 (by decide) d_x35
                                have d_kv96 := rd_Ik eS282 o_v0 o_a3 (by decide) d_kv96
                                have d_x181 := rd_Ik eS282 o_v0 o_a3 (by decide) d_x181
                                have d_x185 := rd_Ik eS282 o_v0 o_a3 (by decide) d_x185
                                have d_x236 := rd_Ij eS282 (by decide) d_x236
                                obtain ⟨kv283, hkv283⟩ : ∃ z : Int32, z = (0 : Int32) := ⟨_, rfl⟩
                                have d_kv283 := rd_Is eS282 hkv283
                                have ea3 := rf_I eS282 ea3
                                have ea66 := rf_I eS282 ea66
                                have ea69 := rf_I eS282 ea69
                                have ea94 := rf_I eS282 ea94
                                have ea98 := rf_I eS282 ea98
                                have ea105 := rf_I eS282 ea105
                                have l_a105 := ln_I eS282 l_a105
                                have l_a66 := ln_I eS282 l_a66
                                have l_a69 := ln_I eS282 l_a69
                                have l_a94 := ln_I eS282 l_a94
                                have l_a98 := ln_I eS282 l_a98
                                have g0 := gr_I eS282 g0
                                have o_a105 := ob_I eS282 o_a105
                                have o_a3 := ob_I eS282 o_a3
                                have o_a66 := ob_I eS282 o_a66
                                have o_a69 := ob_I eS282 o_a69
                                have o_a94 := ob_I eS282 o_a94
                                have o_a98 := ob_I eS282 o_a98
                                have o_v0 := ob_I eS282 o_v0
                                intro S284 eS284
                                have hIn : IV S284 := by rw [eS284]; exact iv11_sI hI o_v0 (by decide) (nu_free (by decide))
                                have el107 := el_ob eS284 o_v0 o_a105 (by decide) el107
                                have hI := hIn
                                have f0 := fr_I eS284 g0 f0 o_v0 (by decide)
                                have d_kv2 := rd_Ij eS284 (by decide) d_kv2
                                have d_x64 := rd_Ij eS284 (by decide) d_x64
                                have d_kv13 := rd_Ik eS284 o_v0 o_a3 (by decide) d_kv13
                                have d_x35 := rd_Ik eS284 o_v0 o_a3 (by decide) d_x35
                                have d_kv96 := rd_Ik eS284 o_v0 o_a3 (by decide) d_kv96
                                have d_x181 := rd_Ik eS284 o_v0 o_a3 (by decide) d_x181
                                have d_x185 := rd_Ik eS284 o_v0 o_a3 (by decide) d_x185
                                have d_x236 := rd_Ij eS284 (by decide) d_x236
                                have d_kv283 := rd_Ij eS284 (by decide) d_kv283
                                obtain ⟨kv285, hkv285⟩ : ∃ z : Int32, z = (-1 : Int32) := ⟨_, rfl⟩
                                have d_kv285 := rd_Is eS284 hkv285
                                have ea3 := rf_I eS284 ea3
                                have ea66 := rf_I eS284 ea66
                                have ea69 := rf_I eS284 ea69
                                have ea94 := rf_I eS284 ea94
                                have ea98 := rf_I eS284 ea98
                                have ea105 := rf_I eS284 ea105
                                have l_a105 := ln_I eS284 l_a105
                                have l_a66 := ln_I eS284 l_a66
                                have l_a69 := ln_I eS284 l_a69
                                have l_a94 := ln_I eS284 l_a94
                                have l_a98 := ln_I eS284 l_a98
                                have g0 := gr_I eS284 g0
                                have o_a105 := ob_I eS284 o_a105
                                have o_a3 := ob_I eS284 o_a3
                                have o_a66 := ob_I eS284 o_a66
                                have o_a69 := ob_I eS284 o_a69
                                have o_a94 := ob_I eS284 o_a94
                                have o_a98 := ob_I eS284 o_a98
                                have o_v0 := ob_I eS284 o_v0
                                intro _
                                exact hq _ _ hI g0 f0
                            · intro _ _
                              refine ⟨fun c288 => absurd (show (1 : Int32) = 0 from c288) (by decide), fun c288 => ?_⟩
                              refine ⟨a98, ea98, ?_⟩
                              refine ⟨o_a98, ?_⟩
                              intro x290 ex290
                              refine ⟨(vin l_a98 (m := 7) (by decide) (qm321 r_x12 r_kv13 wh_x12 c14 c26 r_x35 c36 c46 c54 r_x64 q_x64 wh_x64 g_x67 g_x70 c71 c80 c93 g_x95 r_kv96 gl_x95 dr_x99 c100 dr_x102 lr_x102 ex103 g_x106 ex108 dv_x108 dw_x108 c110 i1u115 c132 r_x181 hh_x181 ex182 dv_x182 r_x185 c186 c237 ex290)), ?_⟩
                              intro x291 ex291
                              have de_x291 := ml_de hI o_v0 (j := 21) (by decide) ea98 x290.toNatClampNeg
                              rw [← ex291] at de_x291
                              intro x292 ex292
                              have r_x292 : (-2 : Int32) ≤ x292 ∧ x292 ≤ (3 : Int32) := by rw [ex292]; exact nu 26 rfl hI o_v0
                              have q_x292 : x292 = x64 := ex292.trans d_x64.symm
                              have d_x292 := ex292
                              have wh_x292 : x292 = -2 ∨ (0 ≤ x292 ∧ x292 < kv13) := by rw [ex292, d_kv13]; exact ml_who hI o_v0 ea3
                              refine u_X11_hourOf ?_
                              refine u_X11_hourOf_0 ?_
                              refine ⟨o_v0, ?_⟩
                              refine ⟨a3, ea3, ?_⟩
                              refine ⟨o_a3, ?_⟩
                              intro x294 ex294
                              have r_x294 : (0 : Int32) ≤ x294 ∧ x294 ≤ (60 : Int32) := by rw [ex294]; exact nu 16 rfl hI o_a3
                              have q_x294 : x294 = x181 := ex294.trans d_x181.symm
                              have d_x294 := ex294
                              have hh_x294 : 1 ≤ x294 := by rw [ex294]; exact ml_hour hI o_v0 ea3
                              refine ⟨(qm322 r_x12 r_kv13 wh_x12 c14 c26 r_x35 c36 c46 c54 r_x64 q_x64 wh_x64 g_x67 g_x70 c71 c80 c93 g_x95 r_kv96 gl_x95 dr_x99 c100 dr_x102 lr_x102 ex103 g_x106 ex108 dv_x108 dw_x108 c110 i1u115 c132 r_x181 hh_x181 ex182 dv_x182 r_x185 c186 c237 ex290 r_x292 q_x292 wh_x292 r_x294 q_x294 hh_x294), ?_⟩
                              intro x295 ex295
                              have dv_x295 : 0 ≤ x295 ∧ x295 ≤ x103 := by rw [ex295]; exact dv0 (qm323 r_x12 r_kv13 wh_x12 c14 c26 r_x35 c36 c46 c54 r_x64 q_x64 wh_x64 g_x67 g_x70 c71 c80 c93 g_x95 r_kv96 gl_x95 dr_x99 c100 dr_x102 lr_x102 ex103 g_x106 ex108 dv_x108 dw_x108 c110 i1u115 c132 r_x181 hh_x181 ex182 dv_x182 r_x185 c186 c237 ex290 r_x292 q_x292 wh_x292 r_x294 q_x294 hh_x294 ex295) (i32pos (qm324 r_x12 r_kv13 wh_x12 c14 c26 r_x35 c36 c46 c54 r_x64 q_x64 wh_x64 g_x67 g_x70 c71 c80 c93 g_x95 r_kv96 gl_x95 dr_x99 c100 dr_x102 lr_x102 ex103 g_x106 ex108 dv_x108 dw_x108 c110 i1u115 c132 r_x181 hh_x181 ex182 dv_x182 r_x185 c186 c237 ex290 r_x292 q_x292 wh_x292 r_x294 q_x294 hh_x294 ex295))
                              intro _
                              refine m_X11_partsOf hI o_v0 (qm325 r_x12 r_kv13 wh_x12 c14 c26 r_x35 c36 c46 c54 r_x64 q_x64 wh_x64 g_x67 g_x70 c71 c80 c93 g_x95 r_kv96 gl_x95 dr_x99 c100 dr_x102 lr_x102 ex103 g_x106 ex108 dv_x108 dw_x108 c110 i1u115 c132 r_x181 hh_x181 ex182 dv_x182 r_x185 c186 c237 ex290 r_x292 q_x292 wh_x292 r_x294 q_x294 hh_x294 ex295 dv_x295) (qm326 r_x12 r_kv13 wh_x12 c14 c26 r_x35 c36 c46 c54 r_x64 q_x64 wh_x64 g_x67 g_x70 c71 c80 c93 g_x95 r_kv96 gl_x95 dr_x99 c100 dr_x102 lr_x102 ex103 g_x106 ex108 dv_x108 dw_x108 c110 i1u115 c132 r_x181 hh_x181 ex182 dv_x182 r_x185 c186 c237 ex290 r_x292 q_x292 wh_x292 r_x294 q_x294 hh_x294 ex295 dv_x295) (qm327 r_x12 r_kv13 wh_x12 c14 c26 r_x35 c36 c46 c54 r_x64 q_x64 wh_x64 g_x67 g_x70 c71 c80 c93 g_x95 r_kv96 gl_x95 dr_x99 c100 dr_x102 lr_x102 ex103 g_x106 ex108 dv_x108 dw_x108 c110 i1u115 c132 r_x181 hh_x181 ex182 dv_x182 r_x185 c186 c237 ex290 r_x292 q_x292 wh_x292 r_x294 q_x294 hh_x294 ex295 dv_x295) (qm328 r_x12 r_kv13 wh_x12 c14 c26 r_x35 c36 c46 c54 r_x64 q_x64 wh_x64 g_x67 g_x70 c71 c80 c93 g_x95 r_kv96 gl_x95 dr_x99 c100 dr_x102 lr_x102 ex103 g_x106 ex108 dv_x108 dw_x108 c110 i1u115 c132 r_x181 hh_x181 ex182 dv_x182 r_x185 c186 c237 ex290 r_x292 q_x292 wh_x292 r_x294 q_x294 hh_x294 ex295 dv_x295) ⟨_, ea3⟩ (fun x297 S298 hI2 g299 p_x297 => ?_)
                              subst p_x297
                              intro _
                              intro x301 ex301
                              have i302 : vp_in ((2 : Int32) + w129) (hN _ a98) := (vin l_a98 (m := 7) (by decide) (qm329 r_x12 r_kv13 wh_x12 c14 c26 r_x35 c36 c46 c54 r_x64 q_x64 wh_x64 g_x67 g_x70 c71 c80 c93 g_x95 r_kv96 gl_x95 dr_x99 c100 dr_x102 lr_x102 ex103 g_x106 ex108 dv_x108 dw_x108 c110 i1u115 c132 r_x181 hh_x181 ex182 dv_x182 r_x185 c186 c237 ex290 r_x292 q_x292 wh_x292 r_x294 q_x294 hh_x294 ex295 dv_x295))
                              refine ⟨i302, ?_⟩
                              intro S303 eS303
                              have hIn : IV S303 := by rw [eS303]; exact iv11_aD hI (de_free (qm330 r_x12 r_kv13 wh_x12 c14 c26 r_x35 c36 c46 c54 r_x64 q_x64 wh_x64 g_x67 g_x70 c71 c80 c93 g_x95 r_kv96 gl_x95 dr_x99 c100 dr_x102 lr_x102 ex103 g_x106 ex108 dv_x108 dw_x108 c110 i1u115 c132 r_x181 hh_x181 ex182 dv_x182 r_x185 c186 c237 ex290 r_x292 q_x292 wh_x292 r_x294 q_x294 hh_x294 ex295 dv_x295))
                              have el107 := el_J eS303 el107
                              have hI := hIn
                              have f0 := fr_J eS303 f0
                              have fL118 := fr_J eS303 fL118
                              have d_kv2 := rd_J eS303 d_kv2
                              have d_x292 := rd_J eS303 d_x292
                              have d_kv13 := rd_J eS303 d_kv13
                              have d_x35 := rd_J eS303 d_x35
                              have d_kv96 := rd_J eS303 d_kv96
                              have d_x294 := rd_J eS303 d_x294
                              have d_x185 := rd_J eS303 d_x185
                              have d_x236 := rd_J eS303 d_x236
                              have ea3 := rf_J eS303 ea3
                              have ea66 := rf_J eS303 ea66
                              have ea69 := rf_J eS303 ea69
                              have ea94 := rf_J eS303 ea94
                              have ea98 := rf_J eS303 ea98
                              have ea105 := rf_J eS303 ea105
                              have l_a105 := ln_J eS303 l_a105
                              have l_a66 := ln_J eS303 l_a66
                              have l_a69 := ln_J eS303 l_a69
                              have l_a94 := ln_J eS303 l_a94
                              have l_a98 := ln_J eS303 l_a98
                              have g0 := gr_J eS303 g0
                              have gL117 := gr_J eS303 gL117
                              have o_a105 := ob_J eS303 o_a105
                              have o_a3 := ob_J eS303 o_a3
                              have o_a66 := ob_J eS303 o_a66
                              have o_a69 := ob_J eS303 o_a69
                              have o_a94 := ob_J eS303 o_a94
                              have o_a98 := ob_J eS303 o_a98
                              have o_v0 := ob_J eS303 o_v0
                              intro x304 ex304
                              exact ih131 _ _ _ _ _ _ _ ⟨hI, gL117, fL118, rfl, rfl, rfl, rfl, rfl, (qm331 r_x12 r_kv13 wh_x12 c14 c26 r_x35 c36 c46 c54 r_x64 q_x64 wh_x64 g_x67 g_x70 c71 c80 c93 g_x95 r_kv96 gl_x95 dr_x99 c100 dr_x102 lr_x102 ex103 g_x106 ex108 dv_x108 dw_x108 c110 i1u115 c132 r_x181 hh_x181 ex182 dv_x182 r_x185 c186 c237 ex290 r_x292 q_x292 wh_x292 r_x294 q_x294 hh_x294 ex295 dv_x295 ex304), el107⟩ (mu_up (qm332 r_x12 r_kv13 wh_x12 c14 c26 r_x35 c36 c46 c54 r_x64 q_x64 wh_x64 g_x67 g_x70 c71 c80 c93 g_x95 r_kv96 gl_x95 dr_x99 c100 dr_x102 lr_x102 ex103 g_x106 ex108 dv_x108 dw_x108 c110 i1u115 c132 r_x181 hh_x181 ex182 dv_x182 r_x185 c186 c237 ex290 r_x292 q_x292 wh_x292 r_x294 q_x294 hh_x294 ex295 dv_x295 ex304) (qm333 r_x12 r_kv13 wh_x12 c14 c26 r_x35 c36 c46 c54 r_x64 q_x64 wh_x64 g_x67 g_x70 c71 c80 c93 g_x95 r_kv96 gl_x95 dr_x99 c100 dr_x102 lr_x102 ex103 g_x106 ex108 dv_x108 dw_x108 c110 i1u115 c132 r_x181 hh_x181 ex182 dv_x182 r_x185 c186 c237 ex290 r_x292 q_x292 wh_x292 r_x294 q_x294 hh_x294 ex295 dv_x295 ex304))
                      · refine u_X11_refused ?_
                        refine u_X11_refused_0 ?_
                        refine ⟨o_v0, ?_⟩
                        intro S305 eS305
                        have hIn : IV S305 := by rw [eS305]; exact iv11_sI hI o_v0 (by decide) (nu_free (by decide))
                        have el107 := el_ob eS305 o_v0 o_a105 (by decide) el107
                        have hI := hIn
                        have f0 := fr_I eS305 g0 f0 o_v0 (by decide)
                        have d_kv2 := rd_Ij eS305 (by decide) d_kv2
                        have d_x64 := rd_Ij eS305 (by decide) d_x64
                        have d_kv13 := rd_Ik eS305 o_v0 o_a3 (by decide) d_kv13
                        have d_x35 := rd_Ik eS305 o_v0 o_a3 (by decide) d_x35
                        have d_kv96 := rd_Ik eS305 o_v0 o_a3 (by decide) d_kv96
                        obtain ⟨kv306, hkv306⟩ : ∃ z : Int32, z = (3 : Int32) := ⟨_, rfl⟩
                        have d_kv306 := rd_Is eS305 hkv306
                        have ea3 := rf_I eS305 ea3
                        have ea66 := rf_I eS305 ea66
                        have ea69 := rf_I eS305 ea69
                        have ea94 := rf_I eS305 ea94
                        have ea98 := rf_I eS305 ea98
                        have ea105 := rf_I eS305 ea105
                        have l_a105 := ln_I eS305 l_a105
                        have l_a66 := ln_I eS305 l_a66
                        have l_a69 := ln_I eS305 l_a69
                        have l_a94 := ln_I eS305 l_a94
                        have l_a98 := ln_I eS305 l_a98
                        have g0 := gr_I eS305 g0
                        have o_a105 := ob_I eS305 o_a105
                        have o_a3 := ob_I eS305 o_a3
                        have o_a66 := ob_I eS305 o_a66
                        have o_a69 := ob_I eS305 o_a69
                        have o_a94 := ob_I eS305 o_a94
                        have o_a98 := ob_I eS305 o_a98
                        have o_v0 := ob_I eS305 o_v0
                        intro S307 eS307
                        have hIn : IV S307 := by rw [eS307]; exact iv11_sI hI o_v0 (by decide) (nu_free (by decide))
                        have el107 := el_ob eS307 o_v0 o_a105 (by decide) el107
                        have hI := hIn
                        have f0 := fr_I eS307 g0 f0 o_v0 (by decide)
                        have d_kv2 := rd_Ij eS307 (by decide) d_kv2
                        have d_x64 := rd_Ij eS307 (by decide) d_x64
                        have d_kv13 := rd_Ik eS307 o_v0 o_a3 (by decide) d_kv13
                        have d_x35 := rd_Ik eS307 o_v0 o_a3 (by decide) d_x35
                        have d_kv96 := rd_Ik eS307 o_v0 o_a3 (by decide) d_kv96
                        have d_kv306 := rd_Ij eS307 (by decide) d_kv306
                        obtain ⟨kv308, hkv308⟩ : ∃ z : Int32, z = (-1 : Int32) := ⟨_, rfl⟩
                        have d_kv308 := rd_Is eS307 hkv308
                        have ea3 := rf_I eS307 ea3
                        have ea66 := rf_I eS307 ea66
                        have ea69 := rf_I eS307 ea69
                        have ea94 := rf_I eS307 ea94
                        have ea98 := rf_I eS307 ea98
                        have ea105 := rf_I eS307 ea105
                        have l_a105 := ln_I eS307 l_a105
                        have l_a66 := ln_I eS307 l_a66
                        have l_a69 := ln_I eS307 l_a69
                        have l_a94 := ln_I eS307 l_a94
                        have l_a98 := ln_I eS307 l_a98
                        have g0 := gr_I eS307 g0
                        have o_a105 := ob_I eS307 o_a105
                        have o_a3 := ob_I eS307 o_a3
                        have o_a66 := ob_I eS307 o_a66
                        have o_a69 := ob_I eS307 o_a69
                        have o_a94 := ob_I eS307 o_a94
                        have o_a98 := ob_I eS307 o_a98
                        have o_v0 := ob_I eS307 o_v0
                        intro _
                        exact hq _ _ hI g0 f0
                    · refine u_X11_refused ?_
                      refine u_X11_refused_0 ?_
                      refine ⟨o_v0, ?_⟩
                      intro S310 eS310
                      have hIn : IV S310 := by rw [eS310]; exact iv11_sI hI o_v0 (by decide) (nu_free (by decide))
                      have hI := hIn
                      have f0 := fr_I eS310 g0 f0 o_v0 (by decide)
                      have d_kv2 := rd_Ij eS310 (by decide) d_kv2
                      have d_x64 := rd_Ij eS310 (by decide) d_x64
                      have d_kv13 := rd_Ik eS310 o_v0 o_a3 (by decide) d_kv13
                      have d_x35 := rd_Ik eS310 o_v0 o_a3 (by decide) d_x35
                      have d_kv96 := rd_Ik eS310 o_v0 o_a3 (by decide) d_kv96
                      obtain ⟨kv311, hkv311⟩ : ∃ z : Int32, z = (5 : Int32) := ⟨_, rfl⟩
                      have d_kv311 := rd_Is eS310 hkv311
                      have ea3 := rf_I eS310 ea3
                      have ea66 := rf_I eS310 ea66
                      have ea69 := rf_I eS310 ea69
                      have ea94 := rf_I eS310 ea94
                      have ea98 := rf_I eS310 ea98
                      have l_a66 := ln_I eS310 l_a66
                      have l_a69 := ln_I eS310 l_a69
                      have l_a94 := ln_I eS310 l_a94
                      have l_a98 := ln_I eS310 l_a98
                      have g0 := gr_I eS310 g0
                      have o_a3 := ob_I eS310 o_a3
                      have o_a66 := ob_I eS310 o_a66
                      have o_a69 := ob_I eS310 o_a69
                      have o_a94 := ob_I eS310 o_a94
                      have o_a98 := ob_I eS310 o_a98
                      have o_v0 := ob_I eS310 o_v0
                      intro S312 eS312
                      have hIn : IV S312 := by rw [eS312]; exact iv11_sI hI o_v0 (by decide) (nu_free (by decide))
                      have hI := hIn
                      have f0 := fr_I eS312 g0 f0 o_v0 (by decide)
                      have d_kv2 := rd_Ij eS312 (by decide) d_kv2
                      have d_x64 := rd_Ij eS312 (by decide) d_x64
                      have d_kv13 := rd_Ik eS312 o_v0 o_a3 (by decide) d_kv13
                      have d_x35 := rd_Ik eS312 o_v0 o_a3 (by decide) d_x35
                      have d_kv96 := rd_Ik eS312 o_v0 o_a3 (by decide) d_kv96
                      have d_kv311 := rd_Ij eS312 (by decide) d_kv311
                      obtain ⟨kv313, hkv313⟩ : ∃ z : Int32, z = (-1 : Int32) := ⟨_, rfl⟩
                      have d_kv313 := rd_Is eS312 hkv313
                      have ea3 := rf_I eS312 ea3
                      have ea66 := rf_I eS312 ea66
                      have ea69 := rf_I eS312 ea69
                      have ea94 := rf_I eS312 ea94
                      have ea98 := rf_I eS312 ea98
                      have l_a66 := ln_I eS312 l_a66
                      have l_a69 := ln_I eS312 l_a69
                      have l_a94 := ln_I eS312 l_a94
                      have l_a98 := ln_I eS312 l_a98
                      have g0 := gr_I eS312 g0
                      have o_a3 := ob_I eS312 o_a3
                      have o_a66 := ob_I eS312 o_a66
                      have o_a69 := ob_I eS312 o_a69
                      have o_a94 := ob_I eS312 o_a94
                      have o_a98 := ob_I eS312 o_a98
                      have o_v0 := ob_I eS312 o_v0
                      intro _
                      exact hq _ _ hI g0 f0
                  · refine ⟨o_a3, ?_⟩
                    obtain ⟨a315, ea315, o_a315, l_a315⟩ := shl 35 rfl hI o_a3
                    refine ⟨a315, ea315, ?_⟩
                    refine ⟨o_a315, ?_⟩
                    refine ⟨(vin l_a315 (m := 12) (by decide) (qm334 r_x12 r_kv13 wh_x12 c14 c26 r_x35 c36 c46 c54 r_x64 q_x64 wh_x64 g_x67 g_x70 c71 c80 c93)), ?_⟩
                    intro x316 ex316
                    have gy_x316 : 0 ≤ v1 ∧ v1 < fI S1 a3 3 := by rw [← d_x35]; exact (qm335 r_x12 r_kv13 wh_x12 c14 c26 r_x35 c36 c46 c54 r_x64 q_x64 wh_x64 g_x67 g_x70 c71 c80 c93)
                    have g_x316 : (0 : Int32) ≤ x316 ∧ x316 ≤ (7 : Int32) := by rw [ex316]; exact wg_at (ml_wg hI o_v0 ea3) 0 rfl gy_x316 ea315
                    obtain ⟨kv317, d_kv317⟩ : ∃ z : Int32, z = fI S1 a3 2 := ⟨_, rfl⟩
                    have r_kv317 : (0 : Int32) ≤ kv317 ∧ kv317 ≤ (8 : Int32) := by rw [d_kv317]; exact nu 18 rfl hI o_a3
                    have gl_x316 : x316 < kv317 := by rw [ex316, d_kv317]; exact wg_lt (ml_wg hI o_v0 ea3) 0 rfl (by decide) gy_x316 ea315
                    intro _
                    obtain ⟨a319, ea319, o_a319, l_a319⟩ := shl 57 rfl hI o_v0
                    refine ⟨a319, ea319, ?_⟩
                    refine ⟨o_a319, ?_⟩
                    refine ⟨(vin l_a319 (m := 7) (by decide) (qm336 r_x12 r_kv13 wh_x12 c14 c26 r_x35 c36 c46 c54 r_x64 q_x64 wh_x64 g_x67 g_x70 c71 c80 c93)), ?_⟩
                    intro x320 ex320
                    have de_x320 := ml_de hI o_v0 (j := 21) (by decide) ea319 (0 : Int32).toNatClampNeg
                    rw [← ex320] at de_x320
                    have dr_x320 : (0 : Int64) ≤ x320 ∧ x320 ≤ (7 : Int64) := de_x320.1 (by decide)
                    refine ⟨fun c321 => ?_, fun c321 => ?_⟩
                    · refine ⟨a319, ea319, ?_⟩
                      refine ⟨o_a319, ?_⟩
                      refine ⟨(vin l_a319 (m := 7) (by decide) (qm337 r_x12 r_kv13 wh_x12 c14 c26 r_x35 c36 c46 c54 r_x64 q_x64 wh_x64 g_x67 g_x70 c71 c80 c93 g_x316 r_kv317 gl_x316 dr_x320 c321)), ?_⟩
                      intro x323 ex323
                      have de_x323 := ml_de hI o_v0 (j := 21) (by decide) ea319 (1 : Int32).toNatClampNeg
                      rw [← ex323] at de_x323
                      have dr_x323 : (0 : Int64) ≤ x323 ∧ x323 ≤ (999 : Int64) := de_x323.2 (by decide)
                      have lr_x323 : 0 ≤ x323.toInt32 ∧ x323.toInt32 ≤ (999 : Int32) := l2i_rng (by decide) dr_x323
                      intro x324 ex324
                      refine ⟨a3, ea3, ?_⟩
                      refine ⟨o_a3, ?_⟩
                      refine u_X10_minutes ?_
                      refine u_X10_minutes_0 ?_
                      refine ⟨o_a3, ?_⟩
                      obtain ⟨a326, ea326, o_a326, l_a326⟩ := shl 38 rfl hI o_a3
                      refine ⟨a326, ea326, ?_⟩
                      refine ⟨o_a326, ?_⟩
                      refine ⟨(vin l_a326 (m := 12) (by decide) (qm338 r_x12 r_kv13 wh_x12 c14 c26 r_x35 c36 c46 c54 r_x64 q_x64 wh_x64 g_x67 g_x70 c71 c80 c93 g_x316 r_kv317 gl_x316 dr_x320 c321)), ?_⟩
                      intro x327 ex327
                      have el328 := ex327.symm
                      have gy_x327 : 0 ≤ v1 ∧ v1 < fI S1 a3 3 := by rw [← d_x35]; exact (qm339 r_x12 r_kv13 wh_x12 c14 c26 r_x35 c36 c46 c54 r_x64 q_x64 wh_x64 g_x67 g_x70 c71 c80 c93 g_x316 r_kv317 gl_x316 dr_x320 c321)
                      have g_x327 : (1 : Int32) ≤ x327 ∧ x327 ≤ (60 : Int32) := by rw [ex327]; exact wg_at (ml_wg hI o_v0 ea3) 2 rfl gy_x327 ea326
                      refine ⟨(qm340 r_x12 r_kv13 wh_x12 c14 c26 r_x35 c36 c46 c54 r_x64 q_x64 wh_x64 g_x67 g_x70 c71 c80 c93 g_x316 r_kv317 gl_x316 dr_x320 c321), ?_⟩
                      intro x329 ex329
                      have dv_x329 : 0 ≤ x329 ∧ x329 ≤ ((x327 + v3) - (1 : Int32)) := by rw [ex329]; exact dv0 (qm341 r_x12 r_kv13 wh_x12 c14 c26 r_x35 c36 c46 c54 r_x64 q_x64 wh_x64 g_x67 g_x70 c71 c80 c93 g_x316 r_kv317 gl_x316 dr_x320 c321 g_x327 ex329) (i32pos (qm342 r_x12 r_kv13 wh_x12 c14 c26 r_x35 c36 c46 c54 r_x64 q_x64 wh_x64 g_x67 g_x70 c71 c80 c93 g_x316 r_kv317 gl_x316 dr_x320 c321 g_x327 ex329))
                      have dw_x329 : (1 : Int32) ≤ x329 := by rw [ex329]; exact dv1 (qm343 r_x12 r_kv13 wh_x12 c14 c26 r_x35 c36 c46 c54 r_x64 q_x64 wh_x64 g_x67 g_x70 c71 c80 c93 g_x316 r_kv317 gl_x316 dr_x320 c321 g_x327 ex329) (qm344 r_x12 r_kv13 wh_x12 c14 c26 r_x35 c36 c46 c54 r_x64 q_x64 wh_x64 g_x67 g_x70 c71 c80 c93 g_x316 r_kv317 gl_x316 dr_x320 c321 g_x327 ex329)
                      intro _
                      refine ⟨fun c331 => ?_, fun c331 => ?_⟩
                      · refine m_X11_keeps hI o_v0 (fun S333 hJ g334 fc335 p_S333 => ?_)
                        have hI := hJ
                        have l_a315 := (gr_len g334 o_a315).trans l_a315
                        have l_a319 := (gr_len g334 o_a319).trans l_a319
                        have l_a326 := (gr_len g334 o_a326).trans l_a326
                        have l_a66 := (gr_len g334 o_a66).trans l_a66
                        have l_a69 := (gr_len g334 o_a69).trans l_a69
                        have d_kv2 := d_kv2.trans (fri_at fc335 (by decide) (by decide) o_v0).symm
                        have d_x64 := d_x64.trans (fri_at fc335 (by decide) (by decide) o_v0).symm
                        have d_kv13 := d_kv13.trans (fri_at fc335 (by decide) (by decide) o_a3).symm
                        have d_x35 := d_x35.trans (fri_at fc335 (by decide) (by decide) o_a3).symm
                        have d_kv317 := d_kv317.trans (fri_at fc335 (by decide) (by decide) o_a3).symm
                        have ea3 := (frr_at fc335 (by decide) (by decide) o_v0).trans ea3
                        have ea66 := (frr_at fc335 (by decide) (by decide) o_a3).trans ea66
                        have ea69 := (frr_at fc335 (by decide) (by decide) o_a3).trans ea69
                        have ea315 := (frr_at fc335 (by decide) (by decide) o_a3).trans ea315
                        have ea319 := (frr_at fc335 (by decide) (by decide) o_v0).trans ea319
                        have ea326 := (frr_at fc335 (by decide) (by decide) o_a3).trans ea326
                        have f0 := fri_tr (S := S1) g0 f0 fc335 (by decide) (by decide)
                        have o_a3 := gr_ob g334 o_a3
                        have o_a315 := gr_ob g334 o_a315
                        have o_a319 := gr_ob g334 o_a319
                        have o_a326 := gr_ob g334 o_a326
                        have o_a66 := gr_ob g334 o_a66
                        have o_a69 := gr_ob g334 o_a69
                        have o_v0 := gr_ob g334 o_v0
                        have g0 := gr_tr (T := S1) g0 g334
                        intro _
                        have el328 := (congrFun (p_S333.1 _ _ o_a326 (by decide)) _).trans el328
                        refine i_X11_go_119 (fun (y0 : Nat) (y1 : Int32) (y2 : Int32) (y3 : Int32) (y4 : Int32) (y5 : Int32) (Z : HS) => ((2147483647 : Int32).toInt - y5.toInt).toNat) (fun (y0 : Nat) (y1 : Int32) (y2 : Int32) (y3 : Int32) (y4 : Int32) (y5 : Int32) (Z : HS) => (IV Z) ∧ (Gr S333 Z) ∧ (FRI [] [] S333 Z) ∧ (v0 = y0) ∧ (v1 = y1) ∧ (v2 = y2) ∧ (v3 = y3) ∧ (x324 = y4) ∧ (0 ≤ y5) ∧ (fI Z a326 v1.toNatClampNeg = x327)) ?_ _ _ _ _ _ _ _ ⟨hI, (gr_rf _), (fri_rf _ _ _), rfl, rfl, rfl, rfl, rfl, (qm345 r_x12 r_kv13 wh_x12 c14 c26 r_x35 c36 c46 c54 r_x64 q_x64 wh_x64 g_x67 g_x70 c71 c80 c93 g_x316 r_kv317 gl_x316 dr_x320 c321 dr_x323 lr_x323 ex324 g_x327 ex329 dv_x329 dw_x329 c331), el328⟩
                        intro w340 w342 w344 w346 w348 w350 S337 X351 ⟨hI, gL338, fL339, q341, q343, q345, q347, q349, i1u336, el328⟩ ih352
                        subst q341
                        subst q343
                        subst q345
                        subst q347
                        subst q349
                        have l_a315 := (gr_len gL338 o_a315).trans l_a315
                        have l_a319 := (gr_len gL338 o_a319).trans l_a319
                        have l_a326 := (gr_len gL338 o_a326).trans l_a326
                        have l_a66 := (gr_len gL338 o_a66).trans l_a66
                        have l_a69 := (gr_len gL338 o_a69).trans l_a69
                        have d_kv2 := d_kv2.trans (fri_at fL339 (by decide) (by decide) o_v0).symm
                        have d_x64 := d_x64.trans (fri_at fL339 (by decide) (by decide) o_v0).symm
                        have d_kv13 := d_kv13.trans (fri_at fL339 (by decide) (by decide) o_a3).symm
                        have d_x35 := d_x35.trans (fri_at fL339 (by decide) (by decide) o_a3).symm
                        have d_kv317 := d_kv317.trans (fri_at fL339 (by decide) (by decide) o_a3).symm
                        have ea3 := (frr_at fL339 (by decide) (by decide) o_v0).trans ea3
                        have ea66 := (frr_at fL339 (by decide) (by decide) o_a3).trans ea66
                        have ea69 := (frr_at fL339 (by decide) (by decide) o_a3).trans ea69
                        have ea315 := (frr_at fL339 (by decide) (by decide) o_a3).trans ea315
                        have ea319 := (frr_at fL339 (by decide) (by decide) o_v0).trans ea319
                        have ea326 := (frr_at fL339 (by decide) (by decide) o_a3).trans ea326
                        have f0 := fri_tr (S := S333) g0 f0 fL339 (by decide) (by decide)
                        have o_a3 := gr_ob gL338 o_a3
                        have o_a315 := gr_ob gL338 o_a315
                        have o_a319 := gr_ob gL338 o_a319
                        have o_a326 := gr_ob gL338 o_a326
                        have o_a66 := gr_ob gL338 o_a66
                        have o_a69 := gr_ob gL338 o_a69
                        have o_v0 := gr_ob gL338 o_v0
                        have g0 := gr_tr (T := S333) g0 gL338
                        refine u_X11_go_119 ?_
                        refine ⟨fun c353 => ?_, fun c353 => ?_⟩
                        · refine u_X11_go_171 ?_
                          refine ⟨o_v0, ?_⟩
                          refine ⟨a319, ea319, ?_⟩
                          refine ⟨a3, ea3, ?_⟩
                          refine ⟨o_a3, ?_⟩
                          refine u_X10_ends ?_
                          refine u_X10_ends_0 ?_
                          refine ⟨fun c356 => ?_, fun c356 => ?_⟩
                          · refine ⟨o_a3, ?_⟩
                            refine ⟨a315, ea315, ?_⟩
                            refine ⟨o_a315, ?_⟩
                            refine ⟨(vin l_a315 (m := 12) (by decide) (qm346 r_x12 r_kv13 wh_x12 c14 c26 r_x35 c36 c46 c54 r_x64 q_x64 wh_x64 g_x67 g_x70 c71 c80 c93 g_x316 r_kv317 gl_x316 dr_x320 c321 dr_x323 lr_x323 ex324 g_x327 ex329 dv_x329 dw_x329 c331 i1u336 c353 c356)), ?_⟩
                            intro x358 ex358
                            have gy_x358 : 0 ≤ v1 ∧ v1 < fI S337 a3 3 := by rw [← d_x35]; exact (qm347 r_x12 r_kv13 wh_x12 c14 c26 r_x35 c36 c46 c54 r_x64 q_x64 wh_x64 g_x67 g_x70 c71 c80 c93 g_x316 r_kv317 gl_x316 dr_x320 c321 dr_x323 lr_x323 ex324 g_x327 ex329 dv_x329 dw_x329 c331 i1u336 c353 c356)
                            have g_x358 : (0 : Int32) ≤ x358 ∧ x358 ≤ (7 : Int32) := by rw [ex358]; exact wg_at (ml_wg hI o_v0 ea3) 0 rfl gy_x358 ea315
                            have gl_x358 : x358 < kv317 := by rw [ex358, d_kv317]; exact wg_lt (ml_wg hI o_v0 ea3) 0 rfl (by decide) gy_x358 ea315
                            intro _
                            refine ⟨o_a319, ?_⟩
                            intro x360 ex360
                            have i361 : vp_in (0 : Int32) (hN _ a319) := (vin l_a319 (m := 7) (by decide) (qm348 r_x12 r_kv13 wh_x12 c14 c26 r_x35 c36 c46 c54 r_x64 q_x64 wh_x64 g_x67 g_x70 c71 c80 c93 g_x316 r_kv317 gl_x316 dr_x320 c321 dr_x323 lr_x323 ex324 g_x327 ex329 dv_x329 dw_x329 c331 i1u336 c353 c356 g_x358 gl_x358 ex360))
                            refine ⟨i361, ?_⟩
                            intro S362 eS362
                            have hIn : IV S362 := by rw [eS362]; exact iv11_aD hI (de_0 (by rw [ex360]; exact i2l_rng (lo := 0) (hi := 7) (qm349 r_x12 r_kv13 wh_x12 c14 c26 r_x35 c36 c46 c54 r_x64 q_x64 wh_x64 g_x67 g_x70 c71 c80 c93 g_x316 r_kv317 gl_x316 dr_x320 c321 dr_x323 lr_x323 ex324 g_x327 ex329 dv_x329 dw_x329 c331 i1u336 c353 c356 g_x358 gl_x358 ex360)))
                            have el328 := el_J eS362 el328
                            have hI := hIn
                            have f0 := fr_J eS362 f0
                            have d_kv2 := rd_J eS362 d_kv2
                            have d_x64 := rd_J eS362 d_x64
                            have d_kv13 := rd_J eS362 d_kv13
                            have d_x35 := rd_J eS362 d_x35
                            have d_kv317 := rd_J eS362 d_kv317
                            have ea3 := rf_J eS362 ea3
                            have ea66 := rf_J eS362 ea66
                            have ea69 := rf_J eS362 ea69
                            have ea315 := rf_J eS362 ea315
                            have ea319 := rf_J eS362 ea319
                            have ea326 := rf_J eS362 ea326
                            have l_a315 := ln_J eS362 l_a315
                            have l_a319 := ln_J eS362 l_a319
                            have l_a326 := ln_J eS362 l_a326
                            have l_a66 := ln_J eS362 l_a66
                            have l_a69 := ln_J eS362 l_a69
                            have g0 := gr_J eS362 g0
                            have o_a3 := ob_J eS362 o_a3
                            have o_a315 := ob_J eS362 o_a315
                            have o_a319 := ob_J eS362 o_a319
                            have o_a326 := ob_J eS362 o_a326
                            have o_a66 := ob_J eS362 o_a66
                            have o_a69 := ob_J eS362 o_a69
                            have o_v0 := ob_J eS362 o_v0
                            refine ⟨a319, ea319, ?_⟩
                            refine ⟨a3, ea3, ?_⟩
                            refine ⟨o_a3, ?_⟩
                            refine u_X10_minutes ?_
                            refine u_X10_minutes_0 ?_
                            refine ⟨o_a3, ?_⟩
                            refine ⟨a326, ea326, ?_⟩
                            refine ⟨o_a326, ?_⟩
                            refine ⟨(vin l_a326 (m := 12) (by decide) (qm350 r_x12 r_kv13 wh_x12 c14 c26 r_x35 c36 c46 c54 r_x64 q_x64 wh_x64 g_x67 g_x70 c71 c80 c93 g_x316 r_kv317 gl_x316 dr_x320 c321 dr_x323 lr_x323 ex324 g_x327 ex329 dv_x329 dw_x329 c331 i1u336 c353 c356 g_x358 gl_x358 ex360)), ?_⟩
                            intro x366 ex366
                            have qe_x366 : x366 = x327 := ex366.trans el328
                            have gy_x366 : 0 ≤ v1 ∧ v1 < fI S362 a3 3 := by rw [← d_x35]; exact (qm351 r_x12 r_kv13 wh_x12 c14 c26 r_x35 c36 c46 c54 r_x64 q_x64 wh_x64 g_x67 g_x70 c71 c80 c93 g_x316 r_kv317 gl_x316 dr_x320 c321 dr_x323 lr_x323 ex324 g_x327 ex329 dv_x329 dw_x329 c331 i1u336 c353 c356 g_x358 gl_x358 ex360 qe_x366)
                            have g_x366 : (1 : Int32) ≤ x366 ∧ x366 ≤ (60 : Int32) := by rw [ex366]; exact wg_at (ml_wg hI o_v0 ea3) 2 rfl gy_x366 ea326
                            refine ⟨(qm352 r_x12 r_kv13 wh_x12 c14 c26 r_x35 c36 c46 c54 r_x64 q_x64 wh_x64 g_x67 g_x70 c71 c80 c93 g_x316 r_kv317 gl_x316 dr_x320 c321 dr_x323 lr_x323 ex324 g_x327 ex329 dv_x329 dw_x329 c331 i1u336 c353 c356 g_x358 gl_x358 ex360 qe_x366 g_x366), ?_⟩
                            intro x367 ex367
                            have dv_x367 : 0 ≤ x367 ∧ x367 ≤ ((x366 + v3) - (1 : Int32)) := by rw [ex367]; exact dv0 (qm353 r_x12 r_kv13 wh_x12 c14 c26 r_x35 c36 c46 c54 r_x64 q_x64 wh_x64 g_x67 g_x70 c71 c80 c93 g_x316 r_kv317 gl_x316 dr_x320 c321 dr_x323 lr_x323 ex324 g_x327 ex329 dv_x329 dw_x329 c331 i1u336 c353 c356 g_x358 gl_x358 ex360 qe_x366 g_x366 ex367) (i32pos (qm354 r_x12 r_kv13 wh_x12 c14 c26 r_x35 c36 c46 c54 r_x64 q_x64 wh_x64 g_x67 g_x70 c71 c80 c93 g_x316 r_kv317 gl_x316 dr_x320 c321 dr_x323 lr_x323 ex324 g_x327 ex329 dv_x329 dw_x329 c331 i1u336 c353 c356 g_x358 gl_x358 ex360 qe_x366 g_x366 ex367))
                            have dw_x367 : (1 : Int32) ≤ x367 := by rw [ex367]; exact dv1 (qm355 r_x12 r_kv13 wh_x12 c14 c26 r_x35 c36 c46 c54 r_x64 q_x64 wh_x64 g_x67 g_x70 c71 c80 c93 g_x316 r_kv317 gl_x316 dr_x320 c321 dr_x323 lr_x323 ex324 g_x327 ex329 dv_x329 dw_x329 c331 i1u336 c353 c356 g_x358 gl_x358 ex360 qe_x366 g_x366 ex367) (qm356 r_x12 r_kv13 wh_x12 c14 c26 r_x35 c36 c46 c54 r_x64 q_x64 wh_x64 g_x67 g_x70 c71 c80 c93 g_x316 r_kv317 gl_x316 dr_x320 c321 dr_x323 lr_x323 ex324 g_x327 ex329 dv_x329 dw_x329 c331 i1u336 c353 c356 g_x358 gl_x358 ex360 qe_x366 g_x366 ex367)
                            intro _
                            refine ⟨o_a319, ?_⟩
                            intro x369 ex369
                            have i370 : vp_in (1 : Int32) (hN _ a319) := (vin l_a319 (m := 7) (by decide) (qm357 r_x12 r_kv13 wh_x12 c14 c26 r_x35 c36 c46 c54 r_x64 q_x64 wh_x64 g_x67 g_x70 c71 c80 c93 g_x316 r_kv317 gl_x316 dr_x320 c321 dr_x323 lr_x323 ex324 g_x327 ex329 dv_x329 dw_x329 c331 i1u336 c353 c356 g_x358 gl_x358 ex360 qe_x366 g_x366 ex367 dv_x367 dw_x367 ex369))
                            refine ⟨i370, ?_⟩
                            intro S371 eS371
                            have hIn : IV S371 := by rw [eS371]; exact iv11_aD hI (de_1 (by rw [ex369]; exact i2l_rng (lo := 0) (hi := 999) (qm358 r_x12 r_kv13 wh_x12 c14 c26 r_x35 c36 c46 c54 r_x64 q_x64 wh_x64 g_x67 g_x70 c71 c80 c93 g_x316 r_kv317 gl_x316 dr_x320 c321 dr_x323 lr_x323 ex324 g_x327 ex329 dv_x329 dw_x329 c331 i1u336 c353 c356 g_x358 gl_x358 ex360 qe_x366 g_x366 ex367 dv_x367 dw_x367 ex369)))
                            have el328 := el_J eS371 el328
                            have hI := hIn
                            have f0 := fr_J eS371 f0
                            have d_kv2 := rd_J eS371 d_kv2
                            have d_x64 := rd_J eS371 d_x64
                            have d_kv13 := rd_J eS371 d_kv13
                            have d_x35 := rd_J eS371 d_x35
                            have d_kv317 := rd_J eS371 d_kv317
                            have ea3 := rf_J eS371 ea3
                            have ea66 := rf_J eS371 ea66
                            have ea69 := rf_J eS371 ea69
                            have ea315 := rf_J eS371 ea315
                            have ea319 := rf_J eS371 ea319
                            have ea326 := rf_J eS371 ea326
                            have l_a315 := ln_J eS371 l_a315
                            have l_a319 := ln_J eS371 l_a319
                            have l_a326 := ln_J eS371 l_a326
                            have l_a66 := ln_J eS371 l_a66
                            have l_a69 := ln_J eS371 l_a69
                            have g0 := gr_J eS371 g0
                            have o_a3 := ob_J eS371 o_a3
                            have o_a315 := ob_J eS371 o_a315
                            have o_a319 := ob_J eS371 o_a319
                            have o_a326 := ob_J eS371 o_a326
                            have o_a66 := ob_J eS371 o_a66
                            have o_a69 := ob_J eS371 o_a69
                            have o_v0 := ob_J eS371 o_v0
                            refine ⟨a319, ea319, ?_⟩
                            refine ⟨o_a319, ?_⟩
                            refine ⟨(vin l_a319 (m := 7) (by decide) (qm357 r_x12 r_kv13 wh_x12 c14 c26 r_x35 c36 c46 c54 r_x64 q_x64 wh_x64 g_x67 g_x70 c71 c80 c93 g_x316 r_kv317 gl_x316 dr_x320 c321 dr_x323 lr_x323 ex324 g_x327 ex329 dv_x329 dw_x329 c331 i1u336 c353 c356 g_x358 gl_x358 ex360 qe_x366 g_x366 ex367 dv_x367 dw_x367 ex369)), ?_⟩
                            intro x373 ex373
                            have de_x373 := ml_de hI o_v0 (j := 21) (by decide) ea319 (1 : Int32).toNatClampNeg
                            rw [← ex373] at de_x373
                            have dr_x373 : (0 : Int64) ≤ x373 ∧ x373 ≤ (999 : Int64) := de_x373.2 (by decide)
                            have lr_x373 : 0 ≤ x373.toInt32 ∧ x373.toInt32 ≤ (999 : Int32) := l2i_rng (by decide) dr_x373
                            refine u_X11_good ?_
                            refine u_X11_good_0 ?_
                            refine ⟨o_v0, ?_⟩
                            intro S374 eS374
                            have hIn : IV S374 := by rw [eS374]; exact iv11_sI hI o_v0 (by decide) (nu_free (by decide))
                            have el328 := el_ob eS374 o_v0 o_a326 (by decide) el328
                            have hI := hIn
                            have f0 := fr_I eS374 g0 f0 o_v0 (by decide)
                            have d_kv2 := rd_Ij eS374 (by decide) d_kv2
                            have d_x64 := rd_Ij eS374 (by decide) d_x64
                            have d_kv13 := rd_Ik eS374 o_v0 o_a3 (by decide) d_kv13
                            have d_x35 := rd_Ik eS374 o_v0 o_a3 (by decide) d_x35
                            have d_kv317 := rd_Ik eS374 o_v0 o_a3 (by decide) d_kv317
                            obtain ⟨kv375, hkv375⟩ : ∃ z : Int32, z = (0 : Int32) := ⟨_, rfl⟩
                            have d_kv375 := rd_Is eS374 hkv375
                            have ea3 := rf_I eS374 ea3
                            have ea66 := rf_I eS374 ea66
                            have ea69 := rf_I eS374 ea69
                            have ea315 := rf_I eS374 ea315
                            have ea319 := rf_I eS374 ea319
                            have ea326 := rf_I eS374 ea326
                            have l_a315 := ln_I eS374 l_a315
                            have l_a319 := ln_I eS374 l_a319
                            have l_a326 := ln_I eS374 l_a326
                            have l_a66 := ln_I eS374 l_a66
                            have l_a69 := ln_I eS374 l_a69
                            have g0 := gr_I eS374 g0
                            have o_a3 := ob_I eS374 o_a3
                            have o_a315 := ob_I eS374 o_a315
                            have o_a319 := ob_I eS374 o_a319
                            have o_a326 := ob_I eS374 o_a326
                            have o_a66 := ob_I eS374 o_a66
                            have o_a69 := ob_I eS374 o_a69
                            have o_v0 := ob_I eS374 o_v0
                            intro S376 eS376
                            have hIn : IV S376 := by rw [eS376]; exact iv11_sI hI o_v0 (by decide) (nu_free (by decide))
                            have el328 := el_ob eS376 o_v0 o_a326 (by decide) el328
                            have hI := hIn
                            have f0 := fr_I eS376 g0 f0 o_v0 (by decide)
                            have d_kv2 := rd_Ij eS376 (by decide) d_kv2
                            have d_x64 := rd_Ij eS376 (by decide) d_x64
                            have d_kv13 := rd_Ik eS376 o_v0 o_a3 (by decide) d_kv13
                            have d_x35 := rd_Ik eS376 o_v0 o_a3 (by decide) d_x35
                            have d_kv317 := rd_Ik eS376 o_v0 o_a3 (by decide) d_kv317
                            have d_kv375 := rd_Ij eS376 (by decide) d_kv375
                            obtain ⟨kv377, hkv377⟩ : ∃ z : Int32, z = (-1 : Int32) := ⟨_, rfl⟩
                            have d_kv377 := rd_Is eS376 hkv377
                            have ea3 := rf_I eS376 ea3
                            have ea66 := rf_I eS376 ea66
                            have ea69 := rf_I eS376 ea69
                            have ea315 := rf_I eS376 ea315
                            have ea319 := rf_I eS376 ea319
                            have ea326 := rf_I eS376 ea326
                            have l_a315 := ln_I eS376 l_a315
                            have l_a319 := ln_I eS376 l_a319
                            have l_a326 := ln_I eS376 l_a326
                            have l_a66 := ln_I eS376 l_a66
                            have l_a69 := ln_I eS376 l_a69
                            have g0 := gr_I eS376 g0
                            have o_a3 := ob_I eS376 o_a3
                            have o_a315 := ob_I eS376 o_a315
                            have o_a319 := ob_I eS376 o_a319
                            have o_a326 := ob_I eS376 o_a326
                            have o_a66 := ob_I eS376 o_a66
                            have o_a69 := ob_I eS376 o_a69
                            have o_v0 := ob_I eS376 o_v0
                            intro _
                            exact hq _ _ hI g0 f0
                          · refine ⟨o_a3, ?_⟩
                            obtain ⟨a379, ea379, o_a379, l_a379⟩ := shl 36 rfl hI o_a3
                            refine ⟨a379, ea379, ?_⟩
                            refine ⟨o_a379, ?_⟩
                            refine ⟨(vin l_a379 (m := 12) (by decide) (qm359 r_x12 r_kv13 wh_x12 c14 c26 r_x35 c36 c46 c54 r_x64 q_x64 wh_x64 g_x67 g_x70 c71 c80 c93 g_x316 r_kv317 gl_x316 dr_x320 c321 dr_x323 lr_x323 ex324 g_x327 ex329 dv_x329 dw_x329 c331 i1u336 c353 c356)), ?_⟩
                            intro x380 ex380
                            have gy_x380 : 0 ≤ v1 ∧ v1 < fI S337 a3 3 := by rw [← d_x35]; exact (qm360 r_x12 r_kv13 wh_x12 c14 c26 r_x35 c36 c46 c54 r_x64 q_x64 wh_x64 g_x67 g_x70 c71 c80 c93 g_x316 r_kv317 gl_x316 dr_x320 c321 dr_x323 lr_x323 ex324 g_x327 ex329 dv_x329 dw_x329 c331 i1u336 c353 c356)
                            have g_x380 : (0 : Int32) ≤ x380 ∧ x380 ≤ (7 : Int32) := by rw [ex380]; exact wg_at (ml_wg hI o_v0 ea3) 1 rfl gy_x380 ea379
                            have gl_x380 : x380 < kv317 := by rw [ex380, d_kv317]; exact wg_lt (ml_wg hI o_v0 ea3) 1 rfl (by decide) gy_x380 ea379
                            intro _
                            refine ⟨o_a319, ?_⟩
                            intro x382 ex382
                            have i383 : vp_in (0 : Int32) (hN _ a319) := (vin l_a319 (m := 7) (by decide) (qm361 r_x12 r_kv13 wh_x12 c14 c26 r_x35 c36 c46 c54 r_x64 q_x64 wh_x64 g_x67 g_x70 c71 c80 c93 g_x316 r_kv317 gl_x316 dr_x320 c321 dr_x323 lr_x323 ex324 g_x327 ex329 dv_x329 dw_x329 c331 i1u336 c353 c356 g_x380 gl_x380 ex382))
                            refine ⟨i383, ?_⟩
                            intro S384 eS384
                            have hIn : IV S384 := by rw [eS384]; exact iv11_aD hI (de_0 (by rw [ex382]; exact i2l_rng (lo := 0) (hi := 7) (qm362 r_x12 r_kv13 wh_x12 c14 c26 r_x35 c36 c46 c54 r_x64 q_x64 wh_x64 g_x67 g_x70 c71 c80 c93 g_x316 r_kv317 gl_x316 dr_x320 c321 dr_x323 lr_x323 ex324 g_x327 ex329 dv_x329 dw_x329 c331 i1u336 c353 c356 g_x380 gl_x380 ex382)))
                            have el328 := el_J eS384 el328
                            have hI := hIn
                            have f0 := fr_J eS384 f0
                            have d_kv2 := rd_J eS384 d_kv2
                            have d_x64 := rd_J eS384 d_x64
                            have d_kv13 := rd_J eS384 d_kv13
                            have d_x35 := rd_J eS384 d_x35
                            have d_kv317 := rd_J eS384 d_kv317
                            have ea3 := rf_J eS384 ea3
                            have ea66 := rf_J eS384 ea66
                            have ea69 := rf_J eS384 ea69
                            have ea315 := rf_J eS384 ea315
                            have ea319 := rf_J eS384 ea319
                            have ea326 := rf_J eS384 ea326
                            have ea379 := rf_J eS384 ea379
                            have l_a315 := ln_J eS384 l_a315
                            have l_a319 := ln_J eS384 l_a319
                            have l_a326 := ln_J eS384 l_a326
                            have l_a379 := ln_J eS384 l_a379
                            have l_a66 := ln_J eS384 l_a66
                            have l_a69 := ln_J eS384 l_a69
                            have g0 := gr_J eS384 g0
                            have o_a3 := ob_J eS384 o_a3
                            have o_a315 := ob_J eS384 o_a315
                            have o_a319 := ob_J eS384 o_a319
                            have o_a326 := ob_J eS384 o_a326
                            have o_a379 := ob_J eS384 o_a379
                            have o_a66 := ob_J eS384 o_a66
                            have o_a69 := ob_J eS384 o_a69
                            have o_v0 := ob_J eS384 o_v0
                            refine ⟨a319, ea319, ?_⟩
                            refine ⟨a3, ea3, ?_⟩
                            refine ⟨o_a3, ?_⟩
                            refine u_X10_minutes ?_
                            refine u_X10_minutes_0 ?_
                            refine ⟨o_a3, ?_⟩
                            refine ⟨a326, ea326, ?_⟩
                            refine ⟨o_a326, ?_⟩
                            refine ⟨(vin l_a326 (m := 12) (by decide) (qm363 r_x12 r_kv13 wh_x12 c14 c26 r_x35 c36 c46 c54 r_x64 q_x64 wh_x64 g_x67 g_x70 c71 c80 c93 g_x316 r_kv317 gl_x316 dr_x320 c321 dr_x323 lr_x323 ex324 g_x327 ex329 dv_x329 dw_x329 c331 i1u336 c353 c356 g_x380 gl_x380 ex382)), ?_⟩
                            intro x388 ex388
                            have qe_x388 : x388 = x327 := ex388.trans el328
                            have gy_x388 : 0 ≤ v1 ∧ v1 < fI S384 a3 3 := by rw [← d_x35]; exact (qm364 r_x12 r_kv13 wh_x12 c14 c26 r_x35 c36 c46 c54 r_x64 q_x64 wh_x64 g_x67 g_x70 c71 c80 c93 g_x316 r_kv317 gl_x316 dr_x320 c321 dr_x323 lr_x323 ex324 g_x327 ex329 dv_x329 dw_x329 c331 i1u336 c353 c356 g_x380 gl_x380 ex382 qe_x388)
                            have g_x388 : (1 : Int32) ≤ x388 ∧ x388 ≤ (60 : Int32) := by rw [ex388]; exact wg_at (ml_wg hI o_v0 ea3) 2 rfl gy_x388 ea326
                            refine ⟨(qm365 r_x12 r_kv13 wh_x12 c14 c26 r_x35 c36 c46 c54 r_x64 q_x64 wh_x64 g_x67 g_x70 c71 c80 c93 g_x316 r_kv317 gl_x316 dr_x320 c321 dr_x323 lr_x323 ex324 g_x327 ex329 dv_x329 dw_x329 c331 i1u336 c353 c356 g_x380 gl_x380 ex382 qe_x388 g_x388), ?_⟩
                            intro x389 ex389
                            have dv_x389 : 0 ≤ x389 ∧ x389 ≤ ((x388 + v3) - (1 : Int32)) := by rw [ex389]; exact dv0 (qm366 r_x12 r_kv13 wh_x12 c14 c26 r_x35 c36 c46 c54 r_x64 q_x64 wh_x64 g_x67 g_x70 c71 c80 c93 g_x316 r_kv317 gl_x316 dr_x320 c321 dr_x323 lr_x323 ex324 g_x327 ex329 dv_x329 dw_x329 c331 i1u336 c353 c356 g_x380 gl_x380 ex382 qe_x388 g_x388 ex389) (i32pos (qm367 r_x12 r_kv13 wh_x12 c14 c26 r_x35 c36 c46 c54 r_x64 q_x64 wh_x64 g_x67 g_x70 c71 c80 c93 g_x316 r_kv317 gl_x316 dr_x320 c321 dr_x323 lr_x323 ex324 g_x327 ex329 dv_x329 dw_x329 c331 i1u336 c353 c356 g_x380 gl_x380 ex382 qe_x388 g_x388 ex389))
                            have dw_x389 : (1 : Int32) ≤ x389 := by rw [ex389]; exact dv1 (qm368 r_x12 r_kv13 wh_x12 c14 c26 r_x35 c36 c46 c54 r_x64 q_x64 wh_x64 g_x67 g_x70 c71 c80 c93 g_x316 r_kv317 gl_x316 dr_x320 c321 dr_x323 lr_x323 ex324 g_x327 ex329 dv_x329 dw_x329 c331 i1u336 c353 c356 g_x380 gl_x380 ex382 qe_x388 g_x388 ex389) (qm369 r_x12 r_kv13 wh_x12 c14 c26 r_x35 c36 c46 c54 r_x64 q_x64 wh_x64 g_x67 g_x70 c71 c80 c93 g_x316 r_kv317 gl_x316 dr_x320 c321 dr_x323 lr_x323 ex324 g_x327 ex329 dv_x329 dw_x329 c331 i1u336 c353 c356 g_x380 gl_x380 ex382 qe_x388 g_x388 ex389)
                            intro _
                            refine ⟨o_a319, ?_⟩
                            intro x391 ex391
                            have i392 : vp_in (1 : Int32) (hN _ a319) := (vin l_a319 (m := 7) (by decide) (qm370 r_x12 r_kv13 wh_x12 c14 c26 r_x35 c36 c46 c54 r_x64 q_x64 wh_x64 g_x67 g_x70 c71 c80 c93 g_x316 r_kv317 gl_x316 dr_x320 c321 dr_x323 lr_x323 ex324 g_x327 ex329 dv_x329 dw_x329 c331 i1u336 c353 c356 g_x380 gl_x380 ex382 qe_x388 g_x388 ex389 dv_x389 dw_x389 ex391))
                            refine ⟨i392, ?_⟩
                            intro S393 eS393
                            have hIn : IV S393 := by rw [eS393]; exact iv11_aD hI (de_1 (by rw [ex391]; exact i2l_rng (lo := 0) (hi := 999) (qm371 r_x12 r_kv13 wh_x12 c14 c26 r_x35 c36 c46 c54 r_x64 q_x64 wh_x64 g_x67 g_x70 c71 c80 c93 g_x316 r_kv317 gl_x316 dr_x320 c321 dr_x323 lr_x323 ex324 g_x327 ex329 dv_x329 dw_x329 c331 i1u336 c353 c356 g_x380 gl_x380 ex382 qe_x388 g_x388 ex389 dv_x389 dw_x389 ex391)))
                            have el328 := el_J eS393 el328
                            have hI := hIn
                            have f0 := fr_J eS393 f0
                            have d_kv2 := rd_J eS393 d_kv2
                            have d_x64 := rd_J eS393 d_x64
                            have d_kv13 := rd_J eS393 d_kv13
                            have d_x35 := rd_J eS393 d_x35
                            have d_kv317 := rd_J eS393 d_kv317
                            have ea3 := rf_J eS393 ea3
                            have ea66 := rf_J eS393 ea66
                            have ea69 := rf_J eS393 ea69
                            have ea315 := rf_J eS393 ea315
                            have ea319 := rf_J eS393 ea319
                            have ea326 := rf_J eS393 ea326
                            have ea379 := rf_J eS393 ea379
                            have l_a315 := ln_J eS393 l_a315
                            have l_a319 := ln_J eS393 l_a319
                            have l_a326 := ln_J eS393 l_a326
                            have l_a379 := ln_J eS393 l_a379
                            have l_a66 := ln_J eS393 l_a66
                            have l_a69 := ln_J eS393 l_a69
                            have g0 := gr_J eS393 g0
                            have o_a3 := ob_J eS393 o_a3
                            have o_a315 := ob_J eS393 o_a315
                            have o_a319 := ob_J eS393 o_a319
                            have o_a326 := ob_J eS393 o_a326
                            have o_a379 := ob_J eS393 o_a379
                            have o_a66 := ob_J eS393 o_a66
                            have o_a69 := ob_J eS393 o_a69
                            have o_v0 := ob_J eS393 o_v0
                            refine ⟨a319, ea319, ?_⟩
                            refine ⟨o_a319, ?_⟩
                            refine ⟨(vin l_a319 (m := 7) (by decide) (qm370 r_x12 r_kv13 wh_x12 c14 c26 r_x35 c36 c46 c54 r_x64 q_x64 wh_x64 g_x67 g_x70 c71 c80 c93 g_x316 r_kv317 gl_x316 dr_x320 c321 dr_x323 lr_x323 ex324 g_x327 ex329 dv_x329 dw_x329 c331 i1u336 c353 c356 g_x380 gl_x380 ex382 qe_x388 g_x388 ex389 dv_x389 dw_x389 ex391)), ?_⟩
                            intro x395 ex395
                            have de_x395 := ml_de hI o_v0 (j := 21) (by decide) ea319 (1 : Int32).toNatClampNeg
                            rw [← ex395] at de_x395
                            have dr_x395 : (0 : Int64) ≤ x395 ∧ x395 ≤ (999 : Int64) := de_x395.2 (by decide)
                            have lr_x395 : 0 ≤ x395.toInt32 ∧ x395.toInt32 ≤ (999 : Int32) := l2i_rng (by decide) dr_x395
                            refine u_X11_good ?_
                            refine u_X11_good_0 ?_
                            refine ⟨o_v0, ?_⟩
                            intro S396 eS396
                            have hIn : IV S396 := by rw [eS396]; exact iv11_sI hI o_v0 (by decide) (nu_free (by decide))
                            have el328 := el_ob eS396 o_v0 o_a326 (by decide) el328
                            have hI := hIn
                            have f0 := fr_I eS396 g0 f0 o_v0 (by decide)
                            have d_kv2 := rd_Ij eS396 (by decide) d_kv2
                            have d_x64 := rd_Ij eS396 (by decide) d_x64
                            have d_kv13 := rd_Ik eS396 o_v0 o_a3 (by decide) d_kv13
                            have d_x35 := rd_Ik eS396 o_v0 o_a3 (by decide) d_x35
                            have d_kv317 := rd_Ik eS396 o_v0 o_a3 (by decide) d_kv317
                            obtain ⟨kv397, hkv397⟩ : ∃ z : Int32, z = (0 : Int32) := ⟨_, rfl⟩
                            have d_kv397 := rd_Is eS396 hkv397
                            have ea3 := rf_I eS396 ea3
                            have ea66 := rf_I eS396 ea66
                            have ea69 := rf_I eS396 ea69
                            have ea315 := rf_I eS396 ea315
                            have ea319 := rf_I eS396 ea319
                            have ea326 := rf_I eS396 ea326
                            have ea379 := rf_I eS396 ea379
                            have l_a315 := ln_I eS396 l_a315
                            have l_a319 := ln_I eS396 l_a319
                            have l_a326 := ln_I eS396 l_a326
                            have l_a379 := ln_I eS396 l_a379
                            have l_a66 := ln_I eS396 l_a66
                            have l_a69 := ln_I eS396 l_a69
                            have g0 := gr_I eS396 g0
                            have o_a3 := ob_I eS396 o_a3
                            have o_a315 := ob_I eS396 o_a315
                            have o_a319 := ob_I eS396 o_a319
                            have o_a326 := ob_I eS396 o_a326
                            have o_a379 := ob_I eS396 o_a379
                            have o_a66 := ob_I eS396 o_a66
                            have o_a69 := ob_I eS396 o_a69
                            have o_v0 := ob_I eS396 o_v0
                            intro S398 eS398
                            have hIn : IV S398 := by rw [eS398]; exact iv11_sI hI o_v0 (by decide) (nu_free (by decide))
                            have el328 := el_ob eS398 o_v0 o_a326 (by decide) el328
                            have hI := hIn
                            have f0 := fr_I eS398 g0 f0 o_v0 (by decide)
                            have d_kv2 := rd_Ij eS398 (by decide) d_kv2
                            have d_x64 := rd_Ij eS398 (by decide) d_x64
                            have d_kv13 := rd_Ik eS398 o_v0 o_a3 (by decide) d_kv13
                            have d_x35 := rd_Ik eS398 o_v0 o_a3 (by decide) d_x35
                            have d_kv317 := rd_Ik eS398 o_v0 o_a3 (by decide) d_kv317
                            have d_kv397 := rd_Ij eS398 (by decide) d_kv397
                            obtain ⟨kv399, hkv399⟩ : ∃ z : Int32, z = (-1 : Int32) := ⟨_, rfl⟩
                            have d_kv399 := rd_Is eS398 hkv399
                            have ea3 := rf_I eS398 ea3
                            have ea66 := rf_I eS398 ea66
                            have ea69 := rf_I eS398 ea69
                            have ea315 := rf_I eS398 ea315
                            have ea319 := rf_I eS398 ea319
                            have ea326 := rf_I eS398 ea326
                            have ea379 := rf_I eS398 ea379
                            have l_a315 := ln_I eS398 l_a315
                            have l_a319 := ln_I eS398 l_a319
                            have l_a326 := ln_I eS398 l_a326
                            have l_a379 := ln_I eS398 l_a379
                            have l_a66 := ln_I eS398 l_a66
                            have l_a69 := ln_I eS398 l_a69
                            have g0 := gr_I eS398 g0
                            have o_a3 := ob_I eS398 o_a3
                            have o_a315 := ob_I eS398 o_a315
                            have o_a319 := ob_I eS398 o_a319
                            have o_a326 := ob_I eS398 o_a326
                            have o_a379 := ob_I eS398 o_a379
                            have o_a66 := ob_I eS398 o_a66
                            have o_a69 := ob_I eS398 o_a69
                            have o_v0 := ob_I eS398 o_v0
                            intro _
                            exact hq _ _ hI g0 f0
                        · refine ⟨o_v0, ?_⟩
                          refine u_X11_rainsIn ?_
                          refine u_X11_rainsIn_0 ?_
                          refine ⟨o_v0, ?_⟩
                          refine u_X11_hourOf ?_
                          refine u_X11_hourOf_0 ?_
                          refine ⟨o_v0, ?_⟩
                          refine ⟨a3, ea3, ?_⟩
                          refine ⟨o_a3, ?_⟩
                          intro x402 ex402
                          have r_x402 : (0 : Int32) ≤ x402 ∧ x402 ≤ (60 : Int32) := by rw [ex402]; exact nu 16 rfl hI o_a3
                          have d_x402 := ex402
                          have hh_x402 : 1 ≤ x402 := by rw [ex402]; exact ml_hour hI o_v0 ea3
                          refine ⟨(qm372 r_x12 r_kv13 wh_x12 c14 c26 r_x35 c36 c46 c54 r_x64 q_x64 wh_x64 g_x67 g_x70 c71 c80 c93 g_x316 r_kv317 gl_x316 dr_x320 c321 dr_x323 lr_x323 ex324 g_x327 ex329 dv_x329 dw_x329 c331 i1u336 c353 r_x402 hh_x402), ?_⟩
                          intro x403 ex403
                          have dv_x403 : 0 ≤ x403 ∧ x403 ≤ x324 := by rw [ex403]; exact dv0 (qm373 r_x12 r_kv13 wh_x12 c14 c26 r_x35 c36 c46 c54 r_x64 q_x64 wh_x64 g_x67 g_x70 c71 c80 c93 g_x316 r_kv317 gl_x316 dr_x320 c321 dr_x323 lr_x323 ex324 g_x327 ex329 dv_x329 dw_x329 c331 i1u336 c353 r_x402 hh_x402 ex403) (i32pos (qm374 r_x12 r_kv13 wh_x12 c14 c26 r_x35 c36 c46 c54 r_x64 q_x64 wh_x64 g_x67 g_x70 c71 c80 c93 g_x316 r_kv317 gl_x316 dr_x320 c321 dr_x323 lr_x323 ex324 g_x327 ex329 dv_x329 dw_x329 c331 i1u336 c353 r_x402 hh_x402 ex403))
                          intro _
                          refine ⟨a3, ea3, ?_⟩
                          refine ⟨o_a3, ?_⟩
                          intro x406 ex406
                          have r_x406 : (0 : Int32) ≤ x406 ∧ x406 ≤ (6 : Int32) := by rw [ex406]; exact nu 17 rfl hI o_a3
                          have d_x406 := ex406
                          refine ⟨fun c407 => ?_, fun c407 => ?_⟩
                          · intro _ _
                            refine ⟨fun c409 => ?_, fun c409 => absurd (show ¬ (0 : Int32) = 0 from c409) (by decide)⟩
                            refine u_X11_go_171 ?_
                            refine ⟨o_v0, ?_⟩
                            refine ⟨a319, ea319, ?_⟩
                            refine ⟨a3, ea3, ?_⟩
                            refine ⟨o_a3, ?_⟩
                            refine u_X10_ends ?_
                            refine u_X10_ends_0 ?_
                            refine ⟨fun c412 => ?_, fun c412 => ?_⟩
                            · refine ⟨o_a3, ?_⟩
                              refine ⟨a315, ea315, ?_⟩
                              refine ⟨o_a315, ?_⟩
                              refine ⟨(vin l_a315 (m := 12) (by decide) (qm375 r_x12 r_kv13 wh_x12 c14 c26 r_x35 c36 c46 c54 r_x64 q_x64 wh_x64 g_x67 g_x70 c71 c80 c93 g_x316 r_kv317 gl_x316 dr_x320 c321 dr_x323 lr_x323 ex324 g_x327 ex329 dv_x329 dw_x329 c331 i1u336 c353 r_x402 hh_x402 ex403 dv_x403 r_x406 c407 c412)), ?_⟩
                              intro x414 ex414
                              have gy_x414 : 0 ≤ v1 ∧ v1 < fI S337 a3 3 := by rw [← d_x35]; exact (qm376 r_x12 r_kv13 wh_x12 c14 c26 r_x35 c36 c46 c54 r_x64 q_x64 wh_x64 g_x67 g_x70 c71 c80 c93 g_x316 r_kv317 gl_x316 dr_x320 c321 dr_x323 lr_x323 ex324 g_x327 ex329 dv_x329 dw_x329 c331 i1u336 c353 r_x402 hh_x402 ex403 dv_x403 r_x406 c407 c412)
                              have g_x414 : (0 : Int32) ≤ x414 ∧ x414 ≤ (7 : Int32) := by rw [ex414]; exact wg_at (ml_wg hI o_v0 ea3) 0 rfl gy_x414 ea315
                              have gl_x414 : x414 < kv317 := by rw [ex414, d_kv317]; exact wg_lt (ml_wg hI o_v0 ea3) 0 rfl (by decide) gy_x414 ea315
                              intro _
                              refine ⟨o_a319, ?_⟩
                              intro x416 ex416
                              have i417 : vp_in (0 : Int32) (hN _ a319) := (vin l_a319 (m := 7) (by decide) (qm377 r_x12 r_kv13 wh_x12 c14 c26 r_x35 c36 c46 c54 r_x64 q_x64 wh_x64 g_x67 g_x70 c71 c80 c93 g_x316 r_kv317 gl_x316 dr_x320 c321 dr_x323 lr_x323 ex324 g_x327 ex329 dv_x329 dw_x329 c331 i1u336 c353 r_x402 hh_x402 ex403 dv_x403 r_x406 c407 c412 g_x414 gl_x414 ex416))
                              refine ⟨i417, ?_⟩
                              intro S418 eS418
                              have hIn : IV S418 := by rw [eS418]; exact iv11_aD hI (de_0 (by rw [ex416]; exact i2l_rng (lo := 0) (hi := 7) (qm378 r_x12 r_kv13 wh_x12 c14 c26 r_x35 c36 c46 c54 r_x64 q_x64 wh_x64 g_x67 g_x70 c71 c80 c93 g_x316 r_kv317 gl_x316 dr_x320 c321 dr_x323 lr_x323 ex324 g_x327 ex329 dv_x329 dw_x329 c331 i1u336 c353 r_x402 hh_x402 ex403 dv_x403 r_x406 c407 c412 g_x414 gl_x414 ex416)))
                              have el328 := el_J eS418 el328
                              have hI := hIn
                              have f0 := fr_J eS418 f0
                              have d_kv2 := rd_J eS418 d_kv2
                              have d_x64 := rd_J eS418 d_x64
                              have d_kv13 := rd_J eS418 d_kv13
                              have d_x35 := rd_J eS418 d_x35
                              have d_kv317 := rd_J eS418 d_kv317
                              have d_x402 := rd_J eS418 d_x402
                              have d_x406 := rd_J eS418 d_x406
                              have ea3 := rf_J eS418 ea3
                              have ea66 := rf_J eS418 ea66
                              have ea69 := rf_J eS418 ea69
                              have ea315 := rf_J eS418 ea315
                              have ea319 := rf_J eS418 ea319
                              have ea326 := rf_J eS418 ea326
                              have l_a315 := ln_J eS418 l_a315
                              have l_a319 := ln_J eS418 l_a319
                              have l_a326 := ln_J eS418 l_a326
                              have l_a66 := ln_J eS418 l_a66
                              have l_a69 := ln_J eS418 l_a69
                              have g0 := gr_J eS418 g0
                              have o_a3 := ob_J eS418 o_a3
                              have o_a315 := ob_J eS418 o_a315
                              have o_a319 := ob_J eS418 o_a319
                              have o_a326 := ob_J eS418 o_a326
                              have o_a66 := ob_J eS418 o_a66
                              have o_a69 := ob_J eS418 o_a69
                              have o_v0 := ob_J eS418 o_v0
                              refine ⟨a319, ea319, ?_⟩
                              refine ⟨a3, ea3, ?_⟩
                              refine ⟨o_a3, ?_⟩
                              refine u_X10_minutes ?_
                              refine u_X10_minutes_0 ?_
                              refine ⟨o_a3, ?_⟩
                              refine ⟨a326, ea326, ?_⟩
                              refine ⟨o_a326, ?_⟩
                              refine ⟨(vin l_a326 (m := 12) (by decide) (qm379 r_x12 r_kv13 wh_x12 c14 c26 r_x35 c36 c46 c54 r_x64 q_x64 wh_x64 g_x67 g_x70 c71 c80 c93 g_x316 r_kv317 gl_x316 dr_x320 c321 dr_x323 lr_x323 ex324 g_x327 ex329 dv_x329 dw_x329 c331 i1u336 c353 r_x402 hh_x402 ex403 dv_x403 r_x406 c407 c412 g_x414 gl_x414 ex416)), ?_⟩
                              intro x422 ex422
                              have qe_x422 : x422 = x327 := ex422.trans el328
                              have gy_x422 : 0 ≤ v1 ∧ v1 < fI S418 a3 3 := by rw [← d_x35]; exact (qm380 r_x12 r_kv13 wh_x12 c14 c26 r_x35 c36 c46 c54 r_x64 q_x64 wh_x64 g_x67 g_x70 c71 c80 c93 g_x316 r_kv317 gl_x316 dr_x320 c321 dr_x323 lr_x323 ex324 g_x327 ex329 dv_x329 dw_x329 c331 i1u336 c353 r_x402 hh_x402 ex403 dv_x403 r_x406 c407 c412 g_x414 gl_x414 ex416 qe_x422)
                              have g_x422 : (1 : Int32) ≤ x422 ∧ x422 ≤ (60 : Int32) := by rw [ex422]; exact wg_at (ml_wg hI o_v0 ea3) 2 rfl gy_x422 ea326
                              refine ⟨(qm381 r_x12 r_kv13 wh_x12 c14 c26 r_x35 c36 c46 c54 r_x64 q_x64 wh_x64 g_x67 g_x70 c71 c80 c93 g_x316 r_kv317 gl_x316 dr_x320 c321 dr_x323 lr_x323 ex324 g_x327 ex329 dv_x329 dw_x329 c331 i1u336 c353 r_x402 hh_x402 ex403 dv_x403 r_x406 c407 c412 g_x414 gl_x414 ex416 qe_x422 g_x422), ?_⟩
                              intro x423 ex423
                              have dv_x423 : 0 ≤ x423 ∧ x423 ≤ ((x422 + v3) - (1 : Int32)) := by rw [ex423]; exact dv0 (qm382 r_x12 r_kv13 wh_x12 c14 c26 r_x35 c36 c46 c54 r_x64 q_x64 wh_x64 g_x67 g_x70 c71 c80 c93 g_x316 r_kv317 gl_x316 dr_x320 c321 dr_x323 lr_x323 ex324 g_x327 ex329 dv_x329 dw_x329 c331 i1u336 c353 r_x402 hh_x402 ex403 dv_x403 r_x406 c407 c412 g_x414 gl_x414 ex416 qe_x422 g_x422 ex423) (i32pos (qm383 r_x12 r_kv13 wh_x12 c14 c26 r_x35 c36 c46 c54 r_x64 q_x64 wh_x64 g_x67 g_x70 c71 c80 c93 g_x316 r_kv317 gl_x316 dr_x320 c321 dr_x323 lr_x323 ex324 g_x327 ex329 dv_x329 dw_x329 c331 i1u336 c353 r_x402 hh_x402 ex403 dv_x403 r_x406 c407 c412 g_x414 gl_x414 ex416 qe_x422 g_x422 ex423))
                              have dw_x423 : (1 : Int32) ≤ x423 := by rw [ex423]; exact dv1 (qm384 r_x12 r_kv13 wh_x12 c14 c26 r_x35 c36 c46 c54 r_x64 q_x64 wh_x64 g_x67 g_x70 c71 c80 c93 g_x316 r_kv317 gl_x316 dr_x320 c321 dr_x323 lr_x323 ex324 g_x327 ex329 dv_x329 dw_x329 c331 i1u336 c353 r_x402 hh_x402 ex403 dv_x403 r_x406 c407 c412 g_x414 gl_x414 ex416 qe_x422 g_x422 ex423) (qm385 r_x12 r_kv13 wh_x12 c14 c26 r_x35 c36 c46 c54 r_x64 q_x64 wh_x64 g_x67 g_x70 c71 c80 c93 g_x316 r_kv317 gl_x316 dr_x320 c321 dr_x323 lr_x323 ex324 g_x327 ex329 dv_x329 dw_x329 c331 i1u336 c353 r_x402 hh_x402 ex403 dv_x403 r_x406 c407 c412 g_x414 gl_x414 ex416 qe_x422 g_x422 ex423)
                              intro _
                              refine ⟨o_a319, ?_⟩
                              intro x425 ex425
                              have i426 : vp_in (1 : Int32) (hN _ a319) := (vin l_a319 (m := 7) (by decide) (qm386 r_x12 r_kv13 wh_x12 c14 c26 r_x35 c36 c46 c54 r_x64 q_x64 wh_x64 g_x67 g_x70 c71 c80 c93 g_x316 r_kv317 gl_x316 dr_x320 c321 dr_x323 lr_x323 ex324 g_x327 ex329 dv_x329 dw_x329 c331 i1u336 c353 r_x402 hh_x402 ex403 dv_x403 r_x406 c407 c412 g_x414 gl_x414 ex416 qe_x422 g_x422 ex423 dv_x423 dw_x423 ex425))
                              refine ⟨i426, ?_⟩
                              intro S427 eS427
                              have hIn : IV S427 := by rw [eS427]; exact iv11_aD hI (de_1 (by rw [ex425]; exact i2l_rng (lo := 0) (hi := 999) (qm387 r_x12 r_kv13 wh_x12 c14 c26 r_x35 c36 c46 c54 r_x64 q_x64 wh_x64 g_x67 g_x70 c71 c80 c93 g_x316 r_kv317 gl_x316 dr_x320 c321 dr_x323 lr_x323 ex324 g_x327 ex329 dv_x329 dw_x329 c331 i1u336 c353 r_x402 hh_x402 ex403 dv_x403 r_x406 c407 c412 g_x414 gl_x414 ex416 qe_x422 g_x422 ex423 dv_x423 dw_x423 ex425)))
                              have el328 := el_J eS427 el328
                              have hI := hIn
                              have f0 := fr_J eS427 f0
                              have d_kv2 := rd_J eS427 d_kv2
                              have d_x64 := rd_J eS427 d_x64
                              have d_kv13 := rd_J eS427 d_kv13
                              have d_x35 := rd_J eS427 d_x35
                              have d_kv317 := rd_J eS427 d_kv317
                              have d_x402 := rd_J eS427 d_x402
                              have d_x406 := rd_J eS427 d_x406
                              have ea3 := rf_J eS427 ea3
                              have ea66 := rf_J eS427 ea66
                              have ea69 := rf_J eS427 ea69
                              have ea315 := rf_J eS427 ea315
                              have ea319 := rf_J eS427 ea319
                              have ea326 := rf_J eS427 ea326
                              have l_a315 := ln_J eS427 l_a315
                              have l_a319 := ln_J eS427 l_a319
                              have l_a326 := ln_J eS427 l_a326
                              have l_a66 := ln_J eS427 l_a66
                              have l_a69 := ln_J eS427 l_a69
                              have g0 := gr_J eS427 g0
                              have o_a3 := ob_J eS427 o_a3
                              have o_a315 := ob_J eS427 o_a315
                              have o_a319 := ob_J eS427 o_a319
                              have o_a326 := ob_J eS427 o_a326
                              have o_a66 := ob_J eS427 o_a66
                              have o_a69 := ob_J eS427 o_a69
                              have o_v0 := ob_J eS427 o_v0
                              refine ⟨a319, ea319, ?_⟩
                              refine ⟨o_a319, ?_⟩
                              refine ⟨(vin l_a319 (m := 7) (by decide) (qm386 r_x12 r_kv13 wh_x12 c14 c26 r_x35 c36 c46 c54 r_x64 q_x64 wh_x64 g_x67 g_x70 c71 c80 c93 g_x316 r_kv317 gl_x316 dr_x320 c321 dr_x323 lr_x323 ex324 g_x327 ex329 dv_x329 dw_x329 c331 i1u336 c353 r_x402 hh_x402 ex403 dv_x403 r_x406 c407 c412 g_x414 gl_x414 ex416 qe_x422 g_x422 ex423 dv_x423 dw_x423 ex425)), ?_⟩
                              intro x429 ex429
                              have de_x429 := ml_de hI o_v0 (j := 21) (by decide) ea319 (1 : Int32).toNatClampNeg
                              rw [← ex429] at de_x429
                              have dr_x429 : (0 : Int64) ≤ x429 ∧ x429 ≤ (999 : Int64) := de_x429.2 (by decide)
                              have lr_x429 : 0 ≤ x429.toInt32 ∧ x429.toInt32 ≤ (999 : Int32) := l2i_rng (by decide) dr_x429
                              refine u_X11_good ?_
                              refine u_X11_good_0 ?_
                              refine ⟨o_v0, ?_⟩
                              intro S430 eS430
                              have hIn : IV S430 := by rw [eS430]; exact iv11_sI hI o_v0 (by decide) (nu_free (by decide))
                              have el328 := el_ob eS430 o_v0 o_a326 (by decide) el328
                              have hI := hIn
                              have f0 := fr_I eS430 g0 f0 o_v0 (by decide)
                              have d_kv2 := rd_Ij eS430 (by decide) d_kv2
                              have d_x64 := rd_Ij eS430 (by decide) d_x64
                              have d_kv13 := rd_Ik eS430 o_v0 o_a3 (by decide) d_kv13
                              have d_x35 := rd_Ik eS430 o_v0 o_a3 (by decide) d_x35
                              have d_kv317 := rd_Ik eS430 o_v0 o_a3 (by decide) d_kv317
                              have d_x402 := rd_Ik eS430 o_v0 o_a3 (by decide) d_x402
                              have d_x406 := rd_Ik eS430 o_v0 o_a3 (by decide) d_x406
                              obtain ⟨kv431, hkv431⟩ : ∃ z : Int32, z = (0 : Int32) := ⟨_, rfl⟩
                              have d_kv431 := rd_Is eS430 hkv431
                              have ea3 := rf_I eS430 ea3
                              have ea66 := rf_I eS430 ea66
                              have ea69 := rf_I eS430 ea69
                              have ea315 := rf_I eS430 ea315
                              have ea319 := rf_I eS430 ea319
                              have ea326 := rf_I eS430 ea326
                              have l_a315 := ln_I eS430 l_a315
                              have l_a319 := ln_I eS430 l_a319
                              have l_a326 := ln_I eS430 l_a326
                              have l_a66 := ln_I eS430 l_a66
                              have l_a69 := ln_I eS430 l_a69
                              have g0 := gr_I eS430 g0
                              have o_a3 := ob_I eS430 o_a3
                              have o_a315 := ob_I eS430 o_a315
                              have o_a319 := ob_I eS430 o_a319
                              have o_a326 := ob_I eS430 o_a326
                              have o_a66 := ob_I eS430 o_a66
                              have o_a69 := ob_I eS430 o_a69
                              have o_v0 := ob_I eS430 o_v0
                              intro S432 eS432
                              have hIn : IV S432 := by rw [eS432]; exact iv11_sI hI o_v0 (by decide) (nu_free (by decide))
                              have el328 := el_ob eS432 o_v0 o_a326 (by decide) el328
                              have hI := hIn
                              have f0 := fr_I eS432 g0 f0 o_v0 (by decide)
                              have d_kv2 := rd_Ij eS432 (by decide) d_kv2
                              have d_x64 := rd_Ij eS432 (by decide) d_x64
                              have d_kv13 := rd_Ik eS432 o_v0 o_a3 (by decide) d_kv13
                              have d_x35 := rd_Ik eS432 o_v0 o_a3 (by decide) d_x35
                              have d_kv317 := rd_Ik eS432 o_v0 o_a3 (by decide) d_kv317
                              have d_x402 := rd_Ik eS432 o_v0 o_a3 (by decide) d_x402
                              have d_x406 := rd_Ik eS432 o_v0 o_a3 (by decide) d_x406
                              have d_kv431 := rd_Ij eS432 (by decide) d_kv431
                              obtain ⟨kv433, hkv433⟩ : ∃ z : Int32, z = (-1 : Int32) := ⟨_, rfl⟩
                              have d_kv433 := rd_Is eS432 hkv433
                              have ea3 := rf_I eS432 ea3
                              have ea66 := rf_I eS432 ea66
                              have ea69 := rf_I eS432 ea69
                              have ea315 := rf_I eS432 ea315
                              have ea319 := rf_I eS432 ea319
                              have ea326 := rf_I eS432 ea326
                              have l_a315 := ln_I eS432 l_a315
                              have l_a319 := ln_I eS432 l_a319
                              have l_a326 := ln_I eS432 l_a326
                              have l_a66 := ln_I eS432 l_a66
                              have l_a69 := ln_I eS432 l_a69
                              have g0 := gr_I eS432 g0
                              have o_a3 := ob_I eS432 o_a3
                              have o_a315 := ob_I eS432 o_a315
                              have o_a319 := ob_I eS432 o_a319
                              have o_a326 := ob_I eS432 o_a326
                              have o_a66 := ob_I eS432 o_a66
                              have o_a69 := ob_I eS432 o_a69
                              have o_v0 := ob_I eS432 o_v0
                              intro _
                              exact hq _ _ hI g0 f0
                            · refine ⟨o_a3, ?_⟩
                              obtain ⟨a435, ea435, o_a435, l_a435⟩ := shl 36 rfl hI o_a3
                              refine ⟨a435, ea435, ?_⟩
                              refine ⟨o_a435, ?_⟩
                              refine ⟨(vin l_a435 (m := 12) (by decide) (qm388 r_x12 r_kv13 wh_x12 c14 c26 r_x35 c36 c46 c54 r_x64 q_x64 wh_x64 g_x67 g_x70 c71 c80 c93 g_x316 r_kv317 gl_x316 dr_x320 c321 dr_x323 lr_x323 ex324 g_x327 ex329 dv_x329 dw_x329 c331 i1u336 c353 r_x402 hh_x402 ex403 dv_x403 r_x406 c407 c412)), ?_⟩
                              intro x436 ex436
                              have gy_x436 : 0 ≤ v1 ∧ v1 < fI S337 a3 3 := by rw [← d_x35]; exact (qm389 r_x12 r_kv13 wh_x12 c14 c26 r_x35 c36 c46 c54 r_x64 q_x64 wh_x64 g_x67 g_x70 c71 c80 c93 g_x316 r_kv317 gl_x316 dr_x320 c321 dr_x323 lr_x323 ex324 g_x327 ex329 dv_x329 dw_x329 c331 i1u336 c353 r_x402 hh_x402 ex403 dv_x403 r_x406 c407 c412)
                              have g_x436 : (0 : Int32) ≤ x436 ∧ x436 ≤ (7 : Int32) := by rw [ex436]; exact wg_at (ml_wg hI o_v0 ea3) 1 rfl gy_x436 ea435
                              have gl_x436 : x436 < kv317 := by rw [ex436, d_kv317]; exact wg_lt (ml_wg hI o_v0 ea3) 1 rfl (by decide) gy_x436 ea435
                              intro _
                              refine ⟨o_a319, ?_⟩
                              intro x438 ex438
                              have i439 : vp_in (0 : Int32) (hN _ a319) := (vin l_a319 (m := 7) (by decide) (qm390 r_x12 r_kv13 wh_x12 c14 c26 r_x35 c36 c46 c54 r_x64 q_x64 wh_x64 g_x67 g_x70 c71 c80 c93 g_x316 r_kv317 gl_x316 dr_x320 c321 dr_x323 lr_x323 ex324 g_x327 ex329 dv_x329 dw_x329 c331 i1u336 c353 r_x402 hh_x402 ex403 dv_x403 r_x406 c407 c412 g_x436 gl_x436 ex438))
                              refine ⟨i439, ?_⟩
                              intro S440 eS440
                              have hIn : IV S440 := by rw [eS440]; exact iv11_aD hI (de_0 (by rw [ex438]; exact i2l_rng (lo := 0) (hi := 7) (qm391 r_x12 r_kv13 wh_x12 c14 c26 r_x35 c36 c46 c54 r_x64 q_x64 wh_x64 g_x67 g_x70 c71 c80 c93 g_x316 r_kv317 gl_x316 dr_x320 c321 dr_x323 lr_x323 ex324 g_x327 ex329 dv_x329 dw_x329 c331 i1u336 c353 r_x402 hh_x402 ex403 dv_x403 r_x406 c407 c412 g_x436 gl_x436 ex438)))
                              have el328 := el_J eS440 el328
                              have hI := hIn
                              have f0 := fr_J eS440 f0
                              have d_kv2 := rd_J eS440 d_kv2
                              have d_x64 := rd_J eS440 d_x64
                              have d_kv13 := rd_J eS440 d_kv13
                              have d_x35 := rd_J eS440 d_x35
                              have d_kv317 := rd_J eS440 d_kv317
                              have d_x402 := rd_J eS440 d_x402
                              have d_x406 := rd_J eS440 d_x406
                              have ea3 := rf_J eS440 ea3
                              have ea66 := rf_J eS440 ea66
                              have ea69 := rf_J eS440 ea69
                              have ea315 := rf_J eS440 ea315
                              have ea319 := rf_J eS440 ea319
                              have ea326 := rf_J eS440 ea326
                              have ea435 := rf_J eS440 ea435
                              have l_a315 := ln_J eS440 l_a315
                              have l_a319 := ln_J eS440 l_a319
                              have l_a326 := ln_J eS440 l_a326
                              have l_a435 := ln_J eS440 l_a435
                              have l_a66 := ln_J eS440 l_a66
                              have l_a69 := ln_J eS440 l_a69
                              have g0 := gr_J eS440 g0
                              have o_a3 := ob_J eS440 o_a3
                              have o_a315 := ob_J eS440 o_a315
                              have o_a319 := ob_J eS440 o_a319
                              have o_a326 := ob_J eS440 o_a326
                              have o_a435 := ob_J eS440 o_a435
                              have o_a66 := ob_J eS440 o_a66
                              have o_a69 := ob_J eS440 o_a69
                              have o_v0 := ob_J eS440 o_v0
                              refine ⟨a319, ea319, ?_⟩
                              refine ⟨a3, ea3, ?_⟩
                              refine ⟨o_a3, ?_⟩
                              refine u_X10_minutes ?_
                              refine u_X10_minutes_0 ?_
                              refine ⟨o_a3, ?_⟩
                              refine ⟨a326, ea326, ?_⟩
                              refine ⟨o_a326, ?_⟩
                              refine ⟨(vin l_a326 (m := 12) (by decide) (qm392 r_x12 r_kv13 wh_x12 c14 c26 r_x35 c36 c46 c54 r_x64 q_x64 wh_x64 g_x67 g_x70 c71 c80 c93 g_x316 r_kv317 gl_x316 dr_x320 c321 dr_x323 lr_x323 ex324 g_x327 ex329 dv_x329 dw_x329 c331 i1u336 c353 r_x402 hh_x402 ex403 dv_x403 r_x406 c407 c412 g_x436 gl_x436 ex438)), ?_⟩
                              intro x444 ex444
                              have qe_x444 : x444 = x327 := ex444.trans el328
                              have gy_x444 : 0 ≤ v1 ∧ v1 < fI S440 a3 3 := by rw [← d_x35]; exact (qm393 r_x12 r_kv13 wh_x12 c14 c26 r_x35 c36 c46 c54 r_x64 q_x64 wh_x64 g_x67 g_x70 c71 c80 c93 g_x316 r_kv317 gl_x316 dr_x320 c321 dr_x323 lr_x323 ex324 g_x327 ex329 dv_x329 dw_x329 c331 i1u336 c353 r_x402 hh_x402 ex403 dv_x403 r_x406 c407 c412 g_x436 gl_x436 ex438 qe_x444)
                              have g_x444 : (1 : Int32) ≤ x444 ∧ x444 ≤ (60 : Int32) := by rw [ex444]; exact wg_at (ml_wg hI o_v0 ea3) 2 rfl gy_x444 ea326
                              refine ⟨(qm394 r_x12 r_kv13 wh_x12 c14 c26 r_x35 c36 c46 c54 r_x64 q_x64 wh_x64 g_x67 g_x70 c71 c80 c93 g_x316 r_kv317 gl_x316 dr_x320 c321 dr_x323 lr_x323 ex324 g_x327 ex329 dv_x329 dw_x329 c331 i1u336 c353 r_x402 hh_x402 ex403 dv_x403 r_x406 c407 c412 g_x436 gl_x436 ex438 qe_x444 g_x444), ?_⟩
                              intro x445 ex445
                              have dv_x445 : 0 ≤ x445 ∧ x445 ≤ ((x444 + v3) - (1 : Int32)) := by rw [ex445]; exact dv0 (qm395 r_x12 r_kv13 wh_x12 c14 c26 r_x35 c36 c46 c54 r_x64 q_x64 wh_x64 g_x67 g_x70 c71 c80 c93 g_x316 r_kv317 gl_x316 dr_x320 c321 dr_x323 lr_x323 ex324 g_x327 ex329 dv_x329 dw_x329 c331 i1u336 c353 r_x402 hh_x402 ex403 dv_x403 r_x406 c407 c412 g_x436 gl_x436 ex438 qe_x444 g_x444 ex445) (i32pos (qm396 r_x12 r_kv13 wh_x12 c14 c26 r_x35 c36 c46 c54 r_x64 q_x64 wh_x64 g_x67 g_x70 c71 c80 c93 g_x316 r_kv317 gl_x316 dr_x320 c321 dr_x323 lr_x323 ex324 g_x327 ex329 dv_x329 dw_x329 c331 i1u336 c353 r_x402 hh_x402 ex403 dv_x403 r_x406 c407 c412 g_x436 gl_x436 ex438 qe_x444 g_x444 ex445))
                              have dw_x445 : (1 : Int32) ≤ x445 := by rw [ex445]; exact dv1 (qm397 r_x12 r_kv13 wh_x12 c14 c26 r_x35 c36 c46 c54 r_x64 q_x64 wh_x64 g_x67 g_x70 c71 c80 c93 g_x316 r_kv317 gl_x316 dr_x320 c321 dr_x323 lr_x323 ex324 g_x327 ex329 dv_x329 dw_x329 c331 i1u336 c353 r_x402 hh_x402 ex403 dv_x403 r_x406 c407 c412 g_x436 gl_x436 ex438 qe_x444 g_x444 ex445) (qm398 r_x12 r_kv13 wh_x12 c14 c26 r_x35 c36 c46 c54 r_x64 q_x64 wh_x64 g_x67 g_x70 c71 c80 c93 g_x316 r_kv317 gl_x316 dr_x320 c321 dr_x323 lr_x323 ex324 g_x327 ex329 dv_x329 dw_x329 c331 i1u336 c353 r_x402 hh_x402 ex403 dv_x403 r_x406 c407 c412 g_x436 gl_x436 ex438 qe_x444 g_x444 ex445)
                              intro _
                              refine ⟨o_a319, ?_⟩
                              intro x447 ex447
                              have i448 : vp_in (1 : Int32) (hN _ a319) := (vin l_a319 (m := 7) (by decide) (qm399 r_x12 r_kv13 wh_x12 c14 c26 r_x35 c36 c46 c54 r_x64 q_x64 wh_x64 g_x67 g_x70 c71 c80 c93 g_x316 r_kv317 gl_x316 dr_x320 c321 dr_x323 lr_x323 ex324 g_x327 ex329 dv_x329 dw_x329 c331 i1u336 c353 r_x402 hh_x402 ex403 dv_x403 r_x406 c407 c412 g_x436 gl_x436 ex438 qe_x444 g_x444 ex445 dv_x445 dw_x445 ex447))
                              refine ⟨i448, ?_⟩
                              intro S449 eS449
                              have hIn : IV S449 := by rw [eS449]; exact iv11_aD hI (de_1 (by rw [ex447]; exact i2l_rng (lo := 0) (hi := 999) (qm400 r_x12 r_kv13 wh_x12 c14 c26 r_x35 c36 c46 c54 r_x64 q_x64 wh_x64 g_x67 g_x70 c71 c80 c93 g_x316 r_kv317 gl_x316 dr_x320 c321 dr_x323 lr_x323 ex324 g_x327 ex329 dv_x329 dw_x329 c331 i1u336 c353 r_x402 hh_x402 ex403 dv_x403 r_x406 c407 c412 g_x436 gl_x436 ex438 qe_x444 g_x444 ex445 dv_x445 dw_x445 ex447)))
                              have el328 := el_J eS449 el328
                              have hI := hIn
                              have f0 := fr_J eS449 f0
                              have d_kv2 := rd_J eS449 d_kv2
                              have d_x64 := rd_J eS449 d_x64
                              have d_kv13 := rd_J eS449 d_kv13
                              have d_x35 := rd_J eS449 d_x35
                              have d_kv317 := rd_J eS449 d_kv317
                              have d_x402 := rd_J eS449 d_x402
                              have d_x406 := rd_J eS449 d_x406
                              have ea3 := rf_J eS449 ea3
                              have ea66 := rf_J eS449 ea66
                              have ea69 := rf_J eS449 ea69
                              have ea315 := rf_J eS449 ea315
                              have ea319 := rf_J eS449 ea319
                              have ea326 := rf_J eS449 ea326
                              have ea435 := rf_J eS449 ea435
                              have l_a315 := ln_J eS449 l_a315
                              have l_a319 := ln_J eS449 l_a319
                              have l_a326 := ln_J eS449 l_a326
                              have l_a435 := ln_J eS449 l_a435
                              have l_a66 := ln_J eS449 l_a66
                              have l_a69 := ln_J eS449 l_a69
                              have g0 := gr_J eS449 g0
                              have o_a3 := ob_J eS449 o_a3
                              have o_a315 := ob_J eS449 o_a315
                              have o_a319 := ob_J eS449 o_a319
                              have o_a326 := ob_J eS449 o_a326
                              have o_a435 := ob_J eS449 o_a435
                              have o_a66 := ob_J eS449 o_a66
                              have o_a69 := ob_J eS449 o_a69
                              have o_v0 := ob_J eS449 o_v0
                              refine ⟨a319, ea319, ?_⟩
                              refine ⟨o_a319, ?_⟩
                              refine ⟨(vin l_a319 (m := 7) (by decide) (qm399 r_x12 r_kv13 wh_x12 c14 c26 r_x35 c36 c46 c54 r_x64 q_x64 wh_x64 g_x67 g_x70 c71 c80 c93 g_x316 r_kv317 gl_x316 dr_x320 c321 dr_x323 lr_x323 ex324 g_x327 ex329 dv_x329 dw_x329 c331 i1u336 c353 r_x402 hh_x402 ex403 dv_x403 r_x406 c407 c412 g_x436 gl_x436 ex438 qe_x444 g_x444 ex445 dv_x445 dw_x445 ex447)), ?_⟩
                              intro x451 ex451
                              have de_x451 := ml_de hI o_v0 (j := 21) (by decide) ea319 (1 : Int32).toNatClampNeg
                              rw [← ex451] at de_x451
                              have dr_x451 : (0 : Int64) ≤ x451 ∧ x451 ≤ (999 : Int64) := de_x451.2 (by decide)
                              have lr_x451 : 0 ≤ x451.toInt32 ∧ x451.toInt32 ≤ (999 : Int32) := l2i_rng (by decide) dr_x451
                              refine u_X11_good ?_
                              refine u_X11_good_0 ?_
                              refine ⟨o_v0, ?_⟩
                              intro S452 eS452
                              have hIn : IV S452 := by rw [eS452]; exact iv11_sI hI o_v0 (by decide) (nu_free (by decide))
                              have el328 := el_ob eS452 o_v0 o_a326 (by decide) el328
                              have hI := hIn
                              have f0 := fr_I eS452 g0 f0 o_v0 (by decide)
                              have d_kv2 := rd_Ij eS452 (by decide) d_kv2
                              have d_x64 := rd_Ij eS452 (by decide) d_x64
                              have d_kv13 := rd_Ik eS452 o_v0 o_a3 (by decide) d_kv13
                              have d_x35 := rd_Ik eS452 o_v0 o_a3 (by decide) d_x35
                              have d_kv317 := rd_Ik eS452 o_v0 o_a3 (by decide) d_kv317
                              have d_x402 := rd_Ik eS452 o_v0 o_a3 (by decide) d_x402
                              have d_x406 := rd_Ik eS452 o_v0 o_a3 (by decide) d_x406
                              obtain ⟨kv453, hkv453⟩ : ∃ z : Int32, z = (0 : Int32) := ⟨_, rfl⟩
                              have d_kv453 := rd_Is eS452 hkv453
                              have ea3 := rf_I eS452 ea3
                              have ea66 := rf_I eS452 ea66
                              have ea69 := rf_I eS452 ea69
                              have ea315 := rf_I eS452 ea315
                              have ea319 := rf_I eS452 ea319
                              have ea326 := rf_I eS452 ea326
                              have ea435 := rf_I eS452 ea435
                              have l_a315 := ln_I eS452 l_a315
                              have l_a319 := ln_I eS452 l_a319
                              have l_a326 := ln_I eS452 l_a326
                              have l_a435 := ln_I eS452 l_a435
                              have l_a66 := ln_I eS452 l_a66
                              have l_a69 := ln_I eS452 l_a69
                              have g0 := gr_I eS452 g0
                              have o_a3 := ob_I eS452 o_a3
                              have o_a315 := ob_I eS452 o_a315
                              have o_a319 := ob_I eS452 o_a319
                              have o_a326 := ob_I eS452 o_a326
                              have o_a435 := ob_I eS452 o_a435
                              have o_a66 := ob_I eS452 o_a66
                              have o_a69 := ob_I eS452 o_a69
                              have o_v0 := ob_I eS452 o_v0
                              intro S454 eS454
                              have hIn : IV S454 := by rw [eS454]; exact iv11_sI hI o_v0 (by decide) (nu_free (by decide))
                              have el328 := el_ob eS454 o_v0 o_a326 (by decide) el328
                              have hI := hIn
                              have f0 := fr_I eS454 g0 f0 o_v0 (by decide)
                              have d_kv2 := rd_Ij eS454 (by decide) d_kv2
                              have d_x64 := rd_Ij eS454 (by decide) d_x64
                              have d_kv13 := rd_Ik eS454 o_v0 o_a3 (by decide) d_kv13
                              have d_x35 := rd_Ik eS454 o_v0 o_a3 (by decide) d_x35
                              have d_kv317 := rd_Ik eS454 o_v0 o_a3 (by decide) d_kv317
                              have d_x402 := rd_Ik eS454 o_v0 o_a3 (by decide) d_x402
                              have d_x406 := rd_Ik eS454 o_v0 o_a3 (by decide) d_x406
                              have d_kv453 := rd_Ij eS454 (by decide) d_kv453
                              obtain ⟨kv455, hkv455⟩ : ∃ z : Int32, z = (-1 : Int32) := ⟨_, rfl⟩
                              have d_kv455 := rd_Is eS454 hkv455
                              have ea3 := rf_I eS454 ea3
                              have ea66 := rf_I eS454 ea66
                              have ea69 := rf_I eS454 ea69
                              have ea315 := rf_I eS454 ea315
                              have ea319 := rf_I eS454 ea319
                              have ea326 := rf_I eS454 ea326
                              have ea435 := rf_I eS454 ea435
                              have l_a315 := ln_I eS454 l_a315
                              have l_a319 := ln_I eS454 l_a319
                              have l_a326 := ln_I eS454 l_a326
                              have l_a435 := ln_I eS454 l_a435
                              have l_a66 := ln_I eS454 l_a66
                              have l_a69 := ln_I eS454 l_a69
                              have g0 := gr_I eS454 g0
                              have o_a3 := ob_I eS454 o_a3
                              have o_a315 := ob_I eS454 o_a315
                              have o_a319 := ob_I eS454 o_a319
                              have o_a326 := ob_I eS454 o_a326
                              have o_a435 := ob_I eS454 o_a435
                              have o_a66 := ob_I eS454 o_a66
                              have o_a69 := ob_I eS454 o_a69
                              have o_v0 := ob_I eS454 o_v0
                              intro _
                              exact hq _ _ hI g0 f0
                          · intro x457 ex457
                            have d_x457 := ex457
                            refine ⟨fun c458 => ?_, fun c458 => ?_⟩
                            · intro _ _
                              refine ⟨fun c460 => ?_, fun c460 => absurd (show ¬ (0 : Int32) = 0 from c460) (by decide)⟩
                              refine u_X11_go_171 ?_
                              refine ⟨o_v0, ?_⟩
                              refine ⟨a319, ea319, ?_⟩
                              refine ⟨a3, ea3, ?_⟩
                              refine ⟨o_a3, ?_⟩
                              refine u_X10_ends ?_
                              refine u_X10_ends_0 ?_
                              refine ⟨fun c463 => ?_, fun c463 => ?_⟩
                              · refine ⟨o_a3, ?_⟩
                                refine ⟨a315, ea315, ?_⟩
                                refine ⟨o_a315, ?_⟩
                                refine ⟨(vin l_a315 (m := 12) (by decide) (qm401 r_x12 r_kv13 wh_x12 c14 c26 r_x35 c36 c46 c54 r_x64 q_x64 wh_x64 g_x67 g_x70 c71 c80 c93 g_x316 r_kv317 gl_x316 dr_x320 c321 dr_x323 lr_x323 ex324 g_x327 ex329 dv_x329 dw_x329 c331 i1u336 c353 r_x402 hh_x402 ex403 dv_x403 r_x406 c407 c458 c463)), ?_⟩
                                intro x465 ex465
                                have gy_x465 : 0 ≤ v1 ∧ v1 < fI S337 a3 3 := by rw [← d_x35]; exact (qm402 r_x12 r_kv13 wh_x12 c14 c26 r_x35 c36 c46 c54 r_x64 q_x64 wh_x64 g_x67 g_x70 c71 c80 c93 g_x316 r_kv317 gl_x316 dr_x320 c321 dr_x323 lr_x323 ex324 g_x327 ex329 dv_x329 dw_x329 c331 i1u336 c353 r_x402 hh_x402 ex403 dv_x403 r_x406 c407 c458 c463)
                                have g_x465 : (0 : Int32) ≤ x465 ∧ x465 ≤ (7 : Int32) := by rw [ex465]; exact wg_at (ml_wg hI o_v0 ea3) 0 rfl gy_x465 ea315
                                have gl_x465 : x465 < kv317 := by rw [ex465, d_kv317]; exact wg_lt (ml_wg hI o_v0 ea3) 0 rfl (by decide) gy_x465 ea315
                                intro _
                                refine ⟨o_a319, ?_⟩
                                intro x467 ex467
                                have i468 : vp_in (0 : Int32) (hN _ a319) := (vin l_a319 (m := 7) (by decide) (qm403 r_x12 r_kv13 wh_x12 c14 c26 r_x35 c36 c46 c54 r_x64 q_x64 wh_x64 g_x67 g_x70 c71 c80 c93 g_x316 r_kv317 gl_x316 dr_x320 c321 dr_x323 lr_x323 ex324 g_x327 ex329 dv_x329 dw_x329 c331 i1u336 c353 r_x402 hh_x402 ex403 dv_x403 r_x406 c407 c458 c463 g_x465 gl_x465 ex467))
                                refine ⟨i468, ?_⟩
                                intro S469 eS469
                                have hIn : IV S469 := by rw [eS469]; exact iv11_aD hI (de_0 (by rw [ex467]; exact i2l_rng (lo := 0) (hi := 7) (qm404 r_x12 r_kv13 wh_x12 c14 c26 r_x35 c36 c46 c54 r_x64 q_x64 wh_x64 g_x67 g_x70 c71 c80 c93 g_x316 r_kv317 gl_x316 dr_x320 c321 dr_x323 lr_x323 ex324 g_x327 ex329 dv_x329 dw_x329 c331 i1u336 c353 r_x402 hh_x402 ex403 dv_x403 r_x406 c407 c458 c463 g_x465 gl_x465 ex467)))
                                have el328 := el_J eS469 el328
                                have hI := hIn
                                have f0 := fr_J eS469 f0
                                have d_kv2 := rd_J eS469 d_kv2
                                have d_x64 := rd_J eS469 d_x64
                                have d_kv13 := rd_J eS469 d_kv13
                                have d_x35 := rd_J eS469 d_x35
                                have d_kv317 := rd_J eS469 d_kv317
                                have d_x402 := rd_J eS469 d_x402
                                have d_x406 := rd_J eS469 d_x406
                                have d_x457 := rd_J eS469 d_x457
                                have ea3 := rf_J eS469 ea3
                                have ea66 := rf_J eS469 ea66
                                have ea69 := rf_J eS469 ea69
                                have ea315 := rf_J eS469 ea315
                                have ea319 := rf_J eS469 ea319
                                have ea326 := rf_J eS469 ea326
                                have l_a315 := ln_J eS469 l_a315
                                have l_a319 := ln_J eS469 l_a319
                                have l_a326 := ln_J eS469 l_a326
                                have l_a66 := ln_J eS469 l_a66
                                have l_a69 := ln_J eS469 l_a69
                                have g0 := gr_J eS469 g0
                                have o_a3 := ob_J eS469 o_a3
                                have o_a315 := ob_J eS469 o_a315
                                have o_a319 := ob_J eS469 o_a319
                                have o_a326 := ob_J eS469 o_a326
                                have o_a66 := ob_J eS469 o_a66
                                have o_a69 := ob_J eS469 o_a69
                                have o_v0 := ob_J eS469 o_v0
                                refine ⟨a319, ea319, ?_⟩
                                refine ⟨a3, ea3, ?_⟩
                                refine ⟨o_a3, ?_⟩
                                refine u_X10_minutes ?_
                                refine u_X10_minutes_0 ?_
                                refine ⟨o_a3, ?_⟩
                                refine ⟨a326, ea326, ?_⟩
                                refine ⟨o_a326, ?_⟩
                                refine ⟨(vin l_a326 (m := 12) (by decide) (qm405 r_x12 r_kv13 wh_x12 c14 c26 r_x35 c36 c46 c54 r_x64 q_x64 wh_x64 g_x67 g_x70 c71 c80 c93 g_x316 r_kv317 gl_x316 dr_x320 c321 dr_x323 lr_x323 ex324 g_x327 ex329 dv_x329 dw_x329 c331 i1u336 c353 r_x402 hh_x402 ex403 dv_x403 r_x406 c407 c458 c463 g_x465 gl_x465 ex467)), ?_⟩
                                intro x473 ex473
                                have qe_x473 : x473 = x327 := ex473.trans el328
                                have gy_x473 : 0 ≤ v1 ∧ v1 < fI S469 a3 3 := by rw [← d_x35]; exact (qm406 r_x12 r_kv13 wh_x12 c14 c26 r_x35 c36 c46 c54 r_x64 q_x64 wh_x64 g_x67 g_x70 c71 c80 c93 g_x316 r_kv317 gl_x316 dr_x320 c321 dr_x323 lr_x323 ex324 g_x327 ex329 dv_x329 dw_x329 c331 i1u336 c353 r_x402 hh_x402 ex403 dv_x403 r_x406 c407 c458 c463 g_x465 gl_x465 ex467 qe_x473)
                                have g_x473 : (1 : Int32) ≤ x473 ∧ x473 ≤ (60 : Int32) := by rw [ex473]; exact wg_at (ml_wg hI o_v0 ea3) 2 rfl gy_x473 ea326
                                refine ⟨(qm407 r_x12 r_kv13 wh_x12 c14 c26 r_x35 c36 c46 c54 r_x64 q_x64 wh_x64 g_x67 g_x70 c71 c80 c93 g_x316 r_kv317 gl_x316 dr_x320 c321 dr_x323 lr_x323 ex324 g_x327 ex329 dv_x329 dw_x329 c331 i1u336 c353 r_x402 hh_x402 ex403 dv_x403 r_x406 c407 c458 c463 g_x465 gl_x465 ex467 qe_x473 g_x473), ?_⟩
                                intro x474 ex474
                                have dv_x474 : 0 ≤ x474 ∧ x474 ≤ ((x473 + v3) - (1 : Int32)) := by rw [ex474]; exact dv0 (qm408 r_x12 r_kv13 wh_x12 c14 c26 r_x35 c36 c46 c54 r_x64 q_x64 wh_x64 g_x67 g_x70 c71 c80 c93 g_x316 r_kv317 gl_x316 dr_x320 c321 dr_x323 lr_x323 ex324 g_x327 ex329 dv_x329 dw_x329 c331 i1u336 c353 r_x402 hh_x402 ex403 dv_x403 r_x406 c407 c458 c463 g_x465 gl_x465 ex467 qe_x473 g_x473 ex474) (i32pos (qm409 r_x12 r_kv13 wh_x12 c14 c26 r_x35 c36 c46 c54 r_x64 q_x64 wh_x64 g_x67 g_x70 c71 c80 c93 g_x316 r_kv317 gl_x316 dr_x320 c321 dr_x323 lr_x323 ex324 g_x327 ex329 dv_x329 dw_x329 c331 i1u336 c353 r_x402 hh_x402 ex403 dv_x403 r_x406 c407 c458 c463 g_x465 gl_x465 ex467 qe_x473 g_x473 ex474))
                                have dw_x474 : (1 : Int32) ≤ x474 := by rw [ex474]; exact dv1 (qm410 r_x12 r_kv13 wh_x12 c14 c26 r_x35 c36 c46 c54 r_x64 q_x64 wh_x64 g_x67 g_x70 c71 c80 c93 g_x316 r_kv317 gl_x316 dr_x320 c321 dr_x323 lr_x323 ex324 g_x327 ex329 dv_x329 dw_x329 c331 i1u336 c353 r_x402 hh_x402 ex403 dv_x403 r_x406 c407 c458 c463 g_x465 gl_x465 ex467 qe_x473 g_x473 ex474) (qm411 r_x12 r_kv13 wh_x12 c14 c26 r_x35 c36 c46 c54 r_x64 q_x64 wh_x64 g_x67 g_x70 c71 c80 c93 g_x316 r_kv317 gl_x316 dr_x320 c321 dr_x323 lr_x323 ex324 g_x327 ex329 dv_x329 dw_x329 c331 i1u336 c353 r_x402 hh_x402 ex403 dv_x403 r_x406 c407 c458 c463 g_x465 gl_x465 ex467 qe_x473 g_x473 ex474)
                                intro _
                                refine ⟨o_a319, ?_⟩
                                intro x476 ex476
                                have i477 : vp_in (1 : Int32) (hN _ a319) := (vin l_a319 (m := 7) (by decide) (qm412 r_x12 r_kv13 wh_x12 c14 c26 r_x35 c36 c46 c54 r_x64 q_x64 wh_x64 g_x67 g_x70 c71 c80 c93 g_x316 r_kv317 gl_x316 dr_x320 c321 dr_x323 lr_x323 ex324 g_x327 ex329 dv_x329 dw_x329 c331 i1u336 c353 r_x402 hh_x402 ex403 dv_x403 r_x406 c407 c458 c463 g_x465 gl_x465 ex467 qe_x473 g_x473 ex474 dv_x474 dw_x474 ex476))
                                refine ⟨i477, ?_⟩
                                intro S478 eS478
                                have hIn : IV S478 := by rw [eS478]; exact iv11_aD hI (de_1 (by rw [ex476]; exact i2l_rng (lo := 0) (hi := 999) (qm413 r_x12 r_kv13 wh_x12 c14 c26 r_x35 c36 c46 c54 r_x64 q_x64 wh_x64 g_x67 g_x70 c71 c80 c93 g_x316 r_kv317 gl_x316 dr_x320 c321 dr_x323 lr_x323 ex324 g_x327 ex329 dv_x329 dw_x329 c331 i1u336 c353 r_x402 hh_x402 ex403 dv_x403 r_x406 c407 c458 c463 g_x465 gl_x465 ex467 qe_x473 g_x473 ex474 dv_x474 dw_x474 ex476)))
                                have el328 := el_J eS478 el328
                                have hI := hIn
                                have f0 := fr_J eS478 f0
                                have d_kv2 := rd_J eS478 d_kv2
                                have d_x64 := rd_J eS478 d_x64
                                have d_kv13 := rd_J eS478 d_kv13
                                have d_x35 := rd_J eS478 d_x35
                                have d_kv317 := rd_J eS478 d_kv317
                                have d_x402 := rd_J eS478 d_x402
                                have d_x406 := rd_J eS478 d_x406
                                have d_x457 := rd_J eS478 d_x457
                                have ea3 := rf_J eS478 ea3
                                have ea66 := rf_J eS478 ea66
                                have ea69 := rf_J eS478 ea69
                                have ea315 := rf_J eS478 ea315
                                have ea319 := rf_J eS478 ea319
                                have ea326 := rf_J eS478 ea326
                                have l_a315 := ln_J eS478 l_a315
                                have l_a319 := ln_J eS478 l_a319
                                have l_a326 := ln_J eS478 l_a326
                                have l_a66 := ln_J eS478 l_a66
                                have l_a69 := ln_J eS478 l_a69
                                have g0 := gr_J eS478 g0
                                have o_a3 := ob_J eS478 o_a3
                                have o_a315 := ob_J eS478 o_a315
                                have o_a319 := ob_J eS478 o_a319
                                have o_a326 := ob_J eS478 o_a326
                                have o_a66 := ob_J eS478 o_a66
                                have o_a69 := ob_J eS478 o_a69
                                have o_v0 := ob_J eS478 o_v0
                                refine ⟨a319, ea319, ?_⟩
                                refine ⟨o_a319, ?_⟩
                                refine ⟨(vin l_a319 (m := 7) (by decide) (qm412 r_x12 r_kv13 wh_x12 c14 c26 r_x35 c36 c46 c54 r_x64 q_x64 wh_x64 g_x67 g_x70 c71 c80 c93 g_x316 r_kv317 gl_x316 dr_x320 c321 dr_x323 lr_x323 ex324 g_x327 ex329 dv_x329 dw_x329 c331 i1u336 c353 r_x402 hh_x402 ex403 dv_x403 r_x406 c407 c458 c463 g_x465 gl_x465 ex467 qe_x473 g_x473 ex474 dv_x474 dw_x474 ex476)), ?_⟩
                                intro x480 ex480
                                have de_x480 := ml_de hI o_v0 (j := 21) (by decide) ea319 (1 : Int32).toNatClampNeg
                                rw [← ex480] at de_x480
                                have dr_x480 : (0 : Int64) ≤ x480 ∧ x480 ≤ (999 : Int64) := de_x480.2 (by decide)
                                have lr_x480 : 0 ≤ x480.toInt32 ∧ x480.toInt32 ≤ (999 : Int32) := l2i_rng (by decide) dr_x480
                                refine u_X11_good ?_
                                refine u_X11_good_0 ?_
                                refine ⟨o_v0, ?_⟩
                                intro S481 eS481
                                have hIn : IV S481 := by rw [eS481]; exact iv11_sI hI o_v0 (by decide) (nu_free (by decide))
                                have el328 := el_ob eS481 o_v0 o_a326 (by decide) el328
                                have hI := hIn
                                have f0 := fr_I eS481 g0 f0 o_v0 (by decide)
                                have d_kv2 := rd_Ij eS481 (by decide) d_kv2
                                have d_x64 := rd_Ij eS481 (by decide) d_x64
                                have d_kv13 := rd_Ik eS481 o_v0 o_a3 (by decide) d_kv13
                                have d_x35 := rd_Ik eS481 o_v0 o_a3 (by decide) d_x35
                                have d_kv317 := rd_Ik eS481 o_v0 o_a3 (by decide) d_kv317
                                have d_x402 := rd_Ik eS481 o_v0 o_a3 (by decide) d_x402
                                have d_x406 := rd_Ik eS481 o_v0 o_a3 (by decide) d_x406
                                have d_x457 := rd_Ij eS481 (by decide) d_x457
                                obtain ⟨kv482, hkv482⟩ : ∃ z : Int32, z = (0 : Int32) := ⟨_, rfl⟩
                                have d_kv482 := rd_Is eS481 hkv482
                                have ea3 := rf_I eS481 ea3
                                have ea66 := rf_I eS481 ea66
                                have ea69 := rf_I eS481 ea69
                                have ea315 := rf_I eS481 ea315
                                have ea319 := rf_I eS481 ea319
                                have ea326 := rf_I eS481 ea326
                                have l_a315 := ln_I eS481 l_a315
                                have l_a319 := ln_I eS481 l_a319
                                have l_a326 := ln_I eS481 l_a326
                                have l_a66 := ln_I eS481 l_a66
                                have l_a69 := ln_I eS481 l_a69
                                have g0 := gr_I eS481 g0
                                have o_a3 := ob_I eS481 o_a3
                                have o_a315 := ob_I eS481 o_a315
                                have o_a319 := ob_I eS481 o_a319
                                have o_a326 := ob_I eS481 o_a326
                                have o_a66 := ob_I eS481 o_a66
                                have o_a69 := ob_I eS481 o_a69
                                have o_v0 := ob_I eS481 o_v0
                                intro S483 eS483
                                have hIn : IV S483 := by rw [eS483]; exact iv11_sI hI o_v0 (by decide) (nu_free (by decide))
                                have el328 := el_ob eS483 o_v0 o_a326 (by decide) el328
                                have hI := hIn
                                have f0 := fr_I eS483 g0 f0 o_v0 (by decide)
                                have d_kv2 := rd_Ij eS483 (by decide) d_kv2
                                have d_x64 := rd_Ij eS483 (by decide) d_x64
                                have d_kv13 := rd_Ik eS483 o_v0 o_a3 (by decide) d_kv13
                                have d_x35 := rd_Ik eS483 o_v0 o_a3 (by decide) d_x35
                                have d_kv317 := rd_Ik eS483 o_v0 o_a3 (by decide) d_kv317
                                have d_x402 := rd_Ik eS483 o_v0 o_a3 (by decide) d_x402
                                have d_x406 := rd_Ik eS483 o_v0 o_a3 (by decide) d_x406
                                have d_x457 := rd_Ij eS483 (by decide) d_x457
                                have d_kv482 := rd_Ij eS483 (by decide) d_kv482
                                obtain ⟨kv484, hkv484⟩ : ∃ z : Int32, z = (-1 : Int32) := ⟨_, rfl⟩
                                have d_kv484 := rd_Is eS483 hkv484
                                have ea3 := rf_I eS483 ea3
                                have ea66 := rf_I eS483 ea66
                                have ea69 := rf_I eS483 ea69
                                have ea315 := rf_I eS483 ea315
                                have ea319 := rf_I eS483 ea319
                                have ea326 := rf_I eS483 ea326
                                have l_a315 := ln_I eS483 l_a315
                                have l_a319 := ln_I eS483 l_a319
                                have l_a326 := ln_I eS483 l_a326
                                have l_a66 := ln_I eS483 l_a66
                                have l_a69 := ln_I eS483 l_a69
                                have g0 := gr_I eS483 g0
                                have o_a3 := ob_I eS483 o_a3
                                have o_a315 := ob_I eS483 o_a315
                                have o_a319 := ob_I eS483 o_a319
                                have o_a326 := ob_I eS483 o_a326
                                have o_a66 := ob_I eS483 o_a66
                                have o_a69 := ob_I eS483 o_a69
                                have o_v0 := ob_I eS483 o_v0
                                intro _
                                exact hq _ _ hI g0 f0
                              · refine ⟨o_a3, ?_⟩
                                obtain ⟨a486, ea486, o_a486, l_a486⟩ := shl 36 rfl hI o_a3
                                refine ⟨a486, ea486, ?_⟩
                                refine ⟨o_a486, ?_⟩
                                refine ⟨(vin l_a486 (m := 12) (by decide) (qm414 r_x12 r_kv13 wh_x12 c14 c26 r_x35 c36 c46 c54 r_x64 q_x64 wh_x64 g_x67 g_x70 c71 c80 c93 g_x316 r_kv317 gl_x316 dr_x320 c321 dr_x323 lr_x323 ex324 g_x327 ex329 dv_x329 dw_x329 c331 i1u336 c353 r_x402 hh_x402 ex403 dv_x403 r_x406 c407 c458 c463)), ?_⟩
                                intro x487 ex487
                                have gy_x487 : 0 ≤ v1 ∧ v1 < fI S337 a3 3 := by rw [← d_x35]; exact (qm415 r_x12 r_kv13 wh_x12 c14 c26 r_x35 c36 c46 c54 r_x64 q_x64 wh_x64 g_x67 g_x70 c71 c80 c93 g_x316 r_kv317 gl_x316 dr_x320 c321 dr_x323 lr_x323 ex324 g_x327 ex329 dv_x329 dw_x329 c331 i1u336 c353 r_x402 hh_x402 ex403 dv_x403 r_x406 c407 c458 c463)
                                have g_x487 : (0 : Int32) ≤ x487 ∧ x487 ≤ (7 : Int32) := by rw [ex487]; exact wg_at (ml_wg hI o_v0 ea3) 1 rfl gy_x487 ea486
                                have gl_x487 : x487 < kv317 := by rw [ex487, d_kv317]; exact wg_lt (ml_wg hI o_v0 ea3) 1 rfl (by decide) gy_x487 ea486
                                intro _
                                refine ⟨o_a319, ?_⟩
                                intro x489 ex489
                                have i490 : vp_in (0 : Int32) (hN _ a319) := (vin l_a319 (m := 7) (by decide) (qm416 r_x12 r_kv13 wh_x12 c14 c26 r_x35 c36 c46 c54 r_x64 q_x64 wh_x64 g_x67 g_x70 c71 c80 c93 g_x316 r_kv317 gl_x316 dr_x320 c321 dr_x323 lr_x323 ex324 g_x327 ex329 dv_x329 dw_x329 c331 i1u336 c353 r_x402 hh_x402 ex403 dv_x403 r_x406 c407 c458 c463 g_x487 gl_x487 ex489))
                                refine ⟨i490, ?_⟩
                                intro S491 eS491
                                have hIn : IV S491 := by rw [eS491]; exact iv11_aD hI (de_0 (by rw [ex489]; exact i2l_rng (lo := 0) (hi := 7) (qm417 r_x12 r_kv13 wh_x12 c14 c26 r_x35 c36 c46 c54 r_x64 q_x64 wh_x64 g_x67 g_x70 c71 c80 c93 g_x316 r_kv317 gl_x316 dr_x320 c321 dr_x323 lr_x323 ex324 g_x327 ex329 dv_x329 dw_x329 c331 i1u336 c353 r_x402 hh_x402 ex403 dv_x403 r_x406 c407 c458 c463 g_x487 gl_x487 ex489)))
                                have el328 := el_J eS491 el328
                                have hI := hIn
                                have f0 := fr_J eS491 f0
                                have d_kv2 := rd_J eS491 d_kv2
                                have d_x64 := rd_J eS491 d_x64
                                have d_kv13 := rd_J eS491 d_kv13
                                have d_x35 := rd_J eS491 d_x35
                                have d_kv317 := rd_J eS491 d_kv317
                                have d_x402 := rd_J eS491 d_x402
                                have d_x406 := rd_J eS491 d_x406
                                have d_x457 := rd_J eS491 d_x457
                                have ea3 := rf_J eS491 ea3
                                have ea66 := rf_J eS491 ea66
                                have ea69 := rf_J eS491 ea69
                                have ea315 := rf_J eS491 ea315
                                have ea319 := rf_J eS491 ea319
                                have ea326 := rf_J eS491 ea326
                                have ea486 := rf_J eS491 ea486
                                have l_a315 := ln_J eS491 l_a315
                                have l_a319 := ln_J eS491 l_a319
                                have l_a326 := ln_J eS491 l_a326
                                have l_a486 := ln_J eS491 l_a486
                                have l_a66 := ln_J eS491 l_a66
                                have l_a69 := ln_J eS491 l_a69
                                have g0 := gr_J eS491 g0
                                have o_a3 := ob_J eS491 o_a3
                                have o_a315 := ob_J eS491 o_a315
                                have o_a319 := ob_J eS491 o_a319
                                have o_a326 := ob_J eS491 o_a326
                                have o_a486 := ob_J eS491 o_a486
                                have o_a66 := ob_J eS491 o_a66
                                have o_a69 := ob_J eS491 o_a69
                                have o_v0 := ob_J eS491 o_v0
                                refine ⟨a319, ea319, ?_⟩
                                refine ⟨a3, ea3, ?_⟩
                                refine ⟨o_a3, ?_⟩
                                refine u_X10_minutes ?_
                                refine u_X10_minutes_0 ?_
                                refine ⟨o_a3, ?_⟩
                                refine ⟨a326, ea326, ?_⟩
                                refine ⟨o_a326, ?_⟩
                                refine ⟨(vin l_a326 (m := 12) (by decide) (qm418 r_x12 r_kv13 wh_x12 c14 c26 r_x35 c36 c46 c54 r_x64 q_x64 wh_x64 g_x67 g_x70 c71 c80 c93 g_x316 r_kv317 gl_x316 dr_x320 c321 dr_x323 lr_x323 ex324 g_x327 ex329 dv_x329 dw_x329 c331 i1u336 c353 r_x402 hh_x402 ex403 dv_x403 r_x406 c407 c458 c463 g_x487 gl_x487 ex489)), ?_⟩
                                intro x495 ex495
                                have qe_x495 : x495 = x327 := ex495.trans el328
                                have gy_x495 : 0 ≤ v1 ∧ v1 < fI S491 a3 3 := by rw [← d_x35]; exact (qm419 r_x12 r_kv13 wh_x12 c14 c26 r_x35 c36 c46 c54 r_x64 q_x64 wh_x64 g_x67 g_x70 c71 c80 c93 g_x316 r_kv317 gl_x316 dr_x320 c321 dr_x323 lr_x323 ex324 g_x327 ex329 dv_x329 dw_x329 c331 i1u336 c353 r_x402 hh_x402 ex403 dv_x403 r_x406 c407 c458 c463 g_x487 gl_x487 ex489 qe_x495)
                                have g_x495 : (1 : Int32) ≤ x495 ∧ x495 ≤ (60 : Int32) := by rw [ex495]; exact wg_at (ml_wg hI o_v0 ea3) 2 rfl gy_x495 ea326
                                refine ⟨(qm420 r_x12 r_kv13 wh_x12 c14 c26 r_x35 c36 c46 c54 r_x64 q_x64 wh_x64 g_x67 g_x70 c71 c80 c93 g_x316 r_kv317 gl_x316 dr_x320 c321 dr_x323 lr_x323 ex324 g_x327 ex329 dv_x329 dw_x329 c331 i1u336 c353 r_x402 hh_x402 ex403 dv_x403 r_x406 c407 c458 c463 g_x487 gl_x487 ex489 qe_x495 g_x495), ?_⟩
                                intro x496 ex496
                                have dv_x496 : 0 ≤ x496 ∧ x496 ≤ ((x495 + v3) - (1 : Int32)) := by rw [ex496]; exact dv0 (qm421 r_x12 r_kv13 wh_x12 c14 c26 r_x35 c36 c46 c54 r_x64 q_x64 wh_x64 g_x67 g_x70 c71 c80 c93 g_x316 r_kv317 gl_x316 dr_x320 c321 dr_x323 lr_x323 ex324 g_x327 ex329 dv_x329 dw_x329 c331 i1u336 c353 r_x402 hh_x402 ex403 dv_x403 r_x406 c407 c458 c463 g_x487 gl_x487 ex489 qe_x495 g_x495 ex496) (i32pos (qm422 r_x12 r_kv13 wh_x12 c14 c26 r_x35 c36 c46 c54 r_x64 q_x64 wh_x64 g_x67 g_x70 c71 c80 c93 g_x316 r_kv317 gl_x316 dr_x320 c321 dr_x323 lr_x323 ex324 g_x327 ex329 dv_x329 dw_x329 c331 i1u336 c353 r_x402 hh_x402 ex403 dv_x403 r_x406 c407 c458 c463 g_x487 gl_x487 ex489 qe_x495 g_x495 ex496))
                                have dw_x496 : (1 : Int32) ≤ x496 := by rw [ex496]; exact dv1 (qm423 r_x12 r_kv13 wh_x12 c14 c26 r_x35 c36 c46 c54 r_x64 q_x64 wh_x64 g_x67 g_x70 c71 c80 c93 g_x316 r_kv317 gl_x316 dr_x320 c321 dr_x323 lr_x323 ex324 g_x327 ex329 dv_x329 dw_x329 c331 i1u336 c353 r_x402 hh_x402 ex403 dv_x403 r_x406 c407 c458 c463 g_x487 gl_x487 ex489 qe_x495 g_x495 ex496) (qm424 r_x12 r_kv13 wh_x12 c14 c26 r_x35 c36 c46 c54 r_x64 q_x64 wh_x64 g_x67 g_x70 c71 c80 c93 g_x316 r_kv317 gl_x316 dr_x320 c321 dr_x323 lr_x323 ex324 g_x327 ex329 dv_x329 dw_x329 c331 i1u336 c353 r_x402 hh_x402 ex403 dv_x403 r_x406 c407 c458 c463 g_x487 gl_x487 ex489 qe_x495 g_x495 ex496)
                                intro _
                                refine ⟨o_a319, ?_⟩
                                intro x498 ex498
                                have i499 : vp_in (1 : Int32) (hN _ a319) := (vin l_a319 (m := 7) (by decide) (qm425 r_x12 r_kv13 wh_x12 c14 c26 r_x35 c36 c46 c54 r_x64 q_x64 wh_x64 g_x67 g_x70 c71 c80 c93 g_x316 r_kv317 gl_x316 dr_x320 c321 dr_x323 lr_x323 ex324 g_x327 ex329 dv_x329 dw_x329 c331 i1u336 c353 r_x402 hh_x402 ex403 dv_x403 r_x406 c407 c458 c463 g_x487 gl_x487 ex489 qe_x495 g_x495 ex496 dv_x496 dw_x496 ex498))
                                refine ⟨i499, ?_⟩
                                intro S500 eS500
                                have hIn : IV S500 := by rw [eS500]; exact iv11_aD hI (de_1 (by rw [ex498]; exact i2l_rng (lo := 0) (hi := 999) (qm426 r_x12 r_kv13 wh_x12 c14 c26 r_x35 c36 c46 c54 r_x64 q_x64 wh_x64 g_x67 g_x70 c71 c80 c93 g_x316 r_kv317 gl_x316 dr_x320 c321 dr_x323 lr_x323 ex324 g_x327 ex329 dv_x329 dw_x329 c331 i1u336 c353 r_x402 hh_x402 ex403 dv_x403 r_x406 c407 c458 c463 g_x487 gl_x487 ex489 qe_x495 g_x495 ex496 dv_x496 dw_x496 ex498)))
                                have el328 := el_J eS500 el328
                                have hI := hIn
                                have f0 := fr_J eS500 f0
                                have d_kv2 := rd_J eS500 d_kv2
                                have d_x64 := rd_J eS500 d_x64
                                have d_kv13 := rd_J eS500 d_kv13
                                have d_x35 := rd_J eS500 d_x35
                                have d_kv317 := rd_J eS500 d_kv317
                                have d_x402 := rd_J eS500 d_x402
                                have d_x406 := rd_J eS500 d_x406
                                have d_x457 := rd_J eS500 d_x457
                                have ea3 := rf_J eS500 ea3
                                have ea66 := rf_J eS500 ea66
                                have ea69 := rf_J eS500 ea69
                                have ea315 := rf_J eS500 ea315
                                have ea319 := rf_J eS500 ea319
                                have ea326 := rf_J eS500 ea326
                                have ea486 := rf_J eS500 ea486
                                have l_a315 := ln_J eS500 l_a315
                                have l_a319 := ln_J eS500 l_a319
                                have l_a326 := ln_J eS500 l_a326
                                have l_a486 := ln_J eS500 l_a486
                                have l_a66 := ln_J eS500 l_a66
                                have l_a69 := ln_J eS500 l_a69
                                have g0 := gr_J eS500 g0
                                have o_a3 := ob_J eS500 o_a3
                                have o_a315 := ob_J eS500 o_a315
                                have o_a319 := ob_J eS500 o_a319
                                have o_a326 := ob_J eS500 o_a326
                                have o_a486 := ob_J eS500 o_a486
                                have o_a66 := ob_J eS500 o_a66
                                have o_a69 := ob_J eS500 o_a69
                                have o_v0 := ob_J eS500 o_v0
                                refine ⟨a319, ea319, ?_⟩
                                refine ⟨o_a319, ?_⟩
                                refine ⟨(vin l_a319 (m := 7) (by decide) (qm425 r_x12 r_kv13 wh_x12 c14 c26 r_x35 c36 c46 c54 r_x64 q_x64 wh_x64 g_x67 g_x70 c71 c80 c93 g_x316 r_kv317 gl_x316 dr_x320 c321 dr_x323 lr_x323 ex324 g_x327 ex329 dv_x329 dw_x329 c331 i1u336 c353 r_x402 hh_x402 ex403 dv_x403 r_x406 c407 c458 c463 g_x487 gl_x487 ex489 qe_x495 g_x495 ex496 dv_x496 dw_x496 ex498)), ?_⟩
                                intro x502 ex502
                                have de_x502 := ml_de hI o_v0 (j := 21) (by decide) ea319 (1 : Int32).toNatClampNeg
                                rw [← ex502] at de_x502
                                have dr_x502 : (0 : Int64) ≤ x502 ∧ x502 ≤ (999 : Int64) := de_x502.2 (by decide)
                                have lr_x502 : 0 ≤ x502.toInt32 ∧ x502.toInt32 ≤ (999 : Int32) := l2i_rng (by decide) dr_x502
                                refine u_X11_good ?_
                                refine u_X11_good_0 ?_
                                refine ⟨o_v0, ?_⟩
                                intro S503 eS503
                                have hIn : IV S503 := by rw [eS503]; exact iv11_sI hI o_v0 (by decide) (nu_free (by decide))
                                have el328 := el_ob eS503 o_v0 o_a326 (by decide) el328
                                have hI := hIn
                                have f0 := fr_I eS503 g0 f0 o_v0 (by decide)
                                have d_kv2 := rd_Ij eS503 (by decide) d_kv2
                                have d_x64 := rd_Ij eS503 (by decide) d_x64
                                have d_kv13 := rd_Ik eS503 o_v0 o_a3 (by decide) d_kv13
                                have d_x35 := rd_Ik eS503 o_v0 o_a3 (by decide) d_x35
                                have d_kv317 := rd_Ik eS503 o_v0 o_a3 (by decide) d_kv317
                                have d_x402 := rd_Ik eS503 o_v0 o_a3 (by decide) d_x402
                                have d_x406 := rd_Ik eS503 o_v0 o_a3 (by decide) d_x406
                                have d_x457 := rd_Ij eS503 (by decide) d_x457
                                obtain ⟨kv504, hkv504⟩ : ∃ z : Int32, z = (0 : Int32) := ⟨_, rfl⟩
                                have d_kv504 := rd_Is eS503 hkv504
                                have ea3 := rf_I eS503 ea3
                                have ea66 := rf_I eS503 ea66
                                have ea69 := rf_I eS503 ea69
                                have ea315 := rf_I eS503 ea315
                                have ea319 := rf_I eS503 ea319
                                have ea326 := rf_I eS503 ea326
                                have ea486 := rf_I eS503 ea486
                                have l_a315 := ln_I eS503 l_a315
                                have l_a319 := ln_I eS503 l_a319
                                have l_a326 := ln_I eS503 l_a326
                                have l_a486 := ln_I eS503 l_a486
                                have l_a66 := ln_I eS503 l_a66
                                have l_a69 := ln_I eS503 l_a69
                                have g0 := gr_I eS503 g0
                                have o_a3 := ob_I eS503 o_a3
                                have o_a315 := ob_I eS503 o_a315
                                have o_a319 := ob_I eS503 o_a319
                                have o_a326 := ob_I eS503 o_a326
                                have o_a486 := ob_I eS503 o_a486
                                have o_a66 := ob_I eS503 o_a66
                                have o_a69 := ob_I eS503 o_a69
                                have o_v0 := ob_I eS503 o_v0
                                intro S505 eS505
                                have hIn : IV S505 := by rw [eS505]; exact iv11_sI hI o_v0 (by decide) (nu_free (by decide))
                                have el328 := el_ob eS505 o_v0 o_a326 (by decide) el328
                                have hI := hIn
                                have f0 := fr_I eS505 g0 f0 o_v0 (by decide)
                                have d_kv2 := rd_Ij eS505 (by decide) d_kv2
                                have d_x64 := rd_Ij eS505 (by decide) d_x64
                                have d_kv13 := rd_Ik eS505 o_v0 o_a3 (by decide) d_kv13
                                have d_x35 := rd_Ik eS505 o_v0 o_a3 (by decide) d_x35
                                have d_kv317 := rd_Ik eS505 o_v0 o_a3 (by decide) d_kv317
                                have d_x402 := rd_Ik eS505 o_v0 o_a3 (by decide) d_x402
                                have d_x406 := rd_Ik eS505 o_v0 o_a3 (by decide) d_x406
                                have d_x457 := rd_Ij eS505 (by decide) d_x457
                                have d_kv504 := rd_Ij eS505 (by decide) d_kv504
                                obtain ⟨kv506, hkv506⟩ : ∃ z : Int32, z = (-1 : Int32) := ⟨_, rfl⟩
                                have d_kv506 := rd_Is eS505 hkv506
                                have ea3 := rf_I eS505 ea3
                                have ea66 := rf_I eS505 ea66
                                have ea69 := rf_I eS505 ea69
                                have ea315 := rf_I eS505 ea315
                                have ea319 := rf_I eS505 ea319
                                have ea326 := rf_I eS505 ea326
                                have ea486 := rf_I eS505 ea486
                                have l_a315 := ln_I eS505 l_a315
                                have l_a319 := ln_I eS505 l_a319
                                have l_a326 := ln_I eS505 l_a326
                                have l_a486 := ln_I eS505 l_a486
                                have l_a66 := ln_I eS505 l_a66
                                have l_a69 := ln_I eS505 l_a69
                                have g0 := gr_I eS505 g0
                                have o_a3 := ob_I eS505 o_a3
                                have o_a315 := ob_I eS505 o_a315
                                have o_a319 := ob_I eS505 o_a319
                                have o_a326 := ob_I eS505 o_a326
                                have o_a486 := ob_I eS505 o_a486
                                have o_a66 := ob_I eS505 o_a66
                                have o_a69 := ob_I eS505 o_a69
                                have o_v0 := ob_I eS505 o_v0
                                intro _
                                exact hq _ _ hI g0 f0
                            · intro _ _
                              refine ⟨fun c509 => absurd (show (1 : Int32) = 0 from c509) (by decide), fun c509 => ?_⟩
                              refine ⟨a319, ea319, ?_⟩
                              refine ⟨o_a319, ?_⟩
                              intro x511 ex511
                              refine ⟨(vin l_a319 (m := 7) (by decide) (qm427 r_x12 r_kv13 wh_x12 c14 c26 r_x35 c36 c46 c54 r_x64 q_x64 wh_x64 g_x67 g_x70 c71 c80 c93 g_x316 r_kv317 gl_x316 dr_x320 c321 dr_x323 lr_x323 ex324 g_x327 ex329 dv_x329 dw_x329 c331 i1u336 c353 r_x402 hh_x402 ex403 dv_x403 r_x406 c407 c458 ex511)), ?_⟩
                              intro x512 ex512
                              have de_x512 := ml_de hI o_v0 (j := 21) (by decide) ea319 x511.toNatClampNeg
                              rw [← ex512] at de_x512
                              intro x513 ex513
                              have r_x513 : (-2 : Int32) ≤ x513 ∧ x513 ≤ (3 : Int32) := by rw [ex513]; exact nu 26 rfl hI o_v0
                              have q_x513 : x513 = x64 := ex513.trans d_x64.symm
                              have d_x513 := ex513
                              have wh_x513 : x513 = -2 ∨ (0 ≤ x513 ∧ x513 < kv13) := by rw [ex513, d_kv13]; exact ml_who hI o_v0 ea3
                              refine u_X11_hourOf ?_
                              refine u_X11_hourOf_0 ?_
                              refine ⟨o_v0, ?_⟩
                              refine ⟨a3, ea3, ?_⟩
                              refine ⟨o_a3, ?_⟩
                              intro x515 ex515
                              have r_x515 : (0 : Int32) ≤ x515 ∧ x515 ≤ (60 : Int32) := by rw [ex515]; exact nu 16 rfl hI o_a3
                              have q_x515 : x515 = x402 := ex515.trans d_x402.symm
                              have d_x515 := ex515
                              have hh_x515 : 1 ≤ x515 := by rw [ex515]; exact ml_hour hI o_v0 ea3
                              refine ⟨(qm428 r_x12 r_kv13 wh_x12 c14 c26 r_x35 c36 c46 c54 r_x64 q_x64 wh_x64 g_x67 g_x70 c71 c80 c93 g_x316 r_kv317 gl_x316 dr_x320 c321 dr_x323 lr_x323 ex324 g_x327 ex329 dv_x329 dw_x329 c331 i1u336 c353 r_x402 hh_x402 ex403 dv_x403 r_x406 c407 c458 ex511 r_x513 q_x513 wh_x513 r_x515 q_x515 hh_x515), ?_⟩
                              intro x516 ex516
                              have dv_x516 : 0 ≤ x516 ∧ x516 ≤ x324 := by rw [ex516]; exact dv0 (qm429 r_x12 r_kv13 wh_x12 c14 c26 r_x35 c36 c46 c54 r_x64 q_x64 wh_x64 g_x67 g_x70 c71 c80 c93 g_x316 r_kv317 gl_x316 dr_x320 c321 dr_x323 lr_x323 ex324 g_x327 ex329 dv_x329 dw_x329 c331 i1u336 c353 r_x402 hh_x402 ex403 dv_x403 r_x406 c407 c458 ex511 r_x513 q_x513 wh_x513 r_x515 q_x515 hh_x515 ex516) (i32pos (qm430 r_x12 r_kv13 wh_x12 c14 c26 r_x35 c36 c46 c54 r_x64 q_x64 wh_x64 g_x67 g_x70 c71 c80 c93 g_x316 r_kv317 gl_x316 dr_x320 c321 dr_x323 lr_x323 ex324 g_x327 ex329 dv_x329 dw_x329 c331 i1u336 c353 r_x402 hh_x402 ex403 dv_x403 r_x406 c407 c458 ex511 r_x513 q_x513 wh_x513 r_x515 q_x515 hh_x515 ex516))
                              intro _
                              refine m_X11_partsOf hI o_v0 (qm431 r_x12 r_kv13 wh_x12 c14 c26 r_x35 c36 c46 c54 r_x64 q_x64 wh_x64 g_x67 g_x70 c71 c80 c93 g_x316 r_kv317 gl_x316 dr_x320 c321 dr_x323 lr_x323 ex324 g_x327 ex329 dv_x329 dw_x329 c331 i1u336 c353 r_x402 hh_x402 ex403 dv_x403 r_x406 c407 c458 ex511 r_x513 q_x513 wh_x513 r_x515 q_x515 hh_x515 ex516 dv_x516) (qm432 r_x12 r_kv13 wh_x12 c14 c26 r_x35 c36 c46 c54 r_x64 q_x64 wh_x64 g_x67 g_x70 c71 c80 c93 g_x316 r_kv317 gl_x316 dr_x320 c321 dr_x323 lr_x323 ex324 g_x327 ex329 dv_x329 dw_x329 c331 i1u336 c353 r_x402 hh_x402 ex403 dv_x403 r_x406 c407 c458 ex511 r_x513 q_x513 wh_x513 r_x515 q_x515 hh_x515 ex516 dv_x516) (qm433 r_x12 r_kv13 wh_x12 c14 c26 r_x35 c36 c46 c54 r_x64 q_x64 wh_x64 g_x67 g_x70 c71 c80 c93 g_x316 r_kv317 gl_x316 dr_x320 c321 dr_x323 lr_x323 ex324 g_x327 ex329 dv_x329 dw_x329 c331 i1u336 c353 r_x402 hh_x402 ex403 dv_x403 r_x406 c407 c458 ex511 r_x513 q_x513 wh_x513 r_x515 q_x515 hh_x515 ex516 dv_x516) (qm434 r_x12 r_kv13 wh_x12 c14 c26 r_x35 c36 c46 c54 r_x64 q_x64 wh_x64 g_x67 g_x70 c71 c80 c93 g_x316 r_kv317 gl_x316 dr_x320 c321 dr_x323 lr_x323 ex324 g_x327 ex329 dv_x329 dw_x329 c331 i1u336 c353 r_x402 hh_x402 ex403 dv_x403 r_x406 c407 c458 ex511 r_x513 q_x513 wh_x513 r_x515 q_x515 hh_x515 ex516 dv_x516) ⟨_, ea3⟩ (fun x518 S519 hI2 g520 p_x518 => ?_)
                              subst p_x518
                              intro _
                              intro x522 ex522
                              have i523 : vp_in ((2 : Int32) + w350) (hN _ a319) := (vin l_a319 (m := 7) (by decide) (qm435 r_x12 r_kv13 wh_x12 c14 c26 r_x35 c36 c46 c54 r_x64 q_x64 wh_x64 g_x67 g_x70 c71 c80 c93 g_x316 r_kv317 gl_x316 dr_x320 c321 dr_x323 lr_x323 ex324 g_x327 ex329 dv_x329 dw_x329 c331 i1u336 c353 r_x402 hh_x402 ex403 dv_x403 r_x406 c407 c458 ex511 r_x513 q_x513 wh_x513 r_x515 q_x515 hh_x515 ex516 dv_x516))
                              refine ⟨i523, ?_⟩
                              intro S524 eS524
                              have hIn : IV S524 := by rw [eS524]; exact iv11_aD hI (de_free (qm436 r_x12 r_kv13 wh_x12 c14 c26 r_x35 c36 c46 c54 r_x64 q_x64 wh_x64 g_x67 g_x70 c71 c80 c93 g_x316 r_kv317 gl_x316 dr_x320 c321 dr_x323 lr_x323 ex324 g_x327 ex329 dv_x329 dw_x329 c331 i1u336 c353 r_x402 hh_x402 ex403 dv_x403 r_x406 c407 c458 ex511 r_x513 q_x513 wh_x513 r_x515 q_x515 hh_x515 ex516 dv_x516))
                              have el328 := el_J eS524 el328
                              have hI := hIn
                              have f0 := fr_J eS524 f0
                              have fL339 := fr_J eS524 fL339
                              have d_kv2 := rd_J eS524 d_kv2
                              have d_x513 := rd_J eS524 d_x513
                              have d_kv13 := rd_J eS524 d_kv13
                              have d_x35 := rd_J eS524 d_x35
                              have d_kv317 := rd_J eS524 d_kv317
                              have d_x515 := rd_J eS524 d_x515
                              have d_x406 := rd_J eS524 d_x406
                              have d_x457 := rd_J eS524 d_x457
                              have ea3 := rf_J eS524 ea3
                              have ea66 := rf_J eS524 ea66
                              have ea69 := rf_J eS524 ea69
                              have ea315 := rf_J eS524 ea315
                              have ea319 := rf_J eS524 ea319
                              have ea326 := rf_J eS524 ea326
                              have l_a315 := ln_J eS524 l_a315
                              have l_a319 := ln_J eS524 l_a319
                              have l_a326 := ln_J eS524 l_a326
                              have l_a66 := ln_J eS524 l_a66
                              have l_a69 := ln_J eS524 l_a69
                              have g0 := gr_J eS524 g0
                              have gL338 := gr_J eS524 gL338
                              have o_a3 := ob_J eS524 o_a3
                              have o_a315 := ob_J eS524 o_a315
                              have o_a319 := ob_J eS524 o_a319
                              have o_a326 := ob_J eS524 o_a326
                              have o_a66 := ob_J eS524 o_a66
                              have o_a69 := ob_J eS524 o_a69
                              have o_v0 := ob_J eS524 o_v0
                              intro x525 ex525
                              exact ih352 _ _ _ _ _ _ _ ⟨hI, gL338, fL339, rfl, rfl, rfl, rfl, rfl, (qm437 r_x12 r_kv13 wh_x12 c14 c26 r_x35 c36 c46 c54 r_x64 q_x64 wh_x64 g_x67 g_x70 c71 c80 c93 g_x316 r_kv317 gl_x316 dr_x320 c321 dr_x323 lr_x323 ex324 g_x327 ex329 dv_x329 dw_x329 c331 i1u336 c353 r_x402 hh_x402 ex403 dv_x403 r_x406 c407 c458 ex511 r_x513 q_x513 wh_x513 r_x515 q_x515 hh_x515 ex516 dv_x516 ex525), el328⟩ (mu_up (qm438 r_x12 r_kv13 wh_x12 c14 c26 r_x35 c36 c46 c54 r_x64 q_x64 wh_x64 g_x67 g_x70 c71 c80 c93 g_x316 r_kv317 gl_x316 dr_x320 c321 dr_x323 lr_x323 ex324 g_x327 ex329 dv_x329 dw_x329 c331 i1u336 c353 r_x402 hh_x402 ex403 dv_x403 r_x406 c407 c458 ex511 r_x513 q_x513 wh_x513 r_x515 q_x515 hh_x515 ex516 dv_x516 ex525) (qm439 r_x12 r_kv13 wh_x12 c14 c26 r_x35 c36 c46 c54 r_x64 q_x64 wh_x64 g_x67 g_x70 c71 c80 c93 g_x316 r_kv317 gl_x316 dr_x320 c321 dr_x323 lr_x323 ex324 g_x327 ex329 dv_x329 dw_x329 c331 i1u336 c353 r_x402 hh_x402 ex403 dv_x403 r_x406 c407 c458 ex511 r_x513 q_x513 wh_x513 r_x515 q_x515 hh_x515 ex516 dv_x516 ex525))
                      · refine u_X11_refused ?_
                        refine u_X11_refused_0 ?_
                        refine ⟨o_v0, ?_⟩
                        intro S526 eS526
                        have hIn : IV S526 := by rw [eS526]; exact iv11_sI hI o_v0 (by decide) (nu_free (by decide))
                        have el328 := el_ob eS526 o_v0 o_a326 (by decide) el328
                        have hI := hIn
                        have f0 := fr_I eS526 g0 f0 o_v0 (by decide)
                        have d_kv2 := rd_Ij eS526 (by decide) d_kv2
                        have d_x64 := rd_Ij eS526 (by decide) d_x64
                        have d_kv13 := rd_Ik eS526 o_v0 o_a3 (by decide) d_kv13
                        have d_x35 := rd_Ik eS526 o_v0 o_a3 (by decide) d_x35
                        have d_kv317 := rd_Ik eS526 o_v0 o_a3 (by decide) d_kv317
                        obtain ⟨kv527, hkv527⟩ : ∃ z : Int32, z = (3 : Int32) := ⟨_, rfl⟩
                        have d_kv527 := rd_Is eS526 hkv527
                        have ea3 := rf_I eS526 ea3
                        have ea66 := rf_I eS526 ea66
                        have ea69 := rf_I eS526 ea69
                        have ea315 := rf_I eS526 ea315
                        have ea319 := rf_I eS526 ea319
                        have ea326 := rf_I eS526 ea326
                        have l_a315 := ln_I eS526 l_a315
                        have l_a319 := ln_I eS526 l_a319
                        have l_a326 := ln_I eS526 l_a326
                        have l_a66 := ln_I eS526 l_a66
                        have l_a69 := ln_I eS526 l_a69
                        have g0 := gr_I eS526 g0
                        have o_a3 := ob_I eS526 o_a3
                        have o_a315 := ob_I eS526 o_a315
                        have o_a319 := ob_I eS526 o_a319
                        have o_a326 := ob_I eS526 o_a326
                        have o_a66 := ob_I eS526 o_a66
                        have o_a69 := ob_I eS526 o_a69
                        have o_v0 := ob_I eS526 o_v0
                        intro S528 eS528
                        have hIn : IV S528 := by rw [eS528]; exact iv11_sI hI o_v0 (by decide) (nu_free (by decide))
                        have el328 := el_ob eS528 o_v0 o_a326 (by decide) el328
                        have hI := hIn
                        have f0 := fr_I eS528 g0 f0 o_v0 (by decide)
                        have d_kv2 := rd_Ij eS528 (by decide) d_kv2
                        have d_x64 := rd_Ij eS528 (by decide) d_x64
                        have d_kv13 := rd_Ik eS528 o_v0 o_a3 (by decide) d_kv13
                        have d_x35 := rd_Ik eS528 o_v0 o_a3 (by decide) d_x35
                        have d_kv317 := rd_Ik eS528 o_v0 o_a3 (by decide) d_kv317
                        have d_kv527 := rd_Ij eS528 (by decide) d_kv527
                        obtain ⟨kv529, hkv529⟩ : ∃ z : Int32, z = (-1 : Int32) := ⟨_, rfl⟩
                        have d_kv529 := rd_Is eS528 hkv529
                        have ea3 := rf_I eS528 ea3
                        have ea66 := rf_I eS528 ea66
                        have ea69 := rf_I eS528 ea69
                        have ea315 := rf_I eS528 ea315
                        have ea319 := rf_I eS528 ea319
                        have ea326 := rf_I eS528 ea326
                        have l_a315 := ln_I eS528 l_a315
                        have l_a319 := ln_I eS528 l_a319
                        have l_a326 := ln_I eS528 l_a326
                        have l_a66 := ln_I eS528 l_a66
                        have l_a69 := ln_I eS528 l_a69
                        have g0 := gr_I eS528 g0
                        have o_a3 := ob_I eS528 o_a3
                        have o_a315 := ob_I eS528 o_a315
                        have o_a319 := ob_I eS528 o_a319
                        have o_a326 := ob_I eS528 o_a326
                        have o_a66 := ob_I eS528 o_a66
                        have o_a69 := ob_I eS528 o_a69
                        have o_v0 := ob_I eS528 o_v0
                        intro _
                        exact hq _ _ hI g0 f0
                    · refine u_X11_refused ?_
                      refine u_X11_refused_0 ?_
                      refine ⟨o_v0, ?_⟩
                      intro S531 eS531
                      have hIn : IV S531 := by rw [eS531]; exact iv11_sI hI o_v0 (by decide) (nu_free (by decide))
                      have hI := hIn
                      have f0 := fr_I eS531 g0 f0 o_v0 (by decide)
                      have d_kv2 := rd_Ij eS531 (by decide) d_kv2
                      have d_x64 := rd_Ij eS531 (by decide) d_x64
                      have d_kv13 := rd_Ik eS531 o_v0 o_a3 (by decide) d_kv13
                      have d_x35 := rd_Ik eS531 o_v0 o_a3 (by decide) d_x35
                      have d_kv317 := rd_Ik eS531 o_v0 o_a3 (by decide) d_kv317
                      obtain ⟨kv532, hkv532⟩ : ∃ z : Int32, z = (5 : Int32) := ⟨_, rfl⟩
                      have d_kv532 := rd_Is eS531 hkv532
                      have ea3 := rf_I eS531 ea3
                      have ea66 := rf_I eS531 ea66
                      have ea69 := rf_I eS531 ea69
                      have ea315 := rf_I eS531 ea315
                      have ea319 := rf_I eS531 ea319
                      have l_a315 := ln_I eS531 l_a315
                      have l_a319 := ln_I eS531 l_a319
                      have l_a66 := ln_I eS531 l_a66
                      have l_a69 := ln_I eS531 l_a69
                      have g0 := gr_I eS531 g0
                      have o_a3 := ob_I eS531 o_a3
                      have o_a315 := ob_I eS531 o_a315
                      have o_a319 := ob_I eS531 o_a319
                      have o_a66 := ob_I eS531 o_a66
                      have o_a69 := ob_I eS531 o_a69
                      have o_v0 := ob_I eS531 o_v0
                      intro S533 eS533
                      have hIn : IV S533 := by rw [eS533]; exact iv11_sI hI o_v0 (by decide) (nu_free (by decide))
                      have hI := hIn
                      have f0 := fr_I eS533 g0 f0 o_v0 (by decide)
                      have d_kv2 := rd_Ij eS533 (by decide) d_kv2
                      have d_x64 := rd_Ij eS533 (by decide) d_x64
                      have d_kv13 := rd_Ik eS533 o_v0 o_a3 (by decide) d_kv13
                      have d_x35 := rd_Ik eS533 o_v0 o_a3 (by decide) d_x35
                      have d_kv317 := rd_Ik eS533 o_v0 o_a3 (by decide) d_kv317
                      have d_kv532 := rd_Ij eS533 (by decide) d_kv532
                      obtain ⟨kv534, hkv534⟩ : ∃ z : Int32, z = (-1 : Int32) := ⟨_, rfl⟩
                      have d_kv534 := rd_Is eS533 hkv534
                      have ea3 := rf_I eS533 ea3
                      have ea66 := rf_I eS533 ea66
                      have ea69 := rf_I eS533 ea69
                      have ea315 := rf_I eS533 ea315
                      have ea319 := rf_I eS533 ea319
                      have l_a315 := ln_I eS533 l_a315
                      have l_a319 := ln_I eS533 l_a319
                      have l_a66 := ln_I eS533 l_a66
                      have l_a69 := ln_I eS533 l_a69
                      have g0 := gr_I eS533 g0
                      have o_a3 := ob_I eS533 o_a3
                      have o_a315 := ob_I eS533 o_a315
                      have o_a319 := ob_I eS533 o_a319
                      have o_a66 := ob_I eS533 o_a66
                      have o_a69 := ob_I eS533 o_a69
                      have o_v0 := ob_I eS533 o_v0
                      intro _
                      exact hq _ _ hI g0 f0
