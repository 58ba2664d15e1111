set_option maxHeartbeats 4000000 in
set_option maxRecDepth 20000 in
theorem m_X7_reckonMinute {v0 : Nat} {v1 : Int32} {v2 : Int32} {Q : HS → Prop} {S : HS} (hI : IV S) (o_v0 : ob S v0 7)   (h2 : 0 ≤ v2 ∧ v2 ≤ 400) (hM : WM S v0) (hq : ∀ (T : HS), IV T → Gr S T → FRI [] [] S T → (WM T v0) → Q T) : P_X7_reckonMinute v0 v1 v2 Q S := by
  have g0 := gr_rf S
  have f0 := fri_rf [] [] S
  refine u_X7_reckonMinute ?_
  refine u_X7_reckonMinute_0 ?_
  refine i_X7_reckonMinute_2 (fun (y0 : Nat) (y1 : Int32) (y2 : Int32) (y3 : Int32) (Z : HS) => ((2147483647 : Int32).toInt - y3.toInt).toNat) (fun (y0 : Nat) (y1 : Int32) (y2 : Int32) (y3 : Int32) (Z : HS) => (IV Z) ∧ (Gr S Z) ∧ (FRI [] [] S Z) ∧ (v0 = y0) ∧ (v1 = y1) ∧ (v2 = y2) ∧ (WM Z v0) ∧ (0 ≤ y3)) ?_ _ _ _ _ _ ⟨hI, (gr_rf _), (fri_rf _ _ _), rfl, rfl, rfl, hM, (q82)⟩
  intro w5 w7 w9 w11 S2 X12 ⟨hI, gL3, fL4, q6, q8, q10, hM, i1u1⟩ ih13
  subst q6
  subst q8
  subst q10
  have f0 := fri_tr (S := S) g0 f0 fL4 (by decide) (by decide)
  have o_v0 := gr_ob gL3 o_v0
  have g0 := gr_tr (T := S) g0 gL3
  refine u_X7_reckonMinute_2 ?_
  refine ⟨fun c14 => ?_, fun c14 => ?_⟩
  · refine u_X7_reckonMinute_60 ?_
    refine i_X7_reckonMinute_62 (fun (y0 : Nat) (y2 : Int32) (y3 : Int32) (Z : HS) => ((2147483647 : Int32).toInt - y3.toInt).toNat) (fun (y0 : Nat) (y2 : Int32) (y3 : Int32) (Z : HS) => (IV Z) ∧ (Gr S2 Z) ∧ (FRI [] [] S2 Z) ∧ (v0 = y0) ∧ (v2 = y2) ∧ (WM Z v0) ∧ (0 ≤ y3)) ?_ _ _ _ _ ⟨hI, (gr_rf _), (fri_rf _ _ _), rfl, rfl, hM, (q849 i1u1 c14)⟩
    intro w19 w21 w23 S16 X24 ⟨hI, gL17, fL18, q20, q22, hM, i1u15⟩ ih25
    subst q20
    subst q22
    have f0 := fri_tr (S := S2) g0 f0 fL18 (by decide) (by decide)
    have o_v0 := gr_ob gL17 o_v0
    have g0 := gr_tr (T := S2) g0 gL17
    refine u_X7_reckonMinute_62 ?_
    refine ⟨o_v0, ?_⟩
    intro x26 ex26
    have r_x26 : (0 : Int32) ≤ x26 ∧ x26 ≤ (224 : Int32) := by rw [ex26]; exact nu 8 rfl hI o_v0
    have d_x26 := ex26
    refine ⟨fun c27 => ?_, fun c27 => ?_⟩
    · exact hq _ hI g0 f0 hM
    · refine ⟨fun c28 => ?_, fun c28 => ?_⟩
      · exact hq _ hI g0 f0 hM
      · obtain ⟨a29, ea29, o_a29, -⟩ := sh 24 rfl hI o_v0
        have l_a29 := wm hM 3 rfl ea29
        refine ⟨a29, ea29, ?_⟩
        refine ⟨o_a29, ?_⟩
        refine ⟨(vin l_a29 (m := 224) (by decide) (q850 i1u1 c14 i1u15 r_x26 c27 c28)), ?_⟩
        intro x30 ex30
        intro x31 ex31
        obtain ⟨a32, ea32, o_a32, -⟩ := sh 25 rfl hI o_v0
        have l_a32 := wm hM 4 rfl ea32
        refine ⟨a32, ea32, ?_⟩
        refine ⟨o_a32, ?_⟩
        refine ⟨(vin l_a32 (m := 224) (by decide) (q850 i1u1 c14 i1u15 r_x26 c27 c28)), ?_⟩
        intro x33 ex33
        intro x34 ex34
        obtain ⟨a35, ea35, o_a35, -⟩ := sh 26 rfl hI o_v0
        have l_a35 := wm hM 5 rfl ea35
        refine ⟨a35, ea35, ?_⟩
        refine ⟨o_a35, ?_⟩
        refine ⟨(vin l_a35 (m := 224) (by decide) (q850 i1u1 c14 i1u15 r_x26 c27 c28)), ?_⟩
        intro x36 ex36
        intro x37 ex37
        have d_x37 := ex37
        refine ⟨fun c38 => ?_, fun c38 => ?_⟩
        · refine u_X7_reckonMinute_117 ?_
          refine ⟨fun c39 => ?_, fun c39 => ?_⟩
          · refine u_X7_reckonMinute_219 ?_
            intro x40 ex40
            exact ih25 _ _ _ _ ⟨hI, gL17, fL18, rfl, rfl, hM, (q851 h2 i1u1 c14 i1u15 r_x26 c27 c28 ex31 ex34 c38 ex40)⟩ (mu_up (q852 h2 i1u1 c14 i1u15 r_x26 c27 c28 ex31 ex34 c38 ex40) (q853 h2 i1u1 c14 i1u15 r_x26 c27 c28 ex31 ex34 c38 ex40))
          · refine ⟨fun c41 => ?_, fun c41 => ?_⟩
            · refine u_X7_reckonMinute_219 ?_
              intro x42 ex42
              exact ih25 _ _ _ _ ⟨hI, gL17, fL18, rfl, rfl, hM, (q854 h2 i1u1 c14 i1u15 r_x26 c27 c28 ex31 ex34 c38 c39 c41 ex42)⟩ (mu_up (q855 h2 i1u1 c14 i1u15 r_x26 c27 c28 ex31 ex34 c38 c39 c41 ex42) (q856 h2 i1u1 c14 i1u15 r_x26 c27 c28 ex31 ex34 c38 c39 c41 ex42))
            · refine ⟨o_v0, ?_⟩
              obtain ⟨a43, ea43, o_a43, -⟩ := sh 22 rfl hI o_v0
              have l_a43 := wm hM 1 rfl ea43
              refine ⟨a43, ea43, ?_⟩
              refine ⟨o_a43, ?_⟩
              have n_a43 : nI (hN S16 a43) = 3208 := by rw [show hN S16 a43 = 3208 from l_a43]; decide
              refine ⟨fun c44 => ?_, fun c44 => ?_⟩
              · rw [n_a43] at c44
                refine u_X7_reckonMinute_219 ?_
                intro x45 ex45
                exact ih25 _ _ _ _ ⟨hI, gL17, fL18, rfl, rfl, hM, (q857 h2 i1u1 c14 i1u15 r_x26 c27 c28 ex31 ex34 c38 c39 c41 c44 ex45)⟩ (mu_up (q858 h2 i1u1 c14 i1u15 r_x26 c27 c28 ex31 ex34 c38 c39 c41 c44 ex45) (q859 h2 i1u1 c14 i1u15 r_x26 c27 c28 ex31 ex34 c38 c39 c41 c44 ex45))
              · rw [n_a43] at c44
                refine ⟨fun c46 => ?_, fun c46 => ?_⟩
                · refine u_X7_reckonMinute_219 ?_
                  intro x47 ex47
                  exact ih25 _ _ _ _ ⟨hI, gL17, fL18, rfl, rfl, hM, (q860 h2 i1u1 c14 i1u15 r_x26 c27 c28 ex31 ex34 c38 c39 c41 c44 c46 ex47)⟩ (mu_up (q861 h2 i1u1 c14 i1u15 r_x26 c27 c28 ex31 ex34 c38 c39 c41 c44 c46 ex47) (q862 h2 i1u1 c14 i1u15 r_x26 c27 c28 ex31 ex34 c38 c39 c41 c44 c46 ex47))
                · refine ⟨a43, ea43, ?_⟩
                  refine ⟨o_a43, ?_⟩
                  have n_a43 : nI (hN S16 a43) = 3208 := by rw [show hN S16 a43 = 3208 from l_a43]; decide
                  refine ⟨fun c49 => ?_, fun c49 => ?_⟩
                  · rw [n_a43] at c49
                    refine u_X7_reckonMinute_219 ?_
                    intro x50 ex50
                    exact ih25 _ _ _ _ ⟨hI, gL17, fL18, rfl, rfl, hM, (q863 h2 i1u1 c14 i1u15 r_x26 c27 c28 ex31 ex34 c38 c39 c41 c44 c46 c49 ex50)⟩ (mu_up (q864 h2 i1u1 c14 i1u15 r_x26 c27 c28 ex31 ex34 c38 c39 c41 c44 c46 c49 ex50) (q865 h2 i1u1 c14 i1u15 r_x26 c27 c28 ex31 ex34 c38 c39 c41 c44 c46 c49 ex50))
                  · rw [n_a43] at c49
                    refine ⟨a43, ea43, ?_⟩
                    refine ⟨o_a43, ?_⟩
                    refine ⟨(vin l_a43 (m := 3208) (by decide) (q866 h2 i1u1 c14 i1u15 r_x26 c27 c28 ex31 ex34 c38 c39 c41 c44 c46 c49)), ?_⟩
                    intro x52 ex52
                    refine ⟨fun c53 => ?_, fun c53 => ?_⟩
                    · refine u_X7_reckonMinute_219 ?_
                      intro x54 ex54
                      exact ih25 _ _ _ _ ⟨hI, gL17, fL18, rfl, rfl, hM, (q867 h2 i1u1 c14 i1u15 r_x26 c27 c28 ex31 ex34 c38 c39 c41 c44 c46 c49 c53 ex54)⟩ (mu_up (q868 h2 i1u1 c14 i1u15 r_x26 c27 c28 ex31 ex34 c38 c39 c41 c44 c46 c49 c53 ex54) (q869 h2 i1u1 c14 i1u15 r_x26 c27 c28 ex31 ex34 c38 c39 c41 c44 c46 c49 c53 ex54))
                    · obtain ⟨a55, ea55, o_a55, -⟩ := sh 27 rfl hI o_v0
                      have l_a55 := wm hM 6 rfl ea55
                      refine ⟨a55, ea55, ?_⟩
                      refine ⟨o_a55, ?_⟩
                      refine ⟨(vin l_a55 (m := 224) (by decide) (q870 h2 i1u1 c14 i1u15 r_x26 c27 c28 ex31 ex34 c38 c39 c41 c44 c46 c49 c53)), ?_⟩
                      intro x56 ex56
                      refine ⟨a43, ea43, ?_⟩
                      refine ⟨o_a43, ?_⟩
                      refine ⟨(vin l_a43 (m := 3208) (by decide) (q871 h2 i1u1 c14 i1u15 r_x26 c27 c28 ex31 ex34 c38 c39 c41 c44 c46 c49 c53)), ?_⟩
                      intro x58 ex58
                      intro x59 ex59
                      refine ⟨a43, ea43, ?_⟩
                      refine ⟨o_a43, ?_⟩
                      refine ⟨(vin l_a43 (m := 3208) (by decide) (q872 h2 i1u1 c14 i1u15 r_x26 c27 c28 ex31 ex34 c38 c39 c41 c44 c46 c49 c53)), ?_⟩
                      intro x61 ex61
                      refine ⟨fun c62 => ?_, fun c62 => ?_⟩
                      · refine u_X7_reckonMinute_219 ?_
                        intro x63 ex63
                        exact ih25 _ _ _ _ ⟨hI, gL17, fL18, rfl, rfl, hM, (q873 h2 i1u1 c14 i1u15 r_x26 c27 c28 ex31 ex34 c38 c39 c41 c44 c46 c49 c53 ex59 c62 ex63)⟩ (mu_up (q874 h2 i1u1 c14 i1u15 r_x26 c27 c28 ex31 ex34 c38 c39 c41 c44 c46 c49 c53 ex59 c62 ex63) (q875 h2 i1u1 c14 i1u15 r_x26 c27 c28 ex31 ex34 c38 c39 c41 c44 c46 c49 c53 ex59 c62 ex63))
                      · refine ⟨a43, ea43, ?_⟩
                        refine ⟨o_a43, ?_⟩
                        have i65 : vp_in x31 (hN _ a43) := (vin l_a43 (m := 3208) (by decide) (q876 h2 i1u1 c14 i1u15 r_x26 c27 c28 ex31 ex34 c38 c39 c41 c44 c46 c49 c53 ex59 c62))
                        refine ⟨i65, ?_⟩
                        intro S66 eS66
                        have hI : IV S66 := by rw [eS66]; exact iv_aJ hI o_v0 (by decide) ea43 o_a43 (by decide)
                        have f0 := fr_J eS66 f0
                        have fL18 := fr_J eS66 fL18
                        have d_x26 := rd_J eS66 d_x26
                        have d_x37 := rd_J eS66 d_x37
                        have ea29 := rf_J eS66 ea29
                        have ea32 := rf_J eS66 ea32
                        have ea35 := rf_J eS66 ea35
                        have ea43 := rf_J eS66 ea43
                        have ea55 := rf_J eS66 ea55
                        have hM := wm_J eS66 hM
                        have l_a29 := ln_J eS66 l_a29
                        have l_a32 := ln_J eS66 l_a32
                        have l_a35 := ln_J eS66 l_a35
                        have l_a43 := ln_J eS66 l_a43
                        have l_a55 := ln_J eS66 l_a55
                        have g0 := gr_J eS66 g0
                        have gL17 := gr_J eS66 gL17
                        have o_a29 := ob_J eS66 o_a29
                        have o_a32 := ob_J eS66 o_a32
                        have o_a35 := ob_J eS66 o_a35
                        have o_a43 := ob_J eS66 o_a43
                        have o_a55 := ob_J eS66 o_a55
                        have o_v0 := ob_J eS66 o_v0
                        obtain ⟨a67, ea67, o_a67, -⟩ := sh 23 rfl hI o_v0
                        have l_a67 := wm hM 2 rfl ea67
                        refine ⟨a67, ea67, ?_⟩
                        obtain ⟨a68, ea68, o_a68, -⟩ := sh 28 rfl hI o_v0
                        have l_a68 := wm hM 7 rfl ea68
                        refine ⟨a68, ea68, ?_⟩
                        refine ⟨o_a68, ?_⟩
                        refine ⟨(vin l_a68 (m := 224) (by decide) (q877 h2 i1u1 c14 i1u15 r_x26 c27 c28 ex31 ex34 c38 c39 c41 c44 c46 c49 c53 ex59 c62)), ?_⟩
                        intro x69 ex69
                        refine ⟨o_a67, ?_⟩
                        have i70 : vp_in x31 (hN _ a67) := (vin l_a67 (m := 3208) (by decide) (q876 h2 i1u1 c14 i1u15 r_x26 c27 c28 ex31 ex34 c38 c39 c41 c44 c46 c49 c53 ex59 c62))
                        refine ⟨i70, ?_⟩
                        intro S71 eS71
                        have hI : IV S71 := by rw [eS71]; exact iv_aI hI o_v0 (by decide) ea67 o_a67 (by decide)
                        have f0 := fr_A eS71 g0 f0 o_a67 (by decide)
                        have fL18 := fr_A eS71 gL17 fL18 o_a67 (by decide)
                        have d_x26 := rd_Ik eS71 o_a67 o_v0 (by decide) d_x26
                        have d_x37 := rd_Ik eS71 o_a67 o_v0 (by decide) d_x37
                        have ea29 := rf_I eS71 ea29
                        have ea32 := rf_I eS71 ea32
                        have ea35 := rf_I eS71 ea35
                        have ea43 := rf_I eS71 ea43
                        have ea55 := rf_I eS71 ea55
                        have ea67 := rf_I eS71 ea67
                        have ea68 := rf_I eS71 ea68
                        have hM := wm_I eS71 hM
                        have l_a29 := ln_I eS71 l_a29
                        have l_a32 := ln_I eS71 l_a32
                        have l_a35 := ln_I eS71 l_a35
                        have l_a43 := ln_I eS71 l_a43
                        have l_a55 := ln_I eS71 l_a55
                        have l_a67 := ln_I eS71 l_a67
                        have l_a68 := ln_I eS71 l_a68
                        have g0 := gr_I eS71 g0
                        have gL17 := gr_I eS71 gL17
                        have o_a29 := ob_I eS71 o_a29
                        have o_a32 := ob_I eS71 o_a32
                        have o_a35 := ob_I eS71 o_a35
                        have o_a43 := ob_I eS71 o_a43
                        have o_a55 := ob_I eS71 o_a55
                        have o_a67 := ob_I eS71 o_a67
                        have o_a68 := ob_I eS71 o_a68
                        have o_v0 := ob_I eS71 o_v0
                        refine u_X7_reckonMinute_219 ?_
                        intro x72 ex72
                        exact ih25 _ _ _ _ ⟨hI, gL17, fL18, rfl, rfl, hM, (q878 h2 i1u1 c14 i1u15 r_x26 c27 c28 ex31 ex34 c38 c39 c41 c44 c46 c49 c53 ex59 c62 ex72)⟩ (mu_up (q879 h2 i1u1 c14 i1u15 r_x26 c27 c28 ex31 ex34 c38 c39 c41 c44 c46 c49 c53 ex59 c62 ex72) (q880 h2 i1u1 c14 i1u15 r_x26 c27 c28 ex31 ex34 c38 c39 c41 c44 c46 c49 c53 ex59 c62 ex72))
        · refine u_X7_reckonMinute_117 ?_
          refine ⟨fun c73 => ?_, fun c73 => ?_⟩
          · refine u_X7_reckonMinute_219 ?_
            intro x74 ex74
            exact ih25 _ _ _ _ ⟨hI, gL17, fL18, rfl, rfl, hM, (q881 h2 i1u1 c14 i1u15 r_x26 c27 c28 ex31 ex34 c38 c73 ex74)⟩ (mu_up (q882 h2 i1u1 c14 i1u15 r_x26 c27 c28 ex31 ex34 c38 c73 ex74) (q883 h2 i1u1 c14 i1u15 r_x26 c27 c28 ex31 ex34 c38 c73 ex74))
          · refine ⟨fun c75 => ?_, fun c75 => ?_⟩
            · refine u_X7_reckonMinute_219 ?_
              intro x76 ex76
              exact ih25 _ _ _ _ ⟨hI, gL17, fL18, rfl, rfl, hM, (q884 h2 i1u1 c14 i1u15 r_x26 c27 c28 ex31 ex34 c38 c75 ex76)⟩ (mu_up (q885 h2 i1u1 c14 i1u15 r_x26 c27 c28 ex31 ex34 c38 c75 ex76) (q886 h2 i1u1 c14 i1u15 r_x26 c27 c28 ex31 ex34 c38 c75 ex76))
            · refine ⟨o_v0, ?_⟩
              obtain ⟨a77, ea77, o_a77, -⟩ := sh 22 rfl hI o_v0
              have l_a77 := wm hM 1 rfl ea77
              refine ⟨a77, ea77, ?_⟩
              refine ⟨o_a77, ?_⟩
              have n_a77 : nI (hN S16 a77) = 3208 := by rw [show hN S16 a77 = 3208 from l_a77]; decide
              refine ⟨fun c78 => ?_, fun c78 => ?_⟩
              · rw [n_a77] at c78
                refine u_X7_reckonMinute_219 ?_
                intro x79 ex79
                exact ih25 _ _ _ _ ⟨hI, gL17, fL18, rfl, rfl, hM, (q887 h2 i1u1 c14 i1u15 r_x26 c27 c28 ex31 ex34 c38 c75 c78 ex79)⟩ (mu_up (q888 h2 i1u1 c14 i1u15 r_x26 c27 c28 ex31 ex34 c38 c75 c78 ex79) (q889 h2 i1u1 c14 i1u15 r_x26 c27 c28 ex31 ex34 c38 c75 c78 ex79))
              · rw [n_a77] at c78
                refine ⟨fun c80 => ?_, fun c80 => ?_⟩
                · refine u_X7_reckonMinute_219 ?_
                  intro x81 ex81
                  exact ih25 _ _ _ _ ⟨hI, gL17, fL18, rfl, rfl, hM, (q890 h2 i1u1 c14 i1u15 r_x26 c27 c28 ex31 ex34 c38 c75 c78 c80 ex81)⟩ (mu_up (q891 h2 i1u1 c14 i1u15 r_x26 c27 c28 ex31 ex34 c38 c75 c78 c80 ex81) (q892 h2 i1u1 c14 i1u15 r_x26 c27 c28 ex31 ex34 c38 c75 c78 c80 ex81))
                · refine ⟨a77, ea77, ?_⟩
                  refine ⟨o_a77, ?_⟩
                  have n_a77 : nI (hN S16 a77) = 3208 := by rw [show hN S16 a77 = 3208 from l_a77]; decide
                  refine ⟨fun c83 => ?_, fun c83 => ?_⟩
                  · rw [n_a77] at c83
                    refine u_X7_reckonMinute_219 ?_
                    intro x84 ex84
                    exact ih25 _ _ _ _ ⟨hI, gL17, fL18, rfl, rfl, hM, (q893 h2 i1u1 c14 i1u15 r_x26 c27 c28 ex31 ex34 c38 c75 c78 c80 c83 ex84)⟩ (mu_up (q894 h2 i1u1 c14 i1u15 r_x26 c27 c28 ex31 ex34 c38 c75 c78 c80 c83 ex84) (q895 h2 i1u1 c14 i1u15 r_x26 c27 c28 ex31 ex34 c38 c75 c78 c80 c83 ex84))
                  · rw [n_a77] at c83
                    refine ⟨a77, ea77, ?_⟩
                    refine ⟨o_a77, ?_⟩
                    refine ⟨(vin l_a77 (m := 3208) (by decide) (q896 h2 i1u1 c14 i1u15 r_x26 c27 c28 ex31 ex34 c38 c75 c78 c80 c83)), ?_⟩
                    intro x86 ex86
                    refine ⟨fun c87 => ?_, fun c87 => ?_⟩
                    · refine u_X7_reckonMinute_219 ?_
                      intro x88 ex88
                      exact ih25 _ _ _ _ ⟨hI, gL17, fL18, rfl, rfl, hM, (q897 h2 i1u1 c14 i1u15 r_x26 c27 c28 ex31 ex34 c38 c75 c78 c80 c83 c87 ex88)⟩ (mu_up (q898 h2 i1u1 c14 i1u15 r_x26 c27 c28 ex31 ex34 c38 c75 c78 c80 c83 c87 ex88) (q899 h2 i1u1 c14 i1u15 r_x26 c27 c28 ex31 ex34 c38 c75 c78 c80 c83 c87 ex88))
                    · obtain ⟨a89, ea89, o_a89, -⟩ := sh 27 rfl hI o_v0
                      have l_a89 := wm hM 6 rfl ea89
                      refine ⟨a89, ea89, ?_⟩
                      refine ⟨o_a89, ?_⟩
                      refine ⟨(vin l_a89 (m := 224) (by decide) (q900 h2 i1u1 c14 i1u15 r_x26 c27 c28 ex31 ex34 c38 c75 c78 c80 c83 c87)), ?_⟩
                      intro x90 ex90
                      refine ⟨a77, ea77, ?_⟩
                      refine ⟨o_a77, ?_⟩
                      refine ⟨(vin l_a77 (m := 3208) (by decide) (q901 h2 i1u1 c14 i1u15 r_x26 c27 c28 ex31 ex34 c38 c75 c78 c80 c83 c87)), ?_⟩
                      intro x92 ex92
                      intro x93 ex93
                      refine ⟨a77, ea77, ?_⟩
                      refine ⟨o_a77, ?_⟩
                      refine ⟨(vin l_a77 (m := 3208) (by decide) (q902 h2 i1u1 c14 i1u15 r_x26 c27 c28 ex31 ex34 c38 c75 c78 c80 c83 c87)), ?_⟩
                      intro x95 ex95
                      refine ⟨fun c96 => ?_, fun c96 => ?_⟩
                      · refine u_X7_reckonMinute_219 ?_
                        intro x97 ex97
                        exact ih25 _ _ _ _ ⟨hI, gL17, fL18, rfl, rfl, hM, (q903 h2 i1u1 c14 i1u15 r_x26 c27 c28 ex31 ex34 c38 c75 c78 c80 c83 c87 ex93 c96 ex97)⟩ (mu_up (q904 h2 i1u1 c14 i1u15 r_x26 c27 c28 ex31 ex34 c38 c75 c78 c80 c83 c87 ex93 c96 ex97) (q905 h2 i1u1 c14 i1u15 r_x26 c27 c28 ex31 ex34 c38 c75 c78 c80 c83 c87 ex93 c96 ex97))
                      · refine ⟨a77, ea77, ?_⟩
                        refine ⟨o_a77, ?_⟩
                        have i99 : vp_in x31 (hN _ a77) := (vin l_a77 (m := 3208) (by decide) (q906 h2 i1u1 c14 i1u15 r_x26 c27 c28 ex31 ex34 c38 c75 c78 c80 c83 c87 ex93 c96))
                        refine ⟨i99, ?_⟩
                        intro S100 eS100
                        have hI : IV S100 := by rw [eS100]; exact iv_aJ hI o_v0 (by decide) ea77 o_a77 (by decide)
                        have f0 := fr_J eS100 f0
                        have fL18 := fr_J eS100 fL18
                        have d_x26 := rd_J eS100 d_x26
                        have d_x37 := rd_J eS100 d_x37
                        have ea29 := rf_J eS100 ea29
                        have ea32 := rf_J eS100 ea32
                        have ea35 := rf_J eS100 ea35
                        have ea77 := rf_J eS100 ea77
                        have ea89 := rf_J eS100 ea89
                        have hM := wm_J eS100 hM
                        have l_a29 := ln_J eS100 l_a29
                        have l_a32 := ln_J eS100 l_a32
                        have l_a35 := ln_J eS100 l_a35
                        have l_a77 := ln_J eS100 l_a77
                        have l_a89 := ln_J eS100 l_a89
                        have g0 := gr_J eS100 g0
                        have gL17 := gr_J eS100 gL17
                        have o_a29 := ob_J eS100 o_a29
                        have o_a32 := ob_J eS100 o_a32
                        have o_a35 := ob_J eS100 o_a35
                        have o_a77 := ob_J eS100 o_a77
                        have o_a89 := ob_J eS100 o_a89
                        have o_v0 := ob_J eS100 o_v0
                        obtain ⟨a101, ea101, o_a101, -⟩ := sh 23 rfl hI o_v0
                        have l_a101 := wm hM 2 rfl ea101
                        refine ⟨a101, ea101, ?_⟩
                        obtain ⟨a102, ea102, o_a102, -⟩ := sh 28 rfl hI o_v0
                        have l_a102 := wm hM 7 rfl ea102
                        refine ⟨a102, ea102, ?_⟩
                        refine ⟨o_a102, ?_⟩
                        refine ⟨(vin l_a102 (m := 224) (by decide) (q907 h2 i1u1 c14 i1u15 r_x26 c27 c28 ex31 ex34 c38 c75 c78 c80 c83 c87 ex93 c96)), ?_⟩
                        intro x103 ex103
                        refine ⟨o_a101, ?_⟩
                        have i104 : vp_in x31 (hN _ a101) := (vin l_a101 (m := 3208) (by decide) (q906 h2 i1u1 c14 i1u15 r_x26 c27 c28 ex31 ex34 c38 c75 c78 c80 c83 c87 ex93 c96))
                        refine ⟨i104, ?_⟩
                        intro S105 eS105
                        have hI : IV S105 := by rw [eS105]; exact iv_aI hI o_v0 (by decide) ea101 o_a101 (by decide)
                        have f0 := fr_A eS105 g0 f0 o_a101 (by decide)
                        have fL18 := fr_A eS105 gL17 fL18 o_a101 (by decide)
                        have d_x26 := rd_Ik eS105 o_a101 o_v0 (by decide) d_x26
                        have d_x37 := rd_Ik eS105 o_a101 o_v0 (by decide) d_x37
                        have ea29 := rf_I eS105 ea29
                        have ea32 := rf_I eS105 ea32
                        have ea35 := rf_I eS105 ea35
                        have ea77 := rf_I eS105 ea77
                        have ea89 := rf_I eS105 ea89
                        have ea101 := rf_I eS105 ea101
                        have ea102 := rf_I eS105 ea102
                        have hM := wm_I eS105 hM
                        have l_a101 := ln_I eS105 l_a101
                        have l_a102 := ln_I eS105 l_a102
                        have l_a29 := ln_I eS105 l_a29
                        have l_a32 := ln_I eS105 l_a32
                        have l_a35 := ln_I eS105 l_a35
                        have l_a77 := ln_I eS105 l_a77
                        have l_a89 := ln_I eS105 l_a89
                        have g0 := gr_I eS105 g0
                        have gL17 := gr_I eS105 gL17
                        have o_a101 := ob_I eS105 o_a101
                        have o_a102 := ob_I eS105 o_a102
                        have o_a29 := ob_I eS105 o_a29
                        have o_a32 := ob_I eS105 o_a32
                        have o_a35 := ob_I eS105 o_a35
                        have o_a77 := ob_I eS105 o_a77
                        have o_a89 := ob_I eS105 o_a89
                        have o_v0 := ob_I eS105 o_v0
                        refine u_X7_reckonMinute_219 ?_
                        intro x106 ex106
                        exact ih25 _ _ _ _ ⟨hI, gL17, fL18, rfl, rfl, hM, (q908 h2 i1u1 c14 i1u15 r_x26 c27 c28 ex31 ex34 c38 c75 c78 c80 c83 c87 ex93 c96 ex106)⟩ (mu_up (q909 h2 i1u1 c14 i1u15 r_x26 c27 c28 ex31 ex34 c38 c75 c78 c80 c83 c87 ex93 c96 ex106) (q910 h2 i1u1 c14 i1u15 r_x26 c27 c28 ex31 ex34 c38 c75 c78 c80 c83 c87 ex93 c96 ex106))
  · refine ⟨fun c107 => ?_, fun c107 => ?_⟩
    · refine u_X7_reckonMinute_60 ?_
      refine i_X7_reckonMinute_62 (fun (y0 : Nat) (y2 : Int32) (y3 : Int32) (Z : HS) => ((2147483647 : Int32).toInt - y3.toInt).toNat) (fun (y0 : Nat) (y2 : Int32) (y3 : Int32) (Z : HS) => (IV Z) ∧ (Gr S2 Z) ∧ (FRI [] [] S2 Z) ∧ (v0 = y0) ∧ (v2 = y2) ∧ (WM Z v0) ∧ (0 ≤ y3)) ?_ _ _ _ _ ⟨hI, (gr_rf _), (fri_rf _ _ _), rfl, rfl, hM, (q911 i1u1 c14 c107)⟩
      intro w112 w114 w116 S109 X117 ⟨hI, gL110, fL111, q113, q115, hM, i1u108⟩ ih118
      subst q113
      subst q115
      have f0 := fri_tr (S := S2) g0 f0 fL111 (by decide) (by decide)
      have o_v0 := gr_ob gL110 o_v0
      have g0 := gr_tr (T := S2) g0 gL110
      refine u_X7_reckonMinute_62 ?_
      refine ⟨o_v0, ?_⟩
      intro x119 ex119
      have r_x119 : (0 : Int32) ≤ x119 ∧ x119 ≤ (224 : Int32) := by rw [ex119]; exact nu 8 rfl hI o_v0
      have d_x119 := ex119
      refine ⟨fun c120 => ?_, fun c120 => ?_⟩
      · exact hq _ hI g0 f0 hM
      · refine ⟨fun c121 => ?_, fun c121 => ?_⟩
        · exact hq _ hI g0 f0 hM
        · obtain ⟨a122, ea122, o_a122, -⟩ := sh 24 rfl hI o_v0
          have l_a122 := wm hM 3 rfl ea122
          refine ⟨a122, ea122, ?_⟩
          refine ⟨o_a122, ?_⟩
          refine ⟨(vin l_a122 (m := 224) (by decide) (q912 i1u1 c14 c107 i1u108 r_x119 c120 c121)), ?_⟩
          intro x123 ex123
          intro x124 ex124
          obtain ⟨a125, ea125, o_a125, -⟩ := sh 25 rfl hI o_v0
          have l_a125 := wm hM 4 rfl ea125
          refine ⟨a125, ea125, ?_⟩
          refine ⟨o_a125, ?_⟩
          refine ⟨(vin l_a125 (m := 224) (by decide) (q912 i1u1 c14 c107 i1u108 r_x119 c120 c121)), ?_⟩
          intro x126 ex126
          intro x127 ex127
          obtain ⟨a128, ea128, o_a128, -⟩ := sh 26 rfl hI o_v0
          have l_a128 := wm hM 5 rfl ea128
          refine ⟨a128, ea128, ?_⟩
          refine ⟨o_a128, ?_⟩
          refine ⟨(vin l_a128 (m := 224) (by decide) (q912 i1u1 c14 c107 i1u108 r_x119 c120 c121)), ?_⟩
          intro x129 ex129
          intro x130 ex130
          have d_x130 := ex130
          refine ⟨fun c131 => ?_, fun c131 => ?_⟩
          · refine u_X7_reckonMinute_117 ?_
            refine ⟨fun c132 => ?_, fun c132 => ?_⟩
            · refine u_X7_reckonMinute_219 ?_
              intro x133 ex133
              exact ih118 _ _ _ _ ⟨hI, gL110, fL111, rfl, rfl, hM, (q913 h2 i1u1 c14 c107 i1u108 r_x119 c120 c121 ex124 ex127 c131 ex133)⟩ (mu_up (q914 h2 i1u1 c14 c107 i1u108 r_x119 c120 c121 ex124 ex127 c131 ex133) (q915 h2 i1u1 c14 c107 i1u108 r_x119 c120 c121 ex124 ex127 c131 ex133))
            · refine ⟨fun c134 => ?_, fun c134 => ?_⟩
              · refine u_X7_reckonMinute_219 ?_
                intro x135 ex135
                exact ih118 _ _ _ _ ⟨hI, gL110, fL111, rfl, rfl, hM, (q916 h2 i1u1 c14 c107 i1u108 r_x119 c120 c121 ex124 ex127 c131 c132 c134 ex135)⟩ (mu_up (q917 h2 i1u1 c14 c107 i1u108 r_x119 c120 c121 ex124 ex127 c131 c132 c134 ex135) (q918 h2 i1u1 c14 c107 i1u108 r_x119 c120 c121 ex124 ex127 c131 c132 c134 ex135))
              · refine ⟨o_v0, ?_⟩
                obtain ⟨a136, ea136, o_a136, -⟩ := sh 22 rfl hI o_v0
                have l_a136 := wm hM 1 rfl ea136
                refine ⟨a136, ea136, ?_⟩
                refine ⟨o_a136, ?_⟩
                have n_a136 : nI (hN S109 a136) = 3208 := by rw [show hN S109 a136 = 3208 from l_a136]; decide
                refine ⟨fun c137 => ?_, fun c137 => ?_⟩
                · rw [n_a136] at c137
                  refine u_X7_reckonMinute_219 ?_
                  intro x138 ex138
                  exact ih118 _ _ _ _ ⟨hI, gL110, fL111, rfl, rfl, hM, (q919 h2 i1u1 c14 c107 i1u108 r_x119 c120 c121 ex124 ex127 c131 c132 c134 c137 ex138)⟩ (mu_up (q920 h2 i1u1 c14 c107 i1u108 r_x119 c120 c121 ex124 ex127 c131 c132 c134 c137 ex138) (q921 h2 i1u1 c14 c107 i1u108 r_x119 c120 c121 ex124 ex127 c131 c132 c134 c137 ex138))
                · rw [n_a136] at c137
                  refine ⟨fun c139 => ?_, fun c139 => ?_⟩
                  · refine u_X7_reckonMinute_219 ?_
                    intro x140 ex140
                    exact ih118 _ _ _ _ ⟨hI, gL110, fL111, rfl, rfl, hM, (q922 h2 i1u1 c14 c107 i1u108 r_x119 c120 c121 ex124 ex127 c131 c132 c134 c137 c139 ex140)⟩ (mu_up (q923 h2 i1u1 c14 c107 i1u108 r_x119 c120 c121 ex124 ex127 c131 c132 c134 c137 c139 ex140) (q924 h2 i1u1 c14 c107 i1u108 r_x119 c120 c121 ex124 ex127 c131 c132 c134 c137 c139 ex140))
                  · refine ⟨a136, ea136, ?_⟩
                    refine ⟨o_a136, ?_⟩
                    have n_a136 : nI (hN S109 a136) = 3208 := by rw [show hN S109 a136 = 3208 from l_a136]; decide
                    refine ⟨fun c142 => ?_, fun c142 => ?_⟩
                    · rw [n_a136] at c142
                      refine u_X7_reckonMinute_219 ?_
                      intro x143 ex143
                      exact ih118 _ _ _ _ ⟨hI, gL110, fL111, rfl, rfl, hM, (q925 h2 i1u1 c14 c107 i1u108 r_x119 c120 c121 ex124 ex127 c131 c132 c134 c137 c139 c142 ex143)⟩ (mu_up (q926 h2 i1u1 c14 c107 i1u108 r_x119 c120 c121 ex124 ex127 c131 c132 c134 c137 c139 c142 ex143) (q927 h2 i1u1 c14 c107 i1u108 r_x119 c120 c121 ex124 ex127 c131 c132 c134 c137 c139 c142 ex143))
                    · rw [n_a136] at c142
                      refine ⟨a136, ea136, ?_⟩
                      refine ⟨o_a136, ?_⟩
                      refine ⟨(vin l_a136 (m := 3208) (by decide) (q928 h2 i1u1 c14 c107 i1u108 r_x119 c120 c121 ex124 ex127 c131 c132 c134 c137 c139 c142)), ?_⟩
                      intro x145 ex145
                      refine ⟨fun c146 => ?_, fun c146 => ?_⟩
                      · refine u_X7_reckonMinute_219 ?_
                        intro x147 ex147
                        exact ih118 _ _ _ _ ⟨hI, gL110, fL111, rfl, rfl, hM, (q929 h2 i1u1 c14 c107 i1u108 r_x119 c120 c121 ex124 ex127 c131 c132 c134 c137 c139 c142 c146 ex147)⟩ (mu_up (q930 h2 i1u1 c14 c107 i1u108 r_x119 c120 c121 ex124 ex127 c131 c132 c134 c137 c139 c142 c146 ex147) (q931 h2 i1u1 c14 c107 i1u108 r_x119 c120 c121 ex124 ex127 c131 c132 c134 c137 c139 c142 c146 ex147))
                      · obtain ⟨a148, ea148, o_a148, -⟩ := sh 27 rfl hI o_v0
                        have l_a148 := wm hM 6 rfl ea148
                        refine ⟨a148, ea148, ?_⟩
                        refine ⟨o_a148, ?_⟩
                        refine ⟨(vin l_a148 (m := 224) (by decide) (q932 h2 i1u1 c14 c107 i1u108 r_x119 c120 c121 ex124 ex127 c131 c132 c134 c137 c139 c142 c146)), ?_⟩
                        intro x149 ex149
                        refine ⟨a136, ea136, ?_⟩
                        refine ⟨o_a136, ?_⟩
                        refine ⟨(vin l_a136 (m := 3208) (by decide) (q933 h2 i1u1 c14 c107 i1u108 r_x119 c120 c121 ex124 ex127 c131 c132 c134 c137 c139 c142 c146)), ?_⟩
                        intro x151 ex151
                        intro x152 ex152
                        refine ⟨a136, ea136, ?_⟩
                        refine ⟨o_a136, ?_⟩
                        refine ⟨(vin l_a136 (m := 3208) (by decide) (q934 h2 i1u1 c14 c107 i1u108 r_x119 c120 c121 ex124 ex127 c131 c132 c134 c137 c139 c142 c146)), ?_⟩
                        intro x154 ex154
                        refine ⟨fun c155 => ?_, fun c155 => ?_⟩
                        · refine u_X7_reckonMinute_219 ?_
                          intro x156 ex156
                          exact ih118 _ _ _ _ ⟨hI, gL110, fL111, rfl, rfl, hM, (q935 h2 i1u1 c14 c107 i1u108 r_x119 c120 c121 ex124 ex127 c131 c132 c134 c137 c139 c142 c146 ex152 c155 ex156)⟩ (mu_up (q936 h2 i1u1 c14 c107 i1u108 r_x119 c120 c121 ex124 ex127 c131 c132 c134 c137 c139 c142 c146 ex152 c155 ex156) (q937 h2 i1u1 c14 c107 i1u108 r_x119 c120 c121 ex124 ex127 c131 c132 c134 c137 c139 c142 c146 ex152 c155 ex156))
                        · refine ⟨a136, ea136, ?_⟩
                          refine ⟨o_a136, ?_⟩
                          have i158 : vp_in x124 (hN _ a136) := (vin l_a136 (m := 3208) (by decide) (q938 h2 i1u1 c14 c107 i1u108 r_x119 c120 c121 ex124 ex127 c131 c132 c134 c137 c139 c142 c146 ex152 c155))
                          refine ⟨i158, ?_⟩
                          intro S159 eS159
                          have hI : IV S159 := by rw [eS159]; exact iv_aJ hI o_v0 (by decide) ea136 o_a136 (by decide)
                          have f0 := fr_J eS159 f0
                          have fL111 := fr_J eS159 fL111
                          have d_x119 := rd_J eS159 d_x119
                          have d_x130 := rd_J eS159 d_x130
                          have ea122 := rf_J eS159 ea122
                          have ea125 := rf_J eS159 ea125
                          have ea128 := rf_J eS159 ea128
                          have ea136 := rf_J eS159 ea136
                          have ea148 := rf_J eS159 ea148
                          have hM := wm_J eS159 hM
                          have l_a122 := ln_J eS159 l_a122
                          have l_a125 := ln_J eS159 l_a125
                          have l_a128 := ln_J eS159 l_a128
                          have l_a136 := ln_J eS159 l_a136
                          have l_a148 := ln_J eS159 l_a148
                          have g0 := gr_J eS159 g0
                          have gL110 := gr_J eS159 gL110
                          have o_a122 := ob_J eS159 o_a122
                          have o_a125 := ob_J eS159 o_a125
                          have o_a128 := ob_J eS159 o_a128
                          have o_a136 := ob_J eS159 o_a136
                          have o_a148 := ob_J eS159 o_a148
                          have o_v0 := ob_J eS159 o_v0
                          obtain ⟨a160, ea160, o_a160, -⟩ := sh 23 rfl hI o_v0
                          have l_a160 := wm hM 2 rfl ea160
                          refine ⟨a160, ea160, ?_⟩
                          obtain ⟨a161, ea161, o_a161, -⟩ := sh 28 rfl hI o_v0
                          have l_a161 := wm hM 7 rfl ea161
                          refine ⟨a161, ea161, ?_⟩
                          refine ⟨o_a161, ?_⟩
                          refine ⟨(vin l_a161 (m := 224) (by decide) (q939 h2 i1u1 c14 c107 i1u108 r_x119 c120 c121 ex124 ex127 c131 c132 c134 c137 c139 c142 c146 ex152 c155)), ?_⟩
                          intro x162 ex162
                          refine ⟨o_a160, ?_⟩
                          have i163 : vp_in x124 (hN _ a160) := (vin l_a160 (m := 3208) (by decide) (q938 h2 i1u1 c14 c107 i1u108 r_x119 c120 c121 ex124 ex127 c131 c132 c134 c137 c139 c142 c146 ex152 c155))
                          refine ⟨i163, ?_⟩
                          intro S164 eS164
                          have hI : IV S164 := by rw [eS164]; exact iv_aI hI o_v0 (by decide) ea160 o_a160 (by decide)
                          have f0 := fr_A eS164 g0 f0 o_a160 (by decide)
                          have fL111 := fr_A eS164 gL110 fL111 o_a160 (by decide)
                          have d_x119 := rd_Ik eS164 o_a160 o_v0 (by decide) d_x119
                          have d_x130 := rd_Ik eS164 o_a160 o_v0 (by decide) d_x130
                          have ea122 := rf_I eS164 ea122
                          have ea125 := rf_I eS164 ea125
                          have ea128 := rf_I eS164 ea128
                          have ea136 := rf_I eS164 ea136
                          have ea148 := rf_I eS164 ea148
                          have ea160 := rf_I eS164 ea160
                          have ea161 := rf_I eS164 ea161
                          have hM := wm_I eS164 hM
                          have l_a122 := ln_I eS164 l_a122
                          have l_a125 := ln_I eS164 l_a125
                          have l_a128 := ln_I eS164 l_a128
                          have l_a136 := ln_I eS164 l_a136
                          have l_a148 := ln_I eS164 l_a148
                          have l_a160 := ln_I eS164 l_a160
                          have l_a161 := ln_I eS164 l_a161
                          have g0 := gr_I eS164 g0
                          have gL110 := gr_I eS164 gL110
                          have o_a122 := ob_I eS164 o_a122
                          have o_a125 := ob_I eS164 o_a125
                          have o_a128 := ob_I eS164 o_a128
                          have o_a136 := ob_I eS164 o_a136
                          have o_a148 := ob_I eS164 o_a148
                          have o_a160 := ob_I eS164 o_a160
                          have o_a161 := ob_I eS164 o_a161
                          have o_v0 := ob_I eS164 o_v0
                          refine u_X7_reckonMinute_219 ?_
                          intro x165 ex165
                          exact ih118 _ _ _ _ ⟨hI, gL110, fL111, rfl, rfl, hM, (q940 h2 i1u1 c14 c107 i1u108 r_x119 c120 c121 ex124 ex127 c131 c132 c134 c137 c139 c142 c146 ex152 c155 ex165)⟩ (mu_up (q941 h2 i1u1 c14 c107 i1u108 r_x119 c120 c121 ex124 ex127 c131 c132 c134 c137 c139 c142 c146 ex152 c155 ex165) (q942 h2 i1u1 c14 c107 i1u108 r_x119 c120 c121 ex124 ex127 c131 c132 c134 c137 c139 c142 c146 ex152 c155 ex165))
          · refine u_X7_reckonMinute_117 ?_
            refine ⟨fun c166 => ?_, fun c166 => ?_⟩
            · refine u_X7_reckonMinute_219 ?_
              intro x167 ex167
              exact ih118 _ _ _ _ ⟨hI, gL110, fL111, rfl, rfl, hM, (q943 h2 i1u1 c14 c107 i1u108 r_x119 c120 c121 ex124 ex127 c131 c166 ex167)⟩ (mu_up (q944 h2 i1u1 c14 c107 i1u108 r_x119 c120 c121 ex124 ex127 c131 c166 ex167) (q945 h2 i1u1 c14 c107 i1u108 r_x119 c120 c121 ex124 ex127 c131 c166 ex167))
            · refine ⟨fun c168 => ?_, fun c168 => ?_⟩
              · refine u_X7_reckonMinute_219 ?_
                intro x169 ex169
                exact ih118 _ _ _ _ ⟨hI, gL110, fL111, rfl, rfl, hM, (q946 h2 i1u1 c14 c107 i1u108 r_x119 c120 c121 ex124 ex127 c131 c168 ex169)⟩ (mu_up (q947 h2 i1u1 c14 c107 i1u108 r_x119 c120 c121 ex124 ex127 c131 c168 ex169) (q948 h2 i1u1 c14 c107 i1u108 r_x119 c120 c121 ex124 ex127 c131 c168 ex169))
              · refine ⟨o_v0, ?_⟩
                obtain ⟨a170, ea170, o_a170, -⟩ := sh 22 rfl hI o_v0
                have l_a170 := wm hM 1 rfl ea170
                refine ⟨a170, ea170, ?_⟩
                refine ⟨o_a170, ?_⟩
                have n_a170 : nI (hN S109 a170) = 3208 := by rw [show hN S109 a170 = 3208 from l_a170]; decide
                refine ⟨fun c171 => ?_, fun c171 => ?_⟩
                · rw [n_a170] at c171
                  refine u_X7_reckonMinute_219 ?_
                  intro x172 ex172
                  exact ih118 _ _ _ _ ⟨hI, gL110, fL111, rfl, rfl, hM, (q949 h2 i1u1 c14 c107 i1u108 r_x119 c120 c121 ex124 ex127 c131 c168 c171 ex172)⟩ (mu_up (q950 h2 i1u1 c14 c107 i1u108 r_x119 c120 c121 ex124 ex127 c131 c168 c171 ex172) (q951 h2 i1u1 c14 c107 i1u108 r_x119 c120 c121 ex124 ex127 c131 c168 c171 ex172))
                · rw [n_a170] at c171
                  refine ⟨fun c173 => ?_, fun c173 => ?_⟩
                  · refine u_X7_reckonMinute_219 ?_
                    intro x174 ex174
                    exact ih118 _ _ _ _ ⟨hI, gL110, fL111, rfl, rfl, hM, (q952 h2 i1u1 c14 c107 i1u108 r_x119 c120 c121 ex124 ex127 c131 c168 c171 c173 ex174)⟩ (mu_up (q953 h2 i1u1 c14 c107 i1u108 r_x119 c120 c121 ex124 ex127 c131 c168 c171 c173 ex174) (q954 h2 i1u1 c14 c107 i1u108 r_x119 c120 c121 ex124 ex127 c131 c168 c171 c173 ex174))
                  · refine ⟨a170, ea170, ?_⟩
                    refine ⟨o_a170, ?_⟩
                    have n_a170 : nI (hN S109 a170) = 3208 := by rw [show hN S109 a170 = 3208 from l_a170]; decide
                    refine ⟨fun c176 => ?_, fun c176 => ?_⟩
                    · rw [n_a170] at c176
                      refine u_X7_reckonMinute_219 ?_
                      intro x177 ex177
                      exact ih118 _ _ _ _ ⟨hI, gL110, fL111, rfl, rfl, hM, (q955 h2 i1u1 c14 c107 i1u108 r_x119 c120 c121 ex124 ex127 c131 c168 c171 c173 c176 ex177)⟩ (mu_up (q956 h2 i1u1 c14 c107 i1u108 r_x119 c120 c121 ex124 ex127 c131 c168 c171 c173 c176 ex177) (q957 h2 i1u1 c14 c107 i1u108 r_x119 c120 c121 ex124 ex127 c131 c168 c171 c173 c176 ex177))
                    · rw [n_a170] at c176
                      refine ⟨a170, ea170, ?_⟩
                      refine ⟨o_a170, ?_⟩
                      refine ⟨(vin l_a170 (m := 3208) (by decide) (q958 h2 i1u1 c14 c107 i1u108 r_x119 c120 c121 ex124 ex127 c131 c168 c171 c173 c176)), ?_⟩
                      intro x179 ex179
                      refine ⟨fun c180 => ?_, fun c180 => ?_⟩
                      · refine u_X7_reckonMinute_219 ?_
                        intro x181 ex181
                        exact ih118 _ _ _ _ ⟨hI, gL110, fL111, rfl, rfl, hM, (q959 h2 i1u1 c14 c107 i1u108 r_x119 c120 c121 ex124 ex127 c131 c168 c171 c173 c176 c180 ex181)⟩ (mu_up (q960 h2 i1u1 c14 c107 i1u108 r_x119 c120 c121 ex124 ex127 c131 c168 c171 c173 c176 c180 ex181) (q961 h2 i1u1 c14 c107 i1u108 r_x119 c120 c121 ex124 ex127 c131 c168 c171 c173 c176 c180 ex181))
                      · obtain ⟨a182, ea182, o_a182, -⟩ := sh 27 rfl hI o_v0
                        have l_a182 := wm hM 6 rfl ea182
                        refine ⟨a182, ea182, ?_⟩
                        refine ⟨o_a182, ?_⟩
                        refine ⟨(vin l_a182 (m := 224) (by decide) (q962 h2 i1u1 c14 c107 i1u108 r_x119 c120 c121 ex124 ex127 c131 c168 c171 c173 c176 c180)), ?_⟩
                        intro x183 ex183
                        refine ⟨a170, ea170, ?_⟩
                        refine ⟨o_a170, ?_⟩
                        refine ⟨(vin l_a170 (m := 3208) (by decide) (q963 h2 i1u1 c14 c107 i1u108 r_x119 c120 c121 ex124 ex127 c131 c168 c171 c173 c176 c180)), ?_⟩
                        intro x185 ex185
                        intro x186 ex186
                        refine ⟨a170, ea170, ?_⟩
                        refine ⟨o_a170, ?_⟩
                        refine ⟨(vin l_a170 (m := 3208) (by decide) (q964 h2 i1u1 c14 c107 i1u108 r_x119 c120 c121 ex124 ex127 c131 c168 c171 c173 c176 c180)), ?_⟩
                        intro x188 ex188
                        refine ⟨fun c189 => ?_, fun c189 => ?_⟩
                        · refine u_X7_reckonMinute_219 ?_
                          intro x190 ex190
                          exact ih118 _ _ _ _ ⟨hI, gL110, fL111, rfl, rfl, hM, (q965 h2 i1u1 c14 c107 i1u108 r_x119 c120 c121 ex124 ex127 c131 c168 c171 c173 c176 c180 ex186 c189 ex190)⟩ (mu_up (q966 h2 i1u1 c14 c107 i1u108 r_x119 c120 c121 ex124 ex127 c131 c168 c171 c173 c176 c180 ex186 c189 ex190) (q967 h2 i1u1 c14 c107 i1u108 r_x119 c120 c121 ex124 ex127 c131 c168 c171 c173 c176 c180 ex186 c189 ex190))
                        · refine ⟨a170, ea170, ?_⟩
                          refine ⟨o_a170, ?_⟩
                          have i192 : vp_in x124 (hN _ a170) := (vin l_a170 (m := 3208) (by decide) (q968 h2 i1u1 c14 c107 i1u108 r_x119 c120 c121 ex124 ex127 c131 c168 c171 c173 c176 c180 ex186 c189))
                          refine ⟨i192, ?_⟩
                          intro S193 eS193
                          have hI : IV S193 := by rw [eS193]; exact iv_aJ hI o_v0 (by decide) ea170 o_a170 (by decide)
                          have f0 := fr_J eS193 f0
                          have fL111 := fr_J eS193 fL111
                          have d_x119 := rd_J eS193 d_x119
                          have d_x130 := rd_J eS193 d_x130
                          have ea122 := rf_J eS193 ea122
                          have ea125 := rf_J eS193 ea125
                          have ea128 := rf_J eS193 ea128
                          have ea170 := rf_J eS193 ea170
                          have ea182 := rf_J eS193 ea182
                          have hM := wm_J eS193 hM
                          have l_a122 := ln_J eS193 l_a122
                          have l_a125 := ln_J eS193 l_a125
                          have l_a128 := ln_J eS193 l_a128
                          have l_a170 := ln_J eS193 l_a170
                          have l_a182 := ln_J eS193 l_a182
                          have g0 := gr_J eS193 g0
                          have gL110 := gr_J eS193 gL110
                          have o_a122 := ob_J eS193 o_a122
                          have o_a125 := ob_J eS193 o_a125
                          have o_a128 := ob_J eS193 o_a128
                          have o_a170 := ob_J eS193 o_a170
                          have o_a182 := ob_J eS193 o_a182
                          have o_v0 := ob_J eS193 o_v0
                          obtain ⟨a194, ea194, o_a194, -⟩ := sh 23 rfl hI o_v0
                          have l_a194 := wm hM 2 rfl ea194
                          refine ⟨a194, ea194, ?_⟩
                          obtain ⟨a195, ea195, o_a195, -⟩ := sh 28 rfl hI o_v0
                          have l_a195 := wm hM 7 rfl ea195
                          refine ⟨a195, ea195, ?_⟩
                          refine ⟨o_a195, ?_⟩
                          refine ⟨(vin l_a195 (m := 224) (by decide) (q969 h2 i1u1 c14 c107 i1u108 r_x119 c120 c121 ex124 ex127 c131 c168 c171 c173 c176 c180 ex186 c189)), ?_⟩
                          intro x196 ex196
                          refine ⟨o_a194, ?_⟩
                          have i197 : vp_in x124 (hN _ a194) := (vin l_a194 (m := 3208) (by decide) (q968 h2 i1u1 c14 c107 i1u108 r_x119 c120 c121 ex124 ex127 c131 c168 c171 c173 c176 c180 ex186 c189))
                          refine ⟨i197, ?_⟩
                          intro S198 eS198
                          have hI : IV S198 := by rw [eS198]; exact iv_aI hI o_v0 (by decide) ea194 o_a194 (by decide)
                          have f0 := fr_A eS198 g0 f0 o_a194 (by decide)
                          have fL111 := fr_A eS198 gL110 fL111 o_a194 (by decide)
                          have d_x119 := rd_Ik eS198 o_a194 o_v0 (by decide) d_x119
                          have d_x130 := rd_Ik eS198 o_a194 o_v0 (by decide) d_x130
                          have ea122 := rf_I eS198 ea122
                          have ea125 := rf_I eS198 ea125
                          have ea128 := rf_I eS198 ea128
                          have ea170 := rf_I eS198 ea170
                          have ea182 := rf_I eS198 ea182
                          have ea194 := rf_I eS198 ea194
                          have ea195 := rf_I eS198 ea195
                          have hM := wm_I eS198 hM
                          have l_a122 := ln_I eS198 l_a122
                          have l_a125 := ln_I eS198 l_a125
                          have l_a128 := ln_I eS198 l_a128
                          have l_a170 := ln_I eS198 l_a170
                          have l_a182 := ln_I eS198 l_a182
                          have l_a194 := ln_I eS198 l_a194
                          have l_a195 := ln_I eS198 l_a195
                          have g0 := gr_I eS198 g0
                          have gL110 := gr_I eS198 gL110
                          have o_a122 := ob_I eS198 o_a122
                          have o_a125 := ob_I eS198 o_a125
                          have o_a128 := ob_I eS198 o_a128
                          have o_a170 := ob_I eS198 o_a170
                          have o_a182 := ob_I eS198 o_a182
                          have o_a194 := ob_I eS198 o_a194
                          have o_a195 := ob_I eS198 o_a195
                          have o_v0 := ob_I eS198 o_v0
                          refine u_X7_reckonMinute_219 ?_
                          intro x199 ex199
                          exact ih118 _ _ _ _ ⟨hI, gL110, fL111, rfl, rfl, hM, (q970 h2 i1u1 c14 c107 i1u108 r_x119 c120 c121 ex124 ex127 c131 c168 c171 c173 c176 c180 ex186 c189 ex199)⟩ (mu_up (q971 h2 i1u1 c14 c107 i1u108 r_x119 c120 c121 ex124 ex127 c131 c168 c171 c173 c176 c180 ex186 c189 ex199) (q972 h2 i1u1 c14 c107 i1u108 r_x119 c120 c121 ex124 ex127 c131 c168 c171 c173 c176 c180 ex186 c189 ex199))
    · refine ⟨o_v0, ?_⟩
      obtain ⟨a200, ea200, o_a200, -⟩ := sh 22 rfl hI o_v0
      have l_a200 := wm hM 1 rfl ea200
      refine ⟨a200, ea200, ?_⟩
      intro x201 ex201
      have d_x201 := ex201
      refine ⟨fun c202 => ?_, fun c202 => ?_⟩
      · refine u_X7_reckonMinute_40 ?_
        refine ⟨o_a200, ?_⟩
        have i203 : vp_in ((w11 * (401 : Int32)) + v2) (hN _ a200) := (vin l_a200 (m := 3208) (by decide) (q973 h2 i1u1 c14 c107 c202))
        refine ⟨i203, ?_⟩
        intro S204 eS204
        have hI : IV S204 := by rw [eS204]; exact iv_aJ hI o_v0 (by decide) ea200 o_a200 (by decide)
        have f0 := fr_J eS204 f0
        have fL4 := fr_J eS204 fL4
        have d_x201 := rd_J eS204 d_x201
        have ea200 := rf_J eS204 ea200
        have hM := wm_J eS204 hM
        have l_a200 := ln_J eS204 l_a200
        have g0 := gr_J eS204 g0
        have gL3 := gr_J eS204 gL3
        have o_a200 := ob_J eS204 o_a200
        have o_v0 := ob_J eS204 o_v0
        refine ⟨o_v0, ?_⟩
        obtain ⟨a205, ea205, o_a205, -⟩ := sh 23 rfl hI o_v0
        have l_a205 := wm hM 2 rfl ea205
        refine ⟨a205, ea205, ?_⟩
        refine ⟨o_a205, ?_⟩
        have i206 : vp_in ((w11 * (401 : Int32)) + v2) (hN _ a205) := (vin l_a205 (m := 3208) (by decide) (q973 h2 i1u1 c14 c107 c202))
        refine ⟨i206, ?_⟩
        intro S207 eS207
        have hI : IV S207 := by rw [eS207]; exact iv_aI hI o_v0 (by decide) ea205 o_a205 (by decide)
        have f0 := fr_A eS207 g0 f0 o_a205 (by decide)
        have fL4 := fr_A eS207 gL3 fL4 o_a205 (by decide)
        have d_x201 := rd_Ik eS207 o_a205 o_v0 (by decide) d_x201
        have ea200 := rf_I eS207 ea200
        have ea205 := rf_I eS207 ea205
        have hM := wm_I eS207 hM
        have l_a200 := ln_I eS207 l_a200
        have l_a205 := ln_I eS207 l_a205
        have g0 := gr_I eS207 g0
        have gL3 := gr_I eS207 gL3
        have o_a200 := ob_I eS207 o_a200
        have o_a205 := ob_I eS207 o_a205
        have o_v0 := ob_I eS207 o_v0
        intro x208 ex208
        exact ih13 _ _ _ _ _ ⟨hI, gL3, fL4, rfl, rfl, rfl, hM, (q974 i1u1 c14 c107 c202 ex208)⟩ (mu_up (q975 i1u1 c14 c107 c202 ex208) (q976 i1u1 c14 c107 c202 ex208))
      · refine u_X7_reckonMinute_40 ?_
        refine ⟨o_a200, ?_⟩
        have i209 : vp_in ((w11 * (401 : Int32)) + v2) (hN _ a200) := (vin l_a200 (m := 3208) (by decide) (q977 h2 i1u1 c14 c107 c202))
        refine ⟨i209, ?_⟩
        intro S210 eS210
        have hI : IV S210 := by rw [eS210]; exact iv_aJ hI o_v0 (by decide) ea200 o_a200 (by decide)
        have f0 := fr_J eS210 f0
        have fL4 := fr_J eS210 fL4
        have d_x201 := rd_J eS210 d_x201
        have ea200 := rf_J eS210 ea200
        have hM := wm_J eS210 hM
        have l_a200 := ln_J eS210 l_a200
        have g0 := gr_J eS210 g0
        have gL3 := gr_J eS210 gL3
        have o_a200 := ob_J eS210 o_a200
        have o_v0 := ob_J eS210 o_v0
        refine ⟨o_v0, ?_⟩
        obtain ⟨a211, ea211, o_a211, -⟩ := sh 23 rfl hI o_v0
        have l_a211 := wm hM 2 rfl ea211
        refine ⟨a211, ea211, ?_⟩
        refine ⟨o_a211, ?_⟩
        have i212 : vp_in ((w11 * (401 : Int32)) + v2) (hN _ a211) := (vin l_a211 (m := 3208) (by decide) (q977 h2 i1u1 c14 c107 c202))
        refine ⟨i212, ?_⟩
        intro S213 eS213
        have hI : IV S213 := by rw [eS213]; exact iv_aI hI o_v0 (by decide) ea211 o_a211 (by decide)
        have f0 := fr_A eS213 g0 f0 o_a211 (by decide)
        have fL4 := fr_A eS213 gL3 fL4 o_a211 (by decide)
        have d_x201 := rd_Ik eS213 o_a211 o_v0 (by decide) d_x201
        have ea200 := rf_I eS213 ea200
        have ea211 := rf_I eS213 ea211
        have hM := wm_I eS213 hM
        have l_a200 := ln_I eS213 l_a200
        have l_a211 := ln_I eS213 l_a211
        have g0 := gr_I eS213 g0
        have gL3 := gr_I eS213 gL3
        have o_a200 := ob_I eS213 o_a200
        have o_a211 := ob_I eS213 o_a211
        have o_v0 := ob_I eS213 o_v0
        intro x214 ex214
        exact ih13 _ _ _ _ _ ⟨hI, gL3, fL4, rfl, rfl, rfl, hM, (q978 i1u1 c14 c107 c202 ex214)⟩ (mu_up (q979 i1u1 c14 c107 c202 ex214) (q980 i1u1 c14 c107 c202 ex214))
