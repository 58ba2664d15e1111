set_option maxHeartbeats 4000000 in
set_option maxRecDepth 20000 in
theorem m_X7_reckonMinute {v0 : Nat} {v1 : Int32} {v2 : Int32} {Q : HS → Prop} {S : HS} (hI : IV S) (o_v0 : ob S v0 7)   (h2 : 0 ≤ v2 ∧ v2 ≤ 400) (hM : WM S v0) (hq : ∀ (T : HS), IV T → Gr S T → FRI [] [] S T → (WM T v0) → Q T) : P_X7_reckonMinute v0 v1 v2 Q S := by
  have g0 := gr_rf S
  have f0 := fri_rf [] [] S
  refine u_X7_reckonMinute ?_
  refine u_X7_reckonMinute_0 ?_
  refine i_X7_reckonMinute_2 (fun (y0 : Nat) (y1 : Int32) (y2 : Int32) (y3 : Int32) (Z : HS) => ((2147483647 : Int32).toInt - y3.toInt).toNat) (fun (y0 : Nat) (y1 : Int32) (y2 : Int32) (y3 : Int32) (Z : HS) => (IV Z) ∧ (Gr S Z) ∧ (FRI [] [] S Z) ∧ (v0 = y0) ∧ (v1 = y1) ∧ (v2 = y2) ∧ (WM Z v0) ∧ (0 ≤ y3)) ?_ _ _ _ _ _ ⟨hI, (gr_rf _), (fri_rf _ _ _), rfl, rfl, rfl, hM, (q82)⟩
  intro w4 w6 w8 w10 S1 X11 ⟨hI, gL2, fL3, q5, q7, q9, hM, i1⟩ ih12
  subst q5
  subst q7
  subst q9
  have f0 := fri_tr (S := S) g0 f0 fL3 (by decide) (by decide)
  have o_v0 := gr_ob gL2 o_v0
  have g0 := gr_tr (T := S) g0 gL2
  refine u_X7_reckonMinute_2 ?_
  refine ⟨fun c13 => ?_, fun c13 => ?_⟩
  · refine u_X7_reckonMinute_60 ?_
    refine i_X7_reckonMinute_62 (fun (y0 : Nat) (y2 : Int32) (y3 : Int32) (Z : HS) => ((2147483647 : Int32).toInt - y3.toInt).toNat) (fun (y0 : Nat) (y2 : Int32) (y3 : Int32) (Z : HS) => (IV Z) ∧ (Gr S1 Z) ∧ (FRI [] [] S1 Z) ∧ (v0 = y0) ∧ (v2 = y2) ∧ (WM Z v0) ∧ (0 ≤ y3)) ?_ _ _ _ _ ⟨hI, (gr_rf _), (fri_rf _ _ _), rfl, rfl, hM, (q204 i1 c13)⟩
    intro w17 w19 w21 S14 X22 ⟨hI, gL15, fL16, q18, q20, hM, i1⟩ ih23
    subst q18
    subst q20
    have f0 := fri_tr (S := S1) g0 f0 fL16 (by decide) (by decide)
    have o_v0 := gr_ob gL15 o_v0
    have g0 := gr_tr (T := S1) g0 gL15
    refine u_X7_reckonMinute_62 ?_
    refine ⟨o_v0, ?_⟩
    intro x24 ex24
    have r_x24 : (0 : Int32) ≤ x24 ∧ x24 ≤ (224 : Int32) := by rw [ex24]; exact nu 8 rfl hI o_v0
    have d_x24 := ex24
    refine ⟨fun c25 => ?_, fun c25 => ?_⟩
    · exact hq _ hI g0 f0 hM
    · refine ⟨fun c26 => ?_, fun c26 => ?_⟩
      · exact hq _ hI g0 f0 hM
      · obtain ⟨a27, ea27, o_a27, -⟩ := sh 24 rfl hI o_v0
        have l_a27 := wm hM 3 rfl ea27
        refine ⟨a27, ea27, ?_⟩
        refine ⟨o_a27, ?_⟩
        refine ⟨(vin l_a27 (m := 224) (by decide) (q205 i1 c13 i1 r_x24 c25 c26)), ?_⟩
        intro x28 ex28
        intro x29 ex29
        obtain ⟨a30, ea30, o_a30, -⟩ := sh 25 rfl hI o_v0
        have l_a30 := wm hM 4 rfl ea30
        refine ⟨a30, ea30, ?_⟩
        refine ⟨o_a30, ?_⟩
        refine ⟨(vin l_a30 (m := 224) (by decide) (q205 i1 c13 i1 r_x24 c25 c26)), ?_⟩
        intro x31 ex31
        intro x32 ex32
        obtain ⟨a33, ea33, o_a33, -⟩ := sh 26 rfl hI o_v0
        have l_a33 := wm hM 5 rfl ea33
        refine ⟨a33, ea33, ?_⟩
        refine ⟨o_a33, ?_⟩
        refine ⟨(vin l_a33 (m := 224) (by decide) (q205 i1 c13 i1 r_x24 c25 c26)), ?_⟩
        intro x34 ex34
        intro x35 ex35
        have d_x35 := ex35
        refine ⟨fun c36 => ?_, fun c36 => ?_⟩
        · refine u_X7_reckonMinute_117 ?_
          refine ⟨fun c37 => ?_, fun c37 => ?_⟩
          · refine u_X7_reckonMinute_219 ?_
            intro x38 ex38
            exact ih23 _ _ _ _ ⟨hI, gL15, fL16, rfl, rfl, hM, (q206 h2 i1 c13 i1 r_x24 c25 c26 ex29 ex32 c36 ex38)⟩ (mu_up (q207 h2 i1 c13 i1 r_x24 c25 c26 ex29 ex32 c36 ex38) (q208 h2 i1 c13 i1 r_x24 c25 c26 ex29 ex32 c36 ex38))
          · refine ⟨fun c39 => ?_, fun c39 => ?_⟩
            · refine u_X7_reckonMinute_219 ?_
              intro x40 ex40
              exact ih23 _ _ _ _ ⟨hI, gL15, fL16, rfl, rfl, hM, (q209 h2 i1 c13 i1 r_x24 c25 c26 ex29 ex32 c36 c37 c39 ex40)⟩ (mu_up (q210 h2 i1 c13 i1 r_x24 c25 c26 ex29 ex32 c36 c37 c39 ex40) (q211 h2 i1 c13 i1 r_x24 c25 c26 ex29 ex32 c36 c37 c39 ex40))
            · refine ⟨o_v0, ?_⟩
              obtain ⟨a41, ea41, o_a41, -⟩ := sh 22 rfl hI o_v0
              have l_a41 := wm hM 1 rfl ea41
              refine ⟨a41, ea41, ?_⟩
              refine ⟨o_a41, ?_⟩
              have n_a41 : nI (hN S14 a41) = 3208 := by rw [show hN S14 a41 = 3208 from l_a41]; decide
              refine ⟨fun c42 => ?_, fun c42 => ?_⟩
              · rw [n_a41] at c42
                refine u_X7_reckonMinute_219 ?_
                intro x43 ex43
                exact ih23 _ _ _ _ ⟨hI, gL15, fL16, rfl, rfl, hM, (q212 h2 i1 c13 i1 r_x24 c25 c26 ex29 ex32 c36 c37 c39 c42 ex43)⟩ (mu_up (q213 h2 i1 c13 i1 r_x24 c25 c26 ex29 ex32 c36 c37 c39 c42 ex43) (q214 h2 i1 c13 i1 r_x24 c25 c26 ex29 ex32 c36 c37 c39 c42 ex43))
              · rw [n_a41] at c42
                refine ⟨fun c44 => ?_, fun c44 => ?_⟩
                · refine u_X7_reckonMinute_219 ?_
                  intro x45 ex45
                  exact ih23 _ _ _ _ ⟨hI, gL15, fL16, rfl, rfl, hM, (q215 h2 i1 c13 i1 r_x24 c25 c26 ex29 ex32 c36 c37 c39 c42 c44 ex45)⟩ (mu_up (q216 h2 i1 c13 i1 r_x24 c25 c26 ex29 ex32 c36 c37 c39 c42 c44 ex45) (q217 h2 i1 c13 i1 r_x24 c25 c26 ex29 ex32 c36 c37 c39 c42 c44 ex45))
                · refine ⟨a41, ea41, ?_⟩
                  refine ⟨o_a41, ?_⟩
                  have n_a41 : nI (hN S14 a41) = 3208 := by rw [show hN S14 a41 = 3208 from l_a41]; decide
                  refine ⟨fun c47 => ?_, fun c47 => ?_⟩
                  · rw [n_a41] at c47
                    refine u_X7_reckonMinute_219 ?_
                    intro x48 ex48
                    exact ih23 _ _ _ _ ⟨hI, gL15, fL16, rfl, rfl, hM, (q218 h2 i1 c13 i1 r_x24 c25 c26 ex29 ex32 c36 c37 c39 c42 c44 c47 ex48)⟩ (mu_up (q219 h2 i1 c13 i1 r_x24 c25 c26 ex29 ex32 c36 c37 c39 c42 c44 c47 ex48) (q220 h2 i1 c13 i1 r_x24 c25 c26 ex29 ex32 c36 c37 c39 c42 c44 c47 ex48))
                  · rw [n_a41] at c47
                    refine ⟨a41, ea41, ?_⟩
                    refine ⟨o_a41, ?_⟩
                    refine ⟨(vin l_a41 (m := 3208) (by decide) (q221 h2 i1 c13 i1 r_x24 c25 c26 ex29 ex32 c36 c37 c39 c42 c44 c47)), ?_⟩
                    intro x50 ex50
                    refine ⟨fun c51 => ?_, fun c51 => ?_⟩
                    · refine u_X7_reckonMinute_219 ?_
                      intro x52 ex52
                      exact ih23 _ _ _ _ ⟨hI, gL15, fL16, rfl, rfl, hM, (q222 h2 i1 c13 i1 r_x24 c25 c26 ex29 ex32 c36 c37 c39 c42 c44 c47 c51 ex52)⟩ (mu_up (q223 h2 i1 c13 i1 r_x24 c25 c26 ex29 ex32 c36 c37 c39 c42 c44 c47 c51 ex52) (q224 h2 i1 c13 i1 r_x24 c25 c26 ex29 ex32 c36 c37 c39 c42 c44 c47 c51 ex52))
                    · obtain ⟨a53, ea53, o_a53, -⟩ := sh 27 rfl hI o_v0
                      have l_a53 := wm hM 6 rfl ea53
                      refine ⟨a53, ea53, ?_⟩
                      refine ⟨o_a53, ?_⟩
                      refine ⟨(vin l_a53 (m := 224) (by decide) (q225 h2 i1 c13 i1 r_x24 c25 c26 ex29 ex32 c36 c37 c39 c42 c44 c47 c51)), ?_⟩
                      intro x54 ex54
                      refine ⟨a41, ea41, ?_⟩
                      refine ⟨o_a41, ?_⟩
                      refine ⟨(vin l_a41 (m := 3208) (by decide) (q226 h2 i1 c13 i1 r_x24 c25 c26 ex29 ex32 c36 c37 c39 c42 c44 c47 c51)), ?_⟩
                      intro x56 ex56
                      intro x57 ex57
                      refine ⟨a41, ea41, ?_⟩
                      refine ⟨o_a41, ?_⟩
                      refine ⟨(vin l_a41 (m := 3208) (by decide) (q227 h2 i1 c13 i1 r_x24 c25 c26 ex29 ex32 c36 c37 c39 c42 c44 c47 c51)), ?_⟩
                      intro x59 ex59
                      refine ⟨fun c60 => ?_, fun c60 => ?_⟩
                      · refine u_X7_reckonMinute_219 ?_
                        intro x61 ex61
                        exact ih23 _ _ _ _ ⟨hI, gL15, fL16, rfl, rfl, hM, (q228 h2 i1 c13 i1 r_x24 c25 c26 ex29 ex32 c36 c37 c39 c42 c44 c47 c51 ex57 c60 ex61)⟩ (mu_up (q229 h2 i1 c13 i1 r_x24 c25 c26 ex29 ex32 c36 c37 c39 c42 c44 c47 c51 ex57 c60 ex61) (q230 h2 i1 c13 i1 r_x24 c25 c26 ex29 ex32 c36 c37 c39 c42 c44 c47 c51 ex57 c60 ex61))
                      · refine ⟨a41, ea41, ?_⟩
                        refine ⟨o_a41, ?_⟩
                        have i63 : vp_in x29 (hN _ a41) := (vin l_a41 (m := 3208) (by decide) (q231 h2 i1 c13 i1 r_x24 c25 c26 ex29 ex32 c36 c37 c39 c42 c44 c47 c51 ex57 c60))
                        refine ⟨i63, ?_⟩
                        intro S64 eS64
                        have hI : IV S64 := by rw [eS64]; exact iv_aJ hI o_v0 (by decide) ea41 o_a41 (by decide)
                        have f0 := fr_J eS64 f0
                        have fL16 := fr_J eS64 fL16
                        have d_x24 := rd_J eS64 d_x24
                        have d_x35 := rd_J eS64 d_x35
                        have ea27 := rf_J eS64 ea27
                        have ea30 := rf_J eS64 ea30
                        have ea33 := rf_J eS64 ea33
                        have ea41 := rf_J eS64 ea41
                        have ea53 := rf_J eS64 ea53
                        have hM := wm_J eS64 hM
                        have l_a27 := ln_J eS64 l_a27
                        have l_a30 := ln_J eS64 l_a30
                        have l_a33 := ln_J eS64 l_a33
                        have l_a41 := ln_J eS64 l_a41
                        have l_a53 := ln_J eS64 l_a53
                        have g0 := gr_J eS64 g0
                        have gL15 := gr_J eS64 gL15
                        have o_a27 := ob_J eS64 o_a27
                        have o_a30 := ob_J eS64 o_a30
                        have o_a33 := ob_J eS64 o_a33
                        have o_a41 := ob_J eS64 o_a41
                        have o_a53 := ob_J eS64 o_a53
                        have o_v0 := ob_J eS64 o_v0
                        obtain ⟨a65, ea65, o_a65, -⟩ := sh 23 rfl hI o_v0
                        have l_a65 := wm hM 2 rfl ea65
                        refine ⟨a65, ea65, ?_⟩
                        obtain ⟨a66, ea66, o_a66, -⟩ := sh 28 rfl hI o_v0
                        have l_a66 := wm hM 7 rfl ea66
                        refine ⟨a66, ea66, ?_⟩
                        refine ⟨o_a66, ?_⟩
                        refine ⟨(vin l_a66 (m := 224) (by decide) (q232 h2 i1 c13 i1 r_x24 c25 c26 ex29 ex32 c36 c37 c39 c42 c44 c47 c51 ex57 c60)), ?_⟩
                        intro x67 ex67
                        refine ⟨o_a65, ?_⟩
                        have i68 : vp_in x29 (hN _ a65) := (vin l_a65 (m := 3208) (by decide) (q231 h2 i1 c13 i1 r_x24 c25 c26 ex29 ex32 c36 c37 c39 c42 c44 c47 c51 ex57 c60))
                        refine ⟨i68, ?_⟩
                        intro S69 eS69
                        have hI : IV S69 := by rw [eS69]; exact iv_aI hI o_v0 (by decide) ea65 o_a65 (by decide)
                        have f0 := fr_A eS69 g0 f0 o_a65 (by decide)
                        have fL16 := fr_A eS69 gL15 fL16 o_a65 (by decide)
                        have d_x24 := rd_Ik eS69 o_a65 o_v0 (by decide) d_x24
                        have d_x35 := rd_Ik eS69 o_a65 o_v0 (by decide) d_x35
                        have ea27 := rf_I eS69 ea27
                        have ea30 := rf_I eS69 ea30
                        have ea33 := rf_I eS69 ea33
                        have ea41 := rf_I eS69 ea41
                        have ea53 := rf_I eS69 ea53
                        have ea65 := rf_I eS69 ea65
                        have ea66 := rf_I eS69 ea66
                        have hM := wm_I eS69 hM
                        have l_a27 := ln_I eS69 l_a27
                        have l_a30 := ln_I eS69 l_a30
                        have l_a33 := ln_I eS69 l_a33
                        have l_a41 := ln_I eS69 l_a41
                        have l_a53 := ln_I eS69 l_a53
                        have l_a65 := ln_I eS69 l_a65
                        have l_a66 := ln_I eS69 l_a66
                        have g0 := gr_I eS69 g0
                        have gL15 := gr_I eS69 gL15
                        have o_a27 := ob_I eS69 o_a27
                        have o_a30 := ob_I eS69 o_a30
                        have o_a33 := ob_I eS69 o_a33
                        have o_a41 := ob_I eS69 o_a41
                        have o_a53 := ob_I eS69 o_a53
                        have o_a65 := ob_I eS69 o_a65
                        have o_a66 := ob_I eS69 o_a66
                        have o_v0 := ob_I eS69 o_v0
                        refine u_X7_reckonMinute_219 ?_
                        intro x70 ex70
                        exact ih23 _ _ _ _ ⟨hI, gL15, fL16, rfl, rfl, hM, (q233 h2 i1 c13 i1 r_x24 c25 c26 ex29 ex32 c36 c37 c39 c42 c44 c47 c51 ex57 c60 ex70)⟩ (mu_up (q234 h2 i1 c13 i1 r_x24 c25 c26 ex29 ex32 c36 c37 c39 c42 c44 c47 c51 ex57 c60 ex70) (q235 h2 i1 c13 i1 r_x24 c25 c26 ex29 ex32 c36 c37 c39 c42 c44 c47 c51 ex57 c60 ex70))
        · refine u_X7_reckonMinute_117 ?_
          refine ⟨fun c71 => ?_, fun c71 => ?_⟩
          · refine u_X7_reckonMinute_219 ?_
            intro x72 ex72
            exact ih23 _ _ _ _ ⟨hI, gL15, fL16, rfl, rfl, hM, (q236 h2 i1 c13 i1 r_x24 c25 c26 ex29 ex32 c36 c71 ex72)⟩ (mu_up (q237 h2 i1 c13 i1 r_x24 c25 c26 ex29 ex32 c36 c71 ex72) (q238 h2 i1 c13 i1 r_x24 c25 c26 ex29 ex32 c36 c71 ex72))
          · refine ⟨fun c73 => ?_, fun c73 => ?_⟩
            · refine u_X7_reckonMinute_219 ?_
              intro x74 ex74
              exact ih23 _ _ _ _ ⟨hI, gL15, fL16, rfl, rfl, hM, (q239 h2 i1 c13 i1 r_x24 c25 c26 ex29 ex32 c36 c73 ex74)⟩ (mu_up (q240 h2 i1 c13 i1 r_x24 c25 c26 ex29 ex32 c36 c73 ex74) (q241 h2 i1 c13 i1 r_x24 c25 c26 ex29 ex32 c36 c73 ex74))
            · refine ⟨o_v0, ?_⟩
              obtain ⟨a75, ea75, o_a75, -⟩ := sh 22 rfl hI o_v0
              have l_a75 := wm hM 1 rfl ea75
              refine ⟨a75, ea75, ?_⟩
              refine ⟨o_a75, ?_⟩
              have n_a75 : nI (hN S14 a75) = 3208 := by rw [show hN S14 a75 = 3208 from l_a75]; decide
              refine ⟨fun c76 => ?_, fun c76 => ?_⟩
              · rw [n_a75] at c76
                refine u_X7_reckonMinute_219 ?_
                intro x77 ex77
                exact ih23 _ _ _ _ ⟨hI, gL15, fL16, rfl, rfl, hM, (q242 h2 i1 c13 i1 r_x24 c25 c26 ex29 ex32 c36 c73 c76 ex77)⟩ (mu_up (q243 h2 i1 c13 i1 r_x24 c25 c26 ex29 ex32 c36 c73 c76 ex77) (q244 h2 i1 c13 i1 r_x24 c25 c26 ex29 ex32 c36 c73 c76 ex77))
              · rw [n_a75] at c76
                refine ⟨fun c78 => ?_, fun c78 => ?_⟩
                · refine u_X7_reckonMinute_219 ?_
                  intro x79 ex79
                  exact ih23 _ _ _ _ ⟨hI, gL15, fL16, rfl, rfl, hM, (q245 h2 i1 c13 i1 r_x24 c25 c26 ex29 ex32 c36 c73 c76 c78 ex79)⟩ (mu_up (q246 h2 i1 c13 i1 r_x24 c25 c26 ex29 ex32 c36 c73 c76 c78 ex79) (q247 h2 i1 c13 i1 r_x24 c25 c26 ex29 ex32 c36 c73 c76 c78 ex79))
                · refine ⟨a75, ea75, ?_⟩
                  refine ⟨o_a75, ?_⟩
                  have n_a75 : nI (hN S14 a75) = 3208 := by rw [show hN S14 a75 = 3208 from l_a75]; decide
                  refine ⟨fun c81 => ?_, fun c81 => ?_⟩
                  · rw [n_a75] at c81
                    refine u_X7_reckonMinute_219 ?_
                    intro x82 ex82
                    exact ih23 _ _ _ _ ⟨hI, gL15, fL16, rfl, rfl, hM, (q248 h2 i1 c13 i1 r_x24 c25 c26 ex29 ex32 c36 c73 c76 c78 c81 ex82)⟩ (mu_up (q249 h2 i1 c13 i1 r_x24 c25 c26 ex29 ex32 c36 c73 c76 c78 c81 ex82) (q250 h2 i1 c13 i1 r_x24 c25 c26 ex29 ex32 c36 c73 c76 c78 c81 ex82))
                  · rw [n_a75] at c81
                    refine ⟨a75, ea75, ?_⟩
                    refine ⟨o_a75, ?_⟩
                    refine ⟨(vin l_a75 (m := 3208) (by decide) (q251 h2 i1 c13 i1 r_x24 c25 c26 ex29 ex32 c36 c73 c76 c78 c81)), ?_⟩
                    intro x84 ex84
                    refine ⟨fun c85 => ?_, fun c85 => ?_⟩
                    · refine u_X7_reckonMinute_219 ?_
                      intro x86 ex86
                      exact ih23 _ _ _ _ ⟨hI, gL15, fL16, rfl, rfl, hM, (q252 h2 i1 c13 i1 r_x24 c25 c26 ex29 ex32 c36 c73 c76 c78 c81 c85 ex86)⟩ (mu_up (q253 h2 i1 c13 i1 r_x24 c25 c26 ex29 ex32 c36 c73 c76 c78 c81 c85 ex86) (q254 h2 i1 c13 i1 r_x24 c25 c26 ex29 ex32 c36 c73 c76 c78 c81 c85 ex86))
                    · obtain ⟨a87, ea87, o_a87, -⟩ := sh 27 rfl hI o_v0
                      have l_a87 := wm hM 6 rfl ea87
                      refine ⟨a87, ea87, ?_⟩
                      refine ⟨o_a87, ?_⟩
                      refine ⟨(vin l_a87 (m := 224) (by decide) (q255 h2 i1 c13 i1 r_x24 c25 c26 ex29 ex32 c36 c73 c76 c78 c81 c85)), ?_⟩
                      intro x88 ex88
                      refine ⟨a75, ea75, ?_⟩
                      refine ⟨o_a75, ?_⟩
                      refine ⟨(vin l_a75 (m := 3208) (by decide) (q256 h2 i1 c13 i1 r_x24 c25 c26 ex29 ex32 c36 c73 c76 c78 c81 c85)), ?_⟩
                      intro x90 ex90
                      intro x91 ex91
                      refine ⟨a75, ea75, ?_⟩
                      refine ⟨o_a75, ?_⟩
                      refine ⟨(vin l_a75 (m := 3208) (by decide) (q257 h2 i1 c13 i1 r_x24 c25 c26 ex29 ex32 c36 c73 c76 c78 c81 c85)), ?_⟩
                      intro x93 ex93
                      refine ⟨fun c94 => ?_, fun c94 => ?_⟩
                      · refine u_X7_reckonMinute_219 ?_
                        intro x95 ex95
                        exact ih23 _ _ _ _ ⟨hI, gL15, fL16, rfl, rfl, hM, (q258 h2 i1 c13 i1 r_x24 c25 c26 ex29 ex32 c36 c73 c76 c78 c81 c85 ex91 c94 ex95)⟩ (mu_up (q259 h2 i1 c13 i1 r_x24 c25 c26 ex29 ex32 c36 c73 c76 c78 c81 c85 ex91 c94 ex95) (q260 h2 i1 c13 i1 r_x24 c25 c26 ex29 ex32 c36 c73 c76 c78 c81 c85 ex91 c94 ex95))
                      · refine ⟨a75, ea75, ?_⟩
                        refine ⟨o_a75, ?_⟩
                        have i97 : vp_in x29 (hN _ a75) := (vin l_a75 (m := 3208) (by decide) (q261 h2 i1 c13 i1 r_x24 c25 c26 ex29 ex32 c36 c73 c76 c78 c81 c85 ex91 c94))
                        refine ⟨i97, ?_⟩
                        intro S98 eS98
                        have hI : IV S98 := by rw [eS98]; exact iv_aJ hI o_v0 (by decide) ea75 o_a75 (by decide)
                        have f0 := fr_J eS98 f0
                        have fL16 := fr_J eS98 fL16
                        have d_x24 := rd_J eS98 d_x24
                        have d_x35 := rd_J eS98 d_x35
                        have ea27 := rf_J eS98 ea27
                        have ea30 := rf_J eS98 ea30
                        have ea33 := rf_J eS98 ea33
                        have ea75 := rf_J eS98 ea75
                        have ea87 := rf_J eS98 ea87
                        have hM := wm_J eS98 hM
                        have l_a27 := ln_J eS98 l_a27
                        have l_a30 := ln_J eS98 l_a30
                        have l_a33 := ln_J eS98 l_a33
                        have l_a75 := ln_J eS98 l_a75
                        have l_a87 := ln_J eS98 l_a87
                        have g0 := gr_J eS98 g0
                        have gL15 := gr_J eS98 gL15
                        have o_a27 := ob_J eS98 o_a27
                        have o_a30 := ob_J eS98 o_a30
                        have o_a33 := ob_J eS98 o_a33
                        have o_a75 := ob_J eS98 o_a75
                        have o_a87 := ob_J eS98 o_a87
                        have o_v0 := ob_J eS98 o_v0
                        obtain ⟨a99, ea99, o_a99, -⟩ := sh 23 rfl hI o_v0
                        have l_a99 := wm hM 2 rfl ea99
                        refine ⟨a99, ea99, ?_⟩
                        obtain ⟨a100, ea100, o_a100, -⟩ := sh 28 rfl hI o_v0
                        have l_a100 := wm hM 7 rfl ea100
                        refine ⟨a100, ea100, ?_⟩
                        refine ⟨o_a100, ?_⟩
                        refine ⟨(vin l_a100 (m := 224) (by decide) (q262 h2 i1 c13 i1 r_x24 c25 c26 ex29 ex32 c36 c73 c76 c78 c81 c85 ex91 c94)), ?_⟩
                        intro x101 ex101
                        refine ⟨o_a99, ?_⟩
                        have i102 : vp_in x29 (hN _ a99) := (vin l_a99 (m := 3208) (by decide) (q261 h2 i1 c13 i1 r_x24 c25 c26 ex29 ex32 c36 c73 c76 c78 c81 c85 ex91 c94))
                        refine ⟨i102, ?_⟩
                        intro S103 eS103
                        have hI : IV S103 := by rw [eS103]; exact iv_aI hI o_v0 (by decide) ea99 o_a99 (by decide)
                        have f0 := fr_A eS103 g0 f0 o_a99 (by decide)
                        have fL16 := fr_A eS103 gL15 fL16 o_a99 (by decide)
                        have d_x24 := rd_Ik eS103 o_a99 o_v0 (by decide) d_x24
                        have d_x35 := rd_Ik eS103 o_a99 o_v0 (by decide) d_x35
                        have ea27 := rf_I eS103 ea27
                        have ea30 := rf_I eS103 ea30
                        have ea33 := rf_I eS103 ea33
                        have ea75 := rf_I eS103 ea75
                        have ea87 := rf_I eS103 ea87
                        have ea99 := rf_I eS103 ea99
                        have ea100 := rf_I eS103 ea100
                        have hM := wm_I eS103 hM
                        have l_a100 := ln_I eS103 l_a100
                        have l_a27 := ln_I eS103 l_a27
                        have l_a30 := ln_I eS103 l_a30
                        have l_a33 := ln_I eS103 l_a33
                        have l_a75 := ln_I eS103 l_a75
                        have l_a87 := ln_I eS103 l_a87
                        have l_a99 := ln_I eS103 l_a99
                        have g0 := gr_I eS103 g0
                        have gL15 := gr_I eS103 gL15
                        have o_a100 := ob_I eS103 o_a100
                        have o_a27 := ob_I eS103 o_a27
                        have o_a30 := ob_I eS103 o_a30
                        have o_a33 := ob_I eS103 o_a33
                        have o_a75 := ob_I eS103 o_a75
                        have o_a87 := ob_I eS103 o_a87
                        have o_a99 := ob_I eS103 o_a99
                        have o_v0 := ob_I eS103 o_v0
                        refine u_X7_reckonMinute_219 ?_
                        intro x104 ex104
                        exact ih23 _ _ _ _ ⟨hI, gL15, fL16, rfl, rfl, hM, (q263 h2 i1 c13 i1 r_x24 c25 c26 ex29 ex32 c36 c73 c76 c78 c81 c85 ex91 c94 ex104)⟩ (mu_up (q264 h2 i1 c13 i1 r_x24 c25 c26 ex29 ex32 c36 c73 c76 c78 c81 c85 ex91 c94 ex104) (q265 h2 i1 c13 i1 r_x24 c25 c26 ex29 ex32 c36 c73 c76 c78 c81 c85 ex91 c94 ex104))
  · refine ⟨fun c105 => ?_, fun c105 => ?_⟩
    · refine u_X7_reckonMinute_60 ?_
      refine i_X7_reckonMinute_62 (fun (y0 : Nat) (y2 : Int32) (y3 : Int32) (Z : HS) => ((2147483647 : Int32).toInt - y3.toInt).toNat) (fun (y0 : Nat) (y2 : Int32) (y3 : Int32) (Z : HS) => (IV Z) ∧ (Gr S1 Z) ∧ (FRI [] [] S1 Z) ∧ (v0 = y0) ∧ (v2 = y2) ∧ (WM Z v0) ∧ (0 ≤ y3)) ?_ _ _ _ _ ⟨hI, (gr_rf _), (fri_rf _ _ _), rfl, rfl, hM, (q266 i1 c13 c105)⟩
      intro w109 w111 w113 S106 X114 ⟨hI, gL107, fL108, q110, q112, hM, i1⟩ ih115
      subst q110
      subst q112
      have f0 := fri_tr (S := S1) g0 f0 fL108 (by decide) (by decide)
      have o_v0 := gr_ob gL107 o_v0
      have g0 := gr_tr (T := S1) g0 gL107
      refine u_X7_reckonMinute_62 ?_
      refine ⟨o_v0, ?_⟩
      intro x116 ex116
      have r_x116 : (0 : Int32) ≤ x116 ∧ x116 ≤ (224 : Int32) := by rw [ex116]; exact nu 8 rfl hI o_v0
      have d_x116 := ex116
      refine ⟨fun c117 => ?_, fun c117 => ?_⟩
      · exact hq _ hI g0 f0 hM
      · refine ⟨fun c118 => ?_, fun c118 => ?_⟩
        · exact hq _ hI g0 f0 hM
        · obtain ⟨a119, ea119, o_a119, -⟩ := sh 24 rfl hI o_v0
          have l_a119 := wm hM 3 rfl ea119
          refine ⟨a119, ea119, ?_⟩
          refine ⟨o_a119, ?_⟩
          refine ⟨(vin l_a119 (m := 224) (by decide) (q267 i1 c13 c105 i1 r_x116 c117 c118)), ?_⟩
          intro x120 ex120
          intro x121 ex121
          obtain ⟨a122, ea122, o_a122, -⟩ := sh 25 rfl hI o_v0
          have l_a122 := wm hM 4 rfl ea122
          refine ⟨a122, ea122, ?_⟩
          refine ⟨o_a122, ?_⟩
          refine ⟨(vin l_a122 (m := 224) (by decide) (q267 i1 c13 c105 i1 r_x116 c117 c118)), ?_⟩
          intro x123 ex123
          intro x124 ex124
          obtain ⟨a125, ea125, o_a125, -⟩ := sh 26 rfl hI o_v0
          have l_a125 := wm hM 5 rfl ea125
          refine ⟨a125, ea125, ?_⟩
          refine ⟨o_a125, ?_⟩
          refine ⟨(vin l_a125 (m := 224) (by decide) (q267 i1 c13 c105 i1 r_x116 c117 c118)), ?_⟩
          intro x126 ex126
          intro x127 ex127
          have d_x127 := ex127
          refine ⟨fun c128 => ?_, fun c128 => ?_⟩
          · refine u_X7_reckonMinute_117 ?_
            refine ⟨fun c129 => ?_, fun c129 => ?_⟩
            · refine u_X7_reckonMinute_219 ?_
              intro x130 ex130
              exact ih115 _ _ _ _ ⟨hI, gL107, fL108, rfl, rfl, hM, (q268 h2 i1 c13 c105 i1 r_x116 c117 c118 ex121 ex124 c128 ex130)⟩ (mu_up (q269 h2 i1 c13 c105 i1 r_x116 c117 c118 ex121 ex124 c128 ex130) (q270 h2 i1 c13 c105 i1 r_x116 c117 c118 ex121 ex124 c128 ex130))
            · refine ⟨fun c131 => ?_, fun c131 => ?_⟩
              · refine u_X7_reckonMinute_219 ?_
                intro x132 ex132
                exact ih115 _ _ _ _ ⟨hI, gL107, fL108, rfl, rfl, hM, (q271 h2 i1 c13 c105 i1 r_x116 c117 c118 ex121 ex124 c128 c129 c131 ex132)⟩ (mu_up (q272 h2 i1 c13 c105 i1 r_x116 c117 c118 ex121 ex124 c128 c129 c131 ex132) (q273 h2 i1 c13 c105 i1 r_x116 c117 c118 ex121 ex124 c128 c129 c131 ex132))
              · refine ⟨o_v0, ?_⟩
                obtain ⟨a133, ea133, o_a133, -⟩ := sh 22 rfl hI o_v0
                have l_a133 := wm hM 1 rfl ea133
                refine ⟨a133, ea133, ?_⟩
                refine ⟨o_a133, ?_⟩
                have n_a133 : nI (hN S106 a133) = 3208 := by rw [show hN S106 a133 = 3208 from l_a133]; decide
                refine ⟨fun c134 => ?_, fun c134 => ?_⟩
                · rw [n_a133] at c134
                  refine u_X7_reckonMinute_219 ?_
                  intro x135 ex135
                  exact ih115 _ _ _ _ ⟨hI, gL107, fL108, rfl, rfl, hM, (q274 h2 i1 c13 c105 i1 r_x116 c117 c118 ex121 ex124 c128 c129 c131 c134 ex135)⟩ (mu_up (q275 h2 i1 c13 c105 i1 r_x116 c117 c118 ex121 ex124 c128 c129 c131 c134 ex135) (q276 h2 i1 c13 c105 i1 r_x116 c117 c118 ex121 ex124 c128 c129 c131 c134 ex135))
                · rw [n_a133] at c134
                  refine ⟨fun c136 => ?_, fun c136 => ?_⟩
                  · refine u_X7_reckonMinute_219 ?_
                    intro x137 ex137
                    exact ih115 _ _ _ _ ⟨hI, gL107, fL108, rfl, rfl, hM, (q277 h2 i1 c13 c105 i1 r_x116 c117 c118 ex121 ex124 c128 c129 c131 c134 c136 ex137)⟩ (mu_up (q278 h2 i1 c13 c105 i1 r_x116 c117 c118 ex121 ex124 c128 c129 c131 c134 c136 ex137) (q279 h2 i1 c13 c105 i1 r_x116 c117 c118 ex121 ex124 c128 c129 c131 c134 c136 ex137))
                  · refine ⟨a133, ea133, ?_⟩
                    refine ⟨o_a133, ?_⟩
                    have n_a133 : nI (hN S106 a133) = 3208 := by rw [show hN S106 a133 = 3208 from l_a133]; decide
                    refine ⟨fun c139 => ?_, fun c139 => ?_⟩
                    · rw [n_a133] at c139
                      refine u_X7_reckonMinute_219 ?_
                      intro x140 ex140
                      exact ih115 _ _ _ _ ⟨hI, gL107, fL108, rfl, rfl, hM, (q280 h2 i1 c13 c105 i1 r_x116 c117 c118 ex121 ex124 c128 c129 c131 c134 c136 c139 ex140)⟩ (mu_up (q281 h2 i1 c13 c105 i1 r_x116 c117 c118 ex121 ex124 c128 c129 c131 c134 c136 c139 ex140) (q282 h2 i1 c13 c105 i1 r_x116 c117 c118 ex121 ex124 c128 c129 c131 c134 c136 c139 ex140))
                    · rw [n_a133] at c139
                      refine ⟨a133, ea133, ?_⟩
                      refine ⟨o_a133, ?_⟩
                      refine ⟨(vin l_a133 (m := 3208) (by decide) (q283 h2 i1 c13 c105 i1 r_x116 c117 c118 ex121 ex124 c128 c129 c131 c134 c136 c139)), ?_⟩
                      intro x142 ex142
                      refine ⟨fun c143 => ?_, fun c143 => ?_⟩
                      · refine u_X7_reckonMinute_219 ?_
                        intro x144 ex144
                        exact ih115 _ _ _ _ ⟨hI, gL107, fL108, rfl, rfl, hM, (q284 h2 i1 c13 c105 i1 r_x116 c117 c118 ex121 ex124 c128 c129 c131 c134 c136 c139 c143 ex144)⟩ (mu_up (q285 h2 i1 c13 c105 i1 r_x116 c117 c118 ex121 ex124 c128 c129 c131 c134 c136 c139 c143 ex144) (q286 h2 i1 c13 c105 i1 r_x116 c117 c118 ex121 ex124 c128 c129 c131 c134 c136 c139 c143 ex144))
                      · obtain ⟨a145, ea145, o_a145, -⟩ := sh 27 rfl hI o_v0
                        have l_a145 := wm hM 6 rfl ea145
                        refine ⟨a145, ea145, ?_⟩
                        refine ⟨o_a145, ?_⟩
                        refine ⟨(vin l_a145 (m := 224) (by decide) (q287 h2 i1 c13 c105 i1 r_x116 c117 c118 ex121 ex124 c128 c129 c131 c134 c136 c139 c143)), ?_⟩
                        intro x146 ex146
                        refine ⟨a133, ea133, ?_⟩
                        refine ⟨o_a133, ?_⟩
                        refine ⟨(vin l_a133 (m := 3208) (by decide) (q288 h2 i1 c13 c105 i1 r_x116 c117 c118 ex121 ex124 c128 c129 c131 c134 c136 c139 c143)), ?_⟩
                        intro x148 ex148
                        intro x149 ex149
                        refine ⟨a133, ea133, ?_⟩
                        refine ⟨o_a133, ?_⟩
                        refine ⟨(vin l_a133 (m := 3208) (by decide) (q289 h2 i1 c13 c105 i1 r_x116 c117 c118 ex121 ex124 c128 c129 c131 c134 c136 c139 c143)), ?_⟩
                        intro x151 ex151
                        refine ⟨fun c152 => ?_, fun c152 => ?_⟩
                        · refine u_X7_reckonMinute_219 ?_
                          intro x153 ex153
                          exact ih115 _ _ _ _ ⟨hI, gL107, fL108, rfl, rfl, hM, (q290 h2 i1 c13 c105 i1 r_x116 c117 c118 ex121 ex124 c128 c129 c131 c134 c136 c139 c143 ex149 c152 ex153)⟩ (mu_up (q291 h2 i1 c13 c105 i1 r_x116 c117 c118 ex121 ex124 c128 c129 c131 c134 c136 c139 c143 ex149 c152 ex153) (q292 h2 i1 c13 c105 i1 r_x116 c117 c118 ex121 ex124 c128 c129 c131 c134 c136 c139 c143 ex149 c152 ex153))
                        · refine ⟨a133, ea133, ?_⟩
                          refine ⟨o_a133, ?_⟩
                          have i155 : vp_in x121 (hN _ a133) := (vin l_a133 (m := 3208) (by decide) (q293 h2 i1 c13 c105 i1 r_x116 c117 c118 ex121 ex124 c128 c129 c131 c134 c136 c139 c143 ex149 c152))
                          refine ⟨i155, ?_⟩
                          intro S156 eS156
                          have hI : IV S156 := by rw [eS156]; exact iv_aJ hI o_v0 (by decide) ea133 o_a133 (by decide)
                          have f0 := fr_J eS156 f0
                          have fL108 := fr_J eS156 fL108
                          have d_x116 := rd_J eS156 d_x116
                          have d_x127 := rd_J eS156 d_x127
                          have ea119 := rf_J eS156 ea119
                          have ea122 := rf_J eS156 ea122
                          have ea125 := rf_J eS156 ea125
                          have ea133 := rf_J eS156 ea133
                          have ea145 := rf_J eS156 ea145
                          have hM := wm_J eS156 hM
                          have l_a119 := ln_J eS156 l_a119
                          have l_a122 := ln_J eS156 l_a122
                          have l_a125 := ln_J eS156 l_a125
                          have l_a133 := ln_J eS156 l_a133
                          have l_a145 := ln_J eS156 l_a145
                          have g0 := gr_J eS156 g0
                          have gL107 := gr_J eS156 gL107
                          have o_a119 := ob_J eS156 o_a119
                          have o_a122 := ob_J eS156 o_a122
                          have o_a125 := ob_J eS156 o_a125
                          have o_a133 := ob_J eS156 o_a133
                          have o_a145 := ob_J eS156 o_a145
                          have o_v0 := ob_J eS156 o_v0
                          obtain ⟨a157, ea157, o_a157, -⟩ := sh 23 rfl hI o_v0
                          have l_a157 := wm hM 2 rfl ea157
                          refine ⟨a157, ea157, ?_⟩
                          obtain ⟨a158, ea158, o_a158, -⟩ := sh 28 rfl hI o_v0
                          have l_a158 := wm hM 7 rfl ea158
                          refine ⟨a158, ea158, ?_⟩
                          refine ⟨o_a158, ?_⟩
                          refine ⟨(vin l_a158 (m := 224) (by decide) (q294 h2 i1 c13 c105 i1 r_x116 c117 c118 ex121 ex124 c128 c129 c131 c134 c136 c139 c143 ex149 c152)), ?_⟩
                          intro x159 ex159
                          refine ⟨o_a157, ?_⟩
                          have i160 : vp_in x121 (hN _ a157) := (vin l_a157 (m := 3208) (by decide) (q293 h2 i1 c13 c105 i1 r_x116 c117 c118 ex121 ex124 c128 c129 c131 c134 c136 c139 c143 ex149 c152))
                          refine ⟨i160, ?_⟩
                          intro S161 eS161
                          have hI : IV S161 := by rw [eS161]; exact iv_aI hI o_v0 (by decide) ea157 o_a157 (by decide)
                          have f0 := fr_A eS161 g0 f0 o_a157 (by decide)
                          have fL108 := fr_A eS161 gL107 fL108 o_a157 (by decide)
                          have d_x116 := rd_Ik eS161 o_a157 o_v0 (by decide) d_x116
                          have d_x127 := rd_Ik eS161 o_a157 o_v0 (by decide) d_x127
                          have ea119 := rf_I eS161 ea119
                          have ea122 := rf_I eS161 ea122
                          have ea125 := rf_I eS161 ea125
                          have ea133 := rf_I eS161 ea133
                          have ea145 := rf_I eS161 ea145
                          have ea157 := rf_I eS161 ea157
                          have ea158 := rf_I eS161 ea158
                          have hM := wm_I eS161 hM
                          have l_a119 := ln_I eS161 l_a119
                          have l_a122 := ln_I eS161 l_a122
                          have l_a125 := ln_I eS161 l_a125
                          have l_a133 := ln_I eS161 l_a133
                          have l_a145 := ln_I eS161 l_a145
                          have l_a157 := ln_I eS161 l_a157
                          have l_a158 := ln_I eS161 l_a158
                          have g0 := gr_I eS161 g0
                          have gL107 := gr_I eS161 gL107
                          have o_a119 := ob_I eS161 o_a119
                          have o_a122 := ob_I eS161 o_a122
                          have o_a125 := ob_I eS161 o_a125
                          have o_a133 := ob_I eS161 o_a133
                          have o_a145 := ob_I eS161 o_a145
                          have o_a157 := ob_I eS161 o_a157
                          have o_a158 := ob_I eS161 o_a158
                          have o_v0 := ob_I eS161 o_v0
                          refine u_X7_reckonMinute_219 ?_
                          intro x162 ex162
                          exact ih115 _ _ _ _ ⟨hI, gL107, fL108, rfl, rfl, hM, (q295 h2 i1 c13 c105 i1 r_x116 c117 c118 ex121 ex124 c128 c129 c131 c134 c136 c139 c143 ex149 c152 ex162)⟩ (mu_up (q296 h2 i1 c13 c105 i1 r_x116 c117 c118 ex121 ex124 c128 c129 c131 c134 c136 c139 c143 ex149 c152 ex162) (q297 h2 i1 c13 c105 i1 r_x116 c117 c118 ex121 ex124 c128 c129 c131 c134 c136 c139 c143 ex149 c152 ex162))
          · refine u_X7_reckonMinute_117 ?_
            refine ⟨fun c163 => ?_, fun c163 => ?_⟩
            · refine u_X7_reckonMinute_219 ?_
              intro x164 ex164
              exact ih115 _ _ _ _ ⟨hI, gL107, fL108, rfl, rfl, hM, (q298 h2 i1 c13 c105 i1 r_x116 c117 c118 ex121 ex124 c128 c163 ex164)⟩ (mu_up (q299 h2 i1 c13 c105 i1 r_x116 c117 c118 ex121 ex124 c128 c163 ex164) (q300 h2 i1 c13 c105 i1 r_x116 c117 c118 ex121 ex124 c128 c163 ex164))
            · refine ⟨fun c165 => ?_, fun c165 => ?_⟩
              · refine u_X7_reckonMinute_219 ?_
                intro x166 ex166
                exact ih115 _ _ _ _ ⟨hI, gL107, fL108, rfl, rfl, hM, (q301 h2 i1 c13 c105 i1 r_x116 c117 c118 ex121 ex124 c128 c165 ex166)⟩ (mu_up (q302 h2 i1 c13 c105 i1 r_x116 c117 c118 ex121 ex124 c128 c165 ex166) (q303 h2 i1 c13 c105 i1 r_x116 c117 c118 ex121 ex124 c128 c165 ex166))
              · refine ⟨o_v0, ?_⟩
                obtain ⟨a167, ea167, o_a167, -⟩ := sh 22 rfl hI o_v0
                have l_a167 := wm hM 1 rfl ea167
                refine ⟨a167, ea167, ?_⟩
                refine ⟨o_a167, ?_⟩
                have n_a167 : nI (hN S106 a167) = 3208 := by rw [show hN S106 a167 = 3208 from l_a167]; decide
                refine ⟨fun c168 => ?_, fun c168 => ?_⟩
                · rw [n_a167] at c168
                  refine u_X7_reckonMinute_219 ?_
                  intro x169 ex169
                  exact ih115 _ _ _ _ ⟨hI, gL107, fL108, rfl, rfl, hM, (q304 h2 i1 c13 c105 i1 r_x116 c117 c118 ex121 ex124 c128 c165 c168 ex169)⟩ (mu_up (q305 h2 i1 c13 c105 i1 r_x116 c117 c118 ex121 ex124 c128 c165 c168 ex169) (q306 h2 i1 c13 c105 i1 r_x116 c117 c118 ex121 ex124 c128 c165 c168 ex169))
                · rw [n_a167] at c168
                  refine ⟨fun c170 => ?_, fun c170 => ?_⟩
                  · refine u_X7_reckonMinute_219 ?_
                    intro x171 ex171
                    exact ih115 _ _ _ _ ⟨hI, gL107, fL108, rfl, rfl, hM, (q307 h2 i1 c13 c105 i1 r_x116 c117 c118 ex121 ex124 c128 c165 c168 c170 ex171)⟩ (mu_up (q308 h2 i1 c13 c105 i1 r_x116 c117 c118 ex121 ex124 c128 c165 c168 c170 ex171) (q309 h2 i1 c13 c105 i1 r_x116 c117 c118 ex121 ex124 c128 c165 c168 c170 ex171))
                  · refine ⟨a167, ea167, ?_⟩
                    refine ⟨o_a167, ?_⟩
                    have n_a167 : nI (hN S106 a167) = 3208 := by rw [show hN S106 a167 = 3208 from l_a167]; decide
                    refine ⟨fun c173 => ?_, fun c173 => ?_⟩
                    · rw [n_a167] at c173
                      refine u_X7_reckonMinute_219 ?_
                      intro x174 ex174
                      exact ih115 _ _ _ _ ⟨hI, gL107, fL108, rfl, rfl, hM, (q310 h2 i1 c13 c105 i1 r_x116 c117 c118 ex121 ex124 c128 c165 c168 c170 c173 ex174)⟩ (mu_up (q311 h2 i1 c13 c105 i1 r_x116 c117 c118 ex121 ex124 c128 c165 c168 c170 c173 ex174) (q312 h2 i1 c13 c105 i1 r_x116 c117 c118 ex121 ex124 c128 c165 c168 c170 c173 ex174))
                    · rw [n_a167] at c173
                      refine ⟨a167, ea167, ?_⟩
                      refine ⟨o_a167, ?_⟩
                      refine ⟨(vin l_a167 (m := 3208) (by decide) (q313 h2 i1 c13 c105 i1 r_x116 c117 c118 ex121 ex124 c128 c165 c168 c170 c173)), ?_⟩
                      intro x176 ex176
                      refine ⟨fun c177 => ?_, fun c177 => ?_⟩
                      · refine u_X7_reckonMinute_219 ?_
                        intro x178 ex178
                        exact ih115 _ _ _ _ ⟨hI, gL107, fL108, rfl, rfl, hM, (q314 h2 i1 c13 c105 i1 r_x116 c117 c118 ex121 ex124 c128 c165 c168 c170 c173 c177 ex178)⟩ (mu_up (q315 h2 i1 c13 c105 i1 r_x116 c117 c118 ex121 ex124 c128 c165 c168 c170 c173 c177 ex178) (q316 h2 i1 c13 c105 i1 r_x116 c117 c118 ex121 ex124 c128 c165 c168 c170 c173 c177 ex178))
                      · obtain ⟨a179, ea179, o_a179, -⟩ := sh 27 rfl hI o_v0
                        have l_a179 := wm hM 6 rfl ea179
                        refine ⟨a179, ea179, ?_⟩
                        refine ⟨o_a179, ?_⟩
                        refine ⟨(vin l_a179 (m := 224) (by decide) (q317 h2 i1 c13 c105 i1 r_x116 c117 c118 ex121 ex124 c128 c165 c168 c170 c173 c177)), ?_⟩
                        intro x180 ex180
                        refine ⟨a167, ea167, ?_⟩
                        refine ⟨o_a167, ?_⟩
                        refine ⟨(vin l_a167 (m := 3208) (by decide) (q318 h2 i1 c13 c105 i1 r_x116 c117 c118 ex121 ex124 c128 c165 c168 c170 c173 c177)), ?_⟩
                        intro x182 ex182
                        intro x183 ex183
                        refine ⟨a167, ea167, ?_⟩
                        refine ⟨o_a167, ?_⟩
                        refine ⟨(vin l_a167 (m := 3208) (by decide) (q319 h2 i1 c13 c105 i1 r_x116 c117 c118 ex121 ex124 c128 c165 c168 c170 c173 c177)), ?_⟩
                        intro x185 ex185
                        refine ⟨fun c186 => ?_, fun c186 => ?_⟩
                        · refine u_X7_reckonMinute_219 ?_
                          intro x187 ex187
                          exact ih115 _ _ _ _ ⟨hI, gL107, fL108, rfl, rfl, hM, (q320 h2 i1 c13 c105 i1 r_x116 c117 c118 ex121 ex124 c128 c165 c168 c170 c173 c177 ex183 c186 ex187)⟩ (mu_up (q321 h2 i1 c13 c105 i1 r_x116 c117 c118 ex121 ex124 c128 c165 c168 c170 c173 c177 ex183 c186 ex187) (q322 h2 i1 c13 c105 i1 r_x116 c117 c118 ex121 ex124 c128 c165 c168 c170 c173 c177 ex183 c186 ex187))
                        · refine ⟨a167, ea167, ?_⟩
                          refine ⟨o_a167, ?_⟩
                          have i189 : vp_in x121 (hN _ a167) := (vin l_a167 (m := 3208) (by decide) (q323 h2 i1 c13 c105 i1 r_x116 c117 c118 ex121 ex124 c128 c165 c168 c170 c173 c177 ex183 c186))
                          refine ⟨i189, ?_⟩
                          intro S190 eS190
                          have hI : IV S190 := by rw [eS190]; exact iv_aJ hI o_v0 (by decide) ea167 o_a167 (by decide)
                          have f0 := fr_J eS190 f0
                          have fL108 := fr_J eS190 fL108
                          have d_x116 := rd_J eS190 d_x116
                          have d_x127 := rd_J eS190 d_x127
                          have ea119 := rf_J eS190 ea119
                          have ea122 := rf_J eS190 ea122
                          have ea125 := rf_J eS190 ea125
                          have ea167 := rf_J eS190 ea167
                          have ea179 := rf_J eS190 ea179
                          have hM := wm_J eS190 hM
                          have l_a119 := ln_J eS190 l_a119
                          have l_a122 := ln_J eS190 l_a122
                          have l_a125 := ln_J eS190 l_a125
                          have l_a167 := ln_J eS190 l_a167
                          have l_a179 := ln_J eS190 l_a179
                          have g0 := gr_J eS190 g0
                          have gL107 := gr_J eS190 gL107
                          have o_a119 := ob_J eS190 o_a119
                          have o_a122 := ob_J eS190 o_a122
                          have o_a125 := ob_J eS190 o_a125
                          have o_a167 := ob_J eS190 o_a167
                          have o_a179 := ob_J eS190 o_a179
                          have o_v0 := ob_J eS190 o_v0
                          obtain ⟨a191, ea191, o_a191, -⟩ := sh 23 rfl hI o_v0
                          have l_a191 := wm hM 2 rfl ea191
                          refine ⟨a191, ea191, ?_⟩
                          obtain ⟨a192, ea192, o_a192, -⟩ := sh 28 rfl hI o_v0
                          have l_a192 := wm hM 7 rfl ea192
                          refine ⟨a192, ea192, ?_⟩
                          refine ⟨o_a192, ?_⟩
                          refine ⟨(vin l_a192 (m := 224) (by decide) (q324 h2 i1 c13 c105 i1 r_x116 c117 c118 ex121 ex124 c128 c165 c168 c170 c173 c177 ex183 c186)), ?_⟩
                          intro x193 ex193
                          refine ⟨o_a191, ?_⟩
                          have i194 : vp_in x121 (hN _ a191) := (vin l_a191 (m := 3208) (by decide) (q323 h2 i1 c13 c105 i1 r_x116 c117 c118 ex121 ex124 c128 c165 c168 c170 c173 c177 ex183 c186))
                          refine ⟨i194, ?_⟩
                          intro S195 eS195
                          have hI : IV S195 := by rw [eS195]; exact iv_aI hI o_v0 (by decide) ea191 o_a191 (by decide)
                          have f0 := fr_A eS195 g0 f0 o_a191 (by decide)
                          have fL108 := fr_A eS195 gL107 fL108 o_a191 (by decide)
                          have d_x116 := rd_Ik eS195 o_a191 o_v0 (by decide) d_x116
                          have d_x127 := rd_Ik eS195 o_a191 o_v0 (by decide) d_x127
                          have ea119 := rf_I eS195 ea119
                          have ea122 := rf_I eS195 ea122
                          have ea125 := rf_I eS195 ea125
                          have ea167 := rf_I eS195 ea167
                          have ea179 := rf_I eS195 ea179
                          have ea191 := rf_I eS195 ea191
                          have ea192 := rf_I eS195 ea192
                          have hM := wm_I eS195 hM
                          have l_a119 := ln_I eS195 l_a119
                          have l_a122 := ln_I eS195 l_a122
                          have l_a125 := ln_I eS195 l_a125
                          have l_a167 := ln_I eS195 l_a167
                          have l_a179 := ln_I eS195 l_a179
                          have l_a191 := ln_I eS195 l_a191
                          have l_a192 := ln_I eS195 l_a192
                          have g0 := gr_I eS195 g0
                          have gL107 := gr_I eS195 gL107
                          have o_a119 := ob_I eS195 o_a119
                          have o_a122 := ob_I eS195 o_a122
                          have o_a125 := ob_I eS195 o_a125
                          have o_a167 := ob_I eS195 o_a167
                          have o_a179 := ob_I eS195 o_a179
                          have o_a191 := ob_I eS195 o_a191
                          have o_a192 := ob_I eS195 o_a192
                          have o_v0 := ob_I eS195 o_v0
                          refine u_X7_reckonMinute_219 ?_
                          intro x196 ex196
                          exact ih115 _ _ _ _ ⟨hI, gL107, fL108, rfl, rfl, hM, (q325 h2 i1 c13 c105 i1 r_x116 c117 c118 ex121 ex124 c128 c165 c168 c170 c173 c177 ex183 c186 ex196)⟩ (mu_up (q326 h2 i1 c13 c105 i1 r_x116 c117 c118 ex121 ex124 c128 c165 c168 c170 c173 c177 ex183 c186 ex196) (q327 h2 i1 c13 c105 i1 r_x116 c117 c118 ex121 ex124 c128 c165 c168 c170 c173 c177 ex183 c186 ex196))
    · refine ⟨o_v0, ?_⟩
      obtain ⟨a197, ea197, o_a197, -⟩ := sh 22 rfl hI o_v0
      have l_a197 := wm hM 1 rfl ea197
      refine ⟨a197, ea197, ?_⟩
      intro x198 ex198
      have d_x198 := ex198
      refine ⟨fun c199 => ?_, fun c199 => ?_⟩
      · refine u_X7_reckonMinute_40 ?_
        refine ⟨o_a197, ?_⟩
        have i200 : vp_in ((w10 * (401 : Int32)) + v2) (hN _ a197) := (vin l_a197 (m := 3208) (by decide) (q328 h2 i1 c13 c105 c199))
        refine ⟨i200, ?_⟩
        intro S201 eS201
        have hI : IV S201 := by rw [eS201]; exact iv_aJ hI o_v0 (by decide) ea197 o_a197 (by decide)
        have f0 := fr_J eS201 f0
        have fL3 := fr_J eS201 fL3
        have d_x198 := rd_J eS201 d_x198
        have ea197 := rf_J eS201 ea197
        have hM := wm_J eS201 hM
        have l_a197 := ln_J eS201 l_a197
        have g0 := gr_J eS201 g0
        have gL2 := gr_J eS201 gL2
        have o_a197 := ob_J eS201 o_a197
        have o_v0 := ob_J eS201 o_v0
        refine ⟨o_v0, ?_⟩
        obtain ⟨a202, ea202, o_a202, -⟩ := sh 23 rfl hI o_v0
        have l_a202 := wm hM 2 rfl ea202
        refine ⟨a202, ea202, ?_⟩
        refine ⟨o_a202, ?_⟩
        have i203 : vp_in ((w10 * (401 : Int32)) + v2) (hN _ a202) := (vin l_a202 (m := 3208) (by decide) (q328 h2 i1 c13 c105 c199))
        refine ⟨i203, ?_⟩
        intro S204 eS204
        have hI : IV S204 := by rw [eS204]; exact iv_aI hI o_v0 (by decide) ea202 o_a202 (by decide)
        have f0 := fr_A eS204 g0 f0 o_a202 (by decide)
        have fL3 := fr_A eS204 gL2 fL3 o_a202 (by decide)
        have d_x198 := rd_Ik eS204 o_a202 o_v0 (by decide) d_x198
        have ea197 := rf_I eS204 ea197
        have ea202 := rf_I eS204 ea202
        have hM := wm_I eS204 hM
        have l_a197 := ln_I eS204 l_a197
        have l_a202 := ln_I eS204 l_a202
        have g0 := gr_I eS204 g0
        have gL2 := gr_I eS204 gL2
        have o_a197 := ob_I eS204 o_a197
        have o_a202 := ob_I eS204 o_a202
        have o_v0 := ob_I eS204 o_v0
        intro x205 ex205
        exact ih12 _ _ _ _ _ ⟨hI, gL2, fL3, rfl, rfl, rfl, hM, (q329 i1 c13 c105 c199 ex205)⟩ (mu_up (q330 i1 c13 c105 c199 ex205) (q331 i1 c13 c105 c199 ex205))
      · refine u_X7_reckonMinute_40 ?_
        refine ⟨o_a197, ?_⟩
        have i206 : vp_in ((w10 * (401 : Int32)) + v2) (hN _ a197) := (vin l_a197 (m := 3208) (by decide) (q332 h2 i1 c13 c105 c199))
        refine ⟨i206, ?_⟩
        intro S207 eS207
        have hI : IV S207 := by rw [eS207]; exact iv_aJ hI o_v0 (by decide) ea197 o_a197 (by decide)
        have f0 := fr_J eS207 f0
        have fL3 := fr_J eS207 fL3
        have d_x198 := rd_J eS207 d_x198
        have ea197 := rf_J eS207 ea197
        have hM := wm_J eS207 hM
        have l_a197 := ln_J eS207 l_a197
        have g0 := gr_J eS207 g0
        have gL2 := gr_J eS207 gL2
        have o_a197 := ob_J eS207 o_a197
        have o_v0 := ob_J eS207 o_v0
        refine ⟨o_v0, ?_⟩
        obtain ⟨a208, ea208, o_a208, -⟩ := sh 23 rfl hI o_v0
        have l_a208 := wm hM 2 rfl ea208
        refine ⟨a208, ea208, ?_⟩
        refine ⟨o_a208, ?_⟩
        have i209 : vp_in ((w10 * (401 : Int32)) + v2) (hN _ a208) := (vin l_a208 (m := 3208) (by decide) (q332 h2 i1 c13 c105 c199))
        refine ⟨i209, ?_⟩
        intro S210 eS210
        have hI : IV S210 := by rw [eS210]; exact iv_aI hI o_v0 (by decide) ea208 o_a208 (by decide)
        have f0 := fr_A eS210 g0 f0 o_a208 (by decide)
        have fL3 := fr_A eS210 gL2 fL3 o_a208 (by decide)
        have d_x198 := rd_Ik eS210 o_a208 o_v0 (by decide) d_x198
        have ea197 := rf_I eS210 ea197
        have ea208 := rf_I eS210 ea208
        have hM := wm_I eS210 hM
        have l_a197 := ln_I eS210 l_a197
        have l_a208 := ln_I eS210 l_a208
        have g0 := gr_I eS210 g0
        have gL2 := gr_I eS210 gL2
        have o_a197 := ob_I eS210 o_a197
        have o_a208 := ob_I eS210 o_a208
        have o_v0 := ob_I eS210 o_v0
        intro x211 ex211
        exact ih12 _ _ _ _ _ ⟨hI, gL2, fL3, rfl, rfl, rfl, hM, (q333 i1 c13 c105 c199 ex211)⟩ (mu_up (q334 i1 c13 c105 c199 ex211) (q335 i1 c13 c105 c199 ex211))
