set_option maxHeartbeats 4000000 in
set_option maxRecDepth 20000 in
theorem m_X7_reckonMinute {v0 : Nat} {v1 : Int32} {v2 : Int32} {Q : HS → Prop} {S : HS} (hI : IV S) (o_v0 : ob S v0 7)   (h2 : 0 ≤ v2 ∧ v2 ≤ 400) (hM : WM S v0) (hq : ∀ (T : HS), IV T → Gr S T → FRI [] [] S T → (WM T v0) → Q T) : P_X7_reckonMinute v0 v1 v2 Q S := by
  have g0 := gr_rf S
  have f0 := fri_rf [] [] S
  refine u_X7_reckonMinute ?_
  refine u_X7_reckonMinute_0 ?_
  refine i_X7_reckonMinute_2 (fun (y0 : Nat) (y1 : Int32) (y2 : Int32) (y3 : Int32) (Z : HS) => ((2147483647 : Int32).toInt - y3.toInt).toNat) (fun (y0 : Nat) (y1 : Int32) (y2 : Int32) (y3 : Int32) (Z : HS) => (IV Z) ∧ (Gr S Z) ∧ (FRI [] [] S Z) ∧ (v0 = y0) ∧ (v1 = y1) ∧ (v2 = y2) ∧ (WM Z v0) ∧ (0 ≤ y3)) ?_ _ _ _ _ _ ⟨hI, (gr_rf _), (fri_rf _ _ _), rfl, rfl, rfl, hM, (q82)⟩
  intro w4 w6 w8 w10 S1 X11 ⟨hI, gL2, fL3, q5, q7, q9, hM, i1⟩ ih12
  subst q5
  subst q7
  subst q9
  have f0 := fri_tr (S := S) g0 f0 fL3 (by decide) (by decide)
  have o_v0 := gr_ob gL2 o_v0
  have g0 := gr_tr (T := S) g0 gL2
  refine u_X7_reckonMinute_2 ?_
  refine ⟨fun c13 => ?_, fun c13 => ?_⟩
  · refine u_X7_reckonMinute_60 ?_
    refine i_X7_reckonMinute_62 (fun (y0 : Nat) (y2 : Int32) (y3 : Int32) (Z : HS) => ((2147483647 : Int32).toInt - y3.toInt).toNat) (fun (y0 : Nat) (y2 : Int32) (y3 : Int32) (Z : HS) => (IV Z) ∧ (Gr S1 Z) ∧ (FRI [] [] S1 Z) ∧ (v0 = y0) ∧ (v2 = y2) ∧ (WM Z v0) ∧ (0 ≤ y3)) ?_ _ _ _ _ ⟨hI, (gr_rf _), (fri_rf _ _ _), rfl, rfl, hM, (q204 i1 c13)⟩
    intro w17 w19 w21 S14 X22 ⟨hI, gL15, fL16, q18, q20, hM, i1⟩ ih23
    subst q18
    subst q20
    have f0 := fri_tr (S := S1) g0 f0 fL16 (by decide) (by decide)
    have fL3 := fri_tr (S := S1) gL2 fL3 fL16 (by decide) (by decide)
    have o_v0 := gr_ob gL15 o_v0
    have g0 := gr_tr (T := S1) g0 gL15
    have gL2 := gr_tr (T := S1) gL2 gL15
    refine u_X7_reckonMinute_62 ?_
    refine ⟨o_v0, ?_⟩
    intro x24 ex24
    have r_x24 : (0 : Int32) ≤ x24 ∧ x24 ≤ (224 : Int32) := by rw [ex24]; exact nu 8 rfl hI o_v0
    have d_x24 := ex24
    refine ⟨fun c25 => ?_, fun c25 => ?_⟩
    · exact hq _ hI g0 f0 hM
    · refine ⟨fun c26 => ?_, fun c26 => ?_⟩
      · exact hq _ hI g0 f0 hM
      · obtain ⟨a27, ea27, o_a27, -⟩ := sh 24 rfl hI o_v0
        have l_a27 := wm hM 3 rfl ea27
        refine ⟨a27, ea27, ?_⟩
        refine ⟨o_a27, ?_⟩
        refine ⟨(vin l_a27 (m := 224) (by decide) (q205 i1 c13 i1 r_x24 c25 c26)), ?_⟩
        intro x28 ex28
        intro x29 ex29
        obtain ⟨a30, ea30, o_a30, -⟩ := sh 25 rfl hI o_v0
        have l_a30 := wm hM 4 rfl ea30
        refine ⟨a30, ea30, ?_⟩
        refine ⟨o_a30, ?_⟩
        refine ⟨(vin l_a30 (m := 224) (by decide) (q205 i1 c13 i1 r_x24 c25 c26)), ?_⟩
        intro x31 ex31
        intro x32 ex32
        obtain ⟨a33, ea33, o_a33, -⟩ := sh 26 rfl hI o_v0
        have l_a33 := wm hM 5 rfl ea33
        refine ⟨a33, ea33, ?_⟩
        refine ⟨o_a33, ?_⟩
        refine ⟨(vin l_a33 (m := 224) (by decide) (q205 i1 c13 i1 r_x24 c25 c26)), ?_⟩
        intro x34 ex34
        intro x35 ex35
        have d_x35 := ex35
        refine ⟨fun c36 => ?_, fun c36 => ?_⟩
        · refine u_X7_reckonMinute_117 ?_
          refine ⟨fun c37 => ?_, fun c37 => ?_⟩
          · refine u_X7_reckonMinute_219 ?_
            intro x38 ex38
            exact ih23 _ _ _ _ ⟨hI, gL15, fL16, rfl, rfl, hM, (q206 h2 i1 c13 i1 r_x24 c25 c26 ex29 ex32 c36 ex38)⟩ (mu_up (q207 h2 i1 c13 i1 r_x24 c25 c26 ex29 ex32 c36 ex38) (q208 h2 i1 c13 i1 r_x24 c25 c26 ex29 ex32 c36 ex38))
          · refine ⟨fun c39 => ?_, fun c39 => ?_⟩
            · refine u_X7_reckonMinute_219 ?_
              intro x40 ex40
              exact ih23 _ _ _ _ ⟨hI, gL15, fL16, rfl, rfl, hM, (q209 h2 i1 c13 i1 r_x24 c25 c26 ex29 ex32 c36 c37 c39 ex40)⟩ (mu_up (q210 h2 i1 c13 i1 r_x24 c25 c26 ex29 ex32 c36 c37 c39 ex40) (q211 h2 i1 c13 i1 r_x24 c25 c26 ex29 ex32 c36 c37 c39 ex40))
            · refine ⟨o_v0, ?_⟩
              obtain ⟨a41, ea41, o_a41, -⟩ := sh 22 rfl hI o_v0
              have l_a41 := wm hM 1 rfl ea41
              refine ⟨a41, ea41, ?_⟩
              refine ⟨o_a41, ?_⟩
              have n_a41 : nI (hN S14 a41) = 3208 := by rw [show hN S14 a41 = 3208 from l_a41]; decide
              refine ⟨fun c42 => ?_, fun c42 => ?_⟩
              · rw [n_a41] at c42
                refine u_X7_reckonMinute_219 ?_
                intro x43 ex43
                exact ih23 _ _ _ _ ⟨hI, gL15, fL16, rfl, rfl, hM, (q212 h2 i1 c13 i1 r_x24 c25 c26 ex29 ex32 c36 c37 c39 c42 ex43)⟩ (mu_up (q213 h2 i1 c13 i1 r_x24 c25 c26 ex29 ex32 c36 c37 c39 c42 ex43) (q214 h2 i1 c13 i1 r_x24 c25 c26 ex29 ex32 c36 c37 c39 c42 ex43))
              · rw [n_a41] at c42
                refine ⟨fun c44 => ?_, fun c44 => ?_⟩
                · refine u_X7_reckonMinute_219 ?_
                  intro x45 ex45
                  exact ih23 _ _ _ _ ⟨hI, gL15, fL16, rfl, rfl, hM, (q215 h2 i1 c13 i1 r_x24 c25 c26 ex29 ex32 c36 c37 c39 c42 c44 ex45)⟩ (mu_up (q216 h2 i1 c13 i1 r_x24 c25 c26 ex29 ex32 c36 c37 c39 c42 c44 ex45) (q217 h2 i1 c13 i1 r_x24 c25 c26 ex29 ex32 c36 c37 c39 c42 c44 ex45))
                · refine ⟨a41, ea41, ?_⟩
                  refine ⟨o_a41, ?_⟩
                  have n_a41 : nI (hN S14 a41) = 3208 := by rw [show hN S14 a41 = 3208 from l_a41]; decide
                  refine ⟨fun c47 => ?_, fun c47 => ?_⟩
                  · rw [n_a41] at c47
                    refine u_X7_reckonMinute_219 ?_
                    intro x48 ex48
                    exact ih23 _ _ _ _ ⟨hI, gL15, fL16, rfl, rfl, hM, (q218 h2 i1 c13 i1 r_x24 c25 c26 ex29 ex32 c36 c37 c39 c42 c44 c47 ex48)⟩ (mu_up (q219 h2 i1 c13 i1 r_x24 c25 c26 ex29 ex32 c36 c37 c39 c42 c44 c47 ex48) (q220 h2 i1 c13 i1 r_x24 c25 c26 ex29 ex32 c36 c37 c39 c42 c44 c47 ex48))
                  · rw [n_a41] at c47
                    refine ⟨a41, ea41, ?_⟩
                    refine ⟨o_a41, ?_⟩
                    refine ⟨(vin l_a41 (m := 3208) (by decide) (q221 h2 i1 c13 i1 r_x24 c25 c26 ex29 ex32 c36 c37 c39 c42 c44 c47)), ?_⟩
                    intro x50 ex50
                    refine ⟨fun c51 => ?_, fun c51 => ?_⟩
                    · refine u_X7_reckonMinute_219 ?_
                      intro x52 ex52
                      exact ih23 _ _ _ _ ⟨hI, gL15, fL16, rfl, rfl, hM, (q222 h2 i1 c13 i1 r_x24 c25 c26 ex29 ex32 c36 c37 c39 c42 c44 c47 c51 ex52)⟩ (mu_up (q223 h2 i1 c13 i1 r_x24 c25 c26 ex29 ex32 c36 c37 c39 c42 c44 c47 c51 ex52) (q224 h2 i1 c13 i1 r_x24 c25 c26 ex29 ex32 c36 c37 c39 c42 c44 c47 c51 ex52))
                    · obtain ⟨a53, ea53, o_a53, -⟩ := sh 27 rfl hI o_v0
                      have l_a53 := wm hM 6 rfl ea53
                      refine ⟨a53, ea53, ?_⟩
                      refine ⟨o_a53, ?_⟩
                      refine ⟨(vin l_a53 (m := 224) (by decide) (q225 h2 i1 c13 i1 r_x24 c25 c26 ex29 ex32 c36 c37 c39 c42 c44 c47 c51)), ?_⟩
                      intro x54 ex54
                      refine ⟨a41, ea41, ?_⟩
                      refine ⟨o_a41, ?_⟩
                      refine ⟨(vin l_a41 (m := 3208) (by decide) (q226 h2 i1 c13 i1 r_x24 c25 c26 ex29 ex32 c36 c37 c39 c42 c44 c47 c51)), ?_⟩
                      intro x56 ex56
                      intro x57 ex57
                      refine ⟨a41, ea41, ?_⟩
                      refine ⟨o_a41, ?_⟩
                      refine ⟨(vin l_a41 (m := 3208) (by decide) (q227 h2 i1 c13 i1 r_x24 c25 c26 ex29 ex32 c36 c37 c39 c42 c44 c47 c51)), ?_⟩
                      intro x59 ex59
                      refine ⟨fun c60 => ?_, fun c60 => ?_⟩
                      · refine u_X7_reckonMinute_219 ?_
                        intro x61 ex61
                        exact ih23 _ _ _ _ ⟨hI, gL15, fL16, rfl, rfl, hM, (q228 h2 i1 c13 i1 r_x24 c25 c26 ex29 ex32 c36 c37 c39 c42 c44 c47 c51 ex57 c60 ex61)⟩ (mu_up (q229 h2 i1 c13 i1 r_x24 c25 c26 ex29 ex32 c36 c37 c39 c42 c44 c47 c51 ex57 c60 ex61) (q230 h2 i1 c13 i1 r_x24 c25 c26 ex29 ex32 c36 c37 c39 c42 c44 c47 c51 ex57 c60 ex61))
                      · refine ⟨a41, ea41, ?_⟩
                        refine ⟨o_a41, ?_⟩
                        have i63 : vp_in x29 (hN _ a41) := (vin l_a41 (m := 3208) (by decide) (q231 h2 i1 c13 i1 r_x24 c25 c26 ex29 ex32 c36 c37 c39 c42 c44 c47 c51 ex57 c60))
                        refine ⟨i63, ?_⟩
                        have hI := iv_aJ (i := x29.toNatClampNeg) (v := x57) hI o_v0 (by decide) ea41 o_a41 (by decide)
                        obtain ⟨a64, ea64, o_a64, -⟩ := sh 23 rfl hI o_v0
                        have l_a64 := wm hM 2 rfl ea64
                        refine ⟨a64, ea64, ?_⟩
                        obtain ⟨a65, ea65, o_a65, -⟩ := sh 28 rfl hI o_v0
                        have l_a65 := wm hM 7 rfl ea65
                        refine ⟨a65, ea65, ?_⟩
                        refine ⟨o_a65, ?_⟩
                        refine ⟨(vin l_a65 (m := 224) (by decide) (q232 h2 i1 c13 i1 r_x24 c25 c26 ex29 ex32 c36 c37 c39 c42 c44 c47 c51 ex57 c60)), ?_⟩
                        intro x66 ex66
                        refine ⟨o_a64, ?_⟩
                        have i67 : vp_in x29 (hN _ a64) := (vin l_a64 (m := 3208) (by decide) (q231 h2 i1 c13 i1 r_x24 c25 c26 ex29 ex32 c36 c37 c39 c42 c44 c47 c51 ex57 c60))
                        refine ⟨i67, ?_⟩
                        have hI := iv_aI (i := x29.toNatClampNeg) (v := x66) hI o_v0 (by decide) ea64 o_a64 (by decide)
                        have f0 : FRI _ _ _ (sI (sJ S14 a41 x29.toNatClampNeg x57) a64 x29.toNatClampNeg x66) := fri_aI (S := sJ S14 a41 x29.toNatClampNeg x57) g0 f0 o_a64 (by decide)
                        have fL3 : FRI _ _ _ (sI (sJ S14 a41 x29.toNatClampNeg x57) a64 x29.toNatClampNeg x66) := fri_aI (S := sJ S14 a41 x29.toNatClampNeg x57) gL2 fL3 o_a64 (by decide)
                        have fL16 : FRI _ _ _ (sI (sJ S14 a41 x29.toNatClampNeg x57) a64 x29.toNatClampNeg x66) := fri_aI (S := sJ S14 a41 x29.toNatClampNeg x57) gL15 fL16 o_a64 (by decide)
                        have d_x24 : x24 = fI (sI (sJ S14 a41 x29.toNatClampNeg x57) a64 x29.toNatClampNeg x66) v0 3 := d_x24.trans (sI_ne (S := sJ S14 a41 x29.toNatClampNeg x57) o_a64 o_v0 (by decide) 3).symm
                        have d_x35 : x35 = fI (sI (sJ S14 a41 x29.toNatClampNeg x57) a64 x29.toNatClampNeg x66) v0 12 := d_x35.trans (sI_ne (S := sJ S14 a41 x29.toNatClampNeg x57) o_a64 o_v0 (by decide) 12).symm
                        refine u_X7_reckonMinute_219 ?_
                        intro x68 ex68
                        exact ih23 _ _ _ _ ⟨hI, gL15, fL16, rfl, rfl, hM, (q233 h2 i1 c13 i1 r_x24 c25 c26 ex29 ex32 c36 c37 c39 c42 c44 c47 c51 ex57 c60 ex68)⟩ (mu_up (q234 h2 i1 c13 i1 r_x24 c25 c26 ex29 ex32 c36 c37 c39 c42 c44 c47 c51 ex57 c60 ex68) (q235 h2 i1 c13 i1 r_x24 c25 c26 ex29 ex32 c36 c37 c39 c42 c44 c47 c51 ex57 c60 ex68))
        · refine u_X7_reckonMinute_117 ?_
          refine ⟨fun c69 => ?_, fun c69 => ?_⟩
          · refine u_X7_reckonMinute_219 ?_
            intro x70 ex70
            exact ih23 _ _ _ _ ⟨hI, gL15, fL16, rfl, rfl, hM, (q236 h2 i1 c13 i1 r_x24 c25 c26 ex29 ex32 c36 c69 ex70)⟩ (mu_up (q237 h2 i1 c13 i1 r_x24 c25 c26 ex29 ex32 c36 c69 ex70) (q238 h2 i1 c13 i1 r_x24 c25 c26 ex29 ex32 c36 c69 ex70))
          · refine ⟨fun c71 => ?_, fun c71 => ?_⟩
            · refine u_X7_reckonMinute_219 ?_
              intro x72 ex72
              exact ih23 _ _ _ _ ⟨hI, gL15, fL16, rfl, rfl, hM, (q239 h2 i1 c13 i1 r_x24 c25 c26 ex29 ex32 c36 c71 ex72)⟩ (mu_up (q240 h2 i1 c13 i1 r_x24 c25 c26 ex29 ex32 c36 c71 ex72) (q241 h2 i1 c13 i1 r_x24 c25 c26 ex29 ex32 c36 c71 ex72))
            · refine ⟨o_v0, ?_⟩
              obtain ⟨a73, ea73, o_a73, -⟩ := sh 22 rfl hI o_v0
              have l_a73 := wm hM 1 rfl ea73
              refine ⟨a73, ea73, ?_⟩
              refine ⟨o_a73, ?_⟩
              have n_a73 : nI (hN S14 a73) = 3208 := by rw [show hN S14 a73 = 3208 from l_a73]; decide
              refine ⟨fun c74 => ?_, fun c74 => ?_⟩
              · rw [n_a73] at c74
                refine u_X7_reckonMinute_219 ?_
                intro x75 ex75
                exact ih23 _ _ _ _ ⟨hI, gL15, fL16, rfl, rfl, hM, (q242 h2 i1 c13 i1 r_x24 c25 c26 ex29 ex32 c36 c71 c74 ex75)⟩ (mu_up (q243 h2 i1 c13 i1 r_x24 c25 c26 ex29 ex32 c36 c71 c74 ex75) (q244 h2 i1 c13 i1 r_x24 c25 c26 ex29 ex32 c36 c71 c74 ex75))
              · rw [n_a73] at c74
                refine ⟨fun c76 => ?_, fun c76 => ?_⟩
                · refine u_X7_reckonMinute_219 ?_
                  intro x77 ex77
                  exact ih23 _ _ _ _ ⟨hI, gL15, fL16, rfl, rfl, hM, (q245 h2 i1 c13 i1 r_x24 c25 c26 ex29 ex32 c36 c71 c74 c76 ex77)⟩ (mu_up (q246 h2 i1 c13 i1 r_x24 c25 c26 ex29 ex32 c36 c71 c74 c76 ex77) (q247 h2 i1 c13 i1 r_x24 c25 c26 ex29 ex32 c36 c71 c74 c76 ex77))
                · refine ⟨a73, ea73, ?_⟩
                  refine ⟨o_a73, ?_⟩
                  have n_a73 : nI (hN S14 a73) = 3208 := by rw [show hN S14 a73 = 3208 from l_a73]; decide
                  refine ⟨fun c79 => ?_, fun c79 => ?_⟩
                  · rw [n_a73] at c79
                    refine u_X7_reckonMinute_219 ?_
                    intro x80 ex80
                    exact ih23 _ _ _ _ ⟨hI, gL15, fL16, rfl, rfl, hM, (q248 h2 i1 c13 i1 r_x24 c25 c26 ex29 ex32 c36 c71 c74 c76 c79 ex80)⟩ (mu_up (q249 h2 i1 c13 i1 r_x24 c25 c26 ex29 ex32 c36 c71 c74 c76 c79 ex80) (q250 h2 i1 c13 i1 r_x24 c25 c26 ex29 ex32 c36 c71 c74 c76 c79 ex80))
                  · rw [n_a73] at c79
                    refine ⟨a73, ea73, ?_⟩
                    refine ⟨o_a73, ?_⟩
                    refine ⟨(vin l_a73 (m := 3208) (by decide) (q251 h2 i1 c13 i1 r_x24 c25 c26 ex29 ex32 c36 c71 c74 c76 c79)), ?_⟩
                    intro x82 ex82
                    refine ⟨fun c83 => ?_, fun c83 => ?_⟩
                    · refine u_X7_reckonMinute_219 ?_
                      intro x84 ex84
                      exact ih23 _ _ _ _ ⟨hI, gL15, fL16, rfl, rfl, hM, (q252 h2 i1 c13 i1 r_x24 c25 c26 ex29 ex32 c36 c71 c74 c76 c79 c83 ex84)⟩ (mu_up (q253 h2 i1 c13 i1 r_x24 c25 c26 ex29 ex32 c36 c71 c74 c76 c79 c83 ex84) (q254 h2 i1 c13 i1 r_x24 c25 c26 ex29 ex32 c36 c71 c74 c76 c79 c83 ex84))
                    · obtain ⟨a85, ea85, o_a85, -⟩ := sh 27 rfl hI o_v0
                      have l_a85 := wm hM 6 rfl ea85
                      refine ⟨a85, ea85, ?_⟩
                      refine ⟨o_a85, ?_⟩
                      refine ⟨(vin l_a85 (m := 224) (by decide) (q255 h2 i1 c13 i1 r_x24 c25 c26 ex29 ex32 c36 c71 c74 c76 c79 c83)), ?_⟩
                      intro x86 ex86
                      refine ⟨a73, ea73, ?_⟩
                      refine ⟨o_a73, ?_⟩
                      refine ⟨(vin l_a73 (m := 3208) (by decide) (q256 h2 i1 c13 i1 r_x24 c25 c26 ex29 ex32 c36 c71 c74 c76 c79 c83)), ?_⟩
                      intro x88 ex88
                      intro x89 ex89
                      refine ⟨a73, ea73, ?_⟩
                      refine ⟨o_a73, ?_⟩
                      refine ⟨(vin l_a73 (m := 3208) (by decide) (q257 h2 i1 c13 i1 r_x24 c25 c26 ex29 ex32 c36 c71 c74 c76 c79 c83)), ?_⟩
                      intro x91 ex91
                      refine ⟨fun c92 => ?_, fun c92 => ?_⟩
                      · refine u_X7_reckonMinute_219 ?_
                        intro x93 ex93
                        exact ih23 _ _ _ _ ⟨hI, gL15, fL16, rfl, rfl, hM, (q258 h2 i1 c13 i1 r_x24 c25 c26 ex29 ex32 c36 c71 c74 c76 c79 c83 ex89 c92 ex93)⟩ (mu_up (q259 h2 i1 c13 i1 r_x24 c25 c26 ex29 ex32 c36 c71 c74 c76 c79 c83 ex89 c92 ex93) (q260 h2 i1 c13 i1 r_x24 c25 c26 ex29 ex32 c36 c71 c74 c76 c79 c83 ex89 c92 ex93))
                      · refine ⟨a73, ea73, ?_⟩
                        refine ⟨o_a73, ?_⟩
                        have i95 : vp_in x29 (hN _ a73) := (vin l_a73 (m := 3208) (by decide) (q261 h2 i1 c13 i1 r_x24 c25 c26 ex29 ex32 c36 c71 c74 c76 c79 c83 ex89 c92))
                        refine ⟨i95, ?_⟩
                        have hI := iv_aJ (i := x29.toNatClampNeg) (v := x89) hI o_v0 (by decide) ea73 o_a73 (by decide)
                        obtain ⟨a96, ea96, o_a96, -⟩ := sh 23 rfl hI o_v0
                        have l_a96 := wm hM 2 rfl ea96
                        refine ⟨a96, ea96, ?_⟩
                        obtain ⟨a97, ea97, o_a97, -⟩ := sh 28 rfl hI o_v0
                        have l_a97 := wm hM 7 rfl ea97
                        refine ⟨a97, ea97, ?_⟩
                        refine ⟨o_a97, ?_⟩
                        refine ⟨(vin l_a97 (m := 224) (by decide) (q262 h2 i1 c13 i1 r_x24 c25 c26 ex29 ex32 c36 c71 c74 c76 c79 c83 ex89 c92)), ?_⟩
                        intro x98 ex98
                        refine ⟨o_a96, ?_⟩
                        have i99 : vp_in x29 (hN _ a96) := (vin l_a96 (m := 3208) (by decide) (q261 h2 i1 c13 i1 r_x24 c25 c26 ex29 ex32 c36 c71 c74 c76 c79 c83 ex89 c92))
                        refine ⟨i99, ?_⟩
                        have hI := iv_aI (i := x29.toNatClampNeg) (v := x98) hI o_v0 (by decide) ea96 o_a96 (by decide)
                        have f0 : FRI _ _ _ (sI (sJ S14 a73 x29.toNatClampNeg x89) a96 x29.toNatClampNeg x98) := fri_aI (S := sJ S14 a73 x29.toNatClampNeg x89) g0 f0 o_a96 (by decide)
                        have fL3 : FRI _ _ _ (sI (sJ S14 a73 x29.toNatClampNeg x89) a96 x29.toNatClampNeg x98) := fri_aI (S := sJ S14 a73 x29.toNatClampNeg x89) gL2 fL3 o_a96 (by decide)
                        have fL16 : FRI _ _ _ (sI (sJ S14 a73 x29.toNatClampNeg x89) a96 x29.toNatClampNeg x98) := fri_aI (S := sJ S14 a73 x29.toNatClampNeg x89) gL15 fL16 o_a96 (by decide)
                        have d_x24 : x24 = fI (sI (sJ S14 a73 x29.toNatClampNeg x89) a96 x29.toNatClampNeg x98) v0 3 := d_x24.trans (sI_ne (S := sJ S14 a73 x29.toNatClampNeg x89) o_a96 o_v0 (by decide) 3).symm
                        have d_x35 : x35 = fI (sI (sJ S14 a73 x29.toNatClampNeg x89) a96 x29.toNatClampNeg x98) v0 12 := d_x35.trans (sI_ne (S := sJ S14 a73 x29.toNatClampNeg x89) o_a96 o_v0 (by decide) 12).symm
                        refine u_X7_reckonMinute_219 ?_
                        intro x100 ex100
                        exact ih23 _ _ _ _ ⟨hI, gL15, fL16, rfl, rfl, hM, (q263 h2 i1 c13 i1 r_x24 c25 c26 ex29 ex32 c36 c71 c74 c76 c79 c83 ex89 c92 ex100)⟩ (mu_up (q264 h2 i1 c13 i1 r_x24 c25 c26 ex29 ex32 c36 c71 c74 c76 c79 c83 ex89 c92 ex100) (q265 h2 i1 c13 i1 r_x24 c25 c26 ex29 ex32 c36 c71 c74 c76 c79 c83 ex89 c92 ex100))
  · refine ⟨fun c101 => ?_, fun c101 => ?_⟩
    · refine u_X7_reckonMinute_60 ?_
      refine i_X7_reckonMinute_62 (fun (y0 : Nat) (y2 : Int32) (y3 : Int32) (Z : HS) => ((2147483647 : Int32).toInt - y3.toInt).toNat) (fun (y0 : Nat) (y2 : Int32) (y3 : Int32) (Z : HS) => (IV Z) ∧ (Gr S1 Z) ∧ (FRI [] [] S1 Z) ∧ (v0 = y0) ∧ (v2 = y2) ∧ (WM Z v0) ∧ (0 ≤ y3)) ?_ _ _ _ _ ⟨hI, (gr_rf _), (fri_rf _ _ _), rfl, rfl, hM, (q266 i1 c13 c101)⟩
      intro w105 w107 w109 S102 X110 ⟨hI, gL103, fL104, q106, q108, hM, i1⟩ ih111
      subst q106
      subst q108
      have f0 := fri_tr (S := S1) g0 f0 fL104 (by decide) (by decide)
      have fL3 := fri_tr (S := S1) gL2 fL3 fL104 (by decide) (by decide)
      have o_v0 := gr_ob gL103 o_v0
      have g0 := gr_tr (T := S1) g0 gL103
      have gL2 := gr_tr (T := S1) gL2 gL103
      refine u_X7_reckonMinute_62 ?_
      refine ⟨o_v0, ?_⟩
      intro x112 ex112
      have r_x112 : (0 : Int32) ≤ x112 ∧ x112 ≤ (224 : Int32) := by rw [ex112]; exact nu 8 rfl hI o_v0
      have d_x112 := ex112
      refine ⟨fun c113 => ?_, fun c113 => ?_⟩
      · exact hq _ hI g0 f0 hM
      · refine ⟨fun c114 => ?_, fun c114 => ?_⟩
        · exact hq _ hI g0 f0 hM
        · obtain ⟨a115, ea115, o_a115, -⟩ := sh 24 rfl hI o_v0
          have l_a115 := wm hM 3 rfl ea115
          refine ⟨a115, ea115, ?_⟩
          refine ⟨o_a115, ?_⟩
          refine ⟨(vin l_a115 (m := 224) (by decide) (q267 i1 c13 c101 i1 r_x112 c113 c114)), ?_⟩
          intro x116 ex116
          intro x117 ex117
          obtain ⟨a118, ea118, o_a118, -⟩ := sh 25 rfl hI o_v0
          have l_a118 := wm hM 4 rfl ea118
          refine ⟨a118, ea118, ?_⟩
          refine ⟨o_a118, ?_⟩
          refine ⟨(vin l_a118 (m := 224) (by decide) (q267 i1 c13 c101 i1 r_x112 c113 c114)), ?_⟩
          intro x119 ex119
          intro x120 ex120
          obtain ⟨a121, ea121, o_a121, -⟩ := sh 26 rfl hI o_v0
          have l_a121 := wm hM 5 rfl ea121
          refine ⟨a121, ea121, ?_⟩
          refine ⟨o_a121, ?_⟩
          refine ⟨(vin l_a121 (m := 224) (by decide) (q267 i1 c13 c101 i1 r_x112 c113 c114)), ?_⟩
          intro x122 ex122
          intro x123 ex123
          have d_x123 := ex123
          refine ⟨fun c124 => ?_, fun c124 => ?_⟩
          · refine u_X7_reckonMinute_117 ?_
            refine ⟨fun c125 => ?_, fun c125 => ?_⟩
            · refine u_X7_reckonMinute_219 ?_
              intro x126 ex126
              exact ih111 _ _ _ _ ⟨hI, gL103, fL104, rfl, rfl, hM, (q268 h2 i1 c13 c101 i1 r_x112 c113 c114 ex117 ex120 c124 ex126)⟩ (mu_up (q269 h2 i1 c13 c101 i1 r_x112 c113 c114 ex117 ex120 c124 ex126) (q270 h2 i1 c13 c101 i1 r_x112 c113 c114 ex117 ex120 c124 ex126))
            · refine ⟨fun c127 => ?_, fun c127 => ?_⟩
              · refine u_X7_reckonMinute_219 ?_
                intro x128 ex128
                exact ih111 _ _ _ _ ⟨hI, gL103, fL104, rfl, rfl, hM, (q271 h2 i1 c13 c101 i1 r_x112 c113 c114 ex117 ex120 c124 c125 c127 ex128)⟩ (mu_up (q272 h2 i1 c13 c101 i1 r_x112 c113 c114 ex117 ex120 c124 c125 c127 ex128) (q273 h2 i1 c13 c101 i1 r_x112 c113 c114 ex117 ex120 c124 c125 c127 ex128))
              · refine ⟨o_v0, ?_⟩
                obtain ⟨a129, ea129, o_a129, -⟩ := sh 22 rfl hI o_v0
                have l_a129 := wm hM 1 rfl ea129
                refine ⟨a129, ea129, ?_⟩
                refine ⟨o_a129, ?_⟩
                have n_a129 : nI (hN S102 a129) = 3208 := by rw [show hN S102 a129 = 3208 from l_a129]; decide
                refine ⟨fun c130 => ?_, fun c130 => ?_⟩
                · rw [n_a129] at c130
                  refine u_X7_reckonMinute_219 ?_
                  intro x131 ex131
                  exact ih111 _ _ _ _ ⟨hI, gL103, fL104, rfl, rfl, hM, (q274 h2 i1 c13 c101 i1 r_x112 c113 c114 ex117 ex120 c124 c125 c127 c130 ex131)⟩ (mu_up (q275 h2 i1 c13 c101 i1 r_x112 c113 c114 ex117 ex120 c124 c125 c127 c130 ex131) (q276 h2 i1 c13 c101 i1 r_x112 c113 c114 ex117 ex120 c124 c125 c127 c130 ex131))
                · rw [n_a129] at c130
                  refine ⟨fun c132 => ?_, fun c132 => ?_⟩
                  · refine u_X7_reckonMinute_219 ?_
                    intro x133 ex133
                    exact ih111 _ _ _ _ ⟨hI, gL103, fL104, rfl, rfl, hM, (q277 h2 i1 c13 c101 i1 r_x112 c113 c114 ex117 ex120 c124 c125 c127 c130 c132 ex133)⟩ (mu_up (q278 h2 i1 c13 c101 i1 r_x112 c113 c114 ex117 ex120 c124 c125 c127 c130 c132 ex133) (q279 h2 i1 c13 c101 i1 r_x112 c113 c114 ex117 ex120 c124 c125 c127 c130 c132 ex133))
                  · refine ⟨a129, ea129, ?_⟩
                    refine ⟨o_a129, ?_⟩
                    have n_a129 : nI (hN S102 a129) = 3208 := by rw [show hN S102 a129 = 3208 from l_a129]; decide
                    refine ⟨fun c135 => ?_, fun c135 => ?_⟩
                    · rw [n_a129] at c135
                      refine u_X7_reckonMinute_219 ?_
                      intro x136 ex136
                      exact ih111 _ _ _ _ ⟨hI, gL103, fL104, rfl, rfl, hM, (q280 h2 i1 c13 c101 i1 r_x112 c113 c114 ex117 ex120 c124 c125 c127 c130 c132 c135 ex136)⟩ (mu_up (q281 h2 i1 c13 c101 i1 r_x112 c113 c114 ex117 ex120 c124 c125 c127 c130 c132 c135 ex136) (q282 h2 i1 c13 c101 i1 r_x112 c113 c114 ex117 ex120 c124 c125 c127 c130 c132 c135 ex136))
                    · rw [n_a129] at c135
                      refine ⟨a129, ea129, ?_⟩
                      refine ⟨o_a129, ?_⟩
                      refine ⟨(vin l_a129 (m := 3208) (by decide) (q283 h2 i1 c13 c101 i1 r_x112 c113 c114 ex117 ex120 c124 c125 c127 c130 c132 c135)), ?_⟩
                      intro x138 ex138
                      refine ⟨fun c139 => ?_, fun c139 => ?_⟩
                      · refine u_X7_reckonMinute_219 ?_
                        intro x140 ex140
                        exact ih111 _ _ _ _ ⟨hI, gL103, fL104, rfl, rfl, hM, (q284 h2 i1 c13 c101 i1 r_x112 c113 c114 ex117 ex120 c124 c125 c127 c130 c132 c135 c139 ex140)⟩ (mu_up (q285 h2 i1 c13 c101 i1 r_x112 c113 c114 ex117 ex120 c124 c125 c127 c130 c132 c135 c139 ex140) (q286 h2 i1 c13 c101 i1 r_x112 c113 c114 ex117 ex120 c124 c125 c127 c130 c132 c135 c139 ex140))
                      · obtain ⟨a141, ea141, o_a141, -⟩ := sh 27 rfl hI o_v0
                        have l_a141 := wm hM 6 rfl ea141
                        refine ⟨a141, ea141, ?_⟩
                        refine ⟨o_a141, ?_⟩
                        refine ⟨(vin l_a141 (m := 224) (by decide) (q287 h2 i1 c13 c101 i1 r_x112 c113 c114 ex117 ex120 c124 c125 c127 c130 c132 c135 c139)), ?_⟩
                        intro x142 ex142
                        refine ⟨a129, ea129, ?_⟩
                        refine ⟨o_a129, ?_⟩
                        refine ⟨(vin l_a129 (m := 3208) (by decide) (q288 h2 i1 c13 c101 i1 r_x112 c113 c114 ex117 ex120 c124 c125 c127 c130 c132 c135 c139)), ?_⟩
                        intro x144 ex144
                        intro x145 ex145
                        refine ⟨a129, ea129, ?_⟩
                        refine ⟨o_a129, ?_⟩
                        refine ⟨(vin l_a129 (m := 3208) (by decide) (q289 h2 i1 c13 c101 i1 r_x112 c113 c114 ex117 ex120 c124 c125 c127 c130 c132 c135 c139)), ?_⟩
                        intro x147 ex147
                        refine ⟨fun c148 => ?_, fun c148 => ?_⟩
                        · refine u_X7_reckonMinute_219 ?_
                          intro x149 ex149
                          exact ih111 _ _ _ _ ⟨hI, gL103, fL104, rfl, rfl, hM, (q290 h2 i1 c13 c101 i1 r_x112 c113 c114 ex117 ex120 c124 c125 c127 c130 c132 c135 c139 ex145 c148 ex149)⟩ (mu_up (q291 h2 i1 c13 c101 i1 r_x112 c113 c114 ex117 ex120 c124 c125 c127 c130 c132 c135 c139 ex145 c148 ex149) (q292 h2 i1 c13 c101 i1 r_x112 c113 c114 ex117 ex120 c124 c125 c127 c130 c132 c135 c139 ex145 c148 ex149))
                        · refine ⟨a129, ea129, ?_⟩
                          refine ⟨o_a129, ?_⟩
                          have i151 : vp_in x117 (hN _ a129) := (vin l_a129 (m := 3208) (by decide) (q293 h2 i1 c13 c101 i1 r_x112 c113 c114 ex117 ex120 c124 c125 c127 c130 c132 c135 c139 ex145 c148))
                          refine ⟨i151, ?_⟩
                          have hI := iv_aJ (i := x117.toNatClampNeg) (v := x145) hI o_v0 (by decide) ea129 o_a129 (by decide)
                          obtain ⟨a152, ea152, o_a152, -⟩ := sh 23 rfl hI o_v0
                          have l_a152 := wm hM 2 rfl ea152
                          refine ⟨a152, ea152, ?_⟩
                          obtain ⟨a153, ea153, o_a153, -⟩ := sh 28 rfl hI o_v0
                          have l_a153 := wm hM 7 rfl ea153
                          refine ⟨a153, ea153, ?_⟩
                          refine ⟨o_a153, ?_⟩
                          refine ⟨(vin l_a153 (m := 224) (by decide) (q294 h2 i1 c13 c101 i1 r_x112 c113 c114 ex117 ex120 c124 c125 c127 c130 c132 c135 c139 ex145 c148)), ?_⟩
                          intro x154 ex154
                          refine ⟨o_a152, ?_⟩
                          have i155 : vp_in x117 (hN _ a152) := (vin l_a152 (m := 3208) (by decide) (q293 h2 i1 c13 c101 i1 r_x112 c113 c114 ex117 ex120 c124 c125 c127 c130 c132 c135 c139 ex145 c148))
                          refine ⟨i155, ?_⟩
                          have hI := iv_aI (i := x117.toNatClampNeg) (v := x154) hI o_v0 (by decide) ea152 o_a152 (by decide)
                          have f0 : FRI _ _ _ (sI (sJ S102 a129 x117.toNatClampNeg x145) a152 x117.toNatClampNeg x154) := fri_aI (S := sJ S102 a129 x117.toNatClampNeg x145) g0 f0 o_a152 (by decide)
                          have fL3 : FRI _ _ _ (sI (sJ S102 a129 x117.toNatClampNeg x145) a152 x117.toNatClampNeg x154) := fri_aI (S := sJ S102 a129 x117.toNatClampNeg x145) gL2 fL3 o_a152 (by decide)
                          have fL104 : FRI _ _ _ (sI (sJ S102 a129 x117.toNatClampNeg x145) a152 x117.toNatClampNeg x154) := fri_aI (S := sJ S102 a129 x117.toNatClampNeg x145) gL103 fL104 o_a152 (by decide)
                          have d_x112 : x112 = fI (sI (sJ S102 a129 x117.toNatClampNeg x145) a152 x117.toNatClampNeg x154) v0 3 := d_x112.trans (sI_ne (S := sJ S102 a129 x117.toNatClampNeg x145) o_a152 o_v0 (by decide) 3).symm
                          have d_x123 : x123 = fI (sI (sJ S102 a129 x117.toNatClampNeg x145) a152 x117.toNatClampNeg x154) v0 12 := d_x123.trans (sI_ne (S := sJ S102 a129 x117.toNatClampNeg x145) o_a152 o_v0 (by decide) 12).symm
                          refine u_X7_reckonMinute_219 ?_
                          intro x156 ex156
                          exact ih111 _ _ _ _ ⟨hI, gL103, fL104, rfl, rfl, hM, (q295 h2 i1 c13 c101 i1 r_x112 c113 c114 ex117 ex120 c124 c125 c127 c130 c132 c135 c139 ex145 c148 ex156)⟩ (mu_up (q296 h2 i1 c13 c101 i1 r_x112 c113 c114 ex117 ex120 c124 c125 c127 c130 c132 c135 c139 ex145 c148 ex156) (q297 h2 i1 c13 c101 i1 r_x112 c113 c114 ex117 ex120 c124 c125 c127 c130 c132 c135 c139 ex145 c148 ex156))
          · refine u_X7_reckonMinute_117 ?_
            refine ⟨fun c157 => ?_, fun c157 => ?_⟩
            · refine u_X7_reckonMinute_219 ?_
              intro x158 ex158
              exact ih111 _ _ _ _ ⟨hI, gL103, fL104, rfl, rfl, hM, (q298 h2 i1 c13 c101 i1 r_x112 c113 c114 ex117 ex120 c124 c157 ex158)⟩ (mu_up (q299 h2 i1 c13 c101 i1 r_x112 c113 c114 ex117 ex120 c124 c157 ex158) (q300 h2 i1 c13 c101 i1 r_x112 c113 c114 ex117 ex120 c124 c157 ex158))
            · refine ⟨fun c159 => ?_, fun c159 => ?_⟩
              · refine u_X7_reckonMinute_219 ?_
                intro x160 ex160
                exact ih111 _ _ _ _ ⟨hI, gL103, fL104, rfl, rfl, hM, (q301 h2 i1 c13 c101 i1 r_x112 c113 c114 ex117 ex120 c124 c159 ex160)⟩ (mu_up (q302 h2 i1 c13 c101 i1 r_x112 c113 c114 ex117 ex120 c124 c159 ex160) (q303 h2 i1 c13 c101 i1 r_x112 c113 c114 ex117 ex120 c124 c159 ex160))
              · refine ⟨o_v0, ?_⟩
                obtain ⟨a161, ea161, o_a161, -⟩ := sh 22 rfl hI o_v0
                have l_a161 := wm hM 1 rfl ea161
                refine ⟨a161, ea161, ?_⟩
                refine ⟨o_a161, ?_⟩
                have n_a161 : nI (hN S102 a161) = 3208 := by rw [show hN S102 a161 = 3208 from l_a161]; decide
                refine ⟨fun c162 => ?_, fun c162 => ?_⟩
                · rw [n_a161] at c162
                  refine u_X7_reckonMinute_219 ?_
                  intro x163 ex163
                  exact ih111 _ _ _ _ ⟨hI, gL103, fL104, rfl, rfl, hM, (q304 h2 i1 c13 c101 i1 r_x112 c113 c114 ex117 ex120 c124 c159 c162 ex163)⟩ (mu_up (q305 h2 i1 c13 c101 i1 r_x112 c113 c114 ex117 ex120 c124 c159 c162 ex163) (q306 h2 i1 c13 c101 i1 r_x112 c113 c114 ex117 ex120 c124 c159 c162 ex163))
                · rw [n_a161] at c162
                  refine ⟨fun c164 => ?_, fun c164 => ?_⟩
                  · refine u_X7_reckonMinute_219 ?_
                    intro x165 ex165
                    exact ih111 _ _ _ _ ⟨hI, gL103, fL104, rfl, rfl, hM, (q307 h2 i1 c13 c101 i1 r_x112 c113 c114 ex117 ex120 c124 c159 c162 c164 ex165)⟩ (mu_up (q308 h2 i1 c13 c101 i1 r_x112 c113 c114 ex117 ex120 c124 c159 c162 c164 ex165) (q309 h2 i1 c13 c101 i1 r_x112 c113 c114 ex117 ex120 c124 c159 c162 c164 ex165))
                  · refine ⟨a161, ea161, ?_⟩
                    refine ⟨o_a161, ?_⟩
                    have n_a161 : nI (hN S102 a161) = 3208 := by rw [show hN S102 a161 = 3208 from l_a161]; decide
                    refine ⟨fun c167 => ?_, fun c167 => ?_⟩
                    · rw [n_a161] at c167
                      refine u_X7_reckonMinute_219 ?_
                      intro x168 ex168
                      exact ih111 _ _ _ _ ⟨hI, gL103, fL104, rfl, rfl, hM, (q310 h2 i1 c13 c101 i1 r_x112 c113 c114 ex117 ex120 c124 c159 c162 c164 c167 ex168)⟩ (mu_up (q311 h2 i1 c13 c101 i1 r_x112 c113 c114 ex117 ex120 c124 c159 c162 c164 c167 ex168) (q312 h2 i1 c13 c101 i1 r_x112 c113 c114 ex117 ex120 c124 c159 c162 c164 c167 ex168))
                    · rw [n_a161] at c167
                      refine ⟨a161, ea161, ?_⟩
                      refine ⟨o_a161, ?_⟩
                      refine ⟨(vin l_a161 (m := 3208) (by decide) (q313 h2 i1 c13 c101 i1 r_x112 c113 c114 ex117 ex120 c124 c159 c162 c164 c167)), ?_⟩
                      intro x170 ex170
                      refine ⟨fun c171 => ?_, fun c171 => ?_⟩
                      · refine u_X7_reckonMinute_219 ?_
                        intro x172 ex172
                        exact ih111 _ _ _ _ ⟨hI, gL103, fL104, rfl, rfl, hM, (q314 h2 i1 c13 c101 i1 r_x112 c113 c114 ex117 ex120 c124 c159 c162 c164 c167 c171 ex172)⟩ (mu_up (q315 h2 i1 c13 c101 i1 r_x112 c113 c114 ex117 ex120 c124 c159 c162 c164 c167 c171 ex172) (q316 h2 i1 c13 c101 i1 r_x112 c113 c114 ex117 ex120 c124 c159 c162 c164 c167 c171 ex172))
                      · obtain ⟨a173, ea173, o_a173, -⟩ := sh 27 rfl hI o_v0
                        have l_a173 := wm hM 6 rfl ea173
                        refine ⟨a173, ea173, ?_⟩
                        refine ⟨o_a173, ?_⟩
                        refine ⟨(vin l_a173 (m := 224) (by decide) (q317 h2 i1 c13 c101 i1 r_x112 c113 c114 ex117 ex120 c124 c159 c162 c164 c167 c171)), ?_⟩
                        intro x174 ex174
                        refine ⟨a161, ea161, ?_⟩
                        refine ⟨o_a161, ?_⟩
                        refine ⟨(vin l_a161 (m := 3208) (by decide) (q318 h2 i1 c13 c101 i1 r_x112 c113 c114 ex117 ex120 c124 c159 c162 c164 c167 c171)), ?_⟩
                        intro x176 ex176
                        intro x177 ex177
                        refine ⟨a161, ea161, ?_⟩
                        refine ⟨o_a161, ?_⟩
                        refine ⟨(vin l_a161 (m := 3208) (by decide) (q319 h2 i1 c13 c101 i1 r_x112 c113 c114 ex117 ex120 c124 c159 c162 c164 c167 c171)), ?_⟩
                        intro x179 ex179
                        refine ⟨fun c180 => ?_, fun c180 => ?_⟩
                        · refine u_X7_reckonMinute_219 ?_
                          intro x181 ex181
                          exact ih111 _ _ _ _ ⟨hI, gL103, fL104, rfl, rfl, hM, (q320 h2 i1 c13 c101 i1 r_x112 c113 c114 ex117 ex120 c124 c159 c162 c164 c167 c171 ex177 c180 ex181)⟩ (mu_up (q321 h2 i1 c13 c101 i1 r_x112 c113 c114 ex117 ex120 c124 c159 c162 c164 c167 c171 ex177 c180 ex181) (q322 h2 i1 c13 c101 i1 r_x112 c113 c114 ex117 ex120 c124 c159 c162 c164 c167 c171 ex177 c180 ex181))
                        · refine ⟨a161, ea161, ?_⟩
                          refine ⟨o_a161, ?_⟩
                          have i183 : vp_in x117 (hN _ a161) := (vin l_a161 (m := 3208) (by decide) (q323 h2 i1 c13 c101 i1 r_x112 c113 c114 ex117 ex120 c124 c159 c162 c164 c167 c171 ex177 c180))
                          refine ⟨i183, ?_⟩
                          have hI := iv_aJ (i := x117.toNatClampNeg) (v := x177) hI o_v0 (by decide) ea161 o_a161 (by decide)
                          obtain ⟨a184, ea184, o_a184, -⟩ := sh 23 rfl hI o_v0
                          have l_a184 := wm hM 2 rfl ea184
                          refine ⟨a184, ea184, ?_⟩
                          obtain ⟨a185, ea185, o_a185, -⟩ := sh 28 rfl hI o_v0
                          have l_a185 := wm hM 7 rfl ea185
                          refine ⟨a185, ea185, ?_⟩
                          refine ⟨o_a185, ?_⟩
                          refine ⟨(vin l_a185 (m := 224) (by decide) (q324 h2 i1 c13 c101 i1 r_x112 c113 c114 ex117 ex120 c124 c159 c162 c164 c167 c171 ex177 c180)), ?_⟩
                          intro x186 ex186
                          refine ⟨o_a184, ?_⟩
                          have i187 : vp_in x117 (hN _ a184) := (vin l_a184 (m := 3208) (by decide) (q323 h2 i1 c13 c101 i1 r_x112 c113 c114 ex117 ex120 c124 c159 c162 c164 c167 c171 ex177 c180))
                          refine ⟨i187, ?_⟩
                          have hI := iv_aI (i := x117.toNatClampNeg) (v := x186) hI o_v0 (by decide) ea184 o_a184 (by decide)
                          have f0 : FRI _ _ _ (sI (sJ S102 a161 x117.toNatClampNeg x177) a184 x117.toNatClampNeg x186) := fri_aI (S := sJ S102 a161 x117.toNatClampNeg x177) g0 f0 o_a184 (by decide)
                          have fL3 : FRI _ _ _ (sI (sJ S102 a161 x117.toNatClampNeg x177) a184 x117.toNatClampNeg x186) := fri_aI (S := sJ S102 a161 x117.toNatClampNeg x177) gL2 fL3 o_a184 (by decide)
                          have fL104 : FRI _ _ _ (sI (sJ S102 a161 x117.toNatClampNeg x177) a184 x117.toNatClampNeg x186) := fri_aI (S := sJ S102 a161 x117.toNatClampNeg x177) gL103 fL104 o_a184 (by decide)
                          have d_x112 : x112 = fI (sI (sJ S102 a161 x117.toNatClampNeg x177) a184 x117.toNatClampNeg x186) v0 3 := d_x112.trans (sI_ne (S := sJ S102 a161 x117.toNatClampNeg x177) o_a184 o_v0 (by decide) 3).symm
                          have d_x123 : x123 = fI (sI (sJ S102 a161 x117.toNatClampNeg x177) a184 x117.toNatClampNeg x186) v0 12 := d_x123.trans (sI_ne (S := sJ S102 a161 x117.toNatClampNeg x177) o_a184 o_v0 (by decide) 12).symm
                          refine u_X7_reckonMinute_219 ?_
                          intro x188 ex188
                          exact ih111 _ _ _ _ ⟨hI, gL103, fL104, rfl, rfl, hM, (q325 h2 i1 c13 c101 i1 r_x112 c113 c114 ex117 ex120 c124 c159 c162 c164 c167 c171 ex177 c180 ex188)⟩ (mu_up (q326 h2 i1 c13 c101 i1 r_x112 c113 c114 ex117 ex120 c124 c159 c162 c164 c167 c171 ex177 c180 ex188) (q327 h2 i1 c13 c101 i1 r_x112 c113 c114 ex117 ex120 c124 c159 c162 c164 c167 c171 ex177 c180 ex188))
    · refine ⟨o_v0, ?_⟩
      obtain ⟨a189, ea189, o_a189, -⟩ := sh 22 rfl hI o_v0
      have l_a189 := wm hM 1 rfl ea189
      refine ⟨a189, ea189, ?_⟩
      intro x190 ex190
      have d_x190 := ex190
      refine ⟨fun c191 => ?_, fun c191 => ?_⟩
      · refine u_X7_reckonMinute_40 ?_
        refine ⟨o_a189, ?_⟩
        have i192 : vp_in (w10 * (401 : Int32)) + v2 (hN _ a189) := (vin l_a189 (m := 3208) (by decide) (q328 h2 i1 c13 c101 c191))
        refine ⟨i192, ?_⟩
        have hI := iv_aJ (i := ((w10 * (401 : Int32)) + v2).toNatClampNeg) (v := (4611686018427387904 : Int64)) hI o_v0 (by decide) ea189 o_a189 (by decide)
        refine ⟨o_v0, ?_⟩
        obtain ⟨a193, ea193, o_a193, -⟩ := sh 23 rfl hI o_v0
        have l_a193 := wm hM 2 rfl ea193
        refine ⟨a193, ea193, ?_⟩
        refine ⟨o_a193, ?_⟩
        have i194 : vp_in (w10 * (401 : Int32)) + v2 (hN _ a193) := (vin l_a193 (m := 3208) (by decide) (q328 h2 i1 c13 c101 c191))
        refine ⟨i194, ?_⟩
        have hI := iv_aI (i := ((w10 * (401 : Int32)) + v2).toNatClampNeg) (v := (-1 : Int32)) hI o_v0 (by decide) ea193 o_a193 (by decide)
        have f0 : FRI _ _ _ (sI (sJ S1 a189 ((w10 * (401 : Int32)) + v2).toNatClampNeg (4611686018427387904 : Int64)) a193 ((w10 * (401 : Int32)) + v2).toNatClampNeg (-1 : Int32)) := fri_aI (S := sJ S1 a189 ((w10 * (401 : Int32)) + v2).toNatClampNeg (4611686018427387904 : Int64)) g0 f0 o_a193 (by decide)
        have fL3 : FRI _ _ _ (sI (sJ S1 a189 ((w10 * (401 : Int32)) + v2).toNatClampNeg (4611686018427387904 : Int64)) a193 ((w10 * (401 : Int32)) + v2).toNatClampNeg (-1 : Int32)) := fri_aI (S := sJ S1 a189 ((w10 * (401 : Int32)) + v2).toNatClampNeg (4611686018427387904 : Int64)) gL2 fL3 o_a193 (by decide)
        have d_x190 : x190 = fI (sI (sJ S1 a189 ((w10 * (401 : Int32)) + v2).toNatClampNeg (4611686018427387904 : Int64)) a193 ((w10 * (401 : Int32)) + v2).toNatClampNeg (-1 : Int32)) v0 11 := d_x190.trans (sI_ne (S := sJ S1 a189 ((w10 * (401 : Int32)) + v2).toNatClampNeg (4611686018427387904 : Int64)) o_a193 o_v0 (by decide) 11).symm
        intro x195 ex195
        exact ih12 _ _ _ _ _ ⟨hI, gL2, fL3, rfl, rfl, rfl, hM, (q329 i1 c13 c101 c191 ex195)⟩ (mu_up (q330 i1 c13 c101 c191 ex195) (q331 i1 c13 c101 c191 ex195))
      · refine u_X7_reckonMinute_40 ?_
        refine ⟨o_a189, ?_⟩
        intro x196 ex196
        have i197 : vp_in (w10 * (401 : Int32)) + v2 (hN _ a189) := (vin l_a189 (m := 3208) (by decide) (q332 h2 i1 c13 c101 c191 ex196))
        refine ⟨i197, ?_⟩
        have hI := iv_aJ (i := ((w10 * (401 : Int32)) + v2).toNatClampNeg) (v := x196) hI o_v0 (by decide) ea189 o_a189 (by decide)
        refine ⟨o_v0, ?_⟩
        obtain ⟨a198, ea198, o_a198, -⟩ := sh 23 rfl hI o_v0
        have l_a198 := wm hM 2 rfl ea198
        refine ⟨a198, ea198, ?_⟩
        refine ⟨o_a198, ?_⟩
        have i199 : vp_in (w10 * (401 : Int32)) + v2 (hN _ a198) := (vin l_a198 (m := 3208) (by decide) (q332 h2 i1 c13 c101 c191 ex196))
        refine ⟨i199, ?_⟩
        have hI := iv_aI (i := ((w10 * (401 : Int32)) + v2).toNatClampNeg) (v := (-1 : Int32)) hI o_v0 (by decide) ea198 o_a198 (by decide)
        have f0 : FRI _ _ _ (sI (sJ S1 a189 ((w10 * (401 : Int32)) + v2).toNatClampNeg x196) a198 ((w10 * (401 : Int32)) + v2).toNatClampNeg (-1 : Int32)) := fri_aI (S := sJ S1 a189 ((w10 * (401 : Int32)) + v2).toNatClampNeg x196) g0 f0 o_a198 (by decide)
        have fL3 : FRI _ _ _ (sI (sJ S1 a189 ((w10 * (401 : Int32)) + v2).toNatClampNeg x196) a198 ((w10 * (401 : Int32)) + v2).toNatClampNeg (-1 : Int32)) := fri_aI (S := sJ S1 a189 ((w10 * (401 : Int32)) + v2).toNatClampNeg x196) gL2 fL3 o_a198 (by decide)
        have d_x190 : x190 = fI (sI (sJ S1 a189 ((w10 * (401 : Int32)) + v2).toNatClampNeg x196) a198 ((w10 * (401 : Int32)) + v2).toNatClampNeg (-1 : Int32)) v0 11 := d_x190.trans (sI_ne (S := sJ S1 a189 ((w10 * (401 : Int32)) + v2).toNatClampNeg x196) o_a198 o_v0 (by decide) 11).symm
        intro x200 ex200
        exact ih12 _ _ _ _ _ ⟨hI, gL2, fL3, rfl, rfl, rfl, hM, (q333 i1 c13 c101 c191 ex200)⟩ (mu_up (q334 i1 c13 c101 c191 ex200) (q335 i1 c13 c101 c191 ex200))
