set_option maxHeartbeats 4000000 in
set_option maxRecDepth 20000 in
theorem m_X11_stepOf {v0 : Nat} {v1 : Int32} {v2 : Int32} {v3 : Int32} {v4 : Int32} {Q : Int32 → HS → Prop} {S : HS} (hI : IV S) (o_v0 : ob S v0 11)   (hY : WYQ S v0 v2 v3)  (hq : ∀ (r : Int32) (T : HS), IV T → Gr S T → (S = T) → Q r T) : P_X11_stepOf v0 v1 v2 v3 v4 Q S := by
  have g0 := gr_rf S
  obtain ⟨tt, wo, hSB, ht1, ht2, ht3, ewo, hp1, hp2⟩ := hY
  have o_wo := ml_ob hI o_v0 ewo
  obtain ⟨kv1, d_kv1⟩ : ∃ z : Int32, z = fI S wo 2 := ⟨_, rfl⟩
  have r_kv1 : (0 : Int32) ≤ kv1 ∧ kv1 ≤ (8 : Int32) := by rw [d_kv1]; exact nu 18 rfl hI o_wo
  obtain ⟨kv2, d_kv2⟩ : ∃ z : Int32, z = fI S wo 3 := ⟨_, rfl⟩
  have r_kv2 : (0 : Int32) ≤ kv2 ∧ kv2 ≤ (12 : Int32) := by rw [d_kv2]; exact nu 19 rfl hI o_wo
  have hp2 : v2 < kv1 := by rw [d_kv1]; exact hp2
  refine u_X11_stepOf ?_
  refine u_X11_stepOf_0 ?_
  refine i_X11_stepOf_9 (fun (y0 : Nat) (y4 : Int32) (y5 : Int32) (y6 : Int32) (y7 : Int32) (Z : HS) => ((401 : Int32).toInt - y6.toInt).toNat) (fun (y0 : Nat) (y4 : Int32) (y5 : Int32) (y6 : Int32) (y7 : Int32) (Z : HS) => (S = Z) ∧ (v0 = y0) ∧ (v4 = y4) ∧ (0 ≤ y5 ∧ y5 < kv1) ∧ (0 ≤ y6 ∧ y6 ≤ tt)) ?_ _ _ _ _ _ _ ⟨rfl, rfl, rfl, (qw279 r_kv1 hp1 hp2), (qw280 ht1 ht2 ht3)⟩
  intro w7 w9 w11 w12 w13 S4 X14 ⟨eS4, q8, q10, i1u3, i2u3⟩ ih15
  subst q8
  subst q10
  subst eS4
  refine u_X11_stepOf_9 ?_
  refine ⟨o_v0, ?_⟩
  obtain ⟨a16, ea16, o_a16, l_a16⟩ := shl 56 rfl hI o_v0
  refine ⟨a16, ea16, ?_⟩
  refine u_X11_spotOf ?_
  refine u_X11_spotOf_0 ?_
  intro _
  refine ⟨o_a16, ?_⟩
  refine ⟨(vin l_a16 (m := 3208) (by decide) (sp_rng (qw281 ht1 ht2 ht3 i2u3) (qw282 r_kv1 hp1 hp2 i1u3))), ?_⟩
  intro x18 ex18
  refine ⟨fun c19 => ?_, fun c19 => ?_⟩
  · refine ⟨fun c20 => ?_, fun c20 => ?_⟩
    · exact hq _ _ hI g0 rfl
    · exact hq _ _ hI g0 rfl
  · refine ⟨a16, ea16, ?_⟩
    refine u_X11_spotOf ?_
    refine u_X11_spotOf_0 ?_
    intro _
    refine ⟨o_a16, ?_⟩
    refine ⟨(vin l_a16 (m := 3208) (by decide) (sp_rng (qw283 ht1 ht2 ht3 i2u3 c19) (qw284 r_kv1 hp1 hp2 i1u3 c19))), ?_⟩
    intro x23 ex23
    obtain ⟨a24, ea24, o_a24, l_a24⟩ := shl 38 rfl hI o_wo
    have qe_x23 : x23 = x18 := by rw [ex23, ex18]
    obtain ⟨rr25, dd26, vv27, uu28, hA_x23, hC_x23, hU_x23⟩ := gs_at hSB ewo ea16 ea24 (qw285 r_kv1 hp1 hp2 i1u3 c19 qe_x23) (by rw [← d_kv1]; exact (qw286 r_kv1 hp1 hp2 i1u3 c19 qe_x23)) (qw287 ht1 ht2 ht3 i2u3 c19 qe_x23) (qw288 ht1 ht2 ht3 i2u3 c19 qe_x23) rfl ex23 d_kv2 (qw289 r_kv2 c19 qe_x23)
    refine ⟨fun c29 => ?_, fun c29 => ?_⟩
    · intro x30 ex30
      refine ⟨fun c31 => ?_, fun c31 => ?_⟩
      · refine ⟨wo, ewo, ?_⟩
        intro x33 ex33
        have dv_x33 : x33 = rr25 := by rw [ex33]; exact (dec100 ((hC_x23.resolve_left (qw290 r_kv2 ht1 ht2 ht3 i2u3 c19 qe_x23 hA_x23 c29 ex30 c31)).resolve_left (qw291 r_kv2 ht1 ht2 ht3 i2u3 c19 qe_x23 hA_x23 c29 ex30 c31)) (qw292 r_kv2 ht1 ht2 ht3 i2u3 c19 qe_x23 hA_x23 c29 ex30 c31) (qw293 r_kv2 ht1 ht2 ht3 i2u3 c19 qe_x23 hA_x23 c29 ex30 c31) (qw294 r_kv2 ht1 ht2 ht3 i2u3 c19 qe_x23 hA_x23 c29 ex30 c31))
        intro x34 ex34
        have dv_x34 : x34 = vv27 := by rw [ex34]; exact (decV ((hC_x23.resolve_left (qw295 r_kv2 ht1 ht2 ht3 i2u3 c19 qe_x23 hA_x23 c29 ex30 c31 dv_x33)).resolve_left (qw296 r_kv2 ht1 ht2 ht3 i2u3 c19 qe_x23 hA_x23 c29 ex30 c31 dv_x33)) (qw297 r_kv2 ht1 ht2 ht3 i2u3 c19 qe_x23 hA_x23 c29 ex30 c31 dv_x33) (qw298 r_kv2 ht1 ht2 ht3 i2u3 c19 qe_x23 hA_x23 c29 ex30 c31 dv_x33) (qw299 r_kv2 ht1 ht2 ht3 i2u3 c19 qe_x23 hA_x23 c29 ex30 c31 dv_x33))
        refine ⟨o_wo, ?_⟩
        refine u_X10_minutes ?_
        refine u_X10_minutes_0 ?_
        refine ⟨o_wo, ?_⟩
        refine ⟨a24, ea24, ?_⟩
        refine ⟨o_a24, ?_⟩
        refine ⟨(vin l_a24 (m := 12) (by decide) (qw300 r_kv2 ht1 ht2 ht3 i2u3 c19 qe_x23 hA_x23 c29 ex30 c31 dv_x33 dv_x34)), ?_⟩
        intro x36 ex36
        have gy_x36 : 0 ≤ x33 ∧ x33 < fI S wo 3 := by rw [← d_kv2]; exact (qw301 r_kv2 ht1 ht2 ht3 i2u3 c19 qe_x23 hA_x23 c29 ex30 c31 dv_x33 dv_x34)
        have g_x36 : (1 : Int32) ≤ x36 ∧ x36 ≤ (60 : Int32) := by rw [ex36]; exact wg_at (ml_wg hI o_v0 ewo) 2 rfl gy_x36 ea24
        refine ⟨(qw302 r_kv2 ht1 ht2 ht3 i2u3 c19 qe_x23 hA_x23 c29 ex30 c31 dv_x33 dv_x34), ?_⟩
        intro x37 ex37
        have dv_x37 : 0 ≤ x37 ∧ x37 ≤ ((x36 + x34) - (1 : Int32)) := by rw [ex37]; exact dv0 (qw303 r_kv2 ht1 ht2 ht3 i2u3 c19 qe_x23 hA_x23 c29 ex30 c31 dv_x33 dv_x34 g_x36) (i32pos (qw304 r_kv2 ht1 ht2 ht3 i2u3 c19 qe_x23 hA_x23 c29 ex30 c31 dv_x33 dv_x34))
        have dw_x37 : (1 : Int32) ≤ x37 := by rw [ex37]; exact dv1 (qw305 r_kv2 ht1 ht2 ht3 i2u3 c19 qe_x23 hA_x23 c29 ex30 c31 dv_x33 dv_x34) (qw306 r_kv2 ht1 ht2 ht3 i2u3 c19 qe_x23 hA_x23 c29 ex30 c31 dv_x33 dv_x34 g_x36)
        have du_x37 : x37 = uu28 := by rw [ex37, ex36, dv_x33, dv_x34, ((hU_x23.resolve_left (qw307 r_kv2 ht1 ht2 ht3 i2u3 c19 qe_x23 hA_x23 c29 ex30 c31 dv_x33 dv_x34 g_x36 dv_x37 dw_x37)).resolve_left (qw308 r_kv2 ht1 ht2 ht3 i2u3 c19 qe_x23 hA_x23 c29 ex30 c31 dv_x33 dv_x34 g_x36 dv_x37 dw_x37))]
        intro _
        refine u_X11_stepOf_82 ?_
        intro x39 ex39
        refine ⟨fun c40 => ?_, fun c40 => ?_⟩
        · refine ⟨o_v0, ?_⟩
          refine ⟨wo, ewo, ?_⟩
          intro x42 ex42
          have dv_x42 : x42 = rr25 := by rw [ex42]; exact (dec100 ((hC_x23.resolve_left (qw309 r_kv2 ht1 ht2 ht3 i2u3 c19 qe_x23 hA_x23 c29 ex30 c31 dv_x33 dv_x34 g_x36 dv_x37 dw_x37 du_x37 ex39 c40)).resolve_left (qw310 r_kv2 ht1 ht2 ht3 i2u3 c19 qe_x23 hA_x23 c29 ex30 c31 dv_x33 dv_x34 g_x36 dv_x37 dw_x37 du_x37 ex39 c40)) (qw311 r_kv2 ht1 ht2 ht3 i2u3 c19 qe_x23 hA_x23 c29 ex30 c31 dv_x33 dv_x34 g_x36 dv_x37 dw_x37 du_x37 ex39 c40) (qw312 r_kv2 ht1 ht2 ht3 i2u3 c19 qe_x23 hA_x23 c29 ex30 c31 dv_x33 dv_x34 g_x36 dv_x37 dw_x37 du_x37 ex39 c40) (qw313 r_kv2 ht1 ht2 ht3 i2u3 c19 qe_x23 hA_x23 c29 ex30 c31 dv_x33 dv_x34 g_x36 dv_x37 dw_x37 du_x37 ex39 c40))
          intro x43 ex43
          intro x44 ex44
          have dv_x44 : x44 = dd26 := by rw [ex44]; exact (decD ex43 ((hC_x23.resolve_left (qw314 r_kv2 ht1 ht2 ht3 i2u3 c19 qe_x23 hA_x23 c29 ex30 c31 dv_x33 dv_x34 g_x36 dv_x37 dw_x37 du_x37 ex39 c40 dv_x42)).resolve_left (qw315 r_kv2 ht1 ht2 ht3 i2u3 c19 qe_x23 hA_x23 c29 ex30 c31 dv_x33 dv_x34 g_x36 dv_x37 dw_x37 du_x37 ex39 c40 dv_x42)) (qw316 r_kv2 ht1 ht2 ht3 i2u3 c19 qe_x23 hA_x23 c29 ex30 c31 dv_x33 dv_x34 g_x36 dv_x37 dw_x37 du_x37 ex39 c40 dv_x42) (qw317 r_kv2 ht1 ht2 ht3 i2u3 c19 qe_x23 hA_x23 c29 ex30 c31 dv_x33 dv_x34 g_x36 dv_x37 dw_x37 du_x37 ex39 c40 dv_x42) (qw318 r_kv2 ht1 ht2 ht3 i2u3 c19 qe_x23 hA_x23 c29 ex30 c31 dv_x33 dv_x34 g_x36 dv_x37 dw_x37 du_x37 ex39 c40 dv_x42))
          refine ⟨o_wo, ?_⟩
          refine u_X10_ends ?_
          refine u_X10_ends_0 ?_
          refine ⟨fun c45 => ?_, fun c45 => ?_⟩
          · refine ⟨o_wo, ?_⟩
            obtain ⟨a46, ea46, o_a46, l_a46⟩ := shl 35 rfl hI o_wo
            refine ⟨a46, ea46, ?_⟩
            refine ⟨o_a46, ?_⟩
            refine ⟨(vin l_a46 (m := 12) (by decide) (qw319 r_kv2 ht1 ht2 ht3 i2u3 c19 qe_x23 hA_x23 c29 ex30 c31 dv_x33 dv_x34 g_x36 dv_x37 dw_x37 du_x37 ex39 c40 dv_x42 dv_x44 c45)), ?_⟩
            intro x47 ex47
            have gy_x47 : 0 ≤ x42 ∧ x42 < fI S wo 3 := by rw [← d_kv2]; exact (qw320 r_kv2 ht1 ht2 ht3 i2u3 c19 qe_x23 hA_x23 c29 ex30 c31 dv_x33 dv_x34 g_x36 dv_x37 dw_x37 du_x37 ex39 c40 dv_x42 dv_x44 c45)
            have g_x47 : (0 : Int32) ≤ x47 ∧ x47 ≤ (7 : Int32) := by rw [ex47]; exact wg_at (ml_wg hI o_v0 ewo) 0 rfl gy_x47 ea46
            have gl_x47 : x47 < kv1 := by rw [ex47, d_kv1]; exact wg_lt (ml_wg hI o_v0 ewo) 0 rfl (by decide) gy_x47 ea46
            intro _
            refine u_X11_stepOf_117 ?_
            exact ih15 _ _ _ _ _ _ ⟨rfl, rfl, rfl, (qw321 r_kv1 r_kv2 ht1 ht2 ht3 hp1 hp2 i1u3 i2u3 c19 qe_x23 hA_x23 c29 ex30 c31 dv_x33 dv_x34 g_x36 dv_x37 dw_x37 du_x37 ex39 c40 dv_x42 dv_x44 c45 g_x47 gl_x47), (qw322 r_kv2 ht1 ht2 ht3 i2u3 c19 qe_x23 hA_x23 c29 ex30 c31 dv_x33 dv_x34 g_x36 dv_x37 dw_x37 du_x37 ex39 c40 dv_x42 dv_x44 c45)⟩ (mu_up (qw323 r_kv2 ht1 ht2 ht3 i2u3 c19 qe_x23 hA_x23 c29 ex30 c31 dv_x33 dv_x34 g_x36 dv_x37 dw_x37 du_x37 ex39 c40 dv_x42 dv_x44 c45) (qw324 r_kv2 ht1 ht2 ht3 i2u3 c19 qe_x23 hA_x23 c29 ex30 c31 dv_x33 dv_x34 g_x36 dv_x37 dw_x37 du_x37 ex39 c40 dv_x42 dv_x44 c45))
          · refine ⟨o_wo, ?_⟩
            obtain ⟨a49, ea49, o_a49, l_a49⟩ := shl 36 rfl hI o_wo
            refine ⟨a49, ea49, ?_⟩
            refine ⟨o_a49, ?_⟩
            refine ⟨(vin l_a49 (m := 12) (by decide) (qw325 r_kv2 ht1 ht2 ht3 i2u3 c19 qe_x23 hA_x23 c29 ex30 c31 dv_x33 dv_x34 g_x36 dv_x37 dw_x37 du_x37 ex39 c40 dv_x42 dv_x44 c45)), ?_⟩
            intro x50 ex50
            have gy_x50 : 0 ≤ x42 ∧ x42 < fI S wo 3 := by rw [← d_kv2]; exact (qw326 r_kv2 ht1 ht2 ht3 i2u3 c19 qe_x23 hA_x23 c29 ex30 c31 dv_x33 dv_x34 g_x36 dv_x37 dw_x37 du_x37 ex39 c40 dv_x42 dv_x44 c45)
            have g_x50 : (0 : Int32) ≤ x50 ∧ x50 ≤ (7 : Int32) := by rw [ex50]; exact wg_at (ml_wg hI o_v0 ewo) 1 rfl gy_x50 ea49
            have gl_x50 : x50 < kv1 := by rw [ex50, d_kv1]; exact wg_lt (ml_wg hI o_v0 ewo) 1 rfl (by decide) gy_x50 ea49
            intro _
            refine u_X11_stepOf_117 ?_
            exact ih15 _ _ _ _ _ _ ⟨rfl, rfl, rfl, (qw327 r_kv1 r_kv2 ht1 ht2 ht3 hp1 hp2 i1u3 i2u3 c19 qe_x23 hA_x23 c29 ex30 c31 dv_x33 dv_x34 g_x36 dv_x37 dw_x37 du_x37 ex39 c40 dv_x42 dv_x44 c45 g_x50 gl_x50), (qw328 r_kv2 ht1 ht2 ht3 i2u3 c19 qe_x23 hA_x23 c29 ex30 c31 dv_x33 dv_x34 g_x36 dv_x37 dw_x37 du_x37 ex39 c40 dv_x42 dv_x44 c45)⟩ (mu_up (qw329 r_kv2 ht1 ht2 ht3 i2u3 c19 qe_x23 hA_x23 c29 ex30 c31 dv_x33 dv_x34 g_x36 dv_x37 dw_x37 du_x37 ex39 c40 dv_x42 dv_x44 c45) (qw330 r_kv2 ht1 ht2 ht3 i2u3 c19 qe_x23 hA_x23 c29 ex30 c31 dv_x33 dv_x34 g_x36 dv_x37 dw_x37 du_x37 ex39 c40 dv_x42 dv_x44 c45))
        · refine u_X11_stepOf_117 ?_
          exact ih15 _ _ _ _ _ _ ⟨rfl, rfl, rfl, (qw331 r_kv1 r_kv2 ht1 ht2 ht3 hp1 hp2 i1u3 i2u3 c19 qe_x23 hA_x23 c29 ex30 c31 dv_x33 dv_x34 g_x36 dv_x37 dw_x37 du_x37 ex39 c40), (qw332 r_kv2 ht1 ht2 ht3 i2u3 c19 qe_x23 hA_x23 c29 ex30 c31 dv_x33 dv_x34 g_x36 dv_x37 dw_x37 du_x37 ex39 c40)⟩ (mu_up (qw333 r_kv2 ht1 ht2 ht3 i2u3 c19 qe_x23 hA_x23 c29 ex30 c31 dv_x33 dv_x34 g_x36 dv_x37 dw_x37 du_x37 ex39 c40) (qw334 r_kv2 ht1 ht2 ht3 i2u3 c19 qe_x23 hA_x23 c29 ex30 c31 dv_x33 dv_x34 g_x36 dv_x37 dw_x37 du_x37 ex39 c40))
      · refine u_X11_stepOf_82 ?_
        intro x52 ex52
        refine ⟨fun c53 => ?_, fun c53 => ?_⟩
        · refine ⟨o_v0, ?_⟩
          refine ⟨wo, ewo, ?_⟩
          intro x55 ex55
          have dv_x55 : x55 = rr25 := by rw [ex55]; exact (dec100 ((hC_x23.resolve_left (qw335 r_kv2 ht1 ht2 ht3 i2u3 c19 qe_x23 hA_x23 c29 ex30 c31 ex52 c53)).resolve_left (qw336 r_kv2 ht1 ht2 ht3 i2u3 c19 qe_x23 hA_x23 c29 ex30 c31 ex52 c53)) (qw337 r_kv2 ht1 ht2 ht3 i2u3 c19 qe_x23 hA_x23 c29 ex30 c31 ex52 c53) (qw338 r_kv2 ht1 ht2 ht3 i2u3 c19 qe_x23 hA_x23 c29 ex30 c31 ex52 c53) (qw339 r_kv2 ht1 ht2 ht3 i2u3 c19 qe_x23 hA_x23 c29 ex30 c31 ex52 c53))
          intro x56 ex56
          intro x57 ex57
          have dv_x57 : x57 = dd26 := by rw [ex57]; exact (decD ex56 ((hC_x23.resolve_left (qw340 r_kv2 ht1 ht2 ht3 i2u3 c19 qe_x23 hA_x23 c29 ex30 c31 ex52 c53 dv_x55)).resolve_left (qw341 r_kv2 ht1 ht2 ht3 i2u3 c19 qe_x23 hA_x23 c29 ex30 c31 ex52 c53 dv_x55)) (qw342 r_kv2 ht1 ht2 ht3 i2u3 c19 qe_x23 hA_x23 c29 ex30 c31 ex52 c53 dv_x55) (qw343 r_kv2 ht1 ht2 ht3 i2u3 c19 qe_x23 hA_x23 c29 ex30 c31 ex52 c53 dv_x55) (qw344 r_kv2 ht1 ht2 ht3 i2u3 c19 qe_x23 hA_x23 c29 ex30 c31 ex52 c53 dv_x55))
          refine ⟨o_wo, ?_⟩
          refine u_X10_ends ?_
          refine u_X10_ends_0 ?_
          refine ⟨fun c58 => ?_, fun c58 => ?_⟩
          · refine ⟨o_wo, ?_⟩
            obtain ⟨a59, ea59, o_a59, l_a59⟩ := shl 35 rfl hI o_wo
            refine ⟨a59, ea59, ?_⟩
            refine ⟨o_a59, ?_⟩
            refine ⟨(vin l_a59 (m := 12) (by decide) (qw345 r_kv2 ht1 ht2 ht3 i2u3 c19 qe_x23 hA_x23 c29 ex30 c31 ex52 c53 dv_x55 dv_x57 c58)), ?_⟩
            intro x60 ex60
            have gy_x60 : 0 ≤ x55 ∧ x55 < fI S wo 3 := by rw [← d_kv2]; exact (qw346 r_kv2 ht1 ht2 ht3 i2u3 c19 qe_x23 hA_x23 c29 ex30 c31 ex52 c53 dv_x55 dv_x57 c58)
            have g_x60 : (0 : Int32) ≤ x60 ∧ x60 ≤ (7 : Int32) := by rw [ex60]; exact wg_at (ml_wg hI o_v0 ewo) 0 rfl gy_x60 ea59
            have gl_x60 : x60 < kv1 := by rw [ex60, d_kv1]; exact wg_lt (ml_wg hI o_v0 ewo) 0 rfl (by decide) gy_x60 ea59
            intro _
            refine u_X11_stepOf_117 ?_
            exact ih15 _ _ _ _ _ _ ⟨rfl, rfl, rfl, (qw347 r_kv1 r_kv2 ht1 ht2 ht3 hp1 hp2 i1u3 i2u3 c19 qe_x23 hA_x23 c29 ex30 c31 ex52 c53 dv_x55 dv_x57 c58 g_x60 gl_x60), (qw348 r_kv2 ht1 ht2 ht3 i2u3 c19 qe_x23 hA_x23 c29 ex30 c31 ex52 c53 dv_x55 dv_x57 c58)⟩ (mu_up (qw349 r_kv2 ht1 ht2 ht3 i2u3 c19 qe_x23 hA_x23 c29 ex30 c31 ex52 c53 dv_x55 dv_x57 c58) (qw350 r_kv2 ht1 ht2 ht3 i2u3 c19 qe_x23 hA_x23 c29 ex30 c31 ex52 c53 dv_x55 dv_x57 c58))
          · refine ⟨o_wo, ?_⟩
            obtain ⟨a62, ea62, o_a62, l_a62⟩ := shl 36 rfl hI o_wo
            refine ⟨a62, ea62, ?_⟩
            refine ⟨o_a62, ?_⟩
            refine ⟨(vin l_a62 (m := 12) (by decide) (qw351 r_kv2 ht1 ht2 ht3 i2u3 c19 qe_x23 hA_x23 c29 ex30 c31 ex52 c53 dv_x55 dv_x57 c58)), ?_⟩
            intro x63 ex63
            have gy_x63 : 0 ≤ x55 ∧ x55 < fI S wo 3 := by rw [← d_kv2]; exact (qw352 r_kv2 ht1 ht2 ht3 i2u3 c19 qe_x23 hA_x23 c29 ex30 c31 ex52 c53 dv_x55 dv_x57 c58)
            have g_x63 : (0 : Int32) ≤ x63 ∧ x63 ≤ (7 : Int32) := by rw [ex63]; exact wg_at (ml_wg hI o_v0 ewo) 1 rfl gy_x63 ea62
            have gl_x63 : x63 < kv1 := by rw [ex63, d_kv1]; exact wg_lt (ml_wg hI o_v0 ewo) 1 rfl (by decide) gy_x63 ea62
            intro _
            refine u_X11_stepOf_117 ?_
            exact ih15 _ _ _ _ _ _ ⟨rfl, rfl, rfl, (qw353 r_kv1 r_kv2 ht1 ht2 ht3 hp1 hp2 i1u3 i2u3 c19 qe_x23 hA_x23 c29 ex30 c31 ex52 c53 dv_x55 dv_x57 c58 g_x63 gl_x63), (qw354 r_kv2 ht1 ht2 ht3 i2u3 c19 qe_x23 hA_x23 c29 ex30 c31 ex52 c53 dv_x55 dv_x57 c58)⟩ (mu_up (qw355 r_kv2 ht1 ht2 ht3 i2u3 c19 qe_x23 hA_x23 c29 ex30 c31 ex52 c53 dv_x55 dv_x57 c58) (qw356 r_kv2 ht1 ht2 ht3 i2u3 c19 qe_x23 hA_x23 c29 ex30 c31 ex52 c53 dv_x55 dv_x57 c58))
        · refine u_X11_stepOf_117 ?_
          exact ih15 _ _ _ _ _ _ ⟨rfl, rfl, rfl, (qw357 r_kv1 r_kv2 ht1 ht2 ht3 hp1 hp2 i1u3 i2u3 c19 qe_x23 hA_x23 c29 ex30 c31 ex52 c53), (qw358 r_kv2 ht1 ht2 ht3 i2u3 c19 qe_x23 hA_x23 c29 ex30 c31 ex52 c53)⟩ (mu_up (qw359 r_kv2 ht1 ht2 ht3 i2u3 c19 qe_x23 hA_x23 c29 ex30 c31 ex52 c53) (qw360 r_kv2 ht1 ht2 ht3 i2u3 c19 qe_x23 hA_x23 c29 ex30 c31 ex52 c53))
    · exact hq _ _ hI g0 rfl
set_option maxHeartbeats 4000000 in
set_option maxRecDepth 20000 in
theorem m_X11_step {v0 : Nat} {v1 : Int32} {v2 : Int32} {v3 : Int32} {v4 : Int32} {v5 : Int32} {v6 : Int32} {Q : Int32 → HS → Prop} {S : HS} (hI : IV S) (o_v0 : ob S v0 11)     (hq : ∀ (r : Int32) (T : HS), IV T → Gr S T → FRI [(11, 0), (11, 1), (11, 2)] [] S T → Q r T) : P_X11_step v0 v1 v2 v3 v4 v5 v6 Q S := by
  have g0 := gr_rf S
  have f0 := fri_rf [(11, 0), (11, 1), (11, 2)] [] S
  refine u_X11_step ?_
  refine u_X11_step_0 ?_
  refine ⟨o_v0, ?_⟩
  intro S1 eS1
  have hIn : IV S1 := by rw [eS1]; exact iv11_sI hI o_v0 (by decide) (nu_free (by decide))
  have hI := hIn
  have f0 := fr_I eS1 g0 f0 o_v0 (by decide)
  obtain ⟨kv2, hkv2⟩ : ∃ z : Int32, z = (0 : Int32) := ⟨_, rfl⟩
  have d_kv2 := rd_Is eS1 hkv2
  have g0 := gr_I eS1 g0
  have o_v0 := ob_I eS1 o_v0
  refine m_X11_refusesWay hI o_v0 (fun x3 S4 hJ g5 fc6 p_x3 => ?_)
  obtain ⟨p_x3, pg0_S4⟩ := p_x3
  have hI := hJ
  have d_kv2 := d_kv2.trans (fri_at fc6 (by decide) (by decide) o_v0).symm
  have f0 := fri_tr (S := S1) g0 f0 fc6 (by decide) (by decide)
  have o_v0 := gr_ob g5 o_v0
  have g0 := gr_tr (T := S1) g0 g5
  have ph0_S4 : x3 = 0 ∨ x3 = 1 ∨ x3 = 2 ∨ x3 = 6 := by rw []; exact pg0_S4
  intro _
  have wn_x3 : x3 = 0 → 0 ≤ v2 ∧ v2 < 8 ∧ 0 ≤ v4 ∧ v4 ≤ 400 := fun z => wyq_num hI o_v0 (p_x3 z)
  refine ⟨fun c7 => ?_, fun c7 => ?_⟩
  · refine ⟨fun c8 => ?_, fun c8 => ?_⟩
    · refine m_X11_stepOf hI o_v0 (p_x3 (qw278 ph0_S4 wn_x3 c7 c8)) (fun x9 S10 hI2 g11 p_x9 => ?_)
      subst p_x9
      intro _
      refine u_X11_step_49 ?_
      refine ⟨fun c13 => ?_, fun c13 => ?_⟩
      · refine ⟨o_v0, ?_⟩
        refine u_X11_good ?_
        refine u_X11_good_0 ?_
        refine ⟨o_v0, ?_⟩
        intro S14 eS14
        have hIn : IV S14 := by rw [eS14]; exact iv11_sI hI o_v0 (by decide) (nu_free (by decide))
        have hI := hIn
        have f0 := fr_I eS14 g0 f0 o_v0 (by decide)
        have d_kv2 := rd_Ij eS14 (by decide) d_kv2
        obtain ⟨kv15, hkv15⟩ : ∃ z : Int32, z = (0 : Int32) := ⟨_, rfl⟩
        have d_kv15 := rd_Is eS14 hkv15
        have g0 := gr_I eS14 g0
        have o_v0 := ob_I eS14 o_v0
        intro S16 eS16
        have hIn : IV S16 := by rw [eS16]; exact iv11_sI hI o_v0 (by decide) (nu_free (by decide))
        have hI := hIn
        have f0 := fr_I eS16 g0 f0 o_v0 (by decide)
        have d_kv2 := rd_Ij eS16 (by decide) d_kv2
        have d_kv15 := rd_Ij eS16 (by decide) d_kv15
        obtain ⟨kv17, hkv17⟩ : ∃ z : Int32, z = (-1 : Int32) := ⟨_, rfl⟩
        have d_kv17 := rd_Is eS16 hkv17
        have g0 := gr_I eS16 g0
        have o_v0 := ob_I eS16 o_v0
        intro _
        exact hq _ _ hI g0 f0
      · refine ⟨o_v0, ?_⟩
        refine u_X11_refused ?_
        refine u_X11_refused_0 ?_
        refine ⟨o_v0, ?_⟩
        intro S19 eS19
        have hIn : IV S19 := by rw [eS19]; exact iv11_sI hI o_v0 (by decide) (nu_free (by decide))
        have hI := hIn
        have f0 := fr_I eS19 g0 f0 o_v0 (by decide)
        have d_kv2 := rd_Ij eS19 (by decide) d_kv2
        obtain ⟨kv20, hkv20⟩ : ∃ z : Int32, z = (1 : Int32) := ⟨_, rfl⟩
        have d_kv20 := rd_Is eS19 hkv20
        have g0 := gr_I eS19 g0
        have o_v0 := ob_I eS19 o_v0
        intro S21 eS21
        have hIn : IV S21 := by rw [eS21]; exact iv11_sI hI o_v0 (by decide) (nu_free (by decide))
        have hI := hIn
        have f0 := fr_I eS21 g0 f0 o_v0 (by decide)
        have d_kv2 := rd_Ij eS21 (by decide) d_kv2
        have d_kv20 := rd_Ij eS21 (by decide) d_kv20
        obtain ⟨kv22, hkv22⟩ : ∃ z : Int32, z = (-1 : Int32) := ⟨_, rfl⟩
        have d_kv22 := rd_Is eS21 hkv22
        have g0 := gr_I eS21 g0
        have o_v0 := ob_I eS21 o_v0
        intro _
        exact hq _ _ hI g0 f0
    · refine u_X11_step_49 ?_
      refine ⟨fun c24 => absurd (show ¬ (-1 : Int32) = (-1 : Int32) from c24) (by decide), fun c24 => ?_⟩
      refine ⟨o_v0, ?_⟩
      refine u_X11_refused ?_
      refine u_X11_refused_0 ?_
      refine ⟨o_v0, ?_⟩
      intro S25 eS25
      have hIn : IV S25 := by rw [eS25]; exact iv11_sI hI o_v0 (by decide) (nu_free (by decide))
      have hI := hIn
      have f0 := fr_I eS25 g0 f0 o_v0 (by decide)
      have d_kv2 := rd_Ij eS25 (by decide) d_kv2
      obtain ⟨kv26, hkv26⟩ : ∃ z : Int32, z = (1 : Int32) := ⟨_, rfl⟩
      have d_kv26 := rd_Is eS25 hkv26
      have g0 := gr_I eS25 g0
      have o_v0 := ob_I eS25 o_v0
      intro S27 eS27
      have hIn : IV S27 := by rw [eS27]; exact iv11_sI hI o_v0 (by decide) (nu_free (by decide))
      have hI := hIn
      have f0 := fr_I eS27 g0 f0 o_v0 (by decide)
      have d_kv2 := rd_Ij eS27 (by decide) d_kv2
      have d_kv26 := rd_Ij eS27 (by decide) d_kv26
      obtain ⟨kv28, hkv28⟩ : ∃ z : Int32, z = (-1 : Int32) := ⟨_, rfl⟩
      have d_kv28 := rd_Is eS27 hkv28
      have g0 := gr_I eS27 g0
      have o_v0 := ob_I eS27 o_v0
      intro _
      exact hq _ _ hI g0 f0
  · refine u_X11_refused ?_
    refine u_X11_refused_0 ?_
    refine ⟨o_v0, ?_⟩
    intro S30 eS30
    have hIn : IV S30 := by rw [eS30]; exact iv11_sI hI o_v0 (by decide) (nu_free (by decide))
    have hI := hIn
    have f0 := fr_I eS30 g0 f0 o_v0 (by decide)
    have d_kv2 := rd_Ij eS30 (by decide) d_kv2
    have d_x3 := rd_Is eS30 (rfl : x3 = x3)
    have g0 := gr_I eS30 g0
    have o_v0 := ob_I eS30 o_v0
    intro S31 eS31
    have hIn : IV S31 := by rw [eS31]; exact iv11_sI hI o_v0 (by decide) (nu_free (by decide))
    have hI := hIn
    have f0 := fr_I eS31 g0 f0 o_v0 (by decide)
    have d_kv2 := rd_Ij eS31 (by decide) d_kv2
    have d_x3 := rd_Ij eS31 (by decide) d_x3
    obtain ⟨kv32, hkv32⟩ : ∃ z : Int32, z = (-1 : Int32) := ⟨_, rfl⟩
    have d_kv32 := rd_Is eS31 hkv32
    have g0 := gr_I eS31 g0
    have o_v0 := ob_I eS31 o_v0
    intro _
    exact hq _ _ hI g0 f0
set_option maxHeartbeats 4000000 in
set_option maxRecDepth 20000 in
theorem m_X11_steps {v0 : Nat} {v1 : Int32} {v2 : Int32} {v3 : Int32} {v4 : Int32} {v5 : Int32} {Q : Int32 → HS → Prop} {S : HS} (hI : IV S) (o_v0 : ob S v0 11)     (hq : ∀ (r : Int32) (T : HS), IV T → Gr S T → FRI [(11, 0), (11, 1), (11, 2)] [] S T → Q r T) : P_X11_steps v0 v1 v2 v3 v4 v5 Q S := by
  have g0 := gr_rf S
  have f0 := fri_rf [(11, 0), (11, 1), (11, 2)] [] S
  refine u_X11_steps ?_
  refine u_X11_steps_0 ?_
  refine ⟨o_v0, ?_⟩
  intro S1 eS1
  have hIn : IV S1 := by rw [eS1]; exact iv11_sI hI o_v0 (by decide) (nu_free (by decide))
  have hI := hIn
  have f0 := fr_I eS1 g0 f0 o_v0 (by decide)
  obtain ⟨kv2, hkv2⟩ : ∃ z : Int32, z = (0 : Int32) := ⟨_, rfl⟩
  have d_kv2 := rd_Is eS1 hkv2
  have g0 := gr_I eS1 g0
  have o_v0 := ob_I eS1 o_v0
  refine m_X11_refusesWay hI o_v0 (fun x3 S4 hJ g5 fc6 p_x3 => ?_)
  obtain ⟨p_x3, pg0_S4⟩ := p_x3
  have hI := hJ
  have d_kv2 := d_kv2.trans (fri_at fc6 (by decide) (by decide) o_v0).symm
  have f0 := fri_tr (S := S1) g0 f0 fc6 (by decide) (by decide)
  have o_v0 := gr_ob g5 o_v0
  have g0 := gr_tr (T := S1) g0 g5
  have ph0_S4 : x3 = 0 ∨ x3 = 1 ∨ x3 = 2 ∨ x3 = 6 := by rw []; exact pg0_S4
  intro _
  have wn_x3 : x3 = 0 → 0 ≤ v2 ∧ v2 < 8 ∧ 0 ≤ v4 ∧ v4 ≤ 400 := fun z => wyq_num hI o_v0 (p_x3 z)
  refine ⟨fun c7 => ?_, fun c7 => ?_⟩
  · refine m_X11_stepOf hI o_v0 (p_x3 (qw384 ph0_S4 wn_x3 c7)) (fun x8 S9 hI2 g10 p_x8 => ?_)
    subst p_x8
    intro _
    refine u_X11_good ?_
    refine u_X11_good_0 ?_
    refine ⟨o_v0, ?_⟩
    intro S12 eS12
    have hIn : IV S12 := by rw [eS12]; exact iv11_sI hI o_v0 (by decide) (nu_free (by decide))
    have hI := hIn
    have f0 := fr_I eS12 g0 f0 o_v0 (by decide)
    have d_kv2 := rd_Ij eS12 (by decide) d_kv2
    obtain ⟨kv13, hkv13⟩ : ∃ z : Int32, z = (0 : Int32) := ⟨_, rfl⟩
    have d_kv13 := rd_Is eS12 hkv13
    have g0 := gr_I eS12 g0
    have o_v0 := ob_I eS12 o_v0
    intro S14 eS14
    have hIn : IV S14 := by rw [eS14]; exact iv11_sI hI o_v0 (by decide) (nu_free (by decide))
    have hI := hIn
    have f0 := fr_I eS14 g0 f0 o_v0 (by decide)
    have d_kv2 := rd_Ij eS14 (by decide) d_kv2
    have d_kv13 := rd_Ij eS14 (by decide) d_kv13
    obtain ⟨kv15, hkv15⟩ : ∃ z : Int32, z = (-1 : Int32) := ⟨_, rfl⟩
    have d_kv15 := rd_Is eS14 hkv15
    have g0 := gr_I eS14 g0
    have o_v0 := ob_I eS14 o_v0
    intro _
    exact hq _ _ hI g0 f0
  · refine u_X11_refused ?_
    refine u_X11_refused_0 ?_
    refine ⟨o_v0, ?_⟩
    intro S17 eS17
    have hIn : IV S17 := by rw [eS17]; exact iv11_sI hI o_v0 (by decide) (nu_free (by decide))
    have hI := hIn
    have f0 := fr_I eS17 g0 f0 o_v0 (by decide)
    have d_kv2 := rd_Ij eS17 (by decide) d_kv2
    have d_x3 := rd_Is eS17 (rfl : x3 = x3)
    have g0 := gr_I eS17 g0
    have o_v0 := ob_I eS17 o_v0
    intro S18 eS18
    have hIn : IV S18 := by rw [eS18]; exact iv11_sI hI o_v0 (by decide) (nu_free (by decide))
    have hI := hIn
    have f0 := fr_I eS18 g0 f0 o_v0 (by decide)
    have d_kv2 := rd_Ij eS18 (by decide) d_kv2
    have d_x3 := rd_Ij eS18 (by decide) d_x3
    obtain ⟨kv19, hkv19⟩ : ∃ z : Int32, z = (-1 : Int32) := ⟨_, rfl⟩
    have d_kv19 := rd_Is eS18 hkv19
    have g0 := gr_I eS18 g0
    have o_v0 := ob_I eS18 o_v0
    intro _
    exact hq _ _ hI g0 f0
set_option maxHeartbeats 4000000 in
set_option maxRecDepth 20000 in
theorem m_X11_there {v0 : Nat} {v1 : Int32} {v2 : Int32} {v3 : Int32} {v4 : Int32} {v5 : Int32} {Q : Int32 → HS → Prop} {S : HS} (hI : IV S) (o_v0 : ob S v0 11)     (hq : ∀ (r : Int32) (T : HS), IV T → Gr S T → FRI [(11, 0), (11, 1), (11, 2)] [] S T → Q r T) : P_X11_there v0 v1 v2 v3 v4 v5 Q S := by
  have g0 := gr_rf S
  have f0 := fri_rf [(11, 0), (11, 1), (11, 2)] [] S
  refine u_X11_there ?_
  refine u_X11_there_0 ?_
  refine ⟨o_v0, ?_⟩
  intro S1 eS1
  have hIn : IV S1 := by rw [eS1]; exact iv11_sI hI o_v0 (by decide) (nu_free (by decide))
  have hI := hIn
  have f0 := fr_I eS1 g0 f0 o_v0 (by decide)
  obtain ⟨kv2, hkv2⟩ : ∃ z : Int32, z = (0 : Int32) := ⟨_, rfl⟩
  have d_kv2 := rd_Is eS1 hkv2
  have g0 := gr_I eS1 g0
  have o_v0 := ob_I eS1 o_v0
  refine m_X11_refusesWay hI o_v0 (fun x3 S4 hJ g5 fc6 p_x3 => ?_)
  obtain ⟨p_x3, pg0_S4⟩ := p_x3
  have hI := hJ
  have d_kv2 := d_kv2.trans (fri_at fc6 (by decide) (by decide) o_v0).symm
  have f0 := fri_tr (S := S1) g0 f0 fc6 (by decide) (by decide)
  have o_v0 := gr_ob g5 o_v0
  have g0 := gr_tr (T := S1) g0 g5
  have ph0_S4 : x3 = 0 ∨ x3 = 1 ∨ x3 = 2 ∨ x3 = 6 := by rw []; exact pg0_S4
  intro _
  have wn_x3 : x3 = 0 → 0 ≤ v2 ∧ v2 < 8 ∧ 0 ≤ v4 ∧ v4 ≤ 400 := fun z => wyq_num hI o_v0 (p_x3 z)
  refine ⟨fun c7 => ?_, fun c7 => ?_⟩
  · obtain ⟨a8, ea8, o_a8, l_a8⟩ := shl 55 rfl hI o_v0
    refine ⟨a8, ea8, ?_⟩
    refine u_X11_spotOf ?_
    refine u_X11_spotOf_0 ?_
    intro _
    refine ⟨o_a8, ?_⟩
    refine ⟨(vin l_a8 (m := 3208) (by decide) (sp_rng (qw385 ph0_S4 wn_x3 c7) (qw386 ph0_S4 wn_x3 c7))), ?_⟩
    intro x10 ex10
    refine u_X11_good ?_
    refine u_X11_good_0 ?_
    refine ⟨o_v0, ?_⟩
    intro S11 eS11
    have hIn : IV S11 := by rw [eS11]; exact iv11_sI hI o_v0 (by decide) (nu_free (by decide))
    have hI := hIn
    have f0 := fr_I eS11 g0 f0 o_v0 (by decide)
    have d_kv2 := rd_Ij eS11 (by decide) d_kv2
    obtain ⟨kv12, hkv12⟩ : ∃ z : Int32, z = (0 : Int32) := ⟨_, rfl⟩
    have d_kv12 := rd_Is eS11 hkv12
    have ea8 := rf_I eS11 ea8
    have l_a8 := ln_I eS11 l_a8
    have g0 := gr_I eS11 g0
    have o_a8 := ob_I eS11 o_a8
    have o_v0 := ob_I eS11 o_v0
    intro S13 eS13
    have hIn : IV S13 := by rw [eS13]; exact iv11_sI hI o_v0 (by decide) (nu_free (by decide))
    have hI := hIn
    have f0 := fr_I eS13 g0 f0 o_v0 (by decide)
    have d_kv2 := rd_Ij eS13 (by decide) d_kv2
    have d_kv12 := rd_Ij eS13 (by decide) d_kv12
    obtain ⟨kv14, hkv14⟩ : ∃ z : Int32, z = (-1 : Int32) := ⟨_, rfl⟩
    have d_kv14 := rd_Is eS13 hkv14
    have ea8 := rf_I eS13 ea8
    have l_a8 := ln_I eS13 l_a8
    have g0 := gr_I eS13 g0
    have o_a8 := ob_I eS13 o_a8
    have o_v0 := ob_I eS13 o_v0
    intro _
    exact hq _ _ hI g0 f0
  · refine u_X11_refused ?_
    refine u_X11_refused_0 ?_
    refine ⟨o_v0, ?_⟩
    intro S16 eS16
    have hIn : IV S16 := by rw [eS16]; exact iv11_sI hI o_v0 (by decide) (nu_free (by decide))
    have hI := hIn
    have f0 := fr_I eS16 g0 f0 o_v0 (by decide)
    have d_kv2 := rd_Ij eS16 (by decide) d_kv2
    have d_x3 := rd_Is eS16 (rfl : x3 = x3)
    have g0 := gr_I eS16 g0
    have o_v0 := ob_I eS16 o_v0
    intro S17 eS17
    have hIn : IV S17 := by rw [eS17]; exact iv11_sI hI o_v0 (by decide) (nu_free (by decide))
    have hI := hIn
    have f0 := fr_I eS17 g0 f0 o_v0 (by decide)
    have d_kv2 := rd_Ij eS17 (by decide) d_kv2
    have d_x3 := rd_Ij eS17 (by decide) d_x3
    obtain ⟨kv18, hkv18⟩ : ∃ z : Int32, z = (-1 : Int32) := ⟨_, rfl⟩
    have d_kv18 := rd_Is eS17 hkv18
    have g0 := gr_I eS17 g0
    have o_v0 := ob_I eS17 o_v0
    intro _
    exact hq _ _ hI g0 f0
