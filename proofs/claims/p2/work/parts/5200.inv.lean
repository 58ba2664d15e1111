set_option maxHeartbeats 4000000 in
set_option maxRecDepth 20000 in
theorem m_X0_end {v0 : Nat} {Q : HS → Prop} {S : HS} (hI : IV S) (o_v0 : ob S v0 0)     (hq : ∀ (T : HS), IV T → Gr S T → FRI [(0, 0), (0, 2), (0, 3)] [] S T → Q T) : P_X0_end v0 Q S := by
  have g0 := gr_rf S
  have f0 := fri_rf [(0, 0), (0, 2), (0, 3)] [] S
  refine u_X0_end ?_
  refine u_X0_end_0 ?_
  refine ⟨o_v0, ?_⟩
  have hI := iv_sI (j := 0) (v := (-1 : Int32)) hI o_v0 (by decide) (nu_one (lo := (-1 : Int32)) (hi := (3 : Int32)) (by decide) (q769))
  have f0 : FRI _ _ _ (sI S v0 0 (-1 : Int32)) := fri_sI (S := S) g0 f0 o_v0 (by decide)
  obtain ⟨y1, hy1⟩ : ∃ z : Int32, z = (-1 : Int32) := ⟨_, rfl⟩
  have d_y1 : y1 = fI (sI S v0 0 (-1 : Int32)) v0 0 := hy1.trans (u2_self _ _ _ _).symm
  have hI := iv_sI (j := 2) (v := (0 : Int32)) hI o_v0 (by decide) (nu_one (lo := (0 : Int32)) (hi := (16 : Int32)) (by decide) (q770))
  have f0 : FRI _ _ _ (sI (sI S v0 0 (-1 : Int32)) v0 2 (0 : Int32)) := fri_sI (S := sI S v0 0 (-1 : Int32)) g0 f0 o_v0 (by decide)
  have d_y1 : y1 = fI (sI (sI S v0 0 (-1 : Int32)) v0 2 (0 : Int32)) v0 0 := d_y1.trans (rd_j (by decide)).symm
  obtain ⟨y2, hy2⟩ : ∃ z : Int32, z = (0 : Int32) := ⟨_, rfl⟩
  have d_y2 : y2 = fI (sI (sI S v0 0 (-1 : Int32)) v0 2 (0 : Int32)) v0 2 := hy2.trans (u2_self _ _ _ _).symm
  have hI := iv_sI (j := 3) (v := (0 : Int32)) hI o_v0 (by decide) (nu_one (lo := (0 : Int32)) (hi := (3 : Int32)) (by decide) (q771))
  have f0 : FRI _ _ _ (sI (sI (sI S v0 0 (-1 : Int32)) v0 2 (0 : Int32)) v0 3 (0 : Int32)) := fri_sI (S := sI (sI S v0 0 (-1 : Int32)) v0 2 (0 : Int32)) g0 f0 o_v0 (by decide)
  have d_y1 : y1 = fI (sI (sI (sI S v0 0 (-1 : Int32)) v0 2 (0 : Int32)) v0 3 (0 : Int32)) v0 0 := d_y1.trans (rd_j (by decide)).symm
  have d_y2 : y2 = fI (sI (sI (sI S v0 0 (-1 : Int32)) v0 2 (0 : Int32)) v0 3 (0 : Int32)) v0 2 := d_y2.trans (rd_j (by decide)).symm
  obtain ⟨y3, hy3⟩ : ∃ z : Int32, z = (0 : Int32) := ⟨_, rfl⟩
  have d_y3 : y3 = fI (sI (sI (sI S v0 0 (-1 : Int32)) v0 2 (0 : Int32)) v0 3 (0 : Int32)) v0 3 := hy3.trans (u2_self _ _ _ _).symm
  exact hq _ hI g0 f0
set_option maxHeartbeats 4000000 in
set_option maxRecDepth 20000 in
theorem m_X0_begin {v0 : Nat} {v1 : Int32} {v2 : Int32} {v3 : Int32} {Q : HS → Prop} {S : HS} (hI : IV S) (o_v0 : ob S v0 0)   (h1 : -1 ≤ v1 ∧ v1 ≤ 3)  (hq : ∀ (T : HS), IV T → Gr S T → FRI [(0, 0), (0, 2), (0, 3), (2, 0), (2, 1)] [] S T → Q T) : P_X0_begin v0 v1 v2 v3 Q S := by
  have g0 := gr_rf S
  have f0 := fri_rf [(0, 0), (0, 2), (0, 3), (2, 0), (2, 1)] [] S
  refine u_X0_begin ?_
  refine u_X0_begin_0 ?_
  refine ⟨o_v0, ?_⟩
  refine u_X0_end ?_
  refine u_X0_end_0 ?_
  refine ⟨o_v0, ?_⟩
  have hI := iv_sI (j := 0) (v := (-1 : Int32)) hI o_v0 (by decide) (nu_one (lo := (-1 : Int32)) (hi := (3 : Int32)) (by decide) (q769))
  have f0 : FRI _ _ _ (sI S v0 0 (-1 : Int32)) := fri_sI (S := S) g0 f0 o_v0 (by decide)
  obtain ⟨y1, hy1⟩ : ∃ z : Int32, z = (-1 : Int32) := ⟨_, rfl⟩
  have d_y1 : y1 = fI (sI S v0 0 (-1 : Int32)) v0 0 := hy1.trans (u2_self _ _ _ _).symm
  have hI := iv_sI (j := 2) (v := (0 : Int32)) hI o_v0 (by decide) (nu_one (lo := (0 : Int32)) (hi := (16 : Int32)) (by decide) (q770))
  have f0 : FRI _ _ _ (sI (sI S v0 0 (-1 : Int32)) v0 2 (0 : Int32)) := fri_sI (S := sI S v0 0 (-1 : Int32)) g0 f0 o_v0 (by decide)
  have d_y1 : y1 = fI (sI (sI S v0 0 (-1 : Int32)) v0 2 (0 : Int32)) v0 0 := d_y1.trans (rd_j (by decide)).symm
  obtain ⟨y2, hy2⟩ : ∃ z : Int32, z = (0 : Int32) := ⟨_, rfl⟩
  have d_y2 : y2 = fI (sI (sI S v0 0 (-1 : Int32)) v0 2 (0 : Int32)) v0 2 := hy2.trans (u2_self _ _ _ _).symm
  have hI := iv_sI (j := 3) (v := (0 : Int32)) hI o_v0 (by decide) (nu_one (lo := (0 : Int32)) (hi := (3 : Int32)) (by decide) (q771))
  have f0 : FRI _ _ _ (sI (sI (sI S v0 0 (-1 : Int32)) v0 2 (0 : Int32)) v0 3 (0 : Int32)) := fri_sI (S := sI (sI S v0 0 (-1 : Int32)) v0 2 (0 : Int32)) g0 f0 o_v0 (by decide)
  have d_y1 : y1 = fI (sI (sI (sI S v0 0 (-1 : Int32)) v0 2 (0 : Int32)) v0 3 (0 : Int32)) v0 0 := d_y1.trans (rd_j (by decide)).symm
  have d_y2 : y2 = fI (sI (sI (sI S v0 0 (-1 : Int32)) v0 2 (0 : Int32)) v0 3 (0 : Int32)) v0 2 := d_y2.trans (rd_j (by decide)).symm
  obtain ⟨y3, hy3⟩ : ∃ z : Int32, z = (0 : Int32) := ⟨_, rfl⟩
  have d_y3 : y3 = fI (sI (sI (sI S v0 0 (-1 : Int32)) v0 2 (0 : Int32)) v0 3 (0 : Int32)) v0 3 := hy3.trans (u2_self _ _ _ _).symm
  intro _
  have hI := iv_sI (j := 0) (v := v1) hI o_v0 (by decide) (nu_one (lo := (-1 : Int32)) (hi := (3 : Int32)) (by decide) (q772 h1))
  have f0 : FRI _ _ _ (sI (sI (sI (sI S v0 0 (-1 : Int32)) v0 2 (0 : Int32)) v0 3 (0 : Int32)) v0 0 v1) := fri_sI (S := sI (sI (sI S v0 0 (-1 : Int32)) v0 2 (0 : Int32)) v0 3 (0 : Int32)) g0 f0 o_v0 (by decide)
  have d_y2 : y2 = fI (sI (sI (sI (sI S v0 0 (-1 : Int32)) v0 2 (0 : Int32)) v0 3 (0 : Int32)) v0 0 v1) v0 2 := d_y2.trans (rd_j (by decide)).symm
  have d_y3 : y3 = fI (sI (sI (sI (sI S v0 0 (-1 : Int32)) v0 2 (0 : Int32)) v0 3 (0 : Int32)) v0 0 v1) v0 3 := d_y3.trans (rd_j (by decide)).symm
  have d_v1 : v1 = fI (sI (sI (sI (sI S v0 0 (-1 : Int32)) v0 2 (0 : Int32)) v0 3 (0 : Int32)) v0 0 v1) v0 0 := (u2_self _ _ _ _).symm
  obtain ⟨a4, ea4, o_a4, -⟩ := sh 6 rfl hI o_v0
  refine ⟨a4, ea4, ?_⟩
  refine ⟨o_a4, ?_⟩
  have hI := iv_sI (j := 0) (v := v2) hI o_a4 (by decide) (nu_free (by decide))
  have f0 : FRI _ _ _ (sI (sI (sI (sI (sI S v0 0 (-1 : Int32)) v0 2 (0 : Int32)) v0 3 (0 : Int32)) v0 0 v1) a4 0 v2) := fri_sI (S := sI (sI (sI (sI S v0 0 (-1 : Int32)) v0 2 (0 : Int32)) v0 3 (0 : Int32)) v0 0 v1) g0 f0 o_a4 (by decide)
  have d_y2 : y2 = fI (sI (sI (sI (sI (sI S v0 0 (-1 : Int32)) v0 2 (0 : Int32)) v0 3 (0 : Int32)) v0 0 v1) a4 0 v2) v0 2 := d_y2.trans (sI_ne (S := sI (sI (sI (sI S v0 0 (-1 : Int32)) v0 2 (0 : Int32)) v0 3 (0 : Int32)) v0 0 v1) o_a4 o_v0 (by decide) 2).symm
  have d_y3 : y3 = fI (sI (sI (sI (sI (sI S v0 0 (-1 : Int32)) v0 2 (0 : Int32)) v0 3 (0 : Int32)) v0 0 v1) a4 0 v2) v0 3 := d_y3.trans (sI_ne (S := sI (sI (sI (sI S v0 0 (-1 : Int32)) v0 2 (0 : Int32)) v0 3 (0 : Int32)) v0 0 v1) o_a4 o_v0 (by decide) 3).symm
  have d_v1 : v1 = fI (sI (sI (sI (sI (sI S v0 0 (-1 : Int32)) v0 2 (0 : Int32)) v0 3 (0 : Int32)) v0 0 v1) a4 0 v2) v0 0 := d_v1.trans (sI_ne (S := sI (sI (sI (sI S v0 0 (-1 : Int32)) v0 2 (0 : Int32)) v0 3 (0 : Int32)) v0 0 v1) o_a4 o_v0 (by decide) 0).symm
  have d_v2 : v2 = fI (sI (sI (sI (sI (sI S v0 0 (-1 : Int32)) v0 2 (0 : Int32)) v0 3 (0 : Int32)) v0 0 v1) a4 0 v2) a4 0 := (u2_self _ _ _ _).symm
  refine ⟨a4, ea4, ?_⟩
  refine ⟨o_a4, ?_⟩
  have hI := iv_sI (j := 1) (v := v3) hI o_a4 (by decide) (nu_free (by decide))
  have f0 : FRI _ _ _ (sI (sI (sI (sI (sI (sI S v0 0 (-1 : Int32)) v0 2 (0 : Int32)) v0 3 (0 : Int32)) v0 0 v1) a4 0 v2) a4 1 v3) := fri_sI (S := sI (sI (sI (sI (sI S v0 0 (-1 : Int32)) v0 2 (0 : Int32)) v0 3 (0 : Int32)) v0 0 v1) a4 0 v2) g0 f0 o_a4 (by decide)
  have d_y2 : y2 = fI (sI (sI (sI (sI (sI (sI S v0 0 (-1 : Int32)) v0 2 (0 : Int32)) v0 3 (0 : Int32)) v0 0 v1) a4 0 v2) a4 1 v3) v0 2 := d_y2.trans (sI_ne (S := sI (sI (sI (sI (sI S v0 0 (-1 : Int32)) v0 2 (0 : Int32)) v0 3 (0 : Int32)) v0 0 v1) a4 0 v2) o_a4 o_v0 (by decide) 2).symm
  have d_y3 : y3 = fI (sI (sI (sI (sI (sI (sI S v0 0 (-1 : Int32)) v0 2 (0 : Int32)) v0 3 (0 : Int32)) v0 0 v1) a4 0 v2) a4 1 v3) v0 3 := d_y3.trans (sI_ne (S := sI (sI (sI (sI (sI S v0 0 (-1 : Int32)) v0 2 (0 : Int32)) v0 3 (0 : Int32)) v0 0 v1) a4 0 v2) o_a4 o_v0 (by decide) 3).symm
  have d_v1 : v1 = fI (sI (sI (sI (sI (sI (sI S v0 0 (-1 : Int32)) v0 2 (0 : Int32)) v0 3 (0 : Int32)) v0 0 v1) a4 0 v2) a4 1 v3) v0 0 := d_v1.trans (sI_ne (S := sI (sI (sI (sI (sI S v0 0 (-1 : Int32)) v0 2 (0 : Int32)) v0 3 (0 : Int32)) v0 0 v1) a4 0 v2) o_a4 o_v0 (by decide) 0).symm
  have d_v2 : v2 = fI (sI (sI (sI (sI (sI (sI S v0 0 (-1 : Int32)) v0 2 (0 : Int32)) v0 3 (0 : Int32)) v0 0 v1) a4 0 v2) a4 1 v3) a4 0 := d_v2.trans (rd_j (by decide)).symm
  have d_v3 : v3 = fI (sI (sI (sI (sI (sI (sI S v0 0 (-1 : Int32)) v0 2 (0 : Int32)) v0 3 (0 : Int32)) v0 0 v1) a4 0 v2) a4 1 v3) a4 1 := (u2_self _ _ _ _).symm
  refine i_X0_begin_28 (fun (y0 : Nat) (y4 : Int32) (Z : HS) => ((2147483647 : Int32).toInt - y4.toInt).toNat) (fun (y0 : Nat) (y4 : Int32) (Z : HS) => (IV Z) ∧ (Gr (sI (sI (sI (sI (sI (sI S v0 0 (-1 : Int32)) v0 2 (0 : Int32)) v0 3 (0 : Int32)) v0 0 v1) a4 0 v2) a4 1 v3) Z) ∧ (FRI [] [] (sI (sI (sI (sI (sI (sI S v0 0 (-1 : Int32)) v0 2 (0 : Int32)) v0 3 (0 : Int32)) v0 0 v1) a4 0 v2) a4 1 v3) Z) ∧ (v0 = y0) ∧ (0 ≤ y4)) ?_ _ _ _ ⟨hI, (gr_rf _), (fri_rf _ _ _), rfl, (q82)⟩
  intro w9 w11 S6 X12 ⟨hI, gL7, fL8, q10, i1⟩ ih13
  subst q10
  have d_y2 := d_y2.trans (fri_at fL8 (by decide) (by decide) o_v0).symm
  have d_y3 := d_y3.trans (fri_at fL8 (by decide) (by decide) o_v0).symm
  have d_v1 := d_v1.trans (fri_at fL8 (by decide) (by decide) o_v0).symm
  have d_v2 := d_v2.trans (fri_at fL8 (by decide) (by decide) o_a4).symm
  have d_v3 := d_v3.trans (fri_at fL8 (by decide) (by decide) o_a4).symm
  have ea4 := (frr_at fL8 (by decide) (by decide) o_v0).trans ea4
  have f0 := fri_tr (S := sI (sI (sI (sI (sI (sI S v0 0 (-1 : Int32)) v0 2 (0 : Int32)) v0 3 (0 : Int32)) v0 0 v1) a4 0 v2) a4 1 v3) g0 f0 fL8 (by decide) (by decide)
  have o_a4 := gr_ob gL7 o_a4
  have o_v0 := gr_ob gL7 o_v0
  have g0 := gr_tr (T := sI (sI (sI (sI (sI (sI S v0 0 (-1 : Int32)) v0 2 (0 : Int32)) v0 3 (0 : Int32)) v0 0 v1) a4 0 v2) a4 1 v3) g0 gL7
  refine u_X0_begin_28 ?_
  refine ⟨fun c14 => ?_, fun c14 => ?_⟩
  · exact hq _ hI g0 f0
  · refine ⟨o_v0, ?_⟩
    refine ⟨a4, ea4, ?_⟩
    refine ⟨o_a4, ?_⟩
    obtain ⟨a16, ea16, o_a16, l_a16⟩ := shl 11 rfl hI o_a4
    refine ⟨a16, ea16, ?_⟩
    refine ⟨o_a16, ?_⟩
    have i17 : vp_in w11 (hN _ a16) := (vin l_a16 (m := 5) (by decide) (q86 i1 c14))
    refine ⟨i17, ?_⟩
    have hI := iv_aJ (i := w11.toNatClampNeg) (v := (0 : Int64)) hI o_a4 (by decide) ea16 o_a16 (by decide)
    intro x18 ex18
    exact ih13 _ _ _ ⟨hI, gL7, fL8, rfl, (q87 i1 c14 ex18)⟩ (mu_up (q88 i1 c14 ex18) (q89 i1 c14 ex18))
set_option maxHeartbeats 4000000 in
set_option maxRecDepth 20000 in
theorem m_X0_draw {v0 : Nat} {v1 : Nat} {v2 : Int32} {Q : HS → Prop} {S : HS} (hI : IV S) (o_v0 : ob S v0 0) (o_v1 : ob S v1 8)     (hq : ∀ (T : HS), IV T → Gr S T → FRI [(0, 1)] [] S T → Q T) : P_X0_draw v0 v1 v2 Q S := by
  have g0 := gr_rf S
  have f0 := fri_rf [(0, 1)] [] S
  refine u_X0_draw ?_
  refine u_X0_draw_0 ?_
  refine ⟨o_v0, ?_⟩
  have hI := iv_sI (j := 1) (v := (0 : Int32)) hI o_v0 (by decide) (nu_free (by decide))
  have f0 : FRI _ _ _ (sI S v0 1 (0 : Int32)) := fri_sI (S := S) g0 f0 o_v0 (by decide)
  obtain ⟨y1, hy1⟩ : ∃ z : Int32, z = (0 : Int32) := ⟨_, rfl⟩
  have d_y1 : y1 = fI (sI S v0 1 (0 : Int32)) v0 1 := hy1.trans (u2_self _ _ _ _).symm
  refine i_X0_draw_10 (fun (y0 : Nat) (y1 : Nat) (y3 : Int32) (y4 : Int32) (Z : HS) => ((2147483647 : Int32).toInt - y4.toInt).toNat) (fun (y0 : Nat) (y1 : Nat) (y3 : Int32) (y4 : Int32) (Z : HS) => (IV Z) ∧ (Gr (sI S v0 1 (0 : Int32)) Z) ∧ (FRI [(0, 1)] [] (sI S v0 1 (0 : Int32)) Z) ∧ (v0 = y0) ∧ (v1 = y1) ∧ (0 ≤ y4)) ?_ _ _ _ _ _ ⟨hI, (gr_rf _), (fri_rf _ _ _), rfl, rfl, (q82)⟩
  intro w5 w7 w9 w10 S2 X11 ⟨hI, gL3, fL4, q6, q8, i1⟩ ih12
  subst q6
  subst q8
  have f0 := fri_tr (S := sI S v0 1 (0 : Int32)) g0 f0 fL4 (by decide) (by decide)
  have o_v0 := gr_ob gL3 o_v0
  have o_v1 := gr_ob gL3 o_v1
  have g0 := gr_tr (T := sI S v0 1 (0 : Int32)) g0 gL3
  refine u_X0_draw_10 ?_
  refine ⟨o_v1, ?_⟩
  intro x13 ex13
  have r_x13 : (0 : Int32) ≤ x13 ∧ x13 ≤ (6 : Int32) := by rw [ex13]; exact nu 11 rfl hI o_v1
  have d_x13 := ex13
  refine ⟨fun c14 => ?_, fun c14 => ?_⟩
  · exact hq _ hI g0 f0
  · intro x15 ex15
    intro x16 ex16
    obtain ⟨a17, ea17, o_a17, l_a17⟩ := shl 15 rfl hI o_v1
    refine ⟨a17, ea17, ?_⟩
    refine ⟨o_a17, ?_⟩
    have i19 : vp_in w10 (hN _ a17) := (vin l_a17 (m := 6) (by decide) (q762 i1 r_x13 c14))
    obtain ⟨a18, ea18, o_a18⟩ := ae hI o_a17 (by decide) (by decide) i19
    replace o_a18 : ob _ a18 3 := o_a18
    refine ⟨i19, a18, ea18, ?_⟩
    refine ⟨o_a18, ?_⟩
    intro x20 ex20
    have d_x20 := ex20
    refine ⟨fun c21 => ?_, fun c21 => ?_⟩
    · refine u_X0_draw_60 ?_
      intro x22 ex22
      exact ih12 _ _ _ _ _ ⟨hI, gL3, fL4, rfl, rfl, (q763 i1 r_x13 c14 ex15 ex16 c21 ex22)⟩ (mu_up (q764 i1 r_x13 c14 ex15 ex16 c21 ex22) (q765 i1 r_x13 c14 ex15 ex16 c21 ex22))
    · refine ⟨o_v0, ?_⟩
      intro x23 ex23
      have d_x23 := ex23
      intro x24 ex24
      have hI := iv_sI (j := 1) (v := x24) hI o_v0 (by decide) (nu_free (by decide))
      have f0 : FRI _ _ _ (sI S2 v0 1 x24) := fri_sI (S := S2) g0 f0 o_v0 (by decide)
      have fL4 : FRI _ _ _ (sI S2 v0 1 x24) := fri_sI (S := S2) gL3 fL4 o_v0 (by decide)
      have d_x13 : x13 = fI (sI S2 v0 1 x24) v1 1 := d_x13.trans (sI_ne (S := S2) o_v0 o_v1 (by decide) 1).symm
      have d_x20 : x20 = fI (sI S2 v0 1 x24) a18 4 := d_x20.trans (sI_ne (S := S2) o_v0 o_a18 (by decide) 4).symm
      have d_x24 : x24 = fI (sI S2 v0 1 x24) v0 1 := (u2_self _ _ _ _).symm
      refine u_X0_draw_60 ?_
      intro x25 ex25
      exact ih12 _ _ _ _ _ ⟨hI, gL3, fL4, rfl, rfl, (q766 i1 r_x13 c14 ex15 ex16 c21 ex24 ex25)⟩ (mu_up (q767 i1 r_x13 c14 ex15 ex16 c21 ex24 ex25) (q768 i1 r_x13 c14 ex15 ex16 c21 ex24 ex25))
set_option maxHeartbeats 4000000 in
set_option maxRecDepth 20000 in
theorem m_X0_isOn {v0 : Nat} {Q : Int32 → HS → Prop} {S : HS} (hI : IV S) (o_v0 : ob S v0 0)     (hq : ∀ (r : Int32) (T : HS), IV T → Gr S T → bl r → (S = T) → Q r T) : P_X0_isOn v0 Q S := by
  have g0 := gr_rf S
  refine u_X0_isOn ?_
  refine u_X0_isOn_0 ?_
  refine ⟨o_v0, ?_⟩
  intro x1 ex1
  have r_x1 : (-1 : Int32) ≤ x1 ∧ x1 ≤ (3 : Int32) := by rw [ex1]; exact nu 1 rfl hI o_v0
  have d_x1 := ex1
  refine ⟨fun c2 => ?_, fun c2 => ?_⟩
  · exact hq _ _ hI g0 (Or.inl rfl) rfl
  · exact hq _ _ hI g0 (Or.inr rfl) rfl
set_option maxHeartbeats 4000000 in
set_option maxRecDepth 20000 in
theorem m_X2_copy {v0 : Nat} {v1 : Nat} {Q : HS → Prop} {S : HS} (hI : IV S) (o_v0 : ob S v0 2) (o_v1 : ob S v1 2)     (hq : ∀ (T : HS), IV T → Gr S T → FRI [(2, 0), (2, 1)] [] S T → Q T) : P_X2_copy v0 v1 Q S := by
  have g0 := gr_rf S
  have f0 := fri_rf [(2, 0), (2, 1)] [] S
  refine u_X2_copy ?_
  refine u_X2_copy_0 ?_
  refine ⟨o_v1, ?_⟩
  intro x1 ex1
  have d_x1 := ex1
  refine ⟨o_v0, ?_⟩
  have hI := iv_sI (j := 0) (v := x1) hI o_v0 (by decide) (nu_free (by decide))
  have f0 : FRI _ _ _ (sI S v0 0 x1) := fri_sI (S := S) g0 f0 o_v0 (by decide)
  have d_x1 : x1 = fI (sI S v0 0 x1) v0 0 := (u2_self _ _ _ _).symm
  intro x2 ex2
  have d_x2 := ex2
  have hI := iv_sI (j := 1) (v := x2) hI o_v0 (by decide) (nu_free (by decide))
  have f0 : FRI _ _ _ (sI (sI S v0 0 x1) v0 1 x2) := fri_sI (S := sI S v0 0 x1) g0 f0 o_v0 (by decide)
  have d_x1 : x1 = fI (sI (sI S v0 0 x1) v0 1 x2) v0 0 := d_x1.trans (rd_j (by decide)).symm
  have d_x2 : x2 = fI (sI (sI S v0 0 x1) v0 1 x2) v0 1 := (u2_self _ _ _ _).symm
  refine i_X2_copy_18 (fun (y0 : Nat) (y1 : Nat) (y2 : Int32) (Z : HS) => ((5 : Int32).toInt - y2.toInt).toNat) (fun (y0 : Nat) (y1 : Nat) (y2 : Int32) (Z : HS) => (IV Z) ∧ (Gr (sI (sI S v0 0 x1) v0 1 x2) Z) ∧ (FRI [] [] (sI (sI S v0 0 x1) v0 1 x2) Z) ∧ (v0 = y0) ∧ (v1 = y1) ∧ (0 ≤ y2 ∧ y2 ≤ 5)) ?_ _ _ _ _ ⟨hI, (gr_rf _), (fri_rf _ _ _), rfl, rfl, (q402)⟩
  intro w6 w8 w10 S3 X11 ⟨hI, gL4, fL5, q7, q9, i1⟩ ih12
  subst q7
  subst q9
  have d_x1 := d_x1.trans (fri_at fL5 (by decide) (by decide) o_v0).symm
  have d_x2 := d_x2.trans (fri_at fL5 (by decide) (by decide) o_v0).symm
  have f0 := fri_tr (S := sI (sI S v0 0 x1) v0 1 x2) g0 f0 fL5 (by decide) (by decide)
  have o_v0 := gr_ob gL4 o_v0
  have o_v1 := gr_ob gL4 o_v1
  have g0 := gr_tr (T := sI (sI S v0 0 x1) v0 1 x2) g0 gL4
  refine u_X2_copy_18 ?_
  refine ⟨fun c13 => ?_, fun c13 => ?_⟩
  · exact hq _ hI g0 f0
  · refine ⟨o_v0, ?_⟩
    obtain ⟨a14, ea14, o_a14, l_a14⟩ := shl 11 rfl hI o_v0
    refine ⟨a14, ea14, ?_⟩
    refine ⟨o_v1, ?_⟩
    obtain ⟨a15, ea15, o_a15, l_a15⟩ := shl 11 rfl hI o_v1
    refine ⟨a15, ea15, ?_⟩
    refine ⟨o_a15, ?_⟩
    refine ⟨(vin l_a15 (m := 5) (by decide) (q403 i1 c13)), ?_⟩
    intro x16 ex16
    refine ⟨o_a14, ?_⟩
    have i17 : vp_in w10 (hN _ a14) := (vin l_a14 (m := 5) (by decide) (q403 i1 c13))
    refine ⟨i17, ?_⟩
    have hI := iv_aJ (i := w10.toNatClampNeg) (v := x16) hI o_v0 (by decide) ea14 o_a14 (by decide)
    intro x18 ex18
    exact ih12 _ _ _ _ ⟨hI, gL4, fL5, rfl, rfl, (q404 i1 c13 ex18)⟩ (mu_up (q405 i1 c13 ex18) (q406 i1 c13 ex18))
set_option maxHeartbeats 4000000 in
set_option maxRecDepth 20000 in
theorem m_X0_keepForUndo {v0 : Nat} {Q : HS → Prop} {S : HS} (hI : IV S) (o_v0 : ob S v0 0)     (hq : ∀ (T : HS), IV T → Gr S T → FRI [(0, 2), (2, 0), (2, 1)] [] S T → Q T) : P_X0_keepForUndo v0 Q S := by
  have g0 := gr_rf S
  have f0 := fri_rf [(0, 2), (2, 0), (2, 1)] [] S
  refine u_X0_keepForUndo ?_
  refine u_X0_keepForUndo_0 ?_
  refine ⟨o_v0, ?_⟩
  intro x1 ex1
  have r_x1 : (0 : Int32) ≤ x1 ∧ x1 ≤ (16 : Int32) := by rw [ex1]; exact nu 2 rfl hI o_v0
  have d_x1 := ex1
  refine ⟨fun c2 => ?_, fun c2 => ?_⟩
  · refine u_X0_keepForUndo_58 ?_
    refine ⟨o_v0, ?_⟩
    obtain ⟨a3, ea3, o_a3, l_a3⟩ := shl 7 rfl hI o_v0
    refine ⟨a3, ea3, ?_⟩
    intro x4 ex4
    have r_x4 : (0 : Int32) ≤ x4 ∧ x4 ≤ (16 : Int32) := by rw [ex4]; exact nu 2 rfl hI o_v0
    have q_x4 : x4 = x1 := ex4.trans d_x1.symm
    have d_x4 := ex4
    refine ⟨o_a3, ?_⟩
    have i6 : vp_in x4 (hN _ a3) := (vin l_a3 (m := 16) (by decide) (q462 r_x1 c2 r_x4 q_x4))
    obtain ⟨a5, ea5, o_a5⟩ := ae hI o_a3 (by decide) (by decide) i6
    replace o_a5 : ob _ a5 2 := o_a5
    refine ⟨i6, a5, ea5, ?_⟩
    obtain ⟨a7, ea7, o_a7, -⟩ := sh 6 rfl hI o_v0
    refine ⟨a7, ea7, ?_⟩
    refine ⟨o_a5, ?_⟩
    refine m_X2_copy hI o_a5 o_a7 (fun S9 hI g10 fc11 => ?_)
    have l_a3 := (gr_len g10 o_a3).trans l_a3
    have d_x4 := d_x4.trans (fri_at fc11 (by decide) (by decide) o_v0).symm
    have ea3 := (frr_at fc11 (by decide) (by decide) o_v0).trans ea3
    have ea7 := (frr_at fc11 (by decide) (by decide) o_v0).trans ea7
    have f0 := fri_tr (S := S) g0 f0 fc11 (by decide) (by decide)
    have o_a3 := gr_ob g10 o_a3
    have o_a5 := gr_ob g10 o_a5
    have o_a7 := gr_ob g10 o_a7
    have o_v0 := gr_ob g10 o_v0
    have g0 := gr_tr (T := S) g0 g10
    intro _
    intro x12 ex12
    have r_x12 : (0 : Int32) ≤ x12 ∧ x12 ≤ (16 : Int32) := by rw [ex12]; exact nu 2 rfl hI o_v0
    have q_x12 : x12 = x4 := ex12.trans d_x4.symm
    have d_x12 := ex12
    intro x13 ex13
    have hI := iv_sI (j := 2) (v := x13) hI o_v0 (by decide) (nu_one (lo := (0 : Int32)) (hi := (16 : Int32)) (by decide) (q463 r_x1 c2 r_x4 q_x4 r_x12 q_x12 ex13))
    have f0 : FRI _ _ _ (sI S9 v0 2 x13) := fri_sI (S := S9) g0 f0 o_v0 (by decide)
    have d_x13 : x13 = fI (sI S9 v0 2 x13) v0 2 := (u2_self _ _ _ _).symm
    exact hq _ hI g0 f0
  · obtain ⟨a14, ea14, o_a14, l_a14⟩ := shl 7 rfl hI o_v0
    refine ⟨a14, ea14, ?_⟩
    refine ⟨o_a14, ?_⟩
    have i16 : vp_in (0 : Int32) (hN _ a14) := (vin l_a14 (m := 16) (by decide) (q464 r_x1 c2))
    obtain ⟨a15, ea15, o_a15⟩ := ae hI o_a14 (by decide) (by decide) i16
    replace o_a15 : ob _ a15 2 := o_a15
    refine ⟨i16, a15, ea15, ?_⟩
    refine i_X0_keepForUndo_18 (fun (y0 : Nat) (y1 : Nat) (y2 : Int32) (Z : HS) => ((16 : Int32).toInt - y2.toInt).toNat) (fun (y0 : Nat) (y1 : Nat) (y2 : Int32) (Z : HS) => (IV Z) ∧ (Gr S Z) ∧ (FRI [] [] S Z) ∧ (v0 = y0) ∧ (a15 = y1) ∧ (1 ≤ y2 ∧ y2 ≤ 16)) ?_ _ _ _ _ ⟨hI, (gr_rf _), (fri_rf _ _ _), rfl, rfl, (q465 r_x1 c2)⟩
    intro w20 w22 w24 S17 X25 ⟨hI, gL18, fL19, q21, q23, i1⟩ ih26
    subst q21
    subst q23
    have l_a14 := (gr_len gL18 o_a14).trans l_a14
    have d_x1 := d_x1.trans (fri_at fL19 (by decide) (by decide) o_v0).symm
    have ea14 := (frr_at fL19 (by decide) (by decide) o_v0).trans ea14
    have f0 := fri_tr (S := S) g0 f0 fL19 (by decide) (by decide)
    have o_a14 := gr_ob gL18 o_a14
    have o_a15 := gr_ob gL18 o_a15
    have o_v0 := gr_ob gL18 o_v0
    have g0 := gr_tr (T := S) g0 gL18
    refine u_X0_keepForUndo_18 ?_
    refine ⟨fun c27 => ?_, fun c27 => ?_⟩
    · refine ⟨o_v0, ?_⟩
      refine ⟨a14, ea14, ?_⟩
      refine ⟨o_a14, ?_⟩
      refine ⟨o_a15, ?_⟩
      have i29 : vp_in (15 : Int32) (hN _ a14) := (vin l_a14 (m := 16) (by decide) (q466 r_x1 c2 i1 c27))
      refine ⟨i29, ?_⟩
      have hI := iv_aR hI o_a14 (by decide) (by decide) o_a15
      have f0 : FRI _ _ _ (sR S17 a14 (15 : Int32).toNatClampNeg (some a15)) := fri_aR (S := S17) g0 f0 o_a14 (by decide)
      have fL19 : FRI _ _ _ (sR S17 a14 (15 : Int32).toNatClampNeg (some a15)) := fri_aR (S := S17) gL18 fL19 o_a14 (by decide)
      have ea14 : fR (sR S17 a14 (15 : Int32).toNatClampNeg (some a15)) v0 5 = some a14 := (sR_ne (S := S17) o_a14 o_v0 (by decide) 5).trans ea14
      have hI := iv_sI (j := 2) (v := (15 : Int32)) hI o_v0 (by decide) (nu_one (lo := (0 : Int32)) (hi := (16 : Int32)) (by decide) (q467 r_x1 c2 i1 c27))
      have f0 : FRI _ _ _ (sI (sR S17 a14 (15 : Int32).toNatClampNeg (some a15)) v0 2 (15 : Int32)) := fri_sI (S := sR S17 a14 (15 : Int32).toNatClampNeg (some a15)) g0 f0 o_v0 (by decide)
      have fL19 : FRI _ _ _ (sI (sR S17 a14 (15 : Int32).toNatClampNeg (some a15)) v0 2 (15 : Int32)) := fri_sI (S := sR S17 a14 (15 : Int32).toNatClampNeg (some a15)) gL18 fL19 o_v0 (by decide)
      obtain ⟨y30, hy30⟩ : ∃ z : Int32, z = (15 : Int32) := ⟨_, rfl⟩
      have d_y30 : y30 = fI (sI (sR S17 a14 (15 : Int32).toNatClampNeg (some a15)) v0 2 (15 : Int32)) v0 2 := hy30.trans (u2_self _ _ _ _).symm
      refine u_X0_keepForUndo_58 ?_
      refine ⟨o_v0, ?_⟩
      refine ⟨a14, ea14, ?_⟩
      intro x32 ex32
      have r_x32 : (0 : Int32) ≤ x32 ∧ x32 ≤ (16 : Int32) := by rw [ex32]; exact nu 2 rfl hI o_v0
      have q_x32 : x32 = y30 := ex32.trans d_y30.symm
      have d_x32 := ex32
      refine ⟨o_a14, ?_⟩
      have i34 : vp_in x32 (hN _ a14) := (vin l_a14 (m := 16) (by decide) (q468 r_x1 c2 i1 c27 hy30 r_x32 q_x32))
      obtain ⟨a33, ea33, o_a33⟩ := ae hI o_a14 (by decide) (by decide) i34
      replace o_a33 : ob _ a33 2 := o_a33
      refine ⟨i34, a33, ea33, ?_⟩
      obtain ⟨a35, ea35, o_a35, -⟩ := sh 6 rfl hI o_v0
      refine ⟨a35, ea35, ?_⟩
      refine ⟨o_a33, ?_⟩
      refine m_X2_copy hI o_a33 o_a35 (fun S37 hI g38 fc39 => ?_)
      have l_a14 := (gr_len g38 o_a14).trans l_a14
      have d_x32 := d_x32.trans (fri_at fc39 (by decide) (by decide) o_v0).symm
      have ea14 := (frr_at fc39 (by decide) (by decide) o_v0).trans ea14
      have ea35 := (frr_at fc39 (by decide) (by decide) o_v0).trans ea35
      have f0 := fri_tr (S := sI (sR S17 a14 (15 : Int32).toNatClampNeg (some a15)) v0 2 (15 : Int32)) g0 f0 fc39 (by decide) (by decide)
      have fL19 := fri_tr (S := sI (sR S17 a14 (15 : Int32).toNatClampNeg (some a15)) v0 2 (15 : Int32)) gL18 fL19 fc39 (by decide) (by decide)
      have o_a14 := gr_ob g38 o_a14
      have o_a15 := gr_ob g38 o_a15
      have o_a33 := gr_ob g38 o_a33
      have o_a35 := gr_ob g38 o_a35
      have o_v0 := gr_ob g38 o_v0
      have g0 := gr_tr (T := sI (sR S17 a14 (15 : Int32).toNatClampNeg (some a15)) v0 2 (15 : Int32)) g0 g38
      have gL18 := gr_tr (T := sI (sR S17 a14 (15 : Int32).toNatClampNeg (some a15)) v0 2 (15 : Int32)) gL18 g38
      intro _
      intro x40 ex40
      have r_x40 : (0 : Int32) ≤ x40 ∧ x40 ≤ (16 : Int32) := by rw [ex40]; exact nu 2 rfl hI o_v0
      have q_x40 : x40 = x32 := ex40.trans d_x32.symm
      have d_x40 := ex40
      intro x41 ex41
      have hI := iv_sI (j := 2) (v := x41) hI o_v0 (by decide) (nu_one (lo := (0 : Int32)) (hi := (16 : Int32)) (by decide) (q469 r_x1 c2 i1 c27 hy30 r_x32 q_x32 r_x40 q_x40 ex41))
      have f0 : FRI _ _ _ (sI S37 v0 2 x41) := fri_sI (S := S37) g0 f0 o_v0 (by decide)
      have fL19 : FRI _ _ _ (sI S37 v0 2 x41) := fri_sI (S := S37) gL18 fL19 o_v0 (by decide)
      have d_x41 : x41 = fI (sI S37 v0 2 x41) v0 2 := (u2_self _ _ _ _).symm
      exact hq _ hI g0 f0
    · refine ⟨o_v0, ?_⟩
      refine ⟨a14, ea14, ?_⟩
      refine ⟨a14, ea14, ?_⟩
      refine ⟨o_a14, ?_⟩
      have i45 : vp_in w24 (hN _ a14) := (vin l_a14 (m := 16) (by decide) (q470 r_x1 c2 i1 c27))
      obtain ⟨a44, ea44, o_a44⟩ := ae hI o_a14 (by decide) (by decide) i45
      replace o_a44 : ob _ a44 2 := o_a44
      refine ⟨i45, a44, ea44, ?_⟩
      refine ⟨o_a14, ?_⟩
      refine ⟨o_a44, ?_⟩
      have i46 : vp_in w24 - (1 : Int32) (hN _ a14) := (vin l_a14 (m := 16) (by decide) (q471 r_x1 c2 i1 c27))
      refine ⟨i46, ?_⟩
      have hI := iv_aR hI o_a14 (by decide) (by decide) o_a44
      have f0 : FRI _ _ _ (sR S17 a14 (w24 - (1 : Int32)).toNatClampNeg (some a44)) := fri_aR (S := S17) g0 f0 o_a14 (by decide)
      have fL19 : FRI _ _ _ (sR S17 a14 (w24 - (1 : Int32)).toNatClampNeg (some a44)) := fri_aR (S := S17) gL18 fL19 o_a14 (by decide)
      have ea14 : fR (sR S17 a14 (w24 - (1 : Int32)).toNatClampNeg (some a44)) v0 5 = some a14 := (sR_ne (S := S17) o_a14 o_v0 (by decide) 5).trans ea14
      intro x47 ex47
      exact ih26 _ _ _ _ ⟨hI, gL18, fL19, rfl, rfl, (q472 r_x1 c2 i1 c27 ex47)⟩ (mu_up (q473 r_x1 c2 i1 c27 ex47) (q474 r_x1 c2 i1 c27 ex47))
set_option maxHeartbeats 4000000 in
set_option maxRecDepth 20000 in
theorem m_X0_rainsIn {v0 : Nat} {v1 : Int32} {Q : Int32 → HS → Prop} {S : HS} (hI : IV S) (o_v0 : ob S v0 0)     (hq : ∀ (r : Int32) (T : HS), IV T → Gr S T → bl r → (S = T) → Q r T) : P_X0_rainsIn v0 v1 Q S := by
  have g0 := gr_rf S
  refine u_X0_rainsIn ?_
  refine u_X0_rainsIn_0 ?_
  refine ⟨fun c1 => ?_, fun c1 => ?_⟩
  · exact hq _ _ hI g0 (Or.inl rfl) rfl
  · refine ⟨fun c2 => ?_, fun c2 => ?_⟩
    · exact hq _ _ hI g0 (Or.inl rfl) rfl
    · refine ⟨o_v0, ?_⟩
      intro x3 ex3
      have d_x3 := ex3
      refine ⟨fun c4 => ?_, fun c4 => ?_⟩
      · exact hq _ _ hI g0 (Or.inl rfl) rfl
      · exact hq _ _ hI g0 (Or.inr rfl) rfl
set_option maxHeartbeats 4000000 in
set_option maxRecDepth 20000 in
theorem m_X0_returnTo {v0 : Nat} {v1 : Int32} {Q : Int32 → HS → Prop} {S : HS} (hI : IV S) (o_v0 : ob S v0 0)     (hq : ∀ (r : Int32) (T : HS), IV T → Gr S T → FRI [(0, 2), (2, 0), (2, 1)] [] S T → bl r → Q r T) : P_X0_returnTo v0 v1 Q S := by
  have g0 := gr_rf S
  have f0 := fri_rf [(0, 2), (2, 0), (2, 1)] [] S
  refine u_X0_returnTo ?_
  refine u_X0_returnTo_0 ?_
  refine ⟨fun c1 => ?_, fun c1 => ?_⟩
  · exact hq _ _ hI g0 f0 (Or.inl rfl)
  · refine ⟨o_v0, ?_⟩
    intro x2 ex2
    have r_x2 : (0 : Int32) ≤ x2 ∧ x2 ≤ (3 : Int32) := by rw [ex2]; exact nu 3 rfl hI o_v0
    have d_x2 := ex2
    refine ⟨fun c3 => ?_, fun c3 => ?_⟩
    · obtain ⟨a4, ea4, o_a4, -⟩ := sh 6 rfl hI o_v0
      refine ⟨a4, ea4, ?_⟩
      obtain ⟨a5, ea5, o_a5, l_a5⟩ := shl 8 rfl hI o_v0
      refine ⟨a5, ea5, ?_⟩
      refine ⟨o_a5, ?_⟩
      have i7 : vp_in v1 (hN _ a5) := (vin l_a5 (m := 3) (by decide) (q773 c1 r_x2 c3))
      obtain ⟨a6, ea6, o_a6⟩ := ae hI o_a5 (by decide) (by decide) i7
      replace o_a6 : ob _ a6 2 := o_a6
      refine ⟨i7, a6, ea6, ?_⟩
      refine ⟨o_a4, ?_⟩
      refine m_X2_copy hI o_a4 o_a6 (fun S9 hI g10 fc11 => ?_)
      have l_a5 := (gr_len g10 o_a5).trans l_a5
      have d_x2 := d_x2.trans (fri_at fc11 (by decide) (by decide) o_v0).symm
      have ea4 := (frr_at fc11 (by decide) (by decide) o_v0).trans ea4
      have ea5 := (frr_at fc11 (by decide) (by decide) o_v0).trans ea5
      have f0 := fri_tr (S := S) g0 f0 fc11 (by decide) (by decide)
      have o_a4 := gr_ob g10 o_a4
      have o_a5 := gr_ob g10 o_a5
      have o_a6 := gr_ob g10 o_a6
      have o_v0 := gr_ob g10 o_v0
      have g0 := gr_tr (T := S) g0 g10
      intro _
      have hI := iv_sI (j := 2) (v := (0 : Int32)) hI o_v0 (by decide) (nu_one (lo := (0 : Int32)) (hi := (16 : Int32)) (by decide) (q774 c1 r_x2 c3))
      have f0 : FRI _ _ _ (sI S9 v0 2 (0 : Int32)) := fri_sI (S := S9) g0 f0 o_v0 (by decide)
      have d_x2 : x2 = fI (sI S9 v0 2 (0 : Int32)) v0 3 := d_x2.trans (rd_j (by decide)).symm
      obtain ⟨y12, hy12⟩ : ∃ z : Int32, z = (0 : Int32) := ⟨_, rfl⟩
      have d_y12 : y12 = fI (sI S9 v0 2 (0 : Int32)) v0 2 := hy12.trans (u2_self _ _ _ _).symm
      exact hq _ _ hI g0 f0 (Or.inr rfl)
    · exact hq _ _ hI g0 f0 (Or.inl rfl)
set_option maxHeartbeats 4000000 in
set_option maxRecDepth 20000 in
theorem m_X0_setMark {v0 : Nat} {Q : Int32 → HS → Prop} {S : HS} (hI : IV S) (o_v0 : ob S v0 0)     (hq : ∀ (r : Int32) (T : HS), IV T → Gr S T → FRI [(0, 3), (2, 0), (2, 1)] [] S T → Q r T) : P_X0_setMark v0 Q S := by
  have g0 := gr_rf S
  have f0 := fri_rf [(0, 3), (2, 0), (2, 1)] [] S
  refine u_X0_setMark ?_
  refine u_X0_setMark_0 ?_
  refine ⟨o_v0, ?_⟩
  intro x1 ex1
  have r_x1 : (0 : Int32) ≤ x1 ∧ x1 ≤ (3 : Int32) := by rw [ex1]; exact nu 3 rfl hI o_v0
  have d_x1 := ex1
  refine ⟨fun c2 => ?_, fun c2 => ?_⟩
  · obtain ⟨a3, ea3, o_a3, l_a3⟩ := shl 8 rfl hI o_v0
    refine ⟨a3, ea3, ?_⟩
    intro x4 ex4
    have r_x4 : (0 : Int32) ≤ x4 ∧ x4 ≤ (3 : Int32) := by rw [ex4]; exact nu 3 rfl hI o_v0
    have q_x4 : x4 = x1 := ex4.trans d_x1.symm
    have d_x4 := ex4
    refine ⟨o_a3, ?_⟩
    have i6 : vp_in x4 (hN _ a3) := (vin l_a3 (m := 3) (by decide) (q664 r_x1 c2 r_x4 q_x4))
    obtain ⟨a5, ea5, o_a5⟩ := ae hI o_a3 (by decide) (by decide) i6
    replace o_a5 : ob _ a5 2 := o_a5
    refine ⟨i6, a5, ea5, ?_⟩
    obtain ⟨a7, ea7, o_a7, -⟩ := sh 6 rfl hI o_v0
    refine ⟨a7, ea7, ?_⟩
    refine ⟨o_a5, ?_⟩
    refine m_X2_copy hI o_a5 o_a7 (fun S9 hI g10 fc11 => ?_)
    have l_a3 := (gr_len g10 o_a3).trans l_a3
    have d_x4 := d_x4.trans (fri_at fc11 (by decide) (by decide) o_v0).symm
    have ea3 := (frr_at fc11 (by decide) (by decide) o_v0).trans ea3
    have ea7 := (frr_at fc11 (by decide) (by decide) o_v0).trans ea7
    have f0 := fri_tr (S := S) g0 f0 fc11 (by decide) (by decide)
    have o_a3 := gr_ob g10 o_a3
    have o_a5 := gr_ob g10 o_a5
    have o_a7 := gr_ob g10 o_a7
    have o_v0 := gr_ob g10 o_v0
    have g0 := gr_tr (T := S) g0 g10
    intro _
    intro x12 ex12
    have r_x12 : (0 : Int32) ≤ x12 ∧ x12 ≤ (3 : Int32) := by rw [ex12]; exact nu 3 rfl hI o_v0
    have q_x12 : x12 = x4 := ex12.trans d_x4.symm
    have d_x12 := ex12
    intro x13 ex13
    have hI := iv_sI (j := 3) (v := x13) hI o_v0 (by decide) (nu_one (lo := (0 : Int32)) (hi := (3 : Int32)) (by decide) (q665 r_x1 c2 r_x4 q_x4 r_x12 q_x12 ex13))
    have f0 : FRI _ _ _ (sI S9 v0 3 x13) := fri_sI (S := S9) g0 f0 o_v0 (by decide)
    have d_x13 : x13 = fI (sI S9 v0 3 x13) v0 3 := (u2_self _ _ _ _).symm
    intro x14 ex14
    have r_x14 : (0 : Int32) ≤ x14 ∧ x14 ≤ (3 : Int32) := by rw [ex14]; exact nu 3 rfl hI o_v0
    have q_x14 : x14 = x13 := ex14.trans d_x13.symm
    have d_x14 := ex14
    exact hq _ _ hI g0 f0
  · exact hq _ _ hI g0 f0
set_option maxHeartbeats 4000000 in
set_option maxRecDepth 20000 in
theorem m_X0_takeBack {v0 : Nat} {Q : Int32 → HS → Prop} {S : HS} (hI : IV S) (o_v0 : ob S v0 0)     (hq : ∀ (r : Int32) (T : HS), IV T → Gr S T → FRI [(0, 2), (2, 0), (2, 1)] [] S T → bl r → Q r T) : P_X0_takeBack v0 Q S := by
  have g0 := gr_rf S
  have f0 := fri_rf [(0, 2), (2, 0), (2, 1)] [] S
  refine u_X0_takeBack ?_
  refine u_X0_takeBack_0 ?_
  refine ⟨o_v0, ?_⟩
  intro x1 ex1
  have r_x1 : (0 : Int32) ≤ x1 ∧ x1 ≤ (16 : Int32) := by rw [ex1]; exact nu 2 rfl hI o_v0
  have d_x1 := ex1
  refine ⟨fun c2 => ?_, fun c2 => ?_⟩
  · intro x3 ex3
    have r_x3 : (0 : Int32) ≤ x3 ∧ x3 ≤ (16 : Int32) := by rw [ex3]; exact nu 2 rfl hI o_v0
    have q_x3 : x3 = x1 := ex3.trans d_x1.symm
    have d_x3 := ex3
    intro x4 ex4
    have hI := iv_sI (j := 2) (v := x4) hI o_v0 (by decide) (nu_one (lo := (0 : Int32)) (hi := (16 : Int32)) (by decide) (q400 r_x1 c2 r_x3 q_x3 ex4))
    have f0 : FRI _ _ _ (sI S v0 2 x4) := fri_sI (S := S) g0 f0 o_v0 (by decide)
    have d_x4 : x4 = fI (sI S v0 2 x4) v0 2 := (u2_self _ _ _ _).symm
    obtain ⟨a5, ea5, o_a5, -⟩ := sh 6 rfl hI o_v0
    refine ⟨a5, ea5, ?_⟩
    obtain ⟨a6, ea6, o_a6, l_a6⟩ := shl 7 rfl hI o_v0
    refine ⟨a6, ea6, ?_⟩
    intro x7 ex7
    have r_x7 : (0 : Int32) ≤ x7 ∧ x7 ≤ (16 : Int32) := by rw [ex7]; exact nu 2 rfl hI o_v0
    have q_x7 : x7 = x4 := ex7.trans d_x4.symm
    have d_x7 := ex7
    refine ⟨o_a6, ?_⟩
    have i9 : vp_in x7 (hN _ a6) := (vin l_a6 (m := 16) (by decide) (q401 r_x1 c2 r_x3 q_x3 ex4 r_x7 q_x7))
    obtain ⟨a8, ea8, o_a8⟩ := ae hI o_a6 (by decide) (by decide) i9
    replace o_a8 : ob _ a8 2 := o_a8
    refine ⟨i9, a8, ea8, ?_⟩
    refine ⟨o_a5, ?_⟩
    refine m_X2_copy hI o_a5 o_a8 (fun S11 hI g12 fc13 => ?_)
    have l_a6 := (gr_len g12 o_a6).trans l_a6
    have d_x7 := d_x7.trans (fri_at fc13 (by decide) (by decide) o_v0).symm
    have ea5 := (frr_at fc13 (by decide) (by decide) o_v0).trans ea5
    have ea6 := (frr_at fc13 (by decide) (by decide) o_v0).trans ea6
    have f0 := fri_tr (S := sI S v0 2 x4) g0 f0 fc13 (by decide) (by decide)
    have o_a5 := gr_ob g12 o_a5
    have o_a6 := gr_ob g12 o_a6
    have o_a8 := gr_ob g12 o_a8
    have o_v0 := gr_ob g12 o_v0
    have g0 := gr_tr (T := sI S v0 2 x4) g0 g12
    intro _
    exact hq _ _ hI g0 f0 (Or.inr rfl)
  · exact hq _ _ hI g0 f0 (Or.inl rfl)
set_option maxHeartbeats 4000000 in
set_option maxRecDepth 20000 in
theorem m_X5_turnOf {v0 : Nat} {v1 : Int32} {v2 : Nat} {Q : Int32 → HS → Prop} {S : HS} (hI : IV S) (o_v0 : ob S v0 5) (o_v2 : ob S v2 3)     (hq : ∀ (r : Int32) (T : HS), IV T → Gr S T → (S = T) → Q r T) : P_X5_turnOf v0 v1 v2 Q S := by
  have g0 := gr_rf S
  refine u_X5_turnOf ?_
  refine u_X5_turnOf_0 ?_
  refine ⟨fun c1 => ?_, fun c1 => ?_⟩
  · refine ⟨o_v0, ?_⟩
    intro x2 ex2
    have d_x2 := ex2
    refine u_X5_turnOf_17 ?_
    intro x3 ex3
    refine ⟨o_v2, ?_⟩
    intro x4 ex4
    have d_x4 := ex4
    exact hq _ _ hI g0 rfl
  · refine ⟨o_v0, ?_⟩
    intro x5 ex5
    have d_x5 := ex5
    refine u_X5_turnOf_17 ?_
    refine ⟨o_v2, ?_⟩
    intro x6 ex6
    have d_x6 := ex6
    exact hq _ _ hI g0 rfl
set_option maxHeartbeats 4000000 in
set_option maxRecDepth 20000 in
theorem m_X5_airAlong {v0 : Nat} {v1 : Int32} {v2 : Nat} {Q : Int32 → HS → Prop} {S : HS} (hI : IV S) (o_v0 : ob S v0 5) (o_v2 : ob S v2 3)     (hq : ∀ (r : Int32) (T : HS), IV T → Gr S T → (S = T) → Q r T) : P_X5_airAlong v0 v1 v2 Q S := by
  have g0 := gr_rf S
  refine u_X5_airAlong ?_
  refine u_X5_airAlong_0 ?_
  refine ⟨o_v0, ?_⟩
  refine m_X5_turnOf hI o_v0 o_v2 (fun x1 S2 hI2 g3 p_x1 => ?_)
  subst p_x1
  intro _
  refine ⟨fun c5 => ?_, fun c5 => ?_⟩
  · refine ⟨fun c6 => ?_, fun c6 => ?_⟩
    · exact hq _ _ hI g0 rfl
    · refine ⟨o_v2, ?_⟩
      intro x7 ex7
      have d_x7 := ex7
      exact hq _ _ hI g0 rfl
  · refine ⟨o_v2, ?_⟩
    intro x8 ex8
    have d_x8 := ex8
    exact hq _ _ hI g0 rfl
set_option maxHeartbeats 4000000 in
set_option maxRecDepth 20000 in
theorem m_X1_lay {v0 : Nat} {v1 : Nat} {v2 : Int32} {v3 : Nat} {v4 : Int32} {Q : HS → Prop} {S : HS} (hI : IV S) (o_v0 : ob S v0 1) (o_v1 : ob S v1 5) (o_v3 : ob S v3 3)     (hq : ∀ (T : HS), IV T → Gr S T → FRI [] [] S T → Q T) : P_X1_lay v0 v1 v2 v3 v4 Q S := by
  have g0 := gr_rf S
  have f0 := fri_rf [] [] S
  refine u_X1_lay ?_
  refine u_X1_lay_0 ?_
  refine ⟨fun c1 => ?_, fun c1 => ?_⟩
  · refine u_X1_lay_27 ?_
    refine ⟨o_v3, ?_⟩
    intro x2 ex2
    have d_x2 := ex2
    intro x3 ex3
    refine ⟨o_v1, ?_⟩
    refine m_X5_turnOf hI o_v1 o_v3 (fun x4 S5 hI2 g6 p_x4 => ?_)
    subst p_x4
    intro _
    refine m_X5_airAlong hI o_v1 o_v3 (fun x8 S9 hI2 g10 p_x8 => ?_)
    subst p_x8
    intro _
    refine ⟨o_v0, ?_⟩
    obtain ⟨a12, ea12, o_a12, l_a12⟩ := shl 10 rfl hI o_v0
    refine ⟨a12, ea12, ?_⟩
    intro x13 ex13
    have d_x13 := ex13
    refine ⟨o_a12, ?_⟩
    intro x14 ex14
    have i15 : vp_in (0 : Int32) (hN _ a12) := (vin l_a12 (m := 5) (by decide) (q55 c1))
    refine ⟨i15, ?_⟩
    have hI := iv_aJ (i := (0 : Int32).toNatClampNeg) (v := x14) hI o_v0 (by decide) ea12 o_a12 (by decide)
    refine ⟨a12, ea12, ?_⟩
    intro x17 ex17
    refine ⟨o_a12, ?_⟩
    intro x18 ex18
    have i19 : vp_in (1 : Int32) (hN _ a12) := (vin l_a12 (m := 5) (by decide) (q56 c1 ex17))
    refine ⟨i19, ?_⟩
    have hI := iv_aJ (i := (1 : Int32).toNatClampNeg) (v := x18) hI o_v0 (by decide) ea12 o_a12 (by decide)
    refine ⟨a12, ea12, ?_⟩
    intro x21 ex21
    refine ⟨o_a12, ?_⟩
    intro x22 ex22
    have i23 : vp_in (2 : Int32) (hN _ a12) := (vin l_a12 (m := 5) (by decide) (q57 c1 ex17 ex21))
    refine ⟨i23, ?_⟩
    have hI := iv_aJ (i := (2 : Int32).toNatClampNeg) (v := x22) hI o_v0 (by decide) ea12 o_a12 (by decide)
    refine ⟨a12, ea12, ?_⟩
    refine ⟨fun c25 => ?_, fun c25 => ?_⟩
    · refine u_X1_lay_130 ?_
      refine ⟨o_a12, ?_⟩
      have i26 : vp_in (3 : Int32) (hN _ a12) := (vin l_a12 (m := 5) (by decide) (q58 c1 ex17 ex21 c25))
      refine ⟨i26, ?_⟩
      have hI := iv_aJ (i := (3 : Int32).toNatClampNeg) (v := (0 : Int64)) hI o_v0 (by decide) ea12 o_a12 (by decide)
      refine ⟨o_v0, ?_⟩
      refine ⟨a12, ea12, ?_⟩
      refine ⟨fun c28 => ?_, fun c28 => ?_⟩
      · refine ⟨o_a12, ?_⟩
        have i29 : vp_in (4 : Int32) (hN _ a12) := (vin l_a12 (m := 5) (by decide) (q59 c1 ex17 ex21 c25 c28))
        refine ⟨i29, ?_⟩
        have hI := iv_aJ (i := (4 : Int32).toNatClampNeg) (v := (0 : Int64)) hI o_v0 (by decide) ea12 o_a12 (by decide)
        exact hq _ hI g0 f0
      · refine ⟨o_v3, ?_⟩
        intro x30 ex30
        have d_x30 := ex30
        refine ⟨o_a12, ?_⟩
        intro x31 ex31
        have i32 : vp_in (4 : Int32) (hN _ a12) := (vin l_a12 (m := 5) (by decide) (q60 c1 ex17 ex21 c25 c28))
        refine ⟨i32, ?_⟩
        have hI := iv_aJ (i := (4 : Int32).toNatClampNeg) (v := x31) hI o_v0 (by decide) ea12 o_a12 (by decide)
        exact hq _ hI g0 f0
    · intro x33 ex33
      have d_x33 := ex33
      refine u_X1_lay_130 ?_
      refine ⟨o_a12, ?_⟩
      intro x34 ex34
      have i35 : vp_in (3 : Int32) (hN _ a12) := (vin l_a12 (m := 5) (by decide) (q61 c1 ex17 ex21 c25))
      refine ⟨i35, ?_⟩
      have hI := iv_aJ (i := (3 : Int32).toNatClampNeg) (v := x34) hI o_v0 (by decide) ea12 o_a12 (by decide)
      refine ⟨o_v0, ?_⟩
      refine ⟨a12, ea12, ?_⟩
      refine ⟨fun c37 => ?_, fun c37 => ?_⟩
      · refine ⟨o_a12, ?_⟩
        have i38 : vp_in (4 : Int32) (hN _ a12) := (vin l_a12 (m := 5) (by decide) (q62 c1 ex17 ex21 c25 c37))
        refine ⟨i38, ?_⟩
        have hI := iv_aJ (i := (4 : Int32).toNatClampNeg) (v := (0 : Int64)) hI o_v0 (by decide) ea12 o_a12 (by decide)
        exact hq _ hI g0 f0
      · refine ⟨o_v3, ?_⟩
        intro x39 ex39
        have q_x39 : x39 = x33 := ex39.trans d_x33.symm
        have d_x39 := ex39
        refine ⟨o_a12, ?_⟩
        intro x40 ex40
        have i41 : vp_in (4 : Int32) (hN _ a12) := (vin l_a12 (m := 5) (by decide) (q63 c1 ex17 ex21 c25 c37))
        refine ⟨i41, ?_⟩
        have hI := iv_aJ (i := (4 : Int32).toNatClampNeg) (v := x40) hI o_v0 (by decide) ea12 o_a12 (by decide)
        exact hq _ hI g0 f0
  · refine ⟨o_v1, ?_⟩
    intro x42 ex42
    have d_x42 := ex42
    intro x43 ex43
    have d_x43 := ex43
    refine ⟨(q64 c1), ?_⟩
    intro x44 ex44
    refine u_X1_lay_27 ?_
    intro x45 ex45
    refine ⟨o_v3, ?_⟩
    intro x46 ex46
    have d_x46 := ex46
    intro x47 ex47
    refine ⟨o_v1, ?_⟩
    refine m_X5_turnOf hI o_v1 o_v3 (fun x48 S49 hI2 g50 p_x48 => ?_)
    subst p_x48
    intro _
    refine m_X5_airAlong hI o_v1 o_v3 (fun x52 S53 hI2 g54 p_x52 => ?_)
    subst p_x52
    intro _
    refine ⟨o_v0, ?_⟩
    obtain ⟨a56, ea56, o_a56, l_a56⟩ := shl 10 rfl hI o_v0
    refine ⟨a56, ea56, ?_⟩
    intro x57 ex57
    have d_x57 := ex57
    refine ⟨o_a56, ?_⟩
    intro x58 ex58
    have i59 : vp_in (0 : Int32) (hN _ a56) := (vin l_a56 (m := 5) (by decide) (q65 c1 ex44))
    refine ⟨i59, ?_⟩
    have hI := iv_aJ (i := (0 : Int32).toNatClampNeg) (v := x58) hI o_v0 (by decide) ea56 o_a56 (by decide)
    refine ⟨a56, ea56, ?_⟩
    intro x61 ex61
    refine ⟨o_a56, ?_⟩
    intro x62 ex62
    have i63 : vp_in (1 : Int32) (hN _ a56) := (vin l_a56 (m := 5) (by decide) (q66 c1 ex44 ex61))
    refine ⟨i63, ?_⟩
    have hI := iv_aJ (i := (1 : Int32).toNatClampNeg) (v := x62) hI o_v0 (by decide) ea56 o_a56 (by decide)
    refine ⟨a56, ea56, ?_⟩
    intro x65 ex65
    refine ⟨o_a56, ?_⟩
    intro x66 ex66
    have i67 : vp_in (2 : Int32) (hN _ a56) := (vin l_a56 (m := 5) (by decide) (q67 c1 ex44 ex61 ex65))
    refine ⟨i67, ?_⟩
    have hI := iv_aJ (i := (2 : Int32).toNatClampNeg) (v := x66) hI o_v0 (by decide) ea56 o_a56 (by decide)
    refine ⟨a56, ea56, ?_⟩
    refine ⟨fun c69 => ?_, fun c69 => ?_⟩
    · refine u_X1_lay_130 ?_
      refine ⟨o_a56, ?_⟩
      have i70 : vp_in (3 : Int32) (hN _ a56) := (vin l_a56 (m := 5) (by decide) (q68 c1 ex44 ex61 ex65 c69))
      refine ⟨i70, ?_⟩
      have hI := iv_aJ (i := (3 : Int32).toNatClampNeg) (v := (0 : Int64)) hI o_v0 (by decide) ea56 o_a56 (by decide)
      refine ⟨o_v0, ?_⟩
      refine ⟨a56, ea56, ?_⟩
      refine ⟨fun c72 => ?_, fun c72 => ?_⟩
      · refine ⟨o_a56, ?_⟩
        have i73 : vp_in (4 : Int32) (hN _ a56) := (vin l_a56 (m := 5) (by decide) (q69 c1 ex44 ex61 ex65 c69 c72))
        refine ⟨i73, ?_⟩
        have hI := iv_aJ (i := (4 : Int32).toNatClampNeg) (v := (0 : Int64)) hI o_v0 (by decide) ea56 o_a56 (by decide)
        exact hq _ hI g0 f0
      · refine ⟨o_v3, ?_⟩
        intro x74 ex74
        have d_x74 := ex74
        refine ⟨o_a56, ?_⟩
        intro x75 ex75
        have i76 : vp_in (4 : Int32) (hN _ a56) := (vin l_a56 (m := 5) (by decide) (q70 c1 ex44 ex61 ex65 c69 c72))
        refine ⟨i76, ?_⟩
        have hI := iv_aJ (i := (4 : Int32).toNatClampNeg) (v := x75) hI o_v0 (by decide) ea56 o_a56 (by decide)
        exact hq _ hI g0 f0
    · intro x77 ex77
      have d_x77 := ex77
      refine u_X1_lay_130 ?_
      refine ⟨o_a56, ?_⟩
      intro x78 ex78
      have i79 : vp_in (3 : Int32) (hN _ a56) := (vin l_a56 (m := 5) (by decide) (q71 c1 ex44 ex61 ex65 c69))
      refine ⟨i79, ?_⟩
      have hI := iv_aJ (i := (3 : Int32).toNatClampNeg) (v := x78) hI o_v0 (by decide) ea56 o_a56 (by decide)
      refine ⟨o_v0, ?_⟩
      refine ⟨a56, ea56, ?_⟩
      refine ⟨fun c81 => ?_, fun c81 => ?_⟩
      · refine ⟨o_a56, ?_⟩
        have i82 : vp_in (4 : Int32) (hN _ a56) := (vin l_a56 (m := 5) (by decide) (q72 c1 ex44 ex61 ex65 c69 c81))
        refine ⟨i82, ?_⟩
        have hI := iv_aJ (i := (4 : Int32).toNatClampNeg) (v := (0 : Int64)) hI o_v0 (by decide) ea56 o_a56 (by decide)
        exact hq _ hI g0 f0
      · refine ⟨o_v3, ?_⟩
        intro x83 ex83
        have q_x83 : x83 = x77 := ex83.trans d_x77.symm
        have d_x83 := ex83
        refine ⟨o_a56, ?_⟩
        intro x84 ex84
        have i85 : vp_in (4 : Int32) (hN _ a56) := (vin l_a56 (m := 5) (by decide) (q73 c1 ex44 ex61 ex65 c69 c81))
        refine ⟨i85, ?_⟩
        have hI := iv_aJ (i := (4 : Int32).toNatClampNeg) (v := x84) hI o_v0 (by decide) ea56 o_a56 (by decide)
        exact hq _ hI g0 f0
