set_option maxHeartbeats 4000000 in
set_option maxRecDepth 20000 in
theorem m_X0_end {v0 : Nat} {Q : HS → Prop} {S : HS} (hI : IV S) (o_v0 : ob S v0 0)     (hq : ∀ (T : HS), IV T → Gr S T → Q T) : P_X0_end v0 Q S := by
  have g0 := gr_rf S
  refine u_X0_end ?_
  refine u_X0_end_0 ?_
  refine ⟨o_v0, ?_⟩
  have hI := iv_sI (j := 0) (v := (-1 : Int32)) hI o_v0 (by decide) (nu_one (lo := (-1 : Int32)) (hi := (3 : Int32)) (by decide) (q40))
  have hI := iv_sI (j := 2) (v := (0 : Int32)) hI o_v0 (by decide) (nu_one (lo := (0 : Int32)) (hi := (16 : Int32)) (by decide) (q41))
  have hI := iv_sI (j := 3) (v := (0 : Int32)) hI o_v0 (by decide) (nu_one (lo := (0 : Int32)) (hi := (3 : Int32)) (by decide) (q42))
  exact hq _ hI g0
set_option maxHeartbeats 4000000 in
set_option maxRecDepth 20000 in
theorem m_X0_begin {v0 : Nat} {v1 : Int32} {v2 : Int32} {v3 : Int32} {Q : HS → Prop} {S : HS} (hI : IV S) (o_v0 : ob S v0 0)     (hq : ∀ (T : HS), IV T → Gr S T → Q T) : P_X0_begin v0 v1 v2 v3 Q S := by
  have g0 := gr_rf S
  refine u_X0_begin ?_
  refine u_X0_begin_0 ?_
  refine ⟨o_v0, ?_⟩
  refine u_X0_end ?_
  refine u_X0_end_0 ?_
  refine ⟨o_v0, ?_⟩
  have hI := iv_sI (j := 0) (v := (-1 : Int32)) hI o_v0 (by decide) (nu_one (lo := (-1 : Int32)) (hi := (3 : Int32)) (by decide) (q40))
  have hI := iv_sI (j := 2) (v := (0 : Int32)) hI o_v0 (by decide) (nu_one (lo := (0 : Int32)) (hi := (16 : Int32)) (by decide) (q41))
  have hI := iv_sI (j := 3) (v := (0 : Int32)) hI o_v0 (by decide) (nu_one (lo := (0 : Int32)) (hi := (3 : Int32)) (by decide) (q42))
  intro _
  have hI := iv_sI (j := 0) (v := v1) hI o_v0 (by decide) (nu_one (lo := (-1 : Int32)) (hi := (3 : Int32)) (by decide) (q432))
  obtain ⟨a1, ea1, o_a1, -⟩ := sh 6 rfl hI o_v0
  refine ⟨a1, ea1, ?_⟩
  refine ⟨o_a1, ?_⟩
  have hI := iv_sI (j := 0) (v := v2) hI o_a1 (by decide) (nu_free (by decide))
  obtain ⟨a2, ea2, o_a2, -⟩ := sh 6 rfl hI o_v0
  refine ⟨a2, ea2, ?_⟩
  refine ⟨o_a2, ?_⟩
  have hI := iv_sI (j := 1) (v := v3) hI o_a2 (by decide) (nu_free (by decide))
  refine i_X0_begin_28 (fun (y0 : Nat) (y4 : Int32) (Z : HS) => ((2147483647 : Int32).toInt - y4.toInt).toNat) (fun (y0 : Nat) (y4 : Int32) (Z : HS) => (IV Z) ∧ (Gr (sI (sI (sI (sI (sI (sI S v0 0 (-1 : Int32)) v0 2 (0 : Int32)) v0 3 (0 : Int32)) v0 0 v1) a1 0 v2) a2 1 v3) Z) ∧ (v0 = y0) ∧ (0 ≤ y4)) ?_ _ _ _ ⟨hI, (gr_rf _), rfl, (q43)⟩
  intro w5 w7 S3 X8 ⟨hI, gL4, q6, i1⟩ ih9
  subst q6
  have o_a1 := gr_ob gL4 o_a1
  have o_a2 := gr_ob gL4 o_a2
  have o_v0 := gr_ob gL4 o_v0
  have g0 := gr_tr g0 gL4
  refine u_X0_begin_28 ?_
  refine ⟨fun c10 => ?_, fun c10 => ?_⟩
  · exact hq _ hI g0
  · refine ⟨o_v0, ?_⟩
    obtain ⟨a11, ea11, o_a11, -⟩ := sh 6 rfl hI o_v0
    refine ⟨a11, ea11, ?_⟩
    refine ⟨o_a11, ?_⟩
    obtain ⟨a12, ea12, o_a12, l_a12⟩ := shl 11 rfl hI o_a11
    refine ⟨a12, ea12, ?_⟩
    refine ⟨o_a12, ?_⟩
    have i13 : vp_in w7 (hN _ a12) := (vin l_a12 (m := 5) (by decide) (q137 i1 c10))
    refine ⟨i13, ?_⟩
    have hI := iv_aJ (i := w7.toNatClampNeg) (v := (0 : Int64)) hI o_a11 (by decide) ea12 o_a12 (by decide)
    intro x14 ex14
    exact ih9 _ _ _ ⟨hI, gL4, rfl, (q138 i1 c10 ex14)⟩ (mu_up (q139 i1 c10 ex14) (q140 i1 c10 ex14))
set_option maxHeartbeats 4000000 in
set_option maxRecDepth 20000 in
theorem m_X0_draw {v0 : Nat} {v1 : Nat} {v2 : Int32} {Q : HS → Prop} {S : HS} (hI : IV S) (o_v0 : ob S v0 0) (o_v1 : ob S v1 8)     (hq : ∀ (T : HS), IV T → Gr S T → Q T) : P_X0_draw v0 v1 v2 Q S := by
  have g0 := gr_rf S
  refine u_X0_draw ?_
  refine u_X0_draw_0 ?_
  refine ⟨o_v0, ?_⟩
  have hI := iv_sI (j := 1) (v := (0 : Int32)) hI o_v0 (by decide) (nu_free (by decide))
  refine i_X0_draw_10 (fun (y0 : Nat) (y1 : Nat) (y3 : Int32) (y4 : Int32) (Z : HS) => ((2147483647 : Int32).toInt - y4.toInt).toNat) (fun (y0 : Nat) (y1 : Nat) (y3 : Int32) (y4 : Int32) (Z : HS) => (IV Z) ∧ (Gr (sI S v0 1 (0 : Int32)) Z) ∧ (v0 = y0) ∧ (v1 = y1) ∧ (0 ≤ y4)) ?_ _ _ _ _ _ ⟨hI, (gr_rf _), rfl, rfl, (q43)⟩
  intro w3 w5 w7 w8 S1 X9 ⟨hI, gL2, q4, q6, i1⟩ ih10
  subst q4
  subst q6
  have o_v0 := gr_ob gL2 o_v0
  have o_v1 := gr_ob gL2 o_v1
  have g0 := gr_tr g0 gL2
  refine u_X0_draw_10 ?_
  refine ⟨o_v1, ?_⟩
  intro x11 ex11
  have r_x11 : (0 : Int32) ≤ x11 ∧ x11 ≤ (6 : Int32) := by rw [ex11]; exact nu 11 rfl hI o_v1
  refine ⟨fun c12 => ?_, fun c12 => ?_⟩
  · exact hq _ hI g0
  · intro x13 ex13
    intro x14 ex14
    obtain ⟨a15, ea15, o_a15, l_a15⟩ := shl 15 rfl hI o_v1
    refine ⟨a15, ea15, ?_⟩
    refine ⟨o_a15, ?_⟩
    have i17 : vp_in w8 (hN _ a15) := (vin l_a15 (m := 6) (by decide) (q425 i1 r_x11 c12))
    obtain ⟨a16, ea16, o_a16⟩ := ae hI o_a15 (by decide) (by decide) i17
    replace o_a16 : ob _ a16 3 := o_a16
    refine ⟨i17, a16, ea16, ?_⟩
    refine ⟨o_a16, ?_⟩
    intro x18 ex18
    refine ⟨fun c19 => ?_, fun c19 => ?_⟩
    · refine u_X0_draw_60 ?_
      intro x20 ex20
      exact ih10 _ _ _ _ _ ⟨hI, gL2, rfl, rfl, (q426 i1 r_x11 c12 ex20)⟩ (mu_up (q427 i1 r_x11 c12 ex20) (q428 i1 r_x11 c12 ex20))
    · refine ⟨o_v0, ?_⟩
      intro x21 ex21
      intro x22 ex22
      have hI := iv_sI (j := 1) (v := x22) hI o_v0 (by decide) (nu_free (by decide))
      refine u_X0_draw_60 ?_
      intro x23 ex23
      exact ih10 _ _ _ _ _ ⟨hI, gL2, rfl, rfl, (q429 i1 r_x11 c12 ex22 ex23)⟩ (mu_up (q430 i1 r_x11 c12 ex22 ex23) (q431 i1 r_x11 c12 ex22 ex23))
set_option maxHeartbeats 4000000 in
set_option maxRecDepth 20000 in
theorem m_X0_isOn {v0 : Nat} {Q : Int32 → HS → Prop} {S : HS} (hI : IV S) (o_v0 : ob S v0 0)     (hq : ∀ (r : Int32) (T : HS), IV T → Gr S T → bl r → (S = T) → Q r T) : P_X0_isOn v0 Q S := by
  have g0 := gr_rf S
  refine u_X0_isOn ?_
  refine u_X0_isOn_0 ?_
  refine ⟨o_v0, ?_⟩
  intro x1 ex1
  have r_x1 : (-1 : Int32) ≤ x1 ∧ x1 ≤ (3 : Int32) := by rw [ex1]; exact nu 1 rfl hI o_v0
  refine ⟨fun c2 => ?_, fun c2 => ?_⟩
  · exact hq _ _ hI g0 (Or.inl rfl) rfl
  · exact hq _ _ hI g0 (Or.inr rfl) rfl
set_option maxHeartbeats 4000000 in
set_option maxRecDepth 20000 in
theorem m_X2_copy {v0 : Nat} {v1 : Nat} {Q : HS → Prop} {S : HS} (hI : IV S) (o_v0 : ob S v0 2) (o_v1 : ob S v1 2)     (hq : ∀ (T : HS), IV T → Gr S T → Q T) : P_X2_copy v0 v1 Q S := by
  have g0 := gr_rf S
  refine u_X2_copy ?_
  refine u_X2_copy_0 ?_
  refine ⟨o_v1, ?_⟩
  intro x1 ex1
  refine ⟨o_v0, ?_⟩
  have hI := iv_sI (j := 0) (v := x1) hI o_v0 (by decide) (nu_free (by decide))
  intro x2 ex2
  have hI := iv_sI (j := 1) (v := x2) hI o_v0 (by decide) (nu_free (by decide))
  refine i_X2_copy_18 (fun (y0 : Nat) (y1 : Nat) (y2 : Int32) (Z : HS) => ((5 : Int32).toInt - y2.toInt).toNat) (fun (y0 : Nat) (y1 : Nat) (y2 : Int32) (Z : HS) => (IV Z) ∧ (Gr (sI (sI S v0 0 x1) v0 1 x2) Z) ∧ (v0 = y0) ∧ (v1 = y1) ∧ (0 ≤ y2 ∧ y2 ≤ 5)) ?_ _ _ _ _ ⟨hI, (gr_rf _), rfl, rfl, (q233)⟩
  intro w5 w7 w9 S3 X10 ⟨hI, gL4, q6, q8, i1⟩ ih11
  subst q6
  subst q8
  have o_v0 := gr_ob gL4 o_v0
  have o_v1 := gr_ob gL4 o_v1
  have g0 := gr_tr g0 gL4
  refine u_X2_copy_18 ?_
  refine ⟨fun c12 => ?_, fun c12 => ?_⟩
  · exact hq _ hI g0
  · refine ⟨o_v0, ?_⟩
    obtain ⟨a13, ea13, o_a13, l_a13⟩ := shl 11 rfl hI o_v0
    refine ⟨a13, ea13, ?_⟩
    refine ⟨o_v1, ?_⟩
    obtain ⟨a14, ea14, o_a14, l_a14⟩ := shl 11 rfl hI o_v1
    refine ⟨a14, ea14, ?_⟩
    refine ⟨o_a14, ?_⟩
    refine ⟨(vin l_a14 (m := 5) (by decide) (q234 i1 c12)), ?_⟩
    intro x15 ex15
    refine ⟨o_a13, ?_⟩
    have i16 : vp_in w9 (hN _ a13) := (vin l_a13 (m := 5) (by decide) (q234 i1 c12))
    refine ⟨i16, ?_⟩
    have hI := iv_aJ (i := w9.toNatClampNeg) (v := x15) hI o_v0 (by decide) ea13 o_a13 (by decide)
    intro x17 ex17
    exact ih11 _ _ _ _ ⟨hI, gL4, rfl, rfl, (q235 i1 c12 ex17)⟩ (mu_up (q236 i1 c12 ex17) (q237 i1 c12 ex17))
set_option maxHeartbeats 4000000 in
set_option maxRecDepth 20000 in
theorem m_X0_keepForUndo {v0 : Nat} {Q : HS → Prop} {S : HS} (hI : IV S) (o_v0 : ob S v0 0)     (hq : ∀ (T : HS), IV T → Gr S T → Q T) : P_X0_keepForUndo v0 Q S := by
  have g0 := gr_rf S
  refine u_X0_keepForUndo ?_
  refine u_X0_keepForUndo_0 ?_
  refine ⟨o_v0, ?_⟩
  intro x1 ex1
  have r_x1 : (0 : Int32) ≤ x1 ∧ x1 ≤ (16 : Int32) := by rw [ex1]; exact nu 2 rfl hI o_v0
  refine ⟨fun c2 => ?_, fun c2 => ?_⟩
  · refine u_X0_keepForUndo_58 ?_
    refine ⟨o_v0, ?_⟩
    obtain ⟨a3, ea3, o_a3, l_a3⟩ := shl 7 rfl hI o_v0
    refine ⟨a3, ea3, ?_⟩
    intro x4 ex4
    have r_x4 : (0 : Int32) ≤ x4 ∧ x4 ≤ (16 : Int32) := by rw [ex4]; exact nu 2 rfl hI o_v0
    refine ⟨o_a3, ?_⟩
    have i6 : vp_in x4 (hN _ a3) := (vin l_a3 (m := 16) (by decide) (q232 r_x4))
    obtain ⟨a5, ea5, o_a5⟩ := ae hI o_a3 (by decide) (by decide) i6
    replace o_a5 : ob _ a5 2 := o_a5
    refine ⟨i6, a5, ea5, ?_⟩
    obtain ⟨a7, ea7, o_a7, -⟩ := sh 6 rfl hI o_v0
    refine ⟨a7, ea7, ?_⟩
    refine ⟨o_a5, ?_⟩
    refine m_X2_copy hI o_a5 o_a7 (fun S9 hI g10 => ?_)
    have l_a3 := (gr_len g10 o_a3).trans l_a3
    have o_a3 := gr_ob g10 o_a3
    have o_a5 := gr_ob g10 o_a5
    have o_a7 := gr_ob g10 o_a7
    have o_v0 := gr_ob g10 o_v0
    have g0 := gr_tr g0 g10
    intro _
    intro x11 ex11
    have r_x11 : (0 : Int32) ≤ x11 ∧ x11 ≤ (16 : Int32) := by rw [ex11]; exact nu 2 rfl hI o_v0
    intro x12 ex12
    have hI := iv_sI (j := 2) (v := x12) hI o_v0 (by decide) (nu_one (lo := (0 : Int32)) (hi := (16 : Int32)) (by decide) (q265 r_x11 ex12))
    exact hq _ hI g0
  · obtain ⟨a13, ea13, o_a13, l_a13⟩ := shl 7 rfl hI o_v0
    refine ⟨a13, ea13, ?_⟩
    refine ⟨o_a13, ?_⟩
    have i15 : vp_in (0 : Int32) (hN _ a13) := (vin l_a13 (m := 16) (by decide) (q266))
    obtain ⟨a14, ea14, o_a14⟩ := ae hI o_a13 (by decide) (by decide) i15
    replace o_a14 : ob _ a14 2 := o_a14
    refine ⟨i15, a14, ea14, ?_⟩
    refine i_X0_keepForUndo_18 (fun (y0 : Nat) (y1 : Nat) (y2 : Int32) (Z : HS) => ((2147483647 : Int32).toInt - y2.toInt).toNat) (fun (y0 : Nat) (y1 : Nat) (y2 : Int32) (Z : HS) => (IV Z) ∧ (Gr S Z) ∧ (v0 = y0) ∧ (a14 = y1) ∧ (0 ≤ y2)) ?_ _ _ _ _ ⟨hI, (gr_rf _), rfl, rfl, (q267)⟩
    intro w18 w20 w22 S16 X23 ⟨hI, gL17, q19, q21, i1⟩ ih24
    subst q19
    subst q21
    have l_a13 := (gr_len gL17 o_a13).trans l_a13
    have o_a13 := gr_ob gL17 o_a13
    have o_a14 := gr_ob gL17 o_a14
    have o_v0 := gr_ob gL17 o_v0
    have g0 := gr_tr g0 gL17
    refine u_X0_keepForUndo_18 ?_
    refine ⟨fun c25 => ?_, fun c25 => ?_⟩
    · refine ⟨o_v0, ?_⟩
      obtain ⟨a26, ea26, o_a26, l_a26⟩ := shl 7 rfl hI o_v0
      refine ⟨a26, ea26, ?_⟩
      refine ⟨o_a26, ?_⟩
      refine ⟨o_a14, ?_⟩
      have i27 : vp_in (15 : Int32) (hN _ a26) := (vin l_a26 (m := 16) (by decide) (q268))
      refine ⟨i27, ?_⟩
      have hI := iv_aR hI o_a26 (by decide) (by decide) o_a14
      have hI := iv_sI (j := 2) (v := (15 : Int32)) hI o_v0 (by decide) (nu_one (lo := (0 : Int32)) (hi := (16 : Int32)) (by decide) (q269))
      refine u_X0_keepForUndo_58 ?_
      refine ⟨o_v0, ?_⟩
      obtain ⟨a28, ea28, o_a28, l_a28⟩ := shl 7 rfl hI o_v0
      refine ⟨a28, ea28, ?_⟩
      intro x29 ex29
      have r_x29 : (0 : Int32) ≤ x29 ∧ x29 ≤ (16 : Int32) := by rw [ex29]; exact nu 2 rfl hI o_v0
      refine ⟨o_a28, ?_⟩
      have i31 : vp_in x29 (hN _ a28) := (vin l_a28 (m := 16) (by decide) (q232 r_x29))
      obtain ⟨a30, ea30, o_a30⟩ := ae hI o_a28 (by decide) (by decide) i31
      replace o_a30 : ob _ a30 2 := o_a30
      refine ⟨i31, a30, ea30, ?_⟩
      obtain ⟨a32, ea32, o_a32, -⟩ := sh 6 rfl hI o_v0
      refine ⟨a32, ea32, ?_⟩
      refine ⟨o_a30, ?_⟩
      refine m_X2_copy hI o_a30 o_a32 (fun S34 hI g35 => ?_)
      have l_a13 := (gr_len g35 o_a13).trans l_a13
      have l_a26 := (gr_len g35 o_a26).trans l_a26
      have l_a28 := (gr_len g35 o_a28).trans l_a28
      have o_a13 := gr_ob g35 o_a13
      have o_a14 := gr_ob g35 o_a14
      have o_a26 := gr_ob g35 o_a26
      have o_a28 := gr_ob g35 o_a28
      have o_a30 := gr_ob g35 o_a30
      have o_a32 := gr_ob g35 o_a32
      have o_v0 := gr_ob g35 o_v0
      have g0 := gr_tr g0 g35
      have gL17 := gr_tr gL17 g35
      intro _
      intro x36 ex36
      have r_x36 : (0 : Int32) ≤ x36 ∧ x36 ≤ (16 : Int32) := by rw [ex36]; exact nu 2 rfl hI o_v0
      intro x37 ex37
      have hI := iv_sI (j := 2) (v := x37) hI o_v0 (by decide) (nu_one (lo := (0 : Int32)) (hi := (16 : Int32)) (by decide) (q265 r_x36 ex37))
      exact hq _ hI g0
    · refine ⟨o_v0, ?_⟩
      obtain ⟨a38, ea38, o_a38, l_a38⟩ := shl 7 rfl hI o_v0
      refine ⟨a38, ea38, ?_⟩
      obtain ⟨a39, ea39, o_a39, l_a39⟩ := shl 7 rfl hI o_v0
      refine ⟨a39, ea39, ?_⟩
      refine ⟨o_a39, ?_⟩
      have i41 : vp_in w22 (hN _ a39) := (vin l_a39 (m := 16) (by decide) (q270 i1 c25))
      obtain ⟨a40, ea40, o_a40⟩ := ae hI o_a39 (by decide) (by decide) i41
      replace o_a40 : ob _ a40 2 := o_a40
      refine ⟨i41, a40, ea40, ?_⟩
      refine ⟨o_a38, ?_⟩
      refine ⟨o_a40, ?_⟩
      have i42 : vp_in w22 - (1 : Int32) (hN _ a38) := (vin l_a38 (m := 16) (by decide) (q271 i1 c25))
      refine ⟨i42, ?_⟩
      have hI := iv_aR hI o_a38 (by decide) (by decide) o_a40
      intro x43 ex43
      exact ih24 _ _ _ _ ⟨hI, gL17, rfl, rfl, (q272 i1 c25 ex43)⟩ (mu_up (q273 i1 c25 ex43) (q274 i1 c25 ex43))
set_option maxHeartbeats 4000000 in
set_option maxRecDepth 20000 in
theorem m_X0_rainsIn {v0 : Nat} {v1 : Int32} {Q : Int32 → HS → Prop} {S : HS} (hI : IV S) (o_v0 : ob S v0 0)     (hq : ∀ (r : Int32) (T : HS), IV T → Gr S T → bl r → (S = T) → Q r T) : P_X0_rainsIn v0 v1 Q S := by
  have g0 := gr_rf S
  refine u_X0_rainsIn ?_
  refine u_X0_rainsIn_0 ?_
  refine ⟨fun c1 => ?_, fun c1 => ?_⟩
  · exact hq _ _ hI g0 (Or.inl rfl) rfl
  · refine ⟨fun c2 => ?_, fun c2 => ?_⟩
    · exact hq _ _ hI g0 (Or.inl rfl) rfl
    · refine ⟨o_v0, ?_⟩
      intro x3 ex3
      refine ⟨fun c4 => ?_, fun c4 => ?_⟩
      · exact hq _ _ hI g0 (Or.inl rfl) rfl
      · exact hq _ _ hI g0 (Or.inr rfl) rfl
set_option maxHeartbeats 4000000 in
set_option maxRecDepth 20000 in
theorem m_X0_returnTo {v0 : Nat} {v1 : Int32} {Q : Int32 → HS → Prop} {S : HS} (hI : IV S) (o_v0 : ob S v0 0)     (hq : ∀ (r : Int32) (T : HS), IV T → Gr S T → bl r → Q r T) : P_X0_returnTo v0 v1 Q S := by
  have g0 := gr_rf S
  refine u_X0_returnTo ?_
  refine u_X0_returnTo_0 ?_
  refine ⟨fun c1 => ?_, fun c1 => ?_⟩
  · exact hq _ _ hI g0 (Or.inl rfl)
  · refine ⟨o_v0, ?_⟩
    intro x2 ex2
    have r_x2 : (0 : Int32) ≤ x2 ∧ x2 ≤ (3 : Int32) := by rw [ex2]; exact nu 3 rfl hI o_v0
    refine ⟨fun c3 => ?_, fun c3 => ?_⟩
    · obtain ⟨a4, ea4, o_a4, -⟩ := sh 6 rfl hI o_v0
      refine ⟨a4, ea4, ?_⟩
      obtain ⟨a5, ea5, o_a5, l_a5⟩ := shl 8 rfl hI o_v0
      refine ⟨a5, ea5, ?_⟩
      refine ⟨o_a5, ?_⟩
      have i7 : vp_in v1 (hN _ a5) := (vin l_a5 (m := 3) (by decide) (q433 c1 r_x2 c3))
      obtain ⟨a6, ea6, o_a6⟩ := ae hI o_a5 (by decide) (by decide) i7
      replace o_a6 : ob _ a6 2 := o_a6
      refine ⟨i7, a6, ea6, ?_⟩
      refine ⟨o_a4, ?_⟩
      refine m_X2_copy hI o_a4 o_a6 (fun S9 hI g10 => ?_)
      have l_a5 := (gr_len g10 o_a5).trans l_a5
      have o_a4 := gr_ob g10 o_a4
      have o_a5 := gr_ob g10 o_a5
      have o_a6 := gr_ob g10 o_a6
      have o_v0 := gr_ob g10 o_v0
      have g0 := gr_tr g0 g10
      intro _
      have hI := iv_sI (j := 2) (v := (0 : Int32)) hI o_v0 (by decide) (nu_one (lo := (0 : Int32)) (hi := (16 : Int32)) (by decide) (q41))
      exact hq _ _ hI g0 (Or.inr rfl)
    · exact hq _ _ hI g0 (Or.inl rfl)
set_option maxHeartbeats 4000000 in
set_option maxRecDepth 20000 in
theorem m_X0_setMark {v0 : Nat} {Q : Int32 → HS → Prop} {S : HS} (hI : IV S) (o_v0 : ob S v0 0)     (hq : ∀ (r : Int32) (T : HS), IV T → Gr S T → Q r T) : P_X0_setMark v0 Q S := by
  have g0 := gr_rf S
  refine u_X0_setMark ?_
  refine u_X0_setMark_0 ?_
  refine ⟨o_v0, ?_⟩
  intro x1 ex1
  have r_x1 : (0 : Int32) ≤ x1 ∧ x1 ≤ (3 : Int32) := by rw [ex1]; exact nu 3 rfl hI o_v0
  refine ⟨fun c2 => ?_, fun c2 => ?_⟩
  · obtain ⟨a3, ea3, o_a3, l_a3⟩ := shl 8 rfl hI o_v0
    refine ⟨a3, ea3, ?_⟩
    intro x4 ex4
    have r_x4 : (0 : Int32) ≤ x4 ∧ x4 ≤ (3 : Int32) := by rw [ex4]; exact nu 3 rfl hI o_v0
    refine ⟨o_a3, ?_⟩
    have i6 : vp_in x4 (hN _ a3) := (vin l_a3 (m := 3) (by decide) (q373 r_x4))
    obtain ⟨a5, ea5, o_a5⟩ := ae hI o_a3 (by decide) (by decide) i6
    replace o_a5 : ob _ a5 2 := o_a5
    refine ⟨i6, a5, ea5, ?_⟩
    obtain ⟨a7, ea7, o_a7, -⟩ := sh 6 rfl hI o_v0
    refine ⟨a7, ea7, ?_⟩
    refine ⟨o_a5, ?_⟩
    refine m_X2_copy hI o_a5 o_a7 (fun S9 hI g10 => ?_)
    have l_a3 := (gr_len g10 o_a3).trans l_a3
    have o_a3 := gr_ob g10 o_a3
    have o_a5 := gr_ob g10 o_a5
    have o_a7 := gr_ob g10 o_a7
    have o_v0 := gr_ob g10 o_v0
    have g0 := gr_tr g0 g10
    intro _
    intro x11 ex11
    have r_x11 : (0 : Int32) ≤ x11 ∧ x11 ≤ (3 : Int32) := by rw [ex11]; exact nu 3 rfl hI o_v0
    intro x12 ex12
    have hI := iv_sI (j := 3) (v := x12) hI o_v0 (by decide) (nu_one (lo := (0 : Int32)) (hi := (3 : Int32)) (by decide) (q374 r_x11 ex12))
    intro x13 ex13
    have r_x13 : (0 : Int32) ≤ x13 ∧ x13 ≤ (3 : Int32) := by rw [ex13]; exact nu 3 rfl hI o_v0
    exact hq _ _ hI g0
  · exact hq _ _ hI g0
set_option maxHeartbeats 4000000 in
set_option maxRecDepth 20000 in
theorem m_X0_takeBack {v0 : Nat} {Q : Int32 → HS → Prop} {S : HS} (hI : IV S) (o_v0 : ob S v0 0)     (hq : ∀ (r : Int32) (T : HS), IV T → Gr S T → bl r → Q r T) : P_X0_takeBack v0 Q S := by
  have g0 := gr_rf S
  refine u_X0_takeBack ?_
  refine u_X0_takeBack_0 ?_
  refine ⟨o_v0, ?_⟩
  intro x1 ex1
  have r_x1 : (0 : Int32) ≤ x1 ∧ x1 ≤ (16 : Int32) := by rw [ex1]; exact nu 2 rfl hI o_v0
  refine ⟨fun c2 => ?_, fun c2 => ?_⟩
  · intro x3 ex3
    have r_x3 : (0 : Int32) ≤ x3 ∧ x3 ≤ (16 : Int32) := by rw [ex3]; exact nu 2 rfl hI o_v0
    intro x4 ex4
    have hI := iv_sI (j := 2) (v := x4) hI o_v0 (by decide) (nu_one (lo := (0 : Int32)) (hi := (16 : Int32)) (by decide) (q231 r_x3 ex4))
    obtain ⟨a5, ea5, o_a5, -⟩ := sh 6 rfl hI o_v0
    refine ⟨a5, ea5, ?_⟩
    obtain ⟨a6, ea6, o_a6, l_a6⟩ := shl 7 rfl hI o_v0
    refine ⟨a6, ea6, ?_⟩
    intro x7 ex7
    have r_x7 : (0 : Int32) ≤ x7 ∧ x7 ≤ (16 : Int32) := by rw [ex7]; exact nu 2 rfl hI o_v0
    refine ⟨o_a6, ?_⟩
    have i9 : vp_in x7 (hN _ a6) := (vin l_a6 (m := 16) (by decide) (q232 r_x7))
    obtain ⟨a8, ea8, o_a8⟩ := ae hI o_a6 (by decide) (by decide) i9
    replace o_a8 : ob _ a8 2 := o_a8
    refine ⟨i9, a8, ea8, ?_⟩
    refine ⟨o_a5, ?_⟩
    refine m_X2_copy hI o_a5 o_a8 (fun S11 hI g12 => ?_)
    have l_a6 := (gr_len g12 o_a6).trans l_a6
    have o_a5 := gr_ob g12 o_a5
    have o_a6 := gr_ob g12 o_a6
    have o_a8 := gr_ob g12 o_a8
    have o_v0 := gr_ob g12 o_v0
    have g0 := gr_tr g0 g12
    intro _
    exact hq _ _ hI g0 (Or.inr rfl)
  · exact hq _ _ hI g0 (Or.inl rfl)
set_option maxHeartbeats 4000000 in
set_option maxRecDepth 20000 in
theorem m_X5_turnOf {v0 : Nat} {v1 : Int32} {v2 : Nat} {Q : Int32 → HS → Prop} {S : HS} (hI : IV S) (o_v0 : ob S v0 5) (o_v2 : ob S v2 3)     (hq : ∀ (r : Int32) (T : HS), IV T → Gr S T → (S = T) → Q r T) : P_X5_turnOf v0 v1 v2 Q S := by
  have g0 := gr_rf S
  refine u_X5_turnOf ?_
  refine u_X5_turnOf_0 ?_
  refine ⟨fun c1 => ?_, fun c1 => ?_⟩
  · refine ⟨o_v0, ?_⟩
    intro x2 ex2
    refine u_X5_turnOf_17 ?_
    intro x3 ex3
    refine ⟨o_v2, ?_⟩
    intro x4 ex4
    exact hq _ _ hI g0 rfl
  · refine ⟨o_v0, ?_⟩
    intro x5 ex5
    refine u_X5_turnOf_17 ?_
    refine ⟨o_v2, ?_⟩
    intro x6 ex6
    exact hq _ _ hI g0 rfl
set_option maxHeartbeats 4000000 in
set_option maxRecDepth 20000 in
theorem m_X5_airAlong {v0 : Nat} {v1 : Int32} {v2 : Nat} {Q : Int32 → HS → Prop} {S : HS} (hI : IV S) (o_v0 : ob S v0 5) (o_v2 : ob S v2 3)     (hq : ∀ (r : Int32) (T : HS), IV T → Gr S T → (S = T) → Q r T) : P_X5_airAlong v0 v1 v2 Q S := by
  have g0 := gr_rf S
  refine u_X5_airAlong ?_
  refine u_X5_airAlong_0 ?_
  refine ⟨o_v0, ?_⟩
  refine m_X5_turnOf hI o_v0 o_v2 (fun x1 S2 hI2 g3 p_x1 => ?_)
  subst p_x1
  intro _
  refine ⟨fun c4 => ?_, fun c4 => ?_⟩
  · refine ⟨fun c5 => ?_, fun c5 => ?_⟩
    · exact hq _ _ hI g0 rfl
    · refine ⟨o_v2, ?_⟩
      intro x6 ex6
      exact hq _ _ hI g0 rfl
  · refine ⟨o_v2, ?_⟩
    intro x7 ex7
    exact hq _ _ hI g0 rfl
set_option maxHeartbeats 4000000 in
set_option maxRecDepth 20000 in
theorem m_X1_lay {v0 : Nat} {v1 : Nat} {v2 : Int32} {v3 : Nat} {v4 : Int32} {Q : HS → Prop} {S : HS} (hI : IV S) (o_v0 : ob S v0 1) (o_v1 : ob S v1 5) (o_v3 : ob S v3 3)     (hq : ∀ (T : HS), IV T → Gr S T → Q T) : P_X1_lay v0 v1 v2 v3 v4 Q S := by
  have g0 := gr_rf S
  refine u_X1_lay ?_
  refine u_X1_lay_0 ?_
  refine ⟨fun c1 => ?_, fun c1 => ?_⟩
  · refine u_X1_lay_27 ?_
    refine ⟨o_v3, ?_⟩
    intro x2 ex2
    intro x3 ex3
    refine ⟨o_v1, ?_⟩
    refine m_X5_turnOf hI o_v1 o_v3 (fun x4 S5 hI2 g6 p_x4 => ?_)
    subst p_x4
    intro _
    refine m_X5_airAlong hI o_v1 o_v3 (fun x7 S8 hI2 g9 p_x7 => ?_)
    subst p_x7
    intro _
    refine ⟨o_v0, ?_⟩
    obtain ⟨a10, ea10, o_a10, l_a10⟩ := shl 10 rfl hI o_v0
    refine ⟨a10, ea10, ?_⟩
    intro x11 ex11
    refine ⟨o_a10, ?_⟩
    intro x12 ex12
    have i13 : vp_in (0 : Int32) (hN _ a10) := (vin l_a10 (m := 5) (by decide) (q33))
    refine ⟨i13, ?_⟩
    have hI := iv_aJ (i := (0 : Int32).toNatClampNeg) (v := x12) hI o_v0 (by decide) ea10 o_a10 (by decide)
    obtain ⟨a14, ea14, o_a14, l_a14⟩ := shl 10 rfl hI o_v0
    refine ⟨a14, ea14, ?_⟩
    intro x15 ex15
    refine ⟨o_a14, ?_⟩
    intro x16 ex16
    have i17 : vp_in (1 : Int32) (hN _ a14) := (vin l_a14 (m := 5) (by decide) (q34))
    refine ⟨i17, ?_⟩
    have hI := iv_aJ (i := (1 : Int32).toNatClampNeg) (v := x16) hI o_v0 (by decide) ea14 o_a14 (by decide)
    obtain ⟨a18, ea18, o_a18, l_a18⟩ := shl 10 rfl hI o_v0
    refine ⟨a18, ea18, ?_⟩
    intro x19 ex19
    refine ⟨o_a18, ?_⟩
    intro x20 ex20
    have i21 : vp_in (2 : Int32) (hN _ a18) := (vin l_a18 (m := 5) (by decide) (q35))
    refine ⟨i21, ?_⟩
    have hI := iv_aJ (i := (2 : Int32).toNatClampNeg) (v := x20) hI o_v0 (by decide) ea18 o_a18 (by decide)
    obtain ⟨a22, ea22, o_a22, l_a22⟩ := shl 10 rfl hI o_v0
    refine ⟨a22, ea22, ?_⟩
    refine ⟨fun c23 => ?_, fun c23 => ?_⟩
    · refine u_X1_lay_130 ?_
      refine ⟨o_a22, ?_⟩
      have i24 : vp_in (3 : Int32) (hN _ a22) := (vin l_a22 (m := 5) (by decide) (q36))
      refine ⟨i24, ?_⟩
      have hI := iv_aJ (i := (3 : Int32).toNatClampNeg) (v := (0 : Int64)) hI o_v0 (by decide) ea22 o_a22 (by decide)
      refine ⟨o_v0, ?_⟩
      obtain ⟨a25, ea25, o_a25, l_a25⟩ := shl 10 rfl hI o_v0
      refine ⟨a25, ea25, ?_⟩
      refine ⟨fun c26 => ?_, fun c26 => ?_⟩
      · refine ⟨o_a25, ?_⟩
        have i27 : vp_in (4 : Int32) (hN _ a25) := (vin l_a25 (m := 5) (by decide) (q37))
        refine ⟨i27, ?_⟩
        have hI := iv_aJ (i := (4 : Int32).toNatClampNeg) (v := (0 : Int64)) hI o_v0 (by decide) ea25 o_a25 (by decide)
        exact hq _ hI g0
      · refine ⟨o_v3, ?_⟩
        intro x28 ex28
        refine ⟨o_a25, ?_⟩
        intro x29 ex29
        have i30 : vp_in (4 : Int32) (hN _ a25) := (vin l_a25 (m := 5) (by decide) (q37))
        refine ⟨i30, ?_⟩
        have hI := iv_aJ (i := (4 : Int32).toNatClampNeg) (v := x29) hI o_v0 (by decide) ea25 o_a25 (by decide)
        exact hq _ hI g0
    · intro x31 ex31
      refine u_X1_lay_130 ?_
      refine ⟨o_a22, ?_⟩
      intro x32 ex32
      have i33 : vp_in (3 : Int32) (hN _ a22) := (vin l_a22 (m := 5) (by decide) (q36))
      refine ⟨i33, ?_⟩
      have hI := iv_aJ (i := (3 : Int32).toNatClampNeg) (v := x32) hI o_v0 (by decide) ea22 o_a22 (by decide)
      refine ⟨o_v0, ?_⟩
      obtain ⟨a34, ea34, o_a34, l_a34⟩ := shl 10 rfl hI o_v0
      refine ⟨a34, ea34, ?_⟩
      refine ⟨fun c35 => ?_, fun c35 => ?_⟩
      · refine ⟨o_a34, ?_⟩
        have i36 : vp_in (4 : Int32) (hN _ a34) := (vin l_a34 (m := 5) (by decide) (q37))
        refine ⟨i36, ?_⟩
        have hI := iv_aJ (i := (4 : Int32).toNatClampNeg) (v := (0 : Int64)) hI o_v0 (by decide) ea34 o_a34 (by decide)
        exact hq _ hI g0
      · refine ⟨o_v3, ?_⟩
        intro x37 ex37
        refine ⟨o_a34, ?_⟩
        intro x38 ex38
        have i39 : vp_in (4 : Int32) (hN _ a34) := (vin l_a34 (m := 5) (by decide) (q37))
        refine ⟨i39, ?_⟩
        have hI := iv_aJ (i := (4 : Int32).toNatClampNeg) (v := x38) hI o_v0 (by decide) ea34 o_a34 (by decide)
        exact hq _ hI g0
  · refine ⟨o_v1, ?_⟩
    intro x40 ex40
    intro x41 ex41
    refine ⟨(q38 c1), ?_⟩
    intro x42 ex42
    refine u_X1_lay_27 ?_
    intro x43 ex43
    refine ⟨o_v3, ?_⟩
    intro x44 ex44
    intro x45 ex45
    refine ⟨o_v1, ?_⟩
    refine m_X5_turnOf hI o_v1 o_v3 (fun x46 S47 hI2 g48 p_x46 => ?_)
    subst p_x46
    intro _
    refine m_X5_airAlong hI o_v1 o_v3 (fun x49 S50 hI2 g51 p_x49 => ?_)
    subst p_x49
    intro _
    refine ⟨o_v0, ?_⟩
    obtain ⟨a52, ea52, o_a52, l_a52⟩ := shl 10 rfl hI o_v0
    refine ⟨a52, ea52, ?_⟩
    intro x53 ex53
    refine ⟨o_a52, ?_⟩
    intro x54 ex54
    have i55 : vp_in (0 : Int32) (hN _ a52) := (vin l_a52 (m := 5) (by decide) (q33))
    refine ⟨i55, ?_⟩
    have hI := iv_aJ (i := (0 : Int32).toNatClampNeg) (v := x54) hI o_v0 (by decide) ea52 o_a52 (by decide)
    obtain ⟨a56, ea56, o_a56, l_a56⟩ := shl 10 rfl hI o_v0
    refine ⟨a56, ea56, ?_⟩
    intro x57 ex57
    refine ⟨o_a56, ?_⟩
    intro x58 ex58
    have i59 : vp_in (1 : Int32) (hN _ a56) := (vin l_a56 (m := 5) (by decide) (q34))
    refine ⟨i59, ?_⟩
    have hI := iv_aJ (i := (1 : Int32).toNatClampNeg) (v := x58) hI o_v0 (by decide) ea56 o_a56 (by decide)
    obtain ⟨a60, ea60, o_a60, l_a60⟩ := shl 10 rfl hI o_v0
    refine ⟨a60, ea60, ?_⟩
    intro x61 ex61
    refine ⟨o_a60, ?_⟩
    intro x62 ex62
    have i63 : vp_in (2 : Int32) (hN _ a60) := (vin l_a60 (m := 5) (by decide) (q35))
    refine ⟨i63, ?_⟩
    have hI := iv_aJ (i := (2 : Int32).toNatClampNeg) (v := x62) hI o_v0 (by decide) ea60 o_a60 (by decide)
    obtain ⟨a64, ea64, o_a64, l_a64⟩ := shl 10 rfl hI o_v0
    refine ⟨a64, ea64, ?_⟩
    refine ⟨fun c65 => ?_, fun c65 => ?_⟩
    · refine u_X1_lay_130 ?_
      refine ⟨o_a64, ?_⟩
      have i66 : vp_in (3 : Int32) (hN _ a64) := (vin l_a64 (m := 5) (by decide) (q36))
      refine ⟨i66, ?_⟩
      have hI := iv_aJ (i := (3 : Int32).toNatClampNeg) (v := (0 : Int64)) hI o_v0 (by decide) ea64 o_a64 (by decide)
      refine ⟨o_v0, ?_⟩
      obtain ⟨a67, ea67, o_a67, l_a67⟩ := shl 10 rfl hI o_v0
      refine ⟨a67, ea67, ?_⟩
      refine ⟨fun c68 => ?_, fun c68 => ?_⟩
      · refine ⟨o_a67, ?_⟩
        have i69 : vp_in (4 : Int32) (hN _ a67) := (vin l_a67 (m := 5) (by decide) (q37))
        refine ⟨i69, ?_⟩
        have hI := iv_aJ (i := (4 : Int32).toNatClampNeg) (v := (0 : Int64)) hI o_v0 (by decide) ea67 o_a67 (by decide)
        exact hq _ hI g0
      · refine ⟨o_v3, ?_⟩
        intro x70 ex70
        refine ⟨o_a67, ?_⟩
        intro x71 ex71
        have i72 : vp_in (4 : Int32) (hN _ a67) := (vin l_a67 (m := 5) (by decide) (q37))
        refine ⟨i72, ?_⟩
        have hI := iv_aJ (i := (4 : Int32).toNatClampNeg) (v := x71) hI o_v0 (by decide) ea67 o_a67 (by decide)
        exact hq _ hI g0
    · intro x73 ex73
      refine u_X1_lay_130 ?_
      refine ⟨o_a64, ?_⟩
      intro x74 ex74
      have i75 : vp_in (3 : Int32) (hN _ a64) := (vin l_a64 (m := 5) (by decide) (q36))
      refine ⟨i75, ?_⟩
      have hI := iv_aJ (i := (3 : Int32).toNatClampNeg) (v := x74) hI o_v0 (by decide) ea64 o_a64 (by decide)
      refine ⟨o_v0, ?_⟩
      obtain ⟨a76, ea76, o_a76, l_a76⟩ := shl 10 rfl hI o_v0
      refine ⟨a76, ea76, ?_⟩
      refine ⟨fun c77 => ?_, fun c77 => ?_⟩
      · refine ⟨o_a76, ?_⟩
        have i78 : vp_in (4 : Int32) (hN _ a76) := (vin l_a76 (m := 5) (by decide) (q37))
        refine ⟨i78, ?_⟩
        have hI := iv_aJ (i := (4 : Int32).toNatClampNeg) (v := (0 : Int64)) hI o_v0 (by decide) ea76 o_a76 (by decide)
        exact hq _ hI g0
      · refine ⟨o_v3, ?_⟩
        intro x79 ex79
        refine ⟨o_a76, ?_⟩
        intro x80 ex80
        have i81 : vp_in (4 : Int32) (hN _ a76) := (vin l_a76 (m := 5) (by decide) (q37))
        refine ⟨i81, ?_⟩
        have hI := iv_aJ (i := (4 : Int32).toNatClampNeg) (v := x80) hI o_v0 (by decide) ea76 o_a76 (by decide)
        exact hq _ hI g0
set_option maxHeartbeats 4000000 in
set_option maxRecDepth 20000 in
theorem m_X6_shield {v0 : Nat} {Q : Int32 → HS → Prop} {S : HS} (hI : IV S) (o_v0 : ob S v0 6)     (hq : ∀ (r : Int32) (T : HS), IV T → Gr S T → (S = T) → Q r T) : P_X6_shield v0 Q S := by
  have g0 := gr_rf S
  refine u_X6_shield ?_
  refine u_X6_shield_0 ?_
  refine ⟨o_v0, ?_⟩
  intro x1 ex1
  refine ⟨fun c2 => ?_, fun c2 => ?_⟩
  · exact hq _ _ hI g0 rfl
  · intro x3 ex3
    exact hq _ _ hI g0 rfl
set_option maxHeartbeats 4000000 in
set_option maxRecDepth 20000 in
theorem m_X1_isForward {v0 : Nat} {v1 : Nat} {Q : Int32 → HS → Prop} {S : HS} (hI : IV S) (o_v0 : ob S v0 1) (o_v1 : ob S v1 6)     (hq : ∀ (r : Int32) (T : HS), IV T → Gr S T → bl r → (S = T) → Q r T) : P_X1_isForward v0 v1 Q S := by
  have g0 := gr_rf S
  refine u_X1_isForward ?_
  refine u_X1_isForward_0 ?_
  refine ⟨o_v0, ?_⟩
  obtain ⟨a1, ea1, o_a1, l_a1⟩ := shl 10 rfl hI o_v0
  refine ⟨a1, ea1, ?_⟩
  refine ⟨o_a1, ?_⟩
  refine ⟨(vin l_a1 (m := 5) (by decide) (q33)), ?_⟩
  intro x2 ex2
  refine ⟨o_v1, ?_⟩
  refine m_X6_shield hI o_v1 (fun x3 S4 hI2 g5 p_x3 => ?_)
  subst p_x3
  intro _
  intro x6 ex6
  intro x7 ex7
  intro x8 ex8
  obtain ⟨a9, ea9, o_a9, l_a9⟩ := shl 10 rfl hI o_v0
  refine ⟨a9, ea9, ?_⟩
  refine ⟨o_a9, ?_⟩
  refine ⟨(vin l_a9 (m := 5) (by decide) (q34)), ?_⟩
  intro x10 ex10
  refine m_X6_shield hI o_v1 (fun x11 S12 hI2 g13 p_x11 => ?_)
  subst p_x11
  intro _
  intro x14 ex14
  intro x15 ex15
  intro x16 ex16
  refine ⟨fun c17 => ?_, fun c17 => ?_⟩
  · exact hq _ _ hI g0 (Or.inl rfl) rfl
  · exact hq _ _ hI g0 (Or.inr rfl) rfl
set_option maxHeartbeats 4000000 in
set_option maxRecDepth 20000 in
theorem m_X1_soak {v0 : Nat} {v1 : Nat} {v2 : Int32} {v3 : Int32} {Q : Int64 → HS → Prop} {S : HS} (hI : IV S) (o_v0 : ob S v0 1) (o_v1 : ob S v1 6)     (hq : ∀ (r : Int64) (T : HS), IV T → Gr S T → Q r T) : P_X1_soak v0 v1 v2 v3 Q S := by
  have g0 := gr_rf S
  refine u_X1_soak ?_
  refine u_X1_soak_0 ?_
  refine ⟨o_v0, ?_⟩
  refine m_X1_isForward hI o_v0 o_v1 (fun x1 S2 hI2 g3 b_x1 p_x1 => ?_)
  subst p_x1
  intro _ _
  have bb_x1 : x1 = 0 ∨ x1 = 1 := b_x1
  refine ⟨fun c4 => ?_, fun c4 => ?_⟩
  · refine ⟨o_v1, ?_⟩
    refine m_X6_shield hI o_v1 (fun x5 S6 hI2 g7 p_x5 => ?_)
    subst p_x5
    intro _
    refine u_X1_soak_20 ?_
    refine ⟨fun c8 => ?_, fun c8 => ?_⟩
    · refine u_X1_soak_35 ?_
      refine ⟨o_v0, ?_⟩
      obtain ⟨a9, ea9, o_a9, l_a9⟩ := shl 9 rfl hI o_v0
      refine ⟨a9, ea9, ?_⟩
      obtain ⟨a10, ea10, o_a10, l_a10⟩ := shl 10 rfl hI o_v0
      refine ⟨a10, ea10, ?_⟩
      refine ⟨o_a10, ?_⟩
      refine ⟨(vin l_a10 (m := 5) (by decide) (q33)), ?_⟩
      intro x11 ex11
      refine ⟨o_v1, ?_⟩
      intro x12 ex12
      intro x13 ex13
      refine ⟨o_a9, ?_⟩
      intro x14 ex14
      have i15 : vp_in (0 : Int32) (hN _ a9) := (vin l_a9 (m := 5) (by decide) (q33))
      refine ⟨i15, ?_⟩
      have hI := iv_aJ (i := (0 : Int32).toNatClampNeg) (v := x14) hI o_v0 (by decide) ea9 o_a9 (by decide)
      obtain ⟨a16, ea16, o_a16, l_a16⟩ := shl 9 rfl hI o_v0
      refine ⟨a16, ea16, ?_⟩
      obtain ⟨a17, ea17, o_a17, l_a17⟩ := shl 10 rfl hI o_v0
      refine ⟨a17, ea17, ?_⟩
      refine ⟨o_a17, ?_⟩
      refine ⟨(vin l_a17 (m := 5) (by decide) (q34)), ?_⟩
      intro x18 ex18
      intro x19 ex19
      intro x20 ex20
      refine ⟨o_a16, ?_⟩
      intro x21 ex21
      have i22 : vp_in (1 : Int32) (hN _ a16) := (vin l_a16 (m := 5) (by decide) (q34))
      refine ⟨i22, ?_⟩
      have hI := iv_aJ (i := (1 : Int32).toNatClampNeg) (v := x21) hI o_v0 (by decide) ea16 o_a16 (by decide)
      obtain ⟨a23, ea23, o_a23, l_a23⟩ := shl 9 rfl hI o_v0
      refine ⟨a23, ea23, ?_⟩
      obtain ⟨a24, ea24, o_a24, l_a24⟩ := shl 10 rfl hI o_v0
      refine ⟨a24, ea24, ?_⟩
      refine ⟨o_a24, ?_⟩
      refine ⟨(vin l_a24 (m := 5) (by decide) (q35)), ?_⟩
      intro x25 ex25
      intro x26 ex26
      intro x27 ex27
      refine ⟨o_a23, ?_⟩
      intro x28 ex28
      have i29 : vp_in (2 : Int32) (hN _ a23) := (vin l_a23 (m := 5) (by decide) (q35))
      refine ⟨i29, ?_⟩
      have hI := iv_aJ (i := (2 : Int32).toNatClampNeg) (v := x28) hI o_v0 (by decide) ea23 o_a23 (by decide)
      obtain ⟨a30, ea30, o_a30, l_a30⟩ := shl 9 rfl hI o_v0
      refine ⟨a30, ea30, ?_⟩
      obtain ⟨a31, ea31, o_a31, l_a31⟩ := shl 10 rfl hI o_v0
      refine ⟨a31, ea31, ?_⟩
      refine ⟨o_a31, ?_⟩
      refine ⟨(vin l_a31 (m := 5) (by decide) (q36)), ?_⟩
      intro x32 ex32
      intro x33 ex33
      refine ⟨o_a30, ?_⟩
      intro x34 ex34
      have i35 : vp_in (3 : Int32) (hN _ a30) := (vin l_a30 (m := 5) (by decide) (q36))
      refine ⟨i35, ?_⟩
      have hI := iv_aJ (i := (3 : Int32).toNatClampNeg) (v := x34) hI o_v0 (by decide) ea30 o_a30 (by decide)
      obtain ⟨a36, ea36, o_a36, l_a36⟩ := shl 9 rfl hI o_v0
      refine ⟨a36, ea36, ?_⟩
      obtain ⟨a37, ea37, o_a37, l_a37⟩ := shl 10 rfl hI o_v0
      refine ⟨a37, ea37, ?_⟩
      refine ⟨o_a37, ?_⟩
      refine ⟨(vin l_a37 (m := 5) (by decide) (q37)), ?_⟩
      intro x38 ex38
      intro x39 ex39
      refine ⟨o_a36, ?_⟩
      intro x40 ex40
      have i41 : vp_in (4 : Int32) (hN _ a36) := (vin l_a36 (m := 5) (by decide) (q37))
      refine ⟨i41, ?_⟩
      have hI := iv_aJ (i := (4 : Int32).toNatClampNeg) (v := x40) hI o_v0 (by decide) ea36 o_a36 (by decide)
      obtain ⟨a42, ea42, o_a42, l_a42⟩ := shl 9 rfl hI o_v0
      refine ⟨a42, ea42, ?_⟩
      refine ⟨o_a42, ?_⟩
      refine ⟨(vin l_a42 (m := 5) (by decide) (q33)), ?_⟩
      intro x43 ex43
      obtain ⟨a44, ea44, o_a44, l_a44⟩ := shl 9 rfl hI o_v0
      refine ⟨a44, ea44, ?_⟩
      refine ⟨o_a44, ?_⟩
      refine ⟨(vin l_a44 (m := 5) (by decide) (q34)), ?_⟩
      intro x45 ex45
      obtain ⟨a46, ea46, o_a46, l_a46⟩ := shl 9 rfl hI o_v0
      refine ⟨a46, ea46, ?_⟩
      refine ⟨o_a46, ?_⟩
      refine ⟨(vin l_a46 (m := 5) (by decide) (q35)), ?_⟩
      intro x47 ex47
      obtain ⟨a48, ea48, o_a48, l_a48⟩ := shl 9 rfl hI o_v0
      refine ⟨a48, ea48, ?_⟩
      refine ⟨o_a48, ?_⟩
      refine ⟨(vin l_a48 (m := 5) (by decide) (q36)), ?_⟩
      intro x49 ex49
      obtain ⟨a50, ea50, o_a50, l_a50⟩ := shl 9 rfl hI o_v0
      refine ⟨a50, ea50, ?_⟩
      refine ⟨o_a50, ?_⟩
      refine ⟨(vin l_a50 (m := 5) (by decide) (q37)), ?_⟩
      intro x51 ex51
      exact hq _ _ hI g0
    · refine ⟨o_v1, ?_⟩
      refine m_X6_shield hI o_v1 (fun x52 S53 hI2 g54 p_x52 => ?_)
      subst p_x52
      intro _
      refine u_X1_soak_35 ?_
      refine ⟨o_v0, ?_⟩
      obtain ⟨a55, ea55, o_a55, l_a55⟩ := shl 9 rfl hI o_v0
      refine ⟨a55, ea55, ?_⟩
      obtain ⟨a56, ea56, o_a56, l_a56⟩ := shl 10 rfl hI o_v0
      refine ⟨a56, ea56, ?_⟩
      refine ⟨o_a56, ?_⟩
      refine ⟨(vin l_a56 (m := 5) (by decide) (q33)), ?_⟩
      intro x57 ex57
      refine ⟨o_v1, ?_⟩
      intro x58 ex58
      intro x59 ex59
      refine ⟨o_a55, ?_⟩
      intro x60 ex60
      have i61 : vp_in (0 : Int32) (hN _ a55) := (vin l_a55 (m := 5) (by decide) (q33))
      refine ⟨i61, ?_⟩
      have hI := iv_aJ (i := (0 : Int32).toNatClampNeg) (v := x60) hI o_v0 (by decide) ea55 o_a55 (by decide)
      obtain ⟨a62, ea62, o_a62, l_a62⟩ := shl 9 rfl hI o_v0
      refine ⟨a62, ea62, ?_⟩
      obtain ⟨a63, ea63, o_a63, l_a63⟩ := shl 10 rfl hI o_v0
      refine ⟨a63, ea63, ?_⟩
      refine ⟨o_a63, ?_⟩
      refine ⟨(vin l_a63 (m := 5) (by decide) (q34)), ?_⟩
      intro x64 ex64
      intro x65 ex65
      intro x66 ex66
      refine ⟨o_a62, ?_⟩
      intro x67 ex67
      have i68 : vp_in (1 : Int32) (hN _ a62) := (vin l_a62 (m := 5) (by decide) (q34))
      refine ⟨i68, ?_⟩
      have hI := iv_aJ (i := (1 : Int32).toNatClampNeg) (v := x67) hI o_v0 (by decide) ea62 o_a62 (by decide)
      obtain ⟨a69, ea69, o_a69, l_a69⟩ := shl 9 rfl hI o_v0
      refine ⟨a69, ea69, ?_⟩
      obtain ⟨a70, ea70, o_a70, l_a70⟩ := shl 10 rfl hI o_v0
      refine ⟨a70, ea70, ?_⟩
      refine ⟨o_a70, ?_⟩
      refine ⟨(vin l_a70 (m := 5) (by decide) (q35)), ?_⟩
      intro x71 ex71
      intro x72 ex72
      intro x73 ex73
      refine ⟨o_a69, ?_⟩
      intro x74 ex74
      have i75 : vp_in (2 : Int32) (hN _ a69) := (vin l_a69 (m := 5) (by decide) (q35))
      refine ⟨i75, ?_⟩
      have hI := iv_aJ (i := (2 : Int32).toNatClampNeg) (v := x74) hI o_v0 (by decide) ea69 o_a69 (by decide)
      obtain ⟨a76, ea76, o_a76, l_a76⟩ := shl 9 rfl hI o_v0
      refine ⟨a76, ea76, ?_⟩
      obtain ⟨a77, ea77, o_a77, l_a77⟩ := shl 10 rfl hI o_v0
      refine ⟨a77, ea77, ?_⟩
      refine ⟨o_a77, ?_⟩
      refine ⟨(vin l_a77 (m := 5) (by decide) (q36)), ?_⟩
      intro x78 ex78
      intro x79 ex79
      refine ⟨o_a76, ?_⟩
      intro x80 ex80
      have i81 : vp_in (3 : Int32) (hN _ a76) := (vin l_a76 (m := 5) (by decide) (q36))
      refine ⟨i81, ?_⟩
      have hI := iv_aJ (i := (3 : Int32).toNatClampNeg) (v := x80) hI o_v0 (by decide) ea76 o_a76 (by decide)
      obtain ⟨a82, ea82, o_a82, l_a82⟩ := shl 9 rfl hI o_v0
      refine ⟨a82, ea82, ?_⟩
      obtain ⟨a83, ea83, o_a83, l_a83⟩ := shl 10 rfl hI o_v0
      refine ⟨a83, ea83, ?_⟩
      refine ⟨o_a83, ?_⟩
      refine ⟨(vin l_a83 (m := 5) (by decide) (q37)), ?_⟩
      intro x84 ex84
      intro x85 ex85
      refine ⟨o_a82, ?_⟩
      intro x86 ex86
      have i87 : vp_in (4 : Int32) (hN _ a82) := (vin l_a82 (m := 5) (by decide) (q37))
      refine ⟨i87, ?_⟩
      have hI := iv_aJ (i := (4 : Int32).toNatClampNeg) (v := x86) hI o_v0 (by decide) ea82 o_a82 (by decide)
      obtain ⟨a88, ea88, o_a88, l_a88⟩ := shl 9 rfl hI o_v0
      refine ⟨a88, ea88, ?_⟩
      refine ⟨o_a88, ?_⟩
      refine ⟨(vin l_a88 (m := 5) (by decide) (q33)), ?_⟩
      intro x89 ex89
      obtain ⟨a90, ea90, o_a90, l_a90⟩ := shl 9 rfl hI o_v0
      refine ⟨a90, ea90, ?_⟩
      refine ⟨o_a90, ?_⟩
      refine ⟨(vin l_a90 (m := 5) (by decide) (q34)), ?_⟩
      intro x91 ex91
      obtain ⟨a92, ea92, o_a92, l_a92⟩ := shl 9 rfl hI o_v0
      refine ⟨a92, ea92, ?_⟩
      refine ⟨o_a92, ?_⟩
      refine ⟨(vin l_a92 (m := 5) (by decide) (q35)), ?_⟩
      intro x93 ex93
      obtain ⟨a94, ea94, o_a94, l_a94⟩ := shl 9 rfl hI o_v0
      refine ⟨a94, ea94, ?_⟩
      refine ⟨o_a94, ?_⟩
      refine ⟨(vin l_a94 (m := 5) (by decide) (q36)), ?_⟩
      intro x95 ex95
      obtain ⟨a96, ea96, o_a96, l_a96⟩ := shl 9 rfl hI o_v0
      refine ⟨a96, ea96, ?_⟩
      refine ⟨o_a96, ?_⟩
      refine ⟨(vin l_a96 (m := 5) (by decide) (q37)), ?_⟩
      intro x97 ex97
      exact hq _ _ hI g0
  · refine u_X1_soak_20 ?_
    refine ⟨fun c98 => ?_, fun c98 => ?_⟩
    · refine u_X1_soak_35 ?_
      refine ⟨o_v0, ?_⟩
      obtain ⟨a99, ea99, o_a99, l_a99⟩ := shl 9 rfl hI o_v0
      refine ⟨a99, ea99, ?_⟩
      obtain ⟨a100, ea100, o_a100, l_a100⟩ := shl 10 rfl hI o_v0
      refine ⟨a100, ea100, ?_⟩
      refine ⟨o_a100, ?_⟩
      refine ⟨(vin l_a100 (m := 5) (by decide) (q33)), ?_⟩
      intro x101 ex101
      refine ⟨o_v1, ?_⟩
      intro x102 ex102
      intro x103 ex103
      refine ⟨o_a99, ?_⟩
      intro x104 ex104
      have i105 : vp_in (0 : Int32) (hN _ a99) := (vin l_a99 (m := 5) (by decide) (q33))
      refine ⟨i105, ?_⟩
      have hI := iv_aJ (i := (0 : Int32).toNatClampNeg) (v := x104) hI o_v0 (by decide) ea99 o_a99 (by decide)
      obtain ⟨a106, ea106, o_a106, l_a106⟩ := shl 9 rfl hI o_v0
      refine ⟨a106, ea106, ?_⟩
      obtain ⟨a107, ea107, o_a107, l_a107⟩ := shl 10 rfl hI o_v0
      refine ⟨a107, ea107, ?_⟩
      refine ⟨o_a107, ?_⟩
      refine ⟨(vin l_a107 (m := 5) (by decide) (q34)), ?_⟩
      intro x108 ex108
      intro x109 ex109
      intro x110 ex110
      refine ⟨o_a106, ?_⟩
      intro x111 ex111
      have i112 : vp_in (1 : Int32) (hN _ a106) := (vin l_a106 (m := 5) (by decide) (q34))
      refine ⟨i112, ?_⟩
      have hI := iv_aJ (i := (1 : Int32).toNatClampNeg) (v := x111) hI o_v0 (by decide) ea106 o_a106 (by decide)
      obtain ⟨a113, ea113, o_a113, l_a113⟩ := shl 9 rfl hI o_v0
      refine ⟨a113, ea113, ?_⟩
      obtain ⟨a114, ea114, o_a114, l_a114⟩ := shl 10 rfl hI o_v0
      refine ⟨a114, ea114, ?_⟩
      refine ⟨o_a114, ?_⟩
      refine ⟨(vin l_a114 (m := 5) (by decide) (q35)), ?_⟩
      intro x115 ex115
      intro x116 ex116
      intro x117 ex117
      refine ⟨o_a113, ?_⟩
      intro x118 ex118
      have i119 : vp_in (2 : Int32) (hN _ a113) := (vin l_a113 (m := 5) (by decide) (q35))
      refine ⟨i119, ?_⟩
      have hI := iv_aJ (i := (2 : Int32).toNatClampNeg) (v := x118) hI o_v0 (by decide) ea113 o_a113 (by decide)
      obtain ⟨a120, ea120, o_a120, l_a120⟩ := shl 9 rfl hI o_v0
      refine ⟨a120, ea120, ?_⟩
      obtain ⟨a121, ea121, o_a121, l_a121⟩ := shl 10 rfl hI o_v0
      refine ⟨a121, ea121, ?_⟩
      refine ⟨o_a121, ?_⟩
      refine ⟨(vin l_a121 (m := 5) (by decide) (q36)), ?_⟩
      intro x122 ex122
      intro x123 ex123
      refine ⟨o_a120, ?_⟩
      intro x124 ex124
      have i125 : vp_in (3 : Int32) (hN _ a120) := (vin l_a120 (m := 5) (by decide) (q36))
      refine ⟨i125, ?_⟩
      have hI := iv_aJ (i := (3 : Int32).toNatClampNeg) (v := x124) hI o_v0 (by decide) ea120 o_a120 (by decide)
      obtain ⟨a126, ea126, o_a126, l_a126⟩ := shl 9 rfl hI o_v0
      refine ⟨a126, ea126, ?_⟩
      obtain ⟨a127, ea127, o_a127, l_a127⟩ := shl 10 rfl hI o_v0
      refine ⟨a127, ea127, ?_⟩
      refine ⟨o_a127, ?_⟩
      refine ⟨(vin l_a127 (m := 5) (by decide) (q37)), ?_⟩
      intro x128 ex128
      intro x129 ex129
      refine ⟨o_a126, ?_⟩
      intro x130 ex130
      have i131 : vp_in (4 : Int32) (hN _ a126) := (vin l_a126 (m := 5) (by decide) (q37))
      refine ⟨i131, ?_⟩
      have hI := iv_aJ (i := (4 : Int32).toNatClampNeg) (v := x130) hI o_v0 (by decide) ea126 o_a126 (by decide)
      obtain ⟨a132, ea132, o_a132, l_a132⟩ := shl 9 rfl hI o_v0
      refine ⟨a132, ea132, ?_⟩
      refine ⟨o_a132, ?_⟩
      refine ⟨(vin l_a132 (m := 5) (by decide) (q33)), ?_⟩
      intro x133 ex133
      obtain ⟨a134, ea134, o_a134, l_a134⟩ := shl 9 rfl hI o_v0
      refine ⟨a134, ea134, ?_⟩
      refine ⟨o_a134, ?_⟩
      refine ⟨(vin l_a134 (m := 5) (by decide) (q34)), ?_⟩
      intro x135 ex135
      obtain ⟨a136, ea136, o_a136, l_a136⟩ := shl 9 rfl hI o_v0
      refine ⟨a136, ea136, ?_⟩
      refine ⟨o_a136, ?_⟩
      refine ⟨(vin l_a136 (m := 5) (by decide) (q35)), ?_⟩
      intro x137 ex137
      obtain ⟨a138, ea138, o_a138, l_a138⟩ := shl 9 rfl hI o_v0
      refine ⟨a138, ea138, ?_⟩
      refine ⟨o_a138, ?_⟩
      refine ⟨(vin l_a138 (m := 5) (by decide) (q36)), ?_⟩
      intro x139 ex139
      obtain ⟨a140, ea140, o_a140, l_a140⟩ := shl 9 rfl hI o_v0
      refine ⟨a140, ea140, ?_⟩
      refine ⟨o_a140, ?_⟩
      refine ⟨(vin l_a140 (m := 5) (by decide) (q37)), ?_⟩
      intro x141 ex141
      exact hq _ _ hI g0
    · refine ⟨o_v1, ?_⟩
      refine m_X6_shield hI o_v1 (fun x142 S143 hI2 g144 p_x142 => ?_)
      subst p_x142
      intro _
      refine u_X1_soak_35 ?_
      refine ⟨o_v0, ?_⟩
      obtain ⟨a145, ea145, o_a145, l_a145⟩ := shl 9 rfl hI o_v0
      refine ⟨a145, ea145, ?_⟩
      obtain ⟨a146, ea146, o_a146, l_a146⟩ := shl 10 rfl hI o_v0
      refine ⟨a146, ea146, ?_⟩
      refine ⟨o_a146, ?_⟩
      refine ⟨(vin l_a146 (m := 5) (by decide) (q33)), ?_⟩
      intro x147 ex147
      refine ⟨o_v1, ?_⟩
      intro x148 ex148
      intro x149 ex149
      refine ⟨o_a145, ?_⟩
      intro x150 ex150
      have i151 : vp_in (0 : Int32) (hN _ a145) := (vin l_a145 (m := 5) (by decide) (q33))
      refine ⟨i151, ?_⟩
      have hI := iv_aJ (i := (0 : Int32).toNatClampNeg) (v := x150) hI o_v0 (by decide) ea145 o_a145 (by decide)
      obtain ⟨a152, ea152, o_a152, l_a152⟩ := shl 9 rfl hI o_v0
      refine ⟨a152, ea152, ?_⟩
      obtain ⟨a153, ea153, o_a153, l_a153⟩ := shl 10 rfl hI o_v0
      refine ⟨a153, ea153, ?_⟩
      refine ⟨o_a153, ?_⟩
      refine ⟨(vin l_a153 (m := 5) (by decide) (q34)), ?_⟩
      intro x154 ex154
      intro x155 ex155
      intro x156 ex156
      refine ⟨o_a152, ?_⟩
      intro x157 ex157
      have i158 : vp_in (1 : Int32) (hN _ a152) := (vin l_a152 (m := 5) (by decide) (q34))
      refine ⟨i158, ?_⟩
      have hI := iv_aJ (i := (1 : Int32).toNatClampNeg) (v := x157) hI o_v0 (by decide) ea152 o_a152 (by decide)
      obtain ⟨a159, ea159, o_a159, l_a159⟩ := shl 9 rfl hI o_v0
      refine ⟨a159, ea159, ?_⟩
      obtain ⟨a160, ea160, o_a160, l_a160⟩ := shl 10 rfl hI o_v0
      refine ⟨a160, ea160, ?_⟩
      refine ⟨o_a160, ?_⟩
      refine ⟨(vin l_a160 (m := 5) (by decide) (q35)), ?_⟩
      intro x161 ex161
      intro x162 ex162
      intro x163 ex163
      refine ⟨o_a159, ?_⟩
      intro x164 ex164
      have i165 : vp_in (2 : Int32) (hN _ a159) := (vin l_a159 (m := 5) (by decide) (q35))
      refine ⟨i165, ?_⟩
      have hI := iv_aJ (i := (2 : Int32).toNatClampNeg) (v := x164) hI o_v0 (by decide) ea159 o_a159 (by decide)
      obtain ⟨a166, ea166, o_a166, l_a166⟩ := shl 9 rfl hI o_v0
      refine ⟨a166, ea166, ?_⟩
      obtain ⟨a167, ea167, o_a167, l_a167⟩ := shl 10 rfl hI o_v0
      refine ⟨a167, ea167, ?_⟩
      refine ⟨o_a167, ?_⟩
      refine ⟨(vin l_a167 (m := 5) (by decide) (q36)), ?_⟩
      intro x168 ex168
      intro x169 ex169
      refine ⟨o_a166, ?_⟩
      intro x170 ex170
      have i171 : vp_in (3 : Int32) (hN _ a166) := (vin l_a166 (m := 5) (by decide) (q36))
      refine ⟨i171, ?_⟩
      have hI := iv_aJ (i := (3 : Int32).toNatClampNeg) (v := x170) hI o_v0 (by decide) ea166 o_a166 (by decide)
      obtain ⟨a172, ea172, o_a172, l_a172⟩ := shl 9 rfl hI o_v0
      refine ⟨a172, ea172, ?_⟩
      obtain ⟨a173, ea173, o_a173, l_a173⟩ := shl 10 rfl hI o_v0
      refine ⟨a173, ea173, ?_⟩
      refine ⟨o_a173, ?_⟩
      refine ⟨(vin l_a173 (m := 5) (by decide) (q37)), ?_⟩
      intro x174 ex174
      intro x175 ex175
      refine ⟨o_a172, ?_⟩
      intro x176 ex176
      have i177 : vp_in (4 : Int32) (hN _ a172) := (vin l_a172 (m := 5) (by decide) (q37))
      refine ⟨i177, ?_⟩
      have hI := iv_aJ (i := (4 : Int32).toNatClampNeg) (v := x176) hI o_v0 (by decide) ea172 o_a172 (by decide)
      obtain ⟨a178, ea178, o_a178, l_a178⟩ := shl 9 rfl hI o_v0
      refine ⟨a178, ea178, ?_⟩
      refine ⟨o_a178, ?_⟩
      refine ⟨(vin l_a178 (m := 5) (by decide) (q33)), ?_⟩
      intro x179 ex179
      obtain ⟨a180, ea180, o_a180, l_a180⟩ := shl 9 rfl hI o_v0
      refine ⟨a180, ea180, ?_⟩
      refine ⟨o_a180, ?_⟩
      refine ⟨(vin l_a180 (m := 5) (by decide) (q34)), ?_⟩
      intro x181 ex181
      obtain ⟨a182, ea182, o_a182, l_a182⟩ := shl 9 rfl hI o_v0
      refine ⟨a182, ea182, ?_⟩
      refine ⟨o_a182, ?_⟩
      refine ⟨(vin l_a182 (m := 5) (by decide) (q35)), ?_⟩
      intro x183 ex183
      obtain ⟨a184, ea184, o_a184, l_a184⟩ := shl 9 rfl hI o_v0
      refine ⟨a184, ea184, ?_⟩
      refine ⟨o_a184, ?_⟩
      refine ⟨(vin l_a184 (m := 5) (by decide) (q36)), ?_⟩
      intro x185 ex185
      obtain ⟨a186, ea186, o_a186, l_a186⟩ := shl 9 rfl hI o_v0
      refine ⟨a186, ea186, ?_⟩
      refine ⟨o_a186, ?_⟩
      refine ⟨(vin l_a186 (m := 5) (by decide) (q37)), ?_⟩
      intro x187 ex187
      exact hq _ _ hI g0
set_option maxHeartbeats 4000000 in
set_option maxRecDepth 20000 in
theorem m_X1_wetOf {v0 : Nat} {v1 : Nat} {v2 : Nat} {v3 : Int32} {v4 : Nat} {v5 : Int32} {Q : Int64 → HS → Prop} {S : HS} (hI : IV S) (o_v0 : ob S v0 1) (o_v1 : ob S v1 6) (o_v2 : ob S v2 5) (o_v4 : ob S v4 3)     (hq : ∀ (r : Int64) (T : HS), IV T → Gr S T → Q r T) : P_X1_wetOf v0 v1 v2 v3 v4 v5 Q S := by
  have g0 := gr_rf S
  refine u_X1_wetOf ?_
  refine u_X1_wetOf_0 ?_
  refine ⟨o_v0, ?_⟩
  refine m_X1_lay hI o_v0 o_v2 o_v4 (fun S2 hI g3 => ?_)
  have o_v0 := gr_ob g3 o_v0
  have o_v1 := gr_ob g3 o_v1
  have o_v2 := gr_ob g3 o_v2
  have o_v4 := gr_ob g3 o_v4
  have g0 := gr_tr g0 g3
  intro _
  refine m_X1_soak hI o_v0 o_v1 (fun x4 S5 hI g6 => ?_)
  have o_v0 := gr_ob g6 o_v0
  have o_v1 := gr_ob g6 o_v1
  have o_v2 := gr_ob g6 o_v2
  have o_v4 := gr_ob g6 o_v4
  have g0 := gr_tr g0 g6
  intro _
  exact hq _ _ hI g0
set_option maxHeartbeats 4000000 in
set_option maxRecDepth 20000 in
theorem m_X1_bestSpeed {v0 : Nat} {v1 : Nat} {v2 : Nat} {v3 : Int32} {v4 : Nat} {Q : Int32 → HS → Prop} {S : HS} (hI : IV S) (o_v0 : ob S v0 1) (o_v1 : ob S v1 6) (o_v2 : ob S v2 5) (o_v4 : ob S v4 3)     (hq : ∀ (r : Int32) (T : HS), IV T → Gr S T → Q r T) : P_X1_bestSpeed v0 v1 v2 v3 v4 Q S := by
  have g0 := gr_rf S
  refine u_X1_bestSpeed ?_
  refine u_X1_bestSpeed_0 ?_
  refine ⟨o_v1, ?_⟩
  intro x1 ex1
  have r_x1 : (0 : Int32) ≤ x1 ∧ x1 ≤ (9 : Int32) := by rw [ex1]; exact nu 4 rfl hI o_v1
  intro x2 ex2
  have r_x2 : (0 : Int32) ≤ x2 ∧ x2 ≤ (9 : Int32) := by rw [ex2]; exact nu 4 rfl hI o_v1
  refine i_X1_bestSpeed_17 (fun (y0 : Nat) (y1 : Nat) (y2 : Nat) (y3 : Int32) (y4 : Nat) (y5 : Int32) (y6 : Int64) (y8 : Int32) (Z : HS) => ((2147483647 : Int32).toInt - y8.toInt).toNat) (fun (y0 : Nat) (y1 : Nat) (y2 : Nat) (y3 : Int32) (y4 : Nat) (y5 : Int32) (y6 : Int64) (y8 : Int32) (Z : HS) => (IV Z) ∧ (Gr S Z) ∧ (v0 = y0) ∧ (v1 = y1) ∧ (v2 = y2) ∧ (v3 = y3) ∧ (v4 = y4)) ?_ _ _ _ _ _ _ _ _ _ ⟨hI, (gr_rf _), rfl, rfl, rfl, rfl, rfl⟩
  intro w5 w7 w9 w11 w13 w15 w16 w17 S3 X18 ⟨hI, gL4, q6, q8, q10, q12, q14⟩ ih19
  subst q6
  subst q8
  subst q10
  subst q12
  subst q14
  have o_v0 := gr_ob gL4 o_v0
  have o_v1 := gr_ob gL4 o_v1
  have o_v2 := gr_ob gL4 o_v2
  have o_v4 := gr_ob gL4 o_v4
  have g0 := gr_tr g0 gL4
  refine u_X1_bestSpeed_17 ?_
  refine ⟨o_v1, ?_⟩
  intro x20 ex20
  have r_x20 : (0 : Int32) ≤ x20 ∧ x20 ≤ (9 : Int32) := by rw [ex20]; exact nu 5 rfl hI o_v1
  refine ⟨fun c21 => ?_, fun c21 => ?_⟩
  · exact hq _ _ hI g0
  · refine ⟨o_v0, ?_⟩
    refine m_X1_wetOf hI o_v0 o_v1 o_v2 o_v4 (fun x22 S23 hI g24 => ?_)
    have o_v0 := gr_ob g24 o_v0
    have o_v1 := gr_ob g24 o_v1
    have o_v2 := gr_ob g24 o_v2
    have o_v4 := gr_ob g24 o_v4
    have g0 := gr_tr g0 g24
    have gL4 := gr_tr gL4 g24
    intro _
    refine ⟨fun c25 => ?_, fun c25 => ?_⟩
    · refine u_X1_bestSpeed_55 ?_
      intro x26 ex26
      exact ih19 _ _ _ _ _ _ _ _ _ ⟨hI, gL4, rfl, rfl, rfl, rfl, rfl⟩ (mu_up (q31 r_x20 c21 ex26) (q32 r_x20 c21 ex26))
    · refine u_X1_bestSpeed_55 ?_
      intro x27 ex27
      exact ih19 _ _ _ _ _ _ _ _ _ ⟨hI, gL4, rfl, rfl, rfl, rfl, rfl⟩ (mu_up (q31 r_x20 c21 ex27) (q32 r_x20 c21 ex27))
set_option maxHeartbeats 4000000 in
set_option maxRecDepth 20000 in
theorem m_X1_legsOf {v0 : Nat} {Q : Int32 → HS → Prop} {S : HS} (hI : IV S) (o_v0 : ob S v0 8)     (hq : ∀ (r : Int32) (T : HS), IV T → Gr S T → (S = T) → Q r T) : P_X1_legsOf v0 Q S := by
  have g0 := gr_rf S
  refine u_X1_legsOf ?_
  refine u_X1_legsOf_0 ?_
  refine ⟨o_v0, ?_⟩
  intro x1 ex1
  have r_x1 : (0 : Int32) ≤ x1 ∧ x1 ≤ (12 : Int32) := by rw [ex1]; exact nu 13 rfl hI o_v0
  intro x2 ex2
  have r_x2 : (0 : Int32) ≤ x2 ∧ x2 ≤ (6 : Int32) := by rw [ex2]; exact nu 11 rfl hI o_v0
  exact hq _ _ hI g0 rfl
set_option maxHeartbeats 4000000 in
set_option maxRecDepth 20000 in
theorem m_X6_canGo {v0 : Nat} {v1 : Int32} {Q : Int32 → HS → Prop} {S : HS} (hI : IV S) (o_v0 : ob S v0 6)     (hq : ∀ (r : Int32) (T : HS), IV T → Gr S T → bl r → (S = T) → Q r T) : P_X6_canGo v0 v1 Q S := by
  have g0 := gr_rf S
  refine u_X6_canGo ?_
  refine u_X6_canGo_0 ?_
  refine ⟨o_v0, ?_⟩
  intro x1 ex1
  have r_x1 : (0 : Int32) ≤ x1 ∧ x1 ≤ (9 : Int32) := by rw [ex1]; exact nu 4 rfl hI o_v0
  refine ⟨fun c2 => ?_, fun c2 => ?_⟩
  · exact hq _ _ hI g0 (Or.inl rfl) rfl
  · intro x3 ex3
    have r_x3 : (0 : Int32) ≤ x3 ∧ x3 ≤ (9 : Int32) := by rw [ex3]; exact nu 5 rfl hI o_v0
    refine ⟨fun c4 => ?_, fun c4 => ?_⟩
    · exact hq _ _ hI g0 (Or.inl rfl) rfl
    · refine ⟨fun c5 => ?_, fun c5 => ?_⟩
      · exact hq _ _ hI g0 (Or.inl rfl) rfl
      · refine ⟨fun c6 => ?_, fun c6 => ?_⟩
        · exact hq _ _ hI g0 (Or.inl rfl) rfl
        · exact hq _ _ hI g0 (Or.inr rfl) rfl
set_option maxHeartbeats 4000000 in
set_option maxRecDepth 20000 in
theorem m_X8_hasRoad {v0 : Nat} {v1 : Int32} {Q : Int32 → HS → Prop} {S : HS} (hI : IV S) (o_v0 : ob S v0 8)     (hq : ∀ (r : Int32) (T : HS), IV T → Gr S T → bl r → (S = T) ∧ (r = 1 → 0 ≤ v1 ∧ v1 < 12) → Q r T) : P_X8_hasRoad v0 v1 Q S := by
  have g0 := gr_rf S
  refine u_X8_hasRoad ?_
  refine u_X8_hasRoad_0 ?_
  refine ⟨fun c1 => ?_, fun c1 => ?_⟩
  · exact hq _ _ hI g0 (Or.inl rfl) ⟨rfl, (q23 c1)⟩
  · refine ⟨o_v0, ?_⟩
    intro x2 ex2
    have r_x2 : (0 : Int32) ≤ x2 ∧ x2 ≤ (12 : Int32) := by rw [ex2]; exact nu 13 rfl hI o_v0
    refine ⟨fun c3 => ?_, fun c3 => ?_⟩
    · exact hq _ _ hI g0 (Or.inl rfl) ⟨rfl, (q24 c1 r_x2 c3)⟩
    · obtain ⟨a4, ea4, o_a4, l_a4⟩ := shl 17 rfl hI o_v0
      refine ⟨a4, ea4, ?_⟩
      refine ⟨o_a4, ?_⟩
      have n_a4 : nI (hN S a4) = 12 := by rw [show hN S a4 = 12 from l_a4]; decide
      refine ⟨fun c5 => ?_, fun c5 => ?_⟩
      · rw [n_a4] at c5
        exact hq _ _ hI g0 (Or.inl rfl) ⟨rfl, (q25 c1 r_x2 c3 c5)⟩
      · rw [n_a4] at c5
        exact hq _ _ hI g0 (Or.inr rfl) ⟨rfl, (q26 c1 r_x2 c3 c5)⟩
set_option maxHeartbeats 4000000 in
set_option maxRecDepth 20000 in
theorem m_X8_hasSeen {v0 : Nat} {v1 : Int32} {Q : Int32 → HS → Prop} {S : HS} (hI : IV S) (o_v0 : ob S v0 8)     (hq : ∀ (r : Int32) (T : HS), IV T → Gr S T → bl r → (S = T) ∧ (r = 1 → 0 ≤ v1 ∧ v1 < 4) → Q r T) : P_X8_hasSeen v0 v1 Q S := by
  have g0 := gr_rf S
  refine u_X8_hasSeen ?_
  refine u_X8_hasSeen_0 ?_
  refine ⟨fun c1 => ?_, fun c1 => ?_⟩
  · exact hq _ _ hI g0 (Or.inl rfl) ⟨rfl, (q19 c1)⟩
  · refine ⟨o_v0, ?_⟩
    intro x2 ex2
    have r_x2 : (0 : Int32) ≤ x2 ∧ x2 ≤ (4 : Int32) := by rw [ex2]; exact nu 15 rfl hI o_v0
    refine ⟨fun c3 => ?_, fun c3 => ?_⟩
    · exact hq _ _ hI g0 (Or.inl rfl) ⟨rfl, (q20 c1 r_x2 c3)⟩
    · obtain ⟨a4, ea4, o_a4, l_a4⟩ := shl 19 rfl hI o_v0
      refine ⟨a4, ea4, ?_⟩
      refine ⟨o_a4, ?_⟩
      have n_a4 : nI (hN S a4) = 4 := by rw [show hN S a4 = 4 from l_a4]; decide
      refine ⟨fun c5 => ?_, fun c5 => ?_⟩
      · rw [n_a4] at c5
        exact hq _ _ hI g0 (Or.inl rfl) ⟨rfl, (q21 c1 r_x2 c3 c5)⟩
      · rw [n_a4] at c5
        exact hq _ _ hI g0 (Or.inr rfl) ⟨rfl, (q22 c1 r_x2 c3 c5)⟩
set_option maxHeartbeats 4000000 in
set_option maxRecDepth 20000 in
theorem m_X8_hasWalker {v0 : Nat} {v1 : Int32} {Q : Int32 → HS → Prop} {S : HS} (hI : IV S) (o_v0 : ob S v0 8)     (hq : ∀ (r : Int32) (T : HS), IV T → Gr S T → bl r → (S = T) ∧ (r = 1 → 0 ≤ v1 ∧ v1 < 4) → Q r T) : P_X8_hasWalker v0 v1 Q S := by
  have g0 := gr_rf S
  refine u_X8_hasWalker ?_
  refine u_X8_hasWalker_0 ?_
  refine ⟨fun c1 => ?_, fun c1 => ?_⟩
  · exact hq _ _ hI g0 (Or.inl rfl) ⟨rfl, (q19 c1)⟩
  · refine ⟨o_v0, ?_⟩
    intro x2 ex2
    have r_x2 : (0 : Int32) ≤ x2 ∧ x2 ≤ (4 : Int32) := by rw [ex2]; exact nu 14 rfl hI o_v0
    refine ⟨fun c3 => ?_, fun c3 => ?_⟩
    · exact hq _ _ hI g0 (Or.inl rfl) ⟨rfl, (q20 c1 r_x2 c3)⟩
    · obtain ⟨a4, ea4, o_a4, l_a4⟩ := shl 18 rfl hI o_v0
      refine ⟨a4, ea4, ?_⟩
      refine ⟨o_a4, ?_⟩
      have n_a4 : nI (hN S a4) = 4 := by rw [show hN S a4 = 4 from l_a4]; decide
      refine ⟨fun c5 => ?_, fun c5 => ?_⟩
      · rw [n_a4] at c5
        exact hq _ _ hI g0 (Or.inl rfl) ⟨rfl, (q21 c1 r_x2 c3 c5)⟩
      · rw [n_a4] at c5
        exact hq _ _ hI g0 (Or.inr rfl) ⟨rfl, (q22 c1 r_x2 c3 c5)⟩
set_option maxHeartbeats 4000000 in
set_option maxRecDepth 20000 in
theorem m_X1_fitCode {v0 : Nat} {v1 : Nat} {v2 : Int32} {v3 : Int32} {Q : Int32 → HS → Prop} {S : HS} (hI : IV S) (o_v0 : ob S v0 1) (o_v1 : ob S v1 8)     (hq : ∀ (r : Int32) (T : HS), IV T → Gr S T → Q r T) : P_X1_fitCode v0 v1 v2 v3 Q S := by
  have g0 := gr_rf S
  refine u_X1_fitCode ?_
  refine u_X1_fitCode_0 ?_
  refine ⟨fun c1 => ?_, fun c1 => ?_⟩
  · exact hq _ _ hI g0
  · refine u_X1_legsOf ?_
    refine u_X1_legsOf_0 ?_
    refine ⟨o_v1, ?_⟩
    intro x2 ex2
    have r_x2 : (0 : Int32) ≤ x2 ∧ x2 ≤ (12 : Int32) := by rw [ex2]; exact nu 13 rfl hI o_v1
    intro x3 ex3
    have r_x3 : (0 : Int32) ≤ x3 ∧ x3 ≤ (6 : Int32) := by rw [ex3]; exact nu 11 rfl hI o_v1
    intro _
    refine ⟨fun c4 => ?_, fun c4 => ?_⟩
    · exact hq _ _ hI g0
    · refine ⟨o_v1, ?_⟩
      refine m_X8_hasSeen hI o_v1 (fun x5 S6 hI2 g7 b_x5 p_x5 => ?_)
      obtain ⟨z_S6, p_x5⟩ := p_x5
      subst z_S6
      intro _ _
      have bb_x5 : x5 = 0 ∨ x5 = 1 := b_x5
      refine ⟨fun c8 => ?_, fun c8 => ?_⟩
      · exact hq _ _ hI g0
      · intro x9 ex9
        have r_x9 : (0 : Int32) ≤ x9 ∧ x9 ≤ (6 : Int32) := by rw [ex9]; exact nu 11 rfl hI o_v1
        refine ⟨fun c10 => ?_, fun c10 => ?_⟩
        · intro x11 ex11
          intro x12 ex12
          intro x13 ex13
          intro x14 ex14
          have r_x14 : (0 : Int32) ≤ x14 ∧ x14 ≤ (6 : Int32) := by rw [ex14]; exact nu 11 rfl hI o_v1
          refine ⟨(q384 r_x14), ?_⟩
          intro x15 ex15
          intro x16 ex16
          intro x17 ex17
          have r_x17 : (0 : Int32) ≤ x17 ∧ x17 ≤ (6 : Int32) := by rw [ex17]; exact nu 11 rfl hI o_v1
          refine ⟨(q384 r_x17), ?_⟩
          intro x18 ex18
          obtain ⟨a19, ea19, o_a19, l_a19⟩ := shl 19 rfl hI o_v1
          refine ⟨a19, ea19, ?_⟩
          refine ⟨o_a19, ?_⟩
          refine ⟨(vin l_a19 (m := 4) (by decide) (q230 p_x5 bb_x5 c8)), ?_⟩
          intro x20 ex20
          refine m_X8_hasWalker hI o_v1 (fun x21 S22 hI2 g23 b_x21 p_x21 => ?_)
          obtain ⟨z_S22, p_x21⟩ := p_x21
          subst z_S22
          intro _ _
          have bb_x21 : x21 = 0 ∨ x21 = 1 := b_x21
          refine ⟨fun c24 => ?_, fun c24 => ?_⟩
          · exact hq _ _ hI g0
          · intro x25 ex25
            refine m_X8_hasRoad hI o_v1 (fun x26 S27 hI2 g28 b_x26 p_x26 => ?_)
            obtain ⟨z_S27, p_x26⟩ := p_x26
            subst z_S27
            intro _ _
            have bb_x26 : x26 = 0 ∨ x26 = 1 := b_x26
            refine ⟨fun c29 => ?_, fun c29 => ?_⟩
            · exact hq _ _ hI g0
            · obtain ⟨a30, ea30, o_a30, l_a30⟩ := shl 18 rfl hI o_v1
              refine ⟨a30, ea30, ?_⟩
              refine ⟨o_a30, ?_⟩
              have i32 : vp_in x20 (hN _ a30) := (vin l_a30 (m := 4) (by decide) (q230 p_x21 bb_x21 c24))
              obtain ⟨a31, ea31, o_a31⟩ := ae hI o_a30 (by decide) (by decide) i32
              replace o_a31 : ob _ a31 6 := o_a31
              refine ⟨i32, a31, ea31, ?_⟩
              refine ⟨o_a31, ?_⟩
              refine m_X6_canGo hI o_a31 (fun x33 S34 hI2 g35 b_x33 p_x33 => ?_)
              subst p_x33
              intro _ _
              have bb_x33 : x33 = 0 ∨ x33 = 1 := b_x33
              refine ⟨fun c36 => ?_, fun c36 => ?_⟩
              · obtain ⟨a37, ea37, o_a37, l_a37⟩ := shl 18 rfl hI o_v1
                refine ⟨a37, ea37, ?_⟩
                refine ⟨o_a37, ?_⟩
                have i39 : vp_in x20 (hN _ a37) := (vin l_a37 (m := 4) (by decide) (q230 p_x21 bb_x21 c24))
                obtain ⟨a38, ea38, o_a38⟩ := ae hI o_a37 (by decide) (by decide) i39
                replace o_a38 : ob _ a38 6 := o_a38
                refine ⟨i39, a38, ea38, ?_⟩
                obtain ⟨a40, ea40, o_a40, l_a40⟩ := shl 17 rfl hI o_v1
                refine ⟨a40, ea40, ?_⟩
                intro x41 ex41
                refine ⟨o_a40, ?_⟩
                have i43 : vp_in x41 (hN _ a40) := (vin l_a40 (m := 12) (by decide) (q385 c1 r_x2 r_x3 c4 ex11 ex12 ex13 r_x14 ex15 ex16 r_x17 ex18 ex25 p_x26 bb_x26 c29 ex41))
                obtain ⟨a42, ea42, o_a42⟩ := ae hI o_a40 (by decide) (by decide) i43
                replace o_a42 : ob _ a42 5 := o_a42
                refine ⟨i43, a42, ea42, ?_⟩
                intro x44 ex44
                obtain ⟨a45, ea45, o_a45, l_a45⟩ := shl 15 rfl hI o_v1
                refine ⟨a45, ea45, ?_⟩
                refine ⟨o_a45, ?_⟩
                have i47 : vp_in x15 (hN _ a45) := (vin l_a45 (m := 6) (by decide) (q386 c1 r_x2 r_x3 c4 ex11 ex12 ex13 r_x14 ex15 ex16 r_x17 ex18 ex25 p_x26 bb_x26 c29 ex41 ex44))
                obtain ⟨a46, ea46, o_a46⟩ := ae hI o_a45 (by decide) (by decide) i47
                replace o_a46 : ob _ a46 3 := o_a46
                refine ⟨i47, a46, ea46, ?_⟩
                refine ⟨o_v0, ?_⟩
                refine m_X1_wetOf hI o_v0 o_a38 o_a42 o_a46 (fun x48 S49 hI g50 => ?_)
                have l_a19 := (gr_len g50 o_a19).trans l_a19
                have l_a30 := (gr_len g50 o_a30).trans l_a30
                have l_a37 := (gr_len g50 o_a37).trans l_a37
                have l_a40 := (gr_len g50 o_a40).trans l_a40
                have l_a45 := (gr_len g50 o_a45).trans l_a45
                have o_a19 := gr_ob g50 o_a19
                have o_a30 := gr_ob g50 o_a30
                have o_a31 := gr_ob g50 o_a31
                have o_a37 := gr_ob g50 o_a37
                have o_a38 := gr_ob g50 o_a38
                have o_a40 := gr_ob g50 o_a40
                have o_a42 := gr_ob g50 o_a42
                have o_a45 := gr_ob g50 o_a45
                have o_a46 := gr_ob g50 o_a46
                have o_v0 := gr_ob g50 o_v0
                have o_v1 := gr_ob g50 o_v1
                have g0 := gr_tr g0 g50
                intro _
                refine i_X1_fitCode_141 (fun (y0 : Nat) (y1 : Nat) (y2 : Int32) (y4 : Int32) (y5 : Int32) (y6 : Int32) (y8 : Int32) (Z : HS) => ((2147483647 : Int32).toInt - y8.toInt).toNat) (fun (y0 : Nat) (y1 : Nat) (y2 : Int32) (y4 : Int32) (y5 : Int32) (y6 : Int32) (y8 : Int32) (Z : HS) => (S49 = Z) ∧ (v0 = y0) ∧ (v1 = y1) ∧ (v2 = y2) ∧ (x12 = y4) ∧ (x15 = y5) ∧ (x18 = y6) ∧ (0 ≤ y8)) ?_ _ _ _ _ _ _ _ _ ⟨rfl, rfl, rfl, rfl, rfl, rfl, rfl, (q43)⟩
                intro w53 w55 w57 w59 w61 w63 w65 S51 X66 ⟨eS51, q54, q56, q58, q60, q62, q64, i1⟩ ih67
                subst q54
                subst q56
                subst q58
                subst q60
                subst q62
                subst q64
                subst eS51
                refine u_X1_fitCode_141 ?_
                refine ⟨fun c68 => ?_, fun c68 => ?_⟩
                · intro x69 ex69
                  intro x70 ex70
                  exact hq _ _ hI g0
                · refine ⟨o_v0, ?_⟩
                  obtain ⟨a71, ea71, o_a71, l_a71⟩ := shl 9 rfl hI o_v0
                  refine ⟨a71, ea71, ?_⟩
                  refine ⟨o_a71, ?_⟩
                  refine ⟨(vin l_a71 (m := 5) (by decide) (q137 i1 c68)), ?_⟩
                  intro x72 ex72
                  refine ⟨o_v1, ?_⟩
                  obtain ⟨a73, ea73, o_a73, l_a73⟩ := shl 20 rfl hI o_v1
                  refine ⟨a73, ea73, ?_⟩
                  refine ⟨o_a73, ?_⟩
                  intro x74 ex74
                  refine ⟨(vin l_a73 (m := 20) (by decide) (q387 p_x5 bb_x5 c8 i1 c68 ex74)), ?_⟩
                  intro x75 ex75
                  refine ⟨fun c76 => ?_, fun c76 => ?_⟩
                  · intro x77 ex77
                    exact ih67 _ _ _ _ _ _ _ _ ⟨rfl, rfl, rfl, rfl, rfl, rfl, rfl, (q388 p_x5 bb_x5 c8 i1 c68 ex74 ex77)⟩ (mu_up (q389 p_x5 bb_x5 c8 i1 c68 ex74 ex77) (q390 p_x5 bb_x5 c8 i1 c68 ex74 ex77))
                  · exact hq _ _ hI g0
              · exact hq _ _ hI g0
        · exact hq _ _ hI g0
