section
set_option maxHeartbeats 1000000 in
theorem tq_X9_face {A : AS} {G : GC} {D : DY} {v0 : Nat} {v1 : Int32} {v2 : Int32} {v3 : Int32} {v4 : Int32} {v5 : Int32} {v6 : Int32} {v7 : Int32} {Q : Int64 → HS → Prop} {S : HS} (hI : IV S) (oc : ob S v0 9) {rr w1 w2 : Nat} (J : CJ v0 rr w1 w2 S) (hc : Cnt w1 A S) (ct : CtB w1 A G S S) (ab : ABd A) (gb : GBd A G) (ge : GBe A G) {lgo b0 b1 : Nat} (lg : LG v0 lgo b0 b1 S) {dy : Nat} (e6 : fR S v0 6 = some dy) (cd : CDd dy D S) (db : DBd A D) (wd : WYd v0 A G S) (h : P_X9_face v0 v1 v2 v3 v4 v5 v6 v7 Q S) : P_X9_face v0 v1 v2 v3 v4 v5 v6 v7 (fun r T => Q r T ∧ fI T v0 9 = whface A G v1 v2 v3 v4 v5 v6) S := by
  delta P_X9_face P_X9_face_0
  delta P_X9_face P_X9_face_0 at h
  have h8 := wt_of hI J hc ct ab
  refine cm_X9_isFace (sp_X9_isFace h) h (fun x1 S2 hp h g3 b4 => ?_)
  have h := h g3 b4
  obtain ⟨-, hS, q5⟩ := hp
  subst hS
  refine ⟨?_, ?_⟩
  · intro c6
    have h := h.1 c6
    have Nc6 := an0 q5 c6
    delta P_X9_face_23
    obtain ⟨o7, h⟩ := h
    refine ⟨o7, ?_⟩
    refine cm_X9_refusedBy (tq_X9_refusedBy h) h (fun x8 S9 hp h g10 b11 => ?_)
    have h := h g10 b11
    have V12 := hp.2
    have oc := gr_ob g10 oc
    refine ⟨?_, ?_⟩
    · intro c13
      have h := h.1 c13
      obtain ⟨a14, ea14, h⟩ := h
      refine ⟨a14, ea14, ?_⟩
      obtain ⟨a15, ea15, h⟩ := h
      refine ⟨a15, ea15, ?_⟩
      obtain ⟨o16, h⟩ := h
      refine ⟨o16, ?_⟩
      obtain ⟨a17, ea17, h⟩ := h
      refine ⟨a17, ea17, ?_⟩
      obtain ⟨o18, h⟩ := h
      refine ⟨o18, ?_⟩
      obtain ⟨o19, h⟩ := h
      refine ⟨o19, ?_⟩
      obtain ⟨a20, ea20, h⟩ := h
      refine ⟨a20, ea20, ?_⟩
      obtain ⟨a21, ea21, h⟩ := h
      refine ⟨a21, ea21, ?_⟩
      obtain ⟨o22, h⟩ := h
      refine ⟨o22, ?_⟩
      obtain ⟨a23, ea23, h⟩ := h
      refine ⟨a23, ea23, ?_⟩
      obtain ⟨o24, h⟩ := h
      refine ⟨o24, ?_⟩
      obtain ⟨o25, h⟩ := h
      refine ⟨o25, ?_⟩
      obtain ⟨a26, ea26, h⟩ := h
      refine ⟨a26, ea26, ?_⟩
      obtain ⟨a27, ea27, h⟩ := h
      refine ⟨a27, ea27, ?_⟩
      obtain ⟨o28, h⟩ := h
      refine ⟨o28, ?_⟩
      obtain ⟨a29, ea29, h⟩ := h
      refine ⟨a29, ea29, ?_⟩
      obtain ⟨o30, h⟩ := h
      refine ⟨o30, ?_⟩
      obtain ⟨o31, h⟩ := h
      refine ⟨o31, ?_⟩
      obtain ⟨a32, ea32, h⟩ := h
      refine ⟨a32, ea32, ?_⟩
      obtain ⟨o33, h⟩ := h
      refine ⟨o33, ?_⟩
      refine cm_X1_wetOf (kq_X1_wetOf h) h (fun x34 S35 hp h g36 => ?_)
      have h := h g36
      have V37 := (hp.2.2 (9, 9) (by decide) v0 oc).trans V12
      have oc := gr_ob g36 oc
      obtain ⟨a38, ea38, h⟩ := h
      refine ⟨a38, ea38, ?_⟩
      obtain ⟨o39, h⟩ := h
      refine ⟨o39, ?_⟩
      obtain ⟨a40, ea40, h⟩ := h
      refine ⟨a40, ea40, ?_⟩
      obtain ⟨o41, h⟩ := h
      refine ⟨o41, ?_⟩
      obtain ⟨o42, h⟩ := h
      refine ⟨o42, ?_⟩
      intro x43 ex43
      have h := h x43 ex43
      refine cm_X9_fraction (kq_X9_fraction h) h (fun x44 S45 hp h g46 => ?_)
      have h := h g46
      have V47 := (hp.2.2 (9, 9) (by decide) v0 oc).trans V37
      have oc := gr_ob g46 oc
      exact ⟨h, by rw [V47]; first | (simp only [whface, whair, whfits, whlies, whday, whgot, whon, whwalker, whroad, trN, trOK, dc_T, dc_F, not_false_eq_true, not_true_eq_false, and_true, true_and, and_false, false_and, and_self, true_or, or_true, false_or, or_false, or_self, Nc6]; done)⟩
    · intro c48
      have h := h.2 c48
      exact ⟨h, by rw [V12]; first | (simp only [whface, whair, whfits, whlies, whday, whgot, whon, whwalker, whroad, trN, trOK, dc_T, dc_F, not_false_eq_true, not_true_eq_false, and_true, true_and, and_false, false_and, and_self, true_or, or_true, false_or, or_false, or_self, Nc6]; done)⟩
  · intro c49
    have h := h.2 c49
    have Nc49 := an1 q5 c49
    obtain ⟨o50, h⟩ := h
    refine ⟨o50, ?_⟩
    refine cm_X9_legTrouble (sp_X9_legTrouble hI J hc ct ab gb h) h (fun x51 S52 hp h g53 => ?_)
    have h := h g53
    obtain ⟨-, hS, q54⟩ := hp
    subst hS
    delta P_X9_face_23
    obtain ⟨o55, h⟩ := h
    refine ⟨o55, ?_⟩
    refine cm_X9_refusedBy (tq_X9_refusedBy h) h (fun x56 S57 hp h g58 b59 => ?_)
    have h := h g58 b59
    have V60 := hp.2
    have oc := gr_ob g58 oc
    refine ⟨?_, ?_⟩
    · intro c61
      have h := h.1 c61
      obtain ⟨a62, ea62, h⟩ := h
      refine ⟨a62, ea62, ?_⟩
      obtain ⟨a63, ea63, h⟩ := h
      refine ⟨a63, ea63, ?_⟩
      obtain ⟨o64, h⟩ := h
      refine ⟨o64, ?_⟩
      obtain ⟨a65, ea65, h⟩ := h
      refine ⟨a65, ea65, ?_⟩
      obtain ⟨o66, h⟩ := h
      refine ⟨o66, ?_⟩
      obtain ⟨o67, h⟩ := h
      refine ⟨o67, ?_⟩
      obtain ⟨a68, ea68, h⟩ := h
      refine ⟨a68, ea68, ?_⟩
      obtain ⟨a69, ea69, h⟩ := h
      refine ⟨a69, ea69, ?_⟩
      obtain ⟨o70, h⟩ := h
      refine ⟨o70, ?_⟩
      obtain ⟨a71, ea71, h⟩ := h
      refine ⟨a71, ea71, ?_⟩
      obtain ⟨o72, h⟩ := h
      refine ⟨o72, ?_⟩
      obtain ⟨o73, h⟩ := h
      refine ⟨o73, ?_⟩
      obtain ⟨a74, ea74, h⟩ := h
      refine ⟨a74, ea74, ?_⟩
      obtain ⟨a75, ea75, h⟩ := h
      refine ⟨a75, ea75, ?_⟩
      obtain ⟨o76, h⟩ := h
      refine ⟨o76, ?_⟩
      obtain ⟨a77, ea77, h⟩ := h
      refine ⟨a77, ea77, ?_⟩
      obtain ⟨o78, h⟩ := h
      refine ⟨o78, ?_⟩
      obtain ⟨o79, h⟩ := h
      refine ⟨o79, ?_⟩
      obtain ⟨a80, ea80, h⟩ := h
      refine ⟨a80, ea80, ?_⟩
      obtain ⟨o81, h⟩ := h
      refine ⟨o81, ?_⟩
      refine cm_X1_wetOf (kq_X1_wetOf h) h (fun x82 S83 hp h g84 => ?_)
      have h := h g84
      have V85 := (hp.2.2 (9, 9) (by decide) v0 oc).trans V60
      have oc := gr_ob g84 oc
      obtain ⟨a86, ea86, h⟩ := h
      refine ⟨a86, ea86, ?_⟩
      obtain ⟨o87, h⟩ := h
      refine ⟨o87, ?_⟩
      obtain ⟨a88, ea88, h⟩ := h
      refine ⟨a88, ea88, ?_⟩
      obtain ⟨o89, h⟩ := h
      refine ⟨o89, ?_⟩
      obtain ⟨o90, h⟩ := h
      refine ⟨o90, ?_⟩
      intro x91 ex91
      have h := h x91 ex91
      refine cm_X9_fraction (kq_X9_fraction h) h (fun x92 S93 hp h g94 => ?_)
      have h := h g94
      have V95 := (hp.2.2 (9, 9) (by decide) v0 oc).trans V85
      have oc := gr_ob g94 oc
      exact ⟨h, by rw [V95, q54]; first | (simp only [whface, whair, whfits, whlies, whday, whgot, whon, whwalker, whroad, trN, trOK, dc_T, dc_F, not_false_eq_true, not_true_eq_false, and_true, true_and, and_false, false_and, and_self, true_or, or_true, false_or, or_false, or_self, Nc49]; done)⟩
    · intro c96
      have h := h.2 c96
      exact ⟨h, by rw [V60, q54]; first | (simp only [whface, whair, whfits, whlies, whday, whgot, whon, whwalker, whroad, trN, trOK, dc_T, dc_F, not_false_eq_true, not_true_eq_false, and_true, true_and, and_false, false_and, and_self, true_or, or_true, false_or, or_false, or_self, Nc49]; done)⟩

set_option maxHeartbeats 1000000 in
theorem tq_X11_face {A : AS} {G : GC} {D : DY} {v0 : Nat} {v1 : Int32} {v2 : Int32} {v3 : Int32} {v4 : Int32} {v5 : Int32} {v6 : Int32} {v7 : Int32} {Q : Int64 → HS → Prop} {S : HS} (hI : IV S) (oc : ob S v0 11) (hm : HM v0 A G S) (ab : ABd A) (gb : GBd A G) (ge : GBe A G) (md : MDd v0 D S) (db : DBd A D) (h : P_X11_face v0 v1 v2 v3 v4 v5 v6 v7 Q S) : P_X11_face v0 v1 v2 v3 v4 v5 v6 v7 (fun r T => Q r T ∧ fI T v0 1 = whface A G v1 v2 v3 v4 v5 v6) S := by
  delta P_X11_face P_X11_face_0
  have oc0 := oc
  obtain ⟨o1, h⟩ := h
  refine ⟨o1, ?_⟩
  intro S2 eS2
  have h := h S2 eS2
  have hE := m_start hI eS2
  have hm := hm_0 hm oc eS2
  have md := md_I md eS2 (by decide) (by decide) (by decide) (by decide)
  have oc := ob_wI oc eS2
  refine cm_X11_in (sq_X11_face h) h (fun x3 S4 hp h g5 b6 => ?_)
  have h := h g5 b6
  obtain ⟨-, hS, q7⟩ := hp
  subst hS
  refine ⟨?_, ?_⟩
  · intro c8
    have h := h.1 c8
    have Nc8 := an0 q7 c8
    delta P_X11_face_30
    refine ⟨?_, ?_⟩
    · intro c9
      have h := h.1 c9
      have Mc9 := Int32.not_lt.mpr c9
      obtain ⟨o10, h⟩ := h
      refine ⟨o10, ?_⟩
      refine cm_X11_partsOf (kq_X11_partsOf h) h (fun x11 S12 hp h g13 => ?_)
      have h := h g13
      have oc := gr_ob g13 oc
      refine cm_X11_told (tq_X11_told h) h (fun x14 S15 hp h g16 => ?_)
      have h := h g16
      have V17 := hp.2
      have oc := gr_ob g16 oc
      exact ⟨h, by rw [V17]; first | (simp only [whface, whair, whfits, whlies, whday, whgot, whon, whwalker, whroad, trN, trOK, dc_T, dc_F, not_false_eq_true, not_true_eq_false, and_true, true_and, and_false, false_and, and_self, true_or, or_true, false_or, or_false, or_self, Nc8, c9, Mc9]; done) | exact absurd c9 (by decide)⟩
    · intro c18
      have h := h.2 c18
      have Mc18 := Int32.not_le.mp c18
      obtain ⟨o19, h⟩ := h
      refine ⟨o19, ?_⟩
      refine cm_X11_refused (tq_X11_refused h) h (fun x20 S21 hp h g22 => ?_)
      have h := h g22
      have V23 := hp.2
      have oc := gr_ob g22 oc
      exact ⟨h, by rw [V23]; first | (simp only [whface, whair, whfits, whlies, whday, whgot, whon, whwalker, whroad, trN, trOK, dc_T, dc_F, not_false_eq_true, not_true_eq_false, and_true, true_and, and_false, false_and, and_self, true_or, or_true, false_or, or_false, or_self, Nc8, c18, Mc18]; done) | exact absurd c18 (by decide)⟩
  · intro c24
    have h := h.2 c24
    have Nc24 := an1 q7 c24
    refine cm_X11_refuses (sp_X11_refuses hm ab hE h) h (fun x25 S26 hp h g27 => ?_)
    have h := h g27
    obtain ⟨-, hS, q28⟩ := hp
    subst hS
    delta P_X11_face_30
    refine ⟨?_, ?_⟩
    · intro c29
      have h := h.1 c29
      have Zc29 := lg_le0 (by rw [← q28]; exact c29)
      obtain ⟨o30, h⟩ := h
      refine ⟨o30, ?_⟩
      refine cm_X11_partsOf (kq_X11_partsOf h) h (fun x31 S32 hp h g33 => ?_)
      have h := h g33
      have oc := gr_ob g33 oc
      refine cm_X11_told (tq_X11_told h) h (fun x34 S35 hp h g36 => ?_)
      have h := h g36
      have V37 := hp.2
      have oc := gr_ob g36 oc
      exact ⟨h, by rw [V37]; first | (simp only [whface, whair, whfits, whlies, whday, whgot, whon, whwalker, whroad, trN, trOK, dc_T, dc_F, not_false_eq_true, not_true_eq_false, and_true, true_and, and_false, false_and, and_self, true_or, or_true, false_or, or_false, or_self, Nc24, Zc29]; done)⟩
    · intro c38
      have h := h.2 c38
      obtain ⟨o39, h⟩ := h
      refine ⟨o39, ?_⟩
      refine cm_X11_refused (tq_X11_refused h) h (fun x40 S41 hp h g42 => ?_)
      have h := h g42
      have V43 := hp.2
      have oc := gr_ob g42 oc
      exact ⟨h, by rw [V43, q28]; first | (simp only [whface, whair, whfits, whlies, whday, whgot, whon, whwalker, whroad, trN, trOK, dc_T, dc_F, not_false_eq_true, not_true_eq_false, and_true, true_and, and_false, false_and, and_self, true_or, or_true, false_or, or_false, or_self, Nc24]; done)⟩

set_option maxHeartbeats 1000000 in
theorem tq_X9_wet {A : AS} {G : GC} {D : DY} {v0 : Nat} {v1 : Int32} {v2 : Int32} {v3 : Int32} {v4 : Int32} {v5 : Int32} {v6 : Int32} {Q : Int64 → HS → Prop} {S : HS} (hI : IV S) (oc : ob S v0 9) {rr w1 w2 : Nat} (J : CJ v0 rr w1 w2 S) (hc : Cnt w1 A S) (ct : CtB w1 A G S S) (ab : ABd A) (gb : GBd A G) (ge : GBe A G) {lgo b0 b1 : Nat} (lg : LG v0 lgo b0 b1 S) {dy : Nat} (e6 : fR S v0 6 = some dy) (cd : CDd dy D S) (db : DBd A D) (wd : WYd v0 A G S) (h : P_X9_wet v0 v1 v2 v3 v4 v5 v6 Q S) : P_X9_wet v0 v1 v2 v3 v4 v5 v6 (fun r T => Q r T ∧ fI T v0 9 = lgN A G v1 v2 v3 v4 v5) S := by
  delta P_X9_wet P_X9_wet_0
  have h8 := wt_of hI J hc ct ab
  obtain ⟨o1, h⟩ := h
  refine ⟨o1, ?_⟩
  refine cm_X9_legTrouble (sp_X9_legTrouble hI J hc ct ab gb h) h (fun x2 S3 hp h g4 => ?_)
  have h := h g4
  obtain ⟨-, hS, q5⟩ := hp
  subst hS
  refine cm_X9_refusedBy (tq_X9_refusedBy h) h (fun x6 S7 hp h g8 b9 => ?_)
  have h := h g8 b9
  have V10 := hp.2
  have oc := gr_ob g8 oc
  refine ⟨?_, ?_⟩
  · intro c11
    have h := h.1 c11
    obtain ⟨a12, ea12, h⟩ := h
    refine ⟨a12, ea12, ?_⟩
    obtain ⟨a13, ea13, h⟩ := h
    refine ⟨a13, ea13, ?_⟩
    obtain ⟨o14, h⟩ := h
    refine ⟨o14, ?_⟩
    obtain ⟨a15, ea15, h⟩ := h
    refine ⟨a15, ea15, ?_⟩
    obtain ⟨o16, h⟩ := h
    refine ⟨o16, ?_⟩
    obtain ⟨o17, h⟩ := h
    refine ⟨o17, ?_⟩
    obtain ⟨a18, ea18, h⟩ := h
    refine ⟨a18, ea18, ?_⟩
    obtain ⟨a19, ea19, h⟩ := h
    refine ⟨a19, ea19, ?_⟩
    obtain ⟨o20, h⟩ := h
    refine ⟨o20, ?_⟩
    obtain ⟨a21, ea21, h⟩ := h
    refine ⟨a21, ea21, ?_⟩
    obtain ⟨o22, h⟩ := h
    refine ⟨o22, ?_⟩
    obtain ⟨o23, h⟩ := h
    refine ⟨o23, ?_⟩
    obtain ⟨a24, ea24, h⟩ := h
    refine ⟨a24, ea24, ?_⟩
    obtain ⟨a25, ea25, h⟩ := h
    refine ⟨a25, ea25, ?_⟩
    obtain ⟨o26, h⟩ := h
    refine ⟨o26, ?_⟩
    obtain ⟨a27, ea27, h⟩ := h
    refine ⟨a27, ea27, ?_⟩
    obtain ⟨o28, h⟩ := h
    refine ⟨o28, ?_⟩
    obtain ⟨o29, h⟩ := h
    refine ⟨o29, ?_⟩
    obtain ⟨a30, ea30, h⟩ := h
    refine ⟨a30, ea30, ?_⟩
    obtain ⟨o31, h⟩ := h
    refine ⟨o31, ?_⟩
    refine cm_X1_wetOf (kq_X1_wetOf h) h (fun x32 S33 hp h g34 => ?_)
    have h := h g34
    have V35 := (hp.2.2 (9, 9) (by decide) v0 oc).trans V10
    have oc := gr_ob g34 oc
    refine cm_X9_fraction (kq_X9_fraction h) h (fun x36 S37 hp h g38 => ?_)
    have h := h g38
    have V39 := (hp.2.2 (9, 9) (by decide) v0 oc).trans V35
    have oc := gr_ob g38 oc
    exact ⟨h, V39.trans q5⟩
  · intro c40
    have h := h.2 c40
    exact ⟨h, V10.trans q5⟩

set_option maxHeartbeats 1000000 in
theorem tq_X11_wet {A : AS} {G : GC} {D : DY} {v0 : Nat} {v1 : Int32} {v2 : Int32} {v3 : Int32} {v4 : Int32} {v5 : Int32} {v6 : Int32} {Q : Int64 → HS → Prop} {S : HS} (hI : IV S) (oc : ob S v0 11) (hm : HM v0 A G S) (ab : ABd A) (gb : GBd A G) (ge : GBe A G) (md : MDd v0 D S) (db : DBd A D) (h : P_X11_wet v0 v1 v2 v3 v4 v5 v6 Q S) : P_X11_wet v0 v1 v2 v3 v4 v5 v6 (fun r T => Q r T ∧ fI T v0 1 = lgN A G v1 v2 v3 v4 v5) S := by
  delta P_X11_wet P_X11_wet_0
  have oc0 := oc
  obtain ⟨o1, h⟩ := h
  refine ⟨o1, ?_⟩
  intro S2 eS2
  have h := h S2 eS2
  have hE := m_start hI eS2
  have hm := hm_0 hm oc eS2
  have md := md_I md eS2 (by decide) (by decide) (by decide) (by decide)
  have oc := ob_wI oc eS2
  refine cm_X11_refuses (sp_X11_refuses hm ab hE h) h (fun x3 S4 hp h g5 => ?_)
  have h := h g5
  obtain ⟨-, hS, q6⟩ := hp
  subst hS
  refine ⟨?_, ?_⟩
  · intro c7
    have h := h.1 c7
    have Zc7 := lg_le0 (by rw [← q6]; exact c7)
    refine cm_X11_wetOf (kq_X11_wetOf h) h (fun x8 S9 hp h g10 => ?_)
    have h := h g10
    have oc := gr_ob g10 oc
    refine cm_X11_told (tq_X11_told h) h (fun x11 S12 hp h g13 => ?_)
    have h := h g13
    have V14 := hp.2
    have oc := gr_ob g13 oc
    exact ⟨h, by rw [V14]; first | (simp only [whface, whair, whfits, whlies, whday, whgot, whon, whwalker, whroad, trN, trOK, dc_T, dc_F, not_false_eq_true, not_true_eq_false, and_true, true_and, and_false, false_and, and_self, true_or, or_true, false_or, or_false, or_self, Zc7]; done)⟩
  · intro c15
    have h := h.2 c15
    refine cm_X11_refused (tq_X11_refused h) h (fun x16 S17 hp h g18 => ?_)
    have h := h g18
    have V19 := hp.2
    have oc := gr_ob g18 oc
    exact ⟨h, V19.trans q6⟩

set_option maxHeartbeats 1000000 in
theorem tq_X9_mean {A : AS} {G : GC} {D : DY} {v0 : Nat} {v1 : Int32} {v2 : Int32} {v3 : Int32} {v4 : Int32} {v5 : Int32} {v6 : Int32} {Q : Int64 → HS → Prop} {S : HS} (hI : IV S) (oc : ob S v0 9) {rr w1 w2 : Nat} (J : CJ v0 rr w1 w2 S) (hc : Cnt w1 A S) (ct : CtB w1 A G S S) (ab : ABd A) (gb : GBd A G) (ge : GBe A G) {lgo b0 b1 : Nat} (lg : LG v0 lgo b0 b1 S) {dy : Nat} (e6 : fR S v0 6 = some dy) (cd : CDd dy D S) (db : DBd A D) (wd : WYd v0 A G S) (h : P_X9_mean v0 v1 v2 v3 v4 v5 v6 Q S) : P_X9_mean v0 v1 v2 v3 v4 v5 v6 (fun r T => Q r T ∧ fI T v0 9 = lgN A G v1 v2 v3 v4 v5) S := by
  delta P_X9_mean P_X9_mean_0
  have h8 := wt_of hI J hc ct ab
  obtain ⟨o1, h⟩ := h
  refine ⟨o1, ?_⟩
  refine cm_X9_legTrouble (sp_X9_legTrouble hI J hc ct ab gb h) h (fun x2 S3 hp h g4 => ?_)
  have h := h g4
  obtain ⟨-, hS, q5⟩ := hp
  subst hS
  refine cm_X9_refusedBy (tq_X9_refusedBy h) h (fun x6 S7 hp h g8 b9 => ?_)
  have h := h g8 b9
  have V10 := hp.2
  have oc := gr_ob g8 oc
  refine ⟨?_, ?_⟩
  · intro c11
    have h := h.1 c11
    obtain ⟨a12, ea12, h⟩ := h
    refine ⟨a12, ea12, ?_⟩
    obtain ⟨a13, ea13, h⟩ := h
    refine ⟨a13, ea13, ?_⟩
    obtain ⟨o14, h⟩ := h
    refine ⟨o14, ?_⟩
    obtain ⟨a15, ea15, h⟩ := h
    refine ⟨a15, ea15, ?_⟩
    obtain ⟨o16, h⟩ := h
    refine ⟨o16, ?_⟩
    obtain ⟨o17, h⟩ := h
    refine ⟨o17, ?_⟩
    obtain ⟨a18, ea18, h⟩ := h
    refine ⟨a18, ea18, ?_⟩
    obtain ⟨a19, ea19, h⟩ := h
    refine ⟨a19, ea19, ?_⟩
    obtain ⟨o20, h⟩ := h
    refine ⟨o20, ?_⟩
    obtain ⟨a21, ea21, h⟩ := h
    refine ⟨a21, ea21, ?_⟩
    obtain ⟨o22, h⟩ := h
    refine ⟨o22, ?_⟩
    obtain ⟨o23, h⟩ := h
    refine ⟨o23, ?_⟩
    obtain ⟨a24, ea24, h⟩ := h
    refine ⟨a24, ea24, ?_⟩
    obtain ⟨a25, ea25, h⟩ := h
    refine ⟨a25, ea25, ?_⟩
    obtain ⟨o26, h⟩ := h
    refine ⟨o26, ?_⟩
    obtain ⟨a27, ea27, h⟩ := h
    refine ⟨a27, ea27, ?_⟩
    obtain ⟨o28, h⟩ := h
    refine ⟨o28, ?_⟩
    obtain ⟨o29, h⟩ := h
    refine ⟨o29, ?_⟩
    obtain ⟨a30, ea30, h⟩ := h
    refine ⟨a30, ea30, ?_⟩
    obtain ⟨o31, h⟩ := h
    refine ⟨o31, ?_⟩
    refine cm_X1_wetOf (kq_X1_wetOf h) h (fun x32 S33 hp h g34 => ?_)
    have h := h g34
    have V35 := (hp.2.2 (9, 9) (by decide) v0 oc).trans V10
    have oc := gr_ob g34 oc
    obtain ⟨a36, ea36, h⟩ := h
    refine ⟨a36, ea36, ?_⟩
    obtain ⟨o37, h⟩ := h
    refine ⟨o37, ?_⟩
    obtain ⟨a38, ea38, h⟩ := h
    refine ⟨a38, ea38, ?_⟩
    obtain ⟨o39, h⟩ := h
    refine ⟨o39, ?_⟩
    obtain ⟨o40, h⟩ := h
    refine ⟨o40, ?_⟩
    obtain ⟨a41, ea41, h⟩ := h
    refine ⟨a41, ea41, ?_⟩
    obtain ⟨o42, h⟩ := h
    refine ⟨o42, ?_⟩
    intro x43 ex43
    have h := h x43 ex43
    refine cm_X9_fraction (kq_X9_fraction h) h (fun x44 S45 hp h g46 => ?_)
    have h := h g46
    have V47 := (hp.2.2 (9, 9) (by decide) v0 oc).trans V35
    have oc := gr_ob g46 oc
    exact ⟨h, V47.trans q5⟩
  · intro c48
    have h := h.2 c48
    exact ⟨h, V10.trans q5⟩

set_option maxHeartbeats 1000000 in
theorem tq_X11_mean {A : AS} {G : GC} {D : DY} {v0 : Nat} {v1 : Int32} {v2 : Int32} {v3 : Int32} {v4 : Int32} {v5 : Int32} {v6 : Int32} {Q : Int64 → HS → Prop} {S : HS} (hI : IV S) (oc : ob S v0 11) (hm : HM v0 A G S) (ab : ABd A) (gb : GBd A G) (ge : GBe A G) (md : MDd v0 D S) (db : DBd A D) (h : P_X11_mean v0 v1 v2 v3 v4 v5 v6 Q S) : P_X11_mean v0 v1 v2 v3 v4 v5 v6 (fun r T => Q r T ∧ fI T v0 1 = lgN A G v1 v2 v3 v4 v5) S := by
  delta P_X11_mean P_X11_mean_0
  have oc0 := oc
  obtain ⟨o1, h⟩ := h
  refine ⟨o1, ?_⟩
  intro S2 eS2
  have h := h S2 eS2
  have hE := m_start hI eS2
  have hm := hm_0 hm oc eS2
  have md := md_I md eS2 (by decide) (by decide) (by decide) (by decide)
  have oc := ob_wI oc eS2
  refine cm_X11_refuses (sp_X11_refuses hm ab hE h) h (fun x3 S4 hp h g5 => ?_)
  have h := h g5
  obtain ⟨-, hS, q6⟩ := hp
  subst hS
  refine ⟨?_, ?_⟩
  · intro c7
    have h := h.1 c7
    have Zc7 := lg_le0 (by rw [← q6]; exact c7)
    refine cm_X11_wetOf (kq_X11_wetOf h) h (fun x8 S9 hp h g10 => ?_)
    have h := h g10
    have oc := gr_ob g10 oc
    obtain ⟨a11, ea11, h⟩ := h
    refine ⟨a11, ea11, ?_⟩
    obtain ⟨o12, h⟩ := h
    refine ⟨o12, ?_⟩
    obtain ⟨a13, ea13, h⟩ := h
    refine ⟨a13, ea13, ?_⟩
    obtain ⟨o14, h⟩ := h
    refine ⟨o14, ?_⟩
    obtain ⟨o15, h⟩ := h
    refine ⟨o15, ?_⟩
    intro x16 ex16
    have h := h x16 ex16
    refine cm_X11_told (tq_X11_told h) h (fun x17 S18 hp h g19 => ?_)
    have h := h g19
    have V20 := hp.2
    have oc := gr_ob g19 oc
    exact ⟨h, by rw [V20]; first | (simp only [whface, whair, whfits, whlies, whday, whgot, whon, whwalker, whroad, trN, trOK, dc_T, dc_F, not_false_eq_true, not_true_eq_false, and_true, true_and, and_false, false_and, and_self, true_or, or_true, false_or, or_false, or_self, Zc7]; done)⟩
  · intro c21
    have h := h.2 c21
    refine cm_X11_refused (tq_X11_refused h) h (fun x22 S23 hp h g24 => ?_)
    have h := h g24
    have V25 := hp.2
    have oc := gr_ob g24 oc
    exact ⟨h, V25.trans q6⟩

set_option maxHeartbeats 1000000 in
theorem tq_X9_held {A : AS} {G : GC} {D : DY} {v0 : Nat} {v1 : Int32} {v2 : Int32} {v3 : Int32} {v4 : Int32} {v5 : Int32} {Q : Int32 → HS → Prop} {S : HS} (hI : IV S) (oc : ob S v0 9) {rr w1 w2 : Nat} (J : CJ v0 rr w1 w2 S) (hc : Cnt w1 A S) (ct : CtB w1 A G S S) (ab : ABd A) (gb : GBd A G) (ge : GBe A G) {lgo b0 b1 : Nat} (lg : LG v0 lgo b0 b1 S) {dy : Nat} (e6 : fR S v0 6 = some dy) (cd : CDd dy D S) (db : DBd A D) (wd : WYd v0 A G S) (h : P_X9_held v0 v1 v2 v3 v4 v5 Q S) : P_X9_held v0 v1 v2 v3 v4 v5 (fun r T => Q r T ∧ fI T v0 9 = lgN A G v1 v2 v3 v4 v5) S := by
  delta P_X9_held P_X9_held_0
  have h8 := wt_of hI J hc ct ab
  obtain ⟨o1, h⟩ := h
  refine ⟨o1, ?_⟩
  refine cm_X9_legTrouble (sp_X9_legTrouble hI J hc ct ab gb h) h (fun x2 S3 hp h g4 => ?_)
  have h := h g4
  obtain ⟨-, hS, q5⟩ := hp
  subst hS
  refine cm_X9_refusedBy (tq_X9_refusedBy h) h (fun x6 S7 hp h g8 b9 => ?_)
  have h := h g8 b9
  have V10 := hp.2
  have oc := gr_ob g8 oc
  refine ⟨?_, ?_⟩
  · intro c11
    have h := h.1 c11
    obtain ⟨a12, ea12, h⟩ := h
    refine ⟨a12, ea12, ?_⟩
    obtain ⟨o13, h⟩ := h
    refine ⟨o13, ?_⟩
    obtain ⟨a14, ea14, h⟩ := h
    refine ⟨a14, ea14, ?_⟩
    obtain ⟨o15, h⟩ := h
    refine ⟨o15, ?_⟩
    obtain ⟨o16, h⟩ := h
    refine ⟨o16, ?_⟩
    obtain ⟨a17, ea17, h⟩ := h
    refine ⟨a17, ea17, ?_⟩
    obtain ⟨o18, h⟩ := h
    refine ⟨o18, ?_⟩
    intro x19 ex19
    have h := h x19 ex19
    refine ⟨?_, ?_⟩
    · intro c20
      have h := h.1 c20
      obtain ⟨a21, ea21, h⟩ := h
      refine ⟨a21, ea21, ?_⟩
      obtain ⟨a22, ea22, h⟩ := h
      refine ⟨a22, ea22, ?_⟩
      obtain ⟨o23, h⟩ := h
      refine ⟨o23, ?_⟩
      obtain ⟨a24, ea24, h⟩ := h
      refine ⟨a24, ea24, ?_⟩
      obtain ⟨o25, h⟩ := h
      refine ⟨o25, ?_⟩
      obtain ⟨o26, h⟩ := h
      refine ⟨o26, ?_⟩
      obtain ⟨a27, ea27, h⟩ := h
      refine ⟨a27, ea27, ?_⟩
      obtain ⟨a28, ea28, h⟩ := h
      refine ⟨a28, ea28, ?_⟩
      obtain ⟨o29, h⟩ := h
      refine ⟨o29, ?_⟩
      obtain ⟨a30, ea30, h⟩ := h
      refine ⟨a30, ea30, ?_⟩
      obtain ⟨o31, h⟩ := h
      refine ⟨o31, ?_⟩
      obtain ⟨o32, h⟩ := h
      refine ⟨o32, ?_⟩
      obtain ⟨a33, ea33, h⟩ := h
      refine ⟨a33, ea33, ?_⟩
      obtain ⟨o34, h⟩ := h
      refine ⟨o34, ?_⟩
      refine cm_X1_lay (kq_X1_lay h) h (fun S35 hp h g36 => ?_)
      have h := h g36
      have V37 := (hp.2.2 (9, 9) (by decide) v0 oc).trans V10
      have oc := gr_ob g36 oc
      obtain ⟨a38, ea38, h⟩ := h
      refine ⟨a38, ea38, ?_⟩
      obtain ⟨a39, ea39, h⟩ := h
      refine ⟨a39, ea39, ?_⟩
      obtain ⟨o40, h⟩ := h
      refine ⟨o40, ?_⟩
      obtain ⟨a41, ea41, h⟩ := h
      refine ⟨a41, ea41, ?_⟩
      obtain ⟨o42, h⟩ := h
      refine ⟨o42, ?_⟩
      obtain ⟨o43, h⟩ := h
      refine ⟨o43, ?_⟩
      obtain ⟨a44, ea44, h⟩ := h
      refine ⟨a44, ea44, ?_⟩
      obtain ⟨o45, h⟩ := h
      refine ⟨o45, ?_⟩
      refine cm_X1_isForward (kq_X1_isForward h) h (fun x46 S47 hp h g48 b49 => ?_)
      have h := h g48 b49
      have V50 := (hp.2.2 (9, 9) (by decide) v0 oc).trans V37
      have oc := gr_ob g48 oc
      refine ⟨?_, ?_⟩
      · intro c51
        have h := h.1 c51
        exact ⟨h, V50.trans q5⟩
      · intro c52
        have h := h.2 c52
        exact ⟨h, V50.trans q5⟩
    · intro c53
      have h := h.2 c53
      exact ⟨h, V10.trans q5⟩
  · intro c54
    have h := h.2 c54
    exact ⟨h, V10.trans q5⟩

set_option maxHeartbeats 1000000 in
theorem tq_X11_held {A : AS} {G : GC} {D : DY} {v0 : Nat} {v1 : Int32} {v2 : Int32} {v3 : Int32} {v4 : Int32} {v5 : Int32} {Q : Int32 → HS → Prop} {S : HS} (hI : IV S) (oc : ob S v0 11) (hm : HM v0 A G S) (ab : ABd A) (gb : GBd A G) (ge : GBe A G) (md : MDd v0 D S) (db : DBd A D) (h : P_X11_held v0 v1 v2 v3 v4 v5 Q S) : P_X11_held v0 v1 v2 v3 v4 v5 (fun r T => Q r T ∧ fI T v0 1 = lgN A G v1 v2 v3 v4 v5) S := by
  delta P_X11_held P_X11_held_0
  have oc0 := oc
  obtain ⟨o1, h⟩ := h
  refine ⟨o1, ?_⟩
  intro S2 eS2
  have h := h S2 eS2
  have hE := m_start hI eS2
  have hm := hm_0 hm oc eS2
  have md := md_I md eS2 (by decide) (by decide) (by decide) (by decide)
  have oc := ob_wI oc eS2
  refine cm_X11_refuses (sp_X11_refuses hm ab hE h) h (fun x3 S4 hp h g5 => ?_)
  have h := h g5
  obtain ⟨-, hS, q6⟩ := hp
  subst hS
  refine ⟨?_, ?_⟩
  · intro c7
    have h := h.1 c7
    have Zc7 := lg_le0 (by rw [← q6]; exact c7)
    obtain ⟨a8, ea8, h⟩ := h
    refine ⟨a8, ea8, ?_⟩
    obtain ⟨o9, h⟩ := h
    refine ⟨o9, ?_⟩
    obtain ⟨a10, ea10, h⟩ := h
    refine ⟨a10, ea10, ?_⟩
    obtain ⟨o11, h⟩ := h
    refine ⟨o11, ?_⟩
    obtain ⟨o12, h⟩ := h
    refine ⟨o12, ?_⟩
    intro x13 ex13
    have h := h x13 ex13
    refine ⟨?_, ?_⟩
    · intro c14
      have h := h.1 c14
      refine cm_X11_isForward (kq_X11_isForward h) h (fun x15 S16 hp h g17 b18 => ?_)
      have h := h g17 b18
      have oc := gr_ob g17 oc
      refine ⟨?_, ?_⟩
      · intro c19
        have h := h.1 c19
        delta P_X11_held_68
        obtain ⟨o20, h⟩ := h
        refine ⟨o20, ?_⟩
        refine cm_X11_good (tq_X11_good h) h (fun x21 S22 hp h g23 => ?_)
        have h := h g23
        have V24 := hp.2
        have oc := gr_ob g23 oc
        exact ⟨h, by rw [V24]; first | (simp only [whface, whair, whfits, whlies, whday, whgot, whon, whwalker, whroad, trN, trOK, dc_T, dc_F, not_false_eq_true, not_true_eq_false, and_true, true_and, and_false, false_and, and_self, true_or, or_true, false_or, or_false, or_self, Zc7, c14]; done) | exact absurd c14 (by decide)⟩
      · intro c25
        have h := h.2 c25
        delta P_X11_held_68
        obtain ⟨o26, h⟩ := h
        refine ⟨o26, ?_⟩
        refine cm_X11_good (tq_X11_good h) h (fun x27 S28 hp h g29 => ?_)
        have h := h g29
        have V30 := hp.2
        have oc := gr_ob g29 oc
        exact ⟨h, by rw [V30]; first | (simp only [whface, whair, whfits, whlies, whday, whgot, whon, whwalker, whroad, trN, trOK, dc_T, dc_F, not_false_eq_true, not_true_eq_false, and_true, true_and, and_false, false_and, and_self, true_or, or_true, false_or, or_false, or_self, Zc7, c14]; done) | exact absurd c14 (by decide)⟩
    · intro c31
      have h := h.2 c31
      delta P_X11_held_68
      obtain ⟨o32, h⟩ := h
      refine ⟨o32, ?_⟩
      refine cm_X11_good (tq_X11_good h) h (fun x33 S34 hp h g35 => ?_)
      have h := h g35
      have V36 := hp.2
      have oc := gr_ob g35 oc
      exact ⟨h, by rw [V36]; first | (simp only [whface, whair, whfits, whlies, whday, whgot, whon, whwalker, whroad, trN, trOK, dc_T, dc_F, not_false_eq_true, not_true_eq_false, and_true, true_and, and_false, false_and, and_self, true_or, or_true, false_or, or_false, or_self, Zc7, c31]; done) | exact absurd c31 (by decide)⟩
  · intro c37
    have h := h.2 c37
    refine cm_X11_refused (tq_X11_refused h) h (fun x38 S39 hp h g40 => ?_)
    have h := h g40
    have V41 := hp.2
    have oc := gr_ob g40 oc
    exact ⟨h, V41.trans q6⟩

set_option maxHeartbeats 1000000 in
theorem tq_X9_best {A : AS} {G : GC} {D : DY} {v0 : Nat} {v1 : Int32} {v2 : Int32} {v3 : Int32} {v4 : Int32} {Q : Int32 → HS → Prop} {S : HS} (hI : IV S) (oc : ob S v0 9) {rr w1 w2 : Nat} (J : CJ v0 rr w1 w2 S) (hc : Cnt w1 A S) (ct : CtB w1 A G S S) (ab : ABd A) (gb : GBd A G) (ge : GBe A G) {lgo b0 b1 : Nat} (lg : LG v0 lgo b0 b1 S) {dy : Nat} (e6 : fR S v0 6 = some dy) (cd : CDd dy D S) (db : DBd A D) (wd : WYd v0 A G S) (h : P_X9_best v0 v1 v2 v3 v4 Q S) : P_X9_best v0 v1 v2 v3 v4 (fun r T => Q r T ∧ fI T v0 9 = trN A v1 v2 v3 v4) S := by
  delta P_X9_best P_X9_best_0
  have h8 := wt_of hI J hc ct ab
  obtain ⟨o1, h⟩ := h
  refine ⟨o1, ?_⟩
  refine cm_X9_tripTrouble (sp_X9_tripTrouble hI J hc ab h) h (fun x2 S3 hp h g4 => ?_)
  have h := h g4
  obtain ⟨-, hS, q5⟩ := hp
  subst hS
  refine cm_X9_refusedBy (tq_X9_refusedBy h) h (fun x6 S7 hp h g8 b9 => ?_)
  have h := h g8 b9
  have V10 := hp.2
  have oc := gr_ob g8 oc
  refine ⟨?_, ?_⟩
  · intro c11
    have h := h.1 c11
    obtain ⟨a12, ea12, h⟩ := h
    refine ⟨a12, ea12, ?_⟩
    obtain ⟨a13, ea13, h⟩ := h
    refine ⟨a13, ea13, ?_⟩
    obtain ⟨o14, h⟩ := h
    refine ⟨o14, ?_⟩
    obtain ⟨a15, ea15, h⟩ := h
    refine ⟨a15, ea15, ?_⟩
    obtain ⟨o16, h⟩ := h
    refine ⟨o16, ?_⟩
    obtain ⟨o17, h⟩ := h
    refine ⟨o17, ?_⟩
    obtain ⟨a18, ea18, h⟩ := h
    refine ⟨a18, ea18, ?_⟩
    obtain ⟨a19, ea19, h⟩ := h
    refine ⟨a19, ea19, ?_⟩
    obtain ⟨o20, h⟩ := h
    refine ⟨o20, ?_⟩
    obtain ⟨a21, ea21, h⟩ := h
    refine ⟨a21, ea21, ?_⟩
    obtain ⟨o22, h⟩ := h
    refine ⟨o22, ?_⟩
    obtain ⟨o23, h⟩ := h
    refine ⟨o23, ?_⟩
    obtain ⟨a24, ea24, h⟩ := h
    refine ⟨a24, ea24, ?_⟩
    obtain ⟨a25, ea25, h⟩ := h
    refine ⟨a25, ea25, ?_⟩
    obtain ⟨o26, h⟩ := h
    refine ⟨o26, ?_⟩
    obtain ⟨a27, ea27, h⟩ := h
    refine ⟨a27, ea27, ?_⟩
    obtain ⟨o28, h⟩ := h
    refine ⟨o28, ?_⟩
    obtain ⟨o29, h⟩ := h
    refine ⟨o29, ?_⟩
    obtain ⟨a30, ea30, h⟩ := h
    refine ⟨a30, ea30, ?_⟩
    obtain ⟨o31, h⟩ := h
    refine ⟨o31, ?_⟩
    refine cm_X1_bestSpeed (kq_X1_bestSpeed h) h (fun x32 S33 hp h g34 => ?_)
    have h := h g34
    have V35 := (hp.2.2 (9, 9) (by decide) v0 oc).trans V10
    have oc := gr_ob g34 oc
    exact ⟨h, V35.trans q5⟩
  · intro c36
    have h := h.2 c36
    exact ⟨h, V10.trans q5⟩

set_option maxHeartbeats 1000000 in
theorem tq_X11_best {A : AS} {G : GC} {D : DY} {v0 : Nat} {v1 : Int32} {v2 : Int32} {v3 : Int32} {v4 : Int32} {Q : Int32 → HS → Prop} {S : HS} (hI : IV S) (oc : ob S v0 11) (hm : HM v0 A G S) (ab : ABd A) (gb : GBd A G) (ge : GBe A G) (md : MDd v0 D S) (db : DBd A D) (h : P_X11_best v0 v1 v2 v3 v4 Q S) : P_X11_best v0 v1 v2 v3 v4 (fun r T => Q r T ∧ fI T v0 1 = trN A v1 v2 v3 v4) S := by
  delta P_X11_best P_X11_best_0
  have oc0 := oc
  obtain ⟨o1, h⟩ := h
  refine ⟨o1, ?_⟩
  intro S2 eS2
  have h := h S2 eS2
  have hE := m_start hI eS2
  have hm := hm_0 hm oc eS2
  have md := md_I md eS2 (by decide) (by decide) (by decide) (by decide)
  have oc := ob_wI oc eS2
  refine cm_X11_isWalker (sq_X11_isWalker hm h) h (fun x3 S4 hp h g5 b6 => ?_)
  have h := h g5 b6
  obtain ⟨-, hS, q7⟩ := hp
  subst hS
  refine ⟨?_, ?_⟩
  · intro c8
    have h := h.1 c8
    have Nc8 := an0 q7 c8
    delta P_X11_best_39
    obtain ⟨o9, h⟩ := h
    refine ⟨o9, ?_⟩
    refine cm_X11_refused (tq_X11_refused h) h (fun x10 S11 hp h g12 => ?_)
    have h := h g12
    have V13 := hp.2
    have oc := gr_ob g12 oc
    exact ⟨h, by rw [V13]; first | (simp only [whface, whair, whfits, whlies, whday, whgot, whon, whwalker, whroad, trN, trOK, dc_T, dc_F, not_false_eq_true, not_true_eq_false, and_true, true_and, and_false, false_and, and_self, true_or, or_true, false_or, or_false, or_self, Nc8]; done)⟩
  · intro c14
    have h := h.2 c14
    have Nc14 := an1 q7 c14
    refine cm_X11_isRoad (sq_X11_isRoad hm h) h (fun x15 S16 hp h g17 b18 => ?_)
    have h := h g17 b18
    obtain ⟨-, hS, q19⟩ := hp
    subst hS
    refine ⟨?_, ?_⟩
    · intro c20
      have h := h.1 c20
      have Nc20 := an0 q19 c20
      delta P_X11_best_39
      obtain ⟨o21, h⟩ := h
      refine ⟨o21, ?_⟩
      refine cm_X11_refused (tq_X11_refused h) h (fun x22 S23 hp h g24 => ?_)
      have h := h g24
      have V25 := hp.2
      have oc := gr_ob g24 oc
      exact ⟨h, by rw [V25]; first | (simp only [whface, whair, whfits, whlies, whday, whgot, whon, whwalker, whroad, trN, trOK, dc_T, dc_F, not_false_eq_true, not_true_eq_false, and_true, true_and, and_false, false_and, and_self, true_or, or_true, false_or, or_false, or_self, Nc14, Nc20]; done)⟩
    · intro c26
      have h := h.2 c26
      have Nc26 := an1 q19 c26
      refine cm_X11_in (sq_X11_way h) h (fun x27 S28 hp h g29 b30 => ?_)
      have h := h g29 b30
      obtain ⟨-, hS, q31⟩ := hp
      subst hS
      refine ⟨?_, ?_⟩
      · intro c32
        have h := h.1 c32
        have Nc32 := an0 q31 c32
        delta P_X11_best_39
        obtain ⟨o33, h⟩ := h
        refine ⟨o33, ?_⟩
        refine cm_X11_refused (tq_X11_refused h) h (fun x34 S35 hp h g36 => ?_)
        have h := h g36
        have V37 := hp.2
        have oc := gr_ob g36 oc
        exact ⟨h, by rw [V37]; first | (simp only [whface, whair, whfits, whlies, whday, whgot, whon, whwalker, whroad, trN, trOK, dc_T, dc_F, not_false_eq_true, not_true_eq_false, and_true, true_and, and_false, false_and, and_self, true_or, or_true, false_or, or_false, or_self, Nc14, Nc26, Nc32]; done)⟩
      · intro c38
        have h := h.2 c38
        have Nc38 := an1 q31 c38
        refine cm_X11_isHour (sq_X11_isHour hm h) h (fun x39 S40 hp h g41 b42 => ?_)
        have h := h g41 b42
        obtain ⟨-, hS, q43⟩ := hp
        subst hS
        refine ⟨?_, ?_⟩
        · intro c44
          have h := h.1 c44
          have Nc44 := an1 q43 c44
          refine cm_X11_bestOf (kq_X11_bestOf h) h (fun x45 S46 hp h g47 => ?_)
          have h := h g47
          have oc := gr_ob g47 oc
          refine cm_X11_good (tq_X11_good h) h (fun x48 S49 hp h g50 => ?_)
          have h := h g50
          have V51 := hp.2
          have oc := gr_ob g50 oc
          exact ⟨h, by rw [V51]; first | (simp only [whface, whair, whfits, whlies, whday, whgot, whon, whwalker, whroad, trN, trOK, dc_T, dc_F, not_false_eq_true, not_true_eq_false, and_true, true_and, and_false, false_and, and_self, true_or, or_true, false_or, or_false, or_self, Nc14, Nc26, Nc38, Nc44]; done)⟩
        · intro c52
          have h := h.2 c52
          have Nc52 := an0 q43 c52
          delta P_X11_best_39
          obtain ⟨o53, h⟩ := h
          refine ⟨o53, ?_⟩
          refine cm_X11_refused (tq_X11_refused h) h (fun x54 S55 hp h g56 => ?_)
          have h := h g56
          have V57 := hp.2
          have oc := gr_ob g56 oc
          exact ⟨h, by rw [V57]; first | (simp only [whface, whair, whfits, whlies, whday, whgot, whon, whwalker, whroad, trN, trOK, dc_T, dc_F, not_false_eq_true, not_true_eq_false, and_true, true_and, and_false, false_and, and_self, true_or, or_true, false_or, or_false, or_self, Nc14, Nc26, Nc38, Nc52]; done)⟩

set_option maxHeartbeats 1000000 in
theorem tq_X9_saves {A : AS} {G : GC} {D : DY} {v0 : Nat} {v1 : Int32} {v2 : Int32} {v3 : Int32} {v4 : Int32} {v5 : Int32} {Q : Int64 → HS → Prop} {S : HS} (hI : IV S) (oc : ob S v0 9) {rr w1 w2 : Nat} (J : CJ v0 rr w1 w2 S) (hc : Cnt w1 A S) (ct : CtB w1 A G S S) (ab : ABd A) (gb : GBd A G) (ge : GBe A G) {lgo b0 b1 : Nat} (lg : LG v0 lgo b0 b1 S) {dy : Nat} (e6 : fR S v0 6 = some dy) (cd : CDd dy D S) (db : DBd A D) (wd : WYd v0 A G S) (h : P_X9_saves v0 v1 v2 v3 v4 v5 Q S) : P_X9_saves v0 v1 v2 v3 v4 v5 (fun r T => Q r T ∧ fI T v0 9 = trN A v1 v2 v3 v4) S := by
  delta P_X9_saves P_X9_saves_0
  have h8 := wt_of hI J hc ct ab
  obtain ⟨o1, h⟩ := h
  refine ⟨o1, ?_⟩
  refine cm_X9_tripTrouble (sp_X9_tripTrouble hI J hc ab h) h (fun x2 S3 hp h g4 => ?_)
  have h := h g4
  obtain ⟨-, hS, q5⟩ := hp
  subst hS
  refine cm_X9_refusedBy (tq_X9_refusedBy h) h (fun x6 S7 hp h g8 b9 => ?_)
  have h := h g8 b9
  have V10 := hp.2
  have oc := gr_ob g8 oc
  refine ⟨?_, ?_⟩
  · intro c11
    have h := h.1 c11
    obtain ⟨a12, ea12, h⟩ := h
    refine ⟨a12, ea12, ?_⟩
    obtain ⟨o13, h⟩ := h
    refine ⟨o13, ?_⟩
    obtain ⟨a14, ea14, h⟩ := h
    refine ⟨a14, ea14, ?_⟩
    obtain ⟨o15, h⟩ := h
    refine ⟨o15, ?_⟩
    obtain ⟨o16, h⟩ := h
    refine ⟨o16, ?_⟩
    obtain ⟨a17, ea17, h⟩ := h
    refine ⟨a17, ea17, ?_⟩
    obtain ⟨a18, ea18, h⟩ := h
    refine ⟨a18, ea18, ?_⟩
    obtain ⟨a19, ea19, h⟩ := h
    refine ⟨a19, ea19, ?_⟩
    obtain ⟨o20, h⟩ := h
    refine ⟨o20, ?_⟩
    obtain ⟨a21, ea21, h⟩ := h
    refine ⟨a21, ea21, ?_⟩
    obtain ⟨o22, h⟩ := h
    refine ⟨o22, ?_⟩
    obtain ⟨o23, h⟩ := h
    refine ⟨o23, ?_⟩
    obtain ⟨a24, ea24, h⟩ := h
    refine ⟨a24, ea24, ?_⟩
    obtain ⟨a25, ea25, h⟩ := h
    refine ⟨a25, ea25, ?_⟩
    obtain ⟨o26, h⟩ := h
    refine ⟨o26, ?_⟩
    obtain ⟨a27, ea27, h⟩ := h
    refine ⟨a27, ea27, ?_⟩
    obtain ⟨o28, h⟩ := h
    refine ⟨o28, ?_⟩
    obtain ⟨o29, h⟩ := h
    refine ⟨o29, ?_⟩
    obtain ⟨a30, ea30, h⟩ := h
    refine ⟨a30, ea30, ?_⟩
    obtain ⟨o31, h⟩ := h
    refine ⟨o31, ?_⟩
    intro x32 ex32
    have h := h x32 ex32
    obtain ⟨o33, h⟩ := h
    refine ⟨o33, ?_⟩
    refine cm_X1_wetOf (kq_X1_wetOf h) h (fun x34 S35 hp h g36 => ?_)
    have h := h g36
    have V37 := (hp.2.2 (9, 9) (by decide) v0 oc).trans V10
    have oc := gr_ob g36 oc
    obtain ⟨a38, ea38, h⟩ := h
    refine ⟨a38, ea38, ?_⟩
    obtain ⟨a39, ea39, h⟩ := h
    refine ⟨a39, ea39, ?_⟩
    obtain ⟨o40, h⟩ := h
    refine ⟨o40, ?_⟩
    obtain ⟨a41, ea41, h⟩ := h
    refine ⟨a41, ea41, ?_⟩
    obtain ⟨o42, h⟩ := h
    refine ⟨o42, ?_⟩
    obtain ⟨o43, h⟩ := h
    refine ⟨o43, ?_⟩
    obtain ⟨a44, ea44, h⟩ := h
    refine ⟨a44, ea44, ?_⟩
    obtain ⟨a45, ea45, h⟩ := h
    refine ⟨a45, ea45, ?_⟩
    obtain ⟨o46, h⟩ := h
    refine ⟨o46, ?_⟩
    obtain ⟨a47, ea47, h⟩ := h
    refine ⟨a47, ea47, ?_⟩
    obtain ⟨o48, h⟩ := h
    refine ⟨o48, ?_⟩
    obtain ⟨o49, h⟩ := h
    refine ⟨o49, ?_⟩
    obtain ⟨a50, ea50, h⟩ := h
    refine ⟨a50, ea50, ?_⟩
    obtain ⟨o51, h⟩ := h
    refine ⟨o51, ?_⟩
    refine cm_X1_leastWet (kq_X1_leastWet h) h (fun x52 S53 hp h g54 => ?_)
    have h := h g54
    have V55 := (hp.2.2 (9, 9) (by decide) v0 oc).trans V37
    have oc := gr_ob g54 oc
    refine cm_X9_fraction (kq_X9_fraction h) h (fun x56 S57 hp h g58 => ?_)
    have h := h g58
    have V59 := (hp.2.2 (9, 9) (by decide) v0 oc).trans V55
    have oc := gr_ob g58 oc
    exact ⟨h, V59.trans q5⟩
  · intro c60
    have h := h.2 c60
    exact ⟨h, V10.trans q5⟩

set_option maxHeartbeats 1000000 in
theorem tq_X11_saves {A : AS} {G : GC} {D : DY} {v0 : Nat} {v1 : Int32} {v2 : Int32} {v3 : Int32} {v4 : Int32} {v5 : Int32} {Q : Int64 → HS → Prop} {S : HS} (hI : IV S) (oc : ob S v0 11) (hm : HM v0 A G S) (ab : ABd A) (gb : GBd A G) (ge : GBe A G) (md : MDd v0 D S) (db : DBd A D) (h : P_X11_saves v0 v1 v2 v3 v4 v5 Q S) : P_X11_saves v0 v1 v2 v3 v4 v5 (fun r T => Q r T ∧ fI T v0 1 = trN A v1 v2 v3 v4) S := by
  delta P_X11_saves P_X11_saves_0
  have oc0 := oc
  obtain ⟨o1, h⟩ := h
  refine ⟨o1, ?_⟩
  intro S2 eS2
  have h := h S2 eS2
  have hE := m_start hI eS2
  have hm := hm_0 hm oc eS2
  have md := md_I md eS2 (by decide) (by decide) (by decide) (by decide)
  have oc := ob_wI oc eS2
  refine cm_X11_isWalker (sq_X11_isWalker hm h) h (fun x3 S4 hp h g5 b6 => ?_)
  have h := h g5 b6
  obtain ⟨-, hS, q7⟩ := hp
  subst hS
  refine ⟨?_, ?_⟩
  · intro c8
    have h := h.1 c8
    have Nc8 := an0 q7 c8
    delta P_X11_saves_39
    obtain ⟨o9, h⟩ := h
    refine ⟨o9, ?_⟩
    refine cm_X11_refused (tq_X11_refused h) h (fun x10 S11 hp h g12 => ?_)
    have h := h g12
    have V13 := hp.2
    have oc := gr_ob g12 oc
    exact ⟨h, by rw [V13]; first | (simp only [whface, whair, whfits, whlies, whday, whgot, whon, whwalker, whroad, trN, trOK, dc_T, dc_F, not_false_eq_true, not_true_eq_false, and_true, true_and, and_false, false_and, and_self, true_or, or_true, false_or, or_false, or_self, Nc8]; done)⟩
  · intro c14
    have h := h.2 c14
    have Nc14 := an1 q7 c14
    refine cm_X11_isRoad (sq_X11_isRoad hm h) h (fun x15 S16 hp h g17 b18 => ?_)
    have h := h g17 b18
    obtain ⟨-, hS, q19⟩ := hp
    subst hS
    refine ⟨?_, ?_⟩
    · intro c20
      have h := h.1 c20
      have Nc20 := an0 q19 c20
      delta P_X11_saves_39
      obtain ⟨o21, h⟩ := h
      refine ⟨o21, ?_⟩
      refine cm_X11_refused (tq_X11_refused h) h (fun x22 S23 hp h g24 => ?_)
      have h := h g24
      have V25 := hp.2
      have oc := gr_ob g24 oc
      exact ⟨h, by rw [V25]; first | (simp only [whface, whair, whfits, whlies, whday, whgot, whon, whwalker, whroad, trN, trOK, dc_T, dc_F, not_false_eq_true, not_true_eq_false, and_true, true_and, and_false, false_and, and_self, true_or, or_true, false_or, or_false, or_self, Nc14, Nc20]; done)⟩
    · intro c26
      have h := h.2 c26
      have Nc26 := an1 q19 c26
      refine cm_X11_in (sq_X11_way h) h (fun x27 S28 hp h g29 b30 => ?_)
      have h := h g29 b30
      obtain ⟨-, hS, q31⟩ := hp
      subst hS
      refine ⟨?_, ?_⟩
      · intro c32
        have h := h.1 c32
        have Nc32 := an0 q31 c32
        delta P_X11_saves_39
        obtain ⟨o33, h⟩ := h
        refine ⟨o33, ?_⟩
        refine cm_X11_refused (tq_X11_refused h) h (fun x34 S35 hp h g36 => ?_)
        have h := h g36
        have V37 := hp.2
        have oc := gr_ob g36 oc
        exact ⟨h, by rw [V37]; first | (simp only [whface, whair, whfits, whlies, whday, whgot, whon, whwalker, whroad, trN, trOK, dc_T, dc_F, not_false_eq_true, not_true_eq_false, and_true, true_and, and_false, false_and, and_self, true_or, or_true, false_or, or_false, or_self, Nc14, Nc26, Nc32]; done)⟩
      · intro c38
        have h := h.2 c38
        have Nc38 := an1 q31 c38
        refine cm_X11_isHour (sq_X11_isHour hm h) h (fun x39 S40 hp h g41 b42 => ?_)
        have h := h g41 b42
        obtain ⟨-, hS, q43⟩ := hp
        subst hS
        refine ⟨?_, ?_⟩
        · intro c44
          have h := h.1 c44
          have Nc44 := an1 q43 c44
          obtain ⟨a45, ea45, h⟩ := h
          refine ⟨a45, ea45, ?_⟩
          obtain ⟨o46, h⟩ := h
          refine ⟨o46, ?_⟩
          obtain ⟨a47, ea47, h⟩ := h
          refine ⟨a47, ea47, ?_⟩
          obtain ⟨o48, h⟩ := h
          refine ⟨o48, ?_⟩
          obtain ⟨o49, h⟩ := h
          refine ⟨o49, ?_⟩
          intro x50 ex50
          have h := h x50 ex50
          refine cm_X11_wetOf (kq_X11_wetOf h) h (fun x51 S52 hp h g53 => ?_)
          have h := h g53
          have oc := gr_ob g53 oc
          refine cm_X11_bestOf (kq_X11_bestOf h) h (fun x54 S55 hp h g56 => ?_)
          have h := h g56
          have oc := gr_ob g56 oc
          refine cm_X11_wetOf (kq_X11_wetOf h) h (fun x57 S58 hp h g59 => ?_)
          have h := h g59
          have oc := gr_ob g59 oc
          refine cm_X11_told (tq_X11_told h) h (fun x60 S61 hp h g62 => ?_)
          have h := h g62
          have V63 := hp.2
          have oc := gr_ob g62 oc
          exact ⟨h, by rw [V63]; first | (simp only [whface, whair, whfits, whlies, whday, whgot, whon, whwalker, whroad, trN, trOK, dc_T, dc_F, not_false_eq_true, not_true_eq_false, and_true, true_and, and_false, false_and, and_self, true_or, or_true, false_or, or_false, or_self, Nc14, Nc26, Nc38, Nc44]; done)⟩
        · intro c64
          have h := h.2 c64
          have Nc64 := an0 q43 c64
          delta P_X11_saves_39
          obtain ⟨o65, h⟩ := h
          refine ⟨o65, ?_⟩
          refine cm_X11_refused (tq_X11_refused h) h (fun x66 S67 hp h g68 => ?_)
          have h := h g68
          have V69 := hp.2
          have oc := gr_ob g68 oc
          exact ⟨h, by rw [V69]; first | (simp only [whface, whair, whfits, whlies, whday, whgot, whon, whwalker, whroad, trN, trOK, dc_T, dc_F, not_false_eq_true, not_true_eq_false, and_true, true_and, and_false, false_and, and_self, true_or, or_true, false_or, or_false, or_self, Nc14, Nc26, Nc38, Nc64]; done)⟩

set_option maxHeartbeats 1000000 in
theorem tq_X9_worst {A : AS} {G : GC} {D : DY} {v0 : Nat} {v1 : Int32} {v2 : Int32} {v3 : Int32} {v4 : Int32} {Q : Int32 → HS → Prop} {S : HS} (hI : IV S) (oc : ob S v0 9) {rr w1 w2 : Nat} (J : CJ v0 rr w1 w2 S) (hc : Cnt w1 A S) (ct : CtB w1 A G S S) (ab : ABd A) (gb : GBd A G) (ge : GBe A G) {lgo b0 b1 : Nat} (lg : LG v0 lgo b0 b1 S) {dy : Nat} (e6 : fR S v0 6 = some dy) (cd : CDd dy D S) (db : DBd A D) (wd : WYd v0 A G S) (h : P_X9_worst v0 v1 v2 v3 v4 Q S) : P_X9_worst v0 v1 v2 v3 v4 (fun r T => Q r T ∧ fI T v0 9 = trN A v1 v2 v3 v4) S := by
  delta P_X9_worst P_X9_worst_0
  have h8 := wt_of hI J hc ct ab
  obtain ⟨o1, h⟩ := h
  refine ⟨o1, ?_⟩
  refine cm_X9_tripTrouble (sp_X9_tripTrouble hI J hc ab h) h (fun x2 S3 hp h g4 => ?_)
  have h := h g4
  obtain ⟨-, hS, q5⟩ := hp
  subst hS
  refine cm_X9_refusedBy (tq_X9_refusedBy h) h (fun x6 S7 hp h g8 b9 => ?_)
  have h := h g8 b9
  have V10 := hp.2
  have oc := gr_ob g8 oc
  refine ⟨?_, ?_⟩
  · intro c11
    have h := h.1 c11
    obtain ⟨a12, ea12, h⟩ := h
    refine ⟨a12, ea12, ?_⟩
    obtain ⟨a13, ea13, h⟩ := h
    refine ⟨a13, ea13, ?_⟩
    obtain ⟨o14, h⟩ := h
    refine ⟨o14, ?_⟩
    obtain ⟨a15, ea15, h⟩ := h
    refine ⟨a15, ea15, ?_⟩
    obtain ⟨o16, h⟩ := h
    refine ⟨o16, ?_⟩
    obtain ⟨o17, h⟩ := h
    refine ⟨o17, ?_⟩
    obtain ⟨a18, ea18, h⟩ := h
    refine ⟨a18, ea18, ?_⟩
    obtain ⟨a19, ea19, h⟩ := h
    refine ⟨a19, ea19, ?_⟩
    obtain ⟨o20, h⟩ := h
    refine ⟨o20, ?_⟩
    obtain ⟨a21, ea21, h⟩ := h
    refine ⟨a21, ea21, ?_⟩
    obtain ⟨o22, h⟩ := h
    refine ⟨o22, ?_⟩
    obtain ⟨o23, h⟩ := h
    refine ⟨o23, ?_⟩
    obtain ⟨a24, ea24, h⟩ := h
    refine ⟨a24, ea24, ?_⟩
    obtain ⟨a25, ea25, h⟩ := h
    refine ⟨a25, ea25, ?_⟩
    obtain ⟨o26, h⟩ := h
    refine ⟨o26, ?_⟩
    obtain ⟨a27, ea27, h⟩ := h
    refine ⟨a27, ea27, ?_⟩
    obtain ⟨o28, h⟩ := h
    refine ⟨o28, ?_⟩
    obtain ⟨o29, h⟩ := h
    refine ⟨o29, ?_⟩
    obtain ⟨a30, ea30, h⟩ := h
    refine ⟨a30, ea30, ?_⟩
    obtain ⟨o31, h⟩ := h
    refine ⟨o31, ?_⟩
    refine cm_X1_worstSpeed (kq_X1_worstSpeed h) h (fun x32 S33 hp h g34 => ?_)
    have h := h g34
    have V35 := (hp.2.2 (9, 9) (by decide) v0 oc).trans V10
    have oc := gr_ob g34 oc
    exact ⟨h, V35.trans q5⟩
  · intro c36
    have h := h.2 c36
    exact ⟨h, V10.trans q5⟩

set_option maxHeartbeats 1000000 in
theorem tqL_X11_worst_62 {E : Int32} (h0 : (0 : Int32) = E) {Q : Int32 → HS → Prop} {v0 : Nat} {v1 : Int32} {v2 : Int32} {v3 : Int32} {v4 : Int32} {v5 : Int32} {v6 : Int32} {S : HS} (oc : ob S v0 11) (h : P_X11_worst_62 Q v0 v1 v2 v3 v4 v5 v6 S) : P_X11_worst_62 (fun r T => Q r T ∧ fI T v0 1 = E) v0 v1 v2 v3 v4 v5 v6 S := by
  intro X hX
  refine h (fun u0 v1_ v2_ v3_ v4_ v5_ v6_ T => (v0 = u0 ∧ ob T v0 11) → X u0 v1_ v2_ v3_ v4_ v5_ v6_ T) ?_ ⟨rfl, oc⟩
  rintro u0 v1_ v2_ v3_ v4_ v5_ v6_ T h ⟨rfl, oc⟩
  apply hX
  obtain ⟨o52, h⟩ := h
  refine ⟨o52, ?_⟩
  obtain ⟨a53, ea53, h⟩ := h
  refine ⟨a53, ea53, ?_⟩
  obtain ⟨o54, h⟩ := h
  refine ⟨o54, ?_⟩
  obtain ⟨a55, ea55, h⟩ := h
  refine ⟨a55, ea55, ?_⟩
  obtain ⟨o56, h⟩ := h
  refine ⟨o56, ?_⟩
  obtain ⟨o57, h⟩ := h
  refine ⟨o57, ?_⟩
  intro x58 ex58
  have h := h x58 ex58
  refine ⟨?_, ?_⟩
  · intro c59
    have h := h.1 c59
    refine cm_X11_good (tq_X11_good h) h (fun x60 S61 hp h g62 => ?_)
    have h := h g62
    have V63 := hp.2
    have oc := gr_ob g62 oc
    exact ⟨h, V63.trans h0⟩
  · intro c64
    have h := h.2 c64
    refine cm_X11_wetOf (kq_X11_wetOf h) h (fun x65 S66 hp h g67 => ?_)
    have h := h g67
    have oc := gr_ob g67 oc
    refine cm_X11_wetOf (kq_X11_wetOf h) h (fun x68 S69 hp h g70 => ?_)
    have h := h g70
    have oc := gr_ob g70 oc
    refine ⟨?_, ?_⟩
    · intro c71
      have h := h.1 c71
      delta P_X11_worst_106
      intro x72 ex72
      have h := h x72 ex72
      exact h ⟨rfl, oc⟩
    · intro c73
      have h := h.2 c73
      delta P_X11_worst_106
      intro x74 ex74
      have h := h x74 ex74
      exact h ⟨rfl, oc⟩
set_option maxHeartbeats 1000000 in
theorem tq_X11_worst {A : AS} {G : GC} {D : DY} {v0 : Nat} {v1 : Int32} {v2 : Int32} {v3 : Int32} {v4 : Int32} {Q : Int32 → HS → Prop} {S : HS} (hI : IV S) (oc : ob S v0 11) (hm : HM v0 A G S) (ab : ABd A) (gb : GBd A G) (ge : GBe A G) (md : MDd v0 D S) (db : DBd A D) (h : P_X11_worst v0 v1 v2 v3 v4 Q S) : P_X11_worst v0 v1 v2 v3 v4 (fun r T => Q r T ∧ fI T v0 1 = trN A v1 v2 v3 v4) S := by
  delta P_X11_worst P_X11_worst_0
  have oc0 := oc
  obtain ⟨o1, h⟩ := h
  refine ⟨o1, ?_⟩
  intro S2 eS2
  have h := h S2 eS2
  have hE := m_start hI eS2
  have hm := hm_0 hm oc eS2
  have md := md_I md eS2 (by decide) (by decide) (by decide) (by decide)
  have oc := ob_wI oc eS2
  refine cm_X11_isWalker (sq_X11_isWalker hm h) h (fun x3 S4 hp h g5 b6 => ?_)
  have h := h g5 b6
  obtain ⟨-, hS, q7⟩ := hp
  subst hS
  refine ⟨?_, ?_⟩
  · intro c8
    have h := h.1 c8
    have Nc8 := an0 q7 c8
    delta P_X11_worst_39
    obtain ⟨o9, h⟩ := h
    refine ⟨o9, ?_⟩
    refine cm_X11_refused (tq_X11_refused h) h (fun x10 S11 hp h g12 => ?_)
    have h := h g12
    have V13 := hp.2
    have oc := gr_ob g12 oc
    exact ⟨h, by rw [V13]; first | (simp only [whface, whair, whfits, whlies, whday, whgot, whon, whwalker, whroad, trN, trOK, dc_T, dc_F, not_false_eq_true, not_true_eq_false, and_true, true_and, and_false, false_and, and_self, true_or, or_true, false_or, or_false, or_self, Nc8]; done)⟩
  · intro c14
    have h := h.2 c14
    have Nc14 := an1 q7 c14
    refine cm_X11_isRoad (sq_X11_isRoad hm h) h (fun x15 S16 hp h g17 b18 => ?_)
    have h := h g17 b18
    obtain ⟨-, hS, q19⟩ := hp
    subst hS
    refine ⟨?_, ?_⟩
    · intro c20
      have h := h.1 c20
      have Nc20 := an0 q19 c20
      delta P_X11_worst_39
      obtain ⟨o21, h⟩ := h
      refine ⟨o21, ?_⟩
      refine cm_X11_refused (tq_X11_refused h) h (fun x22 S23 hp h g24 => ?_)
      have h := h g24
      have V25 := hp.2
      have oc := gr_ob g24 oc
      exact ⟨h, by rw [V25]; first | (simp only [whface, whair, whfits, whlies, whday, whgot, whon, whwalker, whroad, trN, trOK, dc_T, dc_F, not_false_eq_true, not_true_eq_false, and_true, true_and, and_false, false_and, and_self, true_or, or_true, false_or, or_false, or_self, Nc14, Nc20]; done)⟩
    · intro c26
      have h := h.2 c26
      have Nc26 := an1 q19 c26
      refine cm_X11_in (sq_X11_way h) h (fun x27 S28 hp h g29 b30 => ?_)
      have h := h g29 b30
      obtain ⟨-, hS, q31⟩ := hp
      subst hS
      refine ⟨?_, ?_⟩
      · intro c32
        have h := h.1 c32
        have Nc32 := an0 q31 c32
        delta P_X11_worst_39
        obtain ⟨o33, h⟩ := h
        refine ⟨o33, ?_⟩
        refine cm_X11_refused (tq_X11_refused h) h (fun x34 S35 hp h g36 => ?_)
        have h := h g36
        have V37 := hp.2
        have oc := gr_ob g36 oc
        exact ⟨h, by rw [V37]; first | (simp only [whface, whair, whfits, whlies, whday, whgot, whon, whwalker, whroad, trN, trOK, dc_T, dc_F, not_false_eq_true, not_true_eq_false, and_true, true_and, and_false, false_and, and_self, true_or, or_true, false_or, or_false, or_self, Nc14, Nc26, Nc32]; done)⟩
      · intro c38
        have h := h.2 c38
        have Nc38 := an1 q31 c38
        refine cm_X11_isHour (sq_X11_isHour hm h) h (fun x39 S40 hp h g41 b42 => ?_)
        have h := h g41 b42
        obtain ⟨-, hS, q43⟩ := hp
        subst hS
        refine ⟨?_, ?_⟩
        · intro c44
          have h := h.1 c44
          have Nc44 := an1 q43 c44
          obtain ⟨a45, ea45, h⟩ := h
          refine ⟨a45, ea45, ?_⟩
          obtain ⟨o46, h⟩ := h
          refine ⟨o46, ?_⟩
          obtain ⟨a47, ea47, h⟩ := h
          refine ⟨a47, ea47, ?_⟩
          obtain ⟨o48, h⟩ := h
          refine ⟨o48, ?_⟩
          obtain ⟨o49, h⟩ := h
          refine ⟨o49, ?_⟩
          intro x50 ex50
          have h := h x50 ex50
          intro x51 ex51
          have h := h x51 ex51
          exact tqL_X11_worst_62 (by simp only [whface, whair, whfits, whlies, whday, whgot, whon, whwalker, whroad, trN, trOK, dc_T, dc_F, not_false_eq_true, not_true_eq_false, and_true, true_and, and_false, false_and, and_self, true_or, or_true, false_or, or_false, or_self, Nc14, Nc26, Nc38, Nc44]) oc h
        · intro c75
          have h := h.2 c75
          have Nc75 := an0 q43 c75
          delta P_X11_worst_39
          obtain ⟨o76, h⟩ := h
          refine ⟨o76, ?_⟩
          refine cm_X11_refused (tq_X11_refused h) h (fun x77 S78 hp h g79 => ?_)
          have h := h g79
          have V80 := hp.2
          have oc := gr_ob g79 oc
          exact ⟨h, by rw [V80]; first | (simp only [whface, whair, whfits, whlies, whday, whgot, whon, whwalker, whroad, trN, trOK, dc_T, dc_F, not_false_eq_true, not_true_eq_false, and_true, true_and, and_false, false_and, and_self, true_or, or_true, false_or, or_false, or_self, Nc14, Nc26, Nc38, Nc75]; done)⟩

set_option maxHeartbeats 1000000 in
theorem tq_X9_even {A : AS} {G : GC} {D : DY} {v0 : Nat} {v1 : Int32} {v2 : Int32} {v3 : Int32} {v4 : Int32} {Q : Int32 → HS → Prop} {S : HS} (hI : IV S) (oc : ob S v0 9) {rr w1 w2 : Nat} (J : CJ v0 rr w1 w2 S) (hc : Cnt w1 A S) (ct : CtB w1 A G S S) (ab : ABd A) (gb : GBd A G) (ge : GBe A G) {lgo b0 b1 : Nat} (lg : LG v0 lgo b0 b1 S) {dy : Nat} (e6 : fR S v0 6 = some dy) (cd : CDd dy D S) (db : DBd A D) (wd : WYd v0 A G S) (h : P_X9_even v0 v1 v2 v3 v4 Q S) : P_X9_even v0 v1 v2 v3 v4 (fun r T => Q r T ∧ fI T v0 9 = trN A v1 v2 v3 v4) S := by
  delta P_X9_even P_X9_even_0
  have h8 := wt_of hI J hc ct ab
  obtain ⟨o1, h⟩ := h
  refine ⟨o1, ?_⟩
  refine cm_X9_tripTrouble (sp_X9_tripTrouble hI J hc ab h) h (fun x2 S3 hp h g4 => ?_)
  have h := h g4
  obtain ⟨-, hS, q5⟩ := hp
  subst hS
  refine cm_X9_refusedBy (tq_X9_refusedBy h) h (fun x6 S7 hp h g8 b9 => ?_)
  have h := h g8 b9
  have V10 := hp.2
  have oc := gr_ob g8 oc
  refine ⟨?_, ?_⟩
  · intro c11
    have h := h.1 c11
    obtain ⟨a12, ea12, h⟩ := h
    refine ⟨a12, ea12, ?_⟩
    obtain ⟨o13, h⟩ := h
    refine ⟨o13, ?_⟩
    obtain ⟨a14, ea14, h⟩ := h
    refine ⟨a14, ea14, ?_⟩
    obtain ⟨o15, h⟩ := h
    refine ⟨o15, ?_⟩
    obtain ⟨o16, h⟩ := h
    refine ⟨o16, ?_⟩
    obtain ⟨a17, ea17, h⟩ := h
    refine ⟨a17, ea17, ?_⟩
    obtain ⟨a18, ea18, h⟩ := h
    refine ⟨a18, ea18, ?_⟩
    obtain ⟨a19, ea19, h⟩ := h
    refine ⟨a19, ea19, ?_⟩
    obtain ⟨o20, h⟩ := h
    refine ⟨o20, ?_⟩
    obtain ⟨a21, ea21, h⟩ := h
    refine ⟨a21, ea21, ?_⟩
    obtain ⟨o22, h⟩ := h
    refine ⟨o22, ?_⟩
    obtain ⟨o23, h⟩ := h
    refine ⟨o23, ?_⟩
    obtain ⟨a24, ea24, h⟩ := h
    refine ⟨a24, ea24, ?_⟩
    obtain ⟨a25, ea25, h⟩ := h
    refine ⟨a25, ea25, ?_⟩
    obtain ⟨o26, h⟩ := h
    refine ⟨o26, ?_⟩
    obtain ⟨a27, ea27, h⟩ := h
    refine ⟨a27, ea27, ?_⟩
    obtain ⟨o28, h⟩ := h
    refine ⟨o28, ?_⟩
    obtain ⟨o29, h⟩ := h
    refine ⟨o29, ?_⟩
    obtain ⟨a30, ea30, h⟩ := h
    refine ⟨a30, ea30, ?_⟩
    obtain ⟨o31, h⟩ := h
    refine ⟨o31, ?_⟩
    refine cm_X1_worstSpeed (kq_X1_worstSpeed h) h (fun x32 S33 hp h g34 => ?_)
    have h := h g34
    have V35 := (hp.2.2 (9, 9) (by decide) v0 oc).trans V10
    have oc := gr_ob g34 oc
    obtain ⟨a36, ea36, h⟩ := h
    refine ⟨a36, ea36, ?_⟩
    obtain ⟨a37, ea37, h⟩ := h
    refine ⟨a37, ea37, ?_⟩
    obtain ⟨o38, h⟩ := h
    refine ⟨o38, ?_⟩
    obtain ⟨a39, ea39, h⟩ := h
    refine ⟨a39, ea39, ?_⟩
    obtain ⟨o40, h⟩ := h
    refine ⟨o40, ?_⟩
    obtain ⟨o41, h⟩ := h
    refine ⟨o41, ?_⟩
    obtain ⟨a42, ea42, h⟩ := h
    refine ⟨a42, ea42, ?_⟩
    obtain ⟨a43, ea43, h⟩ := h
    refine ⟨a43, ea43, ?_⟩
    obtain ⟨o44, h⟩ := h
    refine ⟨o44, ?_⟩
    obtain ⟨a45, ea45, h⟩ := h
    refine ⟨a45, ea45, ?_⟩
    obtain ⟨o46, h⟩ := h
    refine ⟨o46, ?_⟩
    obtain ⟨o47, h⟩ := h
    refine ⟨o47, ?_⟩
    obtain ⟨a48, ea48, h⟩ := h
    refine ⟨a48, ea48, ?_⟩
    obtain ⟨o49, h⟩ := h
    refine ⟨o49, ?_⟩
    refine cm_X1_leastWet (kq_X1_leastWet h) h (fun x50 S51 hp h g52 => ?_)
    have h := h g52
    have V53 := (hp.2.2 (9, 9) (by decide) v0 oc).trans V35
    have oc := gr_ob g52 oc
    obtain ⟨a54, ea54, h⟩ := h
    refine ⟨a54, ea54, ?_⟩
    obtain ⟨a55, ea55, h⟩ := h
    refine ⟨a55, ea55, ?_⟩
    obtain ⟨o56, h⟩ := h
    refine ⟨o56, ?_⟩
    obtain ⟨a57, ea57, h⟩ := h
    refine ⟨a57, ea57, ?_⟩
    obtain ⟨o58, h⟩ := h
    refine ⟨o58, ?_⟩
    obtain ⟨o59, h⟩ := h
    refine ⟨o59, ?_⟩
    obtain ⟨a60, ea60, h⟩ := h
    refine ⟨a60, ea60, ?_⟩
    obtain ⟨a61, ea61, h⟩ := h
    refine ⟨a61, ea61, ?_⟩
    obtain ⟨o62, h⟩ := h
    refine ⟨o62, ?_⟩
    obtain ⟨a63, ea63, h⟩ := h
    refine ⟨a63, ea63, ?_⟩
    obtain ⟨o64, h⟩ := h
    refine ⟨o64, ?_⟩
    obtain ⟨o65, h⟩ := h
    refine ⟨o65, ?_⟩
    obtain ⟨a66, ea66, h⟩ := h
    refine ⟨a66, ea66, ?_⟩
    obtain ⟨o67, h⟩ := h
    refine ⟨o67, ?_⟩
    refine cm_X1_wetOf (kq_X1_wetOf h) h (fun x68 S69 hp h g70 => ?_)
    have h := h g70
    have V71 := (hp.2.2 (9, 9) (by decide) v0 oc).trans V53
    have oc := gr_ob g70 oc
    refine ⟨?_, ?_⟩
    · intro c72
      have h := h.1 c72
      exact ⟨h, V71.trans q5⟩
    · intro c73
      have h := h.2 c73
      exact ⟨h, V71.trans q5⟩
  · intro c74
    have h := h.2 c74
    exact ⟨h, V10.trans q5⟩

set_option maxHeartbeats 1000000 in
theorem tqL_X11_even_59 {E : Int32} (h0 : (0 : Int32) = E) {Q : Int32 → HS → Prop} {v0 : Nat} {v1 : Int32} {v2 : Int32} {v3 : Int32} {v4 : Int32} {v5 : Int32} {v6 : Int32} {S : HS} (oc : ob S v0 11) (h : P_X11_even_59 Q v0 v1 v2 v3 v4 v5 v6 S) : P_X11_even_59 (fun r T => Q r T ∧ fI T v0 1 = E) v0 v1 v2 v3 v4 v5 v6 S := by
  intro X hX
  refine h (fun u0 v1_ v2_ v3_ v4_ v5_ v6_ T => (v0 = u0 ∧ ob T v0 11) → X u0 v1_ v2_ v3_ v4_ v5_ v6_ T) ?_ ⟨rfl, oc⟩
  rintro u0 v1_ v2_ v3_ v4_ v5_ v6_ T h ⟨rfl, oc⟩
  apply hX
  obtain ⟨o51, h⟩ := h
  refine ⟨o51, ?_⟩
  obtain ⟨a52, ea52, h⟩ := h
  refine ⟨a52, ea52, ?_⟩
  obtain ⟨o53, h⟩ := h
  refine ⟨o53, ?_⟩
  obtain ⟨a54, ea54, h⟩ := h
  refine ⟨a54, ea54, ?_⟩
  obtain ⟨o55, h⟩ := h
  refine ⟨o55, ?_⟩
  obtain ⟨o56, h⟩ := h
  refine ⟨o56, ?_⟩
  intro x57 ex57
  have h := h x57 ex57
  refine ⟨?_, ?_⟩
  · intro c58
    have h := h.1 c58
    refine ⟨?_, ?_⟩
    · intro c59
      have h := h.1 c59
      delta P_X11_even_130
      obtain ⟨o60, h⟩ := h
      refine ⟨o60, ?_⟩
      refine cm_X11_good (tq_X11_good h) h (fun x61 S62 hp h g63 => ?_)
      have h := h g63
      have V64 := hp.2
      have oc := gr_ob g63 oc
      exact ⟨h, V64.trans h0⟩
    · intro c65
      have h := h.2 c65
      delta P_X11_even_130
      obtain ⟨o66, h⟩ := h
      refine ⟨o66, ?_⟩
      refine cm_X11_good (tq_X11_good h) h (fun x67 S68 hp h g69 => ?_)
      have h := h g69
      have V70 := hp.2
      have oc := gr_ob g69 oc
      exact ⟨h, V70.trans h0⟩
  · intro c71
    have h := h.2 c71
    refine ⟨?_, ?_⟩
    · intro c72
      have h := h.1 c72
      delta P_X11_even_110
      delta P_X11_even_111
      intro x73 ex73
      have h := h x73 ex73
      exact h ⟨rfl, oc⟩
    · intro c74
      have h := h.2 c74
      refine cm_X11_wetOf (kq_X11_wetOf h) h (fun x75 S76 hp h g77 => ?_)
      have h := h g77
      have oc := gr_ob g77 oc
      refine cm_X11_wetOf (kq_X11_wetOf h) h (fun x78 S79 hp h g80 => ?_)
      have h := h g80
      have oc := gr_ob g80 oc
      refine ⟨?_, ?_⟩
      · intro c81
        have h := h.1 c81
        delta P_X11_even_110
        delta P_X11_even_111
        intro x82 ex82
        have h := h x82 ex82
        exact h ⟨rfl, oc⟩
      · intro c83
        have h := h.2 c83
        delta P_X11_even_111
        intro x84 ex84
        have h := h x84 ex84
        exact h ⟨rfl, oc⟩
set_option maxHeartbeats 1000000 in
theorem tq_X11_even {A : AS} {G : GC} {D : DY} {v0 : Nat} {v1 : Int32} {v2 : Int32} {v3 : Int32} {v4 : Int32} {Q : Int32 → HS → Prop} {S : HS} (hI : IV S) (oc : ob S v0 11) (hm : HM v0 A G S) (ab : ABd A) (gb : GBd A G) (ge : GBe A G) (md : MDd v0 D S) (db : DBd A D) (h : P_X11_even v0 v1 v2 v3 v4 Q S) : P_X11_even v0 v1 v2 v3 v4 (fun r T => Q r T ∧ fI T v0 1 = trN A v1 v2 v3 v4) S := by
  delta P_X11_even P_X11_even_0
  have oc0 := oc
  obtain ⟨o1, h⟩ := h
  refine ⟨o1, ?_⟩
  intro S2 eS2
  have h := h S2 eS2
  have hE := m_start hI eS2
  have hm := hm_0 hm oc eS2
  have md := md_I md eS2 (by decide) (by decide) (by decide) (by decide)
  have oc := ob_wI oc eS2
  refine cm_X11_isWalker (sq_X11_isWalker hm h) h (fun x3 S4 hp h g5 b6 => ?_)
  have h := h g5 b6
  obtain ⟨-, hS, q7⟩ := hp
  subst hS
  refine ⟨?_, ?_⟩
  · intro c8
    have h := h.1 c8
    have Nc8 := an0 q7 c8
    delta P_X11_even_39
    obtain ⟨o9, h⟩ := h
    refine ⟨o9, ?_⟩
    refine cm_X11_refused (tq_X11_refused h) h (fun x10 S11 hp h g12 => ?_)
    have h := h g12
    have V13 := hp.2
    have oc := gr_ob g12 oc
    exact ⟨h, by rw [V13]; first | (simp only [whface, whair, whfits, whlies, whday, whgot, whon, whwalker, whroad, trN, trOK, dc_T, dc_F, not_false_eq_true, not_true_eq_false, and_true, true_and, and_false, false_and, and_self, true_or, or_true, false_or, or_false, or_self, Nc8]; done)⟩
  · intro c14
    have h := h.2 c14
    have Nc14 := an1 q7 c14
    refine cm_X11_isRoad (sq_X11_isRoad hm h) h (fun x15 S16 hp h g17 b18 => ?_)
    have h := h g17 b18
    obtain ⟨-, hS, q19⟩ := hp
    subst hS
    refine ⟨?_, ?_⟩
    · intro c20
      have h := h.1 c20
      have Nc20 := an0 q19 c20
      delta P_X11_even_39
      obtain ⟨o21, h⟩ := h
      refine ⟨o21, ?_⟩
      refine cm_X11_refused (tq_X11_refused h) h (fun x22 S23 hp h g24 => ?_)
      have h := h g24
      have V25 := hp.2
      have oc := gr_ob g24 oc
      exact ⟨h, by rw [V25]; first | (simp only [whface, whair, whfits, whlies, whday, whgot, whon, whwalker, whroad, trN, trOK, dc_T, dc_F, not_false_eq_true, not_true_eq_false, and_true, true_and, and_false, false_and, and_self, true_or, or_true, false_or, or_false, or_self, Nc14, Nc20]; done)⟩
    · intro c26
      have h := h.2 c26
      have Nc26 := an1 q19 c26
      refine cm_X11_in (sq_X11_way h) h (fun x27 S28 hp h g29 b30 => ?_)
      have h := h g29 b30
      obtain ⟨-, hS, q31⟩ := hp
      subst hS
      refine ⟨?_, ?_⟩
      · intro c32
        have h := h.1 c32
        have Nc32 := an0 q31 c32
        delta P_X11_even_39
        obtain ⟨o33, h⟩ := h
        refine ⟨o33, ?_⟩
        refine cm_X11_refused (tq_X11_refused h) h (fun x34 S35 hp h g36 => ?_)
        have h := h g36
        have V37 := hp.2
        have oc := gr_ob g36 oc
        exact ⟨h, by rw [V37]; first | (simp only [whface, whair, whfits, whlies, whday, whgot, whon, whwalker, whroad, trN, trOK, dc_T, dc_F, not_false_eq_true, not_true_eq_false, and_true, true_and, and_false, false_and, and_self, true_or, or_true, false_or, or_false, or_self, Nc14, Nc26, Nc32]; done)⟩
      · intro c38
        have h := h.2 c38
        have Nc38 := an1 q31 c38
        refine cm_X11_isHour (sq_X11_isHour hm h) h (fun x39 S40 hp h g41 b42 => ?_)
        have h := h g41 b42
        obtain ⟨-, hS, q43⟩ := hp
        subst hS
        refine ⟨?_, ?_⟩
        · intro c44
          have h := h.1 c44
          have Nc44 := an1 q43 c44
          obtain ⟨a45, ea45, h⟩ := h
          refine ⟨a45, ea45, ?_⟩
          obtain ⟨o46, h⟩ := h
          refine ⟨o46, ?_⟩
          obtain ⟨a47, ea47, h⟩ := h
          refine ⟨a47, ea47, ?_⟩
          obtain ⟨o48, h⟩ := h
          refine ⟨o48, ?_⟩
          obtain ⟨o49, h⟩ := h
          refine ⟨o49, ?_⟩
          intro x50 ex50
          have h := h x50 ex50
          exact tqL_X11_even_59 (by simp only [whface, whair, whfits, whlies, whday, whgot, whon, whwalker, whroad, trN, trOK, dc_T, dc_F, not_false_eq_true, not_true_eq_false, and_true, true_and, and_false, false_and, and_self, true_or, or_true, false_or, or_false, or_self, Nc14, Nc26, Nc38, Nc44]) oc h
        · intro c85
          have h := h.2 c85
          have Nc85 := an0 q43 c85
          delta P_X11_even_39
          obtain ⟨o86, h⟩ := h
          refine ⟨o86, ?_⟩
          refine cm_X11_refused (tq_X11_refused h) h (fun x87 S88 hp h g89 => ?_)
          have h := h g89
          have V90 := hp.2
          have oc := gr_ob g89 oc
          exact ⟨h, by rw [V90]; first | (simp only [whface, whair, whfits, whlies, whday, whgot, whon, whwalker, whroad, trN, trOK, dc_T, dc_F, not_false_eq_true, not_true_eq_false, and_true, true_and, and_false, false_and, and_self, true_or, or_true, false_or, or_false, or_self, Nc14, Nc26, Nc38, Nc85]; done)⟩

set_option maxHeartbeats 1000000 in
theorem tq_X9_round {A : AS} {G : GC} {D : DY} {v0 : Nat} {v1 : Int32} {v2 : Int32} {v3 : Int32} {v4 : Int32} {Q : Int64 → HS → Prop} {S : HS} (hI : IV S) (oc : ob S v0 9) {rr w1 w2 : Nat} (J : CJ v0 rr w1 w2 S) (hc : Cnt w1 A S) (ct : CtB w1 A G S S) (ab : ABd A) (gb : GBd A G) (ge : GBe A G) {lgo b0 b1 : Nat} (lg : LG v0 lgo b0 b1 S) {dy : Nat} (e6 : fR S v0 6 = some dy) (cd : CDd dy D S) (db : DBd A D) (wd : WYd v0 A G S) (h : P_X9_round v0 v1 v2 v3 v4 Q S) : P_X9_round v0 v1 v2 v3 v4 (fun r T => Q r T ∧ fI T v0 9 = trN A v1 v2 0 v3) S := by
  delta P_X9_round P_X9_round_0
  have h8 := wt_of hI J hc ct ab
  obtain ⟨o1, h⟩ := h
  refine ⟨o1, ?_⟩
  refine cm_X9_tripTrouble (sp_X9_tripTrouble hI J hc ab h) h (fun x2 S3 hp h g4 => ?_)
  have h := h g4
  obtain ⟨-, hS, q5⟩ := hp
  subst hS
  refine cm_X9_refusedBy (tq_X9_refusedBy h) h (fun x6 S7 hp h g8 b9 => ?_)
  have h := h g8 b9
  have V10 := hp.2
  have oc := gr_ob g8 oc
  refine ⟨?_, ?_⟩
  · intro c11
    have h := h.1 c11
    obtain ⟨a12, ea12, h⟩ := h
    refine ⟨a12, ea12, ?_⟩
    obtain ⟨a13, ea13, h⟩ := h
    refine ⟨a13, ea13, ?_⟩
    obtain ⟨o14, h⟩ := h
    refine ⟨o14, ?_⟩
    obtain ⟨a15, ea15, h⟩ := h
    refine ⟨a15, ea15, ?_⟩
    obtain ⟨o16, h⟩ := h
    refine ⟨o16, ?_⟩
    obtain ⟨o17, h⟩ := h
    refine ⟨o17, ?_⟩
    obtain ⟨a18, ea18, h⟩ := h
    refine ⟨a18, ea18, ?_⟩
    obtain ⟨a19, ea19, h⟩ := h
    refine ⟨a19, ea19, ?_⟩
    obtain ⟨o20, h⟩ := h
    refine ⟨o20, ?_⟩
    obtain ⟨a21, ea21, h⟩ := h
    refine ⟨a21, ea21, ?_⟩
    obtain ⟨o22, h⟩ := h
    refine ⟨o22, ?_⟩
    obtain ⟨o23, h⟩ := h
    refine ⟨o23, ?_⟩
    obtain ⟨a24, ea24, h⟩ := h
    refine ⟨a24, ea24, ?_⟩
    obtain ⟨a25, ea25, h⟩ := h
    refine ⟨a25, ea25, ?_⟩
    obtain ⟨o26, h⟩ := h
    refine ⟨o26, ?_⟩
    obtain ⟨a27, ea27, h⟩ := h
    refine ⟨a27, ea27, ?_⟩
    obtain ⟨o28, h⟩ := h
    refine ⟨o28, ?_⟩
    obtain ⟨o29, h⟩ := h
    refine ⟨o29, ?_⟩
    obtain ⟨a30, ea30, h⟩ := h
    refine ⟨a30, ea30, ?_⟩
    obtain ⟨o31, h⟩ := h
    refine ⟨o31, ?_⟩
    refine cm_X1_leastWet (kq_X1_leastWet h) h (fun x32 S33 hp h g34 => ?_)
    have h := h g34
    have V35 := (hp.2.2 (9, 9) (by decide) v0 oc).trans V10
    have oc := gr_ob g34 oc
    obtain ⟨a36, ea36, h⟩ := h
    refine ⟨a36, ea36, ?_⟩
    obtain ⟨a37, ea37, h⟩ := h
    refine ⟨a37, ea37, ?_⟩
    obtain ⟨o38, h⟩ := h
    refine ⟨o38, ?_⟩
    obtain ⟨a39, ea39, h⟩ := h
    refine ⟨a39, ea39, ?_⟩
    obtain ⟨o40, h⟩ := h
    refine ⟨o40, ?_⟩
    obtain ⟨o41, h⟩ := h
    refine ⟨o41, ?_⟩
    obtain ⟨a42, ea42, h⟩ := h
    refine ⟨a42, ea42, ?_⟩
    obtain ⟨a43, ea43, h⟩ := h
    refine ⟨a43, ea43, ?_⟩
    obtain ⟨o44, h⟩ := h
    refine ⟨o44, ?_⟩
    obtain ⟨a45, ea45, h⟩ := h
    refine ⟨a45, ea45, ?_⟩
    obtain ⟨o46, h⟩ := h
    refine ⟨o46, ?_⟩
    obtain ⟨o47, h⟩ := h
    refine ⟨o47, ?_⟩
    obtain ⟨a48, ea48, h⟩ := h
    refine ⟨a48, ea48, ?_⟩
    obtain ⟨a49, ea49, h⟩ := h
    refine ⟨a49, ea49, ?_⟩
    obtain ⟨o50, h⟩ := h
    refine ⟨o50, ?_⟩
    obtain ⟨a51, ea51, h⟩ := h
    refine ⟨a51, ea51, ?_⟩
    obtain ⟨o52, h⟩ := h
    refine ⟨o52, ?_⟩
    obtain ⟨o53, h⟩ := h
    refine ⟨o53, ?_⟩
    obtain ⟨a54, ea54, h⟩ := h
    refine ⟨a54, ea54, ?_⟩
    obtain ⟨o55, h⟩ := h
    refine ⟨o55, ?_⟩
    refine cm_X1_leastWet (kq_X1_leastWet h) h (fun x56 S57 hp h g58 => ?_)
    have h := h g58
    have V59 := (hp.2.2 (9, 9) (by decide) v0 oc).trans V35
    have oc := gr_ob g58 oc
    refine cm_X9_fraction (kq_X9_fraction h) h (fun x60 S61 hp h g62 => ?_)
    have h := h g62
    have V63 := (hp.2.2 (9, 9) (by decide) v0 oc).trans V59
    have oc := gr_ob g62 oc
    exact ⟨h, V63.trans q5⟩
  · intro c64
    have h := h.2 c64
    exact ⟨h, V10.trans q5⟩

set_option maxHeartbeats 1000000 in
theorem tq_X11_round {A : AS} {G : GC} {D : DY} {v0 : Nat} {v1 : Int32} {v2 : Int32} {v3 : Int32} {v4 : Int32} {Q : Int64 → HS → Prop} {S : HS} (hI : IV S) (oc : ob S v0 11) (hm : HM v0 A G S) (ab : ABd A) (gb : GBd A G) (ge : GBe A G) (md : MDd v0 D S) (db : DBd A D) (h : P_X11_round v0 v1 v2 v3 v4 Q S) : P_X11_round v0 v1 v2 v3 v4 (fun r T => Q r T ∧ fI T v0 1 = trN A v1 v2 0 v3) S := by
  delta P_X11_round P_X11_round_0
  have oc0 := oc
  obtain ⟨o1, h⟩ := h
  refine ⟨o1, ?_⟩
  intro S2 eS2
  have h := h S2 eS2
  have hE := m_start hI eS2
  have hm := hm_0 hm oc eS2
  have md := md_I md eS2 (by decide) (by decide) (by decide) (by decide)
  have oc := ob_wI oc eS2
  refine cm_X11_isWalker (sq_X11_isWalker hm h) h (fun x3 S4 hp h g5 b6 => ?_)
  have h := h g5 b6
  obtain ⟨-, hS, q7⟩ := hp
  subst hS
  refine ⟨?_, ?_⟩
  · intro c8
    have h := h.1 c8
    have Nc8 := an0 q7 c8
    delta P_X11_round_29
    obtain ⟨o9, h⟩ := h
    refine ⟨o9, ?_⟩
    refine cm_X11_refused (tq_X11_refused h) h (fun x10 S11 hp h g12 => ?_)
    have h := h g12
    have V13 := hp.2
    have oc := gr_ob g12 oc
    exact ⟨h, by rw [V13]; first | (simp only [whface, whair, whfits, whlies, whday, whgot, whon, whwalker, whroad, trN, trOK, dc_T, dc_F, not_false_eq_true, not_true_eq_false, and_true, true_and, and_false, false_and, and_self, true_or, or_true, false_or, or_false, or_self, Nc8]; done)⟩
  · intro c14
    have h := h.2 c14
    have Nc14 := an1 q7 c14
    refine cm_X11_isRoad (sq_X11_isRoad hm h) h (fun x15 S16 hp h g17 b18 => ?_)
    have h := h g17 b18
    obtain ⟨-, hS, q19⟩ := hp
    subst hS
    refine ⟨?_, ?_⟩
    · intro c20
      have h := h.1 c20
      have Nc20 := an0 q19 c20
      delta P_X11_round_29
      obtain ⟨o21, h⟩ := h
      refine ⟨o21, ?_⟩
      refine cm_X11_refused (tq_X11_refused h) h (fun x22 S23 hp h g24 => ?_)
      have h := h g24
      have V25 := hp.2
      have oc := gr_ob g24 oc
      exact ⟨h, by rw [V25]; first | (simp only [whface, whair, whfits, whlies, whday, whgot, whon, whwalker, whroad, trN, trOK, dc_T, dc_F, not_false_eq_true, not_true_eq_false, and_true, true_and, and_false, false_and, and_self, true_or, or_true, false_or, or_false, or_self, Nc14, Nc20]; done)⟩
    · intro c26
      have h := h.2 c26
      have Nc26 := an1 q19 c26
      refine cm_X11_isHour (sq_X11_isHour hm h) h (fun x27 S28 hp h g29 b30 => ?_)
      have h := h g29 b30
      obtain ⟨-, hS, q31⟩ := hp
      subst hS
      refine ⟨?_, ?_⟩
      · intro c32
        have h := h.1 c32
        have Nc32 := an1 q31 c32
        refine cm_X11_wetAtBest (kq_X11_wetAtBest h) h (fun x33 S34 hp h g35 => ?_)
        have h := h g35
        have oc := gr_ob g35 oc
        refine cm_X11_wetAtBest (kq_X11_wetAtBest h) h (fun x36 S37 hp h g38 => ?_)
        have h := h g38
        have oc := gr_ob g38 oc
        refine cm_X11_told (tq_X11_told h) h (fun x39 S40 hp h g41 => ?_)
        have h := h g41
        have V42 := hp.2
        have oc := gr_ob g41 oc
        exact ⟨h, by rw [V42]; first | (simp only [whface, whair, whfits, whlies, whday, whgot, whon, whwalker, whroad, trN, trOK, dc_T, dc_F, not_false_eq_true, not_true_eq_false, and_true, true_and, and_false, false_and, and_self, true_or, or_true, false_or, or_false, or_self, Nc14, Nc26, Nc32]; done)⟩
      · intro c43
        have h := h.2 c43
        have Nc43 := an0 q31 c43
        delta P_X11_round_29
        obtain ⟨o44, h⟩ := h
        refine ⟨o44, ?_⟩
        refine cm_X11_refused (tq_X11_refused h) h (fun x45 S46 hp h g47 => ?_)
        have h := h g47
        have V48 := hp.2
        have oc := gr_ob g47 oc
        exact ⟨h, by rw [V48]; first | (simp only [whface, whair, whfits, whlies, whday, whgot, whon, whwalker, whroad, trN, trOK, dc_T, dc_F, not_false_eq_true, not_true_eq_false, and_true, true_and, and_false, false_and, and_self, true_or, or_true, false_or, or_false, or_self, Nc14, Nc26, Nc43]; done)⟩

set_option maxHeartbeats 1000000 in
theorem tq_X9_air {A : AS} {G : GC} {D : DY} {v0 : Nat} {v1 : Int32} {v2 : Int32} {v3 : Int32} {Q : Int32 → HS → Prop} {S : HS} (hI : IV S) (oc : ob S v0 9) {rr w1 w2 : Nat} (J : CJ v0 rr w1 w2 S) (hc : Cnt w1 A S) (ct : CtB w1 A G S S) (ab : ABd A) (gb : GBd A G) (ge : GBe A G) {lgo b0 b1 : Nat} (lg : LG v0 lgo b0 b1 S) {dy : Nat} (e6 : fR S v0 6 = some dy) (cd : CDd dy D S) (db : DBd A D) (wd : WYd v0 A G S) (h : P_X9_air v0 v1 v2 v3 Q S) : P_X9_air v0 v1 v2 v3 (fun r T => Q r T ∧ fI T v0 9 = whair A v1 v2 v3) S := by
  delta P_X9_air P_X9_air_0
  have h8 := wt_of hI J hc ct ab
  obtain ⟨o1, h⟩ := h
  refine ⟨o1, ?_⟩
  obtain ⟨a2, ea2, h⟩ := h
  cases J.1.symm.trans ea2
  refine ⟨_, ea2, ?_⟩
  obtain ⟨o3, h⟩ := h
  refine ⟨o3, ?_⟩
  refine cm_X8_hasRoad (sw_X8_hasRoad h8 ab h) h (fun x4 S5 hp h g6 b7 => ?_)
  have h := h g6 b7
  obtain ⟨-, hS, q8⟩ := hp
  subst hS
  refine ⟨?_, ?_⟩
  · intro c9
    have h := h.1 c9
    have Nc9 := an0 q8 c9
    intro S10 eS10
    have h := h S10 eS10
    have V11 : fI S10 v0 9 = (1 : Int32) := by rw [eS10]; exact u2_self _ _ _ _
    have oc := ob_wI oc eS10
    exact ⟨h, by rw [V11]; first | (simp only [whface, whair, whfits, whlies, whday, whgot, whon, whwalker, whroad, trN, trOK, dc_T, dc_F, not_false_eq_true, not_true_eq_false, and_true, true_and, and_false, false_and, and_self, true_or, or_true, false_or, or_false, or_self, Nc9]; done)⟩
  · intro c12
    have h := h.2 c12
    have Nc12 := an1 q8 c12
    refine cm_X9_isWay (sp_X9_isWay h) h (fun x13 S14 hp h g15 b16 => ?_)
    have h := h g15 b16
    obtain ⟨-, hS, q17⟩ := hp
    subst hS
    refine ⟨?_, ?_⟩
    · intro c18
      have h := h.1 c18
      have Nc18 := an0 q17 c18
      intro S19 eS19
      have h := h S19 eS19
      have V20 : fI S19 v0 9 = (1 : Int32) := by rw [eS19]; exact u2_self _ _ _ _
      have oc := ob_wI oc eS19
      exact ⟨h, by rw [V20]; first | (simp only [whface, whair, whfits, whlies, whday, whgot, whon, whwalker, whroad, trN, trOK, dc_T, dc_F, not_false_eq_true, not_true_eq_false, and_true, true_and, and_false, false_and, and_self, true_or, or_true, false_or, or_false, or_self, Nc12, Nc18]; done)⟩
    · intro c21
      have h := h.2 c21
      have Nc21 := an1 q17 c21
      obtain ⟨a22, ea22, h⟩ := h
      cases J.1.symm.trans ea22
      refine ⟨_, ea22, ?_⟩
      obtain ⟨o23, h⟩ := h
      refine ⟨o23, ?_⟩
      refine cm_X8_hasHour (sw_X8_hasHour h8 ab h) h (fun x24 S25 hp h g26 b27 => ?_)
      have h := h g26 b27
      obtain ⟨-, hS, q28⟩ := hp
      subst hS
      refine ⟨?_, ?_⟩
      · intro c29
        have h := h.1 c29
        have Nc29 := an1 q28 c29
        obtain ⟨a30, ea30, h⟩ := h
        cases J.1.symm.trans ea30
        refine ⟨_, ea30, ?_⟩
        obtain ⟨o31, h⟩ := h
        refine ⟨o31, ?_⟩
        obtain ⟨a32, ea32, h⟩ := h
        refine ⟨a32, ea32, ?_⟩
        obtain ⟨o33, h⟩ := h
        refine ⟨o33, ?_⟩
        obtain ⟨o34, h⟩ := h
        refine ⟨o34, ?_⟩
        obtain ⟨a35, ea35, h⟩ := h
        refine ⟨a35, ea35, ?_⟩
        obtain ⟨a36, ea36, h⟩ := h
        cases J.1.symm.trans ea36
        refine ⟨_, ea36, ?_⟩
        obtain ⟨o37, h⟩ := h
        refine ⟨o37, ?_⟩
        obtain ⟨a38, ea38, h⟩ := h
        refine ⟨a38, ea38, ?_⟩
        obtain ⟨o39, h⟩ := h
        refine ⟨o39, ?_⟩
        obtain ⟨o40, h⟩ := h
        refine ⟨o40, ?_⟩
        obtain ⟨a41, ea41, h⟩ := h
        refine ⟨a41, ea41, ?_⟩
        obtain ⟨o42, h⟩ := h
        refine ⟨o42, ?_⟩
        refine cm_X5_airAlong (kq_X5_airAlong h) h (fun x43 S44 hp h g45 => ?_)
        have h := h g45
        have oc := gr_ob g45 oc
        refine cm_X9_grant (tq_X9_grant h) h (fun x46 S47 hp h g48 => ?_)
        have h := h g48
        have V49 := hp.2
        have oc := gr_ob g48 oc
        exact ⟨h, by rw [V49]; first | (simp only [whface, whair, whfits, whlies, whday, whgot, whon, whwalker, whroad, trN, trOK, dc_T, dc_F, not_false_eq_true, not_true_eq_false, and_true, true_and, and_false, false_and, and_self, true_or, or_true, false_or, or_false, or_self, Nc12, Nc21, Nc29]; done)⟩
      · intro c50
        have h := h.2 c50
        have Nc50 := an0 q28 c50
        intro S51 eS51
        have h := h S51 eS51
        have V52 : fI S51 v0 9 = (1 : Int32) := by rw [eS51]; exact u2_self _ _ _ _
        have oc := ob_wI oc eS51
        exact ⟨h, by rw [V52]; first | (simp only [whface, whair, whfits, whlies, whday, whgot, whon, whwalker, whroad, trN, trOK, dc_T, dc_F, not_false_eq_true, not_true_eq_false, and_true, true_and, and_false, false_and, and_self, true_or, or_true, false_or, or_false, or_self, Nc12, Nc21, Nc50]; done)⟩

set_option maxHeartbeats 1000000 in
theorem tq_X11_air {A : AS} {G : GC} {D : DY} {v0 : Nat} {v1 : Int32} {v2 : Int32} {v3 : Int32} {Q : Int32 → HS → Prop} {S : HS} (hI : IV S) (oc : ob S v0 11) (hm : HM v0 A G S) (ab : ABd A) (gb : GBd A G) (ge : GBe A G) (md : MDd v0 D S) (db : DBd A D) (h : P_X11_air v0 v1 v2 v3 Q S) : P_X11_air v0 v1 v2 v3 (fun r T => Q r T ∧ fI T v0 1 = whair A v1 v2 v3) S := by
  delta P_X11_air P_X11_air_0
  have oc0 := oc
  obtain ⟨o1, h⟩ := h
  refine ⟨o1, ?_⟩
  intro S2 eS2
  have h := h S2 eS2
  have hE := m_start hI eS2
  have hm := hm_0 hm oc eS2
  have md := md_I md eS2 (by decide) (by decide) (by decide) (by decide)
  have oc := ob_wI oc eS2
  refine cm_X11_isRoad (sq_X11_isRoad hm h) h (fun x3 S4 hp h g5 b6 => ?_)
  have h := h g5 b6
  obtain ⟨-, hS, q7⟩ := hp
  subst hS
  refine ⟨?_, ?_⟩
  · intro c8
    have h := h.1 c8
    have Nc8 := an0 q7 c8
    delta P_X11_air_30
    obtain ⟨o9, h⟩ := h
    refine ⟨o9, ?_⟩
    refine cm_X11_lost (tq_X11_lost h) h (fun x10 S11 hp h g12 => ?_)
    have h := h g12
    have V13 := hp.2
    have oc := gr_ob g12 oc
    exact ⟨h, by rw [V13]; first | (simp only [whface, whair, whfits, whlies, whday, whgot, whon, whwalker, whroad, trN, trOK, dc_T, dc_F, not_false_eq_true, not_true_eq_false, and_true, true_and, and_false, false_and, and_self, true_or, or_true, false_or, or_false, or_self, Nc8]; done)⟩
  · intro c14
    have h := h.2 c14
    have Nc14 := an1 q7 c14
    refine cm_X11_in (sq_X11_way h) h (fun x15 S16 hp h g17 b18 => ?_)
    have h := h g17 b18
    obtain ⟨-, hS, q19⟩ := hp
    subst hS
    refine ⟨?_, ?_⟩
    · intro c20
      have h := h.1 c20
      have Nc20 := an0 q19 c20
      delta P_X11_air_30
      obtain ⟨o21, h⟩ := h
      refine ⟨o21, ?_⟩
      refine cm_X11_lost (tq_X11_lost h) h (fun x22 S23 hp h g24 => ?_)
      have h := h g24
      have V25 := hp.2
      have oc := gr_ob g24 oc
      exact ⟨h, by rw [V25]; first | (simp only [whface, whair, whfits, whlies, whday, whgot, whon, whwalker, whroad, trN, trOK, dc_T, dc_F, not_false_eq_true, not_true_eq_false, and_true, true_and, and_false, false_and, and_self, true_or, or_true, false_or, or_false, or_self, Nc14, Nc20]; done)⟩
    · intro c26
      have h := h.2 c26
      have Nc26 := an1 q19 c26
      refine cm_X11_isHour (sq_X11_isHour hm h) h (fun x27 S28 hp h g29 b30 => ?_)
      have h := h g29 b30
      obtain ⟨-, hS, q31⟩ := hp
      subst hS
      refine ⟨?_, ?_⟩
      · intro c32
        have h := h.1 c32
        have Nc32 := an1 q31 c32
        obtain ⟨a33, ea33, h⟩ := h
        refine ⟨a33, ea33, ?_⟩
        obtain ⟨o34, h⟩ := h
        refine ⟨o34, ?_⟩
        refine cm_X10_air (kq_X10_air h) h (fun x35 S36 hp h g37 => ?_)
        have h := h g37
        have oc := gr_ob g37 oc
        refine cm_X11_good (tq_X11_good h) h (fun x38 S39 hp h g40 => ?_)
        have h := h g40
        have V41 := hp.2
        have oc := gr_ob g40 oc
        exact ⟨h, by rw [V41]; first | (simp only [whface, whair, whfits, whlies, whday, whgot, whon, whwalker, whroad, trN, trOK, dc_T, dc_F, not_false_eq_true, not_true_eq_false, and_true, true_and, and_false, false_and, and_self, true_or, or_true, false_or, or_false, or_self, Nc14, Nc26, Nc32]; done)⟩
      · intro c42
        have h := h.2 c42
        have Nc42 := an0 q31 c42
        delta P_X11_air_30
        obtain ⟨o43, h⟩ := h
        refine ⟨o43, ?_⟩
        refine cm_X11_lost (tq_X11_lost h) h (fun x44 S45 hp h g46 => ?_)
        have h := h g46
        have V47 := hp.2
        have oc := gr_ob g46 oc
        exact ⟨h, by rw [V47]; first | (simp only [whface, whair, whfits, whlies, whday, whgot, whon, whwalker, whroad, trN, trOK, dc_T, dc_F, not_false_eq_true, not_true_eq_false, and_true, true_and, and_false, false_and, and_self, true_or, or_true, false_or, or_false, or_self, Nc14, Nc26, Nc42]; done)⟩

set_option maxHeartbeats 1000000 in
theorem tq_X9_lee {A : AS} {G : GC} {D : DY} {v0 : Nat} {v1 : Int32} {v2 : Int32} {v3 : Int32} {v4 : Int32} {v5 : Int32} {v6 : Int32} {v7 : Int32} {Q : Int64 → HS → Prop} {S : HS} (hI : IV S) (oc : ob S v0 9) {rr w1 w2 : Nat} (J : CJ v0 rr w1 w2 S) (hc : Cnt w1 A S) (ct : CtB w1 A G S S) (ab : ABd A) (gb : GBd A G) (ge : GBe A G) {lgo b0 b1 : Nat} (lg : LG v0 lgo b0 b1 S) {dy : Nat} (e6 : fR S v0 6 = some dy) (cd : CDd dy D S) (db : DBd A D) (wd : WYd v0 A G S) (h : P_X9_lee v0 v1 v2 v3 v4 v5 v6 v7 Q S) : P_X9_lee v0 v1 v2 v3 v4 v5 v6 v7 (fun r T => Q r T ∧ fI T v0 9 = leN A G v1 v2 v3 v4 v5 v6) S := by
  delta P_X9_lee P_X9_lee_0
  have h8 := wt_of hI J hc ct ab
  obtain ⟨o1, h⟩ := h
  refine ⟨o1, ?_⟩
  refine cm_X9_leeTrouble (sp_X9_leeTrouble hI J hc ct ab gb h) h (fun x2 S3 hp h g4 => ?_)
  have h := h g4
  obtain ⟨-, hS, q5⟩ := hp
  subst hS
  refine cm_X9_refusedBy (tq_X9_refusedBy h) h (fun x6 S7 hp h g8 b9 => ?_)
  have h := h g8 b9
  have V10 := hp.2
  have oc := gr_ob g8 oc
  refine ⟨?_, ?_⟩
  · intro c11
    have h := h.1 c11
    obtain ⟨a12, ea12, h⟩ := h
    refine ⟨a12, ea12, ?_⟩
    obtain ⟨a13, ea13, h⟩ := h
    refine ⟨a13, ea13, ?_⟩
    obtain ⟨o14, h⟩ := h
    refine ⟨o14, ?_⟩
    obtain ⟨a15, ea15, h⟩ := h
    refine ⟨a15, ea15, ?_⟩
    obtain ⟨o16, h⟩ := h
    refine ⟨o16, ?_⟩
    obtain ⟨o17, h⟩ := h
    refine ⟨o17, ?_⟩
    obtain ⟨a18, ea18, h⟩ := h
    refine ⟨a18, ea18, ?_⟩
    obtain ⟨a19, ea19, h⟩ := h
    refine ⟨a19, ea19, ?_⟩
    obtain ⟨o20, h⟩ := h
    refine ⟨o20, ?_⟩
    obtain ⟨a21, ea21, h⟩ := h
    refine ⟨a21, ea21, ?_⟩
    obtain ⟨o22, h⟩ := h
    refine ⟨o22, ?_⟩
    obtain ⟨o23, h⟩ := h
    refine ⟨o23, ?_⟩
    obtain ⟨a24, ea24, h⟩ := h
    refine ⟨a24, ea24, ?_⟩
    obtain ⟨o25, h⟩ := h
    refine ⟨o25, ?_⟩
    refine cm_X1_lay (kq_X1_lay h) h (fun S26 hp h g27 => ?_)
    have h := h g27
    have V28 := (hp.2.2 (9, 9) (by decide) v0 oc).trans V10
    have oc := gr_ob g27 oc
    obtain ⟨a29, ea29, h⟩ := h
    refine ⟨a29, ea29, ?_⟩
    obtain ⟨a30, ea30, h⟩ := h
    refine ⟨a30, ea30, ?_⟩
    obtain ⟨o31, h⟩ := h
    refine ⟨o31, ?_⟩
    obtain ⟨a32, ea32, h⟩ := h
    refine ⟨a32, ea32, ?_⟩
    obtain ⟨o33, h⟩ := h
    refine ⟨o33, ?_⟩
    obtain ⟨o34, h⟩ := h
    refine ⟨o34, ?_⟩
    obtain ⟨a35, ea35, h⟩ := h
    refine ⟨a35, ea35, ?_⟩
    obtain ⟨a36, ea36, h⟩ := h
    refine ⟨a36, ea36, ?_⟩
    obtain ⟨o37, h⟩ := h
    refine ⟨o37, ?_⟩
    obtain ⟨a38, ea38, h⟩ := h
    refine ⟨a38, ea38, ?_⟩
    obtain ⟨o39, h⟩ := h
    refine ⟨o39, ?_⟩
    obtain ⟨o40, h⟩ := h
    refine ⟨o40, ?_⟩
    obtain ⟨a41, ea41, h⟩ := h
    refine ⟨a41, ea41, ?_⟩
    obtain ⟨o42, h⟩ := h
    refine ⟨o42, ?_⟩
    refine cm_X1_wetInLee (kq_X1_wetInLee h) h (fun x43 S44 hp h g45 => ?_)
    have h := h g45
    have V46 := (hp.2.2 (9, 9) (by decide) v0 oc).trans V28
    have oc := gr_ob g45 oc
    refine cm_X9_fraction (kq_X9_fraction h) h (fun x47 S48 hp h g49 => ?_)
    have h := h g49
    have V50 := (hp.2.2 (9, 9) (by decide) v0 oc).trans V46
    have oc := gr_ob g49 oc
    exact ⟨h, V50.trans q5⟩
  · intro c51
    have h := h.2 c51
    exact ⟨h, V10.trans q5⟩

set_option maxHeartbeats 1000000 in
theorem tq_X11_lee {A : AS} {G : GC} {D : DY} {v0 : Nat} {v1 : Int32} {v2 : Int32} {v3 : Int32} {v4 : Int32} {v5 : Int32} {v6 : Int32} {v7 : Int32} {Q : Int64 → HS → Prop} {S : HS} (hI : IV S) (oc : ob S v0 11) (hm : HM v0 A G S) (ab : ABd A) (gb : GBd A G) (ge : GBe A G) (md : MDd v0 D S) (db : DBd A D) (h : P_X11_lee v0 v1 v2 v3 v4 v5 v6 v7 Q S) : P_X11_lee v0 v1 v2 v3 v4 v5 v6 v7 (fun r T => Q r T ∧ fI T v0 1 = leN A G v1 v2 v3 v4 v5 v6) S := by
  delta P_X11_lee P_X11_lee_0
  have oc0 := oc
  obtain ⟨o1, h⟩ := h
  refine ⟨o1, ?_⟩
  intro S2 eS2
  have h := h S2 eS2
  have hE := m_start hI eS2
  have hm := hm_0 hm oc eS2
  have md := md_I md eS2 (by decide) (by decide) (by decide) (by decide)
  have oc := ob_wI oc eS2
  refine cm_X11_refusesTwo (sp_X11_refusesTwo hm ab hE h) h (fun x3 S4 hp h g5 => ?_)
  have h := h g5
  obtain ⟨-, hS, q6⟩ := hp
  subst hS
  refine ⟨?_, ?_⟩
  · intro c7
    have h := h.1 c7
    have Zc7 := le_le0 (by rw [← q6]; exact c7)
    refine cm_X11_together (kq_X11_together h) h (fun x8 S9 hp h g10 => ?_)
    have h := h g10
    have oc := gr_ob g10 oc
    refine cm_X11_told (tq_X11_told h) h (fun x11 S12 hp h g13 => ?_)
    have h := h g13
    have V14 := hp.2
    have oc := gr_ob g13 oc
    exact ⟨h, by rw [V14]; first | (simp only [whface, whair, whfits, whlies, whday, whgot, whon, whwalker, whroad, trN, trOK, dc_T, dc_F, not_false_eq_true, not_true_eq_false, and_true, true_and, and_false, false_and, and_self, true_or, or_true, false_or, or_false, or_self, Zc7]; done)⟩
  · intro c15
    have h := h.2 c15
    refine cm_X11_refused (tq_X11_refused h) h (fun x16 S17 hp h g18 => ?_)
    have h := h g18
    have V19 := hp.2
    have oc := gr_ob g18 oc
    exact ⟨h, V19.trans q6⟩

set_option maxHeartbeats 1000000 in
theorem tq_X9_first {A : AS} {G : GC} {D : DY} {v0 : Nat} {v1 : Int32} {v2 : Int32} {v3 : Int32} {v4 : Int32} {v5 : Int32} {v6 : Int32} {Q : Int32 → HS → Prop} {S : HS} (hI : IV S) (oc : ob S v0 9) {rr w1 w2 : Nat} (J : CJ v0 rr w1 w2 S) (hc : Cnt w1 A S) (ct : CtB w1 A G S S) (ab : ABd A) (gb : GBd A G) (ge : GBe A G) {lgo b0 b1 : Nat} (lg : LG v0 lgo b0 b1 S) {dy : Nat} (e6 : fR S v0 6 = some dy) (cd : CDd dy D S) (db : DBd A D) (wd : WYd v0 A G S) (h : P_X9_first v0 v1 v2 v3 v4 v5 v6 Q S) : P_X9_first v0 v1 v2 v3 v4 v5 v6 (fun r T => Q r T ∧ fI T v0 9 = leN A G v1 v2 v3 v4 v5 v6) S := by
  delta P_X9_first P_X9_first_0
  have h8 := wt_of hI J hc ct ab
  obtain ⟨o1, h⟩ := h
  refine ⟨o1, ?_⟩
  refine cm_X9_leeTrouble (sp_X9_leeTrouble hI J hc ct ab gb h) h (fun x2 S3 hp h g4 => ?_)
  have h := h g4
  obtain ⟨-, hS, q5⟩ := hp
  subst hS
  refine cm_X9_refusedBy (tq_X9_refusedBy h) h (fun x6 S7 hp h g8 b9 => ?_)
  have h := h g8 b9
  have V10 := hp.2
  have oc := gr_ob g8 oc
  refine ⟨?_, ?_⟩
  · intro c11
    have h := h.1 c11
    obtain ⟨a12, ea12, h⟩ := h
    refine ⟨a12, ea12, ?_⟩
    obtain ⟨a13, ea13, h⟩ := h
    refine ⟨a13, ea13, ?_⟩
    obtain ⟨o14, h⟩ := h
    refine ⟨o14, ?_⟩
    obtain ⟨a15, ea15, h⟩ := h
    refine ⟨a15, ea15, ?_⟩
    obtain ⟨o16, h⟩ := h
    refine ⟨o16, ?_⟩
    obtain ⟨o17, h⟩ := h
    refine ⟨o17, ?_⟩
    obtain ⟨a18, ea18, h⟩ := h
    refine ⟨a18, ea18, ?_⟩
    obtain ⟨a19, ea19, h⟩ := h
    refine ⟨a19, ea19, ?_⟩
    obtain ⟨o20, h⟩ := h
    refine ⟨o20, ?_⟩
    obtain ⟨a21, ea21, h⟩ := h
    refine ⟨a21, ea21, ?_⟩
    obtain ⟨o22, h⟩ := h
    refine ⟨o22, ?_⟩
    obtain ⟨o23, h⟩ := h
    refine ⟨o23, ?_⟩
    obtain ⟨a24, ea24, h⟩ := h
    refine ⟨a24, ea24, ?_⟩
    obtain ⟨o25, h⟩ := h
    refine ⟨o25, ?_⟩
    refine cm_X1_lay (kq_X1_lay h) h (fun S26 hp h g27 => ?_)
    have h := h g27
    have V28 := (hp.2.2 (9, 9) (by decide) v0 oc).trans V10
    have oc := gr_ob g27 oc
    obtain ⟨a29, ea29, h⟩ := h
    refine ⟨a29, ea29, ?_⟩
    obtain ⟨a30, ea30, h⟩ := h
    refine ⟨a30, ea30, ?_⟩
    obtain ⟨o31, h⟩ := h
    refine ⟨o31, ?_⟩
    obtain ⟨a32, ea32, h⟩ := h
    refine ⟨a32, ea32, ?_⟩
    obtain ⟨o33, h⟩ := h
    refine ⟨o33, ?_⟩
    obtain ⟨o34, h⟩ := h
    refine ⟨o34, ?_⟩
    obtain ⟨a35, ea35, h⟩ := h
    refine ⟨a35, ea35, ?_⟩
    obtain ⟨a36, ea36, h⟩ := h
    refine ⟨a36, ea36, ?_⟩
    obtain ⟨o37, h⟩ := h
    refine ⟨o37, ?_⟩
    obtain ⟨a38, ea38, h⟩ := h
    refine ⟨a38, ea38, ?_⟩
    obtain ⟨o39, h⟩ := h
    refine ⟨o39, ?_⟩
    obtain ⟨o40, h⟩ := h
    refine ⟨o40, ?_⟩
    obtain ⟨a41, ea41, h⟩ := h
    refine ⟨a41, ea41, ?_⟩
    obtain ⟨o42, h⟩ := h
    refine ⟨o42, ?_⟩
    refine cm_X1_wetInLee (kq_X1_wetInLee h) h (fun x43 S44 hp h g45 => ?_)
    have h := h g45
    have V46 := (hp.2.2 (9, 9) (by decide) v0 oc).trans V28
    have oc := gr_ob g45 oc
    obtain ⟨a47, ea47, h⟩ := h
    refine ⟨a47, ea47, ?_⟩
    obtain ⟨a48, ea48, h⟩ := h
    refine ⟨a48, ea48, ?_⟩
    obtain ⟨o49, h⟩ := h
    refine ⟨o49, ?_⟩
    obtain ⟨a50, ea50, h⟩ := h
    refine ⟨a50, ea50, ?_⟩
    obtain ⟨o51, h⟩ := h
    refine ⟨o51, ?_⟩
    obtain ⟨o52, h⟩ := h
    refine ⟨o52, ?_⟩
    obtain ⟨a53, ea53, h⟩ := h
    refine ⟨a53, ea53, ?_⟩
    obtain ⟨a54, ea54, h⟩ := h
    refine ⟨a54, ea54, ?_⟩
    obtain ⟨o55, h⟩ := h
    refine ⟨o55, ?_⟩
    obtain ⟨a56, ea56, h⟩ := h
    refine ⟨a56, ea56, ?_⟩
    obtain ⟨o57, h⟩ := h
    refine ⟨o57, ?_⟩
    obtain ⟨o58, h⟩ := h
    refine ⟨o58, ?_⟩
    obtain ⟨a59, ea59, h⟩ := h
    refine ⟨a59, ea59, ?_⟩
    obtain ⟨o60, h⟩ := h
    refine ⟨o60, ?_⟩
    refine cm_X1_wetInLee (kq_X1_wetInLee h) h (fun x61 S62 hp h g63 => ?_)
    have h := h g63
    have V64 := (hp.2.2 (9, 9) (by decide) v0 oc).trans V46
    have oc := gr_ob g63 oc
    refine ⟨?_, ?_⟩
    · intro c65
      have h := h.1 c65
      refine ⟨?_, ?_⟩
      · intro c66
        have h := h.1 c66
        exact ⟨h, V64.trans q5⟩
      · intro c67
        have h := h.2 c67
        exact ⟨h, V64.trans q5⟩
    · intro c68
      have h := h.2 c68
      exact ⟨h, V64.trans q5⟩
  · intro c69
    have h := h.2 c69
    exact ⟨h, V10.trans q5⟩

set_option maxHeartbeats 1000000 in
theorem tq_X11_first {A : AS} {G : GC} {D : DY} {v0 : Nat} {v1 : Int32} {v2 : Int32} {v3 : Int32} {v4 : Int32} {v5 : Int32} {v6 : Int32} {Q : Int32 → HS → Prop} {S : HS} (hI : IV S) (oc : ob S v0 11) (hm : HM v0 A G S) (ab : ABd A) (gb : GBd A G) (ge : GBe A G) (md : MDd v0 D S) (db : DBd A D) (h : P_X11_first v0 v1 v2 v3 v4 v5 v6 Q S) : P_X11_first v0 v1 v2 v3 v4 v5 v6 (fun r T => Q r T ∧ fI T v0 1 = leN A G v1 v2 v3 v4 v5 v6) S := by
  delta P_X11_first P_X11_first_0
  have oc0 := oc
  obtain ⟨o1, h⟩ := h
  refine ⟨o1, ?_⟩
  intro S2 eS2
  have h := h S2 eS2
  have hE := m_start hI eS2
  have hm := hm_0 hm oc eS2
  have md := md_I md eS2 (by decide) (by decide) (by decide) (by decide)
  have oc := ob_wI oc eS2
  refine cm_X11_refusesTwo (sp_X11_refusesTwo hm ab hE h) h (fun x3 S4 hp h g5 => ?_)
  have h := h g5
  obtain ⟨-, hS, q6⟩ := hp
  subst hS
  refine ⟨?_, ?_⟩
  · intro c7
    have h := h.1 c7
    have Zc7 := le_le0 (by rw [← q6]; exact c7)
    refine cm_X11_together (kq_X11_together h) h (fun x8 S9 hp h g10 => ?_)
    have h := h g10
    have oc := gr_ob g10 oc
    refine cm_X11_together (kq_X11_together h) h (fun x11 S12 hp h g13 => ?_)
    have h := h g13
    have oc := gr_ob g13 oc
    refine ⟨?_, ?_⟩
    · intro c14
      have h := h.1 c14
      refine ⟨?_, ?_⟩
      · intro c15
        have h := h.1 c15
        delta P_X11_first_89
        obtain ⟨o16, h⟩ := h
        refine ⟨o16, ?_⟩
        refine cm_X11_good (tq_X11_good h) h (fun x17 S18 hp h g19 => ?_)
        have h := h g19
        have V20 := hp.2
        have oc := gr_ob g19 oc
        exact ⟨h, by rw [V20]; first | (simp only [whface, whair, whfits, whlies, whday, whgot, whon, whwalker, whroad, trN, trOK, dc_T, dc_F, not_false_eq_true, not_true_eq_false, and_true, true_and, and_false, false_and, and_self, true_or, or_true, false_or, or_false, or_self, Zc7]; done)⟩
      · intro c21
        have h := h.2 c21
        delta P_X11_first_89
        obtain ⟨o22, h⟩ := h
        refine ⟨o22, ?_⟩
        refine cm_X11_good (tq_X11_good h) h (fun x23 S24 hp h g25 => ?_)
        have h := h g25
        have V26 := hp.2
        have oc := gr_ob g25 oc
        exact ⟨h, by rw [V26]; first | (simp only [whface, whair, whfits, whlies, whday, whgot, whon, whwalker, whroad, trN, trOK, dc_T, dc_F, not_false_eq_true, not_true_eq_false, and_true, true_and, and_false, false_and, and_self, true_or, or_true, false_or, or_false, or_self, Zc7]; done)⟩
    · intro c27
      have h := h.2 c27
      delta P_X11_first_89
      obtain ⟨o28, h⟩ := h
      refine ⟨o28, ?_⟩
      refine cm_X11_good (tq_X11_good h) h (fun x29 S30 hp h g31 => ?_)
      have h := h g31
      have V32 := hp.2
      have oc := gr_ob g31 oc
      exact ⟨h, by rw [V32]; first | (simp only [whface, whair, whfits, whlies, whday, whgot, whon, whwalker, whroad, trN, trOK, dc_T, dc_F, not_false_eq_true, not_true_eq_false, and_true, true_and, and_false, false_and, and_self, true_or, or_true, false_or, or_false, or_self, Zc7]; done)⟩
  · intro c33
    have h := h.2 c33
    refine cm_X11_refused (tq_X11_refused h) h (fun x34 S35 hp h g36 => ?_)
    have h := h g36
    have V37 := hp.2
    have oc := gr_ob g36 oc
    exact ⟨h, V37.trans q6⟩

set_option maxHeartbeats 1000000 in
theorem tq_X9_least {A : AS} {G : GC} {D : DY} {v0 : Nat} {v1 : Int32} {v2 : Int32} {v3 : Int32} {v4 : Int32} {v5 : Int32} {v6 : Int32} {Q : Int64 → HS → Prop} {S : HS} (hI : IV S) (oc : ob S v0 9) {rr w1 w2 : Nat} (J : CJ v0 rr w1 w2 S) (hc : Cnt w1 A S) (ct : CtB w1 A G S S) (ab : ABd A) (gb : GBd A G) (ge : GBe A G) {lgo b0 b1 : Nat} (lg : LG v0 lgo b0 b1 S) {dy : Nat} (e6 : fR S v0 6 = some dy) (cd : CDd dy D S) (db : DBd A D) (wd : WYd v0 A G S) (h : P_X9_least v0 v1 v2 v3 v4 v5 v6 Q S) : P_X9_least v0 v1 v2 v3 v4 v5 v6 (fun r T => Q r T ∧ fI T v0 9 = wyN A G v1 v2 v3 v4 v5) S := by
  delta P_X9_least P_X9_least_0
  have h8 := wt_of hI J hc ct ab
  obtain ⟨o1, h⟩ := h
  refine ⟨o1, ?_⟩
  obtain ⟨wy, y_, e5_, ws_, wv_⟩ := wd
  refine cm_X9_wayTrouble (yw_wayTrouble hI oc ab gb ge J.1 h8 lg e5_ ws_ wv_ h) h (fun x2 S3 hp h g4 => ?_)
  have h := h g4
  obtain ⟨-, q5, -⟩ := hp
  have oc := gr_ob g4 oc
  refine cm_X9_refusedBy (tq_X9_refusedBy h) h (fun x6 S7 hp h g8 b9 => ?_)
  have h := h g8 b9
  have V10 := hp.2
  have oc := gr_ob g8 oc
  refine ⟨?_, ?_⟩
  · intro c11
    have h := h.1 c11
    obtain ⟨a12, ea12, h⟩ := h
    refine ⟨a12, ea12, ?_⟩
    obtain ⟨o13, h⟩ := h
    refine ⟨o13, ?_⟩
    refine cm_X7_meanFrom (kq_X7_meanFrom h) h (fun x14 S15 hp h g16 => ?_)
    have h := h g16
    have V17 := (hp.2.2 (9, 9) (by decide) v0 oc).trans V10
    have oc := gr_ob g16 oc
    refine cm_X9_fraction (kq_X9_fraction h) h (fun x18 S19 hp h g20 => ?_)
    have h := h g20
    have V21 := (hp.2.2 (9, 9) (by decide) v0 oc).trans V17
    have oc := gr_ob g20 oc
    exact ⟨h, V21.trans q5⟩
  · intro c22
    have h := h.2 c22
    exact ⟨h, V10.trans q5⟩

set_option maxHeartbeats 1000000 in
theorem tq_X11_least {A : AS} {G : GC} {D : DY} {v0 : Nat} {v1 : Int32} {v2 : Int32} {v3 : Int32} {v4 : Int32} {v5 : Int32} {v6 : Int32} {Q : Int64 → HS → Prop} {S : HS} (hI : IV S) (oc : ob S v0 11) (hm : HM v0 A G S) (ab : ABd A) (gb : GBd A G) (ge : GBe A G) (md : MDd v0 D S) (db : DBd A D) (h : P_X11_least v0 v1 v2 v3 v4 v5 v6 Q S) : P_X11_least v0 v1 v2 v3 v4 v5 v6 (fun r T => Q r T ∧ fI T v0 1 = wyN A G v1 v2 v3 v4 v5) S := by
  delta P_X11_least P_X11_least_0
  have oc0 := oc
  obtain ⟨o1, h⟩ := h
  refine ⟨o1, ?_⟩
  intro S2 eS2
  have h := h S2 eS2
  have hE := m_start hI eS2
  have hm := hm_0 hm oc eS2
  have md := md_I md eS2 (by decide) (by decide) (by decide) (by decide)
  have oc := ob_wI oc eS2
  obtain ⟨le_, ar_, sb_, R_⟩ := rw3_iv hI oc0
  refine cm_X11_refusesWay (sm_X11_refusesWay hm ab gb ge hE (rw3_0 R_ eS2) h) h (fun x3 S4 hp h g5 => ?_)
  have h := h g5
  obtain ⟨-, -, q6, -⟩ := hp
  have oc := gr_ob g5 oc
  refine ⟨?_, ?_⟩
  · intro c7
    have h := h.1 c7
    have Zc7 := wy_le (by rw [← q6]; exact c7)
    obtain ⟨a8, ea8, h⟩ := h
    refine ⟨a8, ea8, ?_⟩
    refine cm_X11_spotOf (kq_X11_spotOf h) h (fun x9 S10 hp h g11 => ?_)
    have h := h g11
    have oc := gr_ob g11 oc
    obtain ⟨o12, h⟩ := h
    refine ⟨o12, ?_⟩
    obtain ⟨o13, h⟩ := h
    refine ⟨o13, ?_⟩
    intro x14 ex14
    have h := h x14 ex14
    refine cm_X11_told (tq_X11_told h) h (fun x15 S16 hp h g17 => ?_)
    have h := h g17
    have V18 := hp.2
    have oc := gr_ob g17 oc
    exact ⟨h, by rw [V18]; first | (simp only [whface, whair, whfits, whlies, whday, whgot, whon, whwalker, whroad, trN, trOK, dc_T, dc_F, not_false_eq_true, not_true_eq_false, and_true, true_and, and_false, false_and, and_self, true_or, or_true, false_or, or_false, or_self, Zc7]; done)⟩
  · intro c19
    have h := h.2 c19
    refine cm_X11_refused (tq_X11_refused h) h (fun x20 S21 hp h g22 => ?_)
    have h := h g22
    have V23 := hp.2
    have oc := gr_ob g22 oc
    exact ⟨h, V23.trans q6⟩

set_option maxHeartbeats 1000000 in
theorem tq_X9_there {A : AS} {G : GC} {D : DY} {v0 : Nat} {v1 : Int32} {v2 : Int32} {v3 : Int32} {v4 : Int32} {v5 : Int32} {Q : Int32 → HS → Prop} {S : HS} (hI : IV S) (oc : ob S v0 9) {rr w1 w2 : Nat} (J : CJ v0 rr w1 w2 S) (hc : Cnt w1 A S) (ct : CtB w1 A G S S) (ab : ABd A) (gb : GBd A G) (ge : GBe A G) {lgo b0 b1 : Nat} (lg : LG v0 lgo b0 b1 S) {dy : Nat} (e6 : fR S v0 6 = some dy) (cd : CDd dy D S) (db : DBd A D) (wd : WYd v0 A G S) (h : P_X9_there v0 v1 v2 v3 v4 v5 Q S) : P_X9_there v0 v1 v2 v3 v4 v5 (fun r T => Q r T ∧ fI T v0 9 = wyN A G v1 v2 v3 v4 v5) S := by
  delta P_X9_there P_X9_there_0
  have h8 := wt_of hI J hc ct ab
  obtain ⟨o1, h⟩ := h
  refine ⟨o1, ?_⟩
  obtain ⟨wy, y_, e5_, ws_, wv_⟩ := wd
  refine cm_X9_wayTrouble (yw_wayTrouble hI oc ab gb ge J.1 h8 lg e5_ ws_ wv_ h) h (fun x2 S3 hp h g4 => ?_)
  have h := h g4
  obtain ⟨-, q5, -⟩ := hp
  have oc := gr_ob g4 oc
  refine cm_X9_refusedBy (tq_X9_refusedBy h) h (fun x6 S7 hp h g8 b9 => ?_)
  have h := h g8 b9
  have V10 := hp.2
  have oc := gr_ob g8 oc
  refine ⟨?_, ?_⟩
  · intro c11
    have h := h.1 c11
    obtain ⟨a12, ea12, h⟩ := h
    refine ⟨a12, ea12, ?_⟩
    obtain ⟨o13, h⟩ := h
    refine ⟨o13, ?_⟩
    refine cm_X7_endFrom (kq_X7_endFrom h) h (fun x14 S15 hp h g16 => ?_)
    have h := h g16
    have V17 := (hp.2.2 (9, 9) (by decide) v0 oc).trans V10
    have oc := gr_ob g16 oc
    exact ⟨h, V17.trans q5⟩
  · intro c18
    have h := h.2 c18
    exact ⟨h, V10.trans q5⟩

set_option maxHeartbeats 1000000 in
theorem tq_X11_there {A : AS} {G : GC} {D : DY} {v0 : Nat} {v1 : Int32} {v2 : Int32} {v3 : Int32} {v4 : Int32} {v5 : Int32} {Q : Int32 → HS → Prop} {S : HS} (hI : IV S) (oc : ob S v0 11) (hm : HM v0 A G S) (ab : ABd A) (gb : GBd A G) (ge : GBe A G) (md : MDd v0 D S) (db : DBd A D) (h : P_X11_there v0 v1 v2 v3 v4 v5 Q S) : P_X11_there v0 v1 v2 v3 v4 v5 (fun r T => Q r T ∧ fI T v0 1 = wyN A G v1 v2 v3 v4 v5) S := by
  delta P_X11_there P_X11_there_0
  have oc0 := oc
  obtain ⟨o1, h⟩ := h
  refine ⟨o1, ?_⟩
  intro S2 eS2
  have h := h S2 eS2
  have hE := m_start hI eS2
  have hm := hm_0 hm oc eS2
  have md := md_I md eS2 (by decide) (by decide) (by decide) (by decide)
  have oc := ob_wI oc eS2
  obtain ⟨le_, ar_, sb_, R_⟩ := rw3_iv hI oc0
  refine cm_X11_refusesWay (sm_X11_refusesWay hm ab gb ge hE (rw3_0 R_ eS2) h) h (fun x3 S4 hp h g5 => ?_)
  have h := h g5
  obtain ⟨-, -, q6, -⟩ := hp
  have oc := gr_ob g5 oc
  refine ⟨?_, ?_⟩
  · intro c7
    have h := h.1 c7
    have Zc7 := wy_le (by rw [← q6]; exact c7)
    obtain ⟨a8, ea8, h⟩ := h
    refine ⟨a8, ea8, ?_⟩
    refine cm_X11_spotOf (kq_X11_spotOf h) h (fun x9 S10 hp h g11 => ?_)
    have h := h g11
    have oc := gr_ob g11 oc
    obtain ⟨o12, h⟩ := h
    refine ⟨o12, ?_⟩
    obtain ⟨o13, h⟩ := h
    refine ⟨o13, ?_⟩
    intro x14 ex14
    have h := h x14 ex14
    refine cm_X11_good (tq_X11_good h) h (fun x15 S16 hp h g17 => ?_)
    have h := h g17
    have V18 := hp.2
    have oc := gr_ob g17 oc
    exact ⟨h, by rw [V18]; first | (simp only [whface, whair, whfits, whlies, whday, whgot, whon, whwalker, whroad, trN, trOK, dc_T, dc_F, not_false_eq_true, not_true_eq_false, and_true, true_and, and_false, false_and, and_self, true_or, or_true, false_or, or_false, or_self, Zc7]; done)⟩
  · intro c19
    have h := h.2 c19
    refine cm_X11_refused (tq_X11_refused h) h (fun x20 S21 hp h g22 => ?_)
    have h := h g22
    have V23 := hp.2
    have oc := gr_ob g22 oc
    exact ⟨h, V23.trans q6⟩

set_option maxHeartbeats 1000000 in
theorem tq_X9_steps {A : AS} {G : GC} {D : DY} {v0 : Nat} {v1 : Int32} {v2 : Int32} {v3 : Int32} {v4 : Int32} {v5 : Int32} {Q : Int32 → HS → Prop} {S : HS} (hI : IV S) (oc : ob S v0 9) {rr w1 w2 : Nat} (J : CJ v0 rr w1 w2 S) (hc : Cnt w1 A S) (ct : CtB w1 A G S S) (ab : ABd A) (gb : GBd A G) (ge : GBe A G) {lgo b0 b1 : Nat} (lg : LG v0 lgo b0 b1 S) {dy : Nat} (e6 : fR S v0 6 = some dy) (cd : CDd dy D S) (db : DBd A D) (wd : WYd v0 A G S) (h : P_X9_steps v0 v1 v2 v3 v4 v5 Q S) : P_X9_steps v0 v1 v2 v3 v4 v5 (fun r T => Q r T ∧ fI T v0 9 = wyN A G v1 v2 v3 v4 v5) S := by
  delta P_X9_steps P_X9_steps_0
  have h8 := wt_of hI J hc ct ab
  obtain ⟨o1, h⟩ := h
  refine ⟨o1, ?_⟩
  obtain ⟨wy, y_, e5_, ws_, wv_⟩ := wd
  refine cm_X9_wayTrouble (yw_wayTrouble hI oc ab gb ge J.1 h8 lg e5_ ws_ wv_ h) h (fun x2 S3 hp h g4 => ?_)
  have h := h g4
  obtain ⟨-, q5, -⟩ := hp
  have oc := gr_ob g4 oc
  refine cm_X9_refusedBy (tq_X9_refusedBy h) h (fun x6 S7 hp h g8 b9 => ?_)
  have h := h g8 b9
  have V10 := hp.2
  have oc := gr_ob g8 oc
  refine ⟨?_, ?_⟩
  · intro c11
    have h := h.1 c11
    obtain ⟨a12, ea12, h⟩ := h
    refine ⟨a12, ea12, ?_⟩
    obtain ⟨a13, ea13, h⟩ := h
    refine ⟨a13, ea13, ?_⟩
    obtain ⟨o14, h⟩ := h
    refine ⟨o14, ?_⟩
    refine cm_X7_trace (kq_X7_trace h) h (fun x15 S16 hp h g17 => ?_)
    have h := h g17
    have V18 := (hp.2.2 (9, 9) (by decide) v0 oc).trans V10
    have oc := gr_ob g17 oc
    exact ⟨h, V18.trans q5⟩
  · intro c19
    have h := h.2 c19
    exact ⟨h, V10.trans q5⟩

set_option maxHeartbeats 1000000 in
theorem tq_X11_steps {A : AS} {G : GC} {D : DY} {v0 : Nat} {v1 : Int32} {v2 : Int32} {v3 : Int32} {v4 : Int32} {v5 : Int32} {Q : Int32 → HS → Prop} {S : HS} (hI : IV S) (oc : ob S v0 11) (hm : HM v0 A G S) (ab : ABd A) (gb : GBd A G) (ge : GBe A G) (md : MDd v0 D S) (db : DBd A D) (h : P_X11_steps v0 v1 v2 v3 v4 v5 Q S) : P_X11_steps v0 v1 v2 v3 v4 v5 (fun r T => Q r T ∧ fI T v0 1 = wyN A G v1 v2 v3 v4 v5) S := by
  delta P_X11_steps P_X11_steps_0
  have oc0 := oc
  obtain ⟨o1, h⟩ := h
  refine ⟨o1, ?_⟩
  intro S2 eS2
  have h := h S2 eS2
  have hE := m_start hI eS2
  have hm := hm_0 hm oc eS2
  have md := md_I md eS2 (by decide) (by decide) (by decide) (by decide)
  have oc := ob_wI oc eS2
  obtain ⟨le_, ar_, sb_, R_⟩ := rw3_iv hI oc0
  refine cm_X11_refusesWay (sm_X11_refusesWay hm ab gb ge hE (rw3_0 R_ eS2) h) h (fun x3 S4 hp h g5 => ?_)
  have h := h g5
  obtain ⟨-, -, q6, -⟩ := hp
  have oc := gr_ob g5 oc
  refine ⟨?_, ?_⟩
  · intro c7
    have h := h.1 c7
    have Zc7 := wy_le (by rw [← q6]; exact c7)
    refine cm_X11_stepOf (kq_X11_stepOf h) h (fun x8 S9 hp h g10 => ?_)
    have h := h g10
    have oc := gr_ob g10 oc
    refine cm_X11_good (tq_X11_good h) h (fun x11 S12 hp h g13 => ?_)
    have h := h g13
    have V14 := hp.2
    have oc := gr_ob g13 oc
    exact ⟨h, by rw [V14]; first | (simp only [whface, whair, whfits, whlies, whday, whgot, whon, whwalker, whroad, trN, trOK, dc_T, dc_F, not_false_eq_true, not_true_eq_false, and_true, true_and, and_false, false_and, and_self, true_or, or_true, false_or, or_false, or_self, Zc7]; done)⟩
  · intro c15
    have h := h.2 c15
    refine cm_X11_refused (tq_X11_refused h) h (fun x16 S17 hp h g18 => ?_)
    have h := h g18
    have V19 := hp.2
    have oc := gr_ob g18 oc
    exact ⟨h, V19.trans q6⟩

set_option maxHeartbeats 1000000 in
theorem tq_X9_fits {A : AS} {G : GC} {D : DY} {v0 : Nat} {v1 : Int32} {Q : Int32 → HS → Prop} {S : HS} (hI : IV S) (oc : ob S v0 9) {rr w1 w2 : Nat} (J : CJ v0 rr w1 w2 S) (hc : Cnt w1 A S) (ct : CtB w1 A G S S) (ab : ABd A) (gb : GBd A G) (ge : GBe A G) {lgo b0 b1 : Nat} (lg : LG v0 lgo b0 b1 S) {dy : Nat} (e6 : fR S v0 6 = some dy) (cd : CDd dy D S) (db : DBd A D) (wd : WYd v0 A G S) (h : P_X9_fits v0 v1 Q S) : P_X9_fits v0 v1 (fun r T => Q r T ∧ fI T v0 9 = whfits A v1) S := by
  delta P_X9_fits P_X9_fits_0
  have h8 := wt_of hI J hc ct ab
  obtain ⟨o1, h⟩ := h
  refine ⟨o1, ?_⟩
  obtain ⟨a2, ea2, h⟩ := h
  cases J.1.symm.trans ea2
  refine ⟨_, ea2, ?_⟩
  obtain ⟨o3, h⟩ := h
  refine ⟨o3, ?_⟩
  refine cm_X8_hasSeen (sp_X8_hasSeen hI h8.1 ab hc h) h (fun x4 S5 hp h g6 b7 => ?_)
  have h := h g6 b7
  obtain ⟨-, hS, q8⟩ := hp
  subst hS
  refine ⟨?_, ?_⟩
  · intro c9
    have h := h.1 c9
    have Nc9 := an1 q8 c9
    obtain ⟨a10, ea10, h⟩ := h
    cases lg.1.symm.trans ea10
    refine ⟨_, ea10, ?_⟩
    obtain ⟨a11, ea11, h⟩ := h
    cases J.1.symm.trans ea11
    refine ⟨_, ea11, ?_⟩
    obtain ⟨o12, h⟩ := h
    refine ⟨o12, ?_⟩
    refine cm_X1_countFits (kq_X1_countFits h) h (fun x13 S14 hp h g15 => ?_)
    have h := h g15
    have oc := gr_ob g15 oc
    refine cm_X9_grant (tq_X9_grant h) h (fun x16 S17 hp h g18 => ?_)
    have h := h g18
    have V19 := hp.2
    have oc := gr_ob g18 oc
    exact ⟨h, by rw [V19]; first | (simp only [whface, whair, whfits, whlies, whday, whgot, whon, whwalker, whroad, trN, trOK, dc_T, dc_F, not_false_eq_true, not_true_eq_false, and_true, true_and, and_false, false_and, and_self, true_or, or_true, false_or, or_false, or_self, Nc9]; done)⟩
  · intro c20
    have h := h.2 c20
    have Nc20 := an0 q8 c20
    refine cm_X9_refuse (tq_X9_refuse h) h (fun x21 S22 hp h g23 => ?_)
    have h := h g23
    have V24 := hp.2
    have oc := gr_ob g23 oc
    exact ⟨h, by rw [V24]; first | (simp only [whface, whair, whfits, whlies, whday, whgot, whon, whwalker, whroad, trN, trOK, dc_T, dc_F, not_false_eq_true, not_true_eq_false, and_true, true_and, and_false, false_and, and_self, true_or, or_true, false_or, or_false, or_self, Nc20]; done)⟩

set_option maxHeartbeats 1000000 in
theorem tq_X11_fits {A : AS} {G : GC} {D : DY} {v0 : Nat} {v1 : Int32} {Q : Int32 → HS → Prop} {S : HS} (hI : IV S) (oc : ob S v0 11) (hm : HM v0 A G S) (ab : ABd A) (gb : GBd A G) (ge : GBe A G) (md : MDd v0 D S) (db : DBd A D) (h : P_X11_fits v0 v1 Q S) : P_X11_fits v0 v1 (fun r T => Q r T ∧ fI T v0 1 = whfits A v1) S := by
  delta P_X11_fits P_X11_fits_0
  have oc0 := oc
  obtain ⟨o1, h⟩ := h
  refine ⟨o1, ?_⟩
  intro S2 eS2
  have h := h S2 eS2
  have hE := m_start hI eS2
  have hm := hm_0 hm oc eS2
  have md := md_I md eS2 (by decide) (by decide) (by decide) (by decide)
  have oc := ob_wI oc eS2
  refine cm_X11_isSeen (sq_X11_isSeen hm h) h (fun x3 S4 hp h g5 b6 => ?_)
  have h := h g5 b6
  obtain ⟨-, hS, q7⟩ := hp
  subst hS
  refine ⟨?_, ?_⟩
  · intro c8
    have h := h.1 c8
    have Nc8 := an0 q7 c8
    refine cm_X11_refused (tq_X11_refused h) h (fun x9 S10 hp h g11 => ?_)
    have h := h g11
    have V12 := hp.2
    have oc := gr_ob g11 oc
    exact ⟨h, by rw [V12]; first | (simp only [whface, whair, whfits, whlies, whday, whgot, whon, whwalker, whroad, trN, trOK, dc_T, dc_F, not_false_eq_true, not_true_eq_false, and_true, true_and, and_false, false_and, and_self, true_or, or_true, false_or, or_false, or_self, Nc8]; done)⟩
  · intro c13
    have h := h.2 c13
    have Nc13 := an1 q7 c13
    refine cm_X11_fitOf (kq_X11_fitOf h) h (fun x14 S15 hp h g16 => ?_)
    have h := h g16
    have oc := gr_ob g16 oc
    refine cm_X11_good (tq_X11_good h) h (fun x17 S18 hp h g19 => ?_)
    have h := h g19
    have V20 := hp.2
    have oc := gr_ob g19 oc
    exact ⟨h, by rw [V20]; first | (simp only [whface, whair, whfits, whlies, whday, whgot, whon, whwalker, whroad, trN, trOK, dc_T, dc_F, not_false_eq_true, not_true_eq_false, and_true, true_and, and_false, false_and, and_self, true_or, or_true, false_or, or_false, or_self, Nc13]; done)⟩

set_option maxHeartbeats 1000000 in
theorem tqL_X9_lies_20 {E : Int32} (h0 : (0 : Int32) = E) {Q : Int32 → HS → Prop} {v0 : Nat} {v1 : Int32} {v2 : Int32} {S : HS} (oc : ob S v0 9) (h : P_X9_lies_20 Q v0 v1 v2 S) : P_X9_lies_20 (fun r T => Q r T ∧ fI T v0 9 = E) v0 v1 v2 S := by
  intro X hX
  refine h (fun u0 v1_ v2_ T => (v0 = u0 ∧ ob T v0 9) → X u0 v1_ v2_ T) ?_ ⟨rfl, oc⟩
  rintro u0 v1_ v2_ T h ⟨rfl, oc⟩
  apply hX
  obtain ⟨o10, h⟩ := h
  refine ⟨o10, ?_⟩
  obtain ⟨a11, ea11, h⟩ := h
  refine ⟨a11, ea11, ?_⟩
  obtain ⟨o12, h⟩ := h
  refine ⟨o12, ?_⟩
  intro x13 ex13
  have h := h x13 ex13
  refine ⟨?_, ?_⟩
  · intro c14
    have h := h.1 c14
    refine cm_X9_grant (tq_X9_grant h) h (fun x15 S16 hp h g17 => ?_)
    have h := h g17
    have V18 := hp.2
    have oc := gr_ob g17 oc
    exact ⟨h, V18.trans h0⟩
  · intro c19
    have h := h.2 c19
    obtain ⟨a20, ea20, h⟩ := h
    refine ⟨a20, ea20, ?_⟩
    obtain ⟨a21, ea21, h⟩ := h
    refine ⟨a21, ea21, ?_⟩
    obtain ⟨o22, h⟩ := h
    refine ⟨o22, ?_⟩
    refine cm_X1_findFit (kq_X1_findFit h) h (fun x23 S24 hp h g25 => ?_)
    have h := h g25
    have oc := gr_ob g25 oc
    refine ⟨?_, ?_⟩
    · intro c26
      have h := h.1 c26
      delta P_X9_lies_54
      intro x27 ex27
      have h := h x27 ex27
      exact h ⟨rfl, oc⟩
    · intro c28
      have h := h.2 c28
      intro x29 ex29
      have h := h x29 ex29
      delta P_X9_lies_54
      intro x30 ex30
      have h := h x30 ex30
      exact h ⟨rfl, oc⟩
set_option maxHeartbeats 1000000 in
theorem tq_X9_lies {A : AS} {G : GC} {D : DY} {v0 : Nat} {Q : Int32 → HS → Prop} {S : HS} (hI : IV S) (oc : ob S v0 9) {rr w1 w2 : Nat} (J : CJ v0 rr w1 w2 S) (hc : Cnt w1 A S) (ct : CtB w1 A G S S) (ab : ABd A) (gb : GBd A G) (ge : GBe A G) {lgo b0 b1 : Nat} (lg : LG v0 lgo b0 b1 S) {dy : Nat} (e6 : fR S v0 6 = some dy) (cd : CDd dy D S) (db : DBd A D) (wd : WYd v0 A G S) (h : P_X9_lies v0 Q S) : P_X9_lies v0 (fun r T => Q r T ∧ fI T v0 9 = whlies A) S := by
  delta P_X9_lies P_X9_lies_0
  have h8 := wt_of hI J hc ct ab
  obtain ⟨o1, h⟩ := h
  refine ⟨o1, ?_⟩
  obtain ⟨a2, ea2, h⟩ := h
  cases J.1.symm.trans ea2
  refine ⟨_, ea2, ?_⟩
  obtain ⟨o3, h⟩ := h
  refine ⟨o3, ?_⟩
  refine cm_X8_isTold (sq_X8_isTold hc ab h) h (fun x4 S5 hp h g6 b7 => ?_)
  have h := h g6 b7
  obtain ⟨-, hS, q8⟩ := hp
  subst hS
  refine ⟨?_, ?_⟩
  · intro c9
    have h := h.1 c9
    have Nc9 := an1 q8 c9
    exact tqL_X9_lies_20 (by simp only [whface, whair, whfits, whlies, whday, whgot, whon, whwalker, whroad, trN, trOK, dc_T, dc_F, not_false_eq_true, not_true_eq_false, and_true, true_and, and_false, false_and, and_self, true_or, or_true, false_or, or_false, or_self, Nc9]) oc h
  · intro c31
    have h := h.2 c31
    have Nc31 := an0 q8 c31
    refine cm_X9_refuse (tq_X9_refuse h) h (fun x32 S33 hp h g34 => ?_)
    have h := h g34
    have V35 := hp.2
    have oc := gr_ob g34 oc
    exact ⟨h, by rw [V35]; first | (simp only [whface, whair, whfits, whlies, whday, whgot, whon, whwalker, whroad, trN, trOK, dc_T, dc_F, not_false_eq_true, not_true_eq_false, and_true, true_and, and_false, false_and, and_self, true_or, or_true, false_or, or_false, or_self, Nc31]; done)⟩

set_option maxHeartbeats 1000000 in
theorem tqL_X11_lies_22 {E : Int32} (h0 : (0 : Int32) = E) {Q : Int32 → HS → Prop} {v0 : Nat} {v1 : Int32} {v2 : Int32} {S : HS} (oc : ob S v0 11) (h : P_X11_lies_22 Q v0 v1 v2 S) : P_X11_lies_22 (fun r T => Q r T ∧ fI T v0 1 = E) v0 v1 v2 S := by
  intro X hX
  refine h (fun u0 v1_ v2_ T => (v0 = u0 ∧ ob T v0 11) → X u0 v1_ v2_ T) ?_ ⟨rfl, oc⟩
  rintro u0 v1_ v2_ T h ⟨rfl, oc⟩
  apply hX
  obtain ⟨o9, h⟩ := h
  refine ⟨o9, ?_⟩
  obtain ⟨a10, ea10, h⟩ := h
  refine ⟨a10, ea10, ?_⟩
  obtain ⟨o11, h⟩ := h
  refine ⟨o11, ?_⟩
  intro x12 ex12
  have h := h x12 ex12
  refine ⟨?_, ?_⟩
  · intro c13
    have h := h.1 c13
    refine cm_X11_good (tq_X11_good h) h (fun x14 S15 hp h g16 => ?_)
    have h := h g16
    have V17 := hp.2
    have oc := gr_ob g16 oc
    exact ⟨h, V17.trans h0⟩
  · intro c18
    have h := h.2 c18
    refine cm_X11_fitOf (kq_X11_fitOf h) h (fun x19 S20 hp h g21 => ?_)
    have h := h g21
    have oc := gr_ob g21 oc
    refine ⟨?_, ?_⟩
    · intro c22
      have h := h.1 c22
      delta P_X11_lies_50
      intro x23 ex23
      have h := h x23 ex23
      intro x24 ex24
      have h := h x24 ex24
      exact h ⟨rfl, oc⟩
    · intro c25
      have h := h.2 c25
      delta P_X11_lies_50
      intro x26 ex26
      have h := h x26 ex26
      intro x27 ex27
      have h := h x27 ex27
      exact h ⟨rfl, oc⟩
set_option maxHeartbeats 1000000 in
theorem tq_X11_lies {A : AS} {G : GC} {D : DY} {v0 : Nat} {Q : Int32 → HS → Prop} {S : HS} (hI : IV S) (oc : ob S v0 11) (hm : HM v0 A G S) (ab : ABd A) (gb : GBd A G) (ge : GBe A G) (md : MDd v0 D S) (db : DBd A D) (td : Tld v0 A S) (h : P_X11_lies v0 Q S) : P_X11_lies v0 (fun r T => Q r T ∧ fI T v0 1 = whlies A) S := by
  delta P_X11_lies P_X11_lies_0
  have oc0 := oc
  obtain ⟨o1, h⟩ := h
  refine ⟨o1, ?_⟩
  intro S2 eS2
  have h := h S2 eS2
  have hE := m_start hI eS2
  have hm := hm_0 hm oc eS2
  have md := md_I md eS2 (by decide) (by decide) (by decide) (by decide)
  have td := tld_0 td eS2
  have oc := ob_wI oc eS2
  refine ⟨?_, ?_⟩
  · intro c3
    have h := h.1 c3
    have nw := told_n hm c3
    refine cm_X11_refused (tq_X11_refused h) h (fun x4 S5 hp h g6 => ?_)
    have h := h g6
    have V7 := hp.2
    have oc := gr_ob g6 oc
    exact ⟨h, by rw [V7]; first | (simp only [whface, whair, whfits, whlies, whday, whgot, whon, whwalker, whroad, trN, trOK, dc_T, dc_F, not_false_eq_true, not_true_eq_false, and_true, true_and, and_false, false_and, and_self, true_or, or_true, false_or, or_false, or_self, nw]; done)⟩
  · intro a8 ea8
    have h := h.2 a8 ea8
    have nw := told_y td ea8
    exact tqL_X11_lies_22 (by simp only [whface, whair, whfits, whlies, whday, whgot, whon, whwalker, whroad, trN, trOK, dc_T, dc_F, not_false_eq_true, not_true_eq_false, and_true, true_and, and_false, false_and, and_self, true_or, or_true, false_or, or_false, or_self, nw]) oc h

set_option maxHeartbeats 1000000 in
theorem tq_X9_day {A : AS} {G : GC} {D : DY} {v0 : Nat} {v1 : Int32} {v2 : Int32} {v3 : Int32} {v4 : Int32} {Q : Int32 → HS → Prop} {S : HS} (hI : IV S) (oc : ob S v0 9) {rr w1 w2 : Nat} (J : CJ v0 rr w1 w2 S) (hc : Cnt w1 A S) (ct : CtB w1 A G S S) (ab : ABd A) (gb : GBd A G) (ge : GBe A G) {lgo b0 b1 : Nat} (lg : LG v0 lgo b0 b1 S) {dy : Nat} (e6 : fR S v0 6 = some dy) (cd : CDd dy D S) (db : DBd A D) (wd : WYd v0 A G S) (h : P_X9_day v0 v1 v2 v3 v4 Q S) : P_X9_day v0 v1 v2 v3 v4 (fun r T => Q r T ∧ fI T v0 9 = whday A v1 v2 v3 v4) S := by
  delta P_X9_day P_X9_day_0
  have h8 := wt_of hI J hc ct ab
  obtain ⟨o1, h⟩ := h
  refine ⟨o1, ?_⟩
  obtain ⟨a2, ea2, h⟩ := h
  cases J.1.symm.trans ea2
  refine ⟨_, ea2, ?_⟩
  obtain ⟨o3, h⟩ := h
  refine ⟨o3, ?_⟩
  refine cm_X8_hasWalker (sw_X8_hasWalker h8 ab h) h (fun x4 S5 hp h g6 b7 => ?_)
  have h := h g6 b7
  obtain ⟨-, hS, q8⟩ := hp
  subst hS
  refine ⟨?_, ?_⟩
  · intro c9
    have h := h.1 c9
    have Nc9 := an0 q8 c9
    delta P_X9_day_22
    obtain ⟨o10, h⟩ := h
    refine ⟨o10, ?_⟩
    refine cm_X9_refuse (tq_X9_refuse h) h (fun x11 S12 hp h g13 => ?_)
    have h := h g13
    have V14 := hp.2
    have oc := gr_ob g13 oc
    exact ⟨h, by rw [V14]; first | (simp only [whface, whair, whfits, whlies, whday, whgot, whon, whwalker, whroad, trN, trOK, dc_T, dc_F, not_false_eq_true, not_true_eq_false, and_true, true_and, and_false, false_and, and_self, true_or, or_true, false_or, or_false, or_self, Nc9]; done)⟩
  · intro c15
    have h := h.2 c15
    have Nc15 := an1 q8 c15
    obtain ⟨a16, ea16, h⟩ := h
    cases J.1.symm.trans ea16
    refine ⟨_, ea16, ?_⟩
    obtain ⟨o17, h⟩ := h
    refine ⟨o17, ?_⟩
    refine cm_X8_hasPlace (sw_X8_hasPlace h8 ab h) h (fun x18 S19 hp h g20 b21 => ?_)
    have h := h g20 b21
    obtain ⟨-, hS, q22⟩ := hp
    subst hS
    refine ⟨?_, ?_⟩
    · intro c23
      have h := h.1 c23
      have Nc23 := an1 q22 c23
      refine ⟨?_, ?_⟩
      · intro c24
        have h := h.1 c24
        delta P_X9_day_52
        obtain ⟨o25, h⟩ := h
        refine ⟨o25, ?_⟩
        refine cm_X9_refuse (tq_X9_refuse h) h (fun x26 S27 hp h g28 => ?_)
        have h := h g28
        have V29 := hp.2
        have oc := gr_ob g28 oc
        exact ⟨h, by rw [V29]; first | (simp only [whface, whair, whfits, whlies, whday, whgot, whon, whwalker, whroad, trN, trOK, dc_T, dc_F, not_false_eq_true, not_true_eq_false, and_true, true_and, and_false, false_and, and_self, true_or, or_true, false_or, or_false, or_self, Nc15, Nc23, c24]; done) | exact absurd c24 (by decide)⟩
      · intro c30
        have h := h.2 c30
        refine ⟨?_, ?_⟩
        · intro c31
          have h := h.1 c31
          delta P_X9_day_52
          obtain ⟨o32, h⟩ := h
          refine ⟨o32, ?_⟩
          refine cm_X9_refuse (tq_X9_refuse h) h (fun x33 S34 hp h g35 => ?_)
          have h := h g35
          have V36 := hp.2
          have oc := gr_ob g35 oc
          exact ⟨h, by rw [V36]; first | (simp only [whface, whair, whfits, whlies, whday, whgot, whon, whwalker, whroad, trN, trOK, dc_T, dc_F, not_false_eq_true, not_true_eq_false, and_true, true_and, and_false, false_and, and_self, true_or, or_true, false_or, or_false, or_self, Nc15, Nc23, c30, c31]; done) | exact absurd c30 (by decide) | exact absurd c31 (by decide)⟩
        · intro c37
          have h := h.2 c37
          refine ⟨?_, ?_⟩
          · intro c38
            have h := h.1 c38
            delta P_X9_day_52
            obtain ⟨o39, h⟩ := h
            refine ⟨o39, ?_⟩
            refine cm_X9_refuse (tq_X9_refuse h) h (fun x40 S41 hp h g42 => ?_)
            have h := h g42
            have V43 := hp.2
            have oc := gr_ob g42 oc
            exact ⟨h, by rw [V43]; first | (simp only [whface, whair, whfits, whlies, whday, whgot, whon, whwalker, whroad, trN, trOK, dc_T, dc_F, not_false_eq_true, not_true_eq_false, and_true, true_and, and_false, false_and, and_self, true_or, or_true, false_or, or_false, or_self, Nc15, Nc23, c30, c37, c38]; done) | exact absurd c30 (by decide) | exact absurd c37 (by decide) | exact absurd c38 (by decide)⟩
          · intro c44
            have h := h.2 c44
            refine ⟨?_, ?_⟩
            · intro c45
              have h := h.1 c45
              have Mc45 := lt37 c45
              obtain ⟨a46, ea46, h⟩ := h
              cases e6.symm.trans ea46
              refine ⟨_, ea46, ?_⟩
              obtain ⟨o47, h⟩ := h
              refine ⟨o47, ?_⟩
              refine cm_X0_begin (kq_X0_begin h) h (fun S48 hp h g49 => ?_)
              have h := h g49
              have oc := gr_ob g49 oc
              obtain ⟨a50, ea50, h⟩ := h
              refine ⟨a50, ea50, ?_⟩
              obtain ⟨a51, ea51, h⟩ := h
              refine ⟨a51, ea51, ?_⟩
              obtain ⟨o52, h⟩ := h
              refine ⟨o52, ?_⟩
              refine cm_X0_draw (kq_X0_draw h) h (fun S53 hp h g54 => ?_)
              have h := h g54
              have oc := gr_ob g54 oc
              obtain ⟨a55, ea55, h⟩ := h
              refine ⟨a55, ea55, ?_⟩
              obtain ⟨o56, h⟩ := h
              refine ⟨o56, ?_⟩
              intro x57 ex57
              have h := h x57 ex57
              refine cm_X9_grant (tq_X9_grant h) h (fun x58 S59 hp h g60 => ?_)
              have h := h g60
              have V61 := hp.2
              have oc := gr_ob g60 oc
              exact ⟨h, by rw [V61]; first | (simp only [whface, whair, whfits, whlies, whday, whgot, whon, whwalker, whroad, trN, trOK, dc_T, dc_F, not_false_eq_true, not_true_eq_false, and_true, true_and, and_false, false_and, and_self, true_or, or_true, false_or, or_false, or_self, Nc15, Nc23, c30, c37, c44, c45, Mc45]; done) | exact absurd c30 (by decide) | exact absurd c37 (by decide) | exact absurd c44 (by decide) | exact absurd c45 (by decide)⟩
            · intro c62
              have h := h.2 c62
              have Mc62 := nlt37 c62
              delta P_X9_day_52
              obtain ⟨o63, h⟩ := h
              refine ⟨o63, ?_⟩
              refine cm_X9_refuse (tq_X9_refuse h) h (fun x64 S65 hp h g66 => ?_)
              have h := h g66
              have V67 := hp.2
              have oc := gr_ob g66 oc
              exact ⟨h, by rw [V67]; first | (simp only [whface, whair, whfits, whlies, whday, whgot, whon, whwalker, whroad, trN, trOK, dc_T, dc_F, not_false_eq_true, not_true_eq_false, and_true, true_and, and_false, false_and, and_self, true_or, or_true, false_or, or_false, or_self, Nc15, Nc23, c30, c37, c44, c62, Mc62]; done) | exact absurd c30 (by decide) | exact absurd c37 (by decide) | exact absurd c44 (by decide) | exact absurd c62 (by decide)⟩
    · intro c68
      have h := h.2 c68
      have Nc68 := an0 q22 c68
      delta P_X9_day_22
      obtain ⟨o69, h⟩ := h
      refine ⟨o69, ?_⟩
      refine cm_X9_refuse (tq_X9_refuse h) h (fun x70 S71 hp h g72 => ?_)
      have h := h g72
      have V73 := hp.2
      have oc := gr_ob g72 oc
      exact ⟨h, by rw [V73]; first | (simp only [whface, whair, whfits, whlies, whday, whgot, whon, whwalker, whroad, trN, trOK, dc_T, dc_F, not_false_eq_true, not_true_eq_false, and_true, true_and, and_false, false_and, and_self, true_or, or_true, false_or, or_false, or_self, Nc15, Nc68]; done)⟩

set_option maxHeartbeats 1000000 in
theorem tqL_X11_day_147 {E : Int32} (h0 : (0 : Int32) = E) {Q : Int32 → HS → Prop} {v0 : Nat} {v2 : Int32} {v3 : Int32} {v6 : Int32} {S : HS} (oc : ob S v0 11) (h : P_X11_day_147 Q v0 v2 v3 v6 S) : P_X11_day_147 (fun r T => Q r T ∧ fI T v0 1 = E) v0 v2 v3 v6 S := by
  intro X hX
  refine h (fun u0 v2_ v3_ v6_ T => (v0 = u0 ∧ ob T v0 11) → X u0 v2_ v3_ v6_ T) ?_ ⟨rfl, oc⟩
  rintro u0 v2_ v3_ v6_ T h ⟨rfl, oc⟩
  apply hX
  refine ⟨?_, ?_⟩
  · intro c46
    have h := h.1 c46
    obtain ⟨o47, h⟩ := h
    refine ⟨o47, ?_⟩
    obtain ⟨a48, ea48, h⟩ := h
    refine ⟨a48, ea48, ?_⟩
    obtain ⟨o49, h⟩ := h
    refine ⟨o49, ?_⟩
    intro x50 ex50
    have h := h x50 ex50
    obtain ⟨o51, h⟩ := h
    refine ⟨o51, ?_⟩
    intro S52 eS52
    have h := h S52 eS52
    have oc := ob_wJ oc eS52
    obtain ⟨a53, ea53, h⟩ := h
    refine ⟨a53, ea53, ?_⟩
    obtain ⟨o54, h⟩ := h
    refine ⟨o54, ?_⟩
    intro x55 ex55
    have h := h x55 ex55
    obtain ⟨o56, h⟩ := h
    refine ⟨o56, ?_⟩
    intro S57 eS57
    have h := h S57 eS57
    have oc := ob_wJ oc eS57
    intro S58 eS58
    have h := h S58 eS58
    have oc := ob_wI oc eS58
    intro S59 eS59
    have h := h S59 eS59
    have oc := ob_wI oc eS59
    intro x60 ex60
    have h := h x60 ex60
    refine cm_X11_good (tq_X11_good h) h (fun x61 S62 hp h g63 => ?_)
    have h := h g63
    have V64 := hp.2
    have oc := gr_ob g63 oc
    exact ⟨h, V64.trans h0⟩
  · intro c65
    have h := h.2 c65
    obtain ⟨o66, h⟩ := h
    refine ⟨o66, ?_⟩
    obtain ⟨a67, ea67, h⟩ := h
    refine ⟨a67, ea67, ?_⟩
    obtain ⟨o68, h⟩ := h
    refine ⟨o68, ?_⟩
    obtain ⟨o69, h⟩ := h
    refine ⟨o69, ?_⟩
    intro S70 eS70
    have h := h S70 eS70
    have oc := ob_wJ oc eS70
    intro x71 ex71
    have h := h x71 ex71
    exact h ⟨rfl, oc⟩
set_option maxHeartbeats 1000000 in
theorem tqL_X11_day_73 {E : Int32} (h0 : (0 : Int32) = E) {Q : Int32 → HS → Prop} {v0 : Nat} {v2 : Int32} {v3 : Int32} {v5 : Int32} {v6 : Int32} {S : HS} (oc : ob S v0 11) (h : P_X11_day_73 Q v0 v2 v3 v5 v6 S) : P_X11_day_73 (fun r T => Q r T ∧ fI T v0 1 = E) v0 v2 v3 v5 v6 S := by
  intro X hX
  refine h (fun u0 v2_ v3_ v5_ v6_ T => (v0 = u0 ∧ ob T v0 11) → X u0 v2_ v3_ v5_ v6_ T) ?_ ⟨rfl, oc⟩
  rintro u0 v2_ v3_ v5_ v6_ T h ⟨rfl, oc⟩
  apply hX
  obtain ⟨o41, h⟩ := h
  refine ⟨o41, ?_⟩
  obtain ⟨a42, ea42, h⟩ := h
  refine ⟨a42, ea42, ?_⟩
  obtain ⟨o43, h⟩ := h
  refine ⟨o43, ?_⟩
  intro x44 ex44
  have h := h x44 ex44
  refine ⟨?_, ?_⟩
  · intro c45
    have h := h.1 c45
    exact tqL_X11_day_147 h0 oc h
  · intro c72
    have h := h.2 c72
    intro x73 ex73
    have h := h x73 ex73
    intro x74 ex74
    have h := h x74 ex74
    intro x75 ex75
    have h := h x75 ex75
    intro x76 ex76
    have h := h x76 ex76
    obtain ⟨a77, ea77, h⟩ := h
    refine ⟨a77, ea77, ?_⟩
    obtain ⟨o78, h⟩ := h
    refine ⟨o78, ?_⟩
    obtain ⟨a79, ea79, h⟩ := h
    refine ⟨a79, ea79, ?_⟩
    obtain ⟨o80, h⟩ := h
    refine ⟨o80, ?_⟩
    obtain ⟨o81, h⟩ := h
    refine ⟨o81, ?_⟩
    intro x82 ex82
    have h := h x82 ex82
    refine ⟨?_, ?_⟩
    · intro c83
      have h := h.1 c83
      delta P_X11_day_134
      obtain ⟨o84, h⟩ := h
      refine ⟨o84, ?_⟩
      intro x85 ex85
      have h := h x85 ex85
      intro S86 eS86
      have h := h S86 eS86
      have oc := ob_wI oc eS86
      intro x87 ex87
      have h := h x87 ex87
      exact h ⟨rfl, oc⟩
    · intro c88
      have h := h.2 c88
      delta P_X11_day_134
      obtain ⟨o89, h⟩ := h
      refine ⟨o89, ?_⟩
      intro x90 ex90
      have h := h x90 ex90
      intro S91 eS91
      have h := h S91 eS91
      have oc := ob_wI oc eS91
      intro x92 ex92
      have h := h x92 ex92
      exact h ⟨rfl, oc⟩
set_option maxHeartbeats 1000000 in
theorem tq_X11_day {A : AS} {G : GC} {D : DY} {v0 : Nat} {v1 : Int32} {v2 : Int32} {v3 : Int32} {v4 : Int32} {Q : Int32 → HS → Prop} {S : HS} (hI : IV S) (oc : ob S v0 11) (hm : HM v0 A G S) (ab : ABd A) (gb : GBd A G) (ge : GBe A G) (md : MDd v0 D S) (db : DBd A D) (h : P_X11_day v0 v1 v2 v3 v4 Q S) : P_X11_day v0 v1 v2 v3 v4 (fun r T => Q r T ∧ fI T v0 1 = whday A v1 v2 v3 v4) S := by
  delta P_X11_day P_X11_day_0
  have oc0 := oc
  obtain ⟨o1, h⟩ := h
  refine ⟨o1, ?_⟩
  intro S2 eS2
  have h := h S2 eS2
  have hE := m_start hI eS2
  have hm := hm_0 hm oc eS2
  have md := md_I md eS2 (by decide) (by decide) (by decide) (by decide)
  have oc := ob_wI oc eS2
  refine cm_X11_isWalker (sq_X11_isWalker hm h) h (fun x3 S4 hp h g5 b6 => ?_)
  have h := h g5 b6
  obtain ⟨-, hS, q7⟩ := hp
  subst hS
  refine ⟨?_, ?_⟩
  · intro c8
    have h := h.1 c8
    have Nc8 := an0 q7 c8
    delta P_X11_day_21
    obtain ⟨o9, h⟩ := h
    refine ⟨o9, ?_⟩
    refine cm_X11_refused (tq_X11_refused h) h (fun x10 S11 hp h g12 => ?_)
    have h := h g12
    have V13 := hp.2
    have oc := gr_ob g12 oc
    exact ⟨h, by rw [V13]; first | (simp only [whface, whair, whfits, whlies, whday, whgot, whon, whwalker, whroad, trN, trOK, dc_T, dc_F, not_false_eq_true, not_true_eq_false, and_true, true_and, and_false, false_and, and_self, true_or, or_true, false_or, or_false, or_self, Nc8]; done)⟩
  · intro c14
    have h := h.2 c14
    have Nc14 := an1 q7 c14
    refine cm_X11_isPlace (sq_X11_isPlace hm h) h (fun x15 S16 hp h g17 b18 => ?_)
    have h := h g17 b18
    obtain ⟨-, hS, q19⟩ := hp
    subst hS
    refine ⟨?_, ?_⟩
    · intro c20
      have h := h.1 c20
      have Nc20 := an1 q19 c20
      refine cm_X11_in (sp_X11_in h) h (fun x21 S22 hp h g23 b24 => ?_)
      have h := h g23 b24
      obtain ⟨-, hS, q25⟩ := hp
      subst hS
      refine ⟨?_, ?_⟩
      · intro c26
        have h := h.1 c26
        have Nc26 := Classical.not_not.mp (an0 q25 c26)
        delta P_X11_day_50
        obtain ⟨o27, h⟩ := h
        refine ⟨o27, ?_⟩
        refine cm_X11_refused (tq_X11_refused h) h (fun x28 S29 hp h g30 => ?_)
        have h := h g30
        have V31 := hp.2
        have oc := gr_ob g30 oc
        exact ⟨h, by rw [V31]; first | (simp only [whface, whair, whfits, whlies, whday, whgot, whon, whwalker, whroad, trN, trOK, dc_T, dc_F, not_false_eq_true, not_true_eq_false, and_true, true_and, and_false, false_and, and_self, true_or, or_true, false_or, or_false, or_self, Nc14, Nc20, Nc26]; done)⟩
      · intro c32
        have h := h.2 c32
        have Nc32 := an1 q25 c32
        refine cm_X11_in (sp_X11_in h) h (fun x33 S34 hp h g35 b36 => ?_)
        have h := h g35 b36
        obtain ⟨-, hS, q37⟩ := hp
        subst hS
        refine ⟨?_, ?_⟩
        · intro c38
          have h := h.1 c38
          have Nc38 := an1 q37 c38
          intro S39 eS39
          have h := h S39 eS39
          have oc := ob_wI oc eS39
          intro S40 eS40
          have h := h S40 eS40
          have oc := ob_wI oc eS40
          exact tqL_X11_day_73 (by simp only [whface, whair, whfits, whlies, whday, whgot, whon, whwalker, whroad, trN, trOK, dc_T, dc_F, not_false_eq_true, not_true_eq_false, and_true, true_and, and_false, false_and, and_self, true_or, or_true, false_or, or_false, or_self, Nc14, Nc20, Nc32, Nc38]) oc h
        · intro c93
          have h := h.2 c93
          have Nc93 := Classical.not_not.mp (an0 q37 c93)
          delta P_X11_day_50
          obtain ⟨o94, h⟩ := h
          refine ⟨o94, ?_⟩
          refine cm_X11_refused (tq_X11_refused h) h (fun x95 S96 hp h g97 => ?_)
          have h := h g97
          have V98 := hp.2
          have oc := gr_ob g97 oc
          exact ⟨h, by rw [V98]; first | (simp only [whface, whair, whfits, whlies, whday, whgot, whon, whwalker, whroad, trN, trOK, dc_T, dc_F, not_false_eq_true, not_true_eq_false, and_true, true_and, and_false, false_and, and_self, true_or, or_true, false_or, or_false, or_self, Nc14, Nc20, Nc32, Nc93]; done)⟩
    · intro c99
      have h := h.2 c99
      have Nc99 := an0 q19 c99
      delta P_X11_day_21
      obtain ⟨o100, h⟩ := h
      refine ⟨o100, ?_⟩
      refine cm_X11_refused (tq_X11_refused h) h (fun x101 S102 hp h g103 => ?_)
      have h := h g103
      have V104 := hp.2
      have oc := gr_ob g103 oc
      exact ⟨h, by rw [V104]; first | (simp only [whface, whair, whfits, whlies, whday, whgot, whon, whwalker, whroad, trN, trOK, dc_T, dc_F, not_false_eq_true, not_true_eq_false, and_true, true_and, and_false, false_and, and_self, true_or, or_true, false_or, or_false, or_self, Nc14, Nc99]; done)⟩

set_option maxHeartbeats 1000000 in
theorem tq_X9_got {A : AS} {G : GC} {D : DY} {v0 : Nat} {v1 : Int32} {v2 : Int32} {Q : Int64 → HS → Prop} {S : HS} (hI : IV S) (oc : ob S v0 9) {rr w1 w2 : Nat} (J : CJ v0 rr w1 w2 S) (hc : Cnt w1 A S) (ct : CtB w1 A G S S) (ab : ABd A) (gb : GBd A G) (ge : GBe A G) {lgo b0 b1 : Nat} (lg : LG v0 lgo b0 b1 S) {dy : Nat} (e6 : fR S v0 6 = some dy) (cd : CDd dy D S) (db : DBd A D) (wd : WYd v0 A G S) (h : P_X9_got v0 v1 v2 Q S) : P_X9_got v0 v1 v2 (fun r T => Q r T ∧ fI T v0 9 = whgot D v1) S := by
  delta P_X9_got P_X9_got_0
  have h8 := wt_of hI J hc ct ab
  obtain ⟨o1, h⟩ := h
  refine ⟨o1, ?_⟩
  obtain ⟨a2, ea2, h⟩ := h
  cases e6.symm.trans ea2
  refine ⟨_, ea2, ?_⟩
  obtain ⟨o3, h⟩ := h
  refine ⟨o3, ?_⟩
  refine cm_X0_isOn (sq_X0_isOn cd h) h (fun x4 S5 hp h g6 b7 => ?_)
  have h := h g6 b7
  obtain ⟨-, hS, q8⟩ := hp
  subst hS
  refine ⟨?_, ?_⟩
  · intro c9
    have h := h.1 c9
    have Nc9 := an0 q8 c9
    delta P_X9_got_17
    obtain ⟨o10, h⟩ := h
    refine ⟨o10, ?_⟩
    refine cm_X9_refuse (tq_X9_refuse h) h (fun x11 S12 hp h g13 => ?_)
    have h := h g13
    have V14 := hp.2
    have oc := gr_ob g13 oc
    exact ⟨h, by rw [V14]; first | (simp only [whface, whair, whfits, whlies, whday, whgot, whon, whwalker, whroad, trN, trOK, dc_T, dc_F, not_false_eq_true, not_true_eq_false, and_true, true_and, and_false, false_and, and_self, true_or, or_true, false_or, or_false, or_self, Nc9]; done)⟩
  · intro c15
    have h := h.2 c15
    have Nc15 := an1 q8 c15
    refine cm_X9_isFace (sp_X9_isFace h) h (fun x16 S17 hp h g18 b19 => ?_)
    have h := h g18 b19
    obtain ⟨-, hS, q20⟩ := hp
    subst hS
    refine ⟨?_, ?_⟩
    · intro c21
      have h := h.1 c21
      have Nc21 := an1 q20 c21
      intro S22 eS22
      have h := h S22 eS22
      have V23 : fI S22 v0 9 = (0 : Int32) := by rw [eS22]; exact u2_self _ _ _ _
      have oc := ob_wI oc eS22
      obtain ⟨a24, ea24, h⟩ := h
      refine ⟨a24, ea24, ?_⟩
      obtain ⟨o25, h⟩ := h
      refine ⟨o25, ?_⟩
      obtain ⟨a26, ea26, h⟩ := h
      refine ⟨a26, ea26, ?_⟩
      obtain ⟨o27, h⟩ := h
      refine ⟨o27, ?_⟩
      obtain ⟨a28, ea28, h⟩ := h
      refine ⟨a28, ea28, ?_⟩
      obtain ⟨o29, h⟩ := h
      refine ⟨o29, ?_⟩
      obtain ⟨o30, h⟩ := h
      refine ⟨o30, ?_⟩
      intro x31 ex31
      have h := h x31 ex31
      refine cm_X9_fraction (kq_X9_fraction h) h (fun x32 S33 hp h g34 => ?_)
      have h := h g34
      have V35 := (hp.2.2 (9, 9) (by decide) v0 oc).trans V23
      have oc := gr_ob g34 oc
      exact ⟨h, by rw [V35]; first | (simp only [whface, whair, whfits, whlies, whday, whgot, whon, whwalker, whroad, trN, trOK, dc_T, dc_F, not_false_eq_true, not_true_eq_false, and_true, true_and, and_false, false_and, and_self, true_or, or_true, false_or, or_false, or_self, Nc15, Nc21]; done)⟩
    · intro c36
      have h := h.2 c36
      have Nc36 := an0 q20 c36
      delta P_X9_got_17
      obtain ⟨o37, h⟩ := h
      refine ⟨o37, ?_⟩
      refine cm_X9_refuse (tq_X9_refuse h) h (fun x38 S39 hp h g40 => ?_)
      have h := h g40
      have V41 := hp.2
      have oc := gr_ob g40 oc
      exact ⟨h, by rw [V41]; first | (simp only [whface, whair, whfits, whlies, whday, whgot, whon, whwalker, whroad, trN, trOK, dc_T, dc_F, not_false_eq_true, not_true_eq_false, and_true, true_and, and_false, false_and, and_self, true_or, or_true, false_or, or_false, or_self, Nc15, Nc36]; done)⟩

set_option maxHeartbeats 1000000 in
theorem tq_X11_got {A : AS} {G : GC} {D : DY} {v0 : Nat} {v1 : Int32} {v2 : Int32} {Q : Int64 → HS → Prop} {S : HS} (hI : IV S) (oc : ob S v0 11) (hm : HM v0 A G S) (ab : ABd A) (gb : GBd A G) (ge : GBe A G) (md : MDd v0 D S) (db : DBd A D) (h : P_X11_got v0 v1 v2 Q S) : P_X11_got v0 v1 v2 (fun r T => Q r T ∧ fI T v0 1 = whgot D v1) S := by
  delta P_X11_got P_X11_got_0
  have oc0 := oc
  obtain ⟨o1, h⟩ := h
  refine ⟨o1, ?_⟩
  intro S2 eS2
  have h := h S2 eS2
  have hE := m_start hI eS2
  have hm := hm_0 hm oc eS2
  have md := md_I md eS2 (by decide) (by decide) (by decide) (by decide)
  have oc := ob_wI oc eS2
  refine cm_X11_isDay (sm_X11_isDay hm md db h) h (fun x3 S4 hp h g5 b6 => ?_)
  have h := h g5 b6
  obtain ⟨-, hS, q7⟩ := hp
  subst hS
  refine ⟨?_, ?_⟩
  · intro c8
    have h := h.1 c8
    have Nc8 := an0 q7 c8
    delta P_X11_got_40
    obtain ⟨o9, h⟩ := h
    refine ⟨o9, ?_⟩
    refine cm_X11_refused (tq_X11_refused h) h (fun x10 S11 hp h g12 => ?_)
    have h := h g12
    have V13 := hp.2
    have oc := gr_ob g12 oc
    exact ⟨h, by rw [V13]; first | (simp only [whface, whair, whfits, whlies, whday, whgot, whon, whwalker, whroad, trN, trOK, dc_T, dc_F, not_false_eq_true, not_true_eq_false, and_true, true_and, and_false, false_and, and_self, true_or, or_true, false_or, or_false, or_self, Nc8]; done)⟩
  · intro c14
    have h := h.2 c14
    have Nc14 := an1 q7 c14
    refine cm_X11_in (sq_X11_face h) h (fun x15 S16 hp h g17 b18 => ?_)
    have h := h g17 b18
    obtain ⟨-, hS, q19⟩ := hp
    subst hS
    refine ⟨?_, ?_⟩
    · intro c20
      have h := h.1 c20
      have Nc20 := an0 q19 c20
      delta P_X11_got_40
      obtain ⟨o21, h⟩ := h
      refine ⟨o21, ?_⟩
      refine cm_X11_refused (tq_X11_refused h) h (fun x22 S23 hp h g24 => ?_)
      have h := h g24
      have V25 := hp.2
      have oc := gr_ob g24 oc
      exact ⟨h, by rw [V25]; first | (simp only [whface, whair, whfits, whlies, whday, whgot, whon, whwalker, whroad, trN, trOK, dc_T, dc_F, not_false_eq_true, not_true_eq_false, and_true, true_and, and_false, false_and, and_self, true_or, or_true, false_or, or_false, or_self, Nc14, Nc20]; done)⟩
    · intro c26
      have h := h.2 c26
      have Nc26 := an1 q19 c26
      obtain ⟨a27, ea27, h⟩ := h
      refine ⟨a27, ea27, ?_⟩
      obtain ⟨o28, h⟩ := h
      refine ⟨o28, ?_⟩
      intro x29 ex29
      have h := h x29 ex29
      obtain ⟨o30, h⟩ := h
      refine ⟨o30, ?_⟩
      intro x31 ex31
      have h := h x31 ex31
      refine cm_X11_told (tq_X11_told h) h (fun x32 S33 hp h g34 => ?_)
      have h := h g34
      have V35 := hp.2
      have oc := gr_ob g34 oc
      exact ⟨h, by rw [V35]; first | (simp only [whface, whair, whfits, whlies, whday, whgot, whon, whwalker, whroad, trN, trOK, dc_T, dc_F, not_false_eq_true, not_true_eq_false, and_true, true_and, and_false, false_and, and_self, true_or, or_true, false_or, or_false, or_self, Nc14, Nc26]; done)⟩

set_option maxHeartbeats 1000000 in
theorem tq_X9_wetness {A : AS} {G : GC} {D : DY} {v0 : Nat} {v1 : Int32} {Q : Int64 → HS → Prop} {S : HS} (hI : IV S) (oc : ob S v0 9) {rr w1 w2 : Nat} (J : CJ v0 rr w1 w2 S) (hc : Cnt w1 A S) (ct : CtB w1 A G S S) (ab : ABd A) (gb : GBd A G) (ge : GBe A G) {lgo b0 b1 : Nat} (lg : LG v0 lgo b0 b1 S) {dy : Nat} (e6 : fR S v0 6 = some dy) (cd : CDd dy D S) (db : DBd A D) (wd : WYd v0 A G S) (h : P_X9_wetness v0 v1 Q S) : P_X9_wetness v0 v1 (fun r T => Q r T ∧ fI T v0 9 = whon D) S := by
  delta P_X9_wetness P_X9_wetness_0
  have h8 := wt_of hI J hc ct ab
  obtain ⟨o1, h⟩ := h
  refine ⟨o1, ?_⟩
  obtain ⟨a2, ea2, h⟩ := h
  cases e6.symm.trans ea2
  refine ⟨_, ea2, ?_⟩
  obtain ⟨o3, h⟩ := h
  refine ⟨o3, ?_⟩
  refine cm_X0_isOn (sq_X0_isOn cd h) h (fun x4 S5 hp h g6 b7 => ?_)
  have h := h g6 b7
  obtain ⟨-, hS, q8⟩ := hp
  subst hS
  refine ⟨?_, ?_⟩
  · intro c9
    have h := h.1 c9
    have Nc9 := an0 q8 c9
    delta P_X9_wetness_27
    obtain ⟨o10, h⟩ := h
    refine ⟨o10, ?_⟩
    refine cm_X9_refuse (tq_X9_refuse h) h (fun x11 S12 hp h g13 => ?_)
    have h := h g13
    have V14 := hp.2
    have oc := gr_ob g13 oc
    exact ⟨h, by rw [V14]; first | (simp only [whface, whair, whfits, whlies, whday, whgot, whon, whwalker, whroad, trN, trOK, dc_T, dc_F, not_false_eq_true, not_true_eq_false, and_true, true_and, and_false, false_and, and_self, true_or, or_true, false_or, or_false, or_self, Nc9]; done)⟩
  · intro c15
    have h := h.2 c15
    have Nc15 := an1 q8 c15
    obtain ⟨a16, ea16, h⟩ := h
    cases J.1.symm.trans ea16
    refine ⟨_, ea16, ?_⟩
    obtain ⟨a17, ea17, h⟩ := h
    cases e6.symm.trans ea17
    refine ⟨_, ea17, ?_⟩
    obtain ⟨o18, h⟩ := h
    refine ⟨o18, ?_⟩
    intro x19 ex19
    have h := h x19 ex19
    obtain ⟨o20, h⟩ := h
    refine ⟨o20, ?_⟩
    refine cm_X8_hasWalker (sw_X8_hasWalker h8 ab h) h (fun x21 S22 hp h g23 b24 => ?_)
    have h := h g23 b24
    obtain ⟨-, hS, q25⟩ := hp
    subst hS
    have hw := dw_in db Nc15 ((cd_w cd).symm.trans ex19.symm)
    refine ⟨?_, ?_⟩
    · intro c26
      have h := h.1 c26
      have Nc26 := an1 q25 c26
      intro S27 eS27
      have h := h S27 eS27
      have V28 : fI S27 v0 9 = (0 : Int32) := by rw [eS27]; exact u2_self _ _ _ _
      have oc := ob_wI oc eS27
      obtain ⟨a29, ea29, h⟩ := h
      refine ⟨a29, ea29, ?_⟩
      obtain ⟨o30, h⟩ := h
      refine ⟨o30, ?_⟩
      obtain ⟨a31, ea31, h⟩ := h
      refine ⟨a31, ea31, ?_⟩
      obtain ⟨o32, h⟩ := h
      refine ⟨o32, ?_⟩
      refine cm_X2_allGot (kq_X2_allGot h) h (fun x33 S34 hp h g35 => ?_)
      have h := h g35
      have V36 := (hp.2.2 (9, 9) (by decide) v0 oc).trans V28
      have oc := gr_ob g35 oc
      obtain ⟨a37, ea37, h⟩ := h
      refine ⟨a37, ea37, ?_⟩
      obtain ⟨o38, h⟩ := h
      refine ⟨o38, ?_⟩
      obtain ⟨a39, ea39, h⟩ := h
      refine ⟨a39, ea39, ?_⟩
      obtain ⟨a40, ea40, h⟩ := h
      refine ⟨a40, ea40, ?_⟩
      obtain ⟨o41, h⟩ := h
      refine ⟨o41, ?_⟩
      intro x42 ex42
      have h := h x42 ex42
      obtain ⟨o43, h⟩ := h
      refine ⟨o43, ?_⟩
      obtain ⟨o44, h⟩ := h
      refine ⟨o44, ?_⟩
      obtain ⟨a45, ea45, h⟩ := h
      refine ⟨a45, ea45, ?_⟩
      refine cm_X9_coatParts (kq_X9_coatParts h) h (fun x46 S47 hp h g48 => ?_)
      have h := h g48
      have V49 := (hp.2.2 (9, 9) (by decide) v0 oc).trans V36
      have oc := gr_ob g48 oc
      intro x50 ex50
      have h := h x50 ex50
      intro x51 ex51
      have h := h x51 ex51
      refine cm_X9_fraction (kq_X9_fraction h) h (fun x52 S53 hp h g54 => ?_)
      have h := h g54
      have V55 := (hp.2.2 (9, 9) (by decide) v0 oc).trans V49
      have oc := gr_ob g54 oc
      exact ⟨h, by rw [V55]; first | (simp only [whface, whair, whfits, whlies, whday, whgot, whon, whwalker, whroad, trN, trOK, dc_T, dc_F, not_false_eq_true, not_true_eq_false, and_true, true_and, and_false, false_and, and_self, true_or, or_true, false_or, or_false, or_self, Nc15, Nc26]; done)⟩
    · intro c56
      have h := h.2 c56
      have Nc56 := an0 q25 c56
      exact absurd hw Nc56

set_option maxHeartbeats 1000000 in
theorem tq_X11_wetness {A : AS} {G : GC} {D : DY} {v0 : Nat} {v1 : Int32} {Q : Int64 → HS → Prop} {S : HS} (hI : IV S) (oc : ob S v0 11) (hm : HM v0 A G S) (ab : ABd A) (gb : GBd A G) (ge : GBe A G) (md : MDd v0 D S) (db : DBd A D) (h : P_X11_wetness v0 v1 Q S) : P_X11_wetness v0 v1 (fun r T => Q r T ∧ fI T v0 1 = whon D) S := by
  delta P_X11_wetness P_X11_wetness_0
  have oc0 := oc
  obtain ⟨o1, h⟩ := h
  refine ⟨o1, ?_⟩
  intro S2 eS2
  have h := h S2 eS2
  have hE := m_start hI eS2
  have hm := hm_0 hm oc eS2
  have md := md_I md eS2 (by decide) (by decide) (by decide) (by decide)
  have oc := ob_wI oc eS2
  refine cm_X11_isDay (sm_X11_isDay hm md db h) h (fun x3 S4 hp h g5 b6 => ?_)
  have h := h g5 b6
  obtain ⟨-, hS, q7⟩ := hp
  subst hS
  refine ⟨?_, ?_⟩
  · intro c8
    have h := h.1 c8
    have Nc8 := an1 q7 c8
    refine cm_X11_gotInAll (kq_X11_gotInAll h) h (fun x9 S10 hp h g11 => ?_)
    have h := h g11
    have oc := gr_ob g11 oc
    refine cm_X11_holds (kq_X11_holds h) h (fun x12 S13 hp h g14 => ?_)
    have h := h g14
    have oc := gr_ob g14 oc
    intro x15 ex15
    have h := h x15 ex15
    refine ⟨?_, ?_⟩
    · intro c16
      have h := h.1 c16
      delta P_X11_wetness_41
      obtain ⟨o17, h⟩ := h
      refine ⟨o17, ?_⟩
      refine cm_X11_told (tq_X11_told h) h (fun x18 S19 hp h g20 => ?_)
      have h := h g20
      have V21 := hp.2
      have oc := gr_ob g20 oc
      exact ⟨h, by rw [V21]; first | (simp only [whface, whair, whfits, whlies, whday, whgot, whon, whwalker, whroad, trN, trOK, dc_T, dc_F, not_false_eq_true, not_true_eq_false, and_true, true_and, and_false, false_and, and_self, true_or, or_true, false_or, or_false, or_self, Nc8]; done)⟩
    · intro c22
      have h := h.2 c22
      delta P_X11_wetness_41
      obtain ⟨o23, h⟩ := h
      refine ⟨o23, ?_⟩
      refine cm_X11_told (tq_X11_told h) h (fun x24 S25 hp h g26 => ?_)
      have h := h g26
      have V27 := hp.2
      have oc := gr_ob g26 oc
      exact ⟨h, by rw [V27]; first | (simp only [whface, whair, whfits, whlies, whday, whgot, whon, whwalker, whroad, trN, trOK, dc_T, dc_F, not_false_eq_true, not_true_eq_false, and_true, true_and, and_false, false_and, and_self, true_or, or_true, false_or, or_false, or_self, Nc8]; done)⟩
  · intro c28
    have h := h.2 c28
    have Nc28 := an0 q7 c28
    refine cm_X11_refused (tq_X11_refused h) h (fun x29 S30 hp h g31 => ?_)
    have h := h g31
    have V32 := hp.2
    have oc := gr_ob g31 oc
    exact ⟨h, by rw [V32]; first | (simp only [whface, whair, whfits, whlies, whday, whgot, whon, whwalker, whroad, trN, trOK, dc_T, dc_F, not_false_eq_true, not_true_eq_false, and_true, true_and, and_false, false_and, and_self, true_or, or_true, false_or, or_false, or_self, Nc28]; done)⟩

set_option maxHeartbeats 1000000 in
theorem tq_X9_soaked {A : AS} {G : GC} {D : DY} {v0 : Nat} {Q : Int32 → HS → Prop} {S : HS} (hI : IV S) (oc : ob S v0 9) {rr w1 w2 : Nat} (J : CJ v0 rr w1 w2 S) (hc : Cnt w1 A S) (ct : CtB w1 A G S S) (ab : ABd A) (gb : GBd A G) (ge : GBe A G) {lgo b0 b1 : Nat} (lg : LG v0 lgo b0 b1 S) {dy : Nat} (e6 : fR S v0 6 = some dy) (cd : CDd dy D S) (db : DBd A D) (wd : WYd v0 A G S) (h : P_X9_soaked v0 Q S) : P_X9_soaked v0 (fun r T => Q r T ∧ fI T v0 9 = whon D) S := by
  delta P_X9_soaked P_X9_soaked_0
  have h8 := wt_of hI J hc ct ab
  obtain ⟨o1, h⟩ := h
  refine ⟨o1, ?_⟩
  obtain ⟨a2, ea2, h⟩ := h
  cases e6.symm.trans ea2
  refine ⟨_, ea2, ?_⟩
  obtain ⟨o3, h⟩ := h
  refine ⟨o3, ?_⟩
  refine cm_X0_isOn (sq_X0_isOn cd h) h (fun x4 S5 hp h g6 b7 => ?_)
  have h := h g6 b7
  obtain ⟨-, hS, q8⟩ := hp
  subst hS
  refine ⟨?_, ?_⟩
  · intro c9
    have h := h.1 c9
    have Nc9 := an0 q8 c9
    delta P_X9_soaked_27
    obtain ⟨o10, h⟩ := h
    refine ⟨o10, ?_⟩
    refine cm_X9_refuse (tq_X9_refuse h) h (fun x11 S12 hp h g13 => ?_)
    have h := h g13
    have V14 := hp.2
    have oc := gr_ob g13 oc
    exact ⟨h, by rw [V14]; first | (simp only [whface, whair, whfits, whlies, whday, whgot, whon, whwalker, whroad, trN, trOK, dc_T, dc_F, not_false_eq_true, not_true_eq_false, and_true, true_and, and_false, false_and, and_self, true_or, or_true, false_or, or_false, or_self, Nc9]; done)⟩
  · intro c15
    have h := h.2 c15
    have Nc15 := an1 q8 c15
    obtain ⟨a16, ea16, h⟩ := h
    cases J.1.symm.trans ea16
    refine ⟨_, ea16, ?_⟩
    obtain ⟨a17, ea17, h⟩ := h
    cases e6.symm.trans ea17
    refine ⟨_, ea17, ?_⟩
    obtain ⟨o18, h⟩ := h
    refine ⟨o18, ?_⟩
    intro x19 ex19
    have h := h x19 ex19
    obtain ⟨o20, h⟩ := h
    refine ⟨o20, ?_⟩
    refine cm_X8_hasWalker (sw_X8_hasWalker h8 ab h) h (fun x21 S22 hp h g23 b24 => ?_)
    have h := h g23 b24
    obtain ⟨-, hS, q25⟩ := hp
    subst hS
    have hw := dw_in db Nc15 ((cd_w cd).symm.trans ex19.symm)
    refine ⟨?_, ?_⟩
    · intro c26
      have h := h.1 c26
      have Nc26 := an1 q25 c26
      obtain ⟨a27, ea27, h⟩ := h
      cases J.1.symm.trans ea27
      refine ⟨_, ea27, ?_⟩
      obtain ⟨o28, h⟩ := h
      refine ⟨o28, ?_⟩
      obtain ⟨a29, ea29, h⟩ := h
      refine ⟨a29, ea29, ?_⟩
      obtain ⟨a30, ea30, h⟩ := h
      cases e6.symm.trans ea30
      refine ⟨_, ea30, ?_⟩
      obtain ⟨o31, h⟩ := h
      refine ⟨o31, ?_⟩
      intro x32 ex32
      have h := h x32 ex32
      obtain ⟨o33, h⟩ := h
      refine ⟨o33, ?_⟩
      obtain ⟨o34, h⟩ := h
      refine ⟨o34, ?_⟩
      obtain ⟨a35, ea35, h⟩ := h
      refine ⟨a35, ea35, ?_⟩
      obtain ⟨o36, h⟩ := h
      refine ⟨o36, ?_⟩
      intro x37 ex37
      have h := h x37 ex37
      refine ⟨?_, ?_⟩
      · intro c38
        have h := h.1 c38
        obtain ⟨a39, ea39, h⟩ := h
        cases e6.symm.trans ea39
        refine ⟨_, ea39, ?_⟩
        obtain ⟨o40, h⟩ := h
        refine ⟨o40, ?_⟩
        obtain ⟨a41, ea41, h⟩ := h
        refine ⟨a41, ea41, ?_⟩
        obtain ⟨o42, h⟩ := h
        refine ⟨o42, ?_⟩
        refine cm_X2_allGot (kq_X2_allGot h) h (fun x43 S44 hp h g45 => ?_)
        have h := h g45
        have oc := gr_ob g45 oc
        refine cm_X9_coatParts (kq_X9_coatParts h) h (fun x46 S47 hp h g48 => ?_)
        have h := h g48
        have oc := gr_ob g48 oc
        refine ⟨?_, ?_⟩
        · intro c49
          have h := h.1 c49
          delta P_X9_soaked_88
          obtain ⟨o50, h⟩ := h
          refine ⟨o50, ?_⟩
          refine cm_X9_grant (tq_X9_grant h) h (fun x51 S52 hp h g53 => ?_)
          have h := h g53
          have V54 := hp.2
          have oc := gr_ob g53 oc
          exact ⟨h, by rw [V54]; first | (simp only [whface, whair, whfits, whlies, whday, whgot, whon, whwalker, whroad, trN, trOK, dc_T, dc_F, not_false_eq_true, not_true_eq_false, and_true, true_and, and_false, false_and, and_self, true_or, or_true, false_or, or_false, or_self, Nc15, Nc26, c38]; done) | exact absurd c38 (by decide)⟩
        · intro c55
          have h := h.2 c55
          delta P_X9_soaked_88
          obtain ⟨o56, h⟩ := h
          refine ⟨o56, ?_⟩
          refine cm_X9_grant (tq_X9_grant h) h (fun x57 S58 hp h g59 => ?_)
          have h := h g59
          have V60 := hp.2
          have oc := gr_ob g59 oc
          exact ⟨h, by rw [V60]; first | (simp only [whface, whair, whfits, whlies, whday, whgot, whon, whwalker, whroad, trN, trOK, dc_T, dc_F, not_false_eq_true, not_true_eq_false, and_true, true_and, and_false, false_and, and_self, true_or, or_true, false_or, or_false, or_self, Nc15, Nc26, c38]; done) | exact absurd c38 (by decide)⟩
      · intro c61
        have h := h.2 c61
        refine cm_X9_grant (tq_X9_grant h) h (fun x62 S63 hp h g64 => ?_)
        have h := h g64
        have V65 := hp.2
        have oc := gr_ob g64 oc
        exact ⟨h, by rw [V65]; first | (simp only [whface, whair, whfits, whlies, whday, whgot, whon, whwalker, whroad, trN, trOK, dc_T, dc_F, not_false_eq_true, not_true_eq_false, and_true, true_and, and_false, false_and, and_self, true_or, or_true, false_or, or_false, or_self, Nc15, Nc26, c61]; done) | exact absurd c61 (by decide)⟩
    · intro c66
      have h := h.2 c66
      have Nc66 := an0 q25 c66
      exact absurd hw Nc66

set_option maxHeartbeats 1000000 in
theorem tq_X11_soaked {A : AS} {G : GC} {D : DY} {v0 : Nat} {Q : Int32 → HS → Prop} {S : HS} (hI : IV S) (oc : ob S v0 11) (hm : HM v0 A G S) (ab : ABd A) (gb : GBd A G) (ge : GBe A G) (md : MDd v0 D S) (db : DBd A D) (h : P_X11_soaked v0 Q S) : P_X11_soaked v0 (fun r T => Q r T ∧ fI T v0 1 = whon D) S := by
  delta P_X11_soaked P_X11_soaked_0
  have oc0 := oc
  obtain ⟨o1, h⟩ := h
  refine ⟨o1, ?_⟩
  intro S2 eS2
  have h := h S2 eS2
  have hE := m_start hI eS2
  have hm := hm_0 hm oc eS2
  have md := md_I md eS2 (by decide) (by decide) (by decide) (by decide)
  have oc := ob_wI oc eS2
  refine cm_X11_isDay (sm_X11_isDay hm md db h) h (fun x3 S4 hp h g5 b6 => ?_)
  have h := h g5 b6
  obtain ⟨-, hS, q7⟩ := hp
  subst hS
  refine ⟨?_, ?_⟩
  · intro c8
    have h := h.1 c8
    have Nc8 := an1 q7 c8
    obtain ⟨a9, ea9, h⟩ := h
    refine ⟨a9, ea9, ?_⟩
    obtain ⟨o10, h⟩ := h
    refine ⟨o10, ?_⟩
    obtain ⟨a11, ea11, h⟩ := h
    refine ⟨a11, ea11, ?_⟩
    intro x12 ex12
    have h := h x12 ex12
    obtain ⟨o13, h⟩ := h
    refine ⟨o13, ?_⟩
    obtain ⟨o14, h⟩ := h
    refine ⟨o14, ?_⟩
    intro x15 ex15
    have h := h x15 ex15
    refine ⟨?_, ?_⟩
    · intro c16
      have h := h.1 c16
      refine cm_X11_gotInAll (kq_X11_gotInAll h) h (fun x17 S18 hp h g19 => ?_)
      have h := h g19
      have oc := gr_ob g19 oc
      refine cm_X11_holds (kq_X11_holds h) h (fun x20 S21 hp h g22 => ?_)
      have h := h g22
      have oc := gr_ob g22 oc
      refine ⟨?_, ?_⟩
      · intro c23
        have h := h.1 c23
        delta P_X11_soaked_57
        obtain ⟨o24, h⟩ := h
        refine ⟨o24, ?_⟩
        refine cm_X11_good (tq_X11_good h) h (fun x25 S26 hp h g27 => ?_)
        have h := h g27
        have V28 := hp.2
        have oc := gr_ob g27 oc
        exact ⟨h, by rw [V28]; first | (simp only [whface, whair, whfits, whlies, whday, whgot, whon, whwalker, whroad, trN, trOK, dc_T, dc_F, not_false_eq_true, not_true_eq_false, and_true, true_and, and_false, false_and, and_self, true_or, or_true, false_or, or_false, or_self, Nc8, c16]; done) | exact absurd c16 (by decide)⟩
      · intro c29
        have h := h.2 c29
        delta P_X11_soaked_57
        obtain ⟨o30, h⟩ := h
        refine ⟨o30, ?_⟩
        refine cm_X11_good (tq_X11_good h) h (fun x31 S32 hp h g33 => ?_)
        have h := h g33
        have V34 := hp.2
        have oc := gr_ob g33 oc
        exact ⟨h, by rw [V34]; first | (simp only [whface, whair, whfits, whlies, whday, whgot, whon, whwalker, whroad, trN, trOK, dc_T, dc_F, not_false_eq_true, not_true_eq_false, and_true, true_and, and_false, false_and, and_self, true_or, or_true, false_or, or_false, or_self, Nc8, c16]; done) | exact absurd c16 (by decide)⟩
    · intro c35
      have h := h.2 c35
      delta P_X11_soaked_57
      obtain ⟨o36, h⟩ := h
      refine ⟨o36, ?_⟩
      refine cm_X11_good (tq_X11_good h) h (fun x37 S38 hp h g39 => ?_)
      have h := h g39
      have V40 := hp.2
      have oc := gr_ob g39 oc
      exact ⟨h, by rw [V40]; first | (simp only [whface, whair, whfits, whlies, whday, whgot, whon, whwalker, whroad, trN, trOK, dc_T, dc_F, not_false_eq_true, not_true_eq_false, and_true, true_and, and_false, false_and, and_self, true_or, or_true, false_or, or_false, or_self, Nc8, c35]; done) | exact absurd c35 (by decide)⟩
  · intro c41
    have h := h.2 c41
    have Nc41 := an0 q7 c41
    refine cm_X11_refused (tq_X11_refused h) h (fun x42 S43 hp h g44 => ?_)
    have h := h g44
    have V45 := hp.2
    have oc := gr_ob g44 oc
    exact ⟨h, by rw [V45]; first | (simp only [whface, whair, whfits, whlies, whday, whgot, whon, whwalker, whroad, trN, trOK, dc_T, dc_F, not_false_eq_true, not_true_eq_false, and_true, true_and, and_false, false_and, and_self, true_or, or_true, false_or, or_false, or_self, Nc41]; done)⟩

set_option maxHeartbeats 1000000 in
theorem tq_X9_walker {A : AS} {G : GC} {D : DY} {v0 : Nat} {v1 : Int32} {v2 : Int32} {Q : Int32 → HS → Prop} {S : HS} (hI : IV S) (oc : ob S v0 9) {rr w1 w2 : Nat} (J : CJ v0 rr w1 w2 S) (hc : Cnt w1 A S) (ct : CtB w1 A G S S) (ab : ABd A) (gb : GBd A G) (ge : GBe A G) {lgo b0 b1 : Nat} (lg : LG v0 lgo b0 b1 S) {dy : Nat} (e6 : fR S v0 6 = some dy) (cd : CDd dy D S) (db : DBd A D) (wd : WYd v0 A G S) (h : P_X9_walker v0 v1 v2 Q S) : P_X9_walker v0 v1 v2 (fun r T => Q r T ∧ fI T v0 9 = whwalker A v1 v2) S := by
  delta P_X9_walker P_X9_walker_0
  have h8 := wt_of hI J hc ct ab
  obtain ⟨o1, h⟩ := h
  refine ⟨o1, ?_⟩
  obtain ⟨a2, ea2, h⟩ := h
  cases J.1.symm.trans ea2
  refine ⟨_, ea2, ?_⟩
  obtain ⟨o3, h⟩ := h
  refine ⟨o3, ?_⟩
  refine cm_X8_hasWalker (sw_X8_hasWalker h8 ab h) h (fun x4 S5 hp h g6 b7 => ?_)
  have h := h g6 b7
  obtain ⟨-, hS, q8⟩ := hp
  subst hS
  refine ⟨?_, ?_⟩
  · intro c9
    have h := h.1 c9
    have Nc9 := an0 q8 c9
    delta P_X9_walker_21
    obtain ⟨o10, h⟩ := h
    refine ⟨o10, ?_⟩
    refine cm_X9_refuse (tq_X9_refuse h) h (fun x11 S12 hp h g13 => ?_)
    have h := h g13
    have V14 := hp.2
    have oc := gr_ob g13 oc
    exact ⟨h, by rw [V14]; first | (simp only [whface, whair, whfits, whlies, whday, whgot, whon, whwalker, whroad, trN, trOK, dc_T, dc_F, not_false_eq_true, not_true_eq_false, and_true, true_and, and_false, false_and, and_self, true_or, or_true, false_or, or_false, or_self, Nc9]; done)⟩
  · intro c15
    have h := h.2 c15
    have Nc15 := an1 q8 c15
    refine ⟨?_, ?_⟩
    · intro c16
      have h := h.1 c16
      delta P_X9_walker_21
      obtain ⟨o17, h⟩ := h
      refine ⟨o17, ?_⟩
      refine cm_X9_refuse (tq_X9_refuse h) h (fun x18 S19 hp h g20 => ?_)
      have h := h g20
      have V21 := hp.2
      have oc := gr_ob g20 oc
      exact ⟨h, by rw [V21]; first | (simp only [whface, whair, whfits, whlies, whday, whgot, whon, whwalker, whroad, trN, trOK, dc_T, dc_F, not_false_eq_true, not_true_eq_false, and_true, true_and, and_false, false_and, and_self, true_or, or_true, false_or, or_false, or_self, Nc15, c16]; done) | exact absurd c16 (by decide)⟩
    · intro c22
      have h := h.2 c22
      refine ⟨?_, ?_⟩
      · intro c23
        have h := h.1 c23
        have Mc23 := Int32.not_lt.mpr c23
        obtain ⟨a24, ea24, h⟩ := h
        cases J.1.symm.trans ea24
        refine ⟨_, ea24, ?_⟩
        obtain ⟨o25, h⟩ := h
        refine ⟨o25, ?_⟩
        obtain ⟨a26, ea26, h⟩ := h
        refine ⟨a26, ea26, ?_⟩
        obtain ⟨o27, h⟩ := h
        refine ⟨o27, ?_⟩
        obtain ⟨o28, h⟩ := h
        refine ⟨o28, ?_⟩
        obtain ⟨a29, ea29, h⟩ := h
        refine ⟨a29, ea29, ?_⟩
        obtain ⟨o30, h⟩ := h
        refine ⟨o30, ?_⟩
        refine cm_X6_tell (kq_X6_tell h) h (fun x31 S32 hp h g33 => ?_)
        have h := h g33
        have oc := gr_ob g33 oc
        refine cm_X9_grant (tq_X9_grant h) h (fun x34 S35 hp h g36 => ?_)
        have h := h g36
        have V37 := hp.2
        have oc := gr_ob g36 oc
        exact ⟨h, by rw [V37]; first | (simp only [whface, whair, whfits, whlies, whday, whgot, whon, whwalker, whroad, trN, trOK, dc_T, dc_F, not_false_eq_true, not_true_eq_false, and_true, true_and, and_false, false_and, and_self, true_or, or_true, false_or, or_false, or_self, Nc15, c22, c23, Mc23]; done) | exact absurd c22 (by decide) | exact absurd c23 (by decide)⟩
      · intro c38
        have h := h.2 c38
        have Mc38 := Int32.not_le.mp c38
        delta P_X9_walker_21
        obtain ⟨o39, h⟩ := h
        refine ⟨o39, ?_⟩
        refine cm_X9_refuse (tq_X9_refuse h) h (fun x40 S41 hp h g42 => ?_)
        have h := h g42
        have V43 := hp.2
        have oc := gr_ob g42 oc
        exact ⟨h, by rw [V43]; first | (simp only [whface, whair, whfits, whlies, whday, whgot, whon, whwalker, whroad, trN, trOK, dc_T, dc_F, not_false_eq_true, not_true_eq_false, and_true, true_and, and_false, false_and, and_self, true_or, or_true, false_or, or_false, or_self, Nc15, c22, c38, Mc38]; done) | exact absurd c22 (by decide) | exact absurd c38 (by decide)⟩

set_option maxHeartbeats 1000000 in
theorem tq_X11_walker {A : AS} {G : GC} {D : DY} {v0 : Nat} {v1 : Int32} {v2 : Int32} {Q : Int32 → HS → Prop} {S : HS} (hI : IV S) (oc : ob S v0 11) (hm : HM v0 A G S) (ab : ABd A) (gb : GBd A G) (ge : GBe A G) (md : MDd v0 D S) (db : DBd A D) (h : P_X11_walker v0 v1 v2 Q S) : P_X11_walker v0 v1 v2 (fun r T => Q r T ∧ fI T v0 1 = whwalker A v1 v2) S := by
  delta P_X11_walker P_X11_walker_0
  have oc0 := oc
  obtain ⟨o1, h⟩ := h
  refine ⟨o1, ?_⟩
  intro S2 eS2
  have h := h S2 eS2
  have hE := m_start hI eS2
  have hm := hm_0 hm oc eS2
  have md := md_I md eS2 (by decide) (by decide) (by decide) (by decide)
  have oc := ob_wI oc eS2
  refine cm_X11_isWalker (sq_X11_isWalker hm h) h (fun x3 S4 hp h g5 b6 => ?_)
  have h := h g5 b6
  obtain ⟨-, hS, q7⟩ := hp
  subst hS
  refine ⟨?_, ?_⟩
  · intro c8
    have h := h.1 c8
    have Nc8 := an0 q7 c8
    delta P_X11_walker_23
    obtain ⟨o9, h⟩ := h
    refine ⟨o9, ?_⟩
    refine cm_X11_refused (tq_X11_refused h) h (fun x10 S11 hp h g12 => ?_)
    have h := h g12
    have V13 := hp.2
    have oc := gr_ob g12 oc
    exact ⟨h, by rw [V13]; first | (simp only [whface, whair, whfits, whlies, whday, whgot, whon, whwalker, whroad, trN, trOK, dc_T, dc_F, not_false_eq_true, not_true_eq_false, and_true, true_and, and_false, false_and, and_self, true_or, or_true, false_or, or_false, or_self, Nc8]; done)⟩
  · intro c14
    have h := h.2 c14
    have Nc14 := an1 q7 c14
    refine cm_X11_in (sp_X11_in h) h (fun x15 S16 hp h g17 b18 => ?_)
    have h := h g17 b18
    obtain ⟨-, hS, q19⟩ := hp
    subst hS
    refine ⟨?_, ?_⟩
    · intro c20
      have h := h.1 c20
      have Nc20 := an1 q19 c20
      refine ⟨?_, ?_, ?_, ?_, ?_, ?_, ?_⟩
      · intro c21
        have h := h.1 c21
        obtain ⟨a22, ea22, h⟩ := h
        refine ⟨a22, ea22, ?_⟩
        obtain ⟨o23, h⟩ := h
        refine ⟨o23, ?_⟩
        obtain ⟨a24, ea24, h⟩ := h
        refine ⟨a24, ea24, ?_⟩
        obtain ⟨o25, h⟩ := h
        refine ⟨o25, ?_⟩
        obtain ⟨o26, h⟩ := h
        refine ⟨o26, ?_⟩
        intro x27 ex27
        have h := h x27 ex27
        refine cm_X11_good (tq_X11_good h) h (fun x28 S29 hp h g30 => ?_)
        have h := h g30
        have V31 := hp.2
        have oc := gr_ob g30 oc
        exact ⟨h, by rw [V31]; first | (simp only [whface, whair, whfits, whlies, whday, whgot, whon, whwalker, whroad, trN, trOK, dc_T, dc_F, not_false_eq_true, not_true_eq_false, and_true, true_and, and_false, false_and, and_self, true_or, or_true, false_or, or_false, or_self, Nc14, Nc20, c21]; done) | exact absurd c21 (by decide)⟩
      · intro c32
        have h := h.2.1 c32
        obtain ⟨a33, ea33, h⟩ := h
        refine ⟨a33, ea33, ?_⟩
        obtain ⟨o34, h⟩ := h
        refine ⟨o34, ?_⟩
        obtain ⟨a35, ea35, h⟩ := h
        refine ⟨a35, ea35, ?_⟩
        obtain ⟨o36, h⟩ := h
        refine ⟨o36, ?_⟩
        obtain ⟨o37, h⟩ := h
        refine ⟨o37, ?_⟩
        intro x38 ex38
        have h := h x38 ex38
        refine cm_X11_good (tq_X11_good h) h (fun x39 S40 hp h g41 => ?_)
        have h := h g41
        have V42 := hp.2
        have oc := gr_ob g41 oc
        exact ⟨h, by rw [V42]; first | (simp only [whface, whair, whfits, whlies, whday, whgot, whon, whwalker, whroad, trN, trOK, dc_T, dc_F, not_false_eq_true, not_true_eq_false, and_true, true_and, and_false, false_and, and_self, true_or, or_true, false_or, or_false, or_self, Nc14, Nc20, c32]; done) | exact absurd c32 (by decide)⟩
      · intro c43
        have h := h.2.2.1 c43
        obtain ⟨a44, ea44, h⟩ := h
        refine ⟨a44, ea44, ?_⟩
        obtain ⟨o45, h⟩ := h
        refine ⟨o45, ?_⟩
        obtain ⟨a46, ea46, h⟩ := h
        refine ⟨a46, ea46, ?_⟩
        obtain ⟨o47, h⟩ := h
        refine ⟨o47, ?_⟩
        obtain ⟨o48, h⟩ := h
        refine ⟨o48, ?_⟩
        intro x49 ex49
        have h := h x49 ex49
        refine cm_X11_good (tq_X11_good h) h (fun x50 S51 hp h g52 => ?_)
        have h := h g52
        have V53 := hp.2
        have oc := gr_ob g52 oc
        exact ⟨h, by rw [V53]; first | (simp only [whface, whair, whfits, whlies, whday, whgot, whon, whwalker, whroad, trN, trOK, dc_T, dc_F, not_false_eq_true, not_true_eq_false, and_true, true_and, and_false, false_and, and_self, true_or, or_true, false_or, or_false, or_self, Nc14, Nc20, c43]; done) | exact absurd c43 (by decide)⟩
      · intro c54
        have h := h.2.2.2.1 c54
        obtain ⟨a55, ea55, h⟩ := h
        refine ⟨a55, ea55, ?_⟩
        obtain ⟨o56, h⟩ := h
        refine ⟨o56, ?_⟩
        obtain ⟨a57, ea57, h⟩ := h
        refine ⟨a57, ea57, ?_⟩
        obtain ⟨o58, h⟩ := h
        refine ⟨o58, ?_⟩
        obtain ⟨o59, h⟩ := h
        refine ⟨o59, ?_⟩
        intro x60 ex60
        have h := h x60 ex60
        refine cm_X11_good (tq_X11_good h) h (fun x61 S62 hp h g63 => ?_)
        have h := h g63
        have V64 := hp.2
        have oc := gr_ob g63 oc
        exact ⟨h, by rw [V64]; first | (simp only [whface, whair, whfits, whlies, whday, whgot, whon, whwalker, whroad, trN, trOK, dc_T, dc_F, not_false_eq_true, not_true_eq_false, and_true, true_and, and_false, false_and, and_self, true_or, or_true, false_or, or_false, or_self, Nc14, Nc20, c54]; done) | exact absurd c54 (by decide)⟩
      · intro c65
        have h := h.2.2.2.2.1 c65
        obtain ⟨a66, ea66, h⟩ := h
        refine ⟨a66, ea66, ?_⟩
        obtain ⟨o67, h⟩ := h
        refine ⟨o67, ?_⟩
        obtain ⟨a68, ea68, h⟩ := h
        refine ⟨a68, ea68, ?_⟩
        obtain ⟨o69, h⟩ := h
        refine ⟨o69, ?_⟩
        obtain ⟨o70, h⟩ := h
        refine ⟨o70, ?_⟩
        intro x71 ex71
        have h := h x71 ex71
        refine cm_X11_good (tq_X11_good h) h (fun x72 S73 hp h g74 => ?_)
        have h := h g74
        have V75 := hp.2
        have oc := gr_ob g74 oc
        exact ⟨h, by rw [V75]; first | (simp only [whface, whair, whfits, whlies, whday, whgot, whon, whwalker, whroad, trN, trOK, dc_T, dc_F, not_false_eq_true, not_true_eq_false, and_true, true_and, and_false, false_and, and_self, true_or, or_true, false_or, or_false, or_self, Nc14, Nc20, c65]; done) | exact absurd c65 (by decide)⟩
      · intro c76
        have h := h.2.2.2.2.2.1 c76
        obtain ⟨a77, ea77, h⟩ := h
        refine ⟨a77, ea77, ?_⟩
        obtain ⟨o78, h⟩ := h
        refine ⟨o78, ?_⟩
        obtain ⟨a79, ea79, h⟩ := h
        refine ⟨a79, ea79, ?_⟩
        obtain ⟨o80, h⟩ := h
        refine ⟨o80, ?_⟩
        obtain ⟨o81, h⟩ := h
        refine ⟨o81, ?_⟩
        intro x82 ex82
        have h := h x82 ex82
        refine cm_X11_good (tq_X11_good h) h (fun x83 S84 hp h g85 => ?_)
        have h := h g85
        have V86 := hp.2
        have oc := gr_ob g85 oc
        exact ⟨h, by rw [V86]; first | (simp only [whface, whair, whfits, whlies, whday, whgot, whon, whwalker, whroad, trN, trOK, dc_T, dc_F, not_false_eq_true, not_true_eq_false, and_true, true_and, and_false, false_and, and_self, true_or, or_true, false_or, or_false, or_self, Nc14, Nc20, c76]; done) | exact absurd c76 (by decide)⟩
      · intro c87
        have h := h.2.2.2.2.2.2 c87
        obtain ⟨a88, ea88, h⟩ := h
        refine ⟨a88, ea88, ?_⟩
        obtain ⟨o89, h⟩ := h
        refine ⟨o89, ?_⟩
        obtain ⟨a90, ea90, h⟩ := h
        refine ⟨a90, ea90, ?_⟩
        obtain ⟨o91, h⟩ := h
        refine ⟨o91, ?_⟩
        obtain ⟨o92, h⟩ := h
        refine ⟨o92, ?_⟩
        intro x93 ex93
        have h := h x93 ex93
        refine cm_X11_good (tq_X11_good h) h (fun x94 S95 hp h g96 => ?_)
        have h := h g96
        have V97 := hp.2
        have oc := gr_ob g96 oc
        exact ⟨h, by rw [V97]; first | (simp only [whface, whair, whfits, whlies, whday, whgot, whon, whwalker, whroad, trN, trOK, dc_T, dc_F, not_false_eq_true, not_true_eq_false, and_true, true_and, and_false, false_and, and_self, true_or, or_true, false_or, or_false, or_self, Nc14, Nc20, c87]; done) | exact absurd c87 (by decide)⟩
    · intro c98
      have h := h.2 c98
      have Nc98 := Classical.not_not.mp (an0 q19 c98)
      delta P_X11_walker_23
      obtain ⟨o99, h⟩ := h
      refine ⟨o99, ?_⟩
      refine cm_X11_refused (tq_X11_refused h) h (fun x100 S101 hp h g102 => ?_)
      have h := h g102
      have V103 := hp.2
      have oc := gr_ob g102 oc
      exact ⟨h, by rw [V103]; first | (simp only [whface, whair, whfits, whlies, whday, whgot, whon, whwalker, whroad, trN, trOK, dc_T, dc_F, not_false_eq_true, not_true_eq_false, and_true, true_and, and_false, false_and, and_self, true_or, or_true, false_or, or_false, or_self, Nc14, Nc98]; done)⟩

set_option maxHeartbeats 1000000 in
theorem tq_X9_road {A : AS} {G : GC} {D : DY} {v0 : Nat} {v1 : Int32} {v2 : Int32} {Q : Int32 → HS → Prop} {S : HS} (hI : IV S) (oc : ob S v0 9) {rr w1 w2 : Nat} (J : CJ v0 rr w1 w2 S) (hc : Cnt w1 A S) (ct : CtB w1 A G S S) (ab : ABd A) (gb : GBd A G) (ge : GBe A G) {lgo b0 b1 : Nat} (lg : LG v0 lgo b0 b1 S) {dy : Nat} (e6 : fR S v0 6 = some dy) (cd : CDd dy D S) (db : DBd A D) (wd : WYd v0 A G S) (h : P_X9_road v0 v1 v2 Q S) : P_X9_road v0 v1 v2 (fun r T => Q r T ∧ fI T v0 9 = whroad A v1 v2) S := by
  delta P_X9_road P_X9_road_0
  have h8 := wt_of hI J hc ct ab
  obtain ⟨o1, h⟩ := h
  refine ⟨o1, ?_⟩
  obtain ⟨a2, ea2, h⟩ := h
  cases J.1.symm.trans ea2
  refine ⟨_, ea2, ?_⟩
  obtain ⟨o3, h⟩ := h
  refine ⟨o3, ?_⟩
  refine cm_X8_hasRoad (sw_X8_hasRoad h8 ab h) h (fun x4 S5 hp h g6 b7 => ?_)
  have h := h g6 b7
  obtain ⟨-, hS, q8⟩ := hp
  subst hS
  refine ⟨?_, ?_⟩
  · intro c9
    have h := h.1 c9
    have Nc9 := an0 q8 c9
    delta P_X9_road_20
    obtain ⟨o10, h⟩ := h
    refine ⟨o10, ?_⟩
    refine cm_X9_refuse (tq_X9_refuse h) h (fun x11 S12 hp h g13 => ?_)
    have h := h g13
    have V14 := hp.2
    have oc := gr_ob g13 oc
    exact ⟨h, by rw [V14]; first | (simp only [whface, whair, whfits, whlies, whday, whgot, whon, whwalker, whroad, trN, trOK, dc_T, dc_F, not_false_eq_true, not_true_eq_false, and_true, true_and, and_false, false_and, and_self, true_or, or_true, false_or, or_false, or_self, Nc9]; done)⟩
  · intro c15
    have h := h.2 c15
    have Nc15 := an1 q8 c15
    refine ⟨?_, ?_⟩
    · intro c16
      have h := h.1 c16
      delta P_X9_road_20
      obtain ⟨o17, h⟩ := h
      refine ⟨o17, ?_⟩
      refine cm_X9_refuse (tq_X9_refuse h) h (fun x18 S19 hp h g20 => ?_)
      have h := h g20
      have V21 := hp.2
      have oc := gr_ob g20 oc
      exact ⟨h, by rw [V21]; first | (simp only [whface, whair, whfits, whlies, whday, whgot, whon, whwalker, whroad, trN, trOK, dc_T, dc_F, not_false_eq_true, not_true_eq_false, and_true, true_and, and_false, false_and, and_self, true_or, or_true, false_or, or_false, or_self, Nc15, c16]; done) | exact absurd c16 (by decide)⟩
    · intro c22
      have h := h.2 c22
      refine ⟨?_, ?_⟩
      · intro c23
        have h := h.1 c23
        have Mc23 := Int32.not_lt.mpr c23
        obtain ⟨a24, ea24, h⟩ := h
        cases J.1.symm.trans ea24
        refine ⟨_, ea24, ?_⟩
        obtain ⟨o25, h⟩ := h
        refine ⟨o25, ?_⟩
        obtain ⟨a26, ea26, h⟩ := h
        refine ⟨a26, ea26, ?_⟩
        obtain ⟨o27, h⟩ := h
        refine ⟨o27, ?_⟩
        obtain ⟨o28, h⟩ := h
        refine ⟨o28, ?_⟩
        obtain ⟨a29, ea29, h⟩ := h
        refine ⟨a29, ea29, ?_⟩
        obtain ⟨o30, h⟩ := h
        refine ⟨o30, ?_⟩
        refine cm_X5_tell (kq_X5_tell h) h (fun x31 S32 hp h g33 => ?_)
        have h := h g33
        have oc := gr_ob g33 oc
        refine cm_X9_grant (tq_X9_grant h) h (fun x34 S35 hp h g36 => ?_)
        have h := h g36
        have V37 := hp.2
        have oc := gr_ob g36 oc
        exact ⟨h, by rw [V37]; first | (simp only [whface, whair, whfits, whlies, whday, whgot, whon, whwalker, whroad, trN, trOK, dc_T, dc_F, not_false_eq_true, not_true_eq_false, and_true, true_and, and_false, false_and, and_self, true_or, or_true, false_or, or_false, or_self, Nc15, c22, c23, Mc23]; done) | exact absurd c22 (by decide) | exact absurd c23 (by decide)⟩
      · intro c38
        have h := h.2 c38
        have Mc38 := Int32.not_le.mp c38
        delta P_X9_road_20
        obtain ⟨o39, h⟩ := h
        refine ⟨o39, ?_⟩
        refine cm_X9_refuse (tq_X9_refuse h) h (fun x40 S41 hp h g42 => ?_)
        have h := h g42
        have V43 := hp.2
        have oc := gr_ob g42 oc
        exact ⟨h, by rw [V43]; first | (simp only [whface, whair, whfits, whlies, whday, whgot, whon, whwalker, whroad, trN, trOK, dc_T, dc_F, not_false_eq_true, not_true_eq_false, and_true, true_and, and_false, false_and, and_self, true_or, or_true, false_or, or_false, or_self, Nc15, c22, c38, Mc38]; done) | exact absurd c22 (by decide) | exact absurd c38 (by decide)⟩

set_option maxHeartbeats 1000000 in
theorem tq_X11_road {A : AS} {G : GC} {D : DY} {v0 : Nat} {v1 : Int32} {v2 : Int32} {Q : Int32 → HS → Prop} {S : HS} (hI : IV S) (oc : ob S v0 11) (hm : HM v0 A G S) (ab : ABd A) (gb : GBd A G) (ge : GBe A G) (md : MDd v0 D S) (db : DBd A D) (h : P_X11_road v0 v1 v2 Q S) : P_X11_road v0 v1 v2 (fun r T => Q r T ∧ fI T v0 1 = whroad A v1 v2) S := by
  delta P_X11_road P_X11_road_0
  have oc0 := oc
  obtain ⟨o1, h⟩ := h
  refine ⟨o1, ?_⟩
  intro S2 eS2
  have h := h S2 eS2
  have hE := m_start hI eS2
  have hm := hm_0 hm oc eS2
  have md := md_I md eS2 (by decide) (by decide) (by decide) (by decide)
  have oc := ob_wI oc eS2
  refine cm_X11_isRoad (sq_X11_isRoad hm h) h (fun x3 S4 hp h g5 b6 => ?_)
  have h := h g5 b6
  obtain ⟨-, hS, q7⟩ := hp
  subst hS
  refine ⟨?_, ?_⟩
  · intro c8
    have h := h.1 c8
    have Nc8 := an0 q7 c8
    delta P_X11_road_22
    obtain ⟨o9, h⟩ := h
    refine ⟨o9, ?_⟩
    refine cm_X11_refused (tq_X11_refused h) h (fun x10 S11 hp h g12 => ?_)
    have h := h g12
    have V13 := hp.2
    have oc := gr_ob g12 oc
    exact ⟨h, by rw [V13]; first | (simp only [whface, whair, whfits, whlies, whday, whgot, whon, whwalker, whroad, trN, trOK, dc_T, dc_F, not_false_eq_true, not_true_eq_false, and_true, true_and, and_false, false_and, and_self, true_or, or_true, false_or, or_false, or_self, Nc8]; done)⟩
  · intro c14
    have h := h.2 c14
    have Nc14 := an1 q7 c14
    refine cm_X11_in (sp_X11_in h) h (fun x15 S16 hp h g17 b18 => ?_)
    have h := h g17 b18
    obtain ⟨-, hS, q19⟩ := hp
    subst hS
    refine ⟨?_, ?_⟩
    · intro c20
      have h := h.1 c20
      have Nc20 := an1 q19 c20
      refine ⟨?_, ?_, ?_, ?_, ?_⟩
      · intro c21
        have h := h.1 c21
        obtain ⟨a22, ea22, h⟩ := h
        refine ⟨a22, ea22, ?_⟩
        obtain ⟨o23, h⟩ := h
        refine ⟨o23, ?_⟩
        obtain ⟨a24, ea24, h⟩ := h
        refine ⟨a24, ea24, ?_⟩
        obtain ⟨o25, h⟩ := h
        refine ⟨o25, ?_⟩
        obtain ⟨o26, h⟩ := h
        refine ⟨o26, ?_⟩
        intro x27 ex27
        have h := h x27 ex27
        refine cm_X11_good (tq_X11_good h) h (fun x28 S29 hp h g30 => ?_)
        have h := h g30
        have V31 := hp.2
        have oc := gr_ob g30 oc
        exact ⟨h, by rw [V31]; first | (simp only [whface, whair, whfits, whlies, whday, whgot, whon, whwalker, whroad, trN, trOK, dc_T, dc_F, not_false_eq_true, not_true_eq_false, and_true, true_and, and_false, false_and, and_self, true_or, or_true, false_or, or_false, or_self, Nc14, Nc20, c21]; done) | exact absurd c21 (by decide)⟩
      · intro c32
        have h := h.2.1 c32
        obtain ⟨a33, ea33, h⟩ := h
        refine ⟨a33, ea33, ?_⟩
        obtain ⟨o34, h⟩ := h
        refine ⟨o34, ?_⟩
        obtain ⟨a35, ea35, h⟩ := h
        refine ⟨a35, ea35, ?_⟩
        obtain ⟨o36, h⟩ := h
        refine ⟨o36, ?_⟩
        obtain ⟨o37, h⟩ := h
        refine ⟨o37, ?_⟩
        intro x38 ex38
        have h := h x38 ex38
        refine cm_X11_good (tq_X11_good h) h (fun x39 S40 hp h g41 => ?_)
        have h := h g41
        have V42 := hp.2
        have oc := gr_ob g41 oc
        exact ⟨h, by rw [V42]; first | (simp only [whface, whair, whfits, whlies, whday, whgot, whon, whwalker, whroad, trN, trOK, dc_T, dc_F, not_false_eq_true, not_true_eq_false, and_true, true_and, and_false, false_and, and_self, true_or, or_true, false_or, or_false, or_self, Nc14, Nc20, c32]; done) | exact absurd c32 (by decide)⟩
      · intro c43
        have h := h.2.2.1 c43
        obtain ⟨a44, ea44, h⟩ := h
        refine ⟨a44, ea44, ?_⟩
        obtain ⟨o45, h⟩ := h
        refine ⟨o45, ?_⟩
        obtain ⟨a46, ea46, h⟩ := h
        refine ⟨a46, ea46, ?_⟩
        obtain ⟨o47, h⟩ := h
        refine ⟨o47, ?_⟩
        obtain ⟨o48, h⟩ := h
        refine ⟨o48, ?_⟩
        intro x49 ex49
        have h := h x49 ex49
        refine cm_X11_good (tq_X11_good h) h (fun x50 S51 hp h g52 => ?_)
        have h := h g52
        have V53 := hp.2
        have oc := gr_ob g52 oc
        exact ⟨h, by rw [V53]; first | (simp only [whface, whair, whfits, whlies, whday, whgot, whon, whwalker, whroad, trN, trOK, dc_T, dc_F, not_false_eq_true, not_true_eq_false, and_true, true_and, and_false, false_and, and_self, true_or, or_true, false_or, or_false, or_self, Nc14, Nc20, c43]; done) | exact absurd c43 (by decide)⟩
      · intro c54
        have h := h.2.2.2.1 c54
        obtain ⟨a55, ea55, h⟩ := h
        refine ⟨a55, ea55, ?_⟩
        obtain ⟨o56, h⟩ := h
        refine ⟨o56, ?_⟩
        obtain ⟨a57, ea57, h⟩ := h
        refine ⟨a57, ea57, ?_⟩
        obtain ⟨o58, h⟩ := h
        refine ⟨o58, ?_⟩
        obtain ⟨o59, h⟩ := h
        refine ⟨o59, ?_⟩
        intro x60 ex60
        have h := h x60 ex60
        refine cm_X11_good (tq_X11_good h) h (fun x61 S62 hp h g63 => ?_)
        have h := h g63
        have V64 := hp.2
        have oc := gr_ob g63 oc
        exact ⟨h, by rw [V64]; first | (simp only [whface, whair, whfits, whlies, whday, whgot, whon, whwalker, whroad, trN, trOK, dc_T, dc_F, not_false_eq_true, not_true_eq_false, and_true, true_and, and_false, false_and, and_self, true_or, or_true, false_or, or_false, or_self, Nc14, Nc20, c54]; done) | exact absurd c54 (by decide)⟩
      · intro c65
        have h := h.2.2.2.2 c65
        obtain ⟨a66, ea66, h⟩ := h
        refine ⟨a66, ea66, ?_⟩
        obtain ⟨o67, h⟩ := h
        refine ⟨o67, ?_⟩
        obtain ⟨a68, ea68, h⟩ := h
        refine ⟨a68, ea68, ?_⟩
        obtain ⟨o69, h⟩ := h
        refine ⟨o69, ?_⟩
        obtain ⟨o70, h⟩ := h
        refine ⟨o70, ?_⟩
        intro x71 ex71
        have h := h x71 ex71
        refine cm_X11_good (tq_X11_good h) h (fun x72 S73 hp h g74 => ?_)
        have h := h g74
        have V75 := hp.2
        have oc := gr_ob g74 oc
        exact ⟨h, by rw [V75]; first | (simp only [whface, whair, whfits, whlies, whday, whgot, whon, whwalker, whroad, trN, trOK, dc_T, dc_F, not_false_eq_true, not_true_eq_false, and_true, true_and, and_false, false_and, and_self, true_or, or_true, false_or, or_false, or_self, Nc14, Nc20, c65]; done) | exact absurd c65 (by decide)⟩
    · intro c76
      have h := h.2 c76
      have Nc76 := Classical.not_not.mp (an0 q19 c76)
      delta P_X11_road_22
      obtain ⟨o77, h⟩ := h
      refine ⟨o77, ?_⟩
      refine cm_X11_refused (tq_X11_refused h) h (fun x78 S79 hp h g80 => ?_)
      have h := h g80
      have V81 := hp.2
      have oc := gr_ob g80 oc
      exact ⟨h, by rw [V81]; first | (simp only [whface, whair, whfits, whlies, whday, whgot, whon, whwalker, whroad, trN, trOK, dc_T, dc_F, not_false_eq_true, not_true_eq_false, and_true, true_and, and_false, false_and, and_self, true_or, or_true, false_or, or_false, or_self, Nc14, Nc76]; done)⟩
end
section
set_option maxHeartbeats 1000000 in
theorem tqL_X9_driest_63 {E : Int32} (h0 : (0 : Int32) = E) {Q : Int32 → HS → Prop} {v0 : Nat} {v1 : Int32} {v2 : Int32} {v3 : Int32} {v4 : Int32} {v5 : Int64} {v7 : Int32} {S : HS} (oc : ob S v0 9) (h : P_X9_driest_63 Q v0 v1 v2 v3 v4 v5 v7 S) : P_X9_driest_63 (fun r T => Q r T ∧ fI T v0 9 = E) v0 v1 v2 v3 v4 v5 v7 S := by
  intro X hX
  refine h (fun u0 v1_ v2_ v3_ v4_ v5_ v7_ T => (v0 = u0 ∧ ob T v0 9) → X u0 v1_ v2_ v3_ v4_ v5_ v7_ T) ?_ ⟨rfl, oc⟩
  rintro u0 v1_ v2_ v3_ v4_ v5_ v7_ T h ⟨rfl, oc⟩
  apply hX
  obtain ⟨o1, h⟩ := h
  refine ⟨o1, ?_⟩
  obtain ⟨a2, ea2, h⟩ := h
  refine ⟨a2, ea2, ?_⟩
  obtain ⟨o3, h⟩ := h
  refine ⟨o3, ?_⟩
  intro x4 ex4
  have h := h x4 ex4
  refine ⟨?_, ?_⟩
  · intro c5
    have h := h.1 c5
    refine cm_X9_grant (tq_X9_grant h) h (fun x6 S7 hp h g8 => ?_)
    have h := h g8
    have V9 := hp.2
    have oc := gr_ob g8 oc
    exact ⟨h, V9.trans h0⟩
  · intro c10
    have h := h.2 c10
    obtain ⟨a11, ea11, h⟩ := h
    refine ⟨a11, ea11, ?_⟩
    obtain ⟨o12, h⟩ := h
    refine ⟨o12, ?_⟩
    obtain ⟨a13, ea13, h⟩ := h
    refine ⟨a13, ea13, ?_⟩
    obtain ⟨o14, h⟩ := h
    refine ⟨o14, ?_⟩
    obtain ⟨o15, h⟩ := h
    refine ⟨o15, ?_⟩
    obtain ⟨a16, ea16, h⟩ := h
    refine ⟨a16, ea16, ?_⟩
    obtain ⟨a17, ea17, h⟩ := h
    refine ⟨a17, ea17, ?_⟩
    obtain ⟨a18, ea18, h⟩ := h
    refine ⟨a18, ea18, ?_⟩
    obtain ⟨o19, h⟩ := h
    refine ⟨o19, ?_⟩
    obtain ⟨a20, ea20, h⟩ := h
    refine ⟨a20, ea20, ?_⟩
    obtain ⟨o21, h⟩ := h
    refine ⟨o21, ?_⟩
    obtain ⟨o22, h⟩ := h
    refine ⟨o22, ?_⟩
    obtain ⟨a23, ea23, h⟩ := h
    refine ⟨a23, ea23, ?_⟩
    obtain ⟨a24, ea24, h⟩ := h
    refine ⟨a24, ea24, ?_⟩
    obtain ⟨o25, h⟩ := h
    refine ⟨o25, ?_⟩
    obtain ⟨a26, ea26, h⟩ := h
    refine ⟨a26, ea26, ?_⟩
    obtain ⟨o27, h⟩ := h
    refine ⟨o27, ?_⟩
    obtain ⟨o28, h⟩ := h
    refine ⟨o28, ?_⟩
    obtain ⟨a29, ea29, h⟩ := h
    refine ⟨a29, ea29, ?_⟩
    obtain ⟨o30, h⟩ := h
    refine ⟨o30, ?_⟩
    refine cm_X1_leastWet (kq_X1_leastWet h) h (fun x31 S32 hp h g33 => ?_)
    have h := h g33
    have oc := gr_ob g33 oc
    obtain ⟨o34, h⟩ := h
    refine ⟨o34, ?_⟩
    intro x35 ex35
    have h := h x35 ex35
    intro x36 ex36
    have h := h x36 ex36
    refine ⟨?_, ?_⟩
    · intro c37
      have h := h.1 c37
      delta P_X9_driest_140
      intro x38 ex38
      have h := h x38 ex38
      exact h ⟨rfl, oc⟩
    · intro c39
      have h := h.2 c39
      delta P_X9_driest_140
      intro x40 ex40
      have h := h x40 ex40
      exact h ⟨rfl, oc⟩

set_option maxHeartbeats 1000000 in
theorem tqL_X9_go_243 {E : Int32} (h0 : (0 : Int32) = E) {Q : Int32 → HS → Prop} {v0 : Nat} {v2 : Int32} {v5 : Nat} {v6 : Int32} {S : HS} (oc : ob S v0 9) (h : P_X9_go_243 Q v0 v2 v5 v6 S) : P_X9_go_243 (fun r T => Q r T ∧ fI T v0 9 = E) v0 v2 v5 v6 S := by
  delta P_X9_go_243
  obtain ⟨o1, h⟩ := h
  refine ⟨o1, ?_⟩
  obtain ⟨a2, ea2, h⟩ := h
  refine ⟨a2, ea2, ?_⟩
  obtain ⟨o3, h⟩ := h
  refine ⟨o3, ?_⟩
  obtain ⟨a4, ea4, h⟩ := h
  refine ⟨a4, ea4, ?_⟩
  obtain ⟨o5, h⟩ := h
  refine ⟨o5, ?_⟩
  refine cm_X5_endOf (kq_X5_endOf h) h (fun x6 S7 hp h g8 => ?_)
  have h := h g8
  have oc := gr_ob g8 oc
  obtain ⟨o9, h⟩ := h
  refine ⟨o9, ?_⟩
  intro S10 eS10
  have h := h S10 eS10
  have oc := ob_wI oc eS10
  obtain ⟨a11, ea11, h⟩ := h
  refine ⟨a11, ea11, ?_⟩
  obtain ⟨o12, h⟩ := h
  refine ⟨o12, ?_⟩
  obtain ⟨a13, ea13, h⟩ := h
  refine ⟨a13, ea13, ?_⟩
  obtain ⟨o14, h⟩ := h
  refine ⟨o14, ?_⟩
  intro S15 eS15
  have h := h S15 eS15
  have oc := ob_wI oc eS15
  refine cm_X9_grant (tq_X9_grant h) h (fun x16 S17 hp h g18 => ?_)
  have h := h g18
  have V19 := hp.2
  have oc := gr_ob g18 oc
  exact ⟨h, V19.trans h0⟩

set_option maxHeartbeats 1000000 in
theorem tqL_X11_go_119 {E : Int32} (h0 : (0 : Int32) = E) {Q : Int32 → HS → Prop} {v0 : Nat} {v1 : Int32} {v2 : Int32} {v3 : Int32} {v4 : Int32} {v5 : Int32} {S : HS} (oc : ob S v0 11) (h : P_X11_go_119 Q v0 v1 v2 v3 v4 v5 S) : P_X11_go_119 (fun r T => Q r T ∧ fI T v0 1 = E) v0 v1 v2 v3 v4 v5 S := by
  intro X hX
  refine h (fun u0 v1_ v2_ v3_ v4_ v5_ T => (v0 = u0 ∧ ob T v0 11) → X u0 v1_ v2_ v3_ v4_ v5_ T) ?_ ⟨rfl, oc⟩
  rintro u0 v1_ v2_ v3_ v4_ v5_ T h ⟨rfl, oc⟩
  apply hX
  refine ⟨?_, ?_⟩
  · intro c1
    have h := h.1 c1
    delta P_X11_go_171
    obtain ⟨o2, h⟩ := h
    refine ⟨o2, ?_⟩
    obtain ⟨a3, ea3, h⟩ := h
    refine ⟨a3, ea3, ?_⟩
    obtain ⟨a4, ea4, h⟩ := h
    refine ⟨a4, ea4, ?_⟩
    obtain ⟨o5, h⟩ := h
    refine ⟨o5, ?_⟩
    refine cm_X10_ends (kq_X10_ends h) h (fun x6 S7 hp h g8 => ?_)
    have h := h g8
    have oc := gr_ob g8 oc
    obtain ⟨o9, h⟩ := h
    refine ⟨o9, ?_⟩
    intro x10 ex10
    have h := h x10 ex10
    obtain ⟨o11, h⟩ := h
    refine ⟨o11, ?_⟩
    intro S12 eS12
    have h := h S12 eS12
    have oc := ob_wJ oc eS12
    obtain ⟨a13, ea13, h⟩ := h
    refine ⟨a13, ea13, ?_⟩
    obtain ⟨a14, ea14, h⟩ := h
    refine ⟨a14, ea14, ?_⟩
    obtain ⟨o15, h⟩ := h
    refine ⟨o15, ?_⟩
    refine cm_X10_minutes (kq_X10_minutes h) h (fun x16 S17 hp h g18 => ?_)
    have h := h g18
    have oc := gr_ob g18 oc
    obtain ⟨o19, h⟩ := h
    refine ⟨o19, ?_⟩
    intro x20 ex20
    have h := h x20 ex20
    obtain ⟨o21, h⟩ := h
    refine ⟨o21, ?_⟩
    intro S22 eS22
    have h := h S22 eS22
    have oc := ob_wJ oc eS22
    obtain ⟨a23, ea23, h⟩ := h
    refine ⟨a23, ea23, ?_⟩
    obtain ⟨o24, h⟩ := h
    refine ⟨o24, ?_⟩
    obtain ⟨o25, h⟩ := h
    refine ⟨o25, ?_⟩
    intro x26 ex26
    have h := h x26 ex26
    refine cm_X11_good (tq_X11_good h) h (fun x27 S28 hp h g29 => ?_)
    have h := h g29
    have V30 := hp.2
    have oc := gr_ob g29 oc
    exact ⟨h, V30.trans h0⟩
  · intro c31
    have h := h.2 c31
    obtain ⟨o32, h⟩ := h
    refine ⟨o32, ?_⟩
    refine cm_X11_rainsIn (kq_X11_rainsIn h) h (fun x33 S34 hp h g35 b36 => ?_)
    have h := h g35 b36
    have oc := gr_ob g35 oc
    refine ⟨?_, ?_⟩
    · intro c37
      have h := h.1 c37
      delta P_X11_go_171
      obtain ⟨o38, h⟩ := h
      refine ⟨o38, ?_⟩
      obtain ⟨a39, ea39, h⟩ := h
      refine ⟨a39, ea39, ?_⟩
      obtain ⟨a40, ea40, h⟩ := h
      refine ⟨a40, ea40, ?_⟩
      obtain ⟨o41, h⟩ := h
      refine ⟨o41, ?_⟩
      refine cm_X10_ends (kq_X10_ends h) h (fun x42 S43 hp h g44 => ?_)
      have h := h g44
      have oc := gr_ob g44 oc
      obtain ⟨o45, h⟩ := h
      refine ⟨o45, ?_⟩
      intro x46 ex46
      have h := h x46 ex46
      obtain ⟨o47, h⟩ := h
      refine ⟨o47, ?_⟩
      intro S48 eS48
      have h := h S48 eS48
      have oc := ob_wJ oc eS48
      obtain ⟨a49, ea49, h⟩ := h
      refine ⟨a49, ea49, ?_⟩
      obtain ⟨a50, ea50, h⟩ := h
      refine ⟨a50, ea50, ?_⟩
      obtain ⟨o51, h⟩ := h
      refine ⟨o51, ?_⟩
      refine cm_X10_minutes (kq_X10_minutes h) h (fun x52 S53 hp h g54 => ?_)
      have h := h g54
      have oc := gr_ob g54 oc
      obtain ⟨o55, h⟩ := h
      refine ⟨o55, ?_⟩
      intro x56 ex56
      have h := h x56 ex56
      obtain ⟨o57, h⟩ := h
      refine ⟨o57, ?_⟩
      intro S58 eS58
      have h := h S58 eS58
      have oc := ob_wJ oc eS58
      obtain ⟨a59, ea59, h⟩ := h
      refine ⟨a59, ea59, ?_⟩
      obtain ⟨o60, h⟩ := h
      refine ⟨o60, ?_⟩
      obtain ⟨o61, h⟩ := h
      refine ⟨o61, ?_⟩
      intro x62 ex62
      have h := h x62 ex62
      refine cm_X11_good (tq_X11_good h) h (fun x63 S64 hp h g65 => ?_)
      have h := h g65
      have V66 := hp.2
      have oc := gr_ob g65 oc
      exact ⟨h, V66.trans h0⟩
    · intro c67
      have h := h.2 c67
      obtain ⟨a68, ea68, h⟩ := h
      refine ⟨a68, ea68, ?_⟩
      obtain ⟨o69, h⟩ := h
      refine ⟨o69, ?_⟩
      intro x70 ex70
      have h := h x70 ex70
      obtain ⟨o71, h⟩ := h
      refine ⟨o71, ?_⟩
      intro x72 ex72
      have h := h x72 ex72
      intro x73 ex73
      have h := h x73 ex73
      refine cm_X11_hourOf (kq_X11_hourOf h) h (fun x74 S75 hp h g76 => ?_)
      have h := h g76
      have oc := gr_ob g76 oc
      refine cm_X11_partsOf (kq_X11_partsOf h) h (fun x77 S78 hp h g79 => ?_)
      have h := h g79
      have oc := gr_ob g79 oc
      intro x80 ex80
      have h := h x80 ex80
      obtain ⟨o81, h⟩ := h
      refine ⟨o81, ?_⟩
      intro S82 eS82
      have h := h S82 eS82
      have oc := ob_wJ oc eS82
      intro x83 ex83
      have h := h x83 ex83
      exact h ⟨rfl, oc⟩

set_option maxHeartbeats 1000000 in
theorem tqL_X11_mark_34 {E : Int32} (h0 : (0 : Int32) = E) {Q : Int32 → HS → Prop} {v0 : Nat} {v1 : Int32} {S : HS} (oc : ob S v0 11) (h : P_X11_mark_34 Q v0 v1 S) : P_X11_mark_34 (fun r T => Q r T ∧ fI T v0 1 = E) v0 v1 S := by
  intro X hX
  refine h (fun u0 v1_ T => (v0 = u0 ∧ ob T v0 11) → X u0 v1_ T) ?_ ⟨rfl, oc⟩
  rintro u0 v1_ T h ⟨rfl, oc⟩
  apply hX
  refine ⟨?_, ?_⟩
  · intro c1
    have h := h.1 c1
    obtain ⟨o2, h⟩ := h
    refine ⟨o2, ?_⟩
    intro x3 ex3
    have h := h x3 ex3
    intro x4 ex4
    have h := h x4 ex4
    intro S5 eS5
    have h := h S5 eS5
    have oc := ob_wI oc eS5
    intro x6 ex6
    have h := h x6 ex6
    refine cm_X11_good (tq_X11_good h) h (fun x7 S8 hp h g9 => ?_)
    have h := h g9
    have V10 := hp.2
    have oc := gr_ob g9 oc
    exact ⟨h, V10.trans h0⟩
  · intro c11
    have h := h.2 c11
    obtain ⟨o12, h⟩ := h
    refine ⟨o12, ?_⟩
    obtain ⟨a13, ea13, h⟩ := h
    refine ⟨a13, ea13, ?_⟩
    intro x14 ex14
    have h := h x14 ex14
    obtain ⟨a15, ea15, h⟩ := h
    refine ⟨a15, ea15, ?_⟩
    obtain ⟨o16, h⟩ := h
    refine ⟨o16, ?_⟩
    obtain ⟨o17, h⟩ := h
    refine ⟨o17, ?_⟩
    intro x18 ex18
    have h := h x18 ex18
    obtain ⟨o19, h⟩ := h
    refine ⟨o19, ?_⟩
    obtain ⟨o20, h⟩ := h
    refine ⟨o20, ?_⟩
    intro S21 eS21
    have h := h S21 eS21
    have oc := ob_wJ oc eS21
    intro x22 ex22
    have h := h x22 ex22
    exact h ⟨rfl, oc⟩

set_option maxHeartbeats 1000000 in
theorem tqK_X9_stay_58 {E : Int32} {Q : Int32 → HS → Prop} {v0 : Nat} {v1 : Int32} {v2 : Int64} {v4 : Int32} {S : HS} (oc : ob S v0 9) (V0 : fI S v0 9 = E) (h : P_X9_stay_58 Q v0 v1 v2 v4 S) : P_X9_stay_58 (fun r T => Q r T ∧ fI T v0 9 = E) v0 v1 v2 v4 S := by
  intro X hX
  refine h (fun u0 v1_ v2_ v4_ T => (v0 = u0 ∧ ob T v0 9 ∧ fI T v0 9 = E) → X u0 v1_ v2_ v4_ T) ?_ ⟨rfl, oc, V0⟩
  rintro u0 v1_ v2_ v4_ T h ⟨rfl, oc, V0⟩
  apply hX
  refine ⟨?_, ?_⟩
  · intro c1
    have h := h.1 c1
    exact ⟨h, V0⟩
  · intro c2
    have h := h.2 c2
    obtain ⟨o3, h⟩ := h
    refine ⟨o3, ?_⟩
    obtain ⟨a4, ea4, h⟩ := h
    refine ⟨a4, ea4, ?_⟩
    obtain ⟨a5, ea5, h⟩ := h
    refine ⟨a5, ea5, ?_⟩
    obtain ⟨a6, ea6, h⟩ := h
    refine ⟨a6, ea6, ?_⟩
    obtain ⟨o7, h⟩ := h
    refine ⟨o7, ?_⟩
    obtain ⟨a8, ea8, h⟩ := h
    refine ⟨a8, ea8, ?_⟩
    obtain ⟨o9, h⟩ := h
    refine ⟨o9, ?_⟩
    intro x10 ex10
    have h := h x10 ex10
    obtain ⟨o11, h⟩ := h
    refine ⟨o11, ?_⟩
    refine cm_X8_hourOf (kq_X8_hourOf h) h (fun x12 S13 hp h g14 => ?_)
    have h := h g14
    have V15 := (hp.2.2 (9, 9) (by decide) v0 oc).trans V0
    have oc := gr_ob g14 oc
    obtain ⟨o16, h⟩ := h
    refine ⟨o16, ?_⟩
    refine cm_X0_rainsIn (kq_X0_rainsIn h) h (fun x17 S18 hp h g19 b20 => ?_)
    have h := h g19 b20
    have V21 := (hp.2.2 (9, 9) (by decide) v0 oc).trans V15
    have oc := gr_ob g19 oc
    refine ⟨?_, ?_⟩
    · intro c22
      have h := h.1 c22
      delta P_X9_stay_111
      obtain ⟨o23, h⟩ := h
      refine ⟨o23, ?_⟩
      obtain ⟨a24, ea24, h⟩ := h
      refine ⟨a24, ea24, ?_⟩
      obtain ⟨o25, h⟩ := h
      refine ⟨o25, ?_⟩
      obtain ⟨a26, ea26, h⟩ := h
      refine ⟨a26, ea26, ?_⟩
      obtain ⟨o27, h⟩ := h
      refine ⟨o27, ?_⟩
      intro x28 ex28
      have h := h x28 ex28
      intro x29 ex29
      have h := h x29 ex29
      intro S30 eS30
      have h := h S30 eS30
      have V31 := (congrFun (row_o eS30 (ob_ne oc o27 (by decide))) 9).trans V21
      have oc := ob_wI oc eS30
      intro x32 ex32
      have h := h x32 ex32
      exact h ⟨rfl, oc, V31⟩
    · intro c33
      have h := h.2 c33
      obtain ⟨a34, ea34, h⟩ := h
      refine ⟨a34, ea34, ?_⟩
      obtain ⟨o35, h⟩ := h
      refine ⟨o35, ?_⟩
      obtain ⟨a36, ea36, h⟩ := h
      refine ⟨a36, ea36, ?_⟩
      obtain ⟨o37, h⟩ := h
      refine ⟨o37, ?_⟩
      obtain ⟨a38, ea38, h⟩ := h
      refine ⟨a38, ea38, ?_⟩
      obtain ⟨o39, h⟩ := h
      refine ⟨o39, ?_⟩
      obtain ⟨o40, h⟩ := h
      refine ⟨o40, ?_⟩
      intro x41 ex41
      have h := h x41 ex41
      intro x42 ex42
      have h := h x42 ex42
      obtain ⟨o43, h⟩ := h
      refine ⟨o43, ?_⟩
      intro S44 eS44
      have h := h S44 eS44
      have V45 : fI S44 v0 9 = _ := (congrArg (fun s => fI s v0 9) eS44).trans V21
      have oc := ob_wJ oc eS44
      delta P_X9_stay_111
      obtain ⟨o46, h⟩ := h
      refine ⟨o46, ?_⟩
      obtain ⟨a47, ea47, h⟩ := h
      refine ⟨a47, ea47, ?_⟩
      obtain ⟨o48, h⟩ := h
      refine ⟨o48, ?_⟩
      obtain ⟨a49, ea49, h⟩ := h
      refine ⟨a49, ea49, ?_⟩
      obtain ⟨o50, h⟩ := h
      refine ⟨o50, ?_⟩
      intro x51 ex51
      have h := h x51 ex51
      intro x52 ex52
      have h := h x52 ex52
      intro S53 eS53
      have h := h S53 eS53
      have V54 := (congrFun (row_o eS53 (ob_ne oc o50 (by decide))) 9).trans V45
      have oc := ob_wI oc eS53
      intro x55 ex55
      have h := h x55 ex55
      exact h ⟨rfl, oc, V54⟩

set_option maxHeartbeats 1000000 in
theorem rqL_X11_stay_84 {Q : Int32 → HS → Prop} {v0 : Nat} {v1 : Int32} {v2 : Int32} {v3 : Int32} {S : HS} (oc : ob S v0 11) (h : P_X11_stay_84 Q v0 v1 v2 v3 S) : P_X11_stay_84 (fun r T => Q r T ∧ rbq 0 r (fI T v0 1)) v0 v1 v2 v3 S := by
  intro X hX
  refine h (fun u0 v1_ v2_ v3_ T => (v0 = u0 ∧ ob T v0 11) → X u0 v1_ v2_ v3_ T) ?_ ⟨rfl, oc⟩
  rintro u0 v1_ v2_ v3_ T h ⟨rfl, oc⟩
  apply hX
  refine ⟨?_, ?_⟩
  · intro c1
    have h := h.1 c1
    obtain ⟨o2, h⟩ := h
    refine ⟨o2, ?_⟩
    refine cm_X11_granted (rq_X11_granted h) h (fun x3 S4 hp h g5 b6 => ?_)
    have h := h g5 b6
    have R8 := hp.2.1
    have V7 := hp.2.2
    have oc := gr_ob g5 oc
    obtain ⟨o9, h⟩ := h
    refine ⟨o9, ?_⟩
    exact ⟨h, Or.inl ⟨R8, V7⟩⟩
  · intro c10
    have h := h.2 c10
    obtain ⟨o11, h⟩ := h
    refine ⟨o11, ?_⟩
    obtain ⟨a12, ea12, h⟩ := h
    refine ⟨a12, ea12, ?_⟩
    obtain ⟨o13, h⟩ := h
    refine ⟨o13, ?_⟩
    obtain ⟨a14, ea14, h⟩ := h
    refine ⟨a14, ea14, ?_⟩
    obtain ⟨o15, h⟩ := h
    refine ⟨o15, ?_⟩
    obtain ⟨o16, h⟩ := h
    refine ⟨o16, ?_⟩
    intro x17 ex17
    have h := h x17 ex17
    refine ⟨?_, ?_⟩
    · intro c18
      have h := h.1 c18
      delta P_X11_stay_133
      obtain ⟨o19, h⟩ := h
      refine ⟨o19, ?_⟩
      obtain ⟨a20, ea20, h⟩ := h
      refine ⟨a20, ea20, ?_⟩
      obtain ⟨o21, h⟩ := h
      refine ⟨o21, ?_⟩
      obtain ⟨o22, h⟩ := h
      refine ⟨o22, ?_⟩
      intro x23 ex23
      have h := h x23 ex23
      intro x24 ex24
      have h := h x24 ex24
      obtain ⟨o25, h⟩ := h
      refine ⟨o25, ?_⟩
      intro S26 eS26
      have h := h S26 eS26
      have oc := ob_wJ oc eS26
      intro x27 ex27
      have h := h x27 ex27
      exact h ⟨rfl, oc⟩
    · intro c28
      have h := h.2 c28
      obtain ⟨a29, ea29, h⟩ := h
      refine ⟨a29, ea29, ?_⟩
      obtain ⟨o30, h⟩ := h
      refine ⟨o30, ?_⟩
      obtain ⟨o31, h⟩ := h
      refine ⟨o31, ?_⟩
      intro x32 ex32
      have h := h x32 ex32
      refine cm_X11_rainsIn (kq_X11_rainsIn h) h (fun x33 S34 hp h g35 b36 => ?_)
      have h := h g35 b36
      have oc := gr_ob g35 oc
      refine ⟨?_, ?_⟩
      · intro c37
        have h := h.1 c37
        delta P_X11_stay_133
        obtain ⟨o38, h⟩ := h
        refine ⟨o38, ?_⟩
        obtain ⟨a39, ea39, h⟩ := h
        refine ⟨a39, ea39, ?_⟩
        obtain ⟨o40, h⟩ := h
        refine ⟨o40, ?_⟩
        obtain ⟨o41, h⟩ := h
        refine ⟨o41, ?_⟩
        intro x42 ex42
        have h := h x42 ex42
        intro x43 ex43
        have h := h x43 ex43
        obtain ⟨o44, h⟩ := h
        refine ⟨o44, ?_⟩
        intro S45 eS45
        have h := h S45 eS45
        have oc := ob_wJ oc eS45
        intro x46 ex46
        have h := h x46 ex46
        exact h ⟨rfl, oc⟩
      · intro c47
        have h := h.2 c47
        obtain ⟨a48, ea48, h⟩ := h
        refine ⟨a48, ea48, ?_⟩
        obtain ⟨o49, h⟩ := h
        refine ⟨o49, ?_⟩
        obtain ⟨o50, h⟩ := h
        refine ⟨o50, ?_⟩
        intro x51 ex51
        have h := h x51 ex51
        intro x52 ex52
        have h := h x52 ex52
        refine cm_X11_drips (kq_X11_drips h) h (fun x53 S54 hp h g55 => ?_)
        have h := h g55
        have oc := gr_ob g55 oc
        intro x56 ex56
        have h := h x56 ex56
        obtain ⟨o57, h⟩ := h
        refine ⟨o57, ?_⟩
        intro S58 eS58
        have h := h S58 eS58
        have oc := ob_wJ oc eS58
        delta P_X11_stay_133
        obtain ⟨o59, h⟩ := h
        refine ⟨o59, ?_⟩
        obtain ⟨a60, ea60, h⟩ := h
        refine ⟨a60, ea60, ?_⟩
        obtain ⟨o61, h⟩ := h
        refine ⟨o61, ?_⟩
        obtain ⟨o62, h⟩ := h
        refine ⟨o62, ?_⟩
        intro x63 ex63
        have h := h x63 ex63
        intro x64 ex64
        have h := h x64 ex64
        obtain ⟨o65, h⟩ := h
        refine ⟨o65, ?_⟩
        intro S66 eS66
        have h := h S66 eS66
        have oc := ob_wJ oc eS66
        intro x67 ex67
        have h := h x67 ex67
        exact h ⟨rfl, oc⟩

set_option maxHeartbeats 1000000 in
theorem rqL_X11_undo_38 {Q : Int32 → HS → Prop} {v0 : Nat} {v1 : Int32} {S : HS} (oc : ob S v0 11) (h : P_X11_undo_38 Q v0 v1 S) : P_X11_undo_38 (fun r T => Q r T ∧ rbq 6 r (fI T v0 1)) v0 v1 S := by
  intro X hX
  refine h (fun u0 v1_ T => (v0 = u0 ∧ ob T v0 11) → X u0 v1_ T) ?_ ⟨rfl, oc⟩
  rintro u0 v1_ T h ⟨rfl, oc⟩
  apply hX
  refine ⟨?_, ?_⟩
  · intro c1
    have h := h.1 c1
    obtain ⟨o2, h⟩ := h
    refine ⟨o2, ?_⟩
    refine cm_X11_granted (rq_X11_granted h) h (fun x3 S4 hp h g5 b6 => ?_)
    have h := h g5 b6
    have R8 := hp.2.1
    have V7 := hp.2.2
    have oc := gr_ob g5 oc
    obtain ⟨o9, h⟩ := h
    refine ⟨o9, ?_⟩
    exact ⟨h, Or.inl ⟨R8, V7⟩⟩
  · intro c10
    have h := h.2 c10
    obtain ⟨o11, h⟩ := h
    refine ⟨o11, ?_⟩
    obtain ⟨a12, ea12, h⟩ := h
    refine ⟨a12, ea12, ?_⟩
    obtain ⟨a13, ea13, h⟩ := h
    refine ⟨a13, ea13, ?_⟩
    intro x14 ex14
    have h := h x14 ex14
    obtain ⟨o15, h⟩ := h
    refine ⟨o15, ?_⟩
    intro x16 ex16
    have h := h x16 ex16
    obtain ⟨o17, h⟩ := h
    refine ⟨o17, ?_⟩
    intro x18 ex18
    have h := h x18 ex18
    obtain ⟨o19, h⟩ := h
    refine ⟨o19, ?_⟩
    obtain ⟨o20, h⟩ := h
    refine ⟨o20, ?_⟩
    intro S21 eS21
    have h := h S21 eS21
    have oc := ob_wJ oc eS21
    intro x22 ex22
    have h := h x22 ex22
    exact h ⟨rfl, oc⟩

set_option maxHeartbeats 1000000 in
theorem rqL_X11_back_32 {Q : Int32 → HS → Prop} {v0 : Nat} {v1 : Int32} {v2 : Int32} {S : HS} (oc : ob S v0 11) (h : P_X11_back_32 Q v0 v1 v2 S) : P_X11_back_32 (fun r T => Q r T ∧ rbq 1 r (fI T v0 1)) v0 v1 v2 S := by
  intro X hX
  refine h (fun u0 v1_ v2_ T => (v0 = u0 ∧ ob T v0 11) → X u0 v1_ v2_ T) ?_ ⟨rfl, oc⟩
  rintro u0 v1_ v2_ T h ⟨rfl, oc⟩
  apply hX
  refine ⟨?_, ?_⟩
  · intro c1
    have h := h.1 c1
    obtain ⟨o2, h⟩ := h
    refine ⟨o2, ?_⟩
    intro S3 eS3
    have h := h S3 eS3
    have oc := ob_wI oc eS3
    refine cm_X11_granted (rq_X11_granted h) h (fun x4 S5 hp h g6 b7 => ?_)
    have h := h g6 b7
    have R9 := hp.2.1
    have V8 := hp.2.2
    have oc := gr_ob g6 oc
    obtain ⟨o10, h⟩ := h
    refine ⟨o10, ?_⟩
    exact ⟨h, Or.inl ⟨R9, V8⟩⟩
  · intro c11
    have h := h.2 c11
    obtain ⟨o12, h⟩ := h
    refine ⟨o12, ?_⟩
    obtain ⟨a13, ea13, h⟩ := h
    refine ⟨a13, ea13, ?_⟩
    obtain ⟨a14, ea14, h⟩ := h
    refine ⟨a14, ea14, ?_⟩
    obtain ⟨o15, h⟩ := h
    refine ⟨o15, ?_⟩
    intro x16 ex16
    have h := h x16 ex16
    obtain ⟨o17, h⟩ := h
    refine ⟨o17, ?_⟩
    intro x18 ex18
    have h := h x18 ex18
    obtain ⟨o19, h⟩ := h
    refine ⟨o19, ?_⟩
    obtain ⟨o20, h⟩ := h
    refine ⟨o20, ?_⟩
    intro S21 eS21
    have h := h S21 eS21
    have oc := ob_wJ oc eS21
    intro x22 ex22
    have h := h x22 ex22
    exact h ⟨rfl, oc⟩

set_option maxHeartbeats 1000000 in
theorem rqL_X9_off_62 {Q : Int32 → HS → Prop} {v0 : Nat} {v2 : Int32} {v4 : Int32} {v6 : Int32} {v7 : Int32} {S : HS} (oc : ob S v0 9) (V0 : fI S v0 9 = 0) (h : P_X9_off_62 Q v0 v2 v4 v6 v7 S) : P_X9_off_62 (fun r T => Q r T ∧ rl 6 r (fI T v0 9)) v0 v2 v4 v6 v7 S := by
  intro X hX
  refine h (fun u0 v2_ v4_ v6_ v7_ T => (v0 = u0 ∧ ob T v0 9 ∧ fI T v0 9 = 0) → X u0 v2_ v4_ v6_ v7_ T) ?_ ⟨rfl, oc, V0⟩
  rintro u0 v2_ v4_ v6_ v7_ T h ⟨rfl, oc, V0⟩
  apply hX
  refine ⟨?_, ?_⟩
  · intro c1
    have h := h.1 c1
    refine ⟨?_, ?_⟩
    · intro c2
      have h := h.1 c2
      exact ⟨h, Or.inr ⟨c2, V0⟩⟩
    · intro c3
      have h := h.2 c3
      obtain ⟨o4, h⟩ := h
      refine ⟨o4, ?_⟩
      refine cm_X9_refuse (rq_X9_refuse h) h (fun x5 S6 hp h g7 => ?_)
      have h := h g7
      have R9 := hp.2.1
      have V8 := hp.2.2
      have oc := gr_ob g7 oc
      exact ⟨h, Or.inl ⟨R9, V8⟩⟩
  · intro c10
    have h := h.2 c10
    refine ⟨?_, ?_⟩
    · intro c11
      have h := h.1 c11
      delta P_X9_off_99
      delta P_X9_off_104
      obtain ⟨o12, h⟩ := h
      refine ⟨o12, ?_⟩
      obtain ⟨a13, ea13, h⟩ := h
      refine ⟨a13, ea13, ?_⟩
      obtain ⟨o14, h⟩ := h
      refine ⟨o14, ?_⟩
      refine cm_X7_isOpen (kq_X7_isOpen h) h (fun x15 S16 hp h g17 b18 => ?_)
      have h := h g17 b18
      have V19 := (hp.2.2 (9, 9) (by decide) v0 oc).trans V0
      have oc := gr_ob g17 oc
      refine ⟨?_, ?_⟩
      · intro c20
        have h := h.1 c20
        delta P_X9_off_128
        intro x21 ex21
        have h := h x21 ex21
        exact h ⟨rfl, oc, V19⟩
      · intro c22
        have h := h.2 c22
        refine ⟨?_, ?_⟩
        · intro c23
          have h := h.1 c23
          delta P_X9_off_128
          intro x24 ex24
          have h := h x24 ex24
          exact h ⟨rfl, oc, V19⟩
        · intro c25
          have h := h.2 c25
          delta P_X9_off_128
          intro x26 ex26
          have h := h x26 ex26
          exact h ⟨rfl, oc, V19⟩
    · intro c27
      have h := h.2 c27
      obtain ⟨o28, h⟩ := h
      refine ⟨o28, ?_⟩
      obtain ⟨a29, ea29, h⟩ := h
      refine ⟨a29, ea29, ?_⟩
      obtain ⟨o30, h⟩ := h
      refine ⟨o30, ?_⟩
      refine cm_X7_meanFrom (kq_X7_meanFrom h) h (fun x31 S32 hp h g33 => ?_)
      have h := h g33
      have V34 := (hp.2.2 (9, 9) (by decide) v0 oc).trans V0
      have oc := gr_ob g33 oc
      obtain ⟨a35, ea35, h⟩ := h
      refine ⟨a35, ea35, ?_⟩
      obtain ⟨o36, h⟩ := h
      refine ⟨o36, ?_⟩
      refine cm_X7_meanFrom (kq_X7_meanFrom h) h (fun x37 S38 hp h g39 => ?_)
      have h := h g39
      have V40 := (hp.2.2 (9, 9) (by decide) v0 oc).trans V34
      have oc := gr_ob g39 oc
      refine ⟨?_, ?_⟩
      · intro c41
        have h := h.1 c41
        delta P_X9_off_104
        obtain ⟨o42, h⟩ := h
        refine ⟨o42, ?_⟩
        obtain ⟨a43, ea43, h⟩ := h
        refine ⟨a43, ea43, ?_⟩
        obtain ⟨o44, h⟩ := h
        refine ⟨o44, ?_⟩
        refine cm_X7_isOpen (kq_X7_isOpen h) h (fun x45 S46 hp h g47 b48 => ?_)
        have h := h g47 b48
        have V49 := (hp.2.2 (9, 9) (by decide) v0 oc).trans V40
        have oc := gr_ob g47 oc
        refine ⟨?_, ?_⟩
        · intro c50
          have h := h.1 c50
          delta P_X9_off_128
          intro x51 ex51
          have h := h x51 ex51
          exact h ⟨rfl, oc, V49⟩
        · intro c52
          have h := h.2 c52
          refine ⟨?_, ?_⟩
          · intro c53
            have h := h.1 c53
            delta P_X9_off_128
            intro x54 ex54
            have h := h x54 ex54
            exact h ⟨rfl, oc, V49⟩
          · intro c55
            have h := h.2 c55
            delta P_X9_off_128
            intro x56 ex56
            have h := h x56 ex56
            exact h ⟨rfl, oc, V49⟩
      · intro c57
        have h := h.2 c57
        delta P_X9_off_99
        delta P_X9_off_104
        obtain ⟨o58, h⟩ := h
        refine ⟨o58, ?_⟩
        obtain ⟨a59, ea59, h⟩ := h
        refine ⟨a59, ea59, ?_⟩
        obtain ⟨o60, h⟩ := h
        refine ⟨o60, ?_⟩
        refine cm_X7_isOpen (kq_X7_isOpen h) h (fun x61 S62 hp h g63 b64 => ?_)
        have h := h g63 b64
        have V65 := (hp.2.2 (9, 9) (by decide) v0 oc).trans V40
        have oc := gr_ob g63 oc
        refine ⟨?_, ?_⟩
        · intro c66
          have h := h.1 c66
          delta P_X9_off_128
          intro x67 ex67
          have h := h x67 ex67
          exact h ⟨rfl, oc, V65⟩
        · intro c68
          have h := h.2 c68
          refine ⟨?_, ?_⟩
          · intro c69
            have h := h.1 c69
            delta P_X9_off_128
            intro x70 ex70
            have h := h x70 ex70
            exact h ⟨rfl, oc, V65⟩
          · intro c71
            have h := h.2 c71
            delta P_X9_off_128
            intro x72 ex72
            have h := h x72 ex72
            exact h ⟨rfl, oc, V65⟩

set_option maxHeartbeats 1000000 in
theorem rqL_X11_off_67 {Q : Int32 → HS → Prop} {v0 : Nat} {v2 : Int32} {v4 : Int32} {v5 : Int32} {v6 : Int32} {S : HS} (oc : ob S v0 11) (h : P_X11_off_67 Q v0 v2 v4 v5 v6 S) : P_X11_off_67 (fun r T => Q r T ∧ rl 6 r (fI T v0 1)) v0 v2 v4 v5 v6 S := by
  intro X hX
  refine h (fun u0 v2_ v4_ v5_ v6_ T => (v0 = u0 ∧ ob T v0 11) → X u0 v2_ v4_ v5_ v6_ T) ?_ ⟨rfl, oc⟩
  rintro u0 v2_ v4_ v5_ v6_ T h ⟨rfl, oc⟩
  apply hX
  refine ⟨?_, ?_⟩
  · intro c1
    have h := h.1 c1
    refine ⟨?_, ?_⟩
    · intro c2
      have h := h.1 c2
      obtain ⟨o3, h⟩ := h
      refine ⟨o3, ?_⟩
      refine cm_X11_good (rq_X11_good h) h (fun x4 S5 hp h g6 => ?_)
      have h := h g6
      have R8 := hp.2.1
      have V7 := hp.2.2
      have oc := gr_ob g6 oc
      exact ⟨h, Or.inr ⟨fun z => c2 (R8.symm.trans z), V7⟩⟩
    · intro c9
      have h := h.2 c9
      obtain ⟨o10, h⟩ := h
      refine ⟨o10, ?_⟩
      refine cm_X11_refused (rq_X11_refused h) h (fun x11 S12 hp h g13 => ?_)
      have h := h g13
      have R15 := hp.2.1
      have V14 := hp.2.2
      have oc := gr_ob g13 oc
      exact ⟨h, Or.inl ⟨R15, V14⟩⟩
  · intro c16
    have h := h.2 c16
    obtain ⟨o17, h⟩ := h
    refine ⟨o17, ?_⟩
    obtain ⟨a18, ea18, h⟩ := h
    refine ⟨a18, ea18, ?_⟩
    refine cm_X11_spotOf (kq_X11_spotOf h) h (fun x19 S20 hp h g21 => ?_)
    have h := h g21
    have oc := gr_ob g21 oc
    obtain ⟨o22, h⟩ := h
    refine ⟨o22, ?_⟩
    obtain ⟨o23, h⟩ := h
    refine ⟨o23, ?_⟩
    intro x24 ex24
    have h := h x24 ex24
    refine ⟨?_, ?_⟩
    · intro c25
      have h := h.1 c25
      delta P_X11_off_128
      intro x26 ex26
      have h := h x26 ex26
      exact h ⟨rfl, oc⟩
    · intro c27
      have h := h.2 c27
      refine ⟨?_, ?_⟩
      · intro c28
        have h := h.1 c28
        delta P_X11_off_124
        delta P_X11_off_128
        intro x29 ex29
        have h := h x29 ex29
        exact h ⟨rfl, oc⟩
      · intro c30
        have h := h.2 c30
        obtain ⟨a31, ea31, h⟩ := h
        refine ⟨a31, ea31, ?_⟩
        refine cm_X11_spotOf (kq_X11_spotOf h) h (fun x32 S33 hp h g34 => ?_)
        have h := h g34
        have oc := gr_ob g34 oc
        obtain ⟨o35, h⟩ := h
        refine ⟨o35, ?_⟩
        obtain ⟨o36, h⟩ := h
        refine ⟨o36, ?_⟩
        intro x37 ex37
        have h := h x37 ex37
        obtain ⟨a38, ea38, h⟩ := h
        refine ⟨a38, ea38, ?_⟩
        refine cm_X11_spotOf (kq_X11_spotOf h) h (fun x39 S40 hp h g41 => ?_)
        have h := h g41
        have oc := gr_ob g41 oc
        obtain ⟨o42, h⟩ := h
        refine ⟨o42, ?_⟩
        obtain ⟨o43, h⟩ := h
        refine ⟨o43, ?_⟩
        intro x44 ex44
        have h := h x44 ex44
        refine ⟨?_, ?_⟩
        · intro c45
          have h := h.1 c45
          delta P_X11_off_128
          intro x46 ex46
          have h := h x46 ex46
          exact h ⟨rfl, oc⟩
        · intro c47
          have h := h.2 c47
          delta P_X11_off_124
          delta P_X11_off_128
          intro x48 ex48
          have h := h x48 ex48
          exact h ⟨rfl, oc⟩

set_option maxHeartbeats 1000000 in
theorem rqL_X11_driest_45 {Q : Int32 → HS → Prop} {v0 : Nat} {v1 : Int32} {v2 : Int32} {v3 : Int32} {v4 : Int32} {v5 : Int64} {v7 : Int32} {S : HS} (oc : ob S v0 11) (h : P_X11_driest_45 Q v0 v1 v2 v3 v4 v5 v7 S) : P_X11_driest_45 (fun r T => Q r T ∧ rl 6 r (fI T v0 1)) v0 v1 v2 v3 v4 v5 v7 S := by
  intro X hX
  refine h (fun u0 v1_ v2_ v3_ v4_ v5_ v7_ T => (v0 = u0 ∧ ob T v0 11) → X u0 v1_ v2_ v3_ v4_ v5_ v7_ T) ?_ ⟨rfl, oc⟩
  rintro u0 v1_ v2_ v3_ v4_ v5_ v7_ T h ⟨rfl, oc⟩
  apply hX
  obtain ⟨o1, h⟩ := h
  refine ⟨o1, ?_⟩
  obtain ⟨a2, ea2, h⟩ := h
  refine ⟨a2, ea2, ?_⟩
  obtain ⟨o3, h⟩ := h
  refine ⟨o3, ?_⟩
  intro x4 ex4
  have h := h x4 ex4
  refine ⟨?_, ?_⟩
  · intro c5
    have h := h.1 c5
    refine ⟨?_, ?_⟩
    · intro c6
      have h := h.1 c6
      refine cm_X11_good (rq_X11_good h) h (fun x7 S8 hp h g9 => ?_)
      have h := h g9
      have R11 := hp.2.1
      have V10 := hp.2.2
      have oc := gr_ob g9 oc
      exact ⟨h, Or.inr ⟨fun z => c6 (R11.symm.trans z), V10⟩⟩
    · intro c12
      have h := h.2 c12
      refine cm_X11_refused (rq_X11_refused h) h (fun x13 S14 hp h g15 => ?_)
      have h := h g15
      have R17 := hp.2.1
      have V16 := hp.2.2
      have oc := gr_ob g15 oc
      exact ⟨h, Or.inl ⟨R17, V16⟩⟩
  · intro c18
    have h := h.2 c18
    refine cm_X11_wetAtBest (kq_X11_wetAtBest h) h (fun x19 S20 hp h g21 => ?_)
    have h := h g21
    have oc := gr_ob g21 oc
    obtain ⟨a22, ea22, h⟩ := h
    refine ⟨a22, ea22, ?_⟩
    obtain ⟨o23, h⟩ := h
    refine ⟨o23, ?_⟩
    obtain ⟨a24, ea24, h⟩ := h
    refine ⟨a24, ea24, ?_⟩
    obtain ⟨o25, h⟩ := h
    refine ⟨o25, ?_⟩
    obtain ⟨o26, h⟩ := h
    refine ⟨o26, ?_⟩
    intro x27 ex27
    have h := h x27 ex27
    intro x28 ex28
    have h := h x28 ex28
    refine ⟨?_, ?_⟩
    · intro c29
      have h := h.1 c29
      delta P_X11_driest_97
      delta P_X11_driest_105
      intro x30 ex30
      have h := h x30 ex30
      exact h ⟨rfl, oc⟩
    · intro c31
      have h := h.2 c31
      refine ⟨?_, ?_⟩
      · intro c32
        have h := h.1 c32
        delta P_X11_driest_97
        delta P_X11_driest_105
        intro x33 ex33
        have h := h x33 ex33
        exact h ⟨rfl, oc⟩
      · intro c34
        have h := h.2 c34
        delta P_X11_driest_105
        intro x35 ex35
        have h := h x35 ex35
        exact h ⟨rfl, oc⟩
end
section
/-! trouble: the rest, behind the loops -/
section C82
variable {c m dy r w1 w2 lgo b0 b1 wy : Nat} {A : AS} {G : GC} {D : DY} {S T : HS} {x v v1 v2 v3 v4 v5 v6 s0 : Int32} {Q : Int32 → HS → Prop}
theorem uq_X9_driest (hI : IV S) (J : CJ c r w1 w2 S) (hc : Cnt w1 A S) (ab : ABd A) (h : P_X9_driest c v1 v2 v3 Q S) : P_X9_driest c v1 v2 v3 (fun x T => Q x T ∧ fI T c 9 = whdriest A v1 v2 v3) S := by
  have ow1 := J.2.2.2.2.2.1
  have oc := J.2.2.2.1
  have no : ¬ dyOK A v1 v2 v3 → P_X9_driest_29 Q c S → P_X9_driest_29 (fun x T => Q x T ∧ fI T c 9 = whdriest A v1 v2 v3) c S := fun hn h => by
    delta P_X9_driest_29
    obtain ⟨o1, h⟩ := h
    exact ⟨o1, cm_X9_refuse (rq_X9_refuse h) h (fun x U hp h g => ⟨h g, hp.2.2.trans (by unfold whdriest; rw [dc_n hn])⟩)⟩
  delta P_X9_driest P_X9_driest_0
  obtain ⟨o2, a3, e3, o4, h⟩ := h
  cases (J.1).symm.trans e3
  refine ⟨o2, _, e3, o4, ?_⟩
  refine cm_X8_hasWalker (sp_X8_hasWalker hI ow1 ab hc h) h (fun x1 S2 hp h g b => ?_)
  have h := h g b
  obtain ⟨-, hS, hx1⟩ := hp
  subst hS
  refine ⟨fun cc => no (fun z => an0 hx1 cc z.1) (h.1 cc), fun cc => ?_⟩
  have kx1 := an1 hx1 cc
  obtain ⟨a5, e5, o6, h⟩ := h.2 cc
  cases (J.1).symm.trans e5
  refine ⟨_, e5, o6, ?_⟩
  refine cm_X8_hasRoad (sp_X8_hasRoad hI ow1 ab hc h) h (fun x2 S2 hp h g b => ?_)
  have h := h g b
  obtain ⟨-, hS, hx2⟩ := hp
  subst hS
  refine ⟨fun cc => no (fun z => an0 hx2 cc z.2.1) (h.1 cc), fun cc => ?_⟩
  have h := h.2 cc
  have kx2 := an1 hx2 cc
  refine cm_X9_isWay (sp_X9_isWay h) h (fun x3 S2 hp h g b => ?_)
  have h := h g b
  obtain ⟨-, hS, hx3⟩ := hp
  subst hS
  refine Iff.mp and_comm ⟨fun cc => no (fun z => an0 hx3 cc z.2.2) (h.2 cc), fun cc => ?_⟩
  have kx3 := an1 hx3 cc
  obtain ⟨a7, e7, o8, h⟩ := h.1 cc
  cases (J.1).symm.trans e7
  refine ⟨_, e7, o8, fun x9 q9 => ?_⟩
  have h := h x9 q9
  replace q9 := q9.trans hc.2.1
  have hb := ab.2.1
  have ok : dyOK A v1 v2 v3 := ⟨kx1, kx2, kx3⟩
  refine Iff.mp and_comm ⟨fun c2 => ?_, fun c2 => ?_⟩
  · have h := h.2 c2
    have hz : aHs A = 0 := nI_inj (by omega) (by decide) (q9.symm.trans c2)
    exact cm_X9_refuse (rq_X9_refuse h) h (fun x U hp h g => ⟨h g, hp.2.2.trans (by unfold whdriest; rw [dc_y ok, dc_y hz])⟩)
  · have hz : ¬ aHs A = 0 := fun z => c2 (by rw [q9, z]; rfl)
    exact tqL_X9_driest_63 (by unfold whdriest; rw [dc_y ok, dc_n hz]) oc (h.1 c2)
theorem uq_X11_driest (hI : IV S) (hm : HM m A G S) (h : P_X11_driest m v1 v2 v3 Q S) : P_X11_driest m v1 v2 v3 (fun x T => Q x T ∧ fI T m 1 = dc (dyOK A v1 v2 v3) (dc (x = -1) 6 0) 1) S := by
  have no : ∀ T, ¬ dyOK A v1 v2 v3 → P_X11_driest_30 Q m T → P_X11_driest_30 (fun x T => Q x T ∧ fI T m 1 = dc (dyOK A v1 v2 v3) (dc (x = -1) 6 0) 1) m T := fun T hn h => by
    delta P_X11_driest_30
    obtain ⟨o1, h⟩ := h
    exact ⟨o1, cm_X11_refused (rq_X11_refused h) h (fun x U hp h g => ⟨h g, hp.2.2.trans (dc_n hn).symm⟩)⟩
  delta P_X11_driest P_X11_driest_0
  obtain ⟨om, h⟩ := h
  refine ⟨om, fun S1 eS1 => ?_⟩
  have h := h S1 eS1
  have hm1 := hm_0 hm om eS1
  have om1 := ob_wI om eS1
  refine cm_X11_isWalker (sq_X11_isWalker hm1 h) h (fun x1 S2 hp h g b => ?_)
  have h := h g b
  obtain ⟨-, hS, hx1⟩ := hp
  subst hS
  refine ⟨fun cc => no _ (fun z => an0 hx1 cc z.1) (h.1 cc), fun cc => ?_⟩
  have h := h.2 cc
  have k1 := an1 hx1 cc
  refine cm_X11_isRoad (sq_X11_isRoad hm1 h) h (fun x2 S2 hp h g b => ?_)
  have h := h g b
  obtain ⟨-, hS, hx2⟩ := hp
  subst hS
  refine ⟨fun cc => no _ (fun z => an0 hx2 cc z.2.1) (h.1 cc), fun cc => ?_⟩
  have h := h.2 cc
  have k2 := an1 hx2 cc
  refine cm_X11_in (sq_X11_way h) h (fun x3 S2 hp h g b => ?_)
  have h := h g b
  obtain ⟨-, hS, hx3⟩ := hp
  subst hS
  refine Iff.mp and_comm ⟨fun cc => no _ (fun z => an0 hx3 cc z.2.2) (h.2 cc), fun cc => ?_⟩
  have ok : dyOK A v1 v2 v3 := ⟨k1, k2, an1 hx3 cc⟩
  have h := h.1 cc
  have q := rqL_X11_driest_45 om1 h
  exact cm_X11_driest_45 q h (fun x T hp hq => ⟨hq, by rw [dc_y ok]; exact rl_dc hp.2 rfl⟩)
theorem wh_driest (ab : ABd A) (e : x = telldriest A G v1 v2 v3) (h : v = dc (dyOK A v1 v2 v3) (dc (x = -1) 6 0) 1) : v = whdriest A v1 v2 v3 := by
  have hb := ab.2.1
  rw [h]
  unfold whdriest
  by_cases ok : dyOK A v1 v2 v3
  · rw [dc_y ok, dc_y ok]
    unfold telldriest at e
    by_cases z : aHs A = 0
    · rw [dc_n (fun q => q.2 z)] at e
      rw [dc_y z, dc_y e]
    · rw [dc_y ⟨ok, z⟩] at e
      have bb := (bst_r (W := gD G v1 v2 v3) (s := 0) (aHs A - 1)).2
      rw [dc_n z, dc_n (fun q => nI_nm1 (by omega) (e.symm.trans q))]
  · rw [dc_n ok, dc_n ok]
theorem rq_step49 (h : P_X11_step_49 Q m s0 S) : P_X11_step_49 (fun x T => Q x T ∧ rl 1 x (fI T m 1)) m s0 S := by
  delta P_X11_step_49
  refine ⟨fun c => ?_, fun c => ?_⟩
  · obtain ⟨o, h⟩ := h.1 c
    exact ⟨o, cm_X11_good (rq_X11_good h) h (fun x T hp h g => ⟨h g, Or.inr ⟨fun z => c (hp.2.1.symm.trans z), hp.2.2⟩⟩)⟩
  · obtain ⟨o, h⟩ := h.2 c
    exact ⟨o, cm_X11_refused (rq_X11_refused h) h (fun x T hp h g => ⟨h g, Or.inl hp.2⟩)⟩
theorem st49 {E : Int32 → Int32 → Prop} (hE : ∀ x t, rl 1 x t → E x t) (h : P_X11_step_49 Q m s0 S) : P_X11_step_49 (fun x T => Q x T ∧ E x (fI T m 1)) m s0 S := by
  delta P_X11_step_49
  refine ⟨fun c => ?_, fun c => ?_⟩
  · obtain ⟨o, h⟩ := h.1 c
    exact ⟨o, cm_X11_good (rq_X11_good h) h (fun x T hp h g => ⟨h g, hE _ _ (Or.inr ⟨fun z => c (hp.2.1.symm.trans z), hp.2.2⟩)⟩)⟩
  · obtain ⟨o, h⟩ := h.2 c
    exact ⟨o, cm_X11_refused (rq_X11_refused h) h (fun x T hp h g => ⟨h g, hE _ _ (Or.inl hp.2)⟩)⟩
theorem uq_X11_step (hI : IV S) (om : ob S m 11) (hm : HM m A G S) (ab : ABd A) (gb : GBd A G) (ge : GBe A G) (h : P_X11_step m v1 v2 v3 v4 v5 v6 Q S) : P_X11_step m v1 v2 v3 v4 v5 v6 (fun x T => Q x T ∧ fI T m 1 = dc (wyN A G v1 v2 v3 v4 v5 = 0) (dc (x = -1) 1 0) (wyN A G v1 v2 v3 v4 v5)) S := by
  obtain ⟨le, ar, sb, R⟩ := rw3_iv hI om
  delta P_X11_step P_X11_step_0
  obtain ⟨om, h⟩ := h
  refine ⟨om, ?_⟩
  intro S1 eS1
  have h := h S1 eS1
  have hm1 := hm_0 hm om eS1
  have hE := m_start hI eS1
  refine cm_X11_refusesWay (sm_X11_refusesWay hm1 ab gb ge hE (rw3_0 R eS1) h) h (fun xt T hp h g => ?_)
  have h := h g
  obtain ⟨-, -, ht, -⟩ := hp
  refine Iff.mp and_comm ⟨fun cn => ?_, fun cn => ?_⟩
  · have h := h.2 cn
    have n0 : ¬ wyN A G v1 v2 v3 v4 v5 = 0 := fun z => cn (by rw [ht, z]; decide)
    exact cm_X11_refused (rq_X11_refused h) h (fun x U hp h g => ⟨h g, by rw [dc_n n0, hp.2.2, ht]⟩)
  have h := h.1 cn
  have h0 := wy_le (by rw [← ht]; exact cn)
  have hE : ∀ x t, rl 1 x t → t = dc (wyN A G v1 v2 v3 v4 v5 = 0) (dc (x = -1) 1 0) (wyN A G v1 v2 v3 v4 v5) := fun x t q => by
    rw [dc_y h0]
    exact rl_dc q rfl
  refine ⟨fun c2 => ?_, fun c2 => ?_⟩
  · have h := h.1 c2
    exact cm_X11_stepOf h h (fun x8 S6 _ h g => st49 hE (h g))
  · exact st49 hE (h.2 c2)
theorem trc_m {tb : Nat → Nat → TE} : ∀ (f p mm i : Nat), i < (trc G tb f p mm).length → ¬ (trc G tb f p mm).getD i (-1) = -1
  | 0, p, mm, i, h => absurd h (Nat.not_lt_zero i)
  | f + 1, p, mm, i, h => by
    by_cases c : kE (tb p mm) = -1
    · rw [trc_z c] at h
      exact absurd h (Nat.not_lt_zero i)
    · rw [trc_s c] at h ⊢
      cases i with
      | zero => exact c
      | succ i => exact trc_m f _ _ i (Nat.lt_of_succ_lt_succ h)
theorem uq_X9_step (hI : IV S) (oc : ob S c 9) (ab : ABd A) (gb : GBd A G) (ge : GBe A G) (e2 : fR S c 2 = some w1) (h8 : WT w1 A G S) (lg : LG c lgo b0 b1 S) (wd : WYd c A G S) (h : P_X9_step c v1 v2 v3 v4 v5 v6 Q S) : P_X9_step c v1 v2 v3 v4 v5 v6 (fun x T => Q x T ∧ fI T c 9 = whstep A G v1 v2 v3 v4 v5 v6) S := by
  have e0 : (0 : Int32).toInt = 0 := by decide
  obtain ⟨wy, y, e5, ws, wv⟩ := wd
  delta P_X9_step P_X9_step_0
  obtain ⟨o1, h⟩ := h
  refine ⟨o1, ?_⟩
  refine cm_X9_wayTrouble (yw_wayTrouble hI oc ab gb ge e2 h8 lg e5 ws wv h) h (fun x3 S1 hp h g => ?_)
  have h := h g
  obtain ⟨-, h3, wt⟩ := hp
  refine cm_X9_refusedBy (sp_X9_refusedBy h) h (fun x6 S4 hp h g b => ?_)
  have h := h g b
  obtain ⟨-, s4, a6⟩ := hp
  have V4 : fI S4 c 9 = x3 := by rw [s4]; exact u2_self _ _ _ _
  have wt := wtp_c oc wt s4
  refine ⟨fun q => ?_, fun q => ⟨h.2 q, ?_⟩⟩
  · have z3 : x3 = 0 := Classical.byContradiction (an0 a6 q)
    have h0 : wyN A G v1 v2 v3 v4 v5 = 0 := h3.symm.trans z3
    obtain ⟨ok, okm, ne⟩ := wyN_0 h0
    obtain ⟨i1, i2, i3, n1, n2, n3⟩ := wy_n ab ok
    obtain ⟨i4, i5, n4, n5⟩ := wm_n okm
    obtain ⟨g4, rc, y', ws', wv', h8', k⟩ := wt
    obtain ⟨wn', lo, hlo, k⟩ := k z3
    have oc4 := gr_ob g4 oc
    obtain ⟨a8, e8, a9, e9, o8, h⟩ := h.1 q
    cases e5.symm.trans (by rw [← rc]; exact e8 : fR S c 5 = some a8)
    cases e2.symm.trans (by rw [← rc]; exact e9 : fR S c 2 = some a9)
    refine ⟨_, e8, _, e9, o8, ?_⟩
    refine cm_X7_trace (yw_traced ab gb ge i1 i2 i4 i5 n2 n4 i3 ws' wn' h8' hlo k h) (kq_X7_trace h) (fun x12 S10 hp hk g => ?_)
    have h := hk.1 g
    have V10 : fI S10 c 9 = 0 := ((hk.2.2 (9, 9) (by decide) c oc4).trans V4).trans z3
    obtain ⟨-, yr, wv9, q12, l400, rows⟩ := hp
    have ws10 := wys_ym ws' (yr_ym (wy := wy) (b0 := 0) (b1 := 0) yr)
    have wn10 := wyn_ym wn' (yr_ym (wy := wy) (b0 := 0) (b1 := 0) yr)
    have e810 : fR S10 c 5 = some wy := by rw [yr.2.2.2.1]; exact e8
    have n12 : x12.toInt = ((wyL A G v1 v2 v3 v4 v5).length : Int) := by rw [q12]; exact nI_i (by omega)
    have no : (0 ≤ v6 → (wyL A G v1 v2 v3 v4 v5).length ≤ v6.toNatClampNeg) → P_X9_step_61 Q c S10 → P_X9_step_61 (fun x T => Q x T ∧ fI T c 9 = whstep A G v1 v2 v3 v4 v5 v6) c S10 := by
      intro z h
      delta P_X9_step_61
      obtain ⟨o2, h⟩ := h
      refine ⟨o2, ?_⟩
      refine cm_X9_refuse (rq_X9_refuse h) h (fun x U hp h g => ⟨h g, ?_⟩)
      have t1 : tellstep A G v1 v2 v3 v4 v5 v6 = -1 := by
        unfold tellstep
        rw [dc_y h0]
        by_cases z6 : 0 ≤ v6
        · rw [if_pos z6, gd_out (z z6)]
        · rw [if_neg z6]
      unfold whstep
      rw [dc_y h0, dc_y t1]
      exact hp.2.2
    refine ⟨fun d => no (fun z => ?_) (h.1 d), fun d => ?_⟩
    · have := lt_i d
      have := le_i z
      omega
    have d0 := nlt_i d
    have p6 : 0 ≤ v6 := Int32.le_iff_toInt_le.mpr (by omega)
    have h := h.2 d
    have t6 : v6.toNatClampNeg = v6.toInt.toNat := rfl
    refine ⟨fun d2 => no (fun _ => ?_) (h.1 d2), fun d2 => ?_⟩
    · have := le_i d2
      omega
    have d2' := nle_i d2
    have h := h.2 d2
    obtain ⟨a15, e15, o15, a16, e16, o16, h⟩ := h
    cases e810.symm.trans e15
    cases (ws10.2.1 0 (by decide)).symm.trans e16
    refine ⟨_, e15, o15, _, e16, o16, fun d3 => ?_, fun d3 => ?_⟩
    · obtain ⟨a18, e18, o18, a19, e19, o19, i19, h⟩ := h.1 d3
      refine ⟨a18, e18, o18, a19, e19, o19, i19, fun x21 q21 => ⟨h x21 q21, ?_⟩⟩
      have t1 : ¬ tellstep A G v1 v2 v3 v4 v5 v6 = -1 := by
        unfold tellstep
        rw [dc_y h0, if_pos p6]
        exact trc_m _ _ _ _ (by show v6.toNatClampNeg < (wyL A G v1 v2 v3 v4 v5).length; omega)
      unfold whstep
      rw [dc_y h0, dc_n t1]
      exact V10
    · exfalso
      have z := nlt_i d3
      rw [wn10 (0, 401) (by decide), nI_i (by decide : (0, 401).2 < 100000)] at z
      have z : (401 : Int) ≤ v6.toInt := z
      omega
  · have n0 : ¬ wyN A G v1 v2 v3 v4 v5 = 0 := fun z => an1 a6 q (h3.trans z)
    unfold whstep
    rw [dc_n n0]
    exact V4.trans h3
theorem uq_X9_off (oc : ob S c 9) (ab : ABd A) (e2 : fR S c 2 = some w1) (h8 : WT w1 A G S) (h : P_X9_off c v1 v2 v3 v4 Q S) : P_X9_off c v1 v2 v3 v4 (fun x T => Q x T ∧ fI T c 9 = dc (wyOK A v1 v2 v3) (dc (¬ (v4 < 0 ∨ (400 : Int32) < v4)) (dc (x = -1) 6 0) 2) 1) S := by
  have f25 : ∀ x : Int32, ((x = 0 ∧ wyOK A v1 v2 v3 ∧ ¬ (v4 < 0 ∨ (400 : Int32) < v4)) ∨ (¬ x = 0 ∧ ∀ z : Int32, x = dc (wyOK A v1 v2 v3) (dc (¬ (v4 < 0 ∨ (400 : Int32) < v4)) z 2) 1)) → P_X9_off_25 Q c v1 v2 v3 v4 x S → P_X9_off_25 (fun x T => Q x T ∧ fI T c 9 = dc (wyOK A v1 v2 v3) (dc (¬ (v4 < 0 ∨ (400 : Int32) < v4)) (dc (x = -1) 6 0) 2) 1) c v1 v2 v3 v4 x S := by
    intro x hx h
    delta P_X9_off_25
    obtain ⟨o1, h⟩ := h
    refine ⟨o1, ?_⟩
    refine cm_X9_refusedBy (rq_X9_refusedBy h) h (fun x3 S1 hp h g b => ?_)
    have h := h g b
    obtain ⟨-, a3, V1⟩ := hp
    have oc1 := gr_ob g oc
    refine Iff.mp and_comm ⟨fun q => ⟨h.2 q, ?_⟩, fun q => ?_⟩
    · rw [V1]
      exact (hx.resolve_left (fun z => an1 a3 q z.1)).2 _
    have z0 : x = 0 := Classical.byContradiction (an0 a3 q)
    obtain ⟨-, ok, oh⟩ := hx.resolve_right (fun z => z.1 z0)
    obtain ⟨a5, e5, a6, e6, a7, e7, o8, h⟩ := h.1 q
    refine ⟨a5, e5, a6, e6, a7, e7, o8, ?_⟩
    refine cm_X7_reckon (kq_X7_reckon h) h (fun T hp h g => ?_)
    have h := h g
    have VT := (hp.2.2 (9, 9) (by decide) c oc1).trans (V1.trans z0)
    exact cm_X9_off_62 (rqL_X9_off_62 (gr_ob g oc1) VT h) h (fun x T hp hq => ⟨hq, by rw [dc_y ok, dc_y oh]; exact rl_dc hp.2 rfl⟩)
  delta P_X9_off P_X9_off_0
  obtain ⟨o1, h⟩ := h
  refine ⟨o1, ?_⟩
  refine cm_X9_placesTrouble (yw_placesTrouble ab e2 h8 h) h (fun x3 S1 hp h g => ?_)
  have h := h g
  obtain ⟨-, hS, a3⟩ := hp
  subst hS
  refine ⟨fun q => ?_, fun q => ?_⟩
  · have z := a3.resolve_left (fun z => q z.1)
    exact f25 x3 (Or.inr ⟨q, fun y => by rw [dc_n z.2]; exact z.1⟩) (h.1 q)
  have ok := (a3.resolve_right (fun z => by rw [q] at z; exact absurd z.1 (by decide))).2
  have h := h.2 q
  refine cm_X9_isTill (sp_X9_isTill h) h (fun x7 S5 hp h g b => ?_)
  have h := h g b
  obtain ⟨-, hS, a7⟩ := hp
  subst hS
  exact ⟨fun z => f25 x3 (Or.inl ⟨q, ok, an1 a7 z⟩) (h.1 z), fun z => f25 2 (Or.inr ⟨by decide, fun y => by rw [dc_y ok, dc_n (an0 a7 z)]⟩) (h.2 z)⟩
theorem uq_X11_off (hI : IV S) (hm : HM m A G S) (h : P_X11_off m v1 v2 v3 v4 Q S) : P_X11_off m v1 v2 v3 v4 (fun x T => Q x T ∧ fI T m 1 = dc (wyOK A v1 v2 v3) (dc (¬ (v4 < 0 ∨ (400 : Int32) < v4)) (dc (x = -1) 6 0) 2) 1) S := by
  delta P_X11_off P_X11_off_0
  obtain ⟨om, h⟩ := h
  refine ⟨om, ?_⟩
  intro S1 eS1
  have h := h S1 eS1
  have om1 := ob_wI om eS1
  replace hm := hm_0 hm om eS1
  have no1 : ∀ T, ¬ wyOK A v1 v2 v3 → P_X11_off_29 Q m T → P_X11_off_29 (fun x T => Q x T ∧ fI T m 1 = dc (wyOK A v1 v2 v3) (dc (¬ (v4 < 0 ∨ (400 : Int32) < v4)) (dc (x = -1) 6 0) 2) 1) m T := fun T z h => by
    obtain ⟨o, h⟩ := h
    exact ⟨o, cm_X11_refused (rq_X11_refused h) h (fun x U hp h g => ⟨h g, hp.2.2.trans (dc_n z).symm⟩)⟩
  refine cm_X11_isWalker (sq_X11_isWalker hm h) h (fun x1 S2 hp h g b => ?_)
  have h := h g b
  obtain ⟨-, hS, a1⟩ := hp
  subst hS
  refine ⟨fun c => no1 _ (fun z => an0 a1 c z.1) (h.1 c), fun c => ?_⟩
  have a1 := an1 a1 c
  have h := h.2 c
  refine cm_X11_isPlace (sq_X11_isPlace hm h) h (fun x1 S2 hp h g b => ?_)
  have h := h g b
  obtain ⟨-, hS, a2⟩ := hp
  subst hS
  refine ⟨fun c => no1 _ (fun z => an0 a2 c z.2.1) (h.1 c), fun c => ?_⟩
  have a2 := an1 a2 c
  have h := h.2 c
  refine cm_X11_isPlace (sq_X11_isPlace hm h) h (fun x1 S2 hp h g b => ?_)
  have h := h g b
  obtain ⟨-, hS, a3⟩ := hp
  subst hS
  refine Iff.mp and_comm ⟨fun c => no1 _ (fun z => an0 a3 c z.2.2) (h.2 c), fun c => ?_⟩
  have a3 := an1 a3 c
  have h := h.1 c
  have ok : wyOK A v1 v2 v3 := ⟨a1, a2, a3⟩
  refine cm_X11_in (sp_X11_in h) h (fun x1 S2 hp h g b => ?_)
  have h := h g b
  obtain ⟨-, hS, a4⟩ := hp
  subst hS
  refine Iff.mp and_comm ⟨fun c => ?_, fun c => ?_⟩
  · have h := h.2 c
    exact cm_X11_refused (rq_X11_refused h) h (fun x U hp h g => ⟨h g, by rw [dc_y ok, dc_n (an0 a4 c)]; exact hp.2.2⟩)
  have a4 := an1 a4 c
  have h := h.1 c
  refine cm_X11_laysWays h h (fun T _ h g => ?_)
  have h := h g
  exact cm_X11_off_67 (rqL_X11_off_67 (gr_ob g om1) h) h (fun x T hp hq => ⟨hq, by rw [dc_y ok, dc_y a4]; exact rl_dc hp.2 rfl⟩)
end C82
/-! trouble: go, stay, and the day's way back -/
section C83
variable {c m dy r w w1 w2 : Nat} {A : AS} {G : GC} {D : DY} {S T : HS} {x v v1 v2 v3 : Int32} {Q : Int32 → HS → Prop}
theorem wg1 (h : ¬ (onD D ∧ (¬ v1 < 0 ∧ v1 < nI (aR A)) ∧ (v2 = 0 ∨ v2 = 1))) : whgo A G D v1 v2 v3 = 1 := dc_n h
theorem wg2 (h : onD D ∧ (¬ v1 < 0 ∧ v1 < nI (aR A)) ∧ (v2 = 0 ∨ v2 = 1)) (s : ¬ spOK G (dW D) v3) : whgo A G D v1 v2 v3 = 2 := by
  unfold whgo
  rw [dc_y h, dc_n s]
theorem wg5 (h : onD D ∧ (¬ v1 < 0 ∧ v1 < nI (aR A)) ∧ (v2 = 0 ∨ v2 = 1)) (s : spOK G (dW D) v3) (b : ¬ goB G v1 v2 = (dN D).1) : whgo A G D v1 v2 v3 = 5 := by
  unfold whgo
  rw [dc_y h, dc_y s, dc_n b]
theorem wg3 (h : onD D ∧ (¬ v1 < 0 ∧ v1 < nI (aR A)) ∧ (v2 = 0 ∨ v2 = 1)) (s : spOK G (dW D) v3) (b : goB G v1 v2 = (dN D).1) (t : ¬ (dN D).2.1 + goM G v1 v3 ≤ 999) : whgo A G D v1 v2 v3 = 3 := by
  unfold whgo
  rw [dc_y h, dc_y s, dc_y b, dc_n t]
theorem wg0 (h : onD D ∧ (¬ v1 < 0 ∧ v1 < nI (aR A)) ∧ (v2 = 0 ∨ v2 = 1)) (s : spOK G (dW D) v3) (b : goB G v1 v2 = (dN D).1) (t : (dN D).2.1 + goM G v1 v3 ≤ 999) : whgo A G D v1 v2 v3 = 0 := by
  unfold whgo
  rw [dc_y h, dc_y s, dc_y b, dc_y t]
theorem uq_X9_go (hI : IV S) (J : CJ c r w1 w2 S) (hc : Cnt w1 A S) (ct : CtB w1 A G S S) (ab : ABd A) (gb : GBd A G) (e6 : fR S c 6 = some dy) (cd : CDd dy D S) (db : DBd A D) (h : P_X9_go c v1 v2 v3 Q S) : P_X9_go c v1 v2 v3 (fun x T => Q x T ∧ fI T c 9 = whgo A G D v1 v2 v3) S := by
  have oc := J.2.2.2.1
  have h8 := wt_of hI J hc ct ab
  have no0 : ∀ {k : Int32} {Q1 : Int32 → HS → Prop}, whgo A G D v1 v2 v3 = k → P_X9_refuse c k (fun x3 S1 => Gr S S1 → Q1 x3 S1) S → P_X9_refuse c k (fun x3 S1 => Gr S S1 → (Q1 x3 S1 ∧ fI S1 c 9 = whgo A G D v1 v2 v3)) S := by
    intro k Q1 hk h
    exact cm_X9_refuse (rq_X9_refuse h) h (fun x U hp h g => ⟨h g, hp.2.2.trans hk.symm⟩)
  have no : ¬ (onD D ∧ (¬ v1 < 0 ∧ v1 < nI (aR A)) ∧ (v2 = 0 ∨ v2 = 1)) → P_X9_go_45 Q c S → P_X9_go_45 (fun x T => Q x T ∧ fI T c 9 = whgo A G D v1 v2 v3) c S := by
    intro hn h
    delta P_X9_go_45
    obtain ⟨o1, h⟩ := h
    exact ⟨o1, no0 (wg1 hn) h⟩
  delta P_X9_go P_X9_go_0
  obtain ⟨o1, a2, e2, o3, h⟩ := h
  cases e6.symm.trans e2
  refine ⟨o1, _, e2, o3, ?_⟩
  refine cm_X0_isOn (sd_X0_isOn cd h) h (fun x4 S5 hp h g b => ?_)
  have h := h g b
  obtain ⟨-, hS, hx⟩ := hp
  subst hS
  refine ⟨fun cc => no (fun z => an0 hx cc z.1) (h.1 cc), fun cc => ?_⟩
  have on : onD D := an1 hx cc
  have dbo := db_on db on
  obtain ⟨a14, e14, a15, e15, o16, h⟩ := h.2 cc
  cases J.1.symm.trans e14
  cases e6.symm.trans e15
  refine ⟨_, e14, _, e15, o16, fun x17 q17 => ?_⟩
  obtain ⟨o18, h⟩ := h x17 q17
  have q17 := q17.trans (cd_wh cd)
  refine ⟨o18, ?_⟩
  refine cm_X8_hasWalker (sw_X8_hasWalker h8 ab h) h (fun x19 S20 hp h g b => ?_)
  have h := h g b
  obtain ⟨-, hS, hx19⟩ := hp
  subst hS
  rw [q17] at hx19
  refine ⟨fun c2 => absurd dbo.1 (an0 hx19 c2), fun c2 => ?_⟩
  obtain ⟨a29, e29, o30, h⟩ := h.2 c2
  cases J.1.symm.trans e29
  refine ⟨_, e29, o30, ?_⟩
  refine cm_X8_hasRoad (sw_X8_hasRoad h8 ab h) h (fun x31 S32 hp h g b => ?_)
  have h := h g b
  obtain ⟨-, hS, hx31⟩ := hp
  subst hS
  refine ⟨fun c3 => no (fun z => an0 hx31 c3 z.2.1) (h.1 c3), fun c3 => ?_⟩
  have kr := an1 hx31 c3
  have h := h.2 c3
  refine cm_X9_isWay (sp_X9_isWay h) h (fun x41 S42 hp h g b => ?_)
  have h := h g b
  obtain ⟨-, hS, hx41⟩ := hp
  subst hS
  refine Iff.mp and_comm ⟨fun c4 => no (fun z => an0 hx41 c4 z.2.2) (h.2 c4), fun c4 => ?_⟩
  have kw := an1 hx41 c4
  have ok3 : onD D ∧ (¬ v1 < 0 ∧ v1 < nI (aR A)) ∧ (v2 = 0 ∨ v2 = 1) := ⟨on, kr, kw⟩
  have h := h.1 c4
  obtain ⟨a46, e46, o47, a48, e48, a49, e49, o50, h⟩ := h
  cases J.1.symm.trans e46
  cases e6.symm.trans e49
  refine ⟨_, e46, o47, _, e48, _, e49, o50, fun x51 q51 => ?_⟩
  obtain ⟨o52, i53, a54, e54, a55, e55, o56, a57, e57, o58, i59, a60, e60, o61, h⟩ := h x51 q51
  have q51 := q51.trans (cd_wh cd)
  cases J.1.symm.trans e55
  refine ⟨o52, i53, _, e54, _, e55, o56, _, e57, o58, i59, _, e60, o61, ?_⟩
  rw [q51] at e54
  have iw := ix_lt (by have := ab.2.2.2.2.1; omega) dbo.1
  have ir := ix_lt (by have := ab.2.2.2.1; omega) kr
  have wk := ((h8.2.2.2.2.1 _ e48).2.2 _ _ iw e54)
  have rd := ((h8.2.2.2.1 _ e57).2.2 _ _ ir e60)
  have bw := gb.2.2.2 _ iw
  have bd := gb.2.2.1 _ ir
  have w5 := wk.2 5 (by decide)
  have w6 := wk.2 6 (by decide)
  refine cm_X6_canGo (sp_X6_canGo (by rw [w5]; exact bw.2.2.2.2.2.1.1) (by rw [w6]; exact bw.2.2.2.2.2.2.2) h) h (fun x62 S63 hp h g b => ?_)
  have h := h g b
  obtain ⟨-, hS, hx62⟩ := hp
  subst hS
  rw [w5, w6] at hx62
  replace hx62 : ans (spOK G (dW D) v3) x62 := hx62
  refine Iff.mp and_comm ⟨fun c5 => no0 (wg2 ok3 (an0 hx62 c5)) (h.2 c5), fun c5 => ?_⟩
  have ks := an1 hx62 c5
  obtain ⟨s1, s9, sv⟩ := ok_v bw ks
  obtain ⟨o67, h⟩ := h.1 c5
  refine ⟨o67, ?_⟩
  refine cm_X5_startOf (sw_X5_startOf h) h (fun x68 S69 hp h g => ?_)
  have h := h g
  obtain ⟨-, hS, h68⟩ := hp
  subst hS
  have h68 : x68 = goB G v1 v2 := by
    rw [h68, rd.2 0 (by decide), rd.2 1 (by decide)]
    rfl
  obtain ⟨a71, e71, o72, a73, e73, o74, h⟩ := h
  cases e6.symm.trans e71
  obtain ⟨-, gg, eg, og, ng, vp, vt, vg⟩ := nw_got cd e73
  refine ⟨_, e71, o72, _, e73, o74, fun x75 q75 => ?_⟩
  have h := h x75 q75
  have q75 := q75.trans vp
  rw [h68, q75] at h ⊢
  refine Iff.mp and_comm ⟨fun c6 => no0 (wg5 ok3 ks c6) (h.2 c6), fun c6 => ?_⟩
  obtain ⟨a77, e77, o78, a79, e79, o80, h⟩ := h.1 c6
  cases e6.symm.trans e77
  cases e73.symm.trans e79
  refine ⟨_, e77, o78, _, e79, o80, fun x81 q81 => ?_⟩
  have h := h x81 q81
  have q81 := q81.trans vt
  refine cm_X5_minutesAt (sp_X5_minutesAt s1 h) h (fun x82 S83 hp h g => ?_)
  have h := h g
  obtain ⟨-, hS, h82⟩ := hp
  subst hS
  have h82 : x82 = goM G v1 v3 := by
    rw [h82, rd.2 3 (by decide)]
    rfl
  intro x84 q84
  have h := h x84 q84
  have q84 : x84 = (dN D).2.1 + goM G v1 v3 := by rw [q84, q81, h82]
  refine Iff.mp and_comm ⟨fun c7 => no0 (wg3 ok3 ks c6 (fun z => c7 (by rw [q84]; exact z))) (h.2 c7), fun c7 => ?_⟩
  have hE : (0 : Int32) = whgo A G D v1 v2 v3 := (wg0 ok3 ks c6 (by rw [← q84]; exact c7)).symm
  obtain ⟨a85, e85, o86, h⟩ := h.1 c7
  refine ⟨a85, e85, o86, ?_⟩
  refine cm_X0_keepForUndo h h (fun S87 _ h g => ?_)
  have oc := gr_ob g oc
  obtain ⟨a88, e88, a89, e89, o90, a91, e91, o92, h⟩ := h g
  refine ⟨a88, e88, a89, e89, o90, a91, e91, o92, fun x93 q93 => ?_⟩
  obtain ⟨o94, h⟩ := h x93 q93
  refine ⟨o94, ?_⟩
  refine cm_X8_hourOf h h (fun x95 S96 _ h g => ?_)
  have oc := gr_ob g oc
  obtain ⟨a97, e97, o98, h⟩ := h g
  refine ⟨a97, e97, o98, ?_⟩
  refine cm_X8_hasHour h h (fun x99 S100 _ h g b => ?_)
  have oc := gr_ob g oc
  have h := h g b
  refine ⟨fun c8 => tqL_X9_go_243 hE oc (h.1 c8), fun c8 => ?_⟩
  obtain ⟨a101, e101, o102, h⟩ := h.2 c8
  refine ⟨a101, e101, o102, ?_⟩
  refine cm_X0_rainsIn h h (fun x103 S104 _ h g b => ?_)
  have oc := gr_ob g oc
  have h := h g b
  refine ⟨fun c9 => tqL_X9_go_243 hE oc (h.1 c9), fun c9 => ?_⟩
  obtain ⟨a105, e105, a106, e106, o107, a108, e108, o109, i110, a111, e111, o112, h⟩ := h.2 c9
  refine ⟨a105, e105, a106, e106, o107, a108, e108, o109, i110, a111, e111, o112, ?_⟩
  refine cm_X1_wetOf h h (fun x113 S114 _ h g => ?_)
  have oc := gr_ob g oc
  obtain ⟨a115, e115, o116, a117, e117, a118, e118, o119, a120, e120, o121, h⟩ := h g
  refine ⟨a115, e115, o116, a117, e117, a118, e118, o119, a120, e120, o121, ?_⟩
  refine cm_X2_addFaces h h (fun S122 _ h g => ?_)
  have oc := gr_ob g oc
  exact tqL_X9_go_243 hE oc (h g)
theorem uq_X11_go (hI : IV S) (hm : HM m A G S) (ab : ABd A) (md : MDd m D S) (db : DBd A D) (h : P_X11_go m v1 v2 v3 Q S) : P_X11_go m v1 v2 v3 (fun x T => Q x T ∧ fI T m 1 = whgo A G D v1 v2 v3) S := by
  have om := md.1
  delta P_X11_go P_X11_go_0
  obtain ⟨o1, h⟩ := h
  refine ⟨o1, fun S1 s1 => ?_⟩
  have h := h S1 s1
  have md1 := md_I md s1 (by decide) (by decide) (by decide) (by decide)
  have d1 : DSm m S S1 := dm_I s1
  have hm1 := hm_ds om d1 hm
  have he := he_ds d1 (he_iv hI)
  have no0 : ∀ {k : Int32} {Q1 : Int32 → HS → Prop}, whgo A G D v1 v2 v3 = k → P_X11_refused m k (fun x3 S2 => Gr S1 S2 → Q1 x3 S2) S1 → P_X11_refused m k (fun x3 S2 => Gr S1 S2 → (Q1 x3 S2 ∧ fI S2 m 1 = whgo A G D v1 v2 v3)) S1 := by
    intro k Q1 hk h
    exact cm_X11_refused (rq_X11_refused h) h (fun x U hp h g => ⟨h g, hp.2.2.trans hk.symm⟩)
  have no : ¬ (onD D ∧ (¬ v1 < 0 ∧ v1 < nI (aR A)) ∧ (v2 = 0 ∨ v2 = 1)) → P_X11_go_29 Q m S1 → P_X11_go_29 (fun x T => Q x T ∧ fI T m 1 = whgo A G D v1 v2 v3) m S1 := by
    intro hn h
    delta P_X11_go_29
    obtain ⟨o1, h⟩ := h
    exact ⟨o1, no0 (wg1 hn) h⟩
  refine cm_X11_isDay (sm_X11_isDay hm1 md1 db h) h (fun x4 S2 hp h g b => ?_)
  have h := h g b
  obtain ⟨-, hS, hx⟩ := hp
  subst hS
  refine ⟨fun cc => no (fun z => an0 hx cc z.1) (h.1 cc), fun cc => ?_⟩
  have on := an1 hx cc
  have dbo := db_on db on
  have iw := ix_lt (by have := ab.2.2.2.2.1; omega) dbo.1
  obtain ⟨rd, hr⟩ := hm_rd hm1 db on
  have wh := md_wh md1 on
  have h := h.2 cc
  refine cm_X11_isRoad (sp_X11_isRoad hm1 h) h (fun x8 S6 hp h g b => ?_)
  have h := h g b
  obtain ⟨-, hS, hx8⟩ := hp
  subst hS
  refine ⟨fun cc => no (fun z => an0 hx8 cc ⟨⟨rd, hr⟩, z.2.1⟩) (h.1 cc), fun cc => ?_⟩
  have kr := (an1 hx8 cc).2
  have ir := ix_lt (by have := ab.2.2.2.1; omega) kr
  have h := h.2 cc
  refine cm_X11_in (sp_X11_in h) h (fun x12 S10 hp h g b => ?_)
  have h := h g b
  obtain ⟨-, hS, hx12⟩ := hp
  subst hS
  refine Iff.mp and_comm ⟨fun cc => no (fun z => an0 hx12 cc (way_in.mpr z.2.2)) (h.2 cc), fun cc => ?_⟩
  have kw := way_in.mp (an1 hx12 cc)
  have ok3 : onD D ∧ (¬ v1 < 0 ∧ v1 < nI (aR A)) ∧ (v2 = 0 ∨ v2 = 1) := ⟨on, kr, kw⟩
  have h := h.1 cc
  intro x14 q14
  have h := h x14 q14
  have q14 := q14.trans wh
  obtain ⟨b24, e24⟩ := he rd 24 hr.2.1 (by decide) (by decide)
  obtain ⟨b25, e25⟩ := he rd 25 hr.2.1 (by decide) (by decide)
  have c24 : fI S1 b24 (dW D).toNatClampNeg = gWk G (dW D).toNatClampNeg 5 := hr.2.2.2.1 24 b24 (by decide) (by decide) e24 _ iw
  have c25 : fI S1 b25 (dW D).toNatClampNeg = gWk G (dW D).toNatClampNeg 6 := hr.2.2.2.1 25 b25 (by decide) (by decide) e25 _ iw
  refine cm_X11_isSpeed (sp_X11_isSpeed hr.1 e24 e25 h) h (fun x17 S15 hp h g b => ?_)
  have h := h g b
  obtain ⟨-, hS, hx17⟩ := hp
  subst hS
  rw [q14, c24, c25] at hx17
  replace hx17 : ans (spOK G (dW D) v3) x17 := hx17
  refine Iff.mp and_comm ⟨fun cc => no0 (wg2 ok3 (an0 hx17 cc)) (h.2 cc), fun cc => ?_⟩
  have ks := an1 hx17 cc
  have h := h.1 cc
  obtain ⟨a19, e19, o19, h⟩ := h
  cases hr.1.symm.trans e19
  refine ⟨_, e19, o19, ?_⟩
  refine cm_X10_begins (sm_X10_begins hr ir h) h (fun x22 S20 hp h g => ?_)
  have h := h g
  obtain ⟨-, hS, h22⟩ := hp
  subst hS
  obtain ⟨d, ed⟩ := md_d md1
  obtain ⟨od, nv⟩ := md_now md1 ed
  obtain ⟨a23, e23, o23, i23, h⟩ := h
  cases ed.symm.trans e23
  have c0 : (0 : Int32).toNatClampNeg = 0 := by decide
  have c1 : (1 : Int32).toNatClampNeg = 1 := by decide
  refine ⟨_, e23, o23, i23, fun x25 q25 => ?_⟩
  have h := h x25 q25
  rw [c0] at q25
  have q25 := q25.trans nv.1
  rw [q25, h22] at h ⊢
  refine Iff.mp and_comm ⟨fun c2 => no0 (wg5 ok3 ks (fun z => c2 (lgc_eq.mpr (by rw [z])))) (h.2 c2), fun c2 => ?_⟩
  have kb : goB G v1 v2 = (dN D).1 := i64_inj (lgc_eq.mp c2)
  have h := h.1 c2
  obtain ⟨a27, e27, o27, i27, h⟩ := h
  cases ed.symm.trans e27
  refine ⟨_, e27, o27, i27, fun x29 q29 x30 q30 => ?_⟩
  obtain ⟨a31, e31, o31, h⟩ := h x29 q29 x30 q30
  cases hr.1.symm.trans e31
  rw [c1] at q29
  have q30 : x30 = (dN D).2.1 := by
    rw [q30, q29.trans nv.2.1, Int32.toInt32_toInt64]
  refine ⟨_, e31, o31, ?_⟩
  obtain ⟨b16, e16⟩ := he rd 16 hr.2.1 (by decide) (by decide)
  refine cm_X10_minutes (sp_X10_minutes e16 h) h (fun x34 S32 hp h g => ?_)
  have h := h g
  obtain ⟨-, hS, h34⟩ := hp
  subst hS
  have h34 : x34 = goM G v1 v3 := by
    rw [h34, hr.2.2.2.1 16 b16 (by decide) (by decide) e16 v1.toNatClampNeg ir]
    rfl
  refine Iff.mp and_comm ⟨fun c3 => no0 (wg3 ok3 ks kb (fun z => c3 (by rw [q30, h34]; exact z))) (h.2 c3), fun c3 => ?_⟩
  have hE : (0 : Int32) = whgo A G D v1 v2 v3 := (wg0 ok3 ks kb (by rw [← q30, ← h34]; exact c3)).symm
  have h := h.1 c3
  refine cm_X11_keeps h h (fun S36 _ h g => ?_)
  exact tqL_X11_go_119 hE (gr_ob g md1.1) (h g)
theorem uw_X9_stayTrouble (oc : ob S c 9) (eW : fR S c 2 = some w) (h8 : WT w A G S) (ab : ABd A) (e6 : fR S c 6 = some dy) (cd : CDd dy D S) (db : DBd A D) (h : P_X9_stayTrouble c v Q S) : P_X9_stayTrouble c v (fun x T => Q x T ∧ S = T ∧ x = whstay A G D v) S := by
  unfold whstay
  delta P_X9_stayTrouble P_X9_stayTrouble_0
  obtain ⟨o1, a1, e1, o2, h⟩ := h
  cases e6.symm.trans e1
  refine ⟨o1, _, e1, o2, ?_⟩
  refine cm_X0_isOn (sd_X0_isOn cd h) h (fun x4 S2 hp h g b => ?_)
  have h := h g b
  obtain ⟨-, hS, hx⟩ := hp
  subst hS
  refine ⟨fun cc => ⟨h.1 cc, rfl, (dc_n (an0 hx cc)).symm⟩, fun cc => ?_⟩
  have on : onD D := an1 hx cc
  have dbo := db_on db on
  obtain ⟨a6, e6a, a7, e7, o7, h⟩ := h.2 cc
  cases eW.symm.trans e6a
  cases e6.symm.trans e7
  refine ⟨_, e6a, _, e7, o7, fun x8 q8 => ?_⟩
  obtain ⟨o8, h⟩ := h x8 q8
  have q8 := q8.trans (cd_wh cd)
  refine ⟨o8, ?_⟩
  refine cm_X8_hasWalker (sw_X8_hasWalker h8 ab h) h (fun x11 S9 hp h g b => ?_)
  have h := h g b
  obtain ⟨-, hS, hx11⟩ := hp
  subst hS
  rw [q8] at hx11
  refine Iff.mp and_comm ⟨fun c2 => absurd dbo.1 (an0 hx11 c2), fun c2 => ?_⟩
  have h := h.1 c2
  refine ⟨fun c3 => ⟨h.1 c3, rfl, by rw [dc_y on, dc_n (fun z => z (Or.inl c3))]⟩, fun c3 => ?_⟩
  have h := h.2 c3
  refine Iff.mp and_comm ⟨fun c4 => ⟨h.2 c4, rfl, by rw [dc_y on, dc_n (fun z => z (Or.inr (Int32.not_le.mp c4)))]⟩, fun c4 => ?_⟩
  have nm : ¬ (v < 1 ∨ 60 < v) := fun z => z.elim c3 (fun q => absurd c4 (Int32.not_le.mpr q))
  have h := h.1 c4
  obtain ⟨a15, e15, a16, e16, o16, a17, e17, o17, h⟩ := h
  cases eW.symm.trans e15
  cases e6.symm.trans e16
  obtain ⟨-, gg, eg, og, ng, vp, vt, vg⟩ := nw_got cd e17
  refine ⟨_, e15, _, e16, o16, _, e17, o17, fun x18 q18 => ?_⟩
  obtain ⟨o18, h⟩ := h x18 q18
  have q18 := q18.trans vp
  refine ⟨o18, ?_⟩
  refine cm_X8_canWait (sw_X8_canWait h8 ab h) h (fun x21 S19 hp h g b => ?_)
  have h := h g b
  obtain ⟨-, hS, hx21⟩ := hp
  subst hS
  rw [q18] at hx21
  refine Iff.mp and_comm ⟨fun c5 => ⟨h.2 c5, rfl, by rw [dc_y on, dc_y nm, dc_n (an0 hx21 c5)]⟩, fun c5 => ?_⟩
  have cw := an1 hx21 c5
  have h := h.1 c5
  obtain ⟨a23, e23, o23, a24, e24, o24, h⟩ := h
  cases e6.symm.trans e23
  cases e17.symm.trans e24
  refine ⟨_, e23, o23, _, e24, o24, fun x25 q25 => ?_⟩
  have h := h x25 q25
  have q25 := q25.trans vt
  rw [q25] at h ⊢
  exact ⟨fun c6 => ⟨h.1 c6, rfl, by rw [dc_y on, dc_y nm, dc_y cw, dc_y c6]⟩, fun c6 => ⟨h.2 c6, rfl, by rw [dc_y on, dc_y nm, dc_y cw, dc_n c6]⟩⟩
theorem uq_X9_stay (hI : IV S) (J : CJ c r w1 w2 S) (hc : Cnt w1 A S) (ct : CtB w1 A G S S) (ab : ABd A) (e6 : fR S c 6 = some dy) (cd : CDd dy D S) (db : DBd A D) (h : P_X9_stay c v Q S) : P_X9_stay c v (fun x T => Q x T ∧ fI T c 9 = whstay A G D v) S := by
  have oc := J.2.2.2.1
  have h8 := wt_of hI J hc ct ab
  delta P_X9_stay P_X9_stay_0
  obtain ⟨o1, h⟩ := h
  refine ⟨o1, ?_⟩
  refine cm_X9_stayTrouble (uw_X9_stayTrouble oc J.1 h8 ab e6 cd db h) h (fun x3 S1 hp h g => ?_)
  have h := h g
  obtain ⟨-, hS, h3⟩ := hp
  subst hS
  refine cm_X9_refusedBy (rq_X9_refusedBy h) h (fun x6 S4 hp h g b => ?_)
  have h := h g b
  obtain ⟨-, -, V4⟩ := hp
  replace V4 := V4.trans h3
  have oc4 := gr_ob g oc
  refine Iff.mp and_comm ⟨fun cc => ⟨h.2 cc, V4⟩, fun cc => ?_⟩
  obtain ⟨a8, e8, o8, h⟩ := h.1 cc
  refine ⟨a8, e8, o8, ?_⟩
  refine cm_X0_keepForUndo (kq_X0_keepForUndo h) h (fun S9 hp h g => ?_)
  have V9 := (hp.2.2 (9, 9) (by decide) c oc4).trans V4
  have oc9 := gr_ob g oc4
  obtain ⟨a12, e12, a13, e13, o13, a14, e14, a15, e15, o15, h⟩ := h g
  refine ⟨a12, e12, a13, e13, o13, a14, e14, a15, e15, o15, fun x16 q16 => ?_⟩
  obtain ⟨o16, i16, a18, e18, a19, e19, o19, a20, e20, o20, h⟩ := h x16 q16
  refine ⟨o16, i16, a18, e18, a19, e19, o19, a20, e20, o20, fun x21 q21 => ?_⟩
  obtain ⟨o21, h⟩ := h x21 q21
  refine ⟨o21, ?_⟩
  refine cm_X8_dripOn (kq_X8_dripOn h) h (fun x24 S22 hp h g => ?_)
  have V22 := (hp.2.2 (9, 9) (by decide) c oc9).trans V9
  have h := h g
  exact fun x25 q25 => tqK_X9_stay_58 (gr_ob g oc9) V22 (h x25 q25)
theorem uq_X11_stay (hI : IV S) (hm : HM m A G S) (ab : ABd A) (gb : GBd A G) (md : MDd m D S) (db : DBd A D) (h : P_X11_stay m v Q S) : P_X11_stay m v (fun x T => Q x T ∧ fI T m 1 = whstay A G D v) S := by
  have om := md.1
  delta P_X11_stay P_X11_stay_0
  obtain ⟨o1, h⟩ := h
  refine ⟨o1, fun S1 s1 => ?_⟩
  have h := h S1 s1
  have md1 := md_I md s1 (by decide) (by decide) (by decide) (by decide)
  have d1 : DSm m S S1 := dm_I s1
  have hm1 := hm_ds om d1 hm
  have he := he_ds d1 (he_iv hI)
  have no : ∀ {k : Int32}, whstay A G D v = k → P_X11_denied m k (fun x3 S2 => Gr S1 S2 → bl x3 → (bl x3 ∧ Q x3 S2)) S1 → P_X11_denied m k (fun x3 S2 => Gr S1 S2 → bl x3 → (bl x3 ∧ (Q x3 S2 ∧ fI S2 m 1 = whstay A G D v))) S1 := by
    intro k hk h
    refine cm_X11_denied (rq_X11_denied h) h (fun x U hp h g b => ?_)
    have h := h g b
    exact ⟨h.1, h.2, hp.2.2.trans hk.symm⟩
  refine cm_X11_isDay (sm_X11_isDay hm1 md1 db h) h (fun x4 S2 hp h g b => ?_)
  have h := h g b
  obtain ⟨-, hS, hx⟩ := hp
  subst hS
  refine Iff.mp and_comm ⟨fun cc => no (dc_n (an0 hx cc)) (h.2 cc), fun cc => ?_⟩
  have on := an1 hx cc
  have dbo := db_on db on
  have mb := dbo.2.2.1
  obtain ⟨rd, hr⟩ := hm_rd hm1 db on
  have h := h.1 cc
  refine cm_X11_in (sp_X11_in h) h (fun x8 S6 hp h g b => ?_)
  have h := h g b
  obtain ⟨-, hS, hx8⟩ := hp
  subst hS
  refine Iff.mp and_comm ⟨fun cc => no (by unfold whstay; rw [dc_y on, dc_n (an0 hx8 cc)]) (h.2 cc), fun cc => ?_⟩
  have kn := an1 hx8 cc
  have e1 : (1 : Int32).toInt = 1 := by decide
  have e60 : (60 : Int32).toInt = 60 := by decide
  have n1 := nlt_i (fun z => kn (Or.inl z))
  have n2 := nlt_i (fun z => kn (Or.inr z))
  obtain ⟨d, ed⟩ := md_d md1
  obtain ⟨od, nv⟩ := md_now md1 ed
  have c0 : (0 : Int32).toNatClampNeg = 0 := by decide
  have c1 : (1 : Int32).toNatClampNeg = 1 := by decide
  obtain ⟨a10, e10, o10, i10, h⟩ := h.1 cc
  cases ed.symm.trans e10
  refine ⟨_, e10, o10, i10, fun x12 q12 x13 q13 => ?_⟩
  have h := h x12 q12 x13 q13
  rw [c0] at q12
  have q13 : x13 = (dN D).1 := by rw [q13, q12.trans nv.1, Int32.toInt32_toInt64]
  have e0 : (0 : Int32).toInt = 0 := by decide
  have hp : ¬ (dN D).1 < 0 ∧ (dN D).1 < nI (aP A) := by
    refine ⟨fun z => ?_, Int32.lt_iff_toInt_lt.mpr ?_⟩
    · have := lt_i z
      have := mb.1
      omega
    · rw [nI_i (by have := ab.2.2.1; omega)]
      exact mb.2.1
  rw [q13] at h ⊢
  refine cm_X11_canWait (sm_X11_canWait ab gb hr hp h) h (fun x16 S14 hp h g b => ?_)
  have h := h g b
  obtain ⟨-, hS, hx16⟩ := hp
  subst hS
  refine Iff.mp and_comm ⟨fun cc => no (by unfold whstay; rw [dc_y on, dc_y kn, dc_n (an0 hx16 cc)]) (h.2 cc), fun cc => ?_⟩
  have cw := an1 hx16 cc
  obtain ⟨a18, e18, o18, i18, h⟩ := h.1 cc
  cases ed.symm.trans e18
  refine ⟨_, e18, o18, i18, fun x20 q20 => ?_⟩
  have h := h x20 q20
  rw [c1] at q20
  have q20 := q20.trans nv.2.1
  have l9 := lg_999 (t := (dN D).2.1) (n := v) mb.2.2.1 mb.2.2.2.1 (by omega) (by omega)
  rw [q20] at h ⊢
  refine Iff.mp and_comm ⟨fun c3 => no (by unfold whstay; rw [dc_y on, dc_y kn, dc_y cw, dc_n (fun z => c3 (l9.mpr z))]) (h.2 c3), fun c3 => ?_⟩
  have h0 : whstay A G D v = 0 := by
    unfold whstay
    rw [dc_y on, dc_y kn, dc_y cw, dc_y (l9.mp c3)]
  have h := h.1 c3
  refine cm_X11_keeps h h (fun S22 _ h g => ?_)
  have h := h g
  exact cm_X11_stay_84 (rqL_X11_stay_84 (gr_ob g md1.1) h) h (fun x T hp hq => ⟨hq, by rw [h0]; exact hp.2.elim (fun z => z.2) (fun z => z.2)⟩)
theorem rq_X11_undo (om : ob S m 11) (h : P_X11_undo m Q S) : P_X11_undo m (fun x T => Q x T ∧ rbq 6 x (fI T m 1)) S := by
  delta P_X11_undo P_X11_undo_0
  obtain ⟨o1, h⟩ := h
  refine ⟨o1, fun S1 s1 => ?_⟩
  have h := h S1 s1
  have om1 := ob_wI om s1
  have no : ∀ T, P_X11_undo_19 Q m T → P_X11_undo_19 (fun x T => Q x T ∧ rbq 6 x (fI T m 1)) m T := fun T h => by
    delta P_X11_undo_19
    obtain ⟨o1, h⟩ := h
    refine ⟨o1, ?_⟩
    refine cm_X11_denied (rq_X11_denied h) h (fun x U hp h g b => ?_)
    have h := h g b
    exact ⟨h.1, h.2, Or.inr hp.2⟩
  refine cm_X11_isDay h h (fun x4 S2 _ h g b => ?_)
  have h := h g b
  have om2 := gr_ob g om1
  refine ⟨fun cc => no _ (h.1 cc), fun cc x6 q6 => ?_⟩
  have h := h.2 cc x6 q6
  refine Iff.mp and_comm ⟨fun c2 => no _ (h.2 c2), fun c2 => ?_⟩
  intro x8 q8 x9 q9 S10 q10
  exact rqL_X11_undo_38 (ob_wI om2 q10) (h.1 c2 x8 q8 x9 q9 S10 q10)
theorem rq_X11_back (om : ob S m 11) (h : P_X11_back m v Q S) : P_X11_back m v (fun x T => Q x T ∧ rbq 1 x (fI T m 1)) S := by
  delta P_X11_back P_X11_back_0
  obtain ⟨o1, h⟩ := h
  refine ⟨o1, fun S1 s1 => ?_⟩
  have h := h S1 s1
  have om1 := ob_wI om s1
  have no : ∀ T, P_X11_back_24 Q m T → P_X11_back_24 (fun x T => Q x T ∧ rbq 1 x (fI T m 1)) m T := fun T h => by
    delta P_X11_back_24
    obtain ⟨o1, h⟩ := h
    refine ⟨o1, ?_⟩
    refine cm_X11_denied (rq_X11_denied h) h (fun x U hp h g b => ?_)
    have h := h g b
    exact ⟨h.1, h.2, Or.inr hp.2⟩
  refine cm_X11_isDay h h (fun x4 S2 _ h g b => ?_)
  have h := h g b
  have om2 := gr_ob g om1
  refine ⟨fun cc => no _ (h.1 cc), fun cc => ?_⟩
  have h := h.2 cc
  refine ⟨fun c1 => no _ (h.1 c1), fun c1 x7 q7 => ?_⟩
  have h := h.2 c1 x7 q7
  exact ⟨fun c2 => rqL_X11_back_32 om2 (h.1 c2), fun c2 => no _ (h.2 c2)⟩
theorem uq_X11_mark (hm : HM m A G S) (md : MDd m D S) (db : DBd A D) (h : P_X11_mark m Q S) : P_X11_mark m (fun x T => Q x T ∧ fI T m 1 = whmark D) S := by
  have om := md.1
  unfold whmark
  delta P_X11_mark P_X11_mark_0
  obtain ⟨o1, h⟩ := h
  refine ⟨o1, fun S1 s1 => ?_⟩
  have h := h S1 s1
  have md1 := md_I md s1 (by decide) (by decide) (by decide) (by decide)
  have d1 : DSm m S S1 := dm_I s1
  have hm1 := hm_ds om d1 hm
  refine cm_X11_isDay (sm_X11_isDay hm1 md1 db h) h (fun x4 S2 hp h g b => ?_)
  have h := h g b
  obtain ⟨-, hS, hx⟩ := hp
  subst hS
  refine Iff.mp and_comm ⟨fun cc => ?_, fun cc => ?_⟩
  · have h := h.2 cc
    exact cm_X11_refused (rq_X11_refused h) h (fun x U hp h g => ⟨h g, hp.2.2.trans (dc_n (an0 hx cc)).symm⟩)
  have on := an1 hx cc
  have om1 := md1.1
  obtain ⟨-, d, p, k, ms, mv⟩ := md1
  intro x6 q6
  have h := h.1 cc x6 q6
  have q6 := q6.trans mv.2.2.2.1
  have k3 := mv.2.2.2.2.2.1
  have n6 : x6.toInt = (dK D : Int) := by rw [q6, nI_i (by omega)]
  have e3 : (3 : Int32).toInt = 3 := by decide
  refine Iff.mp and_comm ⟨fun c2 => ?_, fun c2 => ?_⟩
  · have h := h.2 c2
    rw [c2] at n6
    have hk : ¬ dK D < 3 := by omega
    exact cm_X11_refused (rq_X11_refused h) h (fun x U hp h g => ⟨h g, hp.2.2.trans (by rw [dc_y on, dc_n hk])⟩)
  have hk : dK D < 3 := by
    have : ¬ dK D = 3 := fun z => c2 (by rw [q6, z]; rfl)
    omega
  exact tqL_X11_mark_34 (by rw [dc_y on, dc_y hk]) om1 (h.1 c2)
end C83
/-! trouble: what each command leaves, in one form -/
section C84
variable {c m : Nat} {A : AS} {G : GC} {D : DY} {S : HS} {v v1 v2 v3 v4 v5 v6 : Int32} {Q : Int32 → HS → Prop}
theorem tq_X9_minutes (hI : IV S) (oc : ob S c 9) {rr w1 w2 : Nat} (J : CJ c rr w1 w2 S) (hc : Cnt w1 A S) (ct : CtB w1 A G S S) (ab : ABd A) (gb : GBd A G) (ge : GBe A G) {lgo b0 b1 : Nat} (lg : LG c lgo b0 b1 S) {dy : Nat} (e6 : fR S c 6 = some dy) (cd : CDd dy D S) (db : DBd A D) (wd : WYd c A G S) (h : P_X9_minutes c v1 v2 v3 Q S) : P_X9_minutes c v1 v2 v3 (fun x T => Q x T ∧ fI T c 9 = whminutes A G v1 v2 v3) S := uq_X9_minutes hI J hc ct ab gb h
theorem tq_X11_minutes (hI : IV S) (oc : ob S m 11) (hm : HM m A G S) (ab : ABd A) (gb : GBd A G) (ge : GBe A G) (md : MDd m D S) (db : DBd A D) (h : P_X11_minutes m v1 v2 v3 Q S) : P_X11_minutes m v1 v2 v3 (fun x T => Q x T ∧ fI T m 1 = whminutes A G v1 v2 v3) S := uq_X11_minutes hI hm ab h
theorem tq_X9_driest (hI : IV S) (oc : ob S c 9) {rr w1 w2 : Nat} (J : CJ c rr w1 w2 S) (hc : Cnt w1 A S) (ct : CtB w1 A G S S) (ab : ABd A) (gb : GBd A G) (ge : GBe A G) {lgo b0 b1 : Nat} (lg : LG c lgo b0 b1 S) {dy : Nat} (e6 : fR S c 6 = some dy) (cd : CDd dy D S) (db : DBd A D) (wd : WYd c A G S) (h : P_X9_driest c v1 v2 v3 Q S) : P_X9_driest c v1 v2 v3 (fun x T => Q x T ∧ fI T c 9 = whdriest A v1 v2 v3) S := uq_X9_driest hI J hc ab h
theorem tq_X11_driest (hI : IV S) (oc : ob S m 11) (hm : HM m A G S) (ab : ABd A) (gb : GBd A G) (ge : GBe A G) (md : MDd m D S) (db : DBd A D) (h : P_X11_driest m v1 v2 v3 Q S) : P_X11_driest m v1 v2 v3 (fun x T => Q x T ∧ fI T m 1 = whdriest A v1 v2 v3) S := cm_X11_driest (tl_X11_driest hI hm ab gb h) (uq_X11_driest hI hm h) (fun x T hp hq => ⟨hq.1, wh_driest ab hp.2 hq.2⟩)
theorem tq_X9_fit (hI : IV S) (oc : ob S c 9) {rr w1 w2 : Nat} (J : CJ c rr w1 w2 S) (hc : Cnt w1 A S) (ct : CtB w1 A G S S) (ab : ABd A) (gb : GBd A G) (ge : GBe A G) {lgo b0 b1 : Nat} (lg : LG c lgo b0 b1 S) {dy : Nat} (e6 : fR S c 6 = some dy) (cd : CDd dy D S) (db : DBd A D) (wd : WYd c A G S) (h : P_X9_fit c v1 v2 Q S) : P_X9_fit c v1 v2 (fun x T => Q x T ∧ fI T c 9 = whfit A G v1 v2) S := cm_X9_fit (tl_X9_fit hI J hc ct ab gb ge lg h) (rq_X9_fit h) (fun x T hp hq => ⟨hq.1, rl_dc hq.2 hp.2⟩)
theorem tq_X11_fit (hI : IV S) (oc : ob S m 11) (hm : HM m A G S) (ab : ABd A) (gb : GBd A G) (ge : GBe A G) (md : MDd m D S) (db : DBd A D) (td : Tld m A S) (h : P_X11_fit m v1 v2 Q S) : P_X11_fit m v1 v2 (fun x T => Q x T ∧ fI T m 1 = whfit A G v1 v2) S := cm_X11_fit (tl_X11_fit hI hm ab gb ge td h) (rq_X11_fit h) (fun x T hp hq => ⟨hq.1, rl_dc hq.2 hp.2⟩)
theorem tq_X9_step (hI : IV S) (oc : ob S c 9) {rr w1 w2 : Nat} (J : CJ c rr w1 w2 S) (hc : Cnt w1 A S) (ct : CtB w1 A G S S) (ab : ABd A) (gb : GBd A G) (ge : GBe A G) {lgo b0 b1 : Nat} (lg : LG c lgo b0 b1 S) {dy : Nat} (e6 : fR S c 6 = some dy) (cd : CDd dy D S) (db : DBd A D) (wd : WYd c A G S) (h : P_X9_step c v1 v2 v3 v4 v5 v6 Q S) : P_X9_step c v1 v2 v3 v4 v5 v6 (fun x T => Q x T ∧ fI T c 9 = whstep A G v1 v2 v3 v4 v5 v6) S := uq_X9_step hI oc ab gb ge J.1 (wt_of hI J hc ct ab) lg wd h
theorem tq_X11_step (hI : IV S) (oc : ob S m 11) (hm : HM m A G S) (ab : ABd A) (gb : GBd A G) (ge : GBe A G) (md : MDd m D S) (db : DBd A D) (h : P_X11_step m v1 v2 v3 v4 v5 v6 Q S) : P_X11_step m v1 v2 v3 v4 v5 v6 (fun x T => Q x T ∧ fI T m 1 = whstep A G v1 v2 v3 v4 v5 v6) S := cm_X11_step (tlr_X11_step hI oc hm ab gb ge h) (uq_X11_step hI oc hm ab gb ge h) (fun x T hp hq => ⟨hq.1, by rw [hq.2, hp.2]; rfl⟩)
theorem tq_X9_off (hI : IV S) (oc : ob S c 9) {rr w1 w2 : Nat} (J : CJ c rr w1 w2 S) (hc : Cnt w1 A S) (ct : CtB w1 A G S S) (ab : ABd A) (gb : GBd A G) (ge : GBe A G) {lgo b0 b1 : Nat} (lg : LG c lgo b0 b1 S) {dy : Nat} (e6 : fR S c 6 = some dy) (cd : CDd dy D S) (db : DBd A D) (wd : WYd c A G S) (h : P_X9_off c v1 v2 v3 v4 Q S) : P_X9_off c v1 v2 v3 v4 (fun x T => Q x T ∧ fI T c 9 = whoff A G v1 v2 v3 v4) S := cm_X9_off (tl_X9_off hI oc ab gb ge J.1 (wt_of hI J hc ct ab) lg wd h) (uq_X9_off oc ab J.1 (wt_of hI J hc ct ab) h) (fun x T hp hq => ⟨hq.1, by rw [hq.2, hp.2.1]; rfl⟩)
theorem tq_X11_off (hI : IV S) (oc : ob S m 11) (hm : HM m A G S) (ab : ABd A) (gb : GBd A G) (ge : GBe A G) (md : MDd m D S) (db : DBd A D) (h : P_X11_off m v1 v2 v3 v4 Q S) : P_X11_off m v1 v2 v3 v4 (fun x T => Q x T ∧ fI T m 1 = whoff A G v1 v2 v3 v4) S := cm_X11_off (tlr_X11_off hI oc hm ab gb ge h) (uq_X11_off hI hm h) (fun x T hp hq => ⟨hq.1, by rw [hq.2, hp.2]; rfl⟩)
theorem tq_X9_go (hI : IV S) (oc : ob S c 9) {rr w1 w2 : Nat} (J : CJ c rr w1 w2 S) (hc : Cnt w1 A S) (ct : CtB w1 A G S S) (ab : ABd A) (gb : GBd A G) (ge : GBe A G) {lgo b0 b1 : Nat} (lg : LG c lgo b0 b1 S) {dy : Nat} (e6 : fR S c 6 = some dy) (cd : CDd dy D S) (db : DBd A D) (wd : WYd c A G S) (h : P_X9_go c v1 v2 v3 Q S) : P_X9_go c v1 v2 v3 (fun x T => Q x T ∧ fI T c 9 = whgo A G D v1 v2 v3) S := uq_X9_go hI J hc ct ab gb e6 cd db h
theorem tq_X11_go (hI : IV S) (oc : ob S m 11) (hm : HM m A G S) (ab : ABd A) (gb : GBd A G) (ge : GBe A G) (md : MDd m D S) (db : DBd A D) (h : P_X11_go m v1 v2 v3 Q S) : P_X11_go m v1 v2 v3 (fun x T => Q x T ∧ fI T m 1 = whgo A G D v1 v2 v3) S := uq_X11_go hI hm ab md db h
theorem tq_X9_stay (hI : IV S) (oc : ob S c 9) {rr w1 w2 : Nat} (J : CJ c rr w1 w2 S) (hc : Cnt w1 A S) (ct : CtB w1 A G S S) (ab : ABd A) (gb : GBd A G) (ge : GBe A G) {lgo b0 b1 : Nat} (lg : LG c lgo b0 b1 S) {dy : Nat} (e6 : fR S c 6 = some dy) (cd : CDd dy D S) (db : DBd A D) (wd : WYd c A G S) (h : P_X9_stay c v Q S) : P_X9_stay c v (fun x T => Q x T ∧ fI T c 9 = whstay A G D v) S := uq_X9_stay hI J hc ct ab e6 cd db h
theorem tq_X11_stay (hI : IV S) (oc : ob S m 11) (hm : HM m A G S) (ab : ABd A) (gb : GBd A G) (ge : GBe A G) (md : MDd m D S) (db : DBd A D) (h : P_X11_stay m v Q S) : P_X11_stay m v (fun x T => Q x T ∧ fI T m 1 = whstay A G D v) S := uq_X11_stay hI hm ab gb md db h
theorem tq_X9_undo (hI : IV S) (oc : ob S c 9) {rr w1 w2 : Nat} (J : CJ c rr w1 w2 S) (hc : Cnt w1 A S) (ct : CtB w1 A G S S) (ab : ABd A) (gb : GBd A G) (ge : GBe A G) {lgo b0 b1 : Nat} (lg : LG c lgo b0 b1 S) {dy : Nat} (e6 : fR S c 6 = some dy) (cd : CDd dy D S) (db : DBd A D) (wd : WYd c A G S) (h : P_X9_undo c Q S) : P_X9_undo c (fun x T => Q x T ∧ fI T c 9 = whundo D) S := cm_X9_undo (tl_X9_undo oc e6 cd h) (rq_X9_undo h) (fun x T hp hq => ⟨hq.1, rb_dc hq.2 hp.2.1⟩)
theorem tq_X11_undo (hI : IV S) (oc : ob S m 11) (hm : HM m A G S) (ab : ABd A) (gb : GBd A G) (ge : GBe A G) (md : MDd m D S) (db : DBd A D) (h : P_X11_undo m Q S) : P_X11_undo m (fun x T => Q x T ∧ fI T m 1 = whundo D) S := cm_X11_undo (tl_X11_undo hm md db h) (rq_X11_undo oc h) (fun x T hp hq => ⟨hq.1, rb_dc hq.2 hp.2.1⟩)
theorem tq_X9_mark (hI : IV S) (oc : ob S c 9) {rr w1 w2 : Nat} (J : CJ c rr w1 w2 S) (hc : Cnt w1 A S) (ct : CtB w1 A G S S) (ab : ABd A) (gb : GBd A G) (ge : GBe A G) {lgo b0 b1 : Nat} (lg : LG c lgo b0 b1 S) {dy : Nat} (e6 : fR S c 6 = some dy) (cd : CDd dy D S) (db : DBd A D) (wd : WYd c A G S) (h : P_X9_mark c Q S) : P_X9_mark c (fun x T => Q x T ∧ fI T c 9 = whmark D) S := cm_X9_mark (tl_X9_mark oc e6 cd h) (uq_X9_mark e6 cd h) (fun x T hp hq => ⟨hq.1, wh_mark hp.2.1 (by obtain ⟨_, _, _, _, _, _, cv⟩ := cd; exact cv.2.2.2.2.2.1) hq.2⟩)
theorem tq_X11_mark (hI : IV S) (oc : ob S m 11) (hm : HM m A G S) (ab : ABd A) (gb : GBd A G) (ge : GBe A G) (md : MDd m D S) (db : DBd A D) (h : P_X11_mark m Q S) : P_X11_mark m (fun x T => Q x T ∧ fI T m 1 = whmark D) S := uq_X11_mark hm md db h
theorem tq_X9_back (hI : IV S) (oc : ob S c 9) {rr w1 w2 : Nat} (J : CJ c rr w1 w2 S) (hc : Cnt w1 A S) (ct : CtB w1 A G S S) (ab : ABd A) (gb : GBd A G) (ge : GBe A G) {lgo b0 b1 : Nat} (lg : LG c lgo b0 b1 S) {dy : Nat} (e6 : fR S c 6 = some dy) (cd : CDd dy D S) (db : DBd A D) (wd : WYd c A G S) (h : P_X9_back c v Q S) : P_X9_back c v (fun x T => Q x T ∧ fI T c 9 = whback D v) S := cm_X9_back (tl_X9_back oc e6 cd h) (rq_X9_back h) (fun x T hp hq => ⟨hq.1, rb_dc hq.2 hp.2.1⟩)
theorem tq_X11_back (hI : IV S) (oc : ob S m 11) (hm : HM m A G S) (ab : ABd A) (gb : GBd A G) (ge : GBe A G) (md : MDd m D S) (db : DBd A D) (h : P_X11_back m v Q S) : P_X11_back m v (fun x T => Q x T ∧ fI T m 1 = whback D v) S := cm_X11_back (tl_X11_back hm md db h) (rq_X11_back oc h) (fun x T hp hq => ⟨hq.1, rb_dc hq.2 hp.2.1⟩)
end C84
/-! trouble: world, and what leaves it -/
section C85
variable {c m t : Nat} {f : Nat → Int32} {v1 x y : Int32} {S S' T U : HS} {wi wr wi' wr' : List (Nat × Nat)} {Q : Int32 → HS → Prop}
theorem wc_tr (ht : t ≤ 900) (h : WCd S f t v1 c x T) (g : WMd S' f t v1 m y U) : fI T c 9 = fI U m 1 := by
  rcases wc_both ht h g with ⟨-, -, h1, -, g1, -⟩ | ⟨R, h3, g3⟩
  · rw [h1, g1]
  · cases R with
    | inl A => exact h3.2.2.trans g3.2.2.1.symm
    | inr e => exact h3.2.2.2.trans g3.2.2.1.symm
theorem tr_world (ht : t ≤ 900) (h : WCd S f t v1 c x T) (g : WMd T f t v1 m y U) (oc : ob T c 9) (F : FRI wi wr T U) (h9 : (9, 9) ∉ wi) : fI U c 9 = fI U m 1 := (F.1 9 9 (by decide) h9 c oc).trans (wc_tr ht h g)
theorem tr_fri (h : fI S c 9 = fI S m 1) (oc : ob S c 9) (om : ob S m 11) (F : FRI wi wr S T) (h9 : (9, 9) ∉ wi) (h1 : (11, 1) ∉ wi) : fI T c 9 = fI T m 1 := (F.1 9 9 (by decide) h9 c oc).trans (h.trans (F.1 11 1 (by decide) h1 m om).symm)
theorem tv_X9_trouble (h : P_X9_trouble c Q S) : P_X9_trouble c (fun x T => Q x T ∧ x = fI S c 9) S := by
  delta P_X9_trouble P_X9_trouble_0
  obtain ⟨o, h⟩ := h
  exact ⟨o, fun x e => ⟨h x e, e⟩⟩
theorem tv_X11_trouble (h : P_X11_trouble m Q S) : P_X11_trouble m (fun x T => Q x T ∧ x = fI S m 1) S := by
  delta P_X11_trouble P_X11_trouble_0
  obtain ⟨o, h⟩ := h
  exact ⟨o, fun S1 e1 x e => ⟨h S1 e1 x e, e.trans ((congrFun (row_I e1) 1).trans (va_up_ne _ _ (by decide)))⟩⟩
end C85
end
