section MLines4
variable {f : Nat → Int32} {n a rd nm ns nk p : Nat} {A : AS} {σ : Res} {Q : Int32 → HS → Prop} {QU : HS → Prop} {S T : HS} {v0 : Nat}
theorem kn_inl {p q : Nat} {v1 : Int32} (h : sKn f n p A v1 = .inl q) : q = p ∧ nmOk f n p ∧ ∃ k, lkr (aV A) (aI A) (tV f n p) (aM A) 0 = some k ∧ (if k < 8 then (0 : Int32) else 1) = v1 := by
  unfold sKn at h
  by_cases hk : nmOk f n p
  · rw [dc_y hk] at h
    cases hl : lkr (aV A) (aI A) (tV f n p) (aM A) 0 with
    | none => rw [hl] at h; cases h
    | some k =>
      rw [hl] at h
      have h : dc ((if k < 8 then (0 : Int32) else 1) = v1) (.inl p : Res) (.inr (2, tSt f n p)) = .inl q := h
      by_cases hc : (if k < 8 then (0 : Int32) else 1) = v1
      · rw [dc_y hc] at h
        cases h
        exact ⟨rfl, hk, k, rfl, hc⟩
      · rw [dc_n hc] at h; cases h
  · rw [dc_n hk] at h; cases h
theorem k_lt8 {k : Nat} (h : (if k < 8 then (0 : Int32) else 1) = 0) : k < 8 := by
  by_cases hk : k < 8
  · exact hk
  · rw [if_neg hk] at h; exact absurd h (by decide)
theorem k_ge8 {k : Nat} (h : (if k < 8 then (0 : Int32) else 1) = 1) : ¬ k < 8 := by
  intro hk
  rw [if_pos hk] at h; exact absurd h (by decide)
theorem gs_k {v1 : Int32} : ∀ q, rb σ (fun p => sKn f n p A v1) = .inl q → tS f n q ≠ 6 := fun q z => by
  obtain ⟨p, -, h⟩ := rb_inl z
  have := kn_inl h
  rw [this.1, this.2.1.1]; decide
theorem spb_kn {p : Nat} {other : Option Nat} : sPB f n p A other = rb (sKn f n p A 0) (fun q => dc (lkr (aV A) (aI A) (tV f n p) (aM A) 0 = other) (.inr (3, tSt f n q)) (.inl (tEn f n q))) := by
  unfold sPB sKn
  by_cases hk : nmOk f n p
  · rw [dc_y hk, dc_y hk]
    cases hl : lkr (aV A) (aI A) (tV f n p) (aM A) 0 with
    | none => rfl
    | some k =>
      show (if k < 8 then (if some k = other then (.inr (3, tSt f n p) : Res) else .inl (tEn f n p)) else .inr (2, tSt f n p)) = rb (dc ((if k < 8 then (0 : Int32) else 1) = 0) (.inl p) (.inr (2, tSt f n p))) _
      by_cases h8 : k < 8
      · rw [if_pos h8, dc_y (by rw [if_pos h8])]
        show _ = dc (some k = other) _ _
        by_cases ho : some k = other
        · rw [if_pos ho, dc_y ho]
        · rw [if_neg ho, dc_n ho]
      · rw [if_neg h8, dc_n (by rw [if_neg h8]; decide)]; rfl
  · rw [dc_n hk, dc_n hk]; rfl
theorem spb_none {p : Nat} : sPB f n p A none = rb (sKn f n p A 0) (fun q => .inl (tEn f n q)) := by
  rw [spb_kn]
  refine rb_cg (fun q hq => ?_)
  obtain ⟨-, -, k, hk, -⟩ := kn_inl hq
  rw [dc_n (by rw [hk]; exact fun z => by cases z)]
theorem road_A {R : Res} {e : Nat × Nat} (h : rb (rb (rb (rb (rb R (fun p => sKn f n p A 0)) (fun p => .inl (tEn f n p))) (fun p => sSide f n p)) (fun p => sWhole f n p (1 : Int32).toInt64 (60 : Int32).toInt64)) (fun p => sKn f n p A 0) = .inr e) : rb R (fun p => sRoad f n p A) = .inr e := by
  rw [l64_1, l64_60] at h
  cases R with
  | inr x => exact h
  | inl p1 =>
    show sRoad f n p1 A = _
    unfold sRoad
    rw [spb_none]
    revert h
    show rb (rb (rb (rb (sKn f n p1 A 0) _) _) _) _ = _ → rb (rb (sKn f n p1 A 0) _) _ = _
    cases sKn f n p1 A 0 with
    | inr x => exact id
    | inl q =>
      show rb (rb (sSide f n (tEn f n q)) _) _ = _ → rb (sSide f n (tEn f n q)) _ = _
      cases sSide f n (tEn f n q) with
      | inr x => exact id
      | inl q2 =>
        show rb (sWhole f n q2 1 60) _ = _ → rb (sWhole f n q2 1 60) _ = _
        cases sWhole f n q2 1 60 with
        | inr x => exact id
        | inl q3 =>
          intro h
          show rb (sPB f n q3 A _) _ = _
          rw [spb_kn]
          have h : sKn f n q3 A 0 = .inr e := h
          rw [h]; rfl
theorem road_B {R : Res} {p5 : Nat} (h : rb (rb (rb (rb (rb R (fun p => sKn f n p A 0)) (fun p => .inl (tEn f n p))) (fun p => sSide f n p)) (fun p => sWhole f n p (1 : Int32).toInt64 (60 : Int32).toInt64)) (fun p => sKn f n p A 0) = .inl p5) : ∃ p1 k1 p2 k2, R = .inl p1 ∧ sKn f n p1 A 0 = .inl p1 ∧ lkr (aV A) (aI A) (tV f n p1) (aM A) 0 = some k1 ∧ k1 < 8 ∧ sSide f n (tEn f n p1) = .inl p2 ∧ sWhole f n p2 (1 : Int32).toInt64 (60 : Int32).toInt64 = .inl p5 ∧ sKn f n p5 A 0 = .inl p5 ∧ lkr (aV A) (aI A) (tV f n p5) (aM A) 0 = some k2 ∧ k2 < 8 ∧ nmOk f n p5 := by
  obtain ⟨q4, h4, g5⟩ := rb_inl h
  obtain ⟨q3, h3, g4⟩ := rb_inl h4
  obtain ⟨q2, h2, g3⟩ := rb_inl h3
  obtain ⟨q1, h1, g2⟩ := rb_inl h2
  obtain ⟨q0, h0, g1⟩ := rb_inl h1
  have a1 := kn_inl g1
  have a5 := kn_inl g5
  obtain ⟨e1, -, k1, l1, m1⟩ := a1
  obtain ⟨e5, n5, k2, l5, m5⟩ := a5
  subst e1
  subst e5
  cases g2
  exact ⟨q1, k1, q3, k2, h0, g1, l1, k_lt8 m1, g3, g4, g5, l5, k_lt8 m5, n5⟩
theorem road_2 {R : Res} {p1 k1 p2 k2 p5 : Nat} (r1 : R = .inl p1) (r2 : sKn f n p1 A 0 = .inl p1) (r3 : lkr (aV A) (aI A) (tV f n p1) (aM A) 0 = some k1) (r5 : sSide f n (tEn f n p1) = .inl p2) (r6 : sWhole f n p2 (1 : Int32).toInt64 (60 : Int32).toInt64 = .inl p5) (r7 : sKn f n p5 A 0 = .inl p5) (r8 : lkr (aV A) (aI A) (tV f n p5) (aM A) 0 = some k2) : rb R (fun p => sRoad f n p A) = rb (dc (k2 = k1) (.inr (3, tSt f n p5)) (.inl (tEn f n p5))) (fun p4 => dc (isW f n p4 17) (sPart f n p4 17 0 (tV f n p2).toInt32.toInt64) (.inl p4)) := by
  rw [l64_1, l64_60] at r6
  rw [r1]
  show sRoad f n p1 A = _
  unfold sRoad
  rw [spb_none, r2]
  show rb (sSide f n (tEn f n p1)) _ = _
  rw [r5]
  show rb (sWhole f n p2 1 60) _ = _
  rw [r6]
  show rb (sPB f n p5 A _) _ = _
  rw [spb_kn, r7, r3, r8]
  show rb (dc (some k2 = some k1) _ _) _ = _
  by_cases hk : k2 = k1
  · rw [dc_y hk, dc_y (by rw [hk])]
  · rw [dc_n hk, dc_n (fun z => hk (by cases z; rfl))]
set_option maxHeartbeats 1000000 in
theorem sp_X11_readRoad (h : P_X11_readRoad v0 QU S) (M : MS f n a v0 (.inl p) S) (W : RMw v0 rd nm ns nk A S) (hg : ∀ q, (.inl p : Res) = .inl q → tS f n q ≠ 6) : P_X11_readRoad v0 (fun T => QU T ∧ LBm f n a v0 rd nm ns nk (rb (sRoom f n p (aH A) (aR A) 12) fun p => sRoad f n p A) (up3 A) T) S := by
  delta P_X11_readRoad P_X11_readRoad_0
  obtain ⟨oq1, h⟩ := h
  refine ⟨oq1, ?_⟩
  obtain ⟨aq2, eaq2, h⟩ := h
  refine ⟨aq2, eaq2, ?_⟩
  cases W.1.symm.trans eaq2
  obtain ⟨oq3, h⟩ := h
  refine ⟨oq3, ?_⟩
  intro xq4 exq4
  have h := h xq4 exq4
  refine cm_X11_begins (sp_X11_begins (c := aR A) (k := 12) h M W hg (exq4.trans W.2.2.1.2.2.2.1) rfl W.2.2.2.2.1.2.2.2.1 (by decide) (fun z => by have := W.2.2.2.2.2 z; omega)) h (fun Sq5 hp h gq6 => ?_)
  have h := h gq6
  obtain ⟨-, M, G⟩ := hp
  have W := rm_F W G
  refine cm_X11_known (sp_X11_known h M W) h (fun xq7 Sq8 hp h gq9 => ?_)
  have h := h gq9
  obtain ⟨-, M, G, Vxq7⟩ := hp
  have W := rm_F W G
  refine cm_X11_goesOn (sp_X11_goesOn h M gs_k) h (fun Sq10 hp h gq11 => ?_)
  have h := h gq11
  obtain ⟨-, M, G⟩ := hp
  have W := rm_F W G
  refine cm_X11_readSide (sp_X11_readSide h M) h (fun xq12 Sq13 hp h gq14 => ?_)
  have h := h gq14
  obtain ⟨-, M, G, Vxq12⟩ := hp
  have W := rm_F W G
  refine cm_X11_readWhole (sp_X11_readWhole h M) h (fun xq15 Sq16 hp h gq17 => ?_)
  have h := h gq17
  obtain ⟨-, M, G, Vxq15⟩ := hp
  have W := rm_F W G
  refine cm_X11_known (sp_X11_known h M W) h (fun xq18 Sq19 hp h gq20 => ?_)
  have h := h gq20
  obtain ⟨-, M, G, Vxq18⟩ := hp
  have W := rm_F W G
  intro xq21 exq21
  have h := h xq21 exq21
  refine ⟨?_, ?_⟩
  · intro cq22
    obtain ⟨e0, he0⟩ := (ms_9 M).2.2.2.2.mp (exq21.symm.trans cq22)
    have M := ms_eq M he0
    have HL : (rb (sRoom f n p (aH A) (aR A) 12) fun p => sRoad f n p A) = .inr e0 := road_A (R := sRoom f n p (aH A) (aR A) 12) he0
    have h := h.1 cq22
    delta P_X11_readRoad_62
    obtain ⟨oq23, h⟩ := h
    refine ⟨oq23, ?_⟩
    refine cm_X11_goesOn (sp_X11_goesOn h M (fun q z => by cases z)) h (fun Sq24 hp h gq25 => ?_)
    have h := h gq25
    obtain ⟨-, M, G⟩ := hp
    have W := rm_F W G
    have M : MS f n a v0 (.inr e0) _ := M
    refine cm_X11_eatsWord (sp_X11_eatsWord (w := 17) h M (by decide)) h (fun xq26 Sq27 hp h gq28 bq29 => ?_)
    have h := h gq28 bq29
    obtain ⟨-, M, G, Vxq26⟩ := hp
    have W := rm_F W G
    refine ⟨?_, ?_⟩
    · intro cq30
      have Ncq30 := an0 Vxq26 cq30
      have M := ms_eq M (rb_idd (fun p hp => (dc_n (hw_np Ncq30 hp)).symm)).symm
      have M : MS f n a v0 (.inr e0) _ := M
      have h := h.1 cq30
      delta P_X11_readRoad_85
      obtain ⟨oq31, h⟩ := h
      refine ⟨oq31, ?_⟩
      intro xq32 exq32
      have h := h xq32 exq32
      refine ⟨?_, ?_⟩
      · intro cq33
        exact absurd (exq32.trans M.2.1.1) cq33
      · intro cq72
        have h := h.2 cq72
        exact ⟨h, lm_ov M HL.symm (exq32.symm.trans cq72)⟩
    · intro cq73
      have Ncq73 := an1 Vxq26 cq73
      exact Ncq73.elim
  · intro cq119
    obtain ⟨p5, h5⟩ := ms_ok M (fun z => cq119 (exq21.trans z))
    obtain ⟨p1, k1, p2, k2, r1, r2, r3, r4, r5, r6, r7, r8, r9, r10⟩ := road_B (R := sRoom f n p (aH A) (aR A) 12) h5
    have HL0 := road_2 r1 r2 r3 r5 r6 r7 r8
    have M := ms_eq M h5
    have rk := room_ok r1
    have t0 : rb (rb (.inl p : Res) (fun p => sRoom f n p (aH A) (aR A) 12)) (fun p => sKn f n p A 0) = .inl p1 := by
      show rb (sRoom f n p (aH A) (aR A) 12) _ = _
      rw [r1]; exact r2
    have t2 : rb (rb (rb (rb (.inl p : Res) (fun p => sRoom f n p (aH A) (aR A) 12)) (fun p => sKn f n p A 0)) (fun p => .inl (tEn f n p))) (fun p => sSide f n p) = .inl p2 := by
      rw [t0]; exact r5
    have t3 : rb (rb (rb (rb (rb (.inl p : Res) (fun p => sRoom f n p (aH A) (aR A) 12)) (fun p => sKn f n p A 0)) (fun p => .inl (tEn f n p))) (fun p => sSide f n p)) (fun p => sWhole f n p (1 : Int32).toInt64 (60 : Int32).toInt64) = .inl p5 := by
      rw [t2]; exact r6
    obtain ⟨j1, z1, y1⟩ := Vxq7 p1 p1 r1 r2
    cases r3.symm.trans z1
    obtain ⟨j2, z2, y2⟩ := Vxq18 p5 p5 t3 r7
    cases r8.symm.trans z2
    rw [if_pos r4] at y1
    rw [if_pos r9] at y2
    have y3 : xq15.toInt64 = tV f n p2 := Vxq15 p2 p5 t2 r6
    have y4 : (tV f n p2).toInt32.toInt64 = xq15.toInt64 := by rw [← y3, Int32.toInt32_toInt64]
    have h := h.2 cq119
    refine ⟨?_, ?_⟩
    · intro cq120
      have kn : ¬ k2 = k1 := fun z => cq120 (by rw [y1, y2, z])
      rw [dc_n kn] at HL0
      have h := h.1 cq120
      delta P_X11_readRoad_62
      obtain ⟨oq121, h⟩ := h
      refine ⟨oq121, ?_⟩
      refine cm_X11_goesOn (sp_X11_goesOn h M (fun q z => by cases z; rw [r10.1]; decide)) h (fun Sq122 hp h gq123 => ?_)
      have h := h gq123
      obtain ⟨-, M, G⟩ := hp
      have W := rm_F W G
      have M : MS f n a v0 (.inl (tEn f n p5)) _ := M
      refine cm_X11_eatsWord (sp_X11_eatsWord (w := 17) h M (by decide)) h (fun xq124 Sq125 hp h gq126 bq127 => ?_)
      have h := h gq126 bq127
      obtain ⟨-, M, G, Vxq124⟩ := hp
      have W := rm_F W G
      refine ⟨?_, ?_⟩
      · intro cq128
        have Ncq128 := an0 Vxq124 cq128
        have M := ms_eq M (rb_idd (fun p hp => (dc_n (hw_np Ncq128 hp)).symm)).symm
        have Ncq128 : ¬ isW f n (tEn f n p5) 17 := Ncq128
        have h := h.1 cq128
        delta P_X11_readRoad_85
        obtain ⟨oq129, h⟩ := h
        refine ⟨oq129, ?_⟩
        intro xq130 exq130
        have h := h xq130 exq130
        refine ⟨?_, ?_⟩
        · intro cq131
          have EQ : (.inl (tEn f n p5) : Res) = (rb (sRoom f n p (aH A) (aR A) 12) fun p => sRoad f n p A) := by
            rw [HL0]
            show (.inl (tEn f n p5) : Res) = dc (isW f n (tEn f n p5) 17) _ _
            rw [dc_n Ncq128]
          have M := ms_eq M EQ
          have h := h.1 cq131
          obtain ⟨aq132, eaq132, h⟩ := h
          refine ⟨aq132, eaq132, ?_⟩
          cases W.1.symm.trans eaq132
          obtain ⟨oq133, h⟩ := h
          refine ⟨oq133, ?_⟩
          intro xq134 exq134
          have h := h xq134 exq134
          obtain ⟨aq135, eaq135, h⟩ := h
          refine ⟨aq135, eaq135, ?_⟩
          cases W.1.symm.trans eaq135
          obtain ⟨oq136, h⟩ := h
          refine ⟨oq136, ?_⟩
          obtain ⟨aq137, eaq137, h⟩ := h
          refine ⟨aq137, eaq137, ?_⟩
          obtain ⟨oq138, h⟩ := h
          refine ⟨oq138, ?_⟩
          obtain ⟨oq139, h⟩ := h
          refine ⟨oq139, ?_⟩
          intro Sq140 eSq140
          have h := h Sq140 eSq140
          obtain ⟨M, W⟩ := wr_I M W eaq137 oq138 eSq140 (by decide) (by decide)
          obtain ⟨aq141, eaq141, h⟩ := h
          refine ⟨aq141, eaq141, ?_⟩
          cases W.1.symm.trans eaq141
          obtain ⟨oq142, h⟩ := h
          refine ⟨oq142, ?_⟩
          obtain ⟨aq143, eaq143, h⟩ := h
          refine ⟨aq143, eaq143, ?_⟩
          obtain ⟨oq144, h⟩ := h
          refine ⟨oq144, ?_⟩
          obtain ⟨oq145, h⟩ := h
          refine ⟨oq145, ?_⟩
          intro Sq146 eSq146
          have h := h Sq146 eSq146
          obtain ⟨M, W⟩ := wr_I M W eaq143 oq144 eSq146 (by decide) (by decide)
          obtain ⟨aq147, eaq147, h⟩ := h
          refine ⟨aq147, eaq147, ?_⟩
          cases W.1.symm.trans eaq147
          obtain ⟨oq148, h⟩ := h
          refine ⟨oq148, ?_⟩
          obtain ⟨aq149, eaq149, h⟩ := h
          refine ⟨aq149, eaq149, ?_⟩
          obtain ⟨oq150, h⟩ := h
          refine ⟨oq150, ?_⟩
          obtain ⟨oq151, h⟩ := h
          refine ⟨oq151, ?_⟩
          intro Sq152 eSq152
          have h := h Sq152 eSq152
          obtain ⟨M, W⟩ := wr_I M W eaq149 oq150 eSq152 (by decide) (by decide)
          obtain ⟨aq153, eaq153, h⟩ := h
          refine ⟨aq153, eaq153, ?_⟩
          cases W.1.symm.trans eaq153
          obtain ⟨oq154, h⟩ := h
          refine ⟨oq154, ?_⟩
          obtain ⟨aq155, eaq155, h⟩ := h
          refine ⟨aq155, eaq155, ?_⟩
          obtain ⟨oq156, h⟩ := h
          refine ⟨oq156, ?_⟩
          obtain ⟨oq157, h⟩ := h
          refine ⟨oq157, ?_⟩
          intro Sq158 eSq158
          have h := h Sq158 eSq158
          obtain ⟨M, W⟩ := wr_I M W eaq155 oq156 eSq158 (by decide) (by decide)
          obtain ⟨aq159, eaq159, h⟩ := h
          refine ⟨aq159, eaq159, ?_⟩
          cases W.1.symm.trans eaq159
          obtain ⟨oq160, h⟩ := h
          refine ⟨oq160, ?_⟩
          obtain ⟨aq161, eaq161, h⟩ := h
          refine ⟨aq161, eaq161, ?_⟩
          obtain ⟨oq162, h⟩ := h
          refine ⟨oq162, ?_⟩
          obtain ⟨oq163, h⟩ := h
          refine ⟨oq163, ?_⟩
          intro Sq164 eSq164
          have h := h Sq164 eSq164
          obtain ⟨M, W⟩ := wr_I M W eaq161 oq162 eSq164 (by decide) (by decide)
          obtain ⟨aq165, eaq165, h⟩ := h
          refine ⟨aq165, eaq165, ?_⟩
          cases W.1.symm.trans eaq165
          obtain ⟨oq166, h⟩ := h
          refine ⟨oq166, ?_⟩
          intro xq167 exq167
          have h := h xq167 exq167
          intro xq168 exq168
          have h := h xq168 exq168
          intro Sq169 eSq169
          have h := h Sq169 eSq169
          have eL := eSq169
          obtain ⟨M, W⟩ := wr_C (A' := up3 A) M W eL (by decide) (cn_3 W.2.2.1 eL (inc_ exq167 W.2.2.1.2.2.2.1 exq168)) rfl (ab_3 W.2.2.2.2.1 rk.2) (zc_h rk.1)
          exact ⟨h, lm_ok M rfl W⟩
        · intro cq170
          have EQ : (.inl (tEn f n p5) : Res) = (rb (sRoom f n p (aH A) (aR A) 12) fun p => sRoad f n p A) := by
            rw [HL0]
            show (.inl (tEn f n p5) : Res) = dc (isW f n (tEn f n p5) 17) _ _
            rw [dc_n Ncq128]
          have h := h.2 cq170
          exact ⟨h, lm_ov M EQ (exq130.symm.trans cq170)⟩
      · intro cq171
        have Ncq171 := an1 Vxq124 cq171
        have Ncq171 : isW f n (tEn f n p5) 17 := Ncq171
        have h := h.2 cq171
        refine cm_X11_readWhole (sp_X11_readWhole h M) h (fun xq172 Sq173 hp h gq174 => ?_)
        have h := h gq174
        obtain ⟨-, M, G, Vxq172⟩ := hp
        have W := rm_F W G
        delta P_X11_readRoad_85
        obtain ⟨oq175, h⟩ := h
        refine ⟨oq175, ?_⟩
        intro xq176 exq176
        have h := h xq176 exq176
        refine ⟨?_, ?_⟩
        · intro cq177
          have EQ : rb (rb (.inl (tEn f n p5) : Res) (fun p => dc (isW f n p 17) (.inl (tEn f n p)) (.inl p))) (fun p => sWhole f n p (0 : Int32).toInt64 xq15.toInt64) = (rb (sRoom f n p (aH A) (aR A) 12) fun p => sRoad f n p A) := by
            rw [HL0]
            show rb (rb (.inl (tEn f n p5)) _) _ = dc (isW f n (tEn f n p5) 17) _ _
            rw [dc_y Ncq171]
            show rb (dc (isW f n (tEn f n p5) 17) _ _) _ = _
            rw [dc_y Ncq171]
            unfold sPart sWord
            rw [if_pos Ncq171, y4]
            rfl
          have M := ms_eq M EQ
          have h := h.1 cq177
          obtain ⟨aq178, eaq178, h⟩ := h
          refine ⟨aq178, eaq178, ?_⟩
          cases W.1.symm.trans eaq178
          obtain ⟨oq179, h⟩ := h
          refine ⟨oq179, ?_⟩
          intro xq180 exq180
          have h := h xq180 exq180
          obtain ⟨aq181, eaq181, h⟩ := h
          refine ⟨aq181, eaq181, ?_⟩
          cases W.1.symm.trans eaq181
          obtain ⟨oq182, h⟩ := h
          refine ⟨oq182, ?_⟩
          obtain ⟨aq183, eaq183, h⟩ := h
          refine ⟨aq183, eaq183, ?_⟩
          obtain ⟨oq184, h⟩ := h
          refine ⟨oq184, ?_⟩
          obtain ⟨oq185, h⟩ := h
          refine ⟨oq185, ?_⟩
          intro Sq186 eSq186
          have h := h Sq186 eSq186
          obtain ⟨M, W⟩ := wr_I M W eaq183 oq184 eSq186 (by decide) (by decide)
          obtain ⟨aq187, eaq187, h⟩ := h
          refine ⟨aq187, eaq187, ?_⟩
          cases W.1.symm.trans eaq187
          obtain ⟨oq188, h⟩ := h
          refine ⟨oq188, ?_⟩
          obtain ⟨aq189, eaq189, h⟩ := h
          refine ⟨aq189, eaq189, ?_⟩
          obtain ⟨oq190, h⟩ := h
          refine ⟨oq190, ?_⟩
          obtain ⟨oq191, h⟩ := h
          refine ⟨oq191, ?_⟩
          intro Sq192 eSq192
          have h := h Sq192 eSq192
          obtain ⟨M, W⟩ := wr_I M W eaq189 oq190 eSq192 (by decide) (by decide)
          obtain ⟨aq193, eaq193, h⟩ := h
          refine ⟨aq193, eaq193, ?_⟩
          cases W.1.symm.trans eaq193
          obtain ⟨oq194, h⟩ := h
          refine ⟨oq194, ?_⟩
          obtain ⟨aq195, eaq195, h⟩ := h
          refine ⟨aq195, eaq195, ?_⟩
          obtain ⟨oq196, h⟩ := h
          refine ⟨oq196, ?_⟩
          obtain ⟨oq197, h⟩ := h
          refine ⟨oq197, ?_⟩
          intro Sq198 eSq198
          have h := h Sq198 eSq198
          obtain ⟨M, W⟩ := wr_I M W eaq195 oq196 eSq198 (by decide) (by decide)
          obtain ⟨aq199, eaq199, h⟩ := h
          refine ⟨aq199, eaq199, ?_⟩
          cases W.1.symm.trans eaq199
          obtain ⟨oq200, h⟩ := h
          refine ⟨oq200, ?_⟩
          obtain ⟨aq201, eaq201, h⟩ := h
          refine ⟨aq201, eaq201, ?_⟩
          obtain ⟨oq202, h⟩ := h
          refine ⟨oq202, ?_⟩
          obtain ⟨oq203, h⟩ := h
          refine ⟨oq203, ?_⟩
          intro Sq204 eSq204
          have h := h Sq204 eSq204
          obtain ⟨M, W⟩ := wr_I M W eaq201 oq202 eSq204 (by decide) (by decide)
          obtain ⟨aq205, eaq205, h⟩ := h
          refine ⟨aq205, eaq205, ?_⟩
          cases W.1.symm.trans eaq205
          obtain ⟨oq206, h⟩ := h
          refine ⟨oq206, ?_⟩
          obtain ⟨aq207, eaq207, h⟩ := h
          refine ⟨aq207, eaq207, ?_⟩
          obtain ⟨oq208, h⟩ := h
          refine ⟨oq208, ?_⟩
          obtain ⟨oq209, h⟩ := h
          refine ⟨oq209, ?_⟩
          intro Sq210 eSq210
          have h := h Sq210 eSq210
          obtain ⟨M, W⟩ := wr_I M W eaq207 oq208 eSq210 (by decide) (by decide)
          obtain ⟨aq211, eaq211, h⟩ := h
          refine ⟨aq211, eaq211, ?_⟩
          cases W.1.symm.trans eaq211
          obtain ⟨oq212, h⟩ := h
          refine ⟨oq212, ?_⟩
          intro xq213 exq213
          have h := h xq213 exq213
          intro xq214 exq214
          have h := h xq214 exq214
          intro Sq215 eSq215
          have h := h Sq215 eSq215
          have eL := eSq215
          obtain ⟨M, W⟩ := wr_C (A' := up3 A) M W eL (by decide) (cn_3 W.2.2.1 eL (inc_ exq213 W.2.2.1.2.2.2.1 exq214)) rfl (ab_3 W.2.2.2.2.1 rk.2) (zc_h rk.1)
          exact ⟨h, lm_ok M rfl W⟩
        · intro cq216
          have EQ : rb (rb (.inl (tEn f n p5) : Res) (fun p => dc (isW f n p 17) (.inl (tEn f n p)) (.inl p))) (fun p => sWhole f n p (0 : Int32).toInt64 xq15.toInt64) = (rb (sRoom f n p (aH A) (aR A) 12) fun p => sRoad f n p A) := by
            rw [HL0]
            show rb (rb (.inl (tEn f n p5)) _) _ = dc (isW f n (tEn f n p5) 17) _ _
            rw [dc_y Ncq171]
            show rb (dc (isW f n (tEn f n p5) 17) _ _) _ = _
            rw [dc_y Ncq171]
            unfold sPart sWord
            rw [if_pos Ncq171, y4]
            rfl
          have h := h.2 cq216
          exact ⟨h, lm_ov M EQ (exq176.symm.trans cq216)⟩
    · intro cq217
      have ky : k2 = k1 := nI_inj (by omega) (by omega) (by rw [← y1, ← y2, cq217])
      rw [dc_y ky] at HL0
      have HL : (rb (sRoom f n p (aH A) (aR A) 12) fun p => sRoad f n p A) = .inr (3, tSt f n p5) := HL0
      have h := h.2 cq217
      refine cm_X11_flaw (sp_X11_flaw (k := 3) h M rfl) h (fun Sq218 hp h gq219 => ?_)
      have h := h gq219
      obtain ⟨-, M, G⟩ := hp
      have W := rm_F W G
      have M : MS f n a v0 (.inr (3, tSt f n p5)) _ := M
      delta P_X11_readRoad_62
      obtain ⟨oq220, h⟩ := h
      refine ⟨oq220, ?_⟩
      refine cm_X11_goesOn (sp_X11_goesOn h M (fun q z => by cases z)) h (fun Sq221 hp h gq222 => ?_)
      have h := h gq222
      obtain ⟨-, M, G⟩ := hp
      have W := rm_F W G
      have M : MS f n a v0 (.inr (3, tSt f n p5)) _ := M
      refine cm_X11_eatsWord (sp_X11_eatsWord (w := 17) h M (by decide)) h (fun xq223 Sq224 hp h gq225 bq226 => ?_)
      have h := h gq225 bq226
      obtain ⟨-, M, G, Vxq223⟩ := hp
      have W := rm_F W G
      refine ⟨?_, ?_⟩
      · intro cq227
        have Ncq227 := an0 Vxq223 cq227
        have M := ms_eq M (rb_idd (fun p hp => (dc_n (hw_np Ncq227 hp)).symm)).symm
        have M : MS f n a v0 (.inr (3, tSt f n p5)) _ := M
        have h := h.1 cq227
        delta P_X11_readRoad_85
        obtain ⟨oq228, h⟩ := h
        refine ⟨oq228, ?_⟩
        intro xq229 exq229
        have h := h xq229 exq229
        refine ⟨?_, ?_⟩
        · intro cq230
          exact absurd (exq229.trans M.2.1.1) cq230
        · intro cq269
          have h := h.2 cq269
          exact ⟨h, lm_ov M HL.symm (exq229.symm.trans cq269)⟩
      · intro cq270
        have Ncq270 := an1 Vxq223 cq270
        exact Ncq270.elim
end MLines4
