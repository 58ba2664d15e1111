section MLines5
variable {f : Nat → Int32} {n a rd nm ns nk p : Nat} {A : AS} {σ : Res} {Q : Int32 → HS → Prop} {QU : HS → Prop} {S T : HS} {v0 : Nat}
/-- the end of a walker's line -/
noncomputable def sTail (f : Nat → Int32) (n : Nat) (lh : Int32) (p2 : Nat) : Res := rb (sBody f n p2 lh) fun p3 => rb (sPart f n p3 25 1 9) fun p4 => sPart f n p4 26 (pVal f n p3).toInt64 9
set_option maxHeartbeats 1000000 in
theorem wk149 {R L : Res} {v1 vn : Int64} {v3 v4 s0 : Int32} (h : P_X11_readWalker_149 QU v0 v1 v3 v4 s0 S) (M : MS f n a v0 R S) (W : RMw v0 rd nm ns nk A S) (hAM : aM A = aP A + aW A) (hR : ∀ q, R = .inl q → v1 = vn ∧ aW A < 4 ∧ aH A ≠ 0) (HL : rb R (fun p => sTail f n (s0 + 1) p) = L) : P_X11_readWalker_149 (fun T => QU T ∧ LBm f n a v0 rd nm ns nk L (up4 (upN A vn (8 + aW A))) T) v0 v1 v3 v4 s0 S := by
  delta P_X11_readWalker_149
  obtain ⟨oq1, h⟩ := h
  refine ⟨oq1, ?_⟩
  refine cm_X11_readPart (sp_X11_readPart (w := 22) h M (by decide)) h (fun xq2 Sq3 hp h gq4 => ?_)
  have h := h gq4
  obtain ⟨-, M, G, Vxq2⟩ := hp
  have W := rm_F W G
  refine cm_X11_readPart (sp_X11_readPart (w := 23) h M (by decide)) h (fun xq5 Sq6 hp h gq7 => ?_)
  have h := h gq7
  obtain ⟨-, M, G, Vxq5⟩ := hp
  have W := rm_F W G
  refine cm_X11_readPart (sp_X11_readPart (w := 24) h M (by decide)) h (fun xq8 Sq9 hp h gq10 => ?_)
  have h := h gq10
  obtain ⟨-, M, G, Vxq8⟩ := hp
  have W := rm_F W G
  refine cm_X11_readPart (sp_X11_readPart (w := 25) h M (by decide)) h (fun xq11 Sq12 hp h gq13 => ?_)
  have h := h gq13
  obtain ⟨-, M, G, Vxq11⟩ := hp
  have W := rm_F W G
  refine cm_X11_readPart (sp_X11_readPart (w := 26) h M (by decide)) h (fun xq14 Sq15 hp h gq16 => ?_)
  have h := h gq16
  obtain ⟨-, M, G, Vxq14⟩ := hp
  have W := rm_F W G
  intro xq17 exq17
  have h := h xq17 exq17
  refine ⟨?_, ?_⟩
  · intro cq18
    have M := ms_eq (τ := L) M (by
      rw [← HL]
      refine rb_rb.trans (Eq.trans (rb_cg (fun p3 hp3 => rb_cg (k := fun p4 => sPart f n p4 26 (pVal f n p3).toInt64 9) (fun p4 hp4 => by rw [Vxq11 p3 p4 hp3 hp4, l64_9]))) ?_)
      simp only [rb_rb, sTail, sBody, l64_0, l64_1, l64_5, l64_8, l64_9, l64_60, l64_99, l64_100, l64_999])
    obtain ⟨q, hq⟩ := ms_ok M (fun z => cq18 (exq17.trans z))
    obtain ⟨q0, hq0, -⟩ := rb_inl (HL.trans hq)
    obtain ⟨hv, hw4, hH⟩ := hR q0 hq0
    have h := h.1 cq18
    obtain ⟨aq19, eaq19, h⟩ := h
    refine ⟨aq19, eaq19, ?_⟩
    cases W.1.symm.trans eaq19
    obtain ⟨oq20, h⟩ := h
    refine ⟨oq20, ?_⟩
    intro xq21 exq21
    have h := h xq21 exq21
    refine cm_X11_names (sp_X11_names (idn := 8 + aW A) h M W (by have := W.2.2.2.2.1.2.2.1; omega) (by rw [if_neg (by omega)]) (by rw [if_neg (by omega), exq21, Nat.add_sub_cancel_left]; exact W.2.2.1.2.2.2.2.1) (by omega)) h (fun Sq22 hp h gq23 => ?_)
    have h := h gq23
    obtain ⟨-, M, W⟩ := hp
    rw [hv] at W
    obtain ⟨aq24, eaq24, h⟩ := h
    refine ⟨aq24, eaq24, ?_⟩
    cases W.1.symm.trans eaq24
    obtain ⟨oq25, h⟩ := h
    refine ⟨oq25, ?_⟩
    obtain ⟨aq26, eaq26, h⟩ := h
    refine ⟨aq26, eaq26, ?_⟩
    obtain ⟨oq27, h⟩ := h
    refine ⟨oq27, ?_⟩
    obtain ⟨oq28, h⟩ := h
    refine ⟨oq28, ?_⟩
    intro Sq29 eSq29
    have h := h Sq29 eSq29
    obtain ⟨M, W⟩ := wr_I M W eaq26 oq27 eSq29 (by decide) (by decide)
    obtain ⟨aq30, eaq30, h⟩ := h
    refine ⟨aq30, eaq30, ?_⟩
    cases W.1.symm.trans eaq30
    obtain ⟨oq31, h⟩ := h
    refine ⟨oq31, ?_⟩
    obtain ⟨aq32, eaq32, h⟩ := h
    refine ⟨aq32, eaq32, ?_⟩
    obtain ⟨oq33, h⟩ := h
    refine ⟨oq33, ?_⟩
    obtain ⟨oq34, h⟩ := h
    refine ⟨oq34, ?_⟩
    intro Sq35 eSq35
    have h := h Sq35 eSq35
    obtain ⟨M, W⟩ := wr_I M W eaq32 oq33 eSq35 (by decide) (by decide)
    obtain ⟨aq36, eaq36, h⟩ := h
    refine ⟨aq36, eaq36, ?_⟩
    cases W.1.symm.trans eaq36
    obtain ⟨oq37, h⟩ := h
    refine ⟨oq37, ?_⟩
    obtain ⟨aq38, eaq38, h⟩ := h
    refine ⟨aq38, eaq38, ?_⟩
    obtain ⟨oq39, h⟩ := h
    refine ⟨oq39, ?_⟩
    intro xq40 exq40
    have h := h xq40 exq40
    obtain ⟨oq41, h⟩ := h
    refine ⟨oq41, ?_⟩
    intro Sq42 eSq42
    have h := h Sq42 eSq42
    obtain ⟨M, W⟩ := wr_I M W eaq38 oq39 eSq42 (by decide) (by decide)
    obtain ⟨aq43, eaq43, h⟩ := h
    refine ⟨aq43, eaq43, ?_⟩
    cases W.1.symm.trans eaq43
    obtain ⟨oq44, h⟩ := h
    refine ⟨oq44, ?_⟩
    obtain ⟨aq45, eaq45, h⟩ := h
    refine ⟨aq45, eaq45, ?_⟩
    obtain ⟨oq46, h⟩ := h
    refine ⟨oq46, ?_⟩
    intro xq47 exq47
    have h := h xq47 exq47
    obtain ⟨oq48, h⟩ := h
    refine ⟨oq48, ?_⟩
    intro Sq49 eSq49
    have h := h Sq49 eSq49
    obtain ⟨M, W⟩ := wr_I M W eaq45 oq46 eSq49 (by decide) (by decide)
    obtain ⟨aq50, eaq50, h⟩ := h
    refine ⟨aq50, eaq50, ?_⟩
    cases W.1.symm.trans eaq50
    obtain ⟨oq51, h⟩ := h
    refine ⟨oq51, ?_⟩
    obtain ⟨aq52, eaq52, h⟩ := h
    refine ⟨aq52, eaq52, ?_⟩
    obtain ⟨oq53, h⟩ := h
    refine ⟨oq53, ?_⟩
    intro xq54 exq54
    have h := h xq54 exq54
    obtain ⟨oq55, h⟩ := h
    refine ⟨oq55, ?_⟩
    intro Sq56 eSq56
    have h := h Sq56 eSq56
    obtain ⟨M, W⟩ := wr_I M W eaq52 oq53 eSq56 (by decide) (by decide)
    obtain ⟨aq57, eaq57, h⟩ := h
    refine ⟨aq57, eaq57, ?_⟩
    cases W.1.symm.trans eaq57
    obtain ⟨oq58, h⟩ := h
    refine ⟨oq58, ?_⟩
    obtain ⟨aq59, eaq59, h⟩ := h
    refine ⟨aq59, eaq59, ?_⟩
    obtain ⟨oq60, h⟩ := h
    refine ⟨oq60, ?_⟩
    obtain ⟨oq61, h⟩ := h
    refine ⟨oq61, ?_⟩
    intro Sq62 eSq62
    have h := h Sq62 eSq62
    obtain ⟨M, W⟩ := wr_I M W eaq59 oq60 eSq62 (by decide) (by decide)
    obtain ⟨aq63, eaq63, h⟩ := h
    refine ⟨aq63, eaq63, ?_⟩
    cases W.1.symm.trans eaq63
    obtain ⟨oq64, h⟩ := h
    refine ⟨oq64, ?_⟩
    obtain ⟨aq65, eaq65, h⟩ := h
    refine ⟨aq65, eaq65, ?_⟩
    obtain ⟨oq66, h⟩ := h
    refine ⟨oq66, ?_⟩
    obtain ⟨oq67, h⟩ := h
    refine ⟨oq67, ?_⟩
    intro Sq68 eSq68
    have h := h Sq68 eSq68
    obtain ⟨M, W⟩ := wr_I M W eaq65 oq66 eSq68 (by decide) (by decide)
    obtain ⟨aq69, eaq69, h⟩ := h
    refine ⟨aq69, eaq69, ?_⟩
    cases W.1.symm.trans eaq69
    obtain ⟨oq70, h⟩ := h
    refine ⟨oq70, ?_⟩
    intro xq71 exq71
    have h := h xq71 exq71
    intro xq72 exq72
    have h := h xq72 exq72
    intro Sq73 eSq73
    have h := h Sq73 eSq73
    have eL := eSq73
    obtain ⟨M, W⟩ := wr_C (A' := up4 (upN A vn (8 + aW A))) M W eL (by decide) (cn_4 W.2.2.1 eL (inc_ exq71 W.2.2.1.2.2.2.2.1 exq72)) rfl (ab_4 W.2.2.2.2.1 hw4) (zc_h hH)
    exact ⟨h, lm_ok M rfl W⟩
  · intro cq74
    have M := ms_eq (τ := L) M (by
      rw [← HL]
      refine rb_rb.trans (Eq.trans (rb_cg (fun p3 hp3 => rb_cg (k := fun p4 => sPart f n p4 26 (pVal f n p3).toInt64 9) (fun p4 hp4 => by rw [Vxq11 p3 p4 hp3 hp4, l64_9]))) ?_)
      simp only [rb_rb, sTail, sBody, l64_0, l64_1, l64_5, l64_8, l64_9, l64_60, l64_99, l64_100, l64_999])
    have h := h.2 cq74
    exact ⟨h, lm_ov M rfl (exq17.symm.trans cq74)⟩
theorem wk_eq {R : Res} {g : Nat → Res} {lhv : Int32} (h : ∀ p1, R = .inl p1 → g p1 = sKind f n p1) (hl : ∀ p1 q, R = .inl p1 → sKind f n p1 = .inl q → lhv = lhOf f n p1) : rb (rb R g) (fun p => sTail f n lhv p) = rb R (fun p1 => rb (sKind f n p1) (fun p => sTail f n (lhOf f n p1) p)) := by
  refine rb_rb.trans (rb_cg (fun p1 hp => ?_))
  rw [h p1 hp]
  exact rb_cg (fun q hq => by rw [hl p1 q hp hq])
theorem wk_no {w u q : Nat} (h : isW f n q w) (hc : code_ w ≠ code_ u) : ¬ isW f n q u := fun z => hc (h.2.symm.trans z.2)
set_option maxRecDepth 100000 in
theorem cds : code_ 21 ≠ code_ 18 ∧ code_ 21 ≠ code_ 19 ∧ code_ 21 ≠ code_ 20 ∧ code_ 18 ≠ code_ 19 ∧ code_ 18 ≠ code_ 20 ∧ code_ 19 ≠ code_ 20 ∧ code_ 19 ≠ code_ 18 ∧ code_ 20 ≠ code_ 18 ∧ code_ 20 ≠ code_ 19 := by decide
theorem kd_0 {q : Nat} (h : isW f n q 21) : sKind f n q = .inl (tEn f n q) ∧ lhOf f n q = 1 := by
  unfold sKind lhOf kdOf sWord
  rw [dc_n (wk_no h cds.1), dc_n (wk_no h cds.2.1), dc_n (wk_no h cds.2.2.1), dc_n (wk_no h cds.1), dc_n (wk_no h cds.2.1), dc_n (wk_no h cds.2.2.1), if_pos h]
  exact ⟨rfl, rfl⟩
theorem kd_1 {q : Nat} (h : isW f n q 18) : sKind f n q = sWhole f n (tEn f n q) 1 8 ∧ lhOf f n q = pVal f n q + 1 := by
  unfold sKind lhOf kdOf amOf sPart sWord
  rw [dc_y h, dc_y h, dc_y h, if_pos h]
  exact ⟨rfl, rfl⟩
theorem kd_2 {q : Nat} (h : isW f n q 19) : sKind f n q = sWhole f n (tEn f n q) 0 999 ∧ lhOf f n q = 1 := by
  unfold sKind lhOf kdOf sPart sWord
  rw [dc_n (wk_no h cds.2.2.2.2.2.2.1), dc_y h, dc_n (wk_no h cds.2.2.2.2.2.2.1), dc_y h, if_pos h]
  exact ⟨rfl, rfl⟩
theorem kd_3 {q : Nat} (h : isW f n q 20) : sKind f n q = sWhole f n (tEn f n q) 1 99 ∧ lhOf f n q = 1 := by
  unfold sKind lhOf kdOf sPart sWord
  rw [dc_n (wk_no h cds.2.2.2.2.2.2.2.1), dc_n (wk_no h cds.2.2.2.2.2.2.2.2), dc_y h, dc_n (wk_no h cds.2.2.2.2.2.2.2.1), dc_n (wk_no h cds.2.2.2.2.2.2.2.2), dc_y h, if_pos h]
  exact ⟨rfl, rfl⟩
theorem kd_n {q : Nat} (h0 : ¬ isW f n q 21) (h1 : ¬ isW f n q 18) (h2 : ¬ isW f n q 19) (h3 : ¬ isW f n q 20) : sKind f n q = .inr (1, tSt f n q) := by
  unfold sKind sWord
  rw [dc_n h1, dc_n h2, dc_n h3, if_neg h0]
theorem wk_r {R : Res} {g : Nat → Res} {vx : Int64} (hv : ∀ p1 q, (rb (.inl p : Res) (fun p => sRoom f n p (aH A) (aW A) 4)) = .inl p1 → sNew f n p1 (aM A) (aV A) (aI A) = .inl q → vx = tV f n p1) (hR : R = rb (rb (rb (.inl p : Res) (fun p => sRoom f n p (aH A) (aW A) 4)) (fun p => sNew f n p (aM A) (aV A) (aI A))) g) : ∀ q, R = .inl q → vx = tV f n (tEn f n p) ∧ aW A < 4 ∧ aH A ≠ 0 := by
  intro q hq
  rw [hR] at hq
  obtain ⟨p2, h2, -⟩ := rb_inl hq
  obtain ⟨p1, h1, h3⟩ := rb_inl h2
  have h4 : sRoom f n p (aH A) (aW A) 4 = .inl p1 := h1
  have rk := room_ok h4
  exact ⟨by rw [hv p1 p2 h1 h3, room_e h4], rk.2, rk.1⟩
set_option maxHeartbeats 1000000 in
theorem sp_X11_readWalker (h : P_X11_readWalker v0 QU S) (M : MS f n a v0 (.inl p) S) (W : RMw v0 rd nm ns nk A S) (hg : ∀ q, (.inl p : Res) = .inl q → tS f n q ≠ 6) (hAM : aM A = aP A + aW A) : P_X11_readWalker v0 (fun T => QU T ∧ LBm f n a v0 rd nm ns nk (rb (sRoom f n p (aH A) (aW A) 4) fun p => sWalker f n p A) (up4 (upN A (tV f n (tEn f n p)) (8 + aW A))) T) S := by
  delta P_X11_readWalker P_X11_readWalker_0
  obtain ⟨oq1, h⟩ := h
  refine ⟨oq1, ?_⟩
  obtain ⟨aq2, eaq2, h⟩ := h
  refine ⟨aq2, eaq2, ?_⟩
  cases W.1.symm.trans eaq2
  obtain ⟨oq3, h⟩ := h
  refine ⟨oq3, ?_⟩
  intro xq4 exq4
  have h := h xq4 exq4
  refine cm_X11_begins (sp_X11_begins (c := aW A) (k := 4) h M W hg (exq4.trans W.2.2.1.2.2.2.2.1) rfl W.2.2.2.2.1.2.2.2.2.1 (by decide) (fun z => by have := W.2.2.2.2.2 z; omega)) h (fun Sq5 hp h gq6 => ?_)
  have h := h gq6
  obtain ⟨-, M, G⟩ := hp
  have W := rm_F W G
  refine cm_X11_readFresh (sp_X11_readFresh h M W) h (fun xq7 Sq8 hp h gq9 => ?_)
  have h := h gq9
  obtain ⟨-, M, G, Vxq7⟩ := hp
  have W := rm_F W G
  refine cm_X11_isWord (sp_X11_isWord (w := 21) h M (by decide)) h (fun xq10 Sq11 hp h gq12 bq13 => ?_)
  have h := h gq12 bq13
  obtain ⟨-, hS, Axq10⟩ := hp
  subst hS
  refine ⟨?_, ?_⟩
  · intro cq14
    have Ncq14 := an0 Axq10 cq14
    have h := h.1 cq14
    refine cm_X11_isWord (sp_X11_isWord (w := 18) h M (by decide)) h (fun xq15 Sq16 hp h gq17 bq18 => ?_)
    have h := h gq17 bq18
    obtain ⟨-, hS, Axq15⟩ := hp
    subst hS
    refine ⟨?_, ?_⟩
    · intro cq19
      have Ncq19 := an0 Axq15 cq19
      have h := h.1 cq19
      refine cm_X11_isWord (sp_X11_isWord (w := 19) h M (by decide)) h (fun xq20 Sq21 hp h gq22 bq23 => ?_)
      have h := h gq22 bq23
      obtain ⟨-, hS, Axq20⟩ := hp
      subst hS
      refine ⟨?_, ?_⟩
      · intro cq24
        have Ncq24 := an0 Axq20 cq24
        have h := h.1 cq24
        refine cm_X11_isWord (sp_X11_isWord (w := 20) h M (by decide)) h (fun xq25 Sq26 hp h gq27 bq28 => ?_)
        have h := h gq27 bq28
        obtain ⟨-, hS, Axq25⟩ := hp
        subst hS
        refine ⟨?_, ?_⟩
        · intro cq29
          have Ncq29 := an0 Axq25 cq29
          have h := h.1 cq29
          delta P_X11_readWalker_74
          refine ⟨?_, ?_⟩
          · intro cq30
            exact absurd rfl cq30
          · intro cq57
            have h := h.2 cq57
            obtain ⟨oq58, h⟩ := h
            refine ⟨oq58, ?_⟩
            refine cm_X11_flaw (sp_X11_flaw (k := 1) h M rfl) h (fun Sq59 hp h gq60 => ?_)
            have h := h gq60
            obtain ⟨-, M, G⟩ := hp
            have W := rm_F W G
            delta P_X11_readWalker_85
            obtain ⟨oq61, h⟩ := h
            refine ⟨oq61, ?_⟩
            refine cm_X11_goesOn (sp_X11_goesOn h M gs_f) h (fun Sq62 hp h gq63 => ?_)
            have h := h gq63
            obtain ⟨-, M, G⟩ := hp
            have W := rm_F W G
            refine ⟨?_, ?_⟩
            · intro cq64
              have h := h.1 cq64
              refine ⟨?_, ?_⟩
              · intro cq65
                have h := h.1 cq65
                refine ⟨?_, ?_⟩
                · intro cq66
                  have h := h.1 cq66
                  delta P_X11_readWalker_136
                  refine ⟨?_, ?_⟩
                  · intro cq67
                    have h := h.1 cq67
                    refine wk149 h M W hAM (wk_r Vxq7 rb_rb) (Eq.trans (Eq.trans (by rw [rb_rb (R := rb (rb (.inl p) _) _)]; rfl) (wk_eq (fun q hq => (kd_n (hw_np Ncq14 hq) (hw_np Ncq19 hq) (hw_np Ncq24 hq) (hw_np Ncq29 hq)).symm) (fun q q1 hq hk => vac (p := q) (kd_n (hw_np Ncq14 hq) (hw_np Ncq19 hq) (hw_np Ncq24 hq) (hw_np Ncq29 hq)) hk))) (by simp only [rb_rb, sWalker, sTail]; rfl))
                  · intro cq68
                    exact absurd cq68 (by decide)
                · intro cq69
                  exact absurd cq69 (by decide)
              · intro cq75
                exact absurd cq75 (by decide)
            · intro cq81
              exact absurd cq81 (by decide)
        · intro cq87
          have Ncq87 := an1 Axq25 cq87
          have h := h.2 cq87
          delta P_X11_readWalker_74
          refine ⟨?_, ?_⟩
          · intro cq88
            have h := h.1 cq88
            delta P_X11_readWalker_85
            obtain ⟨oq89, h⟩ := h
            refine ⟨oq89, ?_⟩
            refine cm_X11_goesOn (sp_X11_goesOn h M (gs_w Ncq87)) h (fun Sq90 hp h gq91 => ?_)
            have h := h gq91
            obtain ⟨-, M, G⟩ := hp
            have W := rm_F W G
            refine ⟨?_, ?_⟩
            · intro cq92
              have h := h.1 cq92
              refine ⟨?_, ?_⟩
              · intro cq93
                have h := h.1 cq93
                refine ⟨?_, ?_⟩
                · intro cq94
                  exact absurd rfl cq94
                · intro cq97
                  have h := h.2 cq97
                  refine cm_X11_readWhole (sp_X11_readWhole h M) h (fun xq98 Sq99 hp h gq100 => ?_)
                  have h := h gq100
                  obtain ⟨-, M, G, Vxq98⟩ := hp
                  have W := rm_F W G
                  delta P_X11_readWalker_136
                  refine ⟨?_, ?_⟩
                  · intro cq101
                    have h := h.1 cq101
                    refine wk149 h M W hAM (wk_r Vxq7 rb_rb) (Eq.trans (Eq.trans (by rw [rb_rb (R := rb (rb (.inl p) _) _)]; rfl) (wk_eq (fun q hq => (kd_3 (hw_p Ncq87 hq)).1.symm) (fun q q1 hq hk => (kd_3 (hw_p Ncq87 hq)).2.symm))) (by simp only [rb_rb, sWalker, sTail]; rfl))
                  · intro cq102
                    exact absurd cq102 (by decide)
              · intro cq103
                exact absurd cq103 (by decide)
            · intro cq109
              exact absurd cq109 (by decide)
          · intro cq115
            exact absurd cq115 (by decide)
      · intro cq145
        have Ncq145 := an1 Axq20 cq145
        have h := h.2 cq145
        delta P_X11_readWalker_74
        refine ⟨?_, ?_⟩
        · intro cq146
          have h := h.1 cq146
          delta P_X11_readWalker_85
          obtain ⟨oq147, h⟩ := h
          refine ⟨oq147, ?_⟩
          refine cm_X11_goesOn (sp_X11_goesOn h M (gs_w Ncq145)) h (fun Sq148 hp h gq149 => ?_)
          have h := h gq149
          obtain ⟨-, M, G⟩ := hp
          have W := rm_F W G
          refine ⟨?_, ?_⟩
          · intro cq150
            have h := h.1 cq150
            refine ⟨?_, ?_⟩
            · intro cq151
              exact absurd rfl cq151
            · intro cq161
              have h := h.2 cq161
              refine cm_X11_readWhole (sp_X11_readWhole h M) h (fun xq162 Sq163 hp h gq164 => ?_)
              have h := h gq164
              obtain ⟨-, M, G, Vxq162⟩ := hp
              have W := rm_F W G
              delta P_X11_readWalker_136
              refine ⟨?_, ?_⟩
              · intro cq165
                have h := h.1 cq165
                refine wk149 h M W hAM (wk_r Vxq7 rb_rb) (Eq.trans (Eq.trans (by rw [rb_rb (R := rb (rb (.inl p) _) _)]; rfl) (wk_eq (fun q hq => (kd_2 (hw_p Ncq145 hq)).1.symm) (fun q q1 hq hk => (kd_2 (hw_p Ncq145 hq)).2.symm))) (by simp only [rb_rb, sWalker, sTail]; rfl))
              · intro cq166
                exact absurd cq166 (by decide)
          · intro cq167
            exact absurd cq167 (by decide)
        · intro cq173
          exact absurd cq173 (by decide)
    · intro cq203
      have Ncq203 := an1 Axq15 cq203
      have h := h.2 cq203
      delta P_X11_readWalker_74
      refine ⟨?_, ?_⟩
      · intro cq204
        have h := h.1 cq204
        delta P_X11_readWalker_85
        obtain ⟨oq205, h⟩ := h
        refine ⟨oq205, ?_⟩
        refine cm_X11_goesOn (sp_X11_goesOn h M (gs_w Ncq203)) h (fun Sq206 hp h gq207 => ?_)
        have h := h gq207
        obtain ⟨-, M, G⟩ := hp
        have W := rm_F W G
        refine ⟨?_, ?_⟩
        · intro cq208
          exact absurd rfl cq208
        · intro cq225
          have h := h.2 cq225
          refine cm_X11_readWhole (sp_X11_readWhole h M) h (fun xq226 Sq227 hp h gq228 => ?_)
          have h := h gq228
          obtain ⟨-, M, G, Vxq226⟩ := hp
          have W := rm_F W G
          delta P_X11_readWalker_136
          refine ⟨?_, ?_⟩
          · intro cq229
            exact absurd rfl cq229
          · intro cq230
            have h := h.2 cq230
            refine wk149 h M W hAM (wk_r Vxq7 rb_rb) (Eq.trans (Eq.trans (by rw [rb_rb (R := rb (rb (.inl p) _) _)]; rfl) (wk_eq (fun q hq => (kd_1 (hw_p Ncq203 hq)).1.symm) (fun q q1 hq hk => (by rw [(kd_1 (hw_p Ncq203 hq)).2]; unfold pVal; rw [← Vxq226 (tEn f n q) q1 (by rw [hq]; rfl) ((kd_1 (hw_p Ncq203 hq)).1.symm.trans hk), Int32.toInt32_toInt64])))) (by simp only [rb_rb, sWalker, sTail]; rfl))
      · intro cq231
        exact absurd cq231 (by decide)
  · intro cq261
    have Ncq261 := an1 Axq10 cq261
    have h := h.2 cq261
    delta P_X11_readWalker_74
    refine ⟨?_, ?_⟩
    · intro cq262
      have h := h.1 cq262
      delta P_X11_readWalker_85
      obtain ⟨oq263, h⟩ := h
      refine ⟨oq263, ?_⟩
      refine cm_X11_goesOn (sp_X11_goesOn h M (gs_w Ncq261)) h (fun Sq264 hp h gq265 => ?_)
      have h := h gq265
      obtain ⟨-, M, G⟩ := hp
      have W := rm_F W G
      refine ⟨?_, ?_⟩
      · intro cq266
        have h := h.1 cq266
        refine ⟨?_, ?_⟩
        · intro cq267
          have h := h.1 cq267
          refine ⟨?_, ?_⟩
          · intro cq268
            have h := h.1 cq268
            delta P_X11_readWalker_136
            refine ⟨?_, ?_⟩
            · intro cq269
              have h := h.1 cq269
              refine wk149 h M W hAM (wk_r Vxq7 rfl) (Eq.trans (wk_eq (fun q hq => (kd_0 (hw_p Ncq261 hq)).1.symm) (fun q q1 hq hk => (kd_0 (hw_p Ncq261 hq)).2.symm)) (by simp only [rb_rb, sWalker, sTail]; rfl))
            · intro cq270
              exact absurd cq270 (by decide)
          · intro cq271
            exact absurd cq271 (by decide)
        · intro cq277
          exact absurd cq277 (by decide)
      · intro cq283
        exact absurd cq283 (by decide)
    · intro cq289
      exact absurd cq289 (by decide)
end MLines5
