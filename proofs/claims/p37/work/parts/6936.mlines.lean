section MLines2
variable {f : Nat → Int32} {n a rd nm ns nk p : Nat} {A : AS} {σ : Res} {Q : Int32 → HS → Prop} {QU : HS → Prop} {S T : HS} {v0 : Nat}
theorem sp_X11_readWorld (h : P_X11_readWorld v0 QU S) (M : MS f n a v0 (.inl p) S) (W : RMw v0 rd nm ns nk A S) (hg : ∀ q, (.inl p : Res) = .inl q → tS f n q ≠ 6) : P_X11_readWorld v0 (fun T => QU T ∧ LBm f n a v0 rd nm ns nk (sWorld f n p A) (up0 A (tV f n (tEn f n (tEn f n p))).toInt32.toNatClampNeg) T) S := by
  delta P_X11_readWorld P_X11_readWorld_0
  obtain ⟨oq1, h⟩ := h
  refine ⟨oq1, ?_⟩
  obtain ⟨aq2, eaq2, h⟩ := h
  refine ⟨aq2, eaq2, ?_⟩
  cases W.1.symm.trans eaq2
  obtain ⟨oq3, h⟩ := h
  refine ⟨oq3, ?_⟩
  intro xq4 exq4
  have h := h xq4 exq4
  refine ⟨?_, ?_⟩
  · intro cq5
    have h0 : aH A = 0 := by
      have z := le_i cq5
      rw [exq4, W.2.2.1.1, nI_i (by have := W.2.2.2.2.1.1; omega)] at z
      have e0 : (0 : Int32).toInt = 0 := by decide
      omega
    have h := h.1 cq5
    delta P_X11_readWorld_15
    obtain ⟨oq6, h⟩ := h
    refine ⟨oq6, ?_⟩
    refine cm_X11_goesOn (sp_X11_goesOn h M hg) h (fun Sq7 hp h gq8 => ?_)
    have h := h gq8
    obtain ⟨-, M, G⟩ := hp
    have W := rm_F W G
    refine cm_X11_readPart (sp_X11_readPart (w := 1) h M (by decide)) h (fun xq9 Sq10 hp h gq11 => ?_)
    have h := h gq11
    obtain ⟨-, M, G, Vxq9⟩ := hp
    have W := rm_F W G
    intro xq12 exq12
    have h := h xq12 exq12
    refine ⟨?_, ?_⟩
    · intro cq13
      have h := h.1 cq13
      exact ⟨h, lm_ov M (by unfold sWorld; rw [if_pos h0]; rfl) (exq12.symm.trans cq13)⟩
    · intro cq14
      obtain ⟨q, hq⟩ := ms_ok M (fun z => cq14 (exq12.trans z))
      have h := h.2 cq14
      obtain ⟨aq15, eaq15, h⟩ := h
      refine ⟨aq15, eaq15, ?_⟩
      cases W.1.symm.trans eaq15
      obtain ⟨oq16, h⟩ := h
      refine ⟨oq16, ?_⟩
      intro Sq17 eSq17
      have h := h Sq17 eSq17
      have eL := eSq17
      have hR : sPart f n (tEn f n p) 1 5 60 = .inl q := hq
      have hr : (5 : Int64) ≤ tV f n (tEn f n (tEn f n p)) ∧ tV f n (tEn f n (tEn f n p)) ≤ 60 := part_in hR
      have hk := i64_le (k := 60) (by have := hr.1; exact Int64.le_trans (by decide) this) hr.2
      have hv : xq9 = (tV f n (tEn f n (tEn f n p))).toInt32 := Vxq9 (tEn f n p) q rfl hR
      obtain ⟨M, W⟩ := wr_C (A' := up0 A (tV f n (tEn f n (tEn f n p))).toInt32.toNatClampNeg) M W eL (by decide) (cn_0 W.2.2.1 eL (by rw [hv]; exact hk.2)) rfl ⟨hk.1, W.2.2.2.2.1.2⟩ (fun _ => W.2.2.2.2.2 h0)
      exact ⟨h, lm_ok M (by unfold sWorld; rw [if_pos h0]; rfl) W⟩
  · intro cq18
    have h0 : ¬ aH A = 0 := by
      have z := nle_i cq18
      rw [exq4, W.2.2.1.1, nI_i (by have := W.2.2.2.2.1.1; omega)] at z
      have e0 : (0 : Int32).toInt = 0 := by decide
      omega
    have h := h.2 cq18
    refine cm_X11_flaw (sp_X11_flaw (k := 3) h M rfl) h (fun Sq19 hp h gq20 => ?_)
    have h := h gq20
    obtain ⟨-, M, G⟩ := hp
    have W := rm_F W G
    delta P_X11_readWorld_15
    obtain ⟨oq21, h⟩ := h
    refine ⟨oq21, ?_⟩
    refine cm_X11_goesOn (sp_X11_goesOn h M gs_f) h (fun Sq22 hp h gq23 => ?_)
    have h := h gq23
    obtain ⟨-, M, G⟩ := hp
    have W := rm_F W G
    refine cm_X11_readPart (sp_X11_readPart (w := 1) h M (by decide)) h (fun xq24 Sq25 hp h gq26 => ?_)
    have h := h gq26
    obtain ⟨-, M, G, Vxq24⟩ := hp
    have W := rm_F W G
    intro xq27 exq27
    have h := h xq27 exq27
    refine ⟨?_, ?_⟩
    · intro cq28
      have h := h.1 cq28
      exact ⟨h, lm_ov M (by unfold sWorld; rw [if_neg h0]; rfl) (exq27.symm.trans cq28)⟩
    · intro cq29
      exact absurd (exq27.trans (ov_f (σ := .inl p) (k := fun p => (3, tSt f n p)) M)) cq29
theorem sp_X11_readRain (h : P_X11_readRain v0 QU S) (M : MS f n a v0 (.inl p) S) (W : RMw v0 rd nm ns nk A S) (hg : ∀ q, (.inl p : Res) = .inl q → tS f n q ≠ 6) : P_X11_readRain v0 (fun T => QU T ∧ LBm f n a v0 rd nm ns nk (rb (sRoom f n p (aH A) (aHs A) 6) fun p => sRain f n p) (up1 A) T) S := by
  delta P_X11_readRain P_X11_readRain_0
  obtain ⟨oq1, h⟩ := h
  refine ⟨oq1, ?_⟩
  obtain ⟨aq2, eaq2, h⟩ := h
  refine ⟨aq2, eaq2, ?_⟩
  cases W.1.symm.trans eaq2
  obtain ⟨oq3, h⟩ := h
  refine ⟨oq3, ?_⟩
  intro xq4 exq4
  have h := h xq4 exq4
  refine cm_X11_begins (sp_X11_begins (c := aHs A) (k := 6) h M W hg (exq4.trans W.2.2.1.2.1) rfl W.2.2.2.2.1.2.1 (by decide) (fun z => by have := W.2.2.2.2.2 z; omega)) h (fun Sq5 hp h gq6 => ?_)
  have h := h gq6
  obtain ⟨-, M, G⟩ := hp
  have W := rm_F W G
  refine cm_X11_readPart (sp_X11_readPart (w := 3) h M (by decide)) h (fun xq7 Sq8 hp h gq9 => ?_)
  have h := h gq9
  obtain ⟨-, M, G, Vxq7⟩ := hp
  have W := rm_F W G
  refine cm_X11_readPart (sp_X11_readPart (w := 4) h M (by decide)) h (fun xq10 Sq11 hp h gq12 => ?_)
  have h := h gq12
  obtain ⟨-, M, G, Vxq10⟩ := hp
  have W := rm_F W G
  refine cm_X11_needs (sp_X11_needs (w := 5) h M (by decide)) h (fun Sq13 hp h gq14 => ?_)
  have h := h gq14
  obtain ⟨-, M, G⟩ := hp
  have W := rm_F W G
  refine cm_X11_readSide (sp_X11_readSide h M) h (fun xq15 Sq16 hp h gq17 => ?_)
  have h := h gq17
  obtain ⟨-, M, G, Vxq15⟩ := hp
  have W := rm_F W G
  refine cm_X11_readWhole (sp_X11_readWhole h M) h (fun xq18 Sq19 hp h gq20 => ?_)
  have h := h gq20
  obtain ⟨-, M, G, Vxq18⟩ := hp
  have W := rm_F W G
  refine cm_X11_readPart (sp_X11_readPart (w := 10) h M (by decide)) h (fun xq21 Sq22 hp h gq23 => ?_)
  have h := h gq23
  obtain ⟨-, M, G, Vxq21⟩ := hp
  have W := rm_F W G
  intro xq24 exq24
  have h := h xq24 exq24
  refine ⟨?_, ?_⟩
  · intro cq25
    obtain ⟨q, hq⟩ := ms_ok M (fun z => cq25 (exq24.trans z))
    simp only [rb_rb] at hq
    obtain ⟨p1, hp1, -⟩ := rb_inl (R := sRoom f n p (aH A) (aHs A) 6) hq
    have rk := room_ok hp1
    have h := h.1 cq25
    obtain ⟨aq26, eaq26, h⟩ := h
    refine ⟨aq26, eaq26, ?_⟩
    cases W.1.symm.trans eaq26
    obtain ⟨oq27, h⟩ := h
    refine ⟨oq27, ?_⟩
    obtain ⟨aq28, eaq28, h⟩ := h
    refine ⟨aq28, eaq28, ?_⟩
    obtain ⟨aq29, eaq29, h⟩ := h
    refine ⟨aq29, eaq29, ?_⟩
    cases W.1.symm.trans eaq29
    obtain ⟨oq30, h⟩ := h
    refine ⟨oq30, ?_⟩
    intro xq31 exq31
    have h := h xq31 exq31
    obtain ⟨oq32, h⟩ := h
    refine ⟨oq32, ?_⟩
    obtain ⟨oq33, h⟩ := h
    refine ⟨oq33, ?_⟩
    intro Sq34 eSq34
    have h := h Sq34 eSq34
    obtain ⟨M, W⟩ := wr_I M W eaq28 oq32 eSq34 (by decide) (by decide)
    obtain ⟨aq35, eaq35, h⟩ := h
    refine ⟨aq35, eaq35, ?_⟩
    cases W.1.symm.trans eaq35
    obtain ⟨oq36, h⟩ := h
    refine ⟨oq36, ?_⟩
    obtain ⟨aq37, eaq37, h⟩ := h
    refine ⟨aq37, eaq37, ?_⟩
    obtain ⟨aq38, eaq38, h⟩ := h
    refine ⟨aq38, eaq38, ?_⟩
    cases W.1.symm.trans eaq38
    obtain ⟨oq39, h⟩ := h
    refine ⟨oq39, ?_⟩
    intro xq40 exq40
    have h := h xq40 exq40
    obtain ⟨oq41, h⟩ := h
    refine ⟨oq41, ?_⟩
    obtain ⟨oq42, h⟩ := h
    refine ⟨oq42, ?_⟩
    intro Sq43 eSq43
    have h := h Sq43 eSq43
    obtain ⟨M, W⟩ := wr_I M W eaq37 oq41 eSq43 (by decide) (by decide)
    obtain ⟨aq44, eaq44, h⟩ := h
    refine ⟨aq44, eaq44, ?_⟩
    cases W.1.symm.trans eaq44
    obtain ⟨oq45, h⟩ := h
    refine ⟨oq45, ?_⟩
    obtain ⟨aq46, eaq46, h⟩ := h
    refine ⟨aq46, eaq46, ?_⟩
    obtain ⟨aq47, eaq47, h⟩ := h
    refine ⟨aq47, eaq47, ?_⟩
    cases W.1.symm.trans eaq47
    obtain ⟨oq48, h⟩ := h
    refine ⟨oq48, ?_⟩
    intro xq49 exq49
    have h := h xq49 exq49
    obtain ⟨oq50, h⟩ := h
    refine ⟨oq50, ?_⟩
    obtain ⟨oq51, h⟩ := h
    refine ⟨oq51, ?_⟩
    intro Sq52 eSq52
    have h := h Sq52 eSq52
    obtain ⟨M, W⟩ := wr_I M W eaq46 oq50 eSq52 (by decide) (by decide)
    obtain ⟨aq53, eaq53, h⟩ := h
    refine ⟨aq53, eaq53, ?_⟩
    cases W.1.symm.trans eaq53
    obtain ⟨oq54, h⟩ := h
    refine ⟨oq54, ?_⟩
    obtain ⟨aq55, eaq55, h⟩ := h
    refine ⟨aq55, eaq55, ?_⟩
    obtain ⟨aq56, eaq56, h⟩ := h
    refine ⟨aq56, eaq56, ?_⟩
    cases W.1.symm.trans eaq56
    obtain ⟨oq57, h⟩ := h
    refine ⟨oq57, ?_⟩
    intro xq58 exq58
    have h := h xq58 exq58
    obtain ⟨oq59, h⟩ := h
    refine ⟨oq59, ?_⟩
    obtain ⟨oq60, h⟩ := h
    refine ⟨oq60, ?_⟩
    intro Sq61 eSq61
    have h := h Sq61 eSq61
    obtain ⟨M, W⟩ := wr_I M W eaq55 oq59 eSq61 (by decide) (by decide)
    obtain ⟨aq62, eaq62, h⟩ := h
    refine ⟨aq62, eaq62, ?_⟩
    cases W.1.symm.trans eaq62
    obtain ⟨oq63, h⟩ := h
    refine ⟨oq63, ?_⟩
    obtain ⟨aq64, eaq64, h⟩ := h
    refine ⟨aq64, eaq64, ?_⟩
    obtain ⟨aq65, eaq65, h⟩ := h
    refine ⟨aq65, eaq65, ?_⟩
    cases W.1.symm.trans eaq65
    obtain ⟨oq66, h⟩ := h
    refine ⟨oq66, ?_⟩
    intro xq67 exq67
    have h := h xq67 exq67
    obtain ⟨oq68, h⟩ := h
    refine ⟨oq68, ?_⟩
    obtain ⟨oq69, h⟩ := h
    refine ⟨oq69, ?_⟩
    intro Sq70 eSq70
    have h := h Sq70 eSq70
    obtain ⟨M, W⟩ := wr_I M W eaq64 oq68 eSq70 (by decide) (by decide)
    obtain ⟨aq71, eaq71, h⟩ := h
    refine ⟨aq71, eaq71, ?_⟩
    cases W.1.symm.trans eaq71
    obtain ⟨oq72, h⟩ := h
    refine ⟨oq72, ?_⟩
    intro xq73 exq73
    have h := h xq73 exq73
    intro xq74 exq74
    have h := h xq74 exq74
    intro Sq75 eSq75
    have h := h Sq75 eSq75
    have eL := eSq75
    obtain ⟨M, W⟩ := wr_C (A' := up1 A) M W eL (by decide) (cn_1 W.2.2.1 eL (inc_ exq73 W.2.2.1.2.1 exq74)) rfl (ab_1 W.2.2.2.2.1 rk.2) (zc_h rk.1)
    exact ⟨h, lm_ok M (by simp only [rb_rb, sRain, l64_0, l64_1, l64_5, l64_8, l64_9, l64_60, l64_99, l64_100, l64_999]; rfl) W⟩
  · intro cq76
    have h := h.2 cq76
    exact ⟨h, lm_ov M (by simp only [rb_rb, sRain, l64_0, l64_1, l64_5, l64_8, l64_9, l64_60, l64_99, l64_100, l64_999]; rfl) (exq24.symm.trans cq76)⟩
end MLines2
