section MLines6
variable {f : Nat → Int32} {n a rd nm ns nk p : Nat} {A : AS} {σ : Res} {Q : Int32 → HS → Prop} {QU : HS → Prop} {S T : HS} {v0 : Nat}
theorem ssw_kn {p : Nat} : sSW f n p A = rb (sKn f n p A 1) (fun q => .inl (tEn f n q)) := by
  unfold sSW sKn
  by_cases hk : nmOk f n p
  · rw [dc_y hk, dc_y hk]
    cases hl : lkr (aV A) (aI A) (tV f n p) (aM A) 0 with
    | none => rfl
    | some k =>
      show (if k < 8 then (.inr (2, tSt f n p) : Res) else .inl (tEn f n p)) = rb (dc ((if k < 8 then (0 : Int32) else 1) = 1) (.inl p) (.inr (2, tSt f n p))) _
      by_cases h8 : k < 8
      · rw [if_pos h8, dc_n (by rw [if_pos h8]; decide)]; rfl
      · rw [if_neg h8, dc_y (by rw [if_neg h8])]; rfl
  · rw [dc_n hk, dc_n hk]; rfl
theorem seen_step {R : Res} {i : Nat} (hi : i < 5) : rb R (fun p => sFc f n (5 - i) i p) = rb (rb (rb R (fun p => if i = 0 then (.inl p : Res) else sSign f n p 4)) (fun p => sWhole f n p (0 : Int32).toInt64 (999 : Int32).toInt64)) (fun p => sFc f n (4 - i) (i + 1) p) := by
  rw [show 5 - i = (4 - i) + 1 by omega]
  simp only [rb_rb]
  rfl
def InvSn (f : Nat → Int32) (n a r rd nm ns nk : Nat) (A : AS) (L : Res) (v0 : Nat) (v2 : Int32) (S : HS) : Prop := ∃ (i : Nat) (R : Res), r = v0 ∧ v2 = nI i ∧ i ≤ 5 ∧ MS f n a r R S ∧ RMw r rd nm ns nk A S ∧ L = rb R (fun p => sFc f n (5 - i) i p) ∧ (∀ q, R = .inl q → aS A < 4 ∧ aH A ≠ 0) ∧ (0 < i → ∃ q, R = .inl q)
set_option maxHeartbeats 1000000 in
theorem lpSn {r : Nat} {L : Res} {v0 : Nat} {v1 v2 : Int32} (h : P_X11_readSeen_24 QU v0 v1 v2 S) (hi : InvSn f n a r rd nm ns nk A L v0 v2 S) : P_X11_readSeen_24 (fun T => QU T ∧ LBm f n a r rd nm ns nk L (up5 A) T) v0 v1 v2 S := by
  refine h (fun v0 v1 v2 S => InvSn f n a r rd nm ns nk A L v0 v2 S → P_X11_readSeen_24 (fun T => QU T ∧ LBm f n a r rd nm ns nk L (up5 A) T) v0 v1 v2 S) ?_ hi
  intro v0 v1 v2 S h hi
  obtain ⟨i, R, rfl, hv2, hi5, M, W, HL, hR, hin⟩ := hi
  have e5 : (5 : Int32).toInt = 5 := by decide
  have e0 : (0 : Int32).toInt = 0 := by decide
  have ei : v2.toInt = (i : Int) := by rw [hv2]; exact nI_i (by omega)
  refine fd_X11_readSeen_24 ?_
  delta B_X11_readSeen_24
  refine ⟨?_, ?_⟩
  · intro cq1
    have z := le_i cq1
    have i5 : i = 5 := by omega
    obtain ⟨q, hq⟩ := hin (by omega)
    have rk := hR q hq
    have M := ms_eq (τ := L) M (by rw [HL, hq, i5]; rfl)
    have h := h.1 cq1
    obtain ⟨oq2, h⟩ := h
    refine ⟨oq2, ?_⟩
    obtain ⟨aq3, eaq3, h⟩ := h
    refine ⟨aq3, eaq3, ?_⟩
    cases W.1.symm.trans eaq3
    obtain ⟨oq4, h⟩ := h
    refine ⟨oq4, ?_⟩
    obtain ⟨aq5, eaq5, h⟩ := h
    refine ⟨aq5, eaq5, ?_⟩
    obtain ⟨aq6, eaq6, h⟩ := h
    refine ⟨aq6, eaq6, ?_⟩
    cases W.1.symm.trans eaq6
    obtain ⟨oq7, h⟩ := h
    refine ⟨oq7, ?_⟩
    intro xq8 exq8
    have h := h xq8 exq8
    obtain ⟨oq9, h⟩ := h
    refine ⟨oq9, ?_⟩
    obtain ⟨oq10, h⟩ := h
    refine ⟨oq10, ?_⟩
    intro Sq11 eSq11
    have h := h Sq11 eSq11
    obtain ⟨M, W⟩ := wr_I M W eaq5 oq9 eSq11 (by decide) (by decide)
    obtain ⟨aq12, eaq12, h⟩ := h
    refine ⟨aq12, eaq12, ?_⟩
    cases W.1.symm.trans eaq12
    obtain ⟨oq13, h⟩ := h
    refine ⟨oq13, ?_⟩
    intro xq14 exq14
    have h := h xq14 exq14
    intro xq15 exq15
    have h := h xq15 exq15
    intro Sq16 eSq16
    have h := h Sq16 eSq16
    have eL := eSq16
    obtain ⟨M, W⟩ := wr_C (A' := up5 A) M W eL (by decide) (cn_5 W.2.2.1 eL (inc_ exq14 W.2.2.1.2.2.2.2.2 exq15)) rfl (ab_5 W.2.2.2.2.1 rk.1) (zc_h rk.2)
    exact ⟨h, lm_ok M rfl W⟩
  · intro cq17
    have z5 := nle_i cq17
    have i4 : i < 5 := by omega
    rw [seen_step i4] at HL
    have h := h.2 cq17
    refine ⟨?_, ?_⟩
    · intro cq18
      have z := le_i cq18
      have i0 : i = 0 := by omega
      have M := ms_eq (τ := rb R (fun p => if i = 0 then (.inl p : Res) else sSign f n p 4)) M (rb_idd (fun p hp => by rw [if_pos i0]))
      have h := h.1 cq18
      delta P_X11_readSeen_47
      obtain ⟨oq19, h⟩ := h
      refine ⟨oq19, ?_⟩
      refine cm_X11_readWhole (sp_X11_readWhole h M) h (fun xq20 Sq21 hp h gq22 => ?_)
      have h := h gq22
      obtain ⟨-, M, G, Vxq20⟩ := hp
      have W := rm_F W G
      intro xq23 exq23
      have h := h xq23 exq23
      refine ⟨?_, ?_⟩
      · intro cq24
        obtain ⟨q, hq⟩ := ms_ok M (fun z => cq24 (exq23.trans z))
        have hR2 : aS A < 4 ∧ aH A ≠ 0 := by
          obtain ⟨q1, h1, -⟩ := rb_inl hq
          obtain ⟨q2, h2, -⟩ := rb_inl h1
          exact hR q2 h2
        have h := h.1 cq24
        obtain ⟨aq25, eaq25, h⟩ := h
        refine ⟨aq25, eaq25, ?_⟩
        cases W.1.symm.trans eaq25
        obtain ⟨oq26, h⟩ := h
        refine ⟨oq26, ?_⟩
        obtain ⟨aq27, eaq27, h⟩ := h
        refine ⟨aq27, eaq27, ?_⟩
        obtain ⟨aq28, eaq28, h⟩ := h
        refine ⟨aq28, eaq28, ?_⟩
        cases W.1.symm.trans eaq28
        obtain ⟨oq29, h⟩ := h
        refine ⟨oq29, ?_⟩
        intro xq30 exq30
        have h := h xq30 exq30
        obtain ⟨oq31, h⟩ := h
        refine ⟨oq31, ?_⟩
        obtain ⟨oq32, h⟩ := h
        refine ⟨oq32, ?_⟩
        intro Sq33 eSq33
        have h := h Sq33 eSq33
        obtain ⟨M, W⟩ := wr_I M W eaq27 oq31 eSq33 (by decide) (by decide)
        intro xq34 exq34
        have h := h xq34 exq34
        exact h ⟨i + 1, _, rfl, by rw [exq34, hv2]; exact nI_1 i, by omega, M, W, by rw [HL, show 5 - (i + 1) = 4 - i by omega], fun _ _ => hR2, fun _ => ⟨q, hq⟩⟩
      · intro cq35
        obtain ⟨e, he⟩ := (ms_9 M).2.2.2.2.mp (exq23.symm.trans cq35)
        have h := h.2 cq35
        exact ⟨h, lm_ov M (by rw [HL, he]; rfl) (exq23.symm.trans cq35)⟩
    · intro cq36
      have z := nle_i cq36
      have i0 : ¬ i = 0 := by omega
      have h := h.2 cq36
      obtain ⟨oq37, h⟩ := h
      refine ⟨oq37, ?_⟩
      refine cm_X11_eatsSign (sp_X11_eatsSign (k := 4) h M (Or.inr ⟨rfl, rfl⟩)) h (fun xq38 Sq39 hp h gq40 bq41 => ?_)
      have h := h gq40 bq41
      obtain ⟨-, M, G, Vxq38⟩ := hp
      have W := rm_F W G
      refine ⟨?_, ?_⟩
      · intro cq42
        have N := an1 Vxq38 cq42
        have M := ms_eq (τ := rb R (fun p => if i = 0 then (.inl p : Res) else sSign f n p 4)) M (rb_cg (fun p hp => by rw [dc_y (hs_p N hp), if_neg i0]; unfold sSign; rw [if_pos (hs_p N hp)]))
        have h := h.1 cq42
        delta P_X11_readSeen_47
        obtain ⟨oq43, h⟩ := h
        refine ⟨oq43, ?_⟩
        refine cm_X11_readWhole (sp_X11_readWhole h M) h (fun xq44 Sq45 hp h gq46 => ?_)
        have h := h gq46
        obtain ⟨-, M, G, Vxq44⟩ := hp
        have W := rm_F W G
        intro xq47 exq47
        have h := h xq47 exq47
        refine ⟨?_, ?_⟩
        · intro cq48
          obtain ⟨q, hq⟩ := ms_ok M (fun z => cq48 (exq47.trans z))
          have hR2 : aS A < 4 ∧ aH A ≠ 0 := by
            obtain ⟨q1, h1, -⟩ := rb_inl hq
            obtain ⟨q2, h2, -⟩ := rb_inl h1
            exact hR q2 h2
          have h := h.1 cq48
          obtain ⟨aq49, eaq49, h⟩ := h
          refine ⟨aq49, eaq49, ?_⟩
          cases W.1.symm.trans eaq49
          obtain ⟨oq50, h⟩ := h
          refine ⟨oq50, ?_⟩
          obtain ⟨aq51, eaq51, h⟩ := h
          refine ⟨aq51, eaq51, ?_⟩
          obtain ⟨aq52, eaq52, h⟩ := h
          refine ⟨aq52, eaq52, ?_⟩
          cases W.1.symm.trans eaq52
          obtain ⟨oq53, h⟩ := h
          refine ⟨oq53, ?_⟩
          intro xq54 exq54
          have h := h xq54 exq54
          obtain ⟨oq55, h⟩ := h
          refine ⟨oq55, ?_⟩
          obtain ⟨oq56, h⟩ := h
          refine ⟨oq56, ?_⟩
          intro Sq57 eSq57
          have h := h Sq57 eSq57
          obtain ⟨M, W⟩ := wr_I M W eaq51 oq55 eSq57 (by decide) (by decide)
          intro xq58 exq58
          have h := h xq58 exq58
          exact h ⟨i + 1, _, rfl, by rw [exq58, hv2]; exact nI_1 i, by omega, M, W, by rw [HL, show 5 - (i + 1) = 4 - i by omega], fun _ _ => hR2, fun _ => ⟨q, hq⟩⟩
        · intro cq59
          obtain ⟨e, he⟩ := (ms_9 M).2.2.2.2.mp (exq47.symm.trans cq59)
          have h := h.2 cq59
          exact ⟨h, lm_ov M (by rw [HL, he]; rfl) (exq47.symm.trans cq59)⟩
      · intro cq60
        have N := an0 Vxq38 cq60
        have M := ms_eq M (rb_idd (fun p hp => (dc_n (hs_np N hp)).symm)).symm
        have h := h.2 cq60
        refine cm_X11_flaw (sp_X11_flaw (k := 1) h M rfl) h (fun Sq61 hp h gq62 => ?_)
        have h := h gq62
        obtain ⟨-, M, G⟩ := hp
        have W := rm_F W G
        have M := ms_eq (τ := rb R (fun p => if i = 0 then (.inl p : Res) else sSign f n p 4)) M (rb_cg (fun p hp => by rw [if_neg i0]; unfold sSign; rw [if_neg (hs_np N hp)]))
        delta P_X11_readSeen_47
        obtain ⟨oq63, h⟩ := h
        refine ⟨oq63, ?_⟩
        refine cm_X11_readWhole (sp_X11_readWhole h M) h (fun xq64 Sq65 hp h gq66 => ?_)
        have h := h gq66
        obtain ⟨-, M, G, Vxq64⟩ := hp
        have W := rm_F W G
        intro xq67 exq67
        have h := h xq67 exq67
        refine ⟨?_, ?_⟩
        · intro cq68
          obtain ⟨q, hq⟩ := ms_ok M (fun z => cq68 (exq67.trans z))
          have hR2 : aS A < 4 ∧ aH A ≠ 0 := by
            obtain ⟨q1, h1, -⟩ := rb_inl hq
            obtain ⟨q2, h2, -⟩ := rb_inl h1
            exact hR q2 h2
          have h := h.1 cq68
          obtain ⟨aq69, eaq69, h⟩ := h
          refine ⟨aq69, eaq69, ?_⟩
          cases W.1.symm.trans eaq69
          obtain ⟨oq70, h⟩ := h
          refine ⟨oq70, ?_⟩
          obtain ⟨aq71, eaq71, h⟩ := h
          refine ⟨aq71, eaq71, ?_⟩
          obtain ⟨aq72, eaq72, h⟩ := h
          refine ⟨aq72, eaq72, ?_⟩
          cases W.1.symm.trans eaq72
          obtain ⟨oq73, h⟩ := h
          refine ⟨oq73, ?_⟩
          intro xq74 exq74
          have h := h xq74 exq74
          obtain ⟨oq75, h⟩ := h
          refine ⟨oq75, ?_⟩
          obtain ⟨oq76, h⟩ := h
          refine ⟨oq76, ?_⟩
          intro Sq77 eSq77
          have h := h Sq77 eSq77
          obtain ⟨M, W⟩ := wr_I M W eaq71 oq75 eSq77 (by decide) (by decide)
          intro xq78 exq78
          have h := h xq78 exq78
          exact h ⟨i + 1, _, rfl, by rw [exq78, hv2]; exact nI_1 i, by omega, M, W, by rw [HL, show 5 - (i + 1) = 4 - i by omega], fun _ _ => hR2, fun _ => ⟨q, hq⟩⟩
        · intro cq79
          obtain ⟨e, he⟩ := (ms_9 M).2.2.2.2.mp (exq67.symm.trans cq79)
          have h := h.2 cq79
          exact ⟨h, lm_ov M (by rw [HL, he]; rfl) (exq67.symm.trans cq79)⟩
set_option maxHeartbeats 1000000 in
theorem sp_X11_readSeen (h : P_X11_readSeen v0 QU S) (M : MS f n a v0 (.inl p) S) (W : RMw v0 rd nm ns nk A S) (hg : ∀ q, (.inl p : Res) = .inl q → tS f n q ≠ 6) : P_X11_readSeen v0 (fun T => QU T ∧ LBm f n a v0 rd nm ns nk (rb (sRoom f n p (aH A) (aS A) 4) fun p => sSeen f n p A) (up5 A) T) S := by
  delta P_X11_readSeen P_X11_readSeen_0
  obtain ⟨oq1, h⟩ := h
  refine ⟨oq1, ?_⟩
  obtain ⟨aq2, eaq2, h⟩ := h
  refine ⟨aq2, eaq2, ?_⟩
  cases W.1.symm.trans eaq2
  obtain ⟨oq3, h⟩ := h
  refine ⟨oq3, ?_⟩
  intro xq4 exq4
  have h := h xq4 exq4
  refine cm_X11_begins (sp_X11_begins (c := aS A) (k := 4) h M W hg (exq4.trans W.2.2.1.2.2.2.2.2) rfl W.2.2.2.2.1.2.2.2.2.2 (by decide) (fun z => by have := W.2.2.2.2.2 z; omega)) h (fun Sq5 hp h gq6 => ?_)
  have h := h gq6
  obtain ⟨-, M, G⟩ := hp
  have W := rm_F W G
  refine cm_X11_known (sp_X11_known h M W) h (fun xq7 Sq8 hp h gq9 => ?_)
  have h := h gq9
  obtain ⟨-, M, G, Vxq7⟩ := hp
  have W := rm_F W G
  refine cm_X11_goesOn (sp_X11_goesOn h M gs_k) h (fun Sq10 hp h gq11 => ?_)
  have h := h gq11
  obtain ⟨-, M, G⟩ := hp
  have W := rm_F W G
  refine lpSn h ⟨0, _, rfl, nI_0.symm, by omega, M, W, ?_, fun q hq => ?_, fun z => absurd z (by omega)⟩
  · refine Eq.symm ?_
    show rb (rb (rb (sRoom f n p (aH A) (aS A) 4) (fun p => sKn f n p A 1)) (fun p => .inl (tEn f n p))) (fun p => sFc f n 5 0 p) = _
    rw [rb_rb (R := rb (sRoom f n p (aH A) (aS A) 4) _), rb_rb]
    refine rb_cg (fun q hq => ?_)
    unfold sSeen
    rw [ssw_kn, rb_rb]
  · obtain ⟨q1, h1, -⟩ := rb_inl hq
    obtain ⟨q2, h2, -⟩ := rb_inl h1
    have rk := room_ok (show sRoom f n p (aH A) (aS A) 4 = .inl q2 from h2)
    exact ⟨rk.2, rk.1⟩
set_option maxHeartbeats 1000000 in
theorem sp_X11_readLine (h : P_X11_readLine v0 QU S) (M : MS f n a v0 (.inl p) S) (W : RMw v0 rd nm ns nk A S) (hAM : aM A = aP A + aW A) : P_X11_readLine v0 (fun T => QU T ∧ LBm f n a v0 rd nm ns nk (sLn f n p A) (aLn f n p A) T) S := by
  delta P_X11_readLine P_X11_readLine_0
  obtain ⟨oq1, h⟩ := h
  refine ⟨oq1, ?_⟩
  refine cm_X11_isWord (sp_X11_isWord (w := 0) h M (by decide)) h (fun xq2 Sq3 hp h gq4 bq5 => ?_)
  have h := h gq4 bq5
  obtain ⟨-, hS, Axq2⟩ := hp
  subst hS
  refine ⟨?_, ?_⟩
  · intro cq6
    have Ncq6 : ¬ isW f n p 0 := an0 Axq2 cq6
    have h := h.1 cq6
    refine cm_X11_isWord (sp_X11_isWord (w := 2) h M (by decide)) h (fun xq7 Sq8 hp h gq9 bq10 => ?_)
    have h := h gq9 bq10
    obtain ⟨-, hS, Axq7⟩ := hp
    subst hS
    refine ⟨?_, ?_⟩
    · intro cq11
      have Ncq11 : ¬ isW f n p 2 := an0 Axq7 cq11
      have h := h.1 cq11
      refine cm_X11_isWord (sp_X11_isWord (w := 11) h M (by decide)) h (fun xq12 Sq13 hp h gq14 bq15 => ?_)
      have h := h gq14 bq15
      obtain ⟨-, hS, Axq12⟩ := hp
      subst hS
      refine ⟨?_, ?_⟩
      · intro cq16
        have Ncq16 : ¬ isW f n p 11 := an0 Axq12 cq16
        have h := h.1 cq16
        refine cm_X11_isWord (sp_X11_isWord (w := 12) h M (by decide)) h (fun xq17 Sq18 hp h gq19 bq20 => ?_)
        have h := h gq19 bq20
        obtain ⟨-, hS, Axq17⟩ := hp
        subst hS
        refine ⟨?_, ?_⟩
        · intro cq21
          have Ncq21 : ¬ isW f n p 12 := an0 Axq17 cq21
          have h := h.1 cq21
          refine cm_X11_isWord (sp_X11_isWord (w := 13) h M (by decide)) h (fun xq22 Sq23 hp h gq24 bq25 => ?_)
          have h := h gq24 bq25
          obtain ⟨-, hS, Axq22⟩ := hp
          subst hS
          refine ⟨?_, ?_⟩
          · intro cq26
            have Ncq26 : ¬ isW f n p 13 := an0 Axq22 cq26
            have h := h.1 cq26
            refine cm_X11_isWord (sp_X11_isWord (w := 14) h M (by decide)) h (fun xq27 Sq28 hp h gq29 bq30 => ?_)
            have h := h gq29 bq30
            obtain ⟨-, hS, Axq27⟩ := hp
            subst hS
            refine ⟨?_, ?_⟩
            · intro cq31
              have Ncq31 : ¬ isW f n p 14 := an0 Axq27 cq31
              have h := h.1 cq31
              refine cm_X11_flaw (sp_X11_flaw (k := 1) h M rfl) h (fun Sq32 hp h gq33 => ?_)
              have h := h gq33
              obtain ⟨-, M, G⟩ := hp
              have W := rm_F W G
              exact ⟨h, ms_eq M (by unfold sLn; rw [dc_n Ncq6, dc_n Ncq11, dc_n Ncq16, dc_n Ncq21, dc_n Ncq26, dc_n Ncq31]; rfl), fun q hq => by
                unfold sLn at hq
                rw [dc_n Ncq6, dc_n Ncq11, dc_n Ncq16, dc_n Ncq21, dc_n Ncq26, dc_n Ncq31] at hq
                cases hq⟩
            · intro cq34
              have Ncq34 : isW f n p 14 := an1 Axq27 cq34
              have h := h.2 cq34
              refine cm_X11_readSeen (sp_X11_readSeen h M W (gs_w (w := 14) Ncq34)) h (fun Sq35 hp h gq36 => ?_)
              have h := h gq36
              obtain ⟨-, LB⟩ := hp
              refine ⟨h, ?_⟩
              unfold sLn aLn
              rw [dc_n Ncq6, dc_n Ncq11, dc_n Ncq16, dc_n Ncq21, dc_n Ncq26, dc_y Ncq34, dc_n Ncq6, dc_n Ncq11, dc_n Ncq16, dc_n Ncq21, dc_n Ncq26]
              exact LB
          · intro cq37
            have Ncq37 : isW f n p 13 := an1 Axq22 cq37
            have h := h.2 cq37
            refine cm_X11_readWalker (sp_X11_readWalker h M W (gs_w (w := 13) Ncq37) hAM) h (fun Sq38 hp h gq39 => ?_)
            have h := h gq39
            obtain ⟨-, LB⟩ := hp
            refine ⟨h, ?_⟩
            unfold sLn aLn
            rw [dc_n Ncq6, dc_n Ncq11, dc_n Ncq16, dc_n Ncq21, dc_y Ncq37, dc_n Ncq6, dc_n Ncq11, dc_n Ncq16, dc_n Ncq21, dc_y Ncq37]
            exact LB
        · intro cq40
          have Ncq40 : isW f n p 12 := an1 Axq17 cq40
          have h := h.2 cq40
          refine cm_X11_readRoad (sp_X11_readRoad h M W (gs_w (w := 12) Ncq40)) h (fun Sq41 hp h gq42 => ?_)
          have h := h gq42
          obtain ⟨-, LB⟩ := hp
          refine ⟨h, ?_⟩
          unfold sLn aLn
          rw [dc_n Ncq6, dc_n Ncq11, dc_n Ncq16, dc_y Ncq40, dc_n Ncq6, dc_n Ncq11, dc_n Ncq16, dc_y Ncq40]
          exact LB
      · intro cq43
        have Ncq43 : isW f n p 11 := an1 Axq12 cq43
        have h := h.2 cq43
        refine cm_X11_readPlace (sp_X11_readPlace h M W (gs_w (w := 11) Ncq43) hAM) h (fun Sq44 hp h gq45 => ?_)
        have h := h gq45
        obtain ⟨-, LB⟩ := hp
        refine ⟨h, ?_⟩
        unfold sLn aLn
        rw [dc_n Ncq6, dc_n Ncq11, dc_y Ncq43, dc_n Ncq6, dc_n Ncq11, dc_y Ncq43]
        exact LB
    · intro cq46
      have Ncq46 : isW f n p 2 := an1 Axq7 cq46
      have h := h.2 cq46
      refine cm_X11_readRain (sp_X11_readRain h M W (gs_w (w := 2) Ncq46)) h (fun Sq47 hp h gq48 => ?_)
      have h := h gq48
      obtain ⟨-, LB⟩ := hp
      refine ⟨h, ?_⟩
      unfold sLn aLn
      rw [dc_n Ncq6, dc_y Ncq46, dc_n Ncq6, dc_y Ncq46]
      exact LB
  · intro cq49
    have Ncq49 : isW f n p 0 := an1 Axq2 cq49
    have h := h.2 cq49
    refine cm_X11_readWorld (sp_X11_readWorld h M W (gs_w (w := 0) Ncq49)) h (fun Sq50 hp h gq51 => ?_)
    have h := h gq51
    obtain ⟨-, LB⟩ := hp
    refine ⟨h, ?_⟩
    unfold sLn aLn
    rw [dc_y Ncq49, dc_y Ncq49]
    exact LB
end MLines6
