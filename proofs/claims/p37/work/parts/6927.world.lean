section World2
variable {f : Nat → Int32} {n a r w nm nd c : Nat} {S T : HS} {Q : Int32 → HS → Prop}
theorem sp_X9_refuse {v1 : Int32} (h : P_X9_refuse c v1 Q S) : P_X9_refuse c v1 (fun x T => Q x T ∧ x = -1 ∧ T = sI S c 9 v1) S := by
  delta P_X9_refuse P_X9_refuse_0
  obtain ⟨o1, h⟩ := h
  refine ⟨o1, ?_⟩
  intro S2 e2
  exact ⟨h S2 e2, rfl, e2⟩
theorem sp_X9_grant {v1 : Int32} (h : P_X9_grant c v1 Q S) : P_X9_grant c v1 (fun x T => Q x T ∧ x = v1 ∧ T = sI S c 9 0) S := by
  delta P_X9_grant P_X9_grant_0
  obtain ⟨o1, h⟩ := h
  refine ⟨o1, ?_⟩
  intro S2 e2
  exact ⟨h S2 e2, rfl, e2⟩
theorem sp_X7_forget {Q : HS → Prop} (h : P_X7_forget c Q S) : P_X7_forget c (fun T => Q T ∧ T = sI S c 10 (-1)) S := by
  delta P_X7_forget P_X7_forget_0
  obtain ⟨o1, h⟩ := h
  refine ⟨o1, ?_⟩
  intro S2 e2
  exact ⟨h S2 e2, e2⟩
theorem sp_X0_end {Q : HS → Prop} (h : P_X0_end c Q S) : P_X0_end c (fun T => Q T ∧ Fr [0, 2, 3] [] c S T ∧ fI T c 0 = -1 ∧ fI T c 2 = 0 ∧ fI T c 3 = 0) S := by
  delta P_X0_end P_X0_end_0
  obtain ⟨o1, h⟩ := h
  refine ⟨o1, ?_⟩
  intro S2 e2
  have h := h S2 e2
  intro S3 e3
  have h := h S3 e3
  intro S4 e4
  have h := h S4 e4
  refine ⟨h, fr_wI (fr_wI (fr_wI (fr_rf _ _ _ _) e2 (by decide)) e3 (by decide)) e4 (by decide), ?_, ?_, wI_at e4⟩
  · rw [wI_ne e4 (by decide), wI_ne e3 (by decide), wI_at e2]
  · rw [wI_ne e4 (by decide), wI_at e3]
theorem sp_X4_exchange {Q : Nat → HS → Prop} {v1 : Nat} (h : P_X4_exchange r v1 Q S) : P_X4_exchange r v1 (fun x T => Q x T ∧ fR S r 5 = some x ∧ T = sR S r 5 (some v1)) S := by
  delta P_X4_exchange P_X4_exchange_0
  obtain ⟨o1, h⟩ := h
  refine ⟨o1, ?_⟩
  obtain ⟨a2, ea2, h⟩ := h
  refine ⟨a2, ea2, ?_⟩
  intro S2 e2
  exact ⟨h S2 e2, ea2, e2⟩
theorem sp_X9_world_bad {v1 : Int32} (h : P_X9_world c v1 Q S) (hb : v1 < 0 ∨ fI S c 1 < v1) : P_X9_world c v1 (fun x T => Q x T ∧ x = -1 ∧ T = sI S c 9 2) S := by
  have b12 : P_X9_world_12 Q c S → P_X9_world_12 (fun x T => Q x T ∧ x = -1 ∧ T = sI S c 9 2) c S := by
    intro h
    delta P_X9_world_12
    obtain ⟨o2, h⟩ := h
    refine ⟨o2, ?_⟩
    refine cm_X9_refuse (sp_X9_refuse h) h (fun x3 S4 hp h g5 => ?_)
    exact ⟨h g5, hp.2⟩
  delta P_X9_world P_X9_world_0
  refine ⟨fun c1 => b12 (h.1 c1), fun c6 => ?_⟩
  have h := h.2 c6
  obtain ⟨o7, h⟩ := h
  refine ⟨o7, ?_⟩
  intro x8 ex8
  have h := h x8 ex8
  refine ⟨fun c9 => ?_, fun c52 => b12 (h.2 c52)⟩
  rcases hb with hb | hb
  · exact absurd hb c6
  · rw [← ex8] at hb
    exact absurd hb (Int32.not_lt.mpr c9)
/-- what the class's world(n) comes to, where n is good -/
def WcB (R : AS ⊕ (Nat × Nat)) (c : Nat) (x : Int32) (T : HS) : Prop := match R with
  | .inl A => x = nI (aW A) ∧ fI T c 7 = 0 ∧ fI T c 9 = 0
  | .inr e => x = -1 ∧ fI T c 7 = nI e.1 ∧ fI T c 8 = nI e.2 ∧ fI T c 9 = 4
set_option maxHeartbeats 4000000 in
theorem sp_X9_world_ok {v1 : Int32} (hI : IV S) (oc : ob S c 9) (h : P_X9_world c v1 Q S) (hv : v1 = nI n) (ha : fR S c 0 = some a) (hrr : fR S c 3 = some r) (hr : Rdy f n a r w nm nd S) (hd : DSt w nd S) (hwk : ∀ x b i, fR S w 9 = some b → i < hN S b → fR S b i = some x → ob S x 6) (hw9 : ∀ b, fR S w 9 = some b → b ≠ r) (hle : v1 ≤ fI S c 1) : P_X9_world c v1 (fun x T => Q x T ∧ WcB (sAll f n 1000 0 A00) c x T) S := by
  have hr0 := hr
  obtain ⟨r1, r2, r3, r4, r5, r6, o1, o2, o3, o4, o5⟩ := hr0
  have nrc : r ≠ c := ob_ne o1 oc (by decide)
  have nwc : w ≠ c := ob_ne o2 oc (by decide)
  have iv : v1.toInt = (n : Int) := by rw [hv]; exact nI_i (by omega)
  have e0 : (0 : Int32).toInt = 0 := by decide
  have h0 : ¬ v1 < 0 := fun z => by have := lt_i z; omega
  delta P_X9_world P_X9_world_0
  refine ⟨fun c1 => absurd c1 h0, fun c6 => ?_⟩
  have h := h.2 c6
  obtain ⟨o7, h⟩ := h
  refine ⟨o7, ?_⟩
  intro x8 ex8
  have h := h x8 ex8
  refine ⟨fun c9 => ?_, fun c52 => absurd (by rw [ex8]; exact hle) c52⟩
  have h := h.1 c9
  obtain ⟨a10, ea10, h⟩ := h
  refine ⟨a10, ea10, ?_⟩
  cases hrr.symm.trans ea10
  obtain ⟨a11, ea11, h⟩ := h
  refine ⟨a11, ea11, ?_⟩
  cases ha.symm.trans ea11
  obtain ⟨o12, h⟩ := h
  refine ⟨o12, ?_⟩
  refine cm_X4_read (sp_X4_read h hv hr hd hwk hw9) (m_X4_read (Q := fun _ T => FRI [(3, 0), (3, 1), (3, 2), (3, 3), (3, 4), (4, 0), (4, 1), (4, 3), (4, 4), (4, 6), (4, 7), (4, 9), (4, 10), (5, 0), (5, 1), (5, 2), (5, 3), (5, 4), (6, 0), (6, 1), (6, 2), (6, 3), (6, 4), (6, 5), (6, 6), (8, 0), (8, 1), (8, 2), (8, 3), (8, 4), (8, 5)] [(4, 2)] S T) hI o1 o5 r2 (Int32.not_lt.mp h0) (fun _ _ _ _ z _ => z)) (fun x13 S14 hp F g15 b16 => ?_)
  have h := hp.1 g15 b16
  have hp := hp.2
  have R14 : fR S14 c 3 = some r := by rw [frr_at F (by decide) (by decide) oc]; exact hrr
  intro S17 e17
  have h := h S17 e17
  obtain ⟨a18, ea18, h⟩ := h
  refine ⟨a18, ea18, ?_⟩
  have t18 : fR S17 c 3 = some r := by rw [e17]; exact R14
  cases t18.symm.trans ea18
  obtain ⟨o19, h⟩ := h
  refine ⟨o19, ?_⟩
  intro x20 ex20
  have h := h x20 ex20
  have k20 : x20 = fI S14 r 0 := by rw [ex20, e17]; exact u2_ne _ _ (fun q => nrc q.1)
  intro S21 e21
  have h := h S21 e21
  obtain ⟨a22, ea22, h⟩ := h
  refine ⟨a22, ea22, ?_⟩
  have t22 : fR S21 c 3 = some r := by rw [e21]; exact t18
  cases t22.symm.trans ea22
  obtain ⟨o23, h⟩ := h
  refine ⟨o23, ?_⟩
  intro x24 ex24
  have h := h x24 ex24
  have k24 : x24 = fI S14 r 1 := by
    rw [ex24, e21]
    show u2 (fI S17) c 7 x20 r 1 = _
    rw [u2_ne _ _ (fun q => nrc q.1), e17]
    exact u2_ne _ _ (fun q => nrc q.1)
  intro S25 e25
  have h := h S25 e25
  have c7 : fI S25 c 7 = fI S14 r 0 := by rw [wI_ne e25 (by decide), wI_at e21, k20]
  have c8 : fI S25 c 8 = fI S14 r 1 := by rw [wI_at e25, k24]
  cases hR : sAll f n 1000 0 A00 with
  | inr e =>
    rw [hR] at hp
    have hx : x13 = 0 := hp.1
    refine ⟨fun z => absurd hx z, fun z => ?_⟩
    have h := h.2 z
    refine cm_X9_refuse (sp_X9_refuse h) h (fun x49 S50 hq h g51 => ?_)
    refine ⟨h g51, hq.2.1, ?_, ?_, ?_⟩
    · rw [wI_ne hq.2.2 (by decide), c7]; exact hp.2.1
    · rw [wI_ne hq.2.2 (by decide), c8]; exact hp.2.2
    · exact wI_at hq.2.2
  | inl A =>
    rw [hR] at hp
    obtain ⟨hx, p, ls⟩ := hp
    refine ⟨fun z => ?_, fun z => absurd (hx.symm.trans z) (by decide)⟩
    have h := h.1 z
    obtain ⟨a27, ea27, h⟩ := h
    refine ⟨a27, ea27, ?_⟩
    have t27 : fR S25 c 3 = some r := by rw [e25]; exact t22
    cases t27.symm.trans ea27
    obtain ⟨a28, ea28, h⟩ := h
    refine ⟨a28, ea28, ?_⟩
    obtain ⟨o29, h⟩ := h
    refine ⟨o29, ?_⟩
    have w14 := gr_ob g15 o2
    have c14 := gr_ob g15 oc
    have w25 := ob_I e25 (ob_I e21 (ob_I e17 w14))
    have cc25 := ob_I e25 (ob_I e21 (ob_I e17 c14))
    have wr : fR S25 r 5 = some w := by
      have : fR S14 r 5 = some w := by
        rw [ls.2.2.2.1.2.2.2]
        exact (u2_ne _ _ (fun q => absurd q.2 (by decide))).trans r6
      rw [e25, e21, e17]; exact this
    have w4 : fI S25 w 4 = nI (aW A) := by
      rw [e25]
      show u2 (fI S21) c 8 x24 w 4 = _
      rw [u2_ne _ _ (fun q => nwc q.1), e21]
      show u2 (fI S17) c 7 x20 w 4 = _
      rw [u2_ne _ _ (fun q => nwc q.1), e17]
      exact (u2_ne _ _ (fun q => nwc q.1)).trans ls.2.2.1.2.2.2.2.1
    refine cm_X4_exchange (sp_X4_exchange h) h (fun a30 S31 hq h g32 => ?_)
    have h := h g32
    obtain ⟨-, q1, e31⟩ := hq
    cases wr.symm.trans q1
    intro S33 e33
    have h := h S33 e33
    have w33 := ob_R e33 (ob_R e31 w25)
    have c33 := ob_R e33 (ob_R e31 cc25)
    have i33 : fI S33 = fI S25 := by rw [e33, e31]; rfl
    obtain ⟨a34, ea34, h⟩ := h
    refine ⟨a34, ea34, ?_⟩
    obtain ⟨o35, h⟩ := h
    refine ⟨o35, ?_⟩
    refine cm_X7_forget (sp_X7_forget h) h (fun S36 hq h g37 => ?_)
    have h := h g37
    have e36 := hq.2
    have n34w : w ≠ a34 := ob_ne w33 o35 (by decide)
    have n34c : c ≠ a34 := ob_ne c33 o35 (by decide)
    have w36 := ob_I e36 w33
    have c36 := ob_I e36 c33
    obtain ⟨a38, ea38, h⟩ := h
    refine ⟨a38, ea38, ?_⟩
    obtain ⟨o39, h⟩ := h
    refine ⟨o39, ?_⟩
    refine cm_X0_end (sp_X0_end h) h (fun S40 hq h g41 => ?_)
    have h := h g41
    have F40 := hq.2.1
    have n38w : w ≠ a38 := ob_ne w36 o39 (by decide)
    have n38c : c ≠ a38 := ob_ne c36 o39 (by decide)
    have rowW : fI S40 w = fI S25 w := by rw [(F40.2.2.2.2.1 w n38w).1, e36]; exact (u2_row _ _ n34w).trans (by rw [i33])
    have rowC : fI S40 c = fI S25 c := by rw [(F40.2.2.2.2.1 c n38c).1, e36]; exact (u2_row _ _ n34c).trans (by rw [i33])
    obtain ⟨a42, ea42, h⟩ := h
    refine ⟨a42, ea42, ?_⟩
    have t42 : fR S40 c 2 = some w := by
      rw [F40.2.2.2.1, e36]
      show fR S33 c 2 = _
      rw [e33]; exact u2_self _ _ _ _
    cases t42.symm.trans ea42
    obtain ⟨o43, h⟩ := h
    refine ⟨o43, ?_⟩
    intro x44 ex44
    have h := h x44 ex44
    refine cm_X9_grant (sp_X9_grant h) h (fun x45 S46 hq h g47 => ?_)
    refine ⟨h g47, ?_, ?_, ?_⟩
    · rw [hq.2.1, ex44, rowW]; exact w4
    · rw [wI_ne hq.2.2 (by decide), rowC, c7]; exact ls.1.2.1.2.2.2.2
    · exact wI_at hq.2.2
end World2
