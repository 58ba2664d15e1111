section MParts3
variable {f : Nat → Int32} {n a : Nat} {σ : Res} {Q : Int32 → HS → Prop} {QU : HS → Prop} {S T : HS} {v0 : Nat}
theorem ov_f {k : Nat → Nat × Nat} {m : Nat} (M : MS f n a m (rb σ (fun p => .inr (k p))) S) : fI S m 9 = 5 := by
  refine (ms_9 M).2.2.2.2.mpr ?_
  cases σ with
  | inl p => exact ⟨_, rfl⟩
  | inr e => exact ⟨_, rfl⟩
theorem lt_64 {x y : Int32} {z : Int64} (h : x.toInt64 = z) : (z < y.toInt64 ↔ x < y) ∧ (y.toInt64 < z ↔ y < x) := by
  rw [← h]
  constructor
  · rw [Int64.lt_iff_toInt_lt, Int32.lt_iff_toInt_lt, Int32.toInt_toInt64, Int32.toInt_toInt64]
  · rw [Int64.lt_iff_toInt_lt, Int32.lt_iff_toInt_lt, Int32.toInt_toInt64, Int32.toInt_toInt64]
theorem ms_num {p : Nat} (M : MS f n a v0 σ S) (e : σ = .inl p) (h : hasS f n σ 2) : (fI S v0 12).toInt64 = tV f n p := by
  subst e
  exact M.2.1.2.2.2.1 h
theorem wh_y {p : Nat} {x lo hi : Int32} (h2 : tS f n p = 2) (hx : x.toInt64 = tV f n p) (h : ¬ (x < lo ∨ hi < x)) : sWhole f n p lo.toInt64 hi.toInt64 = .inl (tEn f n p) := by
  unfold sWhole
  rw [if_pos h2, if_neg]
  rw [(lt_64 hx).1, (lt_64 hx).2]; exact h
theorem wh_4 {p : Nat} {x lo hi : Int32} (h2 : tS f n p = 2) (hx : x.toInt64 = tV f n p) (h : ¬ ¬ (x < lo ∨ hi < x)) : sWhole f n p lo.toInt64 hi.toInt64 = .inr (4, tSt f n p) := by
  unfold sWhole
  rw [if_pos h2, if_pos]
  rw [(lt_64 hx).1, (lt_64 hx).2]; exact Classical.not_not.mp h
theorem wh_1 {p : Nat} {lo hi : Int32} (h2 : ¬ tS f n p = 2) : sWhole f n p lo.toInt64 hi.toInt64 = .inr (1, tSt f n p) := by
  unfold sWhole
  rw [if_neg h2]
theorem vac {p q : Nat} {e : Nat × Nat} {R : Res} {C : Prop} (h : R = .inr e) (z : R = .inl q) : C := by rw [h] at z; cases z
theorem x9_5 {x y : Int32} (h : x = 3) (e : x = y) (z : y = 5) : False := by
  rw [e, z] at h
  exact absurd h (by decide)
theorem sp_X11_readWhole {v1 v2 : Int32} (h : P_X11_readWhole v0 v1 v2 Q S) (M : MS f n a v0 σ S) : P_X11_readWhole v0 v1 v2 (fun r T => Q r T ∧ MS f n a v0 (rb σ (fun p => sWhole f n p v1.toInt64 v2.toInt64)) T ∧ FM v0 S T ∧ ∀ p q, σ = .inl p → sWhole f n p v1.toInt64 v2.toInt64 = .inl q → r.toInt64 = tV f n p) S := by
  have F : FM v0 S S := ms_rf _ _
  have M0 := M
  delta P_X11_readWhole P_X11_readWhole_0
  obtain ⟨o1, h⟩ := h
  refine ⟨o1, ?_⟩
  intro x2 ex2
  have h := h x2 ex2
  refine ⟨?_, ?_⟩
  · intro c3
    have Kc3 : hasS f n σ 2 := (ms_9 M).2.1.mp (ex2.symm.trans c3)
    have h := h.1 c3
    intro x4 ex4
    have h := h x4 ex4
    refine cm_X11_in (sp_X11_in h) h (fun x5 S6 hp h g7 b8 => ?_)
    have h := h g7 b8
    obtain ⟨-, hS, Ax5⟩ := hp
    subst hS
    refine ⟨?_, ?_⟩
    · intro c9
      have Nc9 := an1 Ax5 c9
      have h := h.1 c9
      delta P_X11_readWhole_33
      obtain ⟨o10, h⟩ := h
      refine ⟨o10, ?_⟩
      intro x11 ex11
      have h := h x11 ex11
      refine ⟨?_, ?_⟩
      · intro c12
        have h := h.1 c12
        intro x13 ex13
        have h := h x13 ex13
        delta P_X11_readWhole_49
        obtain ⟨o14, h⟩ := h
        refine ⟨o14, ?_⟩
        refine cm_X11_goesOn (sp_X11_goesOn h M (gs_s Kc3 (by decide))) h (fun S15 hp h g16 => ?_)
        have h := h g16
        obtain ⟨-, M, G⟩ := hp
        have F := fr_tr F G
        exact ⟨h, ms_eq M (rb_cg (fun p hp => (wh_y (hs_p Kc3 hp) (by rw [ex4]; exact ms_num M0 hp Kc3) Nc9).symm)), F, fun p q hp hq => by rw [ex13]; exact ms_num M0 hp Kc3⟩
      · intro c17
        exact (x9_5 c3 ex2 (ex11.symm.trans c17)).elim
    · intro c21
      have Nc21 := an0 Ax5 c21
      have h := h.2 c21
      refine cm_X11_flaw (sp_X11_flaw (k := 4) h M rfl) h (fun S22 hp h g23 => ?_)
      have h := h g23
      obtain ⟨-, M, G⟩ := hp
      have F := fr_tr F G
      delta P_X11_readWhole_33
      obtain ⟨o24, h⟩ := h
      refine ⟨o24, ?_⟩
      intro x25 ex25
      have h := h x25 ex25
      refine ⟨?_, ?_⟩
      · intro c26
        exact absurd (ex25.trans (ov_f M)) c26
      · intro c31
        have h := h.2 c31
        delta P_X11_readWhole_49
        obtain ⟨o32, h⟩ := h
        refine ⟨o32, ?_⟩
        refine cm_X11_goesOn (sp_X11_goesOn h M gs_f) h (fun S33 hp h g34 => ?_)
        have h := h g34
        obtain ⟨-, M, G⟩ := hp
        have F := fr_tr F G
        exact ⟨h, ms_eq M (rb_rb.trans (rb_cg (fun p hp => (wh_4 (hs_p Kc3 hp) (by rw [ex4]; exact ms_num M0 hp Kc3) Nc21).symm))), F, fun p q hp hq => vac (p := p) (wh_4 (hs_p Kc3 hp) (by rw [ex4]; exact ms_num M0 hp Kc3) Nc21) hq⟩
  · intro c35
    have Kc35 : ¬ hasS f n σ 2 := fun z => c35 (ex2.trans ((ms_9 M).2.1.mpr z))
    have h := h.2 c35
    refine cm_X11_flaw (sp_X11_flaw (k := 1) h M rfl) h (fun S36 hp h g37 => ?_)
    have h := h g37
    obtain ⟨-, M, G⟩ := hp
    have F := fr_tr F G
    delta P_X11_readWhole_33
    obtain ⟨o38, h⟩ := h
    refine ⟨o38, ?_⟩
    intro x39 ex39
    have h := h x39 ex39
    refine ⟨?_, ?_⟩
    · intro c40
      exact absurd (ex39.trans (ov_f M)) c40
    · intro c45
      have h := h.2 c45
      delta P_X11_readWhole_49
      obtain ⟨o46, h⟩ := h
      refine ⟨o46, ?_⟩
      refine cm_X11_goesOn (sp_X11_goesOn h M gs_f) h (fun S47 hp h g48 => ?_)
      have h := h g48
      obtain ⟨-, M, G⟩ := hp
      have F := fr_tr F G
      exact ⟨h, ms_eq M (rb_rb.trans (rb_cg (fun p hp => (wh_1 (hs_np Kc35 hp)).symm))), F, fun p q hp hq => vac (p := p) (wh_1 (hs_np Kc35 hp)) hq⟩
theorem sp_X11_readPart {v1 w : Nat} {v2 v3 : Int32} (h : P_X11_readPart v0 v1 v2 v3 Q S) (M : MS f n a v0 σ S) (hw : v1 < 54 ∧ 27 ≤ v1 ∧ mp v1 = w) : P_X11_readPart v0 v1 v2 v3 (fun r T => Q r T ∧ MS f n a v0 (rb σ (fun p => sPart f n p w v2.toInt64 v3.toInt64)) T ∧ FM v0 S T ∧ ∀ p q, σ = .inl p → sPart f n p w v2.toInt64 v3.toInt64 = .inl q → r = pVal f n p) S := by
  have F : FM v0 S S := ms_rf _ _
  delta P_X11_readPart P_X11_readPart_0
  obtain ⟨o1, h⟩ := h
  refine ⟨o1, ?_⟩
  refine cm_X11_needs (sp_X11_needs h M hw) h (fun S2 hp h g3 => ?_)
  have h := h g3
  obtain ⟨-, M, G⟩ := hp
  have F := fr_tr F G
  refine cm_X11_readWhole (sp_X11_readWhole h M) h (fun x4 S5 hp h g6 => ?_)
  have h := h g6
  obtain ⟨-, M, G, Vx4⟩ := hp
  have F := fr_tr F G
  refine ⟨h, ms_eq M rb_rb, F, fun p q hp hq => ?_⟩
  obtain ⟨p1, h1, h2⟩ := rb_inl hq
  have h3 := Vx4 p1 q (by rw [hp]; exact h1) h2
  rw [sWord_inl h1] at h3
  unfold pVal
  rw [← h3, Int32.toInt32_toInt64]
theorem ms_sg {v1 : Int32} {k : Nat} (M : MS f n a v0 σ S) (z : hasS f n σ k) (hk : (k = 3 ∧ v1 = 59) ∨ (k = 4 ∧ v1 = 44)) : fI S v0 11 = v1 := by
  cases σ with
  | inr e => exact z.elim
  | inl p =>
    have z : tS f n p = k := z
    rcases hk with ⟨h1, h2⟩ | ⟨h1, h2⟩
    · rw [h2]; exact M.2.1.2.2.2.2.1 (by rw [z, h1])
    · rw [h2]; exact M.2.1.2.2.2.2.2.1 (by rw [z, h1])
theorem ms_sy {v1 : Int32} {k : Nat} (M : MS f n a v0 σ S) (z : hasS f n σ 3 ∨ hasS f n σ 4) (e : fI S v0 11 = v1) (hk : (k = 3 ∧ v1 = 59) ∨ (k = 4 ∧ v1 = 44)) : hasS f n σ k := by
  rcases hk with ⟨h1, h2⟩ | ⟨h1, h2⟩
  · rcases z with z | z
    · rw [h1]; exact z
    · have := ms_sg M z (Or.inr ⟨rfl, rfl⟩)
      rw [e, h2] at this
      exact absurd this (by decide)
  · rcases z with z | z
    · have := ms_sg M z (Or.inl ⟨rfl, rfl⟩)
      rw [e, h2] at this
      exact absurd this (by decide)
    · rw [h1]; exact z
theorem sp_X11_eatsSign {v1 : Int32} {k : Nat} (h : P_X11_eatsSign v0 v1 Q S) (M : MS f n a v0 σ S) (hk : (k = 3 ∧ v1 = 59) ∨ (k = 4 ∧ v1 = 44)) : P_X11_eatsSign v0 v1 (fun r T => Q r T ∧ MS f n a v0 (rb σ (fun p => dc (tS f n p = k) (.inl (tEn f n p)) (.inl p))) T ∧ FM v0 S T ∧ ans (hasS f n σ k) r) S := by
  have F : FM v0 S S := ms_rf _ _
  delta P_X11_eatsSign P_X11_eatsSign_0
  obtain ⟨o1, h⟩ := h
  refine ⟨o1, ?_⟩
  intro x2 ex2
  have h := h x2 ex2
  refine ⟨?_, ?_⟩
  · intro c3
    have K : ¬ hasS f n σ k := fun z => c3 (ex2.trans ((ms_9 M).2.2.2.1.mpr (hk.elim (fun z1 => Or.inl (z1.1 ▸ z)) (fun z1 => Or.inr (z1.1 ▸ z)))))
    have h := h.1 c3
    delta P_X11_eatsSign_20
    delta P_X11_eatsSign_21
    refine ⟨?_, ?_⟩
    · intro c4
      have h := h.1 c4
      obtain ⟨o5, h⟩ := h
      refine ⟨o5, ?_⟩
      exact ⟨h, ms_eq M (rb_idd (fun p hp => (dc_n (hs_np K hp)).symm)), F, Or.inr ⟨K, rfl⟩⟩
    · intro c6
      exact absurd rfl c6
  · intro c11
    have K2 := (ms_9 M).2.2.2.1.mp (ex2.symm.trans c11)
    have h := h.2 c11
    intro x12 ex12
    have h := h x12 ex12
    refine ⟨?_, ?_⟩
    · intro c13
      have K : ¬ hasS f n σ k := fun z => c13 (ex12.trans (ms_sg M z hk))
      have h := h.1 c13
      delta P_X11_eatsSign_20
      delta P_X11_eatsSign_21
      refine ⟨?_, ?_⟩
      · intro c14
        have h := h.1 c14
        obtain ⟨o15, h⟩ := h
        refine ⟨o15, ?_⟩
        exact ⟨h, ms_eq M (rb_idd (fun p hp => (dc_n (hs_np K hp)).symm)), F, Or.inr ⟨K, rfl⟩⟩
      · intro c16
        exact absurd rfl c16
    · intro c21
      have K : hasS f n σ k := ms_sy M K2 (ex12.symm.trans c21) hk
      have h := h.2 c21
      delta P_X11_eatsSign_21
      refine ⟨?_, ?_⟩
      · intro c22
        exact absurd c22 (by decide)
      · intro c24
        have h := h.2 c24
        obtain ⟨o25, h⟩ := h
        refine ⟨o25, ?_⟩
        refine cm_X11_goesOn (sp_X11_goesOn h M (gs_s K (by omega))) h (fun S26 hp h g27 => ?_)
        have h := h g27
        obtain ⟨-, M, G⟩ := hp
        have F := fr_tr F G
        obtain ⟨o28, h⟩ := h
        refine ⟨o28, ?_⟩
        exact ⟨h, ms_eq M (rb_cg (fun p hp => (dc_y (hs_p K hp)).symm)), F, Or.inl ⟨K, rfl⟩⟩
end MParts3
