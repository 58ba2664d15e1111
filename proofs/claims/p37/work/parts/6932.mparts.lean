section MParts2
variable {f : Nat → Int32} {n a : Nat} {σ : Res} {Q : Int32 → HS → Prop} {QU : HS → Prop} {S T : HS} {v0 : Nat}
theorem rb_rb {R : Res} {g k : Nat → Res} : rb (rb R g) k = rb R (fun p => rb (g p) k) := by cases R <;> rfl
theorem rb_cg {R : Res} {g k : Nat → Res} (h : ∀ p, R = .inl p → g p = k p) : rb R g = rb R k := by
  cases R with
  | inl p => exact h p rfl
  | inr e => rfl
theorem rb_idd {R : Res} {k : Nat → Res} (h : ∀ p, R = .inl p → .inl p = k p) : R = rb R k := by
  cases R with
  | inl p => exact h p rfl
  | inr e => rfl
theorem rb_inl {R : Res} {g : Nat → Res} {q : Nat} (h : rb R g = .inl q) : ∃ p, R = .inl p ∧ g p = .inl q := by
  cases R with
  | inl p => exact ⟨p, rfl, h⟩
  | inr e => cases h
theorem gs_f {k : Nat → Nat × Nat} : ∀ p, rb σ (fun p => .inr (k p)) = .inl p → tS f n p ≠ 6 := fun p z => by
  cases σ with
  | inl q => cases z
  | inr e => cases z
theorem gs_w {w : Nat} (h : hasW f n σ w) : ∀ p, σ = .inl p → tS f n p ≠ 6 := fun p z => by
  rw [z] at h
  rw [h.1]; decide
theorem gs_n (h : hasN f n σ) : ∀ p, σ = .inl p → tS f n p ≠ 6 := fun p z => by
  rw [z] at h
  rw [h.1]; decide
theorem gs_s {k : Nat} (h : hasS f n σ k) (hk : k ≠ 6) : ∀ p, σ = .inl p → tS f n p ≠ 6 := fun p z => by
  rw [z] at h
  intro c
  exact hk (h.symm.trans c)
theorem hw_p {w p : Nat} (h : hasW f n σ w) (e : σ = .inl p) : isW f n p w := by rw [e] at h; exact h
theorem hw_np {w p : Nat} (h : ¬ hasW f n σ w) (e : σ = .inl p) : ¬ isW f n p w := by rw [e] at h; exact h
theorem hs_p {k p : Nat} (h : hasS f n σ k) (e : σ = .inl p) : tS f n p = k := by rw [e] at h; exact h
theorem hs_np {k p : Nat} (h : ¬ hasS f n σ k) (e : σ = .inl p) : ¬ tS f n p = k := by rw [e] at h; exact h
theorem ms_rf (m : Nat) (S : HS) : FM m S S := fr_rf _ _ _ _
theorem sp_X11_needs {v1 w : Nat} (h : P_X11_needs v0 v1 QU S) (M : MS f n a v0 σ S) (hw : v1 < 54 ∧ 27 ≤ v1 ∧ mp v1 = w) : P_X11_needs v0 v1 (fun T => QU T ∧ MS f n a v0 (rb σ (fun p => sWord f n p w)) T ∧ FM v0 S T) S := by
  have F : FM v0 S S := ms_rf _ _
  delta P_X11_needs P_X11_needs_0
  obtain ⟨o1, h⟩ := h
  refine ⟨o1, ?_⟩
  refine cm_X11_isWord (sp_X11_isWord h M hw) h (fun x2 S3 hp h g4 b5 => ?_)
  have h := h g4 b5
  obtain ⟨-, hS, Ax2⟩ := hp
  subst hS
  refine ⟨?_, ?_⟩
  · intro c6
    have Nc6 := an1 Ax2 c6
    have h := h.1 c6
    delta P_X11_needs_13
    obtain ⟨o7, h⟩ := h
    refine ⟨o7, ?_⟩
    refine cm_X11_goesOn (sp_X11_goesOn h M (gs_w Nc6)) h (fun S8 hp h g9 => ?_)
    have h := h g9
    obtain ⟨-, M, G⟩ := hp
    have F := fr_tr F G
    exact ⟨h, ms_eq M (rb_cg (fun p hp => (if_pos (hw_p Nc6 hp)).symm)), F⟩
  · intro c10
    have Nc10 := an0 Ax2 c10
    have h := h.2 c10
    refine cm_X11_flaw (sp_X11_flaw (k := 1) h M rfl) h (fun S11 hp h g12 => ?_)
    have h := h g12
    obtain ⟨-, M, G⟩ := hp
    have F := fr_tr F G
    delta P_X11_needs_13
    obtain ⟨o13, h⟩ := h
    refine ⟨o13, ?_⟩
    refine cm_X11_goesOn (sp_X11_goesOn h M gs_f) h (fun S14 hp h g15 => ?_)
    have h := h g15
    obtain ⟨-, M, G⟩ := hp
    have F := fr_tr F G
    exact ⟨h, ms_eq M (rb_rb.trans (rb_cg (fun p hp => (if_neg (hw_np Nc10 hp)).symm))), F⟩
theorem sp_X11_eatsWord {v1 w : Nat} (h : P_X11_eatsWord v0 v1 Q S) (M : MS f n a v0 σ S) (hw : v1 < 54 ∧ 27 ≤ v1 ∧ mp v1 = w) : P_X11_eatsWord v0 v1 (fun r T => Q r T ∧ MS f n a v0 (rb σ (fun p => dc (isW f n p w) (.inl (tEn f n p)) (.inl p))) T ∧ FM v0 S T ∧ ans (hasW f n σ w) r) S := by
  have F : FM v0 S S := ms_rf _ _
  delta P_X11_eatsWord P_X11_eatsWord_0
  obtain ⟨o1, h⟩ := h
  refine ⟨o1, ?_⟩
  refine cm_X11_isWord (sp_X11_isWord h M hw) h (fun x2 S3 hp h g4 b5 => ?_)
  have h := h g4 b5
  obtain ⟨-, hS, Ax2⟩ := hp
  subst hS
  refine ⟨?_, ?_⟩
  · intro c6
    have Nc6 := an0 Ax2 c6
    have h := h.1 c6
    obtain ⟨o7, h⟩ := h
    refine ⟨o7, ?_⟩
    exact ⟨h, ms_eq M (rb_idd (fun p hp => (dc_n (hw_np Nc6 hp)).symm)), F, Ax2⟩
  · intro c8
    have Nc8 := an1 Ax2 c8
    have h := h.2 c8
    refine cm_X11_goesOn (sp_X11_goesOn h M (gs_w Nc8)) h (fun S9 hp h g10 => ?_)
    have h := h g10
    obtain ⟨-, M, G⟩ := hp
    have F := fr_tr F G
    obtain ⟨o11, h⟩ := h
    refine ⟨o11, ?_⟩
    exact ⟨h, ms_eq M (rb_cg (fun p hp => (dc_y (hw_p Nc8 hp)).symm)), F, Ax2⟩
theorem nm_kept {w : Nat} (hk : w ∈ kept) (h : hasW f n σ w) (z : hasN f n σ) : False := by
  cases σ with
  | inl p => exact z.2 w hk h
  | inr e => exact z
theorem nm_alll (h : hasS f n σ 1) (h0 : ¬ hasW f n σ 0) (h2 : ¬ hasW f n σ 2) (h11 : ¬ hasW f n σ 11) (h12 : ¬ hasW f n σ 12) (h13 : ¬ hasW f n σ 13) (h14 : ¬ hasW f n σ 14) (h15 : ¬ hasW f n σ 15) (h16 : ¬ hasW f n σ 16) (h17 : ¬ hasW f n σ 17) : hasN f n σ := by
  cases σ with
  | inl p =>
    refine ⟨h, fun w hw => ?_⟩
    simp only [kept, List.mem_cons, List.not_mem_nil, or_false] at hw
    rcases hw with rfl | rfl | rfl | rfl | rfl | rfl | rfl | rfl | rfl
    · exact h0
    · exact h2
    · exact h11
    · exact h12
    · exact h13
    · exact h14
    · exact h15
    · exact h16
    · exact h17
  | inr e => exact h
theorem sp_X11_isName (h : P_X11_isName v0 Q S) (M : MS f n a v0 σ S) : P_X11_isName v0 (fun r T => Q r T ∧ S = T ∧ ans (hasN f n σ) r) S := by
  delta P_X11_isName P_X11_isName_0
  obtain ⟨o1, h⟩ := h
  refine ⟨o1, ?_⟩
  intro x2 ex2
  have h := h x2 ex2
  refine ⟨?_, ?_⟩
  · intro c3
    have Kc3 : ¬ hasS f n σ 1 := fun z => c3 (ex2.trans ((ms_9 M).1.mpr z))
    have h := h.1 c3
    refine ⟨h, rfl, Or.inr ⟨fun z => Kc3 ?_, rfl⟩⟩
    cases σ with
    | inl p => exact z.1
    | inr e => exact z
  · intro c4
    have Kc4 : hasS f n σ 1 := (ms_9 M).1.mp (ex2.symm.trans c4)
    have h := h.2 c4
    refine cm_X11_isWord (sp_X11_isWord (w := 0) h M (by decide)) h (fun x5 S6 hp h g7 b8 => ?_)
    have h := h g7 b8
    obtain ⟨-, hS, Ax5⟩ := hp
    subst hS
    refine ⟨?_, ?_⟩
    · intro c9
      have Nc9 := an1 Ax5 c9
      have h := h.1 c9
      exact ⟨h, rfl, Or.inr ⟨fun z => nm_kept (w := 0) (by decide) Nc9 z, rfl⟩⟩
    · intro c10
      have Nc10 := an0 Ax5 c10
      have h := h.2 c10
      refine cm_X11_isWord (sp_X11_isWord (w := 2) h M (by decide)) h (fun x11 S12 hp h g13 b14 => ?_)
      have h := h g13 b14
      obtain ⟨-, hS, Ax11⟩ := hp
      subst hS
      refine ⟨?_, ?_⟩
      · intro c15
        have Nc15 := an1 Ax11 c15
        have h := h.1 c15
        exact ⟨h, rfl, Or.inr ⟨fun z => nm_kept (w := 2) (by decide) Nc15 z, rfl⟩⟩
      · intro c16
        have Nc16 := an0 Ax11 c16
        have h := h.2 c16
        refine cm_X11_isWord (sp_X11_isWord (w := 11) h M (by decide)) h (fun x17 S18 hp h g19 b20 => ?_)
        have h := h g19 b20
        obtain ⟨-, hS, Ax17⟩ := hp
        subst hS
        refine ⟨?_, ?_⟩
        · intro c21
          have Nc21 := an1 Ax17 c21
          have h := h.1 c21
          exact ⟨h, rfl, Or.inr ⟨fun z => nm_kept (w := 11) (by decide) Nc21 z, rfl⟩⟩
        · intro c22
          have Nc22 := an0 Ax17 c22
          have h := h.2 c22
          refine cm_X11_isWord (sp_X11_isWord (w := 12) h M (by decide)) h (fun x23 S24 hp h g25 b26 => ?_)
          have h := h g25 b26
          obtain ⟨-, hS, Ax23⟩ := hp
          subst hS
          refine ⟨?_, ?_⟩
          · intro c27
            have Nc27 := an0 Ax23 c27
            have h := h.1 c27
            refine cm_X11_isWord (sp_X11_isWord (w := 13) h M (by decide)) h (fun x28 S29 hp h g30 b31 => ?_)
            have h := h g30 b31
            obtain ⟨-, hS, Ax28⟩ := hp
            subst hS
            refine ⟨?_, ?_⟩
            · intro c32
              have Nc32 := an1 Ax28 c32
              have h := h.1 c32
              exact ⟨h, rfl, Or.inr ⟨fun z => nm_kept (w := 13) (by decide) Nc32 z, rfl⟩⟩
            · intro c33
              have Nc33 := an0 Ax28 c33
              have h := h.2 c33
              refine cm_X11_isWord (sp_X11_isWord (w := 14) h M (by decide)) h (fun x34 S35 hp h g36 b37 => ?_)
              have h := h g36 b37
              obtain ⟨-, hS, Ax34⟩ := hp
              subst hS
              refine ⟨?_, ?_⟩
              · intro c38
                have Nc38 := an1 Ax34 c38
                have h := h.1 c38
                exact ⟨h, rfl, Or.inr ⟨fun z => nm_kept (w := 14) (by decide) Nc38 z, rfl⟩⟩
              · intro c39
                have Nc39 := an0 Ax34 c39
                have h := h.2 c39
                refine cm_X11_isWord (sp_X11_isWord (w := 15) h M (by decide)) h (fun x40 S41 hp h g42 b43 => ?_)
                have h := h g42 b43
                obtain ⟨-, hS, Ax40⟩ := hp
                subst hS
                refine ⟨?_, ?_⟩
                · intro c44
                  have Nc44 := an1 Ax40 c44
                  have h := h.1 c44
                  exact ⟨h, rfl, Or.inr ⟨fun z => nm_kept (w := 15) (by decide) Nc44 z, rfl⟩⟩
                · intro c45
                  have Nc45 := an0 Ax40 c45
                  have h := h.2 c45
                  refine cm_X11_isWord (sp_X11_isWord (w := 16) h M (by decide)) h (fun x46 S47 hp h g48 b49 => ?_)
                  have h := h g48 b49
                  obtain ⟨-, hS, Ax46⟩ := hp
                  subst hS
                  refine ⟨?_, ?_⟩
                  · intro c50
                    have Nc50 := an1 Ax46 c50
                    have h := h.1 c50
                    exact ⟨h, rfl, Or.inr ⟨fun z => nm_kept (w := 16) (by decide) Nc50 z, rfl⟩⟩
                  · intro c51
                    have Nc51 := an0 Ax46 c51
                    have h := h.2 c51
                    refine cm_X11_isWord (sp_X11_isWord (w := 17) h M (by decide)) h (fun x52 S53 hp h g54 b55 => ?_)
                    have h := h g54 b55
                    obtain ⟨-, hS, Ax52⟩ := hp
                    subst hS
                    refine ⟨?_, ?_⟩
                    · intro c56
                      have Nc56 := an1 Ax52 c56
                      have h := h.1 c56
                      exact ⟨h, rfl, Or.inr ⟨fun z => nm_kept (w := 17) (by decide) Nc56 z, rfl⟩⟩
                    · intro c57
                      have Nc57 := an0 Ax52 c57
                      have h := h.2 c57
                      exact ⟨h, rfl, Or.inl ⟨nm_alll Kc4 Nc10 Nc16 Nc22 Nc27 Nc33 Nc39 Nc45 Nc51 Nc57, rfl⟩⟩
          · intro c58
            have Nc58 := an1 Ax23 c58
            have h := h.2 c58
            exact ⟨h, rfl, Or.inr ⟨fun z => nm_kept (w := 12) (by decide) Nc58 z, rfl⟩⟩
theorem sp_X11_readSide (h : P_X11_readSide v0 Q S) (M : MS f n a v0 σ S) : P_X11_readSide v0 (fun r T => Q r T ∧ MS f n a v0 (rb σ (fun p => sSide f n p)) T ∧ FM v0 S T ∧ ∀ p q, σ = .inl p → sSide f n p = .inl q → ∃ k, sideOf f n p = some k ∧ r = nI k) S := by
  have F : FM v0 S S := ms_rf _ _
  delta P_X11_readSide P_X11_readSide_0
  obtain ⟨o1, h⟩ := h
  refine ⟨o1, ?_⟩
  refine cm_X11_isWord (sp_X11_isWord (w := 6) h M (by decide)) h (fun x2 S3 hp h g4 b5 => ?_)
  have h := h g4 b5
  obtain ⟨-, hS, Ax2⟩ := hp
  subst hS
  refine ⟨?_, ?_⟩
  · intro c6
    have Nc6 := an0 Ax2 c6
    have h := h.1 c6
    refine cm_X11_isWord (sp_X11_isWord (w := 7) h M (by decide)) h (fun x7 S8 hp h g9 b10 => ?_)
    have h := h g9 b10
    obtain ⟨-, hS, Ax7⟩ := hp
    subst hS
    refine ⟨?_, ?_⟩
    · intro c11
      have Nc11 := an0 Ax7 c11
      have h := h.1 c11
      refine cm_X11_isWord (sp_X11_isWord (w := 8) h M (by decide)) h (fun x12 S13 hp h g14 b15 => ?_)
      have h := h g14 b15
      obtain ⟨-, hS, Ax12⟩ := hp
      subst hS
      refine ⟨?_, ?_⟩
      · intro c16
        have Nc16 := an0 Ax12 c16
        have h := h.1 c16
        refine cm_X11_isWord (sp_X11_isWord (w := 9) h M (by decide)) h (fun x17 S18 hp h g19 b20 => ?_)
        have h := h g19 b20
        obtain ⟨-, hS, Ax17⟩ := hp
        subst hS
        refine ⟨?_, ?_⟩
        · intro c21
          have Nc21 := an0 Ax17 c21
          have h := h.1 c21
          delta P_X11_readSide_53
          refine ⟨?_, ?_⟩
          · intro c22
            exact absurd rfl c22
          · intro c26
            have h := h.2 c26
            obtain ⟨o27, h⟩ := h
            refine ⟨o27, ?_⟩
            refine cm_X11_flaw (sp_X11_flaw (k := 1) h M rfl) h (fun S28 hp h g29 => ?_)
            have h := h g29
            obtain ⟨-, M, G⟩ := hp
            have F := fr_tr F G
            delta P_X11_readSide_64
            obtain ⟨o30, h⟩ := h
            refine ⟨o30, ?_⟩
            refine cm_X11_goesOn (sp_X11_goesOn h M gs_f) h (fun S31 hp h g32 => ?_)
            have h := h g32
            obtain ⟨-, M, G⟩ := hp
            have F := fr_tr F G
            have so : ∀ p, σ = .inl p → sideOf f n p = none := fun p hp => by
              unfold sideOf
              rw [dc_n (hw_np Nc6 hp), dc_n (hw_np Nc11 hp), dc_n (hw_np Nc16 hp), dc_n (hw_np Nc21 hp)]
            exact ⟨h, ms_eq M (rb_rb.trans (rb_cg (fun p hp => by unfold sSide; rw [so p hp]; rfl))), F, fun p q hp hq => by unfold sSide at hq; rw [so p hp] at hq; cases hq⟩
        · intro c33
          have Nc33 := an1 Ax17 c33
          have h := h.2 c33
          delta P_X11_readSide_53
          refine ⟨?_, ?_⟩
          · intro c34
            have h := h.1 c34
            delta P_X11_readSide_64
            obtain ⟨o35, h⟩ := h
            refine ⟨o35, ?_⟩
            refine cm_X11_goesOn (sp_X11_goesOn h M (gs_w Nc33)) h (fun S36 hp h g37 => ?_)
            have h := h g37
            obtain ⟨-, M, G⟩ := hp
            have F := fr_tr F G
            have so : ∀ p, σ = .inl p → sideOf f n p = some 3 := fun p hp => by
              unfold sideOf
              rw [dc_n (hw_np Nc6 hp), dc_n (hw_np Nc11 hp), dc_n (hw_np Nc16 hp), dc_y (hw_p Nc33 hp)]
            exact ⟨h, ms_eq M (rb_cg (fun p hp => by unfold sSide; rw [so p hp])), F, fun p q hp hq => ⟨3, so p hp, rfl⟩⟩
          · intro c38
            exact absurd c38 (by decide)
      · intro c45
        have Nc45 := an1 Ax12 c45
        have h := h.2 c45
        delta P_X11_readSide_53
        refine ⟨?_, ?_⟩
        · intro c46
          have h := h.1 c46
          delta P_X11_readSide_64
          obtain ⟨o47, h⟩ := h
          refine ⟨o47, ?_⟩
          refine cm_X11_goesOn (sp_X11_goesOn h M (gs_w Nc45)) h (fun S48 hp h g49 => ?_)
          have h := h g49
          obtain ⟨-, M, G⟩ := hp
          have F := fr_tr F G
          have so : ∀ p, σ = .inl p → sideOf f n p = some 2 := fun p hp => by
            unfold sideOf
            rw [dc_n (hw_np Nc6 hp), dc_n (hw_np Nc11 hp), dc_y (hw_p Nc45 hp)]
          exact ⟨h, ms_eq M (rb_cg (fun p hp => by unfold sSide; rw [so p hp])), F, fun p q hp hq => ⟨2, so p hp, rfl⟩⟩
        · intro c50
          exact absurd c50 (by decide)
    · intro c57
      have Nc57 := an1 Ax7 c57
      have h := h.2 c57
      delta P_X11_readSide_53
      refine ⟨?_, ?_⟩
      · intro c58
        have h := h.1 c58
        delta P_X11_readSide_64
        obtain ⟨o59, h⟩ := h
        refine ⟨o59, ?_⟩
        refine cm_X11_goesOn (sp_X11_goesOn h M (gs_w Nc57)) h (fun S60 hp h g61 => ?_)
        have h := h g61
        obtain ⟨-, M, G⟩ := hp
        have F := fr_tr F G
        have so : ∀ p, σ = .inl p → sideOf f n p = some 1 := fun p hp => by
          unfold sideOf
          rw [dc_n (hw_np Nc6 hp), dc_y (hw_p Nc57 hp)]
        exact ⟨h, ms_eq M (rb_cg (fun p hp => by unfold sSide; rw [so p hp])), F, fun p q hp hq => ⟨1, so p hp, rfl⟩⟩
      · intro c62
        exact absurd c62 (by decide)
  · intro c69
    have Nc69 := an1 Ax2 c69
    have h := h.2 c69
    delta P_X11_readSide_53
    refine ⟨?_, ?_⟩
    · intro c70
      have h := h.1 c70
      delta P_X11_readSide_64
      obtain ⟨o71, h⟩ := h
      refine ⟨o71, ?_⟩
      refine cm_X11_goesOn (sp_X11_goesOn h M (gs_w Nc69)) h (fun S72 hp h g73 => ?_)
      have h := h g73
      obtain ⟨-, M, G⟩ := hp
      have F := fr_tr F G
      have so : ∀ p, σ = .inl p → sideOf f n p = some 0 := fun p hp => by
        unfold sideOf
        rw [dc_y (hw_p Nc69 hp)]
      exact ⟨h, ms_eq M (rb_cg (fun p hp => by unfold sSide; rw [so p hp])), F, fun p q hp hq => ⟨0, so p hp, rfl⟩⟩
    · intro c74
      exact absurd c74 (by decide)
end MParts2
