/-! the model's parts of lines -/
abbrev wF : List Nat := [8, 9, 10, 11, 12, 13, 14]
/-- the model's state: at a token, or over with a fault -/
def MRs (f : Nat → Int32) (n : Nat) (σ : Res) (m : Nat) (T : HS) : Prop := match σ with
  | .inl p => MT f n p m T
  | .inr e => fI T m 9 = 5 ∧ fI T m 13 = nI e.1 ∧ fI T m 14 = nI e.2
def MS (f : Nat → Int32) (n a m : Nat) (σ : Res) (S : HS) : Prop := EM f n a m S ∧ MRs f n σ m S ∧ ∀ p, σ = .inl p → p ≤ 900
abbrev FM (m : Nat) (S T : HS) : Prop := Fr wF [15] m S T
def hasW (f : Nat → Int32) (n : Nat) (σ : Res) (w : Nat) : Prop := match σ with
  | .inl p => isW f n p w
  | .inr _ => False
def hasN (f : Nat → Int32) (n : Nat) (σ : Res) : Prop := match σ with
  | .inl p => nmOk f n p
  | .inr _ => False
def hasS (f : Nat → Int32) (n : Nat) (σ : Res) (k : Nat) : Prop := match σ with
  | .inl p => tS f n p = k
  | .inr _ => False
theorem mso_le (t : Nat) : mSo t ≤ 4 := by
  unfold mSo
  repeat' split
  all_goals omega
theorem mso_is {t : Nat} (ht : t ≤ 6) : (mSo t = 2 ↔ t = 1) ∧ (mSo t = 3 ↔ t = 2) ∧ (mSo t = 1 ↔ t = 0) ∧ (mSo t = 4 ↔ (t = 3 ∨ t = 4)) := by
  unfold mSo
  repeat' split
  all_goals omega
theorem nI_iff2 {k : Nat} {j : Nat} (hk : k < 100000) (hj : j < 100000) : nI k = nI j ↔ k = j := ⟨nI_inj hk hj, fun z => by rw [z]⟩
section MParts
variable {f : Nat → Int32} {n a : Nat} {σ : Res} {Q : Int32 → HS → Prop} {QU : HS → Prop} {S T : HS} {v0 : Nat}
theorem ms_9 (M : MS f n a v0 σ S) : (fI S v0 9 = 2 ↔ hasS f n σ 1) ∧ (fI S v0 9 = 3 ↔ hasS f n σ 2) ∧ (fI S v0 9 = 1 ↔ hasS f n σ 0) ∧ (fI S v0 9 = 4 ↔ (hasS f n σ 3 ∨ hasS f n σ 4)) ∧ (fI S v0 9 = 5 ↔ ∃ e, σ = .inr e) := by
  cases σ with
  | inl p =>
    have h := M.2.1.1
    have hl := mso_le (tS f n p)
    have hm := mso_is (sS_le f n p)
    rw [h]
    refine ⟨?_, ?_, ?_, ?_, ?_⟩
    · exact (nI_iff2 (j := 2) (by omega) (by omega)).trans hm.1
    · exact (nI_iff2 (j := 3) (by omega) (by omega)).trans hm.2.1
    · exact (nI_iff2 (j := 1) (by omega) (by omega)).trans hm.2.2.1
    · exact (nI_iff2 (j := 4) (by omega) (by omega)).trans hm.2.2.2
    · exact ⟨fun z => absurd (nI_inj (b := 5) (by omega) (by omega) z) (by omega), fun ⟨e, z⟩ => by cases z⟩
  | inr e =>
    have h : fI S v0 9 = 5 := M.2.1.1
    rw [h]
    exact ⟨⟨fun z => absurd z (by decide), fun z => z.elim⟩, ⟨fun z => absurd z (by decide), fun z => z.elim⟩, ⟨fun z => absurd z (by decide), fun z => z.elim⟩, ⟨fun z => absurd z (by decide), fun z => z.elim (fun z => z.elim) (fun z => z.elim)⟩, ⟨fun _ => ⟨e, rfl⟩, fun _ => rfl⟩⟩
theorem sp_X11_flaw {v1 : Int32} {k : Nat} (h : P_X11_flaw v0 v1 QU S) (M : MS f n a v0 σ S) (hk : v1 = nI k) : P_X11_flaw v0 v1 (fun T => QU T ∧ MS f n a v0 (rb σ (fun p => .inr (k, tSt f n p))) T ∧ FM v0 S T) S := by
  delta P_X11_flaw P_X11_flaw_0
  obtain ⟨o1, h⟩ := h
  refine ⟨o1, ?_⟩
  intro x2 ex2
  have h := h x2 ex2
  refine ⟨?_, ?_⟩
  · intro c3
    have h := h.1 c3
    intro S4 eS4
    have h := h S4 eS4
    intro x5 ex5
    have h := h x5 ex5
    intro S6 eS6
    have h := h S6 eS6
    intro S7 eS7
    have h := h S7 eS7
    cases σ with
    | inr e => exact absurd (ex2.trans M.2.1.1) c3
    | inl p =>
      have F : FM v0 S S7 := fr_wI (fr_wI (fr_wI (fr_rf _ _ _ _) eS4 (by decide)) eS6 (by decide)) eS7 (by decide)
      refine ⟨h, ⟨em_fr M.1 F (by decide), ⟨wI_at eS7, ?_, ?_⟩, fun p z => by cases z⟩, F⟩
      · rw [wI_ne eS7 (by decide), wI_ne eS6 (by decide), wI_at eS4, hk]
      · rw [wI_ne eS7 (by decide), wI_at eS6, ex5, wI_ne eS4 (by decide)]; exact M.2.1.2.1
  · intro c8
    have h := h.2 c8
    cases σ with
    | inr e => exact ⟨h, M, fr_rf _ _ _ _⟩
    | inl p =>
      obtain ⟨e, z⟩ := (ms_9 M).2.2.2.2.mp (ex2.symm.trans c8)
      cases z
theorem sp_X11_goesOn (h : P_X11_goesOn v0 QU S) (M : MS f n a v0 σ S) (hg : ∀ p, σ = .inl p → tS f n p ≠ 6) : P_X11_goesOn v0 (fun T => QU T ∧ MS f n a v0 (rb σ (fun p => .inl (tEn f n p))) T ∧ FM v0 S T) S := by
  cases σ with
  | inr e =>
    refine cm_X11_goesOn (sp5_X11_goesOn h M.2.1.1) h (fun T hp h => ⟨h, ?_⟩)
    obtain ⟨-, hS⟩ := hp
    subst hS
    exact ⟨M, fr_rf _ _ _ _⟩
  | inl p =>
    have hp9 := M.2.2 p rfl
    have hE := tEn_le (f := f) (p := p) hp9 M.1.2.2.2.2.1
    have h5 : fI S v0 9 ≠ 5 := fun z => by
      obtain ⟨e, z⟩ := (ms_9 M).2.2.2.2.mp z
      cases z
    refine cm_X11_goesOn (sp0_X11_goesOn h M.1 h5 (M.2.1.2.2.2.2.2.2.1 (hg p rfl)) M.2.1.2.2.2.2.2.2.2 hE) h (fun T hp h => ⟨h, ?_⟩)
    have F : FM v0 S T := fr_up hp.2.1 (by decide) (by decide)
    exact ⟨⟨em_fr M.1 F (by decide), hp.2.2, fun q z => by cases z; exact hE⟩, F⟩
/-- the model's number of a word -/
def mcd (w : Nat) : Nat → Int64
  | 0 => 0
  | k + 1 => 32 * mcd w k + ((sch w (nI k) - 97) + 1).toInt64
def mp (w : Nat) : Nat := if w = 45 then 21 else if w = 46 then 18 else if w = 47 then 19 else if w = 48 then 20 else w - 27
set_option maxRecDepth 100000 in
theorem mcd_code : ∀ w : Nat, w < 54 → 27 ≤ w → mcd w (sLen.getD w 0) = code_ (mp w) := by decide
theorem lp_wordOf {QJ : Int64 → HS → Prop} {v0 : Nat} {v1 : Int64} {v3 : Int32} (h : P_X11_wordOf_4 QJ v0 v1 v3 S) (hi : ∃ i : Nat, i ≤ sLen.getD v0 0 ∧ v3 = nI i ∧ v1 = mcd v0 i) : P_X11_wordOf_4 (fun r T => QJ r T ∧ S = T ∧ r = mcd v0 (sLen.getD v0 0)) v0 v1 v3 S := by
  refine h (fun u0 u1 u3 U => u0 = v0 → U = S → (∃ i : Nat, i ≤ sLen.getD v0 0 ∧ u3 = nI i ∧ u1 = mcd v0 i) → P_X11_wordOf_4 (fun r T => QJ r T ∧ S = T ∧ r = mcd v0 (sLen.getD v0 0)) u0 u1 u3 U) ?_ rfl rfl hi
  intro u0 u1 u3 U h e0 eU hi
  subst e0
  subst eU
  obtain ⟨i, hil, hv3, hv1⟩ := hi
  have hsl := sl_le u0
  have ei : u3.toInt = (i : Int) := by rw [hv3]; exact nI_i (by omega)
  have el : (nI (sLen.getD u0 0)).toInt = ((sLen.getD u0 0 : Nat) : Int) := nI_i (by omega)
  refine fd_X11_wordOf_4 ?_
  delta B_X11_wordOf_4
  obtain ⟨o1, h⟩ := h
  refine ⟨o1, ?_⟩
  intro x2 ex2
  have h := h x2 ex2
  refine ⟨?_, ?_⟩
  · intro c3
    have c4 := le_i c3
    rw [ex2, el, ei] at c4
    have hii : i = sLen.getD u0 0 := by omega
    exact ⟨h.1 c3, rfl, by rw [hv1, hii]⟩
  · intro c4
    have c5 := nle_i c4
    rw [ex2, el, ei] at c5
    have h := h.2 c4
    obtain ⟨o5, h⟩ := h
    refine ⟨o5, ?_⟩
    obtain ⟨o6, h⟩ := h
    refine ⟨o6, ?_⟩
    intro x7 ex7
    have h := h x7 ex7
    intro x8 ex8
    have h := h x8 ex8
    intro x9 ex9
    have h := h x9 ex9
    refine h rfl rfl ⟨i + 1, by omega, by rw [ex9, hv3]; exact nI_1 i, ?_⟩
    rw [ex8, ex7, hv1, hv3]; rfl
theorem sp_X11_isWord {v1 w : Nat} (h : P_X11_isWord v0 v1 Q S) (M : MS f n a v0 σ S) (hw : v1 < 54 ∧ 27 ≤ v1 ∧ mp v1 = w) : P_X11_isWord v0 v1 (fun r T => Q r T ∧ S = T ∧ ans (hasW f n σ w) r) S := by
  delta P_X11_isWord P_X11_isWord_0
  obtain ⟨o1, h⟩ := h
  refine ⟨o1, ?_⟩
  intro x2 ex2
  have h := h x2 ex2
  have h9 := (ms_9 M).1
  refine ⟨?_, ?_⟩
  · intro c3
    refine ⟨h.1 c3, rfl, Or.inr ⟨fun z => c3 (ex2.trans (h9.mpr ?_)), rfl⟩⟩
    cases σ with
    | inl p => exact z.1
    | inr e => exact z
  · intro c4
    have h := h.2 c4
    intro x5 ex5
    have h := h x5 ex5
    refine cm_X11_wordOf (lp_wordOf (S := S) h ⟨0, by omega, nI_0.symm, rfl⟩) h (fun x6 S7 hp h g8 => ?_)
    have h := h g8
    obtain ⟨-, hS, hx⟩ := hp
    subst hS
    have h1 := h9.mp (ex2.symm.trans c4)
    cases σ with
    | inr e => exact h1.elim
    | inl p =>
      have h15 : x5 = tV f n p := ex5.trans (M.2.1.2.2.1 h1)
      rw [mcd_code v1 hw.1 hw.2.1, hw.2.2] at hx
      refine ⟨?_, ?_⟩
      · intro c9
        exact ⟨h.1 c9, rfl, Or.inr ⟨fun z => c9 ((lg_cmp_eq _ _).mpr (by rw [h15, hx]; exact z.2)), rfl⟩⟩
      · intro c10
        exact ⟨h.2 c10, rfl, Or.inl ⟨⟨h1, by rw [← h15, ← hx]; exact (lg_cmp_eq _ _).mp c10⟩, rfl⟩⟩
theorem sp_X11_in {v0 v1 v2 : Int32} (h : P_X11_in v0 v1 v2 Q S) : P_X11_in v0 v1 v2 (fun r T => Q r T ∧ S = T ∧ ans (¬ (v0 < v1 ∨ v2 < v0)) r) S := by
  delta P_X11_in P_X11_in_0
  refine ⟨?_, ?_⟩
  · intro c1
    exact ⟨h.1 c1, rfl, Or.inr ⟨fun z => z (Or.inl c1), rfl⟩⟩
  · intro c2
    have h := h.2 c2
    refine ⟨?_, ?_⟩
    · intro c3
      exact ⟨h.1 c3, rfl, Or.inr ⟨fun z => z (Or.inr c3), rfl⟩⟩
    · intro c4
      exact ⟨h.2 c4, rfl, Or.inl ⟨fun z => z.elim c2 c4, rfl⟩⟩
end MParts
theorem ms_eq {f : Nat → Int32} {n a m : Nat} {σ τ : Res} {S : HS} (M : MS f n a m σ S) (e : σ = τ) : MS f n a m τ S := e ▸ M
