section Rel2
variable {S T : HS} {c m t a : Nat} {f : Nat → Int32} {v1 : Int32} {Q : Int32 → HS → Prop}
theorem n_of {v : Int32} {t : Nat} (ht : t ≤ 900) (h0 : ¬ v < 0) (h1 : ¬ nI t < v) : ∃ n, n ≤ t ∧ v = nI n := by
  have a0 := nlt_i h0
  have a1 := nlt_i h1
  have e0 : (0 : Int32).toInt = 0 := by decide
  rw [nI_i (by omega)] at a1
  refine ⟨v.toInt.toNat, by omega, Int32.toInt_inj.mp ?_⟩
  rw [nI_i (by omega)]
  omega
/-- the class's world(n): refused with 2, or as the text says -/
def WCd (S : HS) (f : Nat → Int32) (t : Nat) (v1 : Int32) (c : Nat) (x : Int32) (T : HS) : Prop := ((v1 < 0 ∨ nI t < v1) ∧ x = -1 ∧ fI T c 9 = 2 ∧ fI T c 7 = fI S c 7) ∨ ∃ n, n ≤ t ∧ v1 = nI n ∧ WcB (sAll f n 1000 0 A00) c x T
def WMd (S : HS) (f : Nat → Int32) (t : Nat) (v1 : Int32) (m : Nat) (x : Int32) (T : HS) : Prop := ((v1 < 0 ∨ nI t < v1) ∧ x = -1 ∧ fI T m 1 = 2 ∧ fI T m 2 = -1 ∧ fI T m 13 = fI S m 13) ∨ ∃ n, n ≤ t ∧ v1 = nI n ∧ WmB (sAll f n 1000 0 A00) m x T
theorem rl_X9_world (hI : IV S) (oc : ob S c 9) (P : TP 0 1 f t a c S) (ht : t ≤ 900) (h : P_X9_world c v1 Q S) : P_X9_world c v1 (fun x T => Q x T ∧ WCd S f t v1 c x T) S := by
  by_cases hb : v1 < 0 ∨ nI t < v1
  · refine cm_X9_world (sp_X9_world_bad h (by rw [P.2.1]; exact hb)) h (fun x T hp h => ⟨h, Or.inl ⟨hb, hp.2.1, wI_at hp.2.2, wI_ne hp.2.2 (by decide)⟩⟩)
  · obtain ⟨n, hn, hv⟩ := n_of ht (fun z => hb (Or.inl z)) (fun z => hb (Or.inr z))
    obtain ⟨a', r, w, nm, nd, g1, g2, g3, g4, g5, g6⟩ := iv_rdy (f := f) (n := n) hI oc (by omega) (fun b hb j hj => by
      cases P.1.symm.trans hb
      exact P.2.2.2.2.2 j (by omega))
    refine cm_X9_world (sp_X9_world_ok hI oc h hv g1 g2 g3 g4 g5 g6 ?_) h (fun x T hp h => ⟨h, Or.inr ⟨n, hn, hv, hp.2⟩⟩)
    rw [P.2.1]
    exact Int32.not_lt.mp (fun z => hb (Or.inr z))
theorem rl_X11_world (P : TP 5 6 f t a m S) (ht : t ≤ 900) (hB : ∀ j, j < t → -128 ≤ (f j).toInt ∧ (f j).toInt ≤ 127) (h : P_X11_world m v1 Q S) : P_X11_world m v1 (fun x T => Q x T ∧ WMd S f t v1 m x T) S := by
  by_cases hb : v1 < 0 ∨ nI t < v1
  · exact cm_X11_world (sp_X11_world_bad h (by rw [P.2.1]; exact hb)) h (fun x T hp h => ⟨h, Or.inl ⟨hb, hp.2.1, hp.2.2.2.1, hp.2.2.2.2, hp.2.2.1.2.2.2.2.2.1 13 (by decide)⟩⟩)
  · obtain ⟨n, hn, hv⟩ := n_of ht (fun z => hb (Or.inl z)) (fun z => hb (Or.inr z))
    refine cm_X11_world (sp_X11_world_ok h hv (by omega) P.1 P.2.2.2.1 P.2.2.1 (fun j hj => P.2.2.2.2.2 j (by omega)) (fun j hj => hB j (by omega)) ?_) h (fun x T hp h => ⟨h, Or.inr ⟨n, hn, hv, hp.2⟩⟩)
    rw [P.2.1]
    exact Int32.not_lt.mp (fun z => hb (Or.inr z))
theorem no_bad (ht : t ≤ 900) : ∀ n, n ≤ t → v1 = nI n → ¬ (v1 < 0 ∨ nI t < v1) := by
  intro n hn hv z
  rw [hv] at z
  have e0 : (0 : Int32).toInt = 0 := by decide
  rcases z with z | z
  · have := lt_i z
    rw [nI_i (by omega)] at this
    omega
  · have := lt_i z
    rw [nI_i (by omega), nI_i (by omega)] at this
    omega
/-- both sides alike: refused, or read -/
theorem wc_both {x y : Int32} {S' T U : HS} (ht : t ≤ 900) (h : WCd S f t v1 c x T) (g : WMd S' f t v1 m y U) : (x = -1 ∧ y = -1 ∧ fI T c 9 = 2 ∧ fI T c 7 = fI S c 7 ∧ fI U m 1 = 2 ∧ fI U m 2 = -1 ∧ fI U m 13 = fI S' m 13) ∨ ∃ R, WcB R c x T ∧ WmB R m y U := by
  rcases h with ⟨h1, h2, h3⟩ | ⟨n, h1, h2, h3⟩
  · rcases g with ⟨-, g2, g3⟩ | ⟨k, g1, g2, -⟩
    · exact Or.inl ⟨h2, g2, h3.1, h3.2, g3⟩
    · exact absurd h1 (no_bad ht k g1 g2)
  · rcases g with ⟨g1, -⟩ | ⟨k, g1, g2, g3⟩
    · exact absurd g1 (no_bad ht n h1 h2)
    · have : n = k := nI_inj (by omega) (by omega) (h2.symm.trans g2)
      subst this
      exact Or.inr ⟨_, h3, g3⟩
/-- the two answers are one -/
theorem wc_wm {x y : Int32} {S' T U : HS} (ht : t ≤ 900) (h : WCd S f t v1 c x T) (g : WMd S' f t v1 m y U) : x = y := by
  rcases wc_both ht h g with ⟨h1, h2, -⟩ | ⟨R, h3, g3⟩
  · rw [h1, h2]
  · cases R with
    | inl A => exact h3.1.trans g3.1.symm
    | inr e => exact h3.1.trans g3.1.symm
/-- the two faults are one afterwards, if they were before -/
theorem wc_fault {x y : Int32} {S' T U : HS} (ht : t ≤ 900) (h : WCd S f t v1 c x T) (g : WMd S' f t v1 m y U) (hf : fI S c 7 = fI S' m 13) : fI T c 7 = fI U m 13 := by
  rcases wc_both ht h g with ⟨-, -, -, h1, -, -, h2⟩ | ⟨R, h3, g3⟩
  · rw [h1, h2, hf]
  · cases R with
    | inl A => exact h3.2.1.trans g3.2.1.symm
    | inr e => exact h3.2.1.trans g3.2.1.symm
/-- what where() answers on the two sides -/
def WH (c m : Nat) (S : HS) : Prop := (fI S c 9 = 4 → fI S m 2 = fI S c 8) ∧ (fI S c 9 ≠ 4 → fI S m 2 = -1)
theorem wc_where {x y : Int32} {S' T U : HS} (ht : t ≤ 900) (h : WCd S f t v1 c x T) (g : WMd S' f t v1 m y U) : (fI T c 9 = 4 → fI U m 2 = fI T c 8) ∧ (fI T c 9 ≠ 4 → fI U m 2 = -1) := by
  rcases wc_both ht h g with ⟨-, -, h1, -, -, h2, -⟩ | ⟨R, h3, g3⟩
  · exact ⟨fun z => absurd (h1.symm.trans z) (by decide), fun _ => h2⟩
  · cases R with
    | inl A => exact ⟨fun z => absurd (h3.2.2.symm.trans z) (by decide), fun _ => g3.2.2.2⟩
    | inr e => exact ⟨fun _ => g3.2.2.2.trans h3.2.2.1.symm, fun z => absurd h3.2.2.2 z⟩
end Rel2
