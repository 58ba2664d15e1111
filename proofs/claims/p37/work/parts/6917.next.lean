section Nexts2
variable {f : Nat → Int32} {n a p r q c i : Nat} {Q : HS → Prop} {S S0 : HS}
theorem b240z (h : P_X4_next_240 Q r 0 S) (F : Fr [4, 6, 7] [8] r S0 S) (hc : ¬ (c = 1 ∨ c = 2)) (hq : q = tSt f n p) (hcc : c = tC f n p) (h4 : fI S r 4 = nI q) (h6 : fI S r 6 = nI c) (h7 : fI S r 7 = nI q) (h8 : fJ S r 8 = 0) (hc6 : c ≤ 6) : P_X4_next_240 (fun T => Q T ∧ (Fr [4, 6, 7] [8] r S0 T ∧ TC0 f n p r T)) r 0 S := by
  have hV : tV f n p = 0 := by
    unfold tV
    rw [← hcc, if_neg hc]
  have hS : tS f n p = c := by
    unfold tS
    rw [← hcc, if_neg (fun z => hc z.1)]
  delta P_X4_next_240
  refine ⟨fun c3 => absurd rfl c3, ?_⟩
  intro c4
  have h := h.2 c4
  obtain ⟨o5, h⟩ := h
  refine ⟨o5, ?_⟩
  intro x6 ex6
  have h := h x6 ex6
  refine ⟨?_, ?_⟩
  · intro c7
    have h0 : c = 0 := nI_inj (by omega) (by omega) (by rw [← h6, ← ex6, c7]; rfl)
    have hE : tEn f n p = q := by
      unfold tEn
      rw [← hcc, if_neg hc, if_pos h0, hq]
    exact ⟨h.1 c7, F, by rw [hS]; exact h6, by rw [← hq]; exact h7, by rw [hV]; exact h8, by rw [hE]; exact h4⟩
  · intro c8
    have h := h.2 c8
    intro x9 ex9
    have h := h x9 ex9
    intro x10 ex10
    have h := h x10 ex10
    intro S11 eS11
    have h := h S11 eS11
    have h0 : ¬ c = 0 := fun z => c8 (by rw [ex6, h6, z]; rfl)
    have hE : tEn f n p = q + 1 := by
      unfold tEn
      rw [← hcc, if_neg hc, if_neg h0, hq]
    refine ⟨h, fr_wI F eS11 (by decide), by rw [hS, wI_ne eS11 (by decide)]; exact h6, by rw [← hq, wI_ne eS11 (by decide)]; exact h7, by rw [hV, wI_J eS11]; exact h8, ?_⟩
    rw [hE, wI_at eS11, ex10, ex9, h4]; exact nI_1 q
theorem lp118z {v2 v3 v4 : Int32} (h : P_X4_next_118 Q r 0 v2 v3 v4 S) (F : Fr [4, 6, 7] [8] r S0 S) (hc : ¬ (c = 1 ∨ c = 2)) (hq : q = tSt f n p) (hcc : c = tC f n p) (h4 : fI S r 4 = nI q) (h6 : fI S r 6 = nI c) (h7 : fI S r 7 = nI q) (h8 : fJ S r 8 = 0) (hc6 : c ≤ 6) : P_X4_next_118 (fun T => Q T ∧ (Fr [4, 6, 7] [8] r S0 T ∧ TC0 f n p r T)) r 0 v2 v3 v4 S := by
  have h := uf_X4_next_118 h
  refine fd_X4_next_118 ?_
  delta B_X4_next_118
  refine ⟨fun c1 => ?_, fun c1 => absurd rfl c1⟩
  have h := h.1 c1
  delta P_X4_next_217
  exact ⟨fun c2 => b240z (h.1 c2) F hc hq hcc h4 h6 h7 h8 hc6, fun c2 => absurd rfl c2⟩
set_option maxHeartbeats 1000000 in
theorem b37 (h : P_X4_next_37 Q r S) (E : EC f n a r S) (F : Fr [4, 6, 7] [8] r S0 S) (hq : q = tSt f n p) (h4 : fI S r 4 = nI q) (hqq : q ≤ 1000) : P_X4_next_37 (fun T => Q T ∧ (Fr [4, 6, 7] [8] r S0 T ∧ TC0 f n p r T)) r S := by
  obtain ⟨c, hcc⟩ : ∃ c, c = tC f n p := ⟨_, rfl⟩
  have hcq : cls f n q = c := by rw [hcc, hq]; rfl
  have hc6 : c ≤ 6 := by rw [← hcq]; exact cls_le _ _ _
  delta P_X4_next_37
  obtain ⟨o2, h⟩ := h
  refine ⟨o2, ?_⟩
  intro x3 ex3
  have h := h x3 ex3
  intro S4 eS4
  have h := h S4 eS4
  intro x5 ex5
  have h := h x5 ex5
  have E4 := ec_fr E (fr_wI (fr_rf [7] [] r S) eS4 (by decide)) (by decide)
  refine cm_X4_sortAt (sp_X4_sortAt h E4 (p := q) (by rw [ex5, wI_ne eS4 (by decide)]; exact h4) (by omega)) h (fun x6 S7 hp h g8 => ?_)
  have h := h g8
  obtain ⟨-, hS, hp⟩ := hp
  subst hS
  intro S9 eS9
  have h := h S9 eS9
  intro S10 eS10
  have h := h S10 eS10
  have F10 := fr_wJ (fr_wI (fr_wI F eS4 (by decide)) eS9 (by decide)) eS10 (by decide)
  have E10 := ec_fr E4 (fr_wJ (fr_wI (fr_rf [6] [8] r S4) eS9 (by decide)) eS10 (by decide)) (by decide)
  have k6 : fI S10 r 6 = nI c := by rw [wJ_I eS10, wI_at eS9, hp, hcq]
  have k7 : fI S10 r 7 = nI q := by rw [wJ_I eS10, wI_ne eS9 (by decide), wI_at eS4, ex3, h4]
  have k4 : fI S10 r 4 = nI q := by rw [wJ_I eS10, wI_ne eS9 (by decide), wI_ne eS4 (by decide), h4]
  have k8 : fJ S10 r 8 = 0 := wJ_at eS10
  have is1 : ∀ x : Int32, x = fI S10 r 6 → x = 1 → c = 1 := fun x ex e => nI_inj (by omega) (by omega) (by rw [← k6, ← ex, e]; rfl)
  have is2 : ∀ x : Int32, x = fI S10 r 6 → x = 2 → c = 2 := fun x ex e => nI_inj (by omega) (by omega) (by rw [← k6, ← ex, e]; rfl)
  have no1 : ∀ x : Int32, x = fI S10 r 6 → ¬ x = 1 → ¬ c = 1 := fun x ex e z => e (by rw [ex, k6, z]; rfl)
  have no2 : ∀ x : Int32, x = fI S10 r 6 → ¬ x = 2 → ¬ c = 2 := fun x ex e z => e (by rw [ex, k6, z]; rfl)
  have L118 : ∀ v2 v3 : Int32, (c = 1 ∨ c = 2) → v2 = nI (tLg c) → v3.toInt64 = tBs c → P_X4_next_118 Q r 1 v2 v3 0 S10 → P_X4_next_118 (fun T => Q T ∧ (Fr [4, 6, 7] [8] r S0 T ∧ TC0 f n p r T)) r 1 v2 v3 0 S10 := fun v2 v3 hc e2 e3 h => lp118 hc hq hcc hqq h ⟨0, rfl, rfl, e2, e3, nI_0.symm, by omega, E10, F10, k4, k6, k7, by rw [Nat.zero_min]; exact k8, fun j hj => absurd hj (by omega)⟩
  intro x11 ex11
  have h := h x11 ex11
  have run : c = 1 ∨ c = 2 → P_X4_next_83 Q r 1 S10 → P_X4_next_83 (fun T => Q T ∧ (Fr [4, 6, 7] [8] r S0 T ∧ TC0 f n p r T)) r 1 S10 := by
    intro hc h
    delta P_X4_next_83
    obtain ⟨o13, h⟩ := h
    refine ⟨o13, ?_⟩
    intro x14 ex14
    have h := h x14 ex14
    refine ⟨?_, ?_⟩
    · intro c15
      have h := h.1 c15
      delta P_X4_next_98
      obtain ⟨o16, h⟩ := h
      refine ⟨o16, ?_⟩
      intro x17 ex17
      have h := h x17 ex17
      have n1 := no1 _ ex14 c15
      have e2 : c = 2 := by omega
      exact ⟨fun c18 => L118 _ _ hc (by rw [e2]; rfl) (by rw [e2]; rfl) (h.1 c18), fun c19 => absurd (is1 _ ex17 c19) n1⟩
    · intro c20
      have h := h.2 c20
      delta P_X4_next_98
      obtain ⟨o16, h⟩ := h
      refine ⟨o16, ?_⟩
      intro x17 ex17
      have h := h x17 ex17
      have e1 := is1 _ ex14 c20
      exact ⟨fun c18 => absurd e1 (no1 _ ex17 c18), fun c19 => L118 _ _ hc (by rw [e1]; rfl) (by rw [e1]; rfl) (h.2 c19)⟩
  refine ⟨?_, ?_⟩
  · intro c12
    exact run (Or.inl (is1 _ ex11 c12)) (h.1 c12)
  · intro c25
    have h := h.2 c25
    intro x26 ex26
    have h := h x26 ex26
    refine ⟨?_, ?_⟩
    · intro c27
      have h := h.1 c27
      have hc : ¬ (c = 1 ∨ c = 2) := fun z => z.elim (no1 _ ex11 c25) (no2 _ ex26 c27)
      have Z : ∀ v2 v3 : Int32, P_X4_next_118 Q r 0 v2 v3 0 S10 → P_X4_next_118 (fun T => Q T ∧ (Fr [4, 6, 7] [8] r S0 T ∧ TC0 f n p r T)) r 0 v2 v3 0 S10 := fun v2 v3 h => lp118z h F10 hc hq hcc k4 k6 k7 k8 hc6
      delta P_X4_next_83
      obtain ⟨o28, h⟩ := h
      refine ⟨o28, ?_⟩
      intro x29 ex29
      have h := h x29 ex29
      refine ⟨?_, ?_⟩
      · intro c30
        have h := h.1 c30
        delta P_X4_next_98
        obtain ⟨o31, h⟩ := h
        refine ⟨o31, ?_⟩
        intro x32 ex32
        have h := h x32 ex32
        exact ⟨fun c33 => Z _ _ (h.1 c33), fun c34 => Z _ _ (h.2 c34)⟩
      · intro c35
        have h := h.2 c35
        delta P_X4_next_98
        obtain ⟨o31, h⟩ := h
        refine ⟨o31, ?_⟩
        intro x32 ex32
        have h := h x32 ex32
        exact ⟨fun c33 => Z _ _ (h.1 c33), fun c34 => Z _ _ (h.2 c34)⟩
    · intro c40
      exact run (Or.inr (is2 _ ex26 c40)) (h.2 c40)
def Inv2 (f : Nat → Int32) (n a p r : Nat) (S0 : HS) (v0 : Nat) (v1 : Int32) (S : HS) : Prop := ∃ i : Nat, r = v0 ∧ v1 = nI i ∧ i ≤ 900 ∧ EC f n a r S ∧ Fr [4, 6, 7] [8] r S0 S ∧ fI S r 4 = nI (p + i) ∧ (∀ j, j < i → cls f n (p + j) = 5)
set_option maxHeartbeats 1000000 in
theorem lpn2 (hp9 : p ≤ 900) {v0 : Nat} {v1 : Int32} (h : P_X4_next_2 Q v0 v1 S) (hi : Inv2 f n a p r S0 v0 v1 S) : P_X4_next_2 (fun T => Q T ∧ (Fr [4, 6, 7] [8] r S0 T ∧ TC0 f n p r T)) v0 v1 S := by
  refine h (fun v0 v1 S => Inv2 f n a p r S0 v0 v1 S → P_X4_next_2 (fun T => Q T ∧ (Fr [4, 6, 7] [8] r S0 T ∧ TC0 f n p r T)) v0 v1 S) ?_ hi
  intro v0 v1 S h hi
  obtain ⟨i, rfl, hv1, hi9, E, F, h4, hs⟩ := hi
  have e9 : (900 : Int32).toInt = 900 := by decide
  have ei : v1.toInt = (i : Int) := by rw [hv1]; exact nI_i (by omega)
  have hn9 := E.2.2.2.2.1
  have hpi : p + i ≤ 900 := by
    by_cases h0 : i = 0
    · omega
    · have hl := hs (i - 1) (by omega)
      have : p + (i - 1) < n := Nat.not_le.mp (fun z => by rw [cls_end z] at hl; omega)
      omega
  have ext : cls f n (p + i) ≠ 5 → p + i = tSt f n p := fun he => (run_eq i 1000 p (by omega) hs he).symm
  refine fd_X4_next_2 ?_
  delta B_X4_next_2
  refine ⟨?_, ?_⟩
  · intro c1
    have := le_i c1
    exact b37 (h.1 c1) E F (ext (by rw [cls_end (by omega)]; decide)) h4 (by omega)
  · intro c53
    have := nle_i c53
    have h := h.2 c53
    obtain ⟨o54, h⟩ := h
    refine ⟨o54, ?_⟩
    intro x55 ex55
    have h := h x55 ex55
    refine cm_X4_sortAt (sp_X4_sortAt h E (ex55.trans h4) (by omega)) h (fun x56 S57 hp h g58 => ?_)
    have h := h g58
    obtain ⟨-, hS, hp⟩ := hp
    subst hS
    refine ⟨?_, ?_⟩
    · intro c59
      exact b37 (h.1 c59) E F (ext (fun z => c59 (by rw [hp, z]; rfl))) h4 (by omega)
    · intro c111
      have h := h.2 c111
      have hcl : cls f n (p + i) = 5 := nI_inj (by have := cls_le f n (p + i); omega) (by omega) (by rw [← hp, c111]; rfl)
      intro x112 ex112
      have h := h x112 ex112
      intro x113 ex113
      have h := h x113 ex113
      intro S114 eS114
      have h := h S114 eS114
      intro x115 ex115
      have h := h x115 ex115
      refine h ⟨i + 1, rfl, by rw [ex115, hv1]; exact nI_1 i, by omega, ec_fr E (fr_wI (fr_rf [4] [] r S) eS114 (by decide)) (by decide), fr_wI F eS114 (by decide), ?_, fun j hj => ?_⟩
      · rw [wI_at eS114, ex113, ex112, h4]; exact nI_1 _
      · by_cases hji : j = i
        · rw [hji]; exact hcl
        · exact hs j (by omega)
theorem sp0_X4_next {v0 : Nat} (h : P_X4_next v0 Q S) (E : EC f n a v0 S) (h4 : fI S v0 4 = nI p) (hp9 : p ≤ 900) : P_X4_next v0 (fun T => Q T ∧ (Fr [4, 6, 7] [8] v0 S T ∧ TC0 f n p v0 T)) S :=
  lpn2 hp9 h ⟨0, rfl, nI_0.symm, by omega, E, fr_rf _ _ _ _, h4, fun j hj => absurd hj (by omega)⟩
/-- the reader r stands at the token that begins behind p; no fault so far -/
def TC (f : Nat → Int32) (n p r : Nat) (T : HS) : Prop := fI T r 6 = nI (tS f n p) ∧ fI T r 7 = nI (tSt f n p) ∧ fJ T r 8 = tV f n p ∧ fI T r 4 = nI (tEn f n p) ∧ fI T r 0 = 0
/-- next: the token that begins behind p is read -/
theorem sp_X4_next {v0 : Nat} (h : P_X4_next v0 Q S) (E : EC f n a v0 S) (h4 : fI S v0 4 = nI p) (hp9 : p ≤ 900) (h0 : fI S v0 0 = 0) : P_X4_next v0 (fun T => Q T ∧ (Fr [4, 6, 7] [8] v0 S T ∧ TC f n p v0 T)) S :=
  cm_X4_next (sp0_X4_next h E h4 hp9) h (fun T hp h => ⟨h, hp.2.1, hp.2.2.1, hp.2.2.2.1, hp.2.2.2.2.1, hp.2.2.2.2.2, (hp.2.1.2.2.2.2.2.1 0 (by decide)).trans h0⟩)
end Nexts2
theorem tEn_le {f : Nat → Int32} {n p : Nat} (hp : p ≤ 900) (hn : n ≤ 900) : tEn f n p ≤ 900 := by
  have key : ∀ (c k q : Nat), c ≠ 0 → q ≤ 900 → runL f n c k q ≤ 900 := by
    intro c k
    induction k with
    | zero => intro q _ hq; exact hq
    | succ k ih =>
      intro q hc hq
      simp only [runL]
      split
      · rename_i h
        have : q < n := Nat.not_le.mp (fun z => by rw [cls_end z] at h; omega)
        exact ih (q + 1) hc (by omega)
      · exact hq
  have hs : tSt f n p ≤ 900 := key 5 1000 p (by decide) hp
  unfold tEn
  split
  · rename_i h
    exact key _ 1000 _ (by omega) hs
  · split
    · exact hs
    · rename_i h
      have : tSt f n p < n := Nat.not_le.mp (fun z => h (cls_end z))
      omega
