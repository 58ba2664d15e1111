section MGo2
variable {f : Nat → Int32} {n a p r q i : Nat} {Q : HS → Prop} {S S0 : HS}
theorem one_tok {f : Nat → Int32} {n p q c : Nat} (hc : ¬ (c = 1 ∨ c = 2)) (hq : q = tSt f n p) (hcc : c = tC f n p) : tS f n p = c ∧ tEn f n p = if c = 0 then q else q + 1 := by
  constructor
  · unfold tS
    rw [← hcc, if_neg (fun z => hc z.1)]
  · unfold tEn
    rw [← hcc, if_neg hc, hq]
def InvG9 (f : Nat → Int32) (n a p r : Nat) (S0 : HS) (v0 : Nat) (S : HS) : Prop := ∃ i : Nat, r = v0 ∧ p + i ≤ 900 ∧ EM f n a r S ∧ Fr wM [15] r S0 S ∧ fI S r 8 = nI (p + i) ∧ fI S r 13 = 0 ∧ ∀ j, j < i → cls f n (p + j) = 5
theorem mt_sign {k c : Nat} {x : Int32} {U1 U2 U3 : HS} {y z : Int32} (h : Q U3) (hc : c = 3 ∨ c = 4) (hx : x.toInt = if c = 3 then 59 else 44) (hq : q = tSt f n p) (hcc : c = tC f n p) (F : Fr wM [15] r S0 S) (h8 : fI S r 8 = nI q) (h10 : fI S r 10 = nI q) (h13 : fI S r 13 = 0) (e1 : U1 = sI S r 9 4) (e2 : U2 = sI U1 r 11 x) (ey : y = fI U2 r 8) (ez : z = y + 1) (e3 : U3 = sI U2 r 8 z) : Q U3 ∧ (Fr wM [15] r S0 U3 ∧ MT f n p r U3) := by
  have ht := one_tok (f := f) (n := n) (p := p) (q := q) (c := c) (by omega) hq hcc
  refine ⟨h, fr_wI (fr_wI (fr_wI F e1 (by decide)) e2 (by decide)) e3 (by decide), ?_⟩
  have k8 : fI U3 r 8 = nI (q + 1) := by rw [wI_at e3, ez, ey, wI_ne e2 (by decide), wI_ne e1 (by decide), h8]; exact nI_1 q
  have k11 : fI U3 r 11 = x := by rw [wI_ne e3 (by decide), wI_at e2]
  have k9 : fI U3 r 9 = 4 := by rw [wI_ne e3 (by decide), wI_ne e2 (by decide), wI_at e1]
  have k10 : fI U3 r 10 = nI q := by rw [wI_ne e3 (by decide), wI_ne e2 (by decide), wI_ne e1 (by decide), h10]
  have k13 : fI U3 r 13 = 0 := by rw [wI_ne e3 (by decide), wI_ne e2 (by decide), wI_ne e1 (by decide), h13]
  unfold MT
  rw [ht.1, ht.2, k8, k11, k9, k10, k13, if_neg (by omega), ← hq]
  refine ⟨?_, rfl, fun z => absurd z (by omega), fun z => absurd z (by omega), fun z => ?_, fun z => ?_, fun _ => rfl, rfl⟩
  · rcases hc with rfl | rfl <;> rfl
  · rw [if_pos z] at hx
    exact Int32.toInt_inj.mp hx
  · rw [if_neg (by omega)] at hx
    exact Int32.toInt_inj.mp hx
set_option maxHeartbeats 1000000 in
theorem lpG9 {v0 : Nat} (h : P_X11_goesOn_9 Q v0 S) (hi : InvG9 f n a p r S0 v0 S) : P_X11_goesOn_9 (fun T => Q T ∧ (Fr wM [15] r S0 T ∧ MT f n p r T)) v0 S := by
  refine h (fun v0 S => InvG9 f n a p r S0 v0 S → P_X11_goesOn_9 (fun T => Q T ∧ (Fr wM [15] r S0 T ∧ MT f n p r T)) v0 S) ?_ hi
  intro v0 S h hi
  obtain ⟨i, rfl, hi9, E, F, h8, h13, hs⟩ := hi
  have e32 : (32 : Int32).toInt = 32 := by decide
  have e59 : (59 : Int32).toInt = 59 := by decide
  have e44 : (44 : Int32).toInt = 44 := by decide
  have em1 : (-1 : Int32).toInt = -1 := by decide
  have hb := bm_at E (k := p + i)
  refine fd_X11_goesOn_9 ?_
  delta B_X11_goesOn_9
  obtain ⟨o1, h⟩ := h
  refine ⟨o1, ?_⟩
  intro x2 ex2
  have h := h x2 ex2
  refine cm_X11_byteAt (sp_X11_byteAt h E (ex2.trans h8) (by omega)) h (fun x3 S4 hp h g5 => ?_)
  have h := h g5
  obtain ⟨-, hS, hx3⟩ := hp
  subst hS
  refine ⟨?_, ?_⟩
  · intro c6
    have c7 := ne_i c6
    rw [hx3, e32] at c7
    have h := h.1 c6
    have hcl : cls f n (p + i) ≠ 5 := fun z => c7 (hb.1.mpr z)
    have hq : p + i = tSt f n p := (run_eq i 1000 p (by omega) hs hcl).symm
    have hcc : cls f n (p + i) = tC f n p := by rw [hq]; rfl
    intro x7 ex7
    have h := h x7 ex7
    intro S8 eS8
    have h := h S8 eS8
    intro S9 eS9
    have h := h S9 eS9
    intro S10 eS10
    have h := h S10 eS10
    intro x11 ex11
    have h := h x11 ex11
    have F10 := fr_wI (fr_wI (fr_wI F eS8 (by decide)) eS9 (by decide)) eS10 (by decide)
    have E10 := em_fr E (fr_wI (fr_wI (fr_wI (fr_rf [10, 9, 11] [] r S) eS8 (by decide)) eS9 (by decide)) eS10 (by decide)) (by decide)
    have k8 : fI S10 r 8 = nI (p + i) := by rw [wI_ne eS10 (by decide), wI_ne eS9 (by decide), wI_ne eS8 (by decide), h8]
    have k9 : fI S10 r 9 = 0 := by rw [wI_ne eS10 (by decide), wI_at eS9]
    have k10 : fI S10 r 10 = nI (p + i) := by rw [wI_ne eS10 (by decide), wI_ne eS9 (by decide), wI_at eS8, ex7, h8]
    have k13 : fI S10 r 13 = 0 := by rw [wI_ne eS10 (by decide), wI_ne eS9 (by decide), wI_ne eS8 (by decide), h13]
    refine cm_X11_byteAt (sp_X11_byteAt h E10 (ex11.trans k8) (by omega)) h (fun x12 S13 hp h g14 => ?_)
    have h := h g14
    obtain ⟨-, hS, hx12⟩ := hp
    subst hS
    refine ⟨?_, ?_⟩
    · intro c15
      have c16 := ne_i c15
      rw [hx12, em1] at c16
      have h := h.1 c15
      refine cm_X11_isLetter (sp_X11_isLetter h) h (fun x16 S17 hp h g18 b19 => ?_)
      have h := h g18 b19
      obtain ⟨-, hS, hx16⟩ := hp
      subst hS
      rw [hx12, bm_let E] at hx16
      refine ⟨?_, ?_⟩
      · intro c20
        have n1 := an0 hx16 c20
        have h := h.1 c20
        refine cm_X11_isDigit (sp_X11_isDigit h) h (fun x21 S22 hp h g23 b24 => ?_)
        have h := h g23 b24
        obtain ⟨-, hS, hx21⟩ := hp
        subst hS
        rw [hx12, bm_dig E] at hx21
        refine ⟨?_, ?_⟩
        · intro c25
          have n2 := an0 hx21 c25
          have h := h.1 c25
          refine ⟨?_, ?_⟩
          · intro c26
            have c27 := eq_i c26
            rw [hx12, e59] at c27
            have h3 := hb.2.2.1.mp c27
            have h := h.1 c26
            delta P_X11_goesOn_261
            obtain ⟨o27, h⟩ := h
            refine ⟨o27, ?_⟩
            intro S28 eS28
            have h := h S28 eS28
            intro S29 eS29
            have h := h S29 eS29
            intro x30 ex30
            have h := h x30 ex30
            intro x31 ex31
            have h := h x31 ex31
            intro S32 eS32
            have h := h S32 eS32
            exact mt_sign (k := 0) (c := 3) h (Or.inl rfl) (by rw [hx12, c27]; rfl) hq (by rw [← hcc, h3]) F10 k8 k10 k13 eS28 eS29 ex30 ex31 eS32
          · intro c33
            have c34 := ne_i c33
            rw [hx12, e59] at c34
            have h := h.2 c33
            refine ⟨?_, ?_⟩
            · intro c34'
              have c35 := ne_i c34'
              rw [hx12, e44] at c35
              have h := h.1 c34'
              have h6 : cls f n (p + i) = 6 := by
                have := cls_le f n (p + i)
                have d0 : cls f n (p + i) ≠ 0 := fun z => c16 (hb.2.2.2.mpr z)
                have d3 : cls f n (p + i) ≠ 3 := fun z => c34 (hb.2.2.1.mpr z)
                have d4 : cls f n (p + i) ≠ 4 := fun z => c35 (hb.2.1.mpr z)
                omega
              exact ⟨h, F10, mt_bad ((one_tok (q := p + i) (c := 6) (by decide) hq (by rw [← hcc, h6])).1) k9 (by rw [← hq]; exact k10) k13⟩
            · intro c35
              have c36 := eq_i c35
              rw [hx12, e44] at c36
              have h4 := hb.2.1.mp c36
              have h := h.2 c35
              delta P_X11_goesOn_261
              obtain ⟨o36, h⟩ := h
              refine ⟨o36, ?_⟩
              intro S37 eS37
              have h := h S37 eS37
              intro S38 eS38
              have h := h S38 eS38
              intro x39 ex39
              have h := h x39 ex39
              intro x40 ex40
              have h := h x40 ex40
              intro S41 eS41
              have h := h S41 eS41
              exact mt_sign (k := 0) (c := 4) h (Or.inr rfl) (by rw [hx12, c36]; rfl) hq (by rw [← hcc, h4]) F10 k8 k10 k13 eS37 eS38 ex39 ex40 eS41
        · intro c42
          have h2 := an1 hx21 c42
          have h := h.2 c42
          intro S43 eS43
          have h := h S43 eS43
          have u12 : (fI S43 r 12) = 0 := wI_at eS43
          refine lp178 hq (by rw [← hcc, h2]) h ⟨0, rfl, nI_0.symm, by omega, em_fr E10 (fr_wI (fr_rf [12] [] r S10) eS43 (by decide)) (by decide), fr_wI F10 eS43 (by decide), by rw [wI_ne eS43 (by decide)]; exact k8, by rw [wI_ne eS43 (by decide)]; exact k9, by rw [wI_ne eS43 (by decide)]; exact k10, by rw [u12]; rfl, by rw [wI_ne eS43 (by decide)]; exact k13, fun j hj => absurd hj (by omega), by rw [u12]; decide, fun _ => by rw [u12]; decide, fun _ => by rw [u12]; decide, fun _ => by rw [u12]; decide⟩
      · intro c44
        have h1 := an1 hx16 c44
        have h := h.2 c44
        intro S45 eS45
        have h := h S45 eS45
        refine lp89 hq (by rw [← hcc, h1]) h ⟨0, rfl, nI_0.symm, by omega, em_fr E10 (fr_wJ (fr_rf [] [15] r S10) eS45 (by decide)) (by decide), fr_wJ F10 eS45 (by decide), by rw [wJ_I eS45]; exact k8, by rw [wJ_I eS45]; exact k9, by rw [wJ_I eS45]; exact k10, by rw [wJ_at eS45]; rfl, by rw [wJ_I eS45]; exact k13, fun j hj => absurd hj (by omega)⟩
    · intro c46
      have c47 := eq_i c46
      rw [hx12, em1] at c47
      have h0 := hb.2.2.2.mp c47
      have h := h.2 c46
      intro S47 eS47
      have h := h S47 eS47
      have ht := one_tok (f := f) (n := n) (p := p) (q := p + i) (c := 0) (by decide) hq (by rw [← hcc, h0])
      refine ⟨h, fr_wI F10 eS47 (by decide), ?_⟩
      unfold MT
      rw [ht.1, ht.2, if_pos rfl, ← hq, wI_at eS47, wI_ne eS47 (by decide), wI_ne eS47 (by decide), wI_ne eS47 (by decide), wI_ne eS47 (by decide), wI_ne eS47 (by decide), k8, k10, k13]
      exact ⟨rfl, rfl, fun z => absurd z (by decide), fun z => absurd z (by decide), fun z => absurd z (by decide), fun z => absurd z (by decide), fun _ => rfl, rfl⟩
  · intro c48
    have c49 := eq_i c48
    rw [hx3, e32] at c49
    have h5 := hb.1.mp c49
    have hlt := cls_lt h5 (by decide)
    have hn9 := E.2.2.2.2.1
    have h := h.2 c48
    intro x49 ex49
    have h := h x49 ex49
    intro x50 ex50
    have h := h x50 ex50
    intro S51 eS51
    have h := h S51 eS51
    refine h ⟨i + 1, rfl, by omega, em_fr E (fr_wI (fr_rf [8] [] r S) eS51 (by decide)) (by decide), fr_wI F eS51 (by decide), ?_, by rw [wI_ne eS51 (by decide)]; exact h13, fun j hj => ?_⟩
    · rw [wI_at eS51, ex50, ex49, h8]; exact nI_1 _
    · by_cases hji : j = i
      · rw [hji]; exact h5
      · exact hs j (by omega)
theorem sp0_X11_goesOn {v0 : Nat} (h : P_X11_goesOn v0 Q S) (E : EM f n a v0 S) (h9 : fI S v0 9 ≠ 5) (h8 : fI S v0 8 = nI p) (h13 : fI S v0 13 = 0) (hp9 : p ≤ 900) : P_X11_goesOn v0 (fun T => Q T ∧ (Fr wM [15] v0 S T ∧ MT f n p v0 T)) S := by
  delta P_X11_goesOn P_X11_goesOn_0
  obtain ⟨o1, h⟩ := h
  refine ⟨o1, ?_⟩
  intro x2 ex2
  have h := h x2 ex2
  refine ⟨?_, ?_⟩
  · intro c3
    exact lpG9 (h.1 c3) ⟨0, rfl, hp9, E, fr_rf _ _ _ _, h8, h13, fun j hj => absurd hj (by omega)⟩
  · intro c4
    exact absurd (ex2.symm.trans c4) h9
theorem sp5_X11_goesOn {v0 : Nat} (h : P_X11_goesOn v0 Q S) (h9 : fI S v0 9 = 5) : P_X11_goesOn v0 (fun T => Q T ∧ S = T) S := by
  delta P_X11_goesOn P_X11_goesOn_0
  obtain ⟨o1, h⟩ := h
  refine ⟨o1, ?_⟩
  intro x2 ex2
  have h := h x2 ex2
  exact ⟨fun c3 => absurd (ex2.trans h9) c3, fun c4 => ⟨h.2 c4, rfl⟩⟩
end MGo2
