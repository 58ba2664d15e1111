/-! the pool grows: new arrays, one object made or made anew; kind 99: an object that is under construction -/
def FK (q : Nat) : Prop := (12 ≤ q ∧ q < 16) ∨ q = 99
def SD (S T : HS) (a : Nat) : Prop := a ∈ hL T ∧ hK T a = hK S a ∧ hN T a = hN S a ∧ fI T a = fI S a ∧ fJ T a = fJ S a ∧ fR T a = fR S a
def OKV (S T : HS) (v : Nat) : Prop := v ∈ hL T ∧ hK T v < 12 ∧ (v ∈ hL S → hK S v = 99 ∨ (hK S v = hK T v ∧ hK S v < 10)) ∧ (∀ e ∈ shT, e.1 = hK T v → ∃ b, fR T v e.2.1 = some b ∧ ob T b e.2.2.1 ∧ (e.2.2.2 = 0 ∨ hN T b = e.2.2.2)) ∧ (hK T v = 7 → (∀ e ∈ wyT, ∀ b, fR T v e.1 = some b → hN T b = 0) ∨ (∀ e ∈ wyT, ∀ b, fR T v e.1 = some b → hN T b = e.2)) ∧ (∀ e ∈ nuT, e.1 = hK T v → e.2.2.1 ≤ fI T v e.2.1 ∧ fI T v e.2.1 ≤ e.2.2.2) ∧ (∀ j b, fR T v j = some b → b ∈ hL T ∧ ∀ x k j', ob S x k → (k, j') ∈ prT → x ≠ v → fR S x j' ≠ some b) ∧ (∀ j b, (hK T v, j) ∈ prT → fR T v j = some b → b ∉ hL S ∧ ∀ j', fR T v j' = some b → j' = j) ∧ (hK T v = 11 → ML T v)
theorem ml_same' {S T : HS} {o : Nat} (hob : ∀ a, ob S a 10 → ob T a 10) (so : SO S T o) (h : ML S o) : ML T o := by
  obtain ⟨hi, hr, hw, hd⟩ := so
  obtain ⟨h1, h2, h3, h4⟩ := h
  refine ⟨fun w e => ?_, fun w e => ?_, ?_, fun j hj b e => ?_⟩
  · rw [hr] at e
    obtain ⟨a1, a2, a3⟩ := h1 w e
    refine ⟨hob _ a1, wg_same (hw w e) a2, ?_⟩
    rw [(hw w e).1]; exact a3
  · rw [hr] at e; exact hob _ (h2 w e)
  · rw [hi]
    rcases h3 with g | ⟨g, w, g2, g3⟩
    · exact Or.inl g
    · refine Or.inr ⟨g, w, by rw [hr]; exact g2, ?_⟩
      rw [(hw w g2).1]; exact g3
  · rw [hr] at e
    have hp : (11, j) ∈ prT := by rcases hj with rfl | rfl | rfl <;> decide
    have h5 := hd j b hp e
    intro z
    rw [h5]
    exact h4 j hj b e z
theorem iv_ext {S T : HS} {v : Nat} (hI : IV S) (ho : ∀ a, a ∈ hL S → a ≠ v → hK S a ≠ 99 → SD S T a) (hl : ∀ a, a ∈ hL S → a ∈ hL T) (hn : ∀ a, a ∈ hL T → (a ∈ hL S ∧ a ≠ v ∧ hK S a ≠ 99) ∨ a = v ∨ FK (hK T a)) (hv : (v ∈ hL T → FK (hK T v)) ∧ (v ∈ hL S → hK S v = 99) ∨ OKV S T v) : IV T := by
  have ks : ∀ e ∈ shT, e.1 < 12 ∧ e.2.2.1 < 20 := by decide
  have kn : ∀ e ∈ nuT, e.1 < 12 := by decide
  -- an object of T of kind below 12, or 16 to 19: of S, or v
  have cs : ∀ a k, ob T a k → ¬ FK k → (a ≠ v ∧ ob S a k ∧ SD S T a) ∨ (a = v ∧ OKV S T v) := by
    intro a k o hk
    rcases hn a o.1 with ⟨h1, h2, h3⟩ | h1 | h1
    · have sd := ho a h1 h2 h3
      exact Or.inl ⟨h2, ⟨h1, sd.2.1.symm.trans o.2⟩, sd⟩
    · subst h1
      rcases hv with ⟨h, -⟩ | h
      · exact absurd (o.2 ▸ h o.1) hk
      · exact Or.inr ⟨rfl, h⟩
    · exact absurd (o.2 ▸ h1) hk
  have nf : ∀ k, k < 12 → ¬ FK k := fun k hk h => by rcases h with h | h <;> omega
  have nf2 : ∀ k, 16 ≤ k → k < 20 → ¬ FK k := fun k hk hk2 h => by rcases h with h | h <;> omega
  -- what is of a kind in S is so in T
  have up : ∀ b q, ob S b q → q ≠ 99 → ob T b q ∧ hN T b = hN S b ∨ b = v ∧ (v ∈ hL T ∧ hK T v = q) := by
    intro b q o hq
    by_cases c : b = v
    · subst c
      rcases hv with ⟨-, h⟩ | h
      · exact absurd (o.2.symm.trans (h o.1)) hq
      · rcases h.2.2.1 o.1 with g | ⟨g, -⟩
        · exact absurd (o.2.symm.trans g) hq
        · exact Or.inr ⟨rfl, h.1, g.symm.trans o.2⟩
    · have sd := ho b o.1 c (by rw [o.2]; exact hq)
      exact Or.inl ⟨⟨sd.1, sd.2.1.trans o.2⟩, sd.2.2.1⟩
  have upo : ∀ b q, ob S b q → q ≠ 99 → ob T b q := by
    intro b q o hq
    rcases up b q o hq with h | ⟨rfl, h⟩
    · exact h.1
    · exact ⟨h.1, h.2⟩
  have upa : ∀ b q, ob S b q → 12 ≤ q → q < 20 → SD S T b := by
    intro b q o h1 h2
    refine ho b o.1 (fun c => ?_) (by rw [o.2]; omega)
    subst c
    rcases hv with ⟨-, h⟩ | h
    · have := o.2.symm.trans (h o.1); omega
    · rcases h.2.2.1 o.1 with g | ⟨g, g2⟩
      · have := o.2.symm.trans g; omega
      · have := o.2; omega
  have shs : SHF T := by
    intro e he a o
    rcases cs a e.1 o (nf _ (ks e he).1) with ⟨h1, h2, h3⟩ | ⟨rfl, h⟩
    · obtain ⟨b, b1, b2, b3⟩ := hI.1 e he a h2
      refine ⟨b, by rw [h3.2.2.2.2.2]; exact b1, upo b _ b2 (by have := (ks e he).2; omega), ?_⟩
      rcases b3 with b3 | b3
      · exact Or.inl b3
      · rcases up b _ b2 (by have := (ks e he).2; omega) with g | ⟨rfl, g⟩
        · exact Or.inr (g.2.trans b3)
        · by_cases z : e.2.2.2 = 0
          · exact Or.inl z
          · have hz : ∀ e ∈ shT, e.2.2.2 ≠ 0 → 12 ≤ e.2.2.1 := by decide
            have := hz e he z
            exact Or.inr ((upa _ _ b2 this (ks e he).2).2.2.1.trans b3)
    · exact h.2.2.2.1 e he o.2.symm
  refine ⟨shs, ?_, ?_, ?_, ?_, ?_, ?_⟩
  · intro q h1 h2 a o i hi
    rcases cs a q o (nf2 q h1 h2) with ⟨-, h3, h4⟩ | ⟨rfl, h⟩
    · obtain ⟨b, b1, b2⟩ := hI.2.1 q h1 h2 a h3 i (by rw [← h4.2.2.1]; exact hi)
      have hae : aeK q ≠ 99 := by unfold aeK; split <;> (try split) <;> (try split) <;> omega
      exact ⟨b, by rw [h4.2.2.2.2.2]; exact b1, upo b _ b2 hae⟩
    · have := h.2.1; have := o.2; omega
  · intro a o
    rcases cs a 7 o (nf 7 (by omega)) with ⟨-, h3, h4⟩ | ⟨rfl, h⟩
    · have key : ∀ e ∈ wyT, ∀ b, fR T a e.1 = some b → fR S a e.1 = some b ∧ hN T b = hN S b := by
        intro e he b hb
        rw [h4.2.2.2.2.2] at hb
        refine ⟨hb, ?_⟩
        have hm : ∀ e ∈ wyT, ∃ q, (7, e.1, q, 0) ∈ shT ∧ 12 ≤ q ∧ q < 20 := by
          intro e he
          have hm : ∀ e ∈ wyT, (7, e.1, 13, 0) ∈ shT ∨ (7, e.1, 14, 0) ∈ shT := by decide
          exact (hm e he).elim (fun z => ⟨13, z, by omega, by omega⟩) (fun z => ⟨14, z, by omega, by omega⟩)
        obtain ⟨q, hq, q1, q2⟩ := hm e he
        obtain ⟨c, c1, c2, -⟩ := hI.1 _ hq a h3
        obtain rfl : c = b := Option.some.inj (c1.symm.trans hb)
        exact (upa _ _ c2 q1 q2).2.2.1
      rcases hI.2.2.1 a h3 with g | g
      · exact Or.inl (fun e he b hb => (key e he b hb).2.trans (g e he b (key e he b hb).1))
      · exact Or.inr (fun e he b hb => (key e he b hb).2.trans (g e he b (key e he b hb).1))
    · exact h.2.2.2.2.1 o.2
  · intro e he a o
    rcases cs a e.1 o (nf _ (kn e he)) with ⟨-, h3, h4⟩ | ⟨rfl, h⟩
    · rw [h4.2.2.2.1]; exact hI.2.2.2.1 e he a h3
    · exact h.2.2.2.2.2.1 e he o.2.symm
  · intro a k j a' k' j' b o hk o' hp e e'
    rcases cs a' k' o' (nf _ (pr_ge _ hp).2) with ⟨n', s', d'⟩ | ⟨rfl, h'⟩
    · have e'2 : fR S a' j' = some b := by rw [← d'.2.2.2.2.2]; exact e'
      rcases cs a k o (nf _ hk) with ⟨-, s1, d1⟩ | ⟨rfl, h⟩
      · exact hI.2.2.2.2.1 a k j a' k' j' b s1 hk s' hp (by rw [← d1.2.2.2.2.2]; exact e) e'2
      · exact absurd e'2 ((h.2.2.2.2.2.2.1 j b e).2 a' k' j' s' hp n')
    · rcases cs a k o (nf _ hk) with ⟨n1, s1, d1⟩ | ⟨rfl, h⟩
      · have e2 : fR S a j = some b := by rw [← d1.2.2.2.2.2]; exact e
        exact absurd (hI.2.2.2.2.2.1 a k j b s1 hk e2) ((h'.2.2.2.2.2.2.2.1 j' b (by rw [o'.2]; exact hp) e').1)
      · exact ⟨rfl, (h'.2.2.2.2.2.2.2.1 j' b (by rw [o'.2]; exact hp) e').2 j e⟩
  · intro a k j b o hk e
    rcases cs a k o (nf _ hk) with ⟨-, s1, d1⟩ | ⟨rfl, h⟩
    · have e2 : fR S a j = some b := by rw [← d1.2.2.2.2.2]; exact e
      exact hl b (hI.2.2.2.2.2.1 a k j b s1 hk e2)
    · exact (h.2.2.2.2.2.2.1 j b e).1
  · intro a o
    rcases cs a 11 o (nf 11 (by omega)) with ⟨-, s1, d1⟩ | ⟨rfl, h⟩
    · have hm := hI.2.2.2.2.2.2 a s1
      have wne : ∀ w, ob S w 10 → SD S T w := by
        intro w ow
        refine ho w ow.1 (fun c => ?_) (by rw [ow.2]; omega)
        subst c
        rcases hv with ⟨-, h⟩ | h
        · have := ow.2.symm.trans (h ow.1); omega
        · rcases h.2.2.1 ow.1 with g | ⟨g, g2⟩
          · have := ow.2.symm.trans g; omega
          · have := ow.2; omega
      refine ml_same' (S := S) (fun w ow => ⟨(wne w ow).1, (wne w ow).2.1.trans ow.2⟩) ⟨by rw [d1.2.2.2.1], d1.2.2.2.2.2, fun w e => ?_, fun j b hp e => ?_⟩ hm
      · have ow := (hm.1 w e).1
        refine ⟨(wne w ow).2.2.2.1, (wne w ow).2.2.2.2.2, fun j b hp hb => ?_⟩
        obtain ⟨q, q1, q2, q3⟩ := pr_kind hI.1 ow hp hb
        exact (upa b q q1 (by omega) (by omega)).2.2.2.1
      · obtain ⟨q, q1, q2, q3⟩ := pr_kind hI.1 s1 hp e
        exact (upa b q q1 (by omega) (by omega)).2.2.2.2.1
    · exact h.2.2.2.2.2.2.2.2 o.2

/-- new arrays, put into an object's fields -/
def BX (S0 S : HS) (v : Nat) (F : List (Nat × Nat × Nat)) (f : Nat → Int32) : Prop := Gr S0 S ∧ (∀ a, a ∈ hL S0 → a ≠ v → fI S a = fI S0 a ∧ fJ S a = fJ S0 a ∧ fR S a = fR S0 a) ∧ (∀ a, a ∈ hL S → a ∈ hL S0 ∨ (12 ≤ hK S a ∧ hK S a < 16)) ∧ (∀ e ∈ F, ∃ b, fR S v e.1 = some b ∧ b ∉ hL S0 ∧ ob S b e.2.1 ∧ hN S b = e.2.2 ∧ ∀ z, fJ S b z = 0) ∧ (∀ j b, fR S v j = some b → (b ∉ hL S0 ∧ b ∈ hL S ∧ ∃ e ∈ F, e.1 = j) ∨ fR S0 v j = some b) ∧ (∀ j j' b, b ∉ hL S0 → fR S v j = some b → fR S v j' = some b → j = j') ∧ fI S v = f ∧ (∀ j b, fR S0 v j = some b → b ∈ hL S0) ∧ ∀ j, (∀ e ∈ F, e.1 ≠ j) → fR S v j = fR S0 v j
theorem bx_rf {S0 : HS} {v : Nat} (hc : ∀ j b, fR S0 v j = some b → b ∈ hL S0) : BX S0 S0 v [] (fI S0 v) := ⟨gr_rf S0, fun _ _ _ => ⟨rfl, rfl, rfl⟩, fun _ h => Or.inl h, fun e he => absurd he (by simp), fun _ _ h => Or.inr h, fun j _ b hb h _ => absurd (hc j b h) hb, rfl, hc, fun _ _ => rfl⟩
theorem bx_I {S0 S T : HS} {v j : Nat} {F : List (Nat × Nat × Nat)} {f : Nat → Int32} {x : Int32} (h : BX S0 S v F f) (hv : v ∈ hL S0) (E : T = sI S v j x) : BX S0 T v F (upd f j x) := by
  subst E
  obtain ⟨h1, h2, h3, h4, h5, h6, h7, h8, h9⟩ := h
  refine ⟨h1, fun a ha hn => ⟨(u2_row _ _ hn).trans (h2 a ha hn).1, (h2 a ha hn).2⟩, h3, h4, h5, h6, ?_, h8, h9⟩
  show u2 (fI S) v j x v = _
  rw [u2_upd, h7]
theorem bx_arr {S0 S T U : HS} {v j q N b : Nat} {F : List (Nat × Nat × Nat)} {f : Nat → Int32} (h : BX S0 S v F f) (hv : v ∈ hL S0) (hb : b ∉ hL S) (E1 : T = nW S b q N) (E2 : U = sR T v j (some b)) (hq : 12 ≤ q ∧ q < 16) (hj : ∀ e ∈ F, e.1 ≠ j) : BX S0 U v ((j, q, N) :: F) f := by
  subst E1
  subst E2
  obtain ⟨h1, h2, h3, h4, h5, h6, h7, h8, h9⟩ := h
  have hvS := (h1 v hv).1
  have hbv : v ≠ b := fun z => hb (z ▸ hvS)
  have hb0 : b ∉ hL S0 := fun z => hb (h1 b z).1
  have oR : ∀ a i, a ≠ b → ¬ (a = v ∧ i = j) → fR (sR (nW S b q N) v j (some b)) a i = fR S a i := fun a i ha hc => by
    show u2 (va_up (fR S) b (fun _ => none)) v j (some b) a i = _
    rw [u2_ne _ _ hc, va_up_ne _ _ ha]
  have vR : fR (sR (nW S b q N) v j (some b)) v j = some b := u2_self _ _ _ _
  refine ⟨gr_sR (gr_nW h1 q N hb) v j _, fun a ha hn => ?_, fun a ha => ?_, fun e he => ?_, fun i c hc => ?_, fun i i' c hc0 hc hc' => ?_, ?_, h8, fun i hi => ?_⟩
  · have hab : a ≠ b := fun z => hb0 (z ▸ ha)
    refine ⟨(va_up_ne _ _ hab).trans (h2 a ha hn).1, (va_up_ne _ _ hab).trans (h2 a ha hn).2.1, ?_⟩
    rw [← (h2 a ha hn).2.2]
    funext i
    exact oR a i hab (fun z => hn z.1)
  · rcases List.mem_append.mp ha with g | g
    · have hab : a ≠ b := fun z => hb (z ▸ g)
      rcases h3 a g with k | k
      · exact Or.inl k
      · exact Or.inr (by rw [show hK (sR (nW S b q N) v j (some b)) a = hK S a from va_up_ne _ _ hab]; exact k)
    · have : a = b := List.mem_singleton.mp g
      subst this
      exact Or.inr (by rw [show hK (sR (nW S a q N) v j (some a)) a = q from va_up_self _ _ _]; exact hq)
  · rcases List.mem_cons.mp he with rfl | he
    · refine ⟨b, vR, hb0, ⟨List.mem_append_right _ (List.mem_singleton.mpr rfl), va_up_self _ _ _⟩, va_up_self _ _ _, fun z => ?_⟩
      show va_up (fJ S) b (fun _ => 0) b z = 0
      rw [va_up_self]
    · obtain ⟨c, c1, c2, c3, c4, c5⟩ := h4 e he
      have hcb : c ≠ b := fun z => hb (z ▸ c3.1)
      refine ⟨c, (oR v e.1 hbv (fun z => hj e he z.2)).trans c1, c2, ⟨List.mem_append_left _ c3.1, (va_up_ne _ _ hcb).trans c3.2⟩, (va_up_ne _ _ hcb).trans c4, fun z => ?_⟩
      show va_up (fJ S) b (fun _ => 0) c z = 0
      rw [va_up_ne _ _ hcb]; exact c5 z
  · by_cases cz : i = j
    · subst cz
      obtain rfl : b = c := Option.some.inj (vR.symm.trans hc)
      exact Or.inl ⟨hb0, List.mem_append_right _ (List.mem_singleton.mpr rfl), _, List.mem_cons_self, rfl⟩
    · rw [oR v i hbv (fun z => cz z.2)] at hc
      rcases h5 i c hc with ⟨g1, g2, e, g3, g4⟩ | g
      · exact Or.inl ⟨g1, List.mem_append_left _ g2, e, List.mem_cons_of_mem _ g3, g4⟩
      · exact Or.inr g
  · by_cases cz : i = j
    · by_cases cz' : i' = j
      · rw [cz, cz']
      · subst cz
        obtain rfl : b = c := Option.some.inj (vR.symm.trans hc)
        rw [oR v i' hbv (fun z => cz' z.2)] at hc'
        rcases h5 i' b hc' with ⟨-, g, -⟩ | g
        · exact absurd g hb
        · by_cases k : b ∈ hL S0
          · exact absurd k hc0
          · exact absurd (h8 i' b g) k
    · rw [oR v i hbv (fun z => cz z.2)] at hc
      by_cases cz' : i' = j
      · subst cz'
        obtain rfl : b = c := Option.some.inj (vR.symm.trans hc')
        rcases h5 i b hc with ⟨-, g, -⟩ | g
        · exact absurd g hb
        · exact absurd (h8 i b g) hc0
      · rw [oR v i' hbv (fun z => cz' z.2)] at hc'
        exact h6 i i' c hc0 hc hc'
  · show va_up (fI S) b (fun _ => 0) v = f
    rw [va_up_ne _ _ hbv]; exact h7
  · rw [oR v i hbv (fun z => hi _ List.mem_cons_self z.2.symm)]
    exact h9 i (fun e he => hi e (List.mem_cons_of_mem _ he))
