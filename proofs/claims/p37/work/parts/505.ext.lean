/-! the pool grows: new arrays, one object made or made anew; kind 99: an object that is under construction -/
def FK (q : Nat) : Prop := (12 ≤ q ∧ q < 16) ∨ q = 99
def SD (S T : HS) (a : Nat) : Prop := a ∈ hL T ∧ hK T a = hK S a ∧ hN T a = hN S a ∧ fI T a = fI S a ∧ fJ T a = fJ S a ∧ fR T a = fR S a
def OKV (S T : HS) (v : Nat) : Prop := v ∈ hL T ∧ hK T v < 12 ∧ (v ∈ hL S → hK S v = 99 ∨ (hK S v = hK T v ∧ hK S v < 10)) ∧ (∀ e ∈ shT, e.1 = hK T v → ∃ b, fR T v e.2.1 = some b ∧ ob T b e.2.2.1 ∧ (e.2.2.2 = 0 ∨ hN T b = e.2.2.2)) ∧ (hK T v = 7 → (∀ e ∈ wyT, ∀ b, fR T v e.1 = some b → hN T b = 0) ∨ (∀ e ∈ wyT, ∀ b, fR T v e.1 = some b → hN T b = e.2)) ∧ (∀ e ∈ nuT, e.1 = hK T v → e.2.2.1 ≤ fI T v e.2.1 ∧ fI T v e.2.1 ≤ e.2.2.2) ∧ (∀ j b, fR T v j = some b → b ∈ hL T ∧ ∀ x k j', ob S x k → (k, j') ∈ prT → x ≠ v → fR S x j' ≠ some b) ∧ (∀ j b, (hK T v, j) ∈ prT → fR T v j = some b → b ∉ hL S ∧ ∀ j', fR T v j' = some b → j' = j) ∧ (hK T v = 11 → ML T v)
theorem ml_same' {S T : HS} {o : Nat} (hob : ∀ a, ob S a 10 → ob T a 10) (so : SO S T o) (h : ML S o) : ML T o := by
  obtain ⟨hi, hr, hw, hd⟩ := so
  obtain ⟨h1, h2, h3, h4⟩ := h
  refine ⟨fun w e => ?_, fun w e => ?_, ?_, fun j hj b e => ?_⟩
  · rw [hr] at e
    obtain ⟨a1, a2, a3⟩ := h1 w e
    refine ⟨hob _ a1, wg_same (hw w e) a2, ?_⟩
    rw [(hw w e).1]; exact a3
  · rw [hr] at e; exact hob _ (h2 w e)
  · rw [hi]
    rcases h3 with g | ⟨g, w, g2, g3⟩
    · exact Or.inl g
    · refine Or.inr ⟨g, w, by rw [hr]; exact g2, ?_⟩
      rw [(hw w g2).1]; exact g3
  · rw [hr] at e
    have hp : (11, j) ∈ prT := by rcases hj with rfl | rfl | rfl <;> decide
    have h5 := hd j b hp e
    intro z
    rw [h5]
    exact h4 j hj b e z
theorem iv_ext {S T : HS} {v : Nat} (hI : IV S) (ho : ∀ a, a ∈ hL S → a ≠ v → hK S a ≠ 99 → SD S T a) (hl : ∀ a, a ∈ hL S → a ∈ hL T) (hn : ∀ a, a ∈ hL T → (a ∈ hL S ∧ a ≠ v ∧ hK S a ≠ 99) ∨ a = v ∨ FK (hK T a)) (hv : (v ∈ hL T → FK (hK T v)) ∧ (v ∈ hL S → hK S v = 99) ∨ OKV S T v) : IV T := by
  have ks : ∀ e ∈ shT, e.1 < 12 ∧ e.2.2.1 < 20 := by decide
  have kn : ∀ e ∈ nuT, e.1 < 12 := by decide
  -- an object of T of kind below 12, or 16 to 19: of S, or v
  have cs : ∀ a k, ob T a k → ¬ FK k → (a ≠ v ∧ ob S a k ∧ SD S T a) ∨ (a = v ∧ OKV S T v) := by
    intro a k o hk
    rcases hn a o.1 with ⟨h1, h2, h3⟩ | h1 | h1
    · have sd := ho a h1 h2 h3
      exact Or.inl ⟨h2, ⟨h1, sd.2.1.symm.trans o.2⟩, sd⟩
    · subst h1
      rcases hv with ⟨h, -⟩ | h
      · exact absurd (o.2 ▸ h o.1) hk
      · exact Or.inr ⟨rfl, h⟩
    · exact absurd (o.2 ▸ h1) hk
  have nf : ∀ k, k < 12 → ¬ FK k := fun k hk h => by rcases h with h | h <;> omega
  have nf2 : ∀ k, 16 ≤ k → k < 20 → ¬ FK k := fun k hk hk2 h => by rcases h with h | h <;> omega
  -- what is of a kind in S is so in T
  have up : ∀ b q, ob S b q → q ≠ 99 → ob T b q ∧ hN T b = hN S b ∨ b = v ∧ (v ∈ hL T ∧ hK T v = q) := by
    intro b q o hq
    by_cases c : b = v
    · subst c
      rcases hv with ⟨-, h⟩ | h
      · exact absurd (o.2.symm.trans (h o.1)) hq
      · rcases h.2.2.1 o.1 with g | ⟨g, -⟩
        · exact absurd (o.2.symm.trans g) hq
        · exact Or.inr ⟨rfl, h.1, g.symm.trans o.2⟩
    · have sd := ho b o.1 c (by rw [o.2]; exact hq)
      exact Or.inl ⟨⟨sd.1, sd.2.1.trans o.2⟩, sd.2.2.1⟩
  have upo : ∀ b q, ob S b q → q ≠ 99 → ob T b q := by
    intro b q o hq
    rcases up b q o hq with h | ⟨rfl, h⟩
    · exact h.1
    · exact ⟨h.1, h.2⟩
  have upa : ∀ b q, ob S b q → 12 ≤ q → q < 20 → SD S T b := by
    intro b q o h1 h2
    refine ho b o.1 (fun c => ?_) (by rw [o.2]; omega)
    subst c
    rcases hv with ⟨-, h⟩ | h
    · have := o.2.symm.trans (h o.1); omega
    · rcases h.2.2.1 o.1 with g | ⟨g, g2⟩
      · have := o.2.symm.trans g; omega
      · have := o.2; omega
  have shs : SHF T := by
    intro e he a o
    rcases cs a e.1 o (nf _ (ks e he).1) with ⟨h1, h2, h3⟩ | ⟨rfl, h⟩
    · obtain ⟨b, b1, b2, b3⟩ := hI.1 e he a h2
      refine ⟨b, by rw [h3.2.2.2.2.2]; exact b1, upo b _ b2 (by have := (ks e he).2; omega), ?_⟩
      rcases b3 with b3 | b3
      · exact Or.inl b3
      · rcases up b _ b2 (by have := (ks e he).2; omega) with g | ⟨rfl, g⟩
        · exact Or.inr (g.2.trans b3)
        · by_cases z : e.2.2.2 = 0
          · exact Or.inl z
          · have hz : ∀ e ∈ shT, e.2.2.2 ≠ 0 → 12 ≤ e.2.2.1 := by decide
            have := hz e he z
            exact Or.inr ((upa _ _ b2 this (ks e he).2).2.2.1.trans b3)
    · exact h.2.2.2.1 e he o.2.symm
  refine ⟨shs, ?_, ?_, ?_, ?_, ?_, ?_⟩
  · intro q h1 h2 a o i hi
    rcases cs a q o (nf2 q h1 h2) with ⟨-, h3, h4⟩ | ⟨rfl, h⟩
    · obtain ⟨b, b1, b2⟩ := hI.2.1 q h1 h2 a h3 i (by rw [← h4.2.2.1]; exact hi)
      have hae : aeK q ≠ 99 := by unfold aeK; split <;> (try split) <;> (try split) <;> omega
      exact ⟨b, by rw [h4.2.2.2.2.2]; exact b1, upo b _ b2 hae⟩
    · have := h.2.1; have := o.2; omega
  · intro a o
    rcases cs a 7 o (nf 7 (by omega)) with ⟨-, h3, h4⟩ | ⟨rfl, h⟩
    · have key : ∀ e ∈ wyT, ∀ b, fR T a e.1 = some b → fR S a e.1 = some b ∧ hN T b = hN S b := by
        intro e he b hb
        rw [h4.2.2.2.2.2] at hb
        refine ⟨hb, ?_⟩
        have hm : ∀ e ∈ wyT, ∃ q, (7, e.1, q, 0) ∈ shT ∧ 12 ≤ q ∧ q < 20 := by
          intro e he
          have hm : ∀ e ∈ wyT, (7, e.1, 13, 0) ∈ shT ∨ (7, e.1, 14, 0) ∈ shT := by decide
          exact (hm e he).elim (fun z => ⟨13, z, by omega, by omega⟩) (fun z => ⟨14, z, by omega, by omega⟩)
        obtain ⟨q, hq, q1, q2⟩ := hm e he
        obtain ⟨c, c1, c2, -⟩ := hI.1 _ hq a h3
        obtain rfl : c = b := Option.some.inj (c1.symm.trans hb)
        exact (upa _ _ c2 q1 q2).2.2.1
      rcases hI.2.2.1 a h3 with g | g
      · exact Or.inl (fun e he b hb => (key e he b hb).2.trans (g e he b (key e he b hb).1))
      · exact Or.inr (fun e he b hb => (key e he b hb).2.trans (g e he b (key e he b hb).1))
    · exact h.2.2.2.2.1 o.2
  · intro e he a o
    rcases cs a e.1 o (nf _ (kn e he)) with ⟨-, h3, h4⟩ | ⟨rfl, h⟩
    · rw [h4.2.2.2.1]; exact hI.2.2.2.1 e he a h3
    · exact h.2.2.2.2.2.1 e he o.2.symm
  · intro a k j a' k' j' b o hk o' hp e e'
    rcases cs a' k' o' (nf _ (pr_ge _ hp).2) with ⟨n', s', d'⟩ | ⟨rfl, h'⟩
    · have e'2 : fR S a' j' = some b := by rw [← d'.2.2.2.2.2]; exact e'
      rcases cs a k o (nf _ hk) with ⟨-, s1, d1⟩ | ⟨rfl, h⟩
      · exact hI.2.2.2.2.1 a k j a' k' j' b s1 hk s' hp (by rw [← d1.2.2.2.2.2]; exact e) e'2
      · exact absurd e'2 ((h.2.2.2.2.2.2.1 j b e).2 a' k' j' s' hp n')
    · rcases cs a k o (nf _ hk) with ⟨n1, s1, d1⟩ | ⟨rfl, h⟩
      · have e2 : fR S a j = some b := by rw [← d1.2.2.2.2.2]; exact e
        exact absurd (hI.2.2.2.2.2.1 a k j b s1 hk e2) ((h'.2.2.2.2.2.2.2.1 j' b (by rw [o'.2]; exact hp) e').1)
      · exact ⟨rfl, (h'.2.2.2.2.2.2.2.1 j' b (by rw [o'.2]; exact hp) e').2 j e⟩
  · intro a k j b o hk e
    rcases cs a k o (nf _ hk) with ⟨-, s1, d1⟩ | ⟨rfl, h⟩
    · have e2 : fR S a j = some b := by rw [← d1.2.2.2.2.2]; exact e
      exact hl b (hI.2.2.2.2.2.1 a k j b s1 hk e2)
    · exact (h.2.2.2.2.2.2.1 j b e).1
  · intro a o
    rcases cs a 11 o (nf 11 (by omega)) with ⟨-, s1, d1⟩ | ⟨rfl, h⟩
    · have hm := hI.2.2.2.2.2.2 a s1
      have wne : ∀ w, ob S w 10 → SD S T w := by
        intro w ow
        refine ho w ow.1 (fun c => ?_) (by rw [ow.2]; omega)
        subst c
        rcases hv with ⟨-, h⟩ | h
        · have := ow.2.symm.trans (h ow.1); omega
        · rcases h.2.2.1 ow.1 with g | ⟨g, g2⟩
          · have := ow.2.symm.trans g; omega
          · have := ow.2; omega
      refine ml_same' (S := S) (fun w ow => ⟨(wne w ow).1, (wne w ow).2.1.trans ow.2⟩) ⟨by rw [d1.2.2.2.1], d1.2.2.2.2.2, fun w e => ?_, fun j b hp e => ?_⟩ hm
      · have ow := (hm.1 w e).1
        refine ⟨(wne w ow).2.2.2.1, (wne w ow).2.2.2.2.2, fun j b hp hb => ?_⟩
        obtain ⟨q, q1, q2, q3⟩ := pr_kind hI.1 ow hp hb
        exact (upa b q q1 (by omega) (by omega)).2.2.2.1
      · obtain ⟨q, q1, q2, q3⟩ := pr_kind hI.1 s1 hp e
        exact (upa b q q1 (by omega) (by omega)).2.2.2.2.1
    · exact h.2.2.2.2.2.2.2.2 o.2

/-- new arrays, put into an object's fields -/
def BX (S0 S : HS) (v : Nat) (F : List (Nat × Nat × Nat)) (f : Nat → Int32) : Prop := Gr S0 S ∧ (∀ a, a ∈ hL S0 → a ≠ v → fI S a = fI S0 a ∧ fJ S a = fJ S0 a ∧ fR S a = fR S0 a) ∧ (∀ a, a ∈ hL S → a ∈ hL S0 ∨ (12 ≤ hK S a ∧ hK S a < 16)) ∧ (∀ e ∈ F, ∃ b, fR S v e.1 = some b ∧ b ∉ hL S0 ∧ ob S b e.2.1 ∧ hN S b = e.2.2 ∧ ∀ z, fJ S b z = 0) ∧ (∀ j b, fR S v j = some b → (b ∉ hL S0 ∧ b ∈ hL S ∧ ∃ e ∈ F, e.1 = j) ∨ fR S0 v j = some b) ∧ (∀ j j' b, b ∉ hL S0 → fR S v j = some b → fR S v j' = some b → j = j') ∧ fI S v = f ∧ (∀ j b, fR S0 v j = some b → b ∈ hL S0) ∧ ∀ j, (∀ e ∈ F, e.1 ≠ j) → fR S v j = fR S0 v j
theorem bx_rf {S0 : HS} {v : Nat} (hc : ∀ j b, fR S0 v j = some b → b ∈ hL S0) : BX S0 S0 v [] (fI S0 v) := ⟨gr_rf S0, fun _ _ _ => ⟨rfl, rfl, rfl⟩, fun _ h => Or.inl h, fun e he => absurd he (by simp), fun _ _ h => Or.inr h, fun j _ b hb h _ => absurd (hc j b h) hb, rfl, hc, fun _ _ => rfl⟩
theorem bx_I {S0 S T : HS} {v j : Nat} {F : List (Nat × Nat × Nat)} {f : Nat → Int32} {x : Int32} (h : BX S0 S v F f) (hv : v ∈ hL S0) (E : T = sI S v j x) : BX S0 T v F (upd f j x) := by
  subst E
  obtain ⟨h1, h2, h3, h4, h5, h6, h7, h8, h9⟩ := h
  refine ⟨h1, fun a ha hn => ⟨(u2_row _ _ hn).trans (h2 a ha hn).1, (h2 a ha hn).2⟩, h3, h4, h5, h6, ?_, h8, h9⟩
  show u2 (fI S) v j x v = _
  rw [u2_upd, h7]
theorem bx_arr {S0 S T U : HS} {v j q N b : Nat} {F : List (Nat × Nat × Nat)} {f : Nat → Int32} (h : BX S0 S v F f) (hv : v ∈ hL S0) (hb : b ∉ hL S) (E1 : T = nW S b q N) (E2 : U = sR T v j (some b)) (hq : 12 ≤ q ∧ q < 16) (hj : ∀ e ∈ F, e.1 ≠ j) : BX S0 U v ((j, q, N) :: F) f := by
  subst E1
  subst E2
  obtain ⟨h1, h2, h3, h4, h5, h6, h7, h8, h9⟩ := h
  have hvS := (h1 v hv).1
  have hbv : v ≠ b := fun z => hb (z ▸ hvS)
  have hb0 : b ∉ hL S0 := fun z => hb (h1 b z).1
  have oR : ∀ a i, a ≠ b → ¬ (a = v ∧ i = j) → fR (sR (nW S b q N) v j (some b)) a i = fR S a i := fun a i ha hc => by
    show u2 (va_up (fR S) b (fun _ => none)) v j (some b) a i = _
    rw [u2_ne _ _ hc, va_up_ne _ _ ha]
  have vR : fR (sR (nW S b q N) v j (some b)) v j = some b := u2_self _ _ _ _
  refine ⟨gr_sR (gr_nW h1 q N hb) v j _, fun a ha hn => ?_, fun a ha => ?_, fun e he => ?_, fun i c hc => ?_, fun i i' c hc0 hc hc' => ?_, ?_, h8, fun i hi => ?_⟩
  · have hab : a ≠ b := fun z => hb0 (z ▸ ha)
    refine ⟨(va_up_ne _ _ hab).trans (h2 a ha hn).1, (va_up_ne _ _ hab).trans (h2 a ha hn).2.1, ?_⟩
    rw [← (h2 a ha hn).2.2]
    funext i
    exact oR a i hab (fun z => hn z.1)
  · rcases List.mem_append.mp ha with g | g
    · have hab : a ≠ b := fun z => hb (z ▸ g)
      rcases h3 a g with k | k
      · exact Or.inl k
      · exact Or.inr (by rw [show hK (sR (nW S b q N) v j (some b)) a = hK S a from va_up_ne _ _ hab]; exact k)
    · have : a = b := List.mem_singleton.mp g
      subst this
      exact Or.inr (by rw [show hK (sR (nW S a q N) v j (some a)) a = q from va_up_self _ _ _]; exact hq)
  · rcases List.mem_cons.mp he with rfl | he
    · refine ⟨b, vR, hb0, ⟨List.mem_append_right _ (List.mem_singleton.mpr rfl), va_up_self _ _ _⟩, va_up_self _ _ _, fun z => ?_⟩
      show va_up (fJ S) b (fun _ => 0) b z = 0
      rw [va_up_self]
    · obtain ⟨c, c1, c2, c3, c4, c5⟩ := h4 e he
      have hcb : c ≠ b := fun z => hb (z ▸ c3.1)
      refine ⟨c, (oR v e.1 hbv (fun z => hj e he z.2)).trans c1, c2, ⟨List.mem_append_left _ c3.1, (va_up_ne _ _ hcb).trans c3.2⟩, (va_up_ne _ _ hcb).trans c4, fun z => ?_⟩
      show va_up (fJ S) b (fun _ => 0) c z = 0
      rw [va_up_ne _ _ hcb]; exact c5 z
  · by_cases cz : i = j
    · subst cz
      obtain rfl : b = c := Option.some.inj (vR.symm.trans hc)
      exact Or.inl ⟨hb0, List.mem_append_right _ (List.mem_singleton.mpr rfl), _, List.mem_cons_self, rfl⟩
    · rw [oR v i hbv (fun z => cz z.2)] at hc
      rcases h5 i c hc with ⟨g1, g2, e, g3, g4⟩ | g
      · exact Or.inl ⟨g1, List.mem_append_left _ g2, e, List.mem_cons_of_mem _ g3, g4⟩
      · exact Or.inr g
  · by_cases cz : i = j
    · by_cases cz' : i' = j
      · rw [cz, cz']
      · subst cz
        obtain rfl : b = c := Option.some.inj (vR.symm.trans hc)
        rw [oR v i' hbv (fun z => cz' z.2)] at hc'
        rcases h5 i' b hc' with ⟨-, g, -⟩ | g
        · exact absurd g hb
        · by_cases k : b ∈ hL S0
          · exact absurd k hc0
          · exact absurd (h8 i' b g) k
    · rw [oR v i hbv (fun z => cz z.2)] at hc
      by_cases cz' : i' = j
      · subst cz'
        obtain rfl : b = c := Option.some.inj (vR.symm.trans hc')
        rcases h5 i b hc with ⟨-, g, -⟩ | g
        · exact absurd g hb
        · exact absurd (h8 i b g) hc0
      · rw [oR v i' hbv (fun z => cz' z.2)] at hc'
        exact h6 i i' c hc0 hc hc'
  · show va_up (fI S) b (fun _ => 0) v = f
    rw [va_up_ne _ _ hbv]; exact h7
  · rw [oR v i hbv (fun z => hi _ List.mem_cons_self z.2.symm)]
    exact h9 i (fun e he => hi e (List.mem_cons_of_mem _ he))
def rowsF : List (Nat × Nat × Nat) := [(8, 13, 224), (7, 14, 224), (6, 13, 224), (5, 13, 224), (4, 13, 224), (2, 13, 3208), (1, 14, 3208), (0, 13, 401)]
def wldF : List (Nat × Nat × Nat) := [(30, 13, 12), (29, 13, 12), (28, 14, 12), (27, 13, 20), (26, 13, 4), (25, 13, 4), (24, 13, 4), (23, 13, 4), (22, 13, 4), (21, 13, 4), (20, 13, 4), (19, 13, 4), (18, 15, 8), (17, 13, 12), (16, 13, 12), (15, 13, 12), (14, 13, 12), (13, 13, 12), (12, 13, 8), (11, 13, 6), (10, 13, 6), (9, 13, 6), (8, 13, 6), (7, 13, 6)]
def refF : List (Nat × Nat × Nat) := [(23, 14, 21), (22, 14, 112), (21, 14, 7), (18, 13, 3208), (17, 13, 3208), (16, 14, 3208), (5, 12, 900)]
theorem bx_get {S0 S : HS} {v : Nat} {F : List (Nat × Nat × Nat)} {f : Nat → Int32} (h : BX S0 S v F f) {e : Nat × Nat × Nat} (he : e ∈ F) {b : Nat} (hb : fR S v e.1 = some b) : ob S b e.2.1 ∧ hN S b = e.2.2 ∧ b ∉ hL S0 ∧ ∀ z, fJ S b z = 0 := by
  obtain ⟨c, c1, c2, c3, c4, c5⟩ := h.2.2.2.1 e he
  obtain rfl : c = b := Option.some.inj (c1.symm.trans hb)
  exact ⟨c3, c4, c2, c5⟩
theorem bx_sh {S0 S : HS} {v k : Nat} {F : List (Nat × Nat × Nat)} {f : Nat → Int32} (h : BX S0 S v F f) (hF : ∀ e ∈ shT, e.1 = k → ∃ g ∈ F, g.1 = e.2.1 ∧ g.2.1 = e.2.2.1 ∧ (e.2.2.2 = 0 ∨ g.2.2 = e.2.2.2)) : ∀ e ∈ shT, e.1 = k → ∃ b, fR S v e.2.1 = some b ∧ ob S b e.2.2.1 ∧ (e.2.2.2 = 0 ∨ hN S b = e.2.2.2) := by
  intro e he hk
  obtain ⟨g, hg, g1, g2, g3⟩ := hF e he hk
  obtain ⟨c, c1, c2, c3, c4, c5⟩ := h.2.2.2.1 g hg
  refine ⟨c, by rw [← g1]; exact c1, by rw [← g2]; exact c3, ?_⟩
  rcases g3 with g3 | g3
  · exact Or.inl g3
  · exact Or.inr (c4.trans g3)
theorem bx_iv7 {S T : HS} {v : Nat} (hI : IV S) (o : ob S v 7) (h : BX S T v rowsF (fI S v)) : IV T ∧ WM T v ∧ Gr S T ∧ FRI [] [(7, 0), (7, 1), (7, 2), (7, 4), (7, 5), (7, 6), (7, 7), (7, 8)] S T := by
  have hh := h
  obtain ⟨h1, h2, h3, h4, h5, h6, h7, h8, h9⟩ := h
  have hv7 : hK T v = 7 := (h1 v o.1).2.1.trans o.2
  have wm : WM T v := fun e he b hb => by
    have hm : ∀ e ∈ wyT, ∃ f ∈ rowsF, f.1 = e.1 ∧ f.2.2 = e.2 := by decide
    obtain ⟨f, hf, f1, f2⟩ := hm e he
    rw [← f2]; exact (bx_get hh hf (by rw [f1]; exact hb)).2.1
  refine ⟨iv_ext (v := v) hI (fun a ha hn _ => ⟨(h1 a ha).1, (h1 a ha).2.1, (h1 a ha).2.2, (h2 a ha hn).1, (h2 a ha hn).2.1, (h2 a ha hn).2.2⟩) (fun a ha => (h1 a ha).1) (fun a ha => ?_) (Or.inr ⟨(h1 v o.1).1, by rw [hv7]; omega, fun _ => Or.inr ⟨o.2.trans hv7.symm, by rw [o.2]; omega⟩, ?_, fun _ => Or.inr wm, ?_, fun j b hb => ?_, fun j b hp => ?_, fun z => ?_⟩), wm, h1, ?_⟩
  · rcases h3 a ha with g | g
    · by_cases c : a = v
      · exact Or.inr (Or.inl c)
      · by_cases c2 : hK S a = 99
        · exact Or.inr (Or.inr (Or.inr ((h1 a g).2.1.trans c2)))
        · exact Or.inl ⟨g, c, c2⟩
    · exact Or.inr (Or.inr (Or.inl g))
  · rw [hv7]
    exact bx_sh hh (by decide)
  · intro e he hk
    rw [h7]
    exact hI.2.2.2.1 e he v (by rw [hk, hv7]; exact o)
  · rcases h5 j b hb with ⟨g1, g2, -⟩ | g
    · refine ⟨g2, fun x k j' ox hp hx e => ?_⟩
      exact g1 (hI.2.2.2.2.2.1 x k j' b ox (pr_ge _ hp).2 e)
    · refine ⟨(h1 b (h8 j b g)).1, fun x k j' ox hp hx e => ?_⟩
      exact hx (hI.2.2.2.2.1 v 7 j x k j' b o (by omega) ox hp g e).1.symm
  · rw [hv7] at hp
    exact absurd hp (np10 (by omega))
  · rw [hv7] at z; omega
  · refine ⟨fun k j hk hj a oa => ?_, fun k j hk hj a oa => ?_⟩
    · by_cases c : a = v
      · rw [c, h7]
      · rw [(h2 a oa.1 c).1]
    · by_cases c : a = v
      · subst c
        have hk7 := ob_inj oa o
        subst hk7
        refine h9 j (fun f hf hfj => ?_)
        have : ∀ f ∈ rowsF, (7, f.1) ∈ [(7, 0), (7, 1), (7, 2), (7, 4), (7, 5), (7, 6), (7, 7), (7, 8)] := by decide
        exact hj (hfj ▸ this f hf)
      · rw [(h2 a oa.1 c).2.2]

theorem zero_new {S : HS} {v k : Nat} : (∀ j, fR (nW S v k 0) v j = none) ∧ (fI (nW S v k 0) v = fun _ => 0) := ⟨fun j => by
  show va_up (fR S) v (fun _ => none) v j = none
  rw [va_up_self], va_up_self _ _ _⟩
/-- an object of the reference is made: what it was before, and its arrays -/
theorem bx_iv {S T : HS} {v k : Nat} {F : List (Nat × Nat × Nat)} {f : Nat → Int32} (hI : IV S) (hv : v ∉ hL S) (hk : k < 12) (h7n : k ≠ 7) (h : BX (nW S v k 0) T v F f) (hF : ∀ e ∈ shT, e.1 = k → ∃ g ∈ F, g.1 = e.2.1 ∧ g.2.1 = e.2.2.1 ∧ (e.2.2.2 = 0 ∨ g.2.2 = e.2.2.2)) (hf : ∀ e ∈ nuT, e.1 = k → e.2.2.1 ≤ f e.2.1 ∧ f e.2.1 ≤ e.2.2.2) (hm : k = 11 → ML T v) : IV T ∧ Gr S T ∧ FRI [] [] S T ∧ ob T v k ∧ (∀ a, a ∈ hL S → fR T a = fR S a) ∧ (∀ a k', ob T a k' → k' < 12 → a = v ∨ a ∈ hL S) := by
  have hh := h
  obtain ⟨h1, h2, h3, h4, h5, h6, h7, h8, h9⟩ := h
  have hvb : v ∈ hL (nW S v k 0) := List.mem_append_right _ (List.mem_singleton.mpr rfl)
  have hin : ∀ a, a ∈ hL S → a ∈ hL (nW S v k 0) := fun a ha => List.mem_append_left _ ha
  have hne : ∀ a, a ∈ hL S → a ≠ v := fun a ha z => hv (z ▸ ha)
  have hvk : hK T v = k := (h1 v hvb).2.1.trans (va_up_self _ _ _)
  have sd : ∀ a, a ∈ hL S → SD S T a := fun a ha => by
    have n := hne a ha
    have g := h1 a (hin a ha)
    have g2 := h2 a (hin a ha) n
    exact ⟨g.1, g.2.1.trans (va_up_ne _ _ n), g.2.2.trans (va_up_ne _ _ n), g2.1.trans (va_up_ne _ _ n), g2.2.1.trans (va_up_ne _ _ n), g2.2.2.trans (va_up_ne _ _ n)⟩
  have hc : ∀ a, a ∈ hL T → a ∈ hL S ∨ a = v ∨ (12 ≤ hK T a ∧ hK T a < 16) := fun a ha => by
    rcases h3 a ha with g | g
    · rcases List.mem_append.mp g with g | g
      · exact Or.inl g
      · exact Or.inr (Or.inl (List.mem_singleton.mp g))
    · exact Or.inr (Or.inr g)
  have z := (zero_new (S := S) (v := v) (k := k)).1
  refine ⟨iv_ext (v := v) hI (fun a ha _ _ => sd a ha) (fun a ha => (sd a ha).1) (fun a ha => ?_) (Or.inr ⟨(h1 v hvb).1, by rw [hvk]; exact hk, fun t => absurd t hv, ?_, fun t => absurd (hvk.symm.trans t) h7n, ?_, fun j b hb => ?_, fun j b hp hb => ?_, fun t => hm (hvk.symm.trans t)⟩), fun a ha => ⟨(sd a ha).1, (sd a ha).2.1, (sd a ha).2.2.1⟩, ⟨fun _ j _ _ a oa => by rw [(sd a oa.1).2.2.2.1], fun _ j _ _ a oa => by rw [(sd a oa.1).2.2.2.2.2]⟩, ⟨(h1 v hvb).1, hvk⟩, fun a ha => (sd a ha).2.2.2.2.2, fun a k' oa hk' => ?_⟩
  · rcases hc a ha with g | g | g
    · by_cases c2 : hK S a = 99
      · exact Or.inr (Or.inr (Or.inr ((sd a g).2.1.trans c2)))
      · exact Or.inl ⟨g, hne a g, c2⟩
    · exact Or.inr (Or.inl g)
    · exact Or.inr (Or.inr (Or.inl g))
  · rw [hvk]
    exact bx_sh hh hF
  · intro e he hk2
    rw [h7]
    exact hf e he (hk2.trans hvk)
  · rcases h5 j b hb with ⟨g1, g2, -⟩ | g
    · refine ⟨g2, fun x q j' ox hp hx e => ?_⟩
      exact g1 (hin b (hI.2.2.2.2.2.1 x q j' b ox (pr_ge _ hp).2 e))
    · rw [z j] at g
      exact absurd g (by simp)
  · rcases h5 j b hb with ⟨g1, g2, -⟩ | g
    · exact ⟨fun t => g1 (hin b t), fun j' hb' => h6 j' j b g1 hb' hb⟩
    · rw [z j] at g
      exact absurd g (by simp)
  · rcases hc a oa.1 with g | g | g
    · exact Or.inr g
    · exact Or.inl g
    · have := oa.2; omega
set_option maxRecDepth 20000 in
theorem m_X7_makeRows {v0 : Nat} {Q : HS → Prop} {S : HS} (hI : IV S) (o_v0 : ob S v0 7) (hq : ∀ (T : HS), IV T → Gr S T → FRI [] [(7, 0), (7, 1), (7, 2), (7, 4), (7, 5), (7, 6), (7, 7), (7, 8)] S T → (WM T v0) → Q T) : P_X7_makeRows v0 Q S := by
  show P_X7_makeRows_0 Q v0 S
  unfold P_X7_makeRows_0
  have b0 := bx_rf (S0 := S) (v := v0) (fun j b e => hI.2.2.2.2.2.1 v0 7 j b o_v0 (by omega) e)
  intro a0 q0 T0 e0
  refine ⟨gr_ob (gr_of_new e0 q0) o_v0, ?_⟩
  intro U0 g0
  have b1 := bx_arr b0 o_v0.1 q0 e0 g0 (by decide) (by decide)
  intro a1 q1 T1 e1
  intro U1 g1
  have b2 := bx_arr b1 o_v0.1 q1 e1 g1 (by decide) (by decide)
  intro a2 q2 T2 e2
  intro U2 g2
  have b3 := bx_arr b2 o_v0.1 q2 e2 g2 (by decide) (by decide)
  intro a3 q3 T3 e3
  intro U3 g3
  have b4 := bx_arr b3 o_v0.1 q3 e3 g3 (by decide) (by decide)
  intro a4 q4 T4 e4
  intro U4 g4
  have b5 := bx_arr b4 o_v0.1 q4 e4 g4 (by decide) (by decide)
  intro a5 q5 T5 e5
  intro U5 g5
  have b6 := bx_arr b5 o_v0.1 q5 e5 g5 (by decide) (by decide)
  intro a6 q6 T6 e6
  intro U6 g6
  have b7 := bx_arr b6 o_v0.1 q6 e6 g6 (by decide) (by decide)
  intro a7 q7 T7 e7
  intro U7 g7
  have b8 := bx_arr b7 o_v0.1 q7 e7 g7 (by decide) (by decide)
  obtain ⟨r1, r2, r3, r4⟩ := bx_iv7 hI o_v0 b8
  exact hq _ r1 r3 r4 r2
set_option maxRecDepth 20000 in
theorem m_X10_init {v0 : Nat} {Q : HS → Prop} {S0 S : HS} (hI : IV S0) (hf : v0 ∉ hL S0) (E : S = nW S0 v0 10 0) (hq : ∀ T, IV T → Gr S0 T → Gr S T → FRI [] [] S0 T → ob T v0 10 → (∀ j, fI T v0 j = 0) → WG T v0 → NW T v0 → Q T) : P_X10_init v0 Q S := by
  subst E
  show P_X10_init_0 Q v0 _
  unfold P_X10_init_0
  have hv : v0 ∈ hL (nW S0 v0 10 0) := List.mem_append_right _ (List.mem_singleton.mpr rfl)
  have b0 := bx_rf (S0 := nW S0 v0 10 0) (v := v0) (fun j b e => by rw [zero_new.1 j] at e; exact absurd e (by simp))
  have o_v0 : ob (nW S0 v0 10 0) v0 10 := ob_of_new rfl
  intro a0 q0 T0 e0
  refine ⟨gr_ob (gr_of_new e0 q0) o_v0, ?_⟩
  intro U0 g0
  have b1 := bx_arr b0 hv q0 e0 g0 (by decide) (by decide)
  intro a1 q1 T1 e1
  intro U1 g1
  have b2 := bx_arr b1 hv q1 e1 g1 (by decide) (by decide)
  intro a2 q2 T2 e2
  intro U2 g2
  have b3 := bx_arr b2 hv q2 e2 g2 (by decide) (by decide)
  intro a3 q3 T3 e3
  intro U3 g3
  have b4 := bx_arr b3 hv q3 e3 g3 (by decide) (by decide)
  intro a4 q4 T4 e4
  intro U4 g4
  have b5 := bx_arr b4 hv q4 e4 g4 (by decide) (by decide)
  intro a5 q5 T5 e5
  intro U5 g5
  have b6 := bx_arr b5 hv q5 e5 g5 (by decide) (by decide)
  intro a6 q6 T6 e6
  intro U6 g6
  have b7 := bx_arr b6 hv q6 e6 g6 (by decide) (by decide)
  intro a7 q7 T7 e7
  intro U7 g7
  have b8 := bx_arr b7 hv q7 e7 g7 (by decide) (by decide)
  intro a8 q8 T8 e8
  intro U8 g8
  have b9 := bx_arr b8 hv q8 e8 g8 (by decide) (by decide)
  intro a9 q9 T9 e9
  intro U9 g9
  have b10 := bx_arr b9 hv q9 e9 g9 (by decide) (by decide)
  intro a10 q10 T10 e10
  intro U10 g10
  have b11 := bx_arr b10 hv q10 e10 g10 (by decide) (by decide)
  intro a11 q11 T11 e11
  intro U11 g11
  have b12 := bx_arr b11 hv q11 e11 g11 (by decide) (by decide)
  intro a12 q12 T12 e12
  intro U12 g12
  have b13 := bx_arr b12 hv q12 e12 g12 (by decide) (by decide)
  intro a13 q13 T13 e13
  intro U13 g13
  have b14 := bx_arr b13 hv q13 e13 g13 (by decide) (by decide)
  intro a14 q14 T14 e14
  intro U14 g14
  have b15 := bx_arr b14 hv q14 e14 g14 (by decide) (by decide)
  intro a15 q15 T15 e15
  intro U15 g15
  have b16 := bx_arr b15 hv q15 e15 g15 (by decide) (by decide)
  intro a16 q16 T16 e16
  intro U16 g16
  have b17 := bx_arr b16 hv q16 e16 g16 (by decide) (by decide)
  intro a17 q17 T17 e17
  intro U17 g17
  have b18 := bx_arr b17 hv q17 e17 g17 (by decide) (by decide)
  intro a18 q18 T18 e18
  intro U18 g18
  have b19 := bx_arr b18 hv q18 e18 g18 (by decide) (by decide)
  intro a19 q19 T19 e19
  intro U19 g19
  have b20 := bx_arr b19 hv q19 e19 g19 (by decide) (by decide)
  intro a20 q20 T20 e20
  intro U20 g20
  have b21 := bx_arr b20 hv q20 e20 g20 (by decide) (by decide)
  intro a21 q21 T21 e21
  intro U21 g21
  have b22 := bx_arr b21 hv q21 e21 g21 (by decide) (by decide)
  intro a22 q22 T22 e22
  intro U22 g22
  have b23 := bx_arr b22 hv q22 e22 g22 (by decide) (by decide)
  intro a23 q23 T23 e23
  intro U23 g23
  have b24 := bx_arr b23 hv q23 e23 g23 (by decide) (by decide)
  have e0 : fI (nW S0 v0 10 0) v0 = fun _ => 0 := zero_new.2
  rw [e0] at b24
  obtain ⟨r1, r2, r3, r4, r5, r6⟩ := bx_iv hI hf (by omega) (by omega) b24 (F := wldF) (by decide) (by decide) (fun z => absurd z (by omega))
  have z0 : ∀ j, fI U23 v0 j = 0 := fun j => by rw [b24.2.2.2.2.2.2.1]
  refine hq _ r1 r2 b24.1 r3 r4 z0 ⟨fun e he x h0 hx b hb => ?_, fun x h0 hx b c hb hc => ?_⟩ (fun y oy e => ?_)
  · rw [z0] at hx
    exact absurd (Int32.lt_iff_toInt_lt.mp hx) (by have := Int32.le_iff_toInt_le.mp h0; omega)
  · rw [z0, z0] at hx
    have hz : (0 : Int32) + 0 = 0 := by decide
    rw [hz] at hx
    exact absurd (Int32.lt_iff_toInt_lt.mp hx) (by have := Int32.le_iff_toInt_le.mp h0; omega)
  · rcases r6 y 11 oy (by omega) with g | g
    · have := ob_inj (g ▸ oy) r4; omega
    · rw [r5 y g] at e
      have oy' : ob S0 y 11 := ⟨g, by rw [← (r2 y g).2.1]; exact oy.2⟩
      exact hf ((ml_ob hI oy' e).1)
set_option maxRecDepth 20000 in
theorem m_X11_init {v0 : Nat} {Q : HS → Prop} {S0 S : HS} (hI : IV S0) (hf : v0 ∉ hL S0) (E : S = nW S0 v0 11 0) (hq : ∀ T, IV T → Gr S0 T → Gr S T → FRI [] [] S0 T → ob T v0 11 → fI T v0 6 = 0 → Q T) : P_X11_init v0 Q S := by
  subst E
  show P_X11_init_0 Q v0 _
  unfold P_X11_init_0
  have hv : v0 ∈ hL (nW S0 v0 11 0) := List.mem_append_right _ (List.mem_singleton.mpr rfl)
  have b00 := bx_rf (S0 := nW S0 v0 11 0) (v := v0) (fun j b e => by rw [zero_new.1 j] at e; exact absurd e (by simp))
  have o_v0 : ob (nW S0 v0 11 0) v0 11 := ob_of_new rfl
  refine ⟨o_v0, ?_⟩
  intro Ua ga
  have b0 := bx_I b00 hv ga
  intro a0 q0 T0 e0
  intro U0 g0
  have b1 := bx_arr b0 hv q0 e0 g0 (by decide) (by decide)
  intro a1 q1 T1 e1
  intro U1 g1
  have b2 := bx_arr b1 hv q1 e1 g1 (by decide) (by decide)
  intro a2 q2 T2 e2
  intro U2 g2
  have b3 := bx_arr b2 hv q2 e2 g2 (by decide) (by decide)
  intro a3 q3 T3 e3
  intro U3 g3
  have b4 := bx_arr b3 hv q3 e3 g3 (by decide) (by decide)
  intro Ub gb
  have b4 := bx_I b4 hv gb
  intro a4 q4 T4 e4
  intro U4 g4
  have b5 := bx_arr b4 hv q4 e4 g4 (by decide) (by decide)
  intro a5 q5 T5 e5
  intro U5 g5
  have b6 := bx_arr b5 hv q5 e5 g5 (by decide) (by decide)
  intro a6 q6 T6 e6
  intro U6 g6
  have b7 := bx_arr b6 hv q6 e6 g6 (by decide) (by decide)
  have e0 : fI (nW S0 v0 11 0) v0 = fun _ => 0 := zero_new.2
  rw [e0] at b7
  have n3 : ∀ j, (∀ e ∈ refF, e.1 ≠ j) → fR U6 v0 j = none := fun j hj => (b7.2.2.2.2.2.2.2.2 j hj).trans (zero_new.1 j)
  have ml : ML U6 v0 := by
    refine ⟨fun w e => ?_, fun w e => ?_, Or.inl ?_, fun j hj b e z => ?_⟩
    · rw [n3 3 (by decide)] at e; exact absurd e (by simp)
    · rw [n3 4 (by decide)] at e; exact absurd e (by simp)
    · rw [b7.2.2.2.2.2.2.1]; decide
    · have hm : ∃ g ∈ refF, g.1 = j := by rcases hj with rfl | rfl | rfl <;> decide
      obtain ⟨g, hg, rfl⟩ := hm
      rw [(bx_get b7 hg e).2.2.2 z]
      exact ⟨fun _ => by decide, fun _ => by decide⟩
  obtain ⟨r1, r2, r3, r4, r5, r6⟩ := bx_iv hI hf (by omega) (by omega) b7 (F := refF) (by decide) (by decide) (fun _ => ml)
  exact hq _ r1 r2 b7.1 r3 r4 (by rw [b7.2.2.2.2.2.2.1]; decide)
