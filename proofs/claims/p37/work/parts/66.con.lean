/-! constructors of the class: those under construction are masked (kind 99) -/
def ms (E : List Nat) (S : HS) : HS := (hL S, fun a => if a ∈ E then 99 else hK S a, hN S, fI S, fJ S, fR S)
def NO (S : HS) : Prop := ∀ a, a ∈ hL S → hK S a ≠ 10 ∧ hK S a ≠ 11
def XP (S T : HS) (v : Nat) : Prop := ∀ a, a ∈ hL S → a ∈ hL T ∧ hK T a = hK S a ∧ hN T a = hN S a ∧ (a ≠ v → fI T a = fI S a ∧ fJ T a = fJ S a ∧ fR T a = fR S a)
section Con
variable {E M : List Nat} {S S0 T U : HS} {a b v k q n j i : Nat}
theorem ms_in (h : a ∈ E) : hK (ms E S) a = 99 := if_pos h
theorem ms_out (h : a ∉ E) : hK (ms E S) a = hK S a := if_neg h
theorem xp_rf : XP S S v := fun _ h => ⟨h, rfl, rfl, fun _ => ⟨rfl, rfl, rfl⟩⟩
theorem xp_tr (h : XP S T v) (g : XP T U v) : XP S U v := fun a ha => by
  obtain ⟨h1, h2, h3, h4⟩ := h a ha
  obtain ⟨g1, g2, g3, g4⟩ := g a h1
  refine ⟨g1, g2.trans h2, g3.trans h3, fun n => ?_⟩
  obtain ⟨x1, x2, x3⟩ := h4 n
  obtain ⟨y1, y2, y3⟩ := g4 n
  exact ⟨y1.trans x1, y2.trans x2, y3.trans x3⟩
/-- by an object that was not there before -/
theorem xp_by (ha : a ∉ hL S) (h : XP S T v) (g : XP T U a) : XP S U v := fun x hx => by
  obtain ⟨h1, h2, h3, h4⟩ := h x hx
  obtain ⟨g1, g2, g3, g4⟩ := g x h1
  have hn : x ≠ a := fun z => ha (z ▸ hx)
  refine ⟨g1, g2.trans h2, g3.trans h3, fun n => ?_⟩
  obtain ⟨x1, x2, x3⟩ := h4 n
  obtain ⟨y1, y2, y3⟩ := g4 hn
  exact ⟨y1.trans x1, y2.trans x2, y3.trans x3⟩
theorem xp_new (ha : a ∉ hL S) (E1 : T = nW S a k n) : XP S T v := by
  subst E1
  intro x hx
  have hn : x ≠ a := fun z => ha (z ▸ hx)
  exact ⟨List.mem_append_left _ hx, va_up_ne _ _ hn, va_up_ne _ _ hn, fun _ => ⟨va_up_ne _ _ hn, va_up_ne _ _ hn, va_up_ne _ _ hn⟩⟩
theorem xp_R {r : Option Nat} (E1 : T = sR S v j r) : XP S T v := by
  subst E1
  exact fun x hx => ⟨hx, rfl, rfl, fun n => ⟨rfl, rfl, u2_row _ _ n⟩⟩
theorem xp_I {r : Int32} (E1 : T = sI S v j r) : XP S T v := by
  subst E1
  exact fun x hx => ⟨hx, rfl, rfl, fun n => ⟨u2_row _ _ n, rfl, rfl⟩⟩
theorem xp_gr (h : XP S T v) : Gr S T := fun a ha => ⟨(h a ha).1, (h a ha).2.1, (h a ha).2.2.1⟩
theorem x_junk {E2 : List Nat} (hI : IV (ms E S)) (hx : XP S T v) (h1 : ∀ a, a ∈ hL S → a ≠ v → (a ∈ E ↔ a ∈ E2)) (h3 : ∀ a, a ∈ hL T → a ∈ hL S ∨ a = v) (h4 : v ∈ E2 ∨ (v ∉ E2 ∧ 12 ≤ hK T v ∧ hK T v < 16)) (h5 : v ∈ hL S → v ∈ E) : IV (ms E2 T) := by
  refine iv_ext (v := v) hI (fun a ha hn hk => ?_) (fun a ha => (hx a ha).1) (fun a ha => ?_) (Or.inl ⟨fun _ => ?_, fun h => ms_in (h5 h)⟩)
  · have hE : a ∉ E := fun z => hk (ms_in z)
    have hE2 : a ∉ E2 := fun z => hE ((h1 a ha hn).mpr z)
    obtain ⟨g1, g2, g3, g4⟩ := hx a ha
    obtain ⟨y1, y2, y3⟩ := g4 hn
    exact ⟨g1, by rw [ms_out hE2, ms_out hE]; exact g2, g3, y1, y2, y3⟩
  · rcases h3 a ha with g | g
    · by_cases c : a = v
      · exact Or.inr (Or.inl c)
      · by_cases c2 : hK (ms E S) a = 99
        · refine Or.inr (Or.inr (Or.inr ?_))
          by_cases c3 : a ∈ E2
          · exact ms_in c3
          · have : a ∉ E := fun z => c3 ((h1 a g c).mp z)
            rw [ms_out c3, (hx a g).2.1, ← ms_out (S := S) this]; exact c2
        · exact Or.inl ⟨g, c, c2⟩
    · exact Or.inr (Or.inl g)
  · rcases h4 with h | ⟨h, h'⟩
    · exact Or.inr (ms_in h)
    · exact Or.inl (by rw [ms_out h]; exact h')
/-- an object is made and masked -/
theorem x_obj (hI : IV (ms E S)) (ha : a ∉ hL S) (E1 : T = nW S a k n) : IV (ms (a :: E) T) := by
  refine x_junk (v := a) hI (xp_new ha E1) (fun x hx hn => ?_) (fun x hx => ?_) (Or.inl List.mem_cons_self) (fun z => absurd z ha)
  · exact ⟨fun z => List.mem_cons_of_mem _ z, fun z => (List.mem_cons.mp z).resolve_left hn⟩
  · rw [E1] at hx
    exact (List.mem_append.mp hx).imp id (fun z => List.mem_singleton.mp z)
theorem x_arr (hI : IV (ms E S)) (ha : a ∉ hL S) (hE : a ∉ E) (E1 : T = nW S a q n) (hq : 12 ≤ q ∧ q < 16) : IV (ms E T) := by
  refine x_junk (v := a) hI (xp_new ha E1) (fun x hx hn => Iff.rfl) (fun x hx => ?_) (Or.inr ⟨hE, ?_⟩) (fun z => absurd z ha)
  · rw [E1] at hx
    exact (List.mem_append.mp hx).imp id (fun z => List.mem_singleton.mp z)
  · rw [E1, nW_K]; exact hq
theorem x_R {r : Option Nat} (hI : IV (ms E S)) (hv : v ∈ E) (E1 : T = sR S v j r) : IV (ms E T) := x_junk (v := v) hI (xp_R E1) (fun x hx hn => Iff.rfl) (fun x hx => Or.inl (by rw [E1] at hx; exact hx)) (Or.inl hv) (fun _ => hv)
theorem x_I {r : Int32} (hI : IV (ms E S)) (hv : v ∈ E) (E1 : T = sI S v j r) : IV (ms E T) := x_junk (v := v) hI (xp_I E1) (fun x hx hn => Iff.rfl) (fun x hx => Or.inl (by rw [E1] at hx; exact hx)) (Or.inl hv) (fun _ => hv)
/-- an object is done -/
theorem x_fin (hI : IV (ms (v :: E) S)) (hno : NO S) (hv : v ∉ E) (hvl : v ∈ hL S) (hk : hK S v < 10) (hsh : ∀ e ∈ shT, e.1 = hK S v → ∃ b, fR S v e.2.1 = some b ∧ ob (ms E S) b e.2.2.1 ∧ (e.2.2.2 = 0 ∨ hN S b = e.2.2.2)) (hwy : hK S v = 7 → ∀ e ∈ wyT, ∀ b, fR S v e.1 = some b → hN S b = 0) (hnu : ∀ e ∈ nuT, e.1 = hK S v → e.2.2.1 ≤ fI S v e.2.1 ∧ fI S v e.2.1 ≤ e.2.2.2) (hcl : ∀ j b, fR S v j = some b → b ∈ hL S) : IV (ms E S) := by
  have hkv : hK (ms E S) v = hK S v := ms_out hv
  refine iv_ext (v := v) hI (fun a ha hn hk => ?_) (fun a ha => ha) (fun a ha => ?_) (Or.inr ⟨hvl, by rw [hkv]; omega, fun _ => Or.inl (ms_in List.mem_cons_self), ?_, fun z => Or.inl (hwy (hkv.symm.trans z)), ?_, fun j b hb => ⟨hcl j b hb, fun x q j' ox hp => ?_⟩, fun j b hp => ?_, fun z => ?_⟩)
  · have hE : a ∉ v :: E := fun z => hk (ms_in z)
    have hE2 : a ∉ E := fun z => hE (List.mem_cons_of_mem _ z)
    exact ⟨ha, by rw [ms_out hE2, ms_out hE], rfl, rfl, rfl, rfl⟩
  · by_cases c : a = v
    · exact Or.inr (Or.inl c)
    · by_cases c2 : hK (ms (v :: E) S) a = 99
      · refine Or.inr (Or.inr (Or.inr ?_))
        by_cases c3 : a ∈ E
        · exact ms_in c3
        · have : a ∉ v :: E := fun z => (List.mem_cons.mp z).elim c c3
          rw [ms_out c3, ← ms_out (S := S) this]; exact c2
      · exact Or.inl ⟨ha, c, c2⟩
  · rw [hkv]; exact hsh
  · rw [hkv]; exact hnu
  · intro _ _
    have hq := pr_ge _ hp
    have hE : x ∉ v :: E := fun z => by have e := ms_in (S := S) z; have := ox.2; simp only at hq; omega
    have e : hK S x = q := by rw [← ms_out (S := S) hE]; exact ox.2
    have := hno x ox.1
    simp only at hq
    omega
  · rw [hkv] at hp
    exact absurd hp (np10 hk)
  · rw [hkv] at z; omega
/-- an array of objects is full -/
theorem x_full (hI : IV (ms (a :: E) S)) (ha : a ∉ E) (hk : 16 ≤ hK S a ∧ hK S a < 20) (hf : ∀ i, i < hN S a → ∃ b, fR S a i = some b ∧ ob (ms E S) b (aeK (hK S a))) : IV (ms E S) := by
  have hka : hK (ms E S) a = hK S a := ms_out ha
  have dn : ∀ x k, ob (ms E S) x k → x ≠ a → ob (ms (a :: E) S) x k := fun x k o hn => by
    refine ⟨o.1, ?_⟩
    by_cases c : x ∈ E
    · rw [ms_in (List.mem_cons_of_mem _ c), ← ms_in (S := S) c]; exact o.2
    · rw [ms_out (fun z => (List.mem_cons.mp z).elim hn c), ← ms_out (S := S) c]; exact o.2
  have up : ∀ x k, ob (ms (a :: E) S) x k → k ≠ 99 → ob (ms E S) x k := fun x k o hn => by
    have c : x ∉ a :: E := fun z => hn (o.2.symm.trans (ms_in z))
    exact ⟨o.1, by rw [ms_out (fun z => c (List.mem_cons_of_mem _ z)), ← ms_out (S := S) c]; exact o.2⟩
  have ne : ∀ x k, ob (ms E S) x k → k < 12 → x ≠ a := fun x k o hk2 z => by
    have := o.2; rw [z, hka] at this; omega
  have ks : ∀ e ∈ shT, e.1 < 12 ∧ e.2.2.1 < 20 := by decide
  have kn : ∀ e ∈ nuT, e.1 < 12 := by decide
  refine ⟨fun e he x o => ?_, fun r h1 h2 x o i hi => ?_, fun x o => ?_, fun e he x o => ?_, fun x k j x' k' j' b o hk o' hp => ?_, fun x k j b o hk => ?_, fun x o => ?_⟩
  · obtain ⟨b, b1, b2, b3⟩ := hI.1 e he x (dn x _ o (ne x _ o (ks e he).1))
    exact ⟨b, b1, up b _ b2 (by have := (ks e he).2; omega), b3⟩
  · by_cases c : x = a
    · subst c
      have : r = hK S x := o.2.symm.trans hka
      subst this
      exact hf i hi
    · obtain ⟨b, b1, b2⟩ := hI.2.1 r h1 h2 x (dn x _ o c) i hi
      exact ⟨b, b1, up b _ b2 (by unfold aeK; split <;> (try split) <;> (try split) <;> omega)⟩
  · exact hI.2.2.1 x (dn x _ o (ne x _ o (by omega)))
  · exact hI.2.2.2.1 e he x (dn x _ o (ne x _ o (kn e he)))
  · exact hI.2.2.2.2.1 x k j x' k' j' b (dn x _ o (ne x _ o hk)) hk (dn x' _ o' (ne x' _ o' (pr_ge _ hp).2)) hp
  · exact hI.2.2.2.2.2.1 x k j b (dn x _ o (ne x _ o hk)) hk
  · have hm := hI.2.2.2.2.2.2 x (dn x _ o (ne x _ o (by omega)))
    exact ml_same' (S := ms (a :: E) S) (fun w ow => up w 10 ow (by omega)) ⟨rfl, rfl, fun w _ => ⟨rfl, rfl, fun _ _ _ _ => rfl⟩, fun _ _ _ _ => rfl⟩ hm
end Con
