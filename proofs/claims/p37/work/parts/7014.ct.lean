/-! the two worlds side by side -/
abbrev elT : List (Nat × Nat × Nat) := [(6, 3, 6), (8, 5, 12), (9, 6, 4)]
def INJ (w : Nat) (S : HS) : Prop := ∀ q ∈ elT, ∀ ra, fR S w q.1 = some ra → ∀ i j o, i < q.2.2 → j < q.2.2 → fR S ra i = some o → fR S ra j = some o → i = j
def WOb (w : Nat) (S : HS) (b : Nat) : Prop := b = w ∨ (∃ j ∈ ([7, 10, 11] : List Nat), fR S w j = some b) ∨ ∃ j ∈ ([6, 8, 9] : List Nat), ∃ ra i, fR S w j = some ra ∧ fR S ra i = some b
def WOi (w : Nat) (S : HS) (b : Nat) : Prop := b = w ∨ (∃ j ∈ ([7, 10, 11] : List Nat), fR S w j = some b) ∨ ∃ q ∈ elT, ∃ ra i, fR S w q.1 = some ra ∧ i < q.2.2 ∧ fR S ra i = some b
def NWa (w : Nat) (S : HS) : Prop := ∀ fl ∈ ([7, 10, 11] : List Nat), ∀ d, fR S w fl = some d → NWq S d
def DJ2 (w u : Nat) (S : HS) : Prop := (∀ b, WOi w S b → WOb u S b → False) ∧ ∀ b, WOi u S b → WOb w S b → False
/-- the class's two worlds -/
def CJ (c r w1 w2 : Nat) (S : HS) : Prop := fR S c 2 = some w1 ∧ fR S c 3 = some r ∧ fR S r 5 = some w2 ∧ ob S c 9 ∧ ob S r 4 ∧ ob S w1 8 ∧ ob S w2 8 ∧ (INJ w1 S ∧ NWa w1 S) ∧ (INJ w2 S ∧ NWa w2 S) ∧ DJ2 w1 w2 S
section C16
variable {c r w w1 w2 m rd a : Nat} {A : AS} {G : GC} {S T U : HS} {wi wr : List (Nat × Nat)}
theorem el_ex (hI : IV S) (ow : ob S w 8) {q : Nat × Nat × Nat} (hq : q ∈ elT) : ∃ ra, fR S w q.1 = some ra ∧ 17 ≤ hK S ra ∧ ra ∈ hL S ∧ ∀ i o, i < q.2.2 → fR S ra i = some o → ob S o q.2.1 := by
  simp only [List.mem_cons, List.not_mem_nil, or_false] at hq
  rcases hq with rfl | rfl | rfl
  · obtain ⟨ra, e, o, n⟩ := hI.1 (8, 6, 17, 6) (by decide) w ow
    refine ⟨ra, e, by rw [o.2]; decide, o.1, fun i b hi hb => ?_⟩
    obtain ⟨y, y1, y2⟩ := hI.2.1 17 (by decide) (by decide) ra o i (by rw [n.resolve_left (by decide)]; exact hi)
    cases y1.symm.trans hb
    exact y2
  · obtain ⟨ra, e, o, n⟩ := hI.1 (8, 8, 18, 12) (by decide) w ow
    refine ⟨ra, e, by rw [o.2]; decide, o.1, fun i b hi hb => ?_⟩
    obtain ⟨y, y1, y2⟩ := hI.2.1 18 (by decide) (by decide) ra o i (by rw [n.resolve_left (by decide)]; exact hi)
    cases y1.symm.trans hb
    exact y2
  · obtain ⟨ra, e, o, n⟩ := hI.1 (8, 9, 19, 4) (by decide) w ow
    refine ⟨ra, e, by rw [o.2]; decide, o.1, fun i b hi hb => ?_⟩
    obtain ⟨y, y1, y2⟩ := hI.2.1 19 (by decide) (by decide) ra o i (by rw [n.resolve_left (by decide)]; exact hi)
    cases y1.symm.trans hb
    exact y2
theorem d_ex (hI : IV S) (ow : ob S w 8) {fl : Nat} (hq : fl ∈ ([7, 10, 11] : List Nat)) : ∃ d, fR S w fl = some d ∧ ob S d 13 ∧ hN S d = (if fl = 7 then 8 else if fl = 10 then 4 else 20) := by
  simp only [List.mem_cons, List.not_mem_nil, or_false] at hq
  rcases hq with rfl | rfl | rfl
  · obtain ⟨d, e, o, n⟩ := hI.1 (8, 7, 13, 8) (by decide) w ow
    exact ⟨d, e, o, n.resolve_left (by decide)⟩
  · obtain ⟨d, e, o, n⟩ := hI.1 (8, 10, 13, 4) (by decide) w ow
    exact ⟨d, e, o, n.resolve_left (by decide)⟩
  · obtain ⟨d, e, o, n⟩ := hI.1 (8, 11, 13, 20) (by decide) w ow
    exact ⟨d, e, o, n.resolve_left (by decide)⟩
theorem wk_of (hI : IV S) (ow : ob S w 8) (inj : INJ w S) : WKd w S ∧ WKr w S := by
  refine ⟨⟨fun q hq => ?_, fun fl hf => ?_, fun f1 f2 d h1 h2 e1 e2 => ?_⟩, fun fl hf ra e => ?_⟩
  · obtain ⟨ra, e, -, -, k⟩ := el_ex hI ow hq
    exact ⟨ra, e, k, inj q hq ra e⟩
  · obtain ⟨d, e, o, -⟩ := d_ex hI ow hf
    exact ⟨d, e, o⟩
  · obtain ⟨d1, g1, -, n1⟩ := d_ex hI ow h1
    obtain ⟨d2, g2, -, n2⟩ := d_ex hI ow h2
    cases g1.symm.trans e1
    cases g2.symm.trans e2
    rw [n1] at n2
    simp only [List.mem_cons, List.not_mem_nil, or_false] at h1 h2
    rcases h1 with rfl | rfl | rfl <;> rcases h2 with rfl | rfl | rfl <;> first | rfl | (exact absurd n2 (by decide))
  · have hf2 : ∃ q ∈ elT, q.1 = fl := by
      simp only [List.mem_cons, List.not_mem_nil, or_false] at hf
      rcases hf with rfl | rfl | rfl
      · exact ⟨(6, 3, 6), by decide, rfl⟩
      · exact ⟨(8, 5, 12), by decide, rfl⟩
      · exact ⟨(9, 6, 4), by decide, rfl⟩
    obtain ⟨q, hq, rfl⟩ := hf2
    obtain ⟨ra', e', k1, k2, -⟩ := el_ex hI ow hq
    cases e'.symm.trans e
    exact ⟨k1, k2⟩
/-- of what kinds a world's things are -/
theorem woi_k (hI : IV S) (ow : ob S w 8) {b : Nat} (h : WOi w S b) : (ob S b 8 ∨ ob S b 3 ∨ ob S b 5 ∨ ob S b 6) ∨ (ob S b 13 ∧ ∃ fl ∈ ([7, 10, 11] : List Nat), fR S w fl = some b) := by
  rcases h with rfl | ⟨j, hj, e⟩ | ⟨q, hq, ra, i, e, hi, eb⟩
  · exact Or.inl (Or.inl ow)
  · obtain ⟨d, e', o, -⟩ := d_ex hI ow hj
    cases e'.symm.trans e
    exact Or.inr ⟨o, j, hj, e⟩
  · obtain ⟨ra', e', -, -, k⟩ := el_ex hI ow hq
    cases e'.symm.trans e
    have o := k i b hi eb
    simp only [List.mem_cons, List.not_mem_nil, or_false] at hq
    rcases hq with rfl | rfl | rfl
    · exact Or.inl (Or.inr (Or.inl o))
    · exact Or.inl (Or.inr (Or.inr (Or.inl o)))
    · exact Or.inl (Or.inr (Or.inr (Or.inr o)))
/-- joints that stay: of worlds and of rows of things -/
def FW (S T : HS) : Prop := (∀ x, ob S x 8 → ∀ j ∈ ([6, 7, 8, 9, 10, 11] : List Nat), fR T x j = fR S x j) ∧ ∀ x, x ∈ hL S → 17 ≤ hK S x → fR T x = fR S x
theorem inj_mv (hI : IV S) (ow : ob S w 8) (F : FW S T) (h : INJ w S) : INJ w T := by
  intro q hq ra e i j o hi hj h1 h2
  have hm : q.1 ∈ ([6, 7, 8, 9, 10, 11] : List Nat) := by
    simp only [List.mem_cons, List.not_mem_nil, or_false] at hq
    rcases hq with rfl | rfl | rfl <;> decide
  rw [F.1 w ow q.1 hm] at e
  obtain ⟨ra', e', k1, k2, -⟩ := el_ex hI ow hq
  cases e'.symm.trans e
  rw [F.2 ra k2 k1] at h1 h2
  exact h q hq ra e i j o hi hj h1 h2
theorem woi_mv (hI : IV S) (ow : ob S w 8) (F : FW S T) {b : Nat} : WOi w T b ↔ WOi w S b := by
  have f7 : ∀ j ∈ ([7, 10, 11] : List Nat), fR T w j = fR S w j := fun j hj => F.1 w ow j (by
    simp only [List.mem_cons, List.not_mem_nil, or_false] at hj
    rcases hj with rfl | rfl | rfl <;> decide)
  have f6 : ∀ q ∈ elT, fR T w q.1 = fR S w q.1 := fun q hq => F.1 w ow q.1 (by
    simp only [List.mem_cons, List.not_mem_nil, or_false] at hq
    rcases hq with rfl | rfl | rfl <;> decide)
  have fr : ∀ q ∈ elT, ∀ ra, fR S w q.1 = some ra → fR T ra = fR S ra := fun q hq ra e => by
    obtain ⟨ra', e', k1, k2, -⟩ := el_ex hI ow hq
    cases e'.symm.trans e
    exact F.2 ra k2 k1
  constructor
  · rintro (h | ⟨j, hj, e⟩ | ⟨q, hq, ra, i, e, hi, eb⟩)
    · exact Or.inl h
    · exact Or.inr (Or.inl ⟨j, hj, by rw [← f7 j hj]; exact e⟩)
    · rw [f6 q hq] at e
      exact Or.inr (Or.inr ⟨q, hq, ra, i, e, hi, by rw [← fr q hq ra e]; exact eb⟩)
  · rintro (h | ⟨j, hj, e⟩ | ⟨q, hq, ra, i, e, hi, eb⟩)
    · exact Or.inl h
    · exact Or.inr (Or.inl ⟨j, hj, by rw [f7 j hj]; exact e⟩)
    · exact Or.inr (Or.inr ⟨q, hq, ra, i, by rw [f6 q hq]; exact e, hi, by rw [fr q hq ra e]; exact eb⟩)
theorem wob_mv (hI : IV S) (ow : ob S w 8) (F : FW S T) {b : Nat} (h : WOb w T b) : WOb w S b := by
  rcases h with h | ⟨j, hj, e⟩ | ⟨j, hj, ra, i, e, eb⟩
  · exact Or.inl h
  · refine Or.inr (Or.inl ⟨j, hj, ?_⟩)
    rw [← F.1 w ow j (by
      simp only [List.mem_cons, List.not_mem_nil, or_false] at hj
      rcases hj with rfl | rfl | rfl <;> decide)]
    exact e
  · have hf2 : ∃ q ∈ elT, q.1 = j := by
      simp only [List.mem_cons, List.not_mem_nil, or_false] at hj
      rcases hj with rfl | rfl | rfl
      · exact ⟨(6, 3, 6), by decide, rfl⟩
      · exact ⟨(8, 5, 12), by decide, rfl⟩
      · exact ⟨(9, 6, 4), by decide, rfl⟩
    obtain ⟨q, hq, rfl⟩ := hf2
    rw [F.1 w ow q.1 (by
      simp only [List.mem_cons, List.not_mem_nil, or_false] at hq
      rcases hq with rfl | rfl | rfl <;> decide)] at e
    obtain ⟨ra', e', k1, k2, -⟩ := el_ex hI ow hq
    cases e'.symm.trans e
    rw [F.2 ra k2 k1] at eb
    exact Or.inr (Or.inr ⟨q.1, hj, ra, i, e, eb⟩)
theorem nwa_mv (hI : IV S) (ow : ob S w 8) (F : FW S T) (hn : ∀ d, ob S d 13 → NWq S d → NWq T d) (h : NWa w S) : NWa w T := by
  intro fl hf d e
  rw [F.1 w ow fl (by
    simp only [List.mem_cons, List.not_mem_nil, or_false] at hf
    rcases hf with rfl | rfl | rfl <;> decide)] at e
  obtain ⟨d', e', o, -⟩ := d_ex hI ow hf
  cases e'.symm.trans e
  exact hn d o (h fl hf d e)
theorem cj_mv (hI : IV S) (g : Gr S T) (F : FW S T) (hn : ∀ d, ob S d 13 → NWq S d → NWq T d) (h : CJ c r w1 w2 S) (e2 : fR T c 2 = fR S c 2) (e3 : fR T c 3 = fR S c 3) (e5 : fR T r 5 = fR S r 5) : CJ c r w1 w2 T := by
  obtain ⟨h1, h2, h3, o1, o2, o3, o4, ⟨i1, n1⟩, ⟨i2, n2⟩, d1, d2⟩ := h
  exact ⟨e2.trans h1, e3.trans h2, e5.trans h3, gr_ob g o1, gr_ob g o2, gr_ob g o3, gr_ob g o4, ⟨inj_mv hI o3 F i1, nwa_mv hI o3 F hn n1⟩, ⟨inj_mv hI o4 F i2, nwa_mv hI o4 F hn n2⟩, fun b p q => d1 b ((woi_mv hI o3 F).mp p) (wob_mv hI o4 F q), fun b p q => d2 b ((woi_mv hI o4 F).mp p) (wob_mv hI o3 F q)⟩
/-- the two worlds changed places -/
theorem cj_sw (hI : IV S) (g : Gr S T) (F : FW S T) (hn : ∀ d, ob S d 13 → NWq S d → NWq T d) (h : CJ c r w1 w2 S) (e2 : fR T c 2 = some w2) (e3 : fR T c 3 = fR S c 3) (e5 : fR T r 5 = some w1) : CJ c r w2 w1 T := by
  obtain ⟨h1, h2, h3, o1, o2, o3, o4, ⟨i1, n1⟩, ⟨i2, n2⟩, d1, d2⟩ := h
  exact ⟨e2, e3.trans h2, e5, gr_ob g o1, gr_ob g o2, gr_ob g o4, gr_ob g o3, ⟨inj_mv hI o4 F i2, nwa_mv hI o4 F hn n2⟩, ⟨inj_mv hI o3 F i1, nwa_mv hI o3 F hn n1⟩, fun b p q => d2 b ((woi_mv hI o4 F).mp p) (wob_mv hI o3 F q), fun b p q => d1 b ((woi_mv hI o3 F).mp p) (wob_mv hI o4 F q)⟩
/-- what was told stays told, where the world's things stay -/
theorem ctb_mv {B S' : HS} (hI : IV S) (ow : ob S w 8) (ab : ABd A) (e8 : ∀ j ∈ ([6, 7, 8, 9, 10, 11] : List Nat), fR B w j = fR S w j) (er : ∀ x, x ∈ hL S → 17 ≤ hK S x → fR B x = fR S x) (e8' : ∀ j ∈ ([6, 7, 8, 9, 10, 11] : List Nat), fR T w j = fR S w j) (er' : ∀ x, x ∈ hL S → 17 ≤ hK S x → fR T x = fR S x) (hb : ∀ b, WOi w S b → fI T b = fI S' b) (h : CtB w A G B S') : CtB w A G T T := by
  obtain ⟨h1, h2, h3, h4, h5⟩ := h
  have el : ∀ fl k M N cnt g, (fl, k, M) ∈ elT → fl ∈ ([6, 7, 8, 9, 10, 11] : List Nat) → cnt ≤ M → ElC fl N w cnt g B S' → ElC fl N w cnt g T T := by
    intro fl k M N cnt g hq hm hc h ra e i hi
    rw [e8' fl hm] at e
    obtain ⟨ra', e', k1, k2, -⟩ := el_ex hI ow hq
    cases e'.symm.trans e
    obtain ⟨o, q1, q2⟩ := h ra (by rw [e8 fl hm]; exact e) i hi
    rw [er ra k2 k1] at q1
    refine ⟨o, by rw [er' ra k2 k1]; exact q1, fun j hj => ?_⟩
    rw [hb o (Or.inr (Or.inr ⟨(fl, k, M), hq, ra, i, e, by show i < M; omega, q1⟩))]
    exact q2 j hj
  refine ⟨el 6 3 6 5 _ _ (by decide) (by decide) ab.2.1 h1, fun d e i hi => ?_, el 8 5 12 5 _ _ (by decide) (by decide) ab.2.2.2.1 h3, el 9 6 4 7 _ _ (by decide) (by decide) ab.2.2.2.2.1 h4, fun sw sf e1 e2 i hi => ?_⟩
  · rw [e8' 7 (by decide)] at e
    rw [hb d (Or.inr (Or.inl ⟨7, by decide, e⟩))]
    exact h2 d (by rw [e8 7 (by decide)]; exact e) i hi
  · rw [e8' 10 (by decide)] at e1
    rw [e8' 11 (by decide)] at e2
    rw [hb sw (Or.inr (Or.inl ⟨10, by decide, e1⟩)), hb sf (Or.inr (Or.inl ⟨11, by decide, e2⟩))]
    exact h5 sw sf (by rw [e8 10 (by decide)]; exact e1) (by rw [e8 11 (by decide)]; exact e2) i hi
/-- the reference's world, as told -/
def WRm (m rd : Nat) (A : AS) (G : GC) (S : HS) : Prop := fR S m 3 = some rd ∧ ob S rd 10 ∧ Cnt rd A S ∧ CtM rd A G S ∧ DMr m rd S ∧ ∀ i b, 7 ≤ i → i ≤ 27 → fR S rd i = some b → (ob S b 13 ∨ ob S b 15) ∧ NW8 S b
/-- both worlds tell the same -/
def WRa (c m : Nat) (A : AS) (G : GC) (S : HS) : Prop := ∃ r w1 w2, CJ c r w1 w2 S ∧ Cnt w1 A S ∧ CtB w1 A G S S ∧ ABd A ∧ ((fR S m 3 = none ∧ A = A00) ∨ ∃ rd, WRm m rd A G S)
def WRx (c m : Nat) (S : HS) : Prop := ∃ A G, WRa c m A G S
end C16
/-! the two worlds stay alike -/
section C17
variable {c r w w1 w2 m rd a : Nat} {A : AS} {G : GC} {S T U : HS} {wi wr : List (Nat × Nat)}
abbrev keR : List (Nat × Nat) := [(9, 2), (9, 3), (4, 5), (8, 6), (8, 7), (8, 8), (8, 9), (8, 10), (8, 11), (11, 3)]
abbrev keI : List (Nat × Nat) := [(3, 0), (3, 1), (3, 2), (3, 3), (3, 4), (5, 0), (5, 1), (5, 2), (5, 3), (5, 4), (6, 0), (6, 1), (6, 2), (6, 3), (6, 4), (6, 5), (6, 6), (8, 0), (8, 1), (8, 2), (8, 3), (8, 4), (8, 5), (10, 0), (10, 1), (10, 2), (10, 3), (10, 4), (10, 5)]
/-- field by field -/
theorem ctb_mv2 (hI : IV S) (ow : ob S w 8) (ab : ABd A) (F : FW S T) (hbe : ∀ q ∈ elT, ∀ b, ob S b q.2.1 → ∀ j, j < (if q.1 = 9 then 7 else 5) → fI T b j = fI S b j) (hbd : ∀ b, ob S b 13 → (∃ fl ∈ ([7, 10, 11] : List Nat), fR S w fl = some b) → fI T b = fI S b) (h : CtB w A G S S) : CtB w A G T T := by
  obtain ⟨h1, h2, h3, h4, h5⟩ := h
  have el : ∀ fl k M N cnt g, (fl, k, M) ∈ elT → fl ∈ ([6, 7, 8, 9, 10, 11] : List Nat) → cnt ≤ M → N = (if fl = 9 then 7 else 5) → ElC fl N w cnt g S S → ElC fl N w cnt g T T := by
    intro fl k M N cnt g hq hm hc hN h ra e i hi
    rw [F.1 w ow fl hm] at e
    obtain ⟨ra', e', k1, k2, k3⟩ := el_ex hI ow hq
    cases e'.symm.trans e
    obtain ⟨o, q1, q2⟩ := h ra e i hi
    refine ⟨o, by rw [F.2 ra k2 k1]; exact q1, fun j hj => ?_⟩
    rw [hbe (fl, k, M) hq o (k3 i o (by show i < M; omega) q1) j (by rw [← hN]; exact hj)]
    exact q2 j hj
  have dd : ∀ fl ∈ ([7, 10, 11] : List Nat), ∀ d, fR S w fl = some d → fI T d = fI S d := fun fl hf d e => by
    obtain ⟨d', e', o, -⟩ := d_ex hI ow hf
    cases e'.symm.trans e
    exact hbd d o ⟨fl, hf, e⟩
  refine ⟨el 6 3 6 5 _ _ (by decide) (by decide) ab.2.1 rfl h1, fun d e i hi => ?_, el 8 5 12 5 _ _ (by decide) (by decide) ab.2.2.2.1 rfl h3, el 9 6 4 7 _ _ (by decide) (by decide) ab.2.2.2.2.1 rfl h4, fun sw sf e1 e2 i hi => ?_⟩
  · rw [F.1 w ow 7 (by decide)] at e
    rw [dd 7 (by decide) d e]
    exact h2 d e i hi
  · rw [F.1 w ow 10 (by decide)] at e1
    rw [F.1 w ow 11 (by decide)] at e2
    rw [dd 10 (by decide) sw e1, dd 11 (by decide) sf e2]
    exact h5 sw sf e1 e2 i hi
theorem cnt_f (h : Cnt w A S) (e : ∀ j, j < 6 → fI T w j = fI S w j) : Cnt w A T := by
  unfold Cnt
  rw [e 0 (by decide), e 1 (by decide), e 2 (by decide), e 3 (by decide), e 4 (by decide), e 5 (by decide)]
  exact h
theorem wrm_mv (g : Gr S T) (h : WRm m rd A G S) (e3 : fR T m 3 = fR S m 3) (er : ∀ i, i < 31 → fR T rd i = fR S rd i) (ei : ∀ j, j < 6 → fI T rd j = fI S rd j) (ea : ∀ b, (ob S b 13 ∨ ob S b 15) → NW8 S b → fI T b = fI S b ∧ NW8 T b) : WRm m rd A G T := by
  obtain ⟨h1, h2, h3, h4, h5, h6⟩ := h
  refine ⟨e3.trans h1, gr_ob g h2, cnt_f h3 ei, fun i b i1 i2 e z hz => ?_, ⟨fun i b i1 i2 e => ?_, fun i j b i1 i2 j1 j2 e e' => ?_⟩, fun i b i1 i2 e => ?_⟩
  · rw [er i (by omega)] at e
    have q := h6 i b i1 i2 e
    rw [(ea b q.1 q.2).1]
    exact h4 i b i1 i2 e z hz
  · rw [er i (by omega)] at e
    exact h5.1 i b i1 i2 e
  · rw [er i (by omega)] at e
    rw [er j (by omega)] at e'
    exact h5.2 i j b i1 i2 j1 j2 e e'
  · rw [er i (by omega)] at e
    have q := h6 i b i1 i2 e
    exact ⟨q.1.elim (fun o => Or.inl (gr_ob g o)) (fun o => Or.inr (gr_ob g o)), (ea b q.1 q.2).2⟩
/-- any call but world keeps the worlds alike -/
theorem wr_keep (hI : IV S) (om : ob S m 11) (h : WRa c m A G S) (K : K7 S T) (K' : K8 S T) (F : FRI wi wr S T) (hR : ∀ q ∈ keR, q ∉ wr) (h10 : ∀ i, i < 31 → (10, i) ∉ wr) (hi : ∀ q ∈ keI, q ∉ wi) : WRa c m A G T := by
  obtain ⟨r, w1, w2, J, h1, h2, h3, h4⟩ := h
  have FWf : FW S T := ⟨fun x ox j hj => F.2 8 j (by decide) (hR (8, j) (by
    simp only [List.mem_cons, List.not_mem_nil, or_false] at hj
    rcases hj with rfl | rfl | rfl | rfl | rfl | rfl <;> decide)) x ox, fun x hx hk => K.2.1 x (hK S x) hk ⟨hx, rfl⟩⟩
  have o1 := J.2.2.2.2.2.1
  refine ⟨r, w1, w2, cj_mv hI K.1 FWf (fun d o n => (K.2.2 d ⟨Or.inl o, n⟩).2) J (F.2 9 2 (by decide) (hR _ (by decide)) c J.2.2.2.1) (F.2 9 3 (by decide) (hR _ (by decide)) c J.2.2.2.1) (F.2 4 5 (by decide) (hR _ (by decide)) r J.2.2.2.2.1), cnt_f h1 (fun j hj => F.1 8 j (by decide) (hi (8, j) (by
    match j, hj with
    | 0, _ => decide
    | 1, _ => decide
    | 2, _ => decide
    | 3, _ => decide
    | 4, _ => decide
    | 5, _ => decide
    | j + 6, hj => exact absurd hj (by omega))) w1 o1), ctb_mv2 hI o1 h3 FWf (fun q hq b ob_ j hj => ?_) (fun b ob_ hb => ?_) h2, h3, ?_⟩
  · simp only [List.mem_cons, List.not_mem_nil, or_false] at hq
    rcases hq with rfl | rfl | rfl
    · have hj : j < 5 := hj
      exact F.1 3 j (by decide) (hi (3, j) (by
        match j, hj with
        | 0, _ => decide
        | 1, _ => decide
        | 2, _ => decide
        | 3, _ => decide
        | 4, _ => decide
        | j + 5, hj => exact absurd hj (by omega))) b ob_
    · have hj : j < 5 := hj
      exact F.1 5 j (by decide) (hi (5, j) (by
        match j, hj with
        | 0, _ => decide
        | 1, _ => decide
        | 2, _ => decide
        | 3, _ => decide
        | 4, _ => decide
        | j + 5, hj => exact absurd hj (by omega))) b ob_
    · have hj : j < 7 := hj
      exact F.1 6 j (by decide) (hi (6, j) (by
        match j, hj with
        | 0, _ => decide
        | 1, _ => decide
        | 2, _ => decide
        | 3, _ => decide
        | 4, _ => decide
        | 5, _ => decide
        | 6, _ => decide
        | j + 7, hj => exact absurd hj (by omega))) b ob_
  · obtain ⟨fl, hf, e⟩ := hb
    exact (K.2.2 b ⟨Or.inl ob_, J.2.2.2.2.2.2.2.1.2 fl hf b e⟩).1
  · have e3 := F.2 11 3 (by decide) (hR _ (by decide)) m om
    rcases h4 with ⟨n, hA⟩ | ⟨rd, hm⟩
    · exact Or.inl ⟨e3.trans n, hA⟩
    · refine Or.inr ⟨rd, wrm_mv K.1 hm e3 (fun i hi' => F.2 10 i (by decide) (h10 i hi') rd hm.2.1) (fun j hj => F.1 10 j (by decide) (hi (10, j) (by
        match j, hj with
        | 0, _ => decide
        | 1, _ => decide
        | 2, _ => decide
        | 3, _ => decide
        | 4, _ => decide
        | 5, _ => decide
        | j + 6, hj => exact absurd hj (by omega))) rd hm.2.1) (fun b o n => K'.2.2 b ⟨o, n⟩)⟩
end C17
/-! world(n) on both sides, with all that was told -/
/-- what world(n) comes to: all that was told, or nothing -/
noncomputable def RWs (f : Nat → Int32) (n : Nat) : Option (AS × GC) := match sAll f n 1000 0 A00 with
  | .inl A => some (A, gAll f n 1000 0 A00 G00)
  | .inr _ => none
noncomputable def RWo (f : Nat → Int32) (t : Nat) (v1 : Int32) : Option (AS × GC) := dc (v1 < 0 ∨ nI t < v1) none (RWs f v1.toNatClampNeg)
def WCe (c r w1 w2 : Nat) (S : HS) (R : Option (AS × GC)) (T : HS) : Prop := match R with
  | none => CJ c r w1 w2 T ∧ ∀ b, WOi w1 S b → fI T b = fI S b
  | some p => CJ c r w2 w1 T ∧ Cnt w2 p.1 T ∧ CtB w2 p.1 p.2 T T ∧ ABd p.1
def WMe (m : Nat) (S : HS) (R : Option (AS × GC)) (T : HS) : Prop := (∀ b, b ∈ hL S → b ≠ m → fI T b = fI S b ∧ fR T b = fR S b) ∧ (∀ j, j ≠ 3 → j ≠ 4 → fR T m j = fR S m j) ∧ (∀ x, x ∈ hL T → x ∈ hL S ∨ hK T x = 10 ∨ (12 ≤ hK T x ∧ hK T x < 16)) ∧ match R with
  | none => fR T m 3 = fR S m 3
  | some p => ∃ rd, fR T m 3 = some rd ∧ rd ∉ hL S ∧ ob T rd 10 ∧ CtM rd p.1 p.2 T ∧ Cnt rd p.1 T ∧ DMr m rd T ∧ ∀ i b, fR T rd i = some b → b ∉ hL S
section C18
variable {c r w w1 w2 m rd a t : Nat} {f : Nat → Int32} {v1 : Int32} {A : AS} {G : GC} {S T U : HS} {wi wr : List (Nat × Nat)} {Q : Int32 → HS → Prop}
theorem rw_bad (h : v1 < 0 ∨ nI t < v1) : RWo f t v1 = none := dc_y h
theorem rw_ok {n : Nat} (ht : t ≤ 900) (hn : n ≤ t) (hv : v1 = nI n) : RWo f t v1 = RWs f n := by
  unfold RWo
  rw [dc_n (no_bad ht n hn hv), hv, nI_cl (by omega)]
/-- a world's things are not the reader's own -/
theorem woi_no {nm nd : Nat} (hI : IV S) (J : CJ c r w1 w2 S) (h11 : fR S r 11 = some nm) (h12 : fR S r 12 = some nd) (onm : ob S nm 14) (ond : ob S nd 13) (dst : DSt w1 nd S) {b : Nat} (h : WOi w1 S b) : ¬ OwS_C r (sR S r 2 (some a)) b := by
  obtain ⟨j1, j2, j3, oc, orr, o1, o2, ⟨i1, n1⟩, ⟨i2, n2⟩, d1, d2⟩ := J
  have hne : ∀ x j, ¬ (x = r ∧ j = 2) → fR (sR S r 2 (some a)) x j = fR S x j := fun x j hx => u2_ne _ _ hx
  have kb := woi_k hI o1 h
  intro z
  rcases z with z | ⟨w, e, z⟩ | ⟨j, hj, e⟩
  · subst z
    rcases kb with (k | k | k | k) | ⟨k, -⟩ <;> exact absurd (ob_inj k orr) (by decide)
  · rw [hne r 5 (fun q => absurd q.2 (by decide))] at e
    cases j3.symm.trans e
    have nwr : w2 ≠ r := ob_ne o2 orr (by decide)
    refine d1 b h ?_
    rcases z with z | ⟨j, hj, e1⟩ | ⟨j, hj, ra, i, e1, e2⟩
    · exact Or.inl z
    · rw [hne w2 j (fun q => nwr q.1)] at e1
      exact Or.inr (Or.inl ⟨j, hj, e1⟩)
    · rw [hne w2 j (fun q => nwr q.1)] at e1
      have hra := (wk_of hI o2 i2).2 j hj ra e1
      have nra : ra ≠ r := fun q => by
        rw [q, orr.2] at hra
        exact absurd hra.1 (by decide)
      rw [hne ra i (fun q => nra q.1)] at e2
      exact Or.inr (Or.inr ⟨j, hj, ra, i, e1, e2⟩)
  · rw [hne r j (fun q => by
      rw [q.2] at hj
      exact absurd hj (by decide))] at e
    simp only [List.mem_cons, List.not_mem_nil, or_false] at hj
    rcases hj with rfl | rfl
    · cases h11.symm.trans e
      rcases kb with (k | k | k | k) | ⟨k, -⟩ <;> exact absurd (ob_inj k onm) (by decide)
    · cases h12.symm.trans e
      rcases kb with (k | k | k | k) | ⟨k, fl, hf, e3⟩
      · exact absurd (ob_inj k ond) (by decide)
      · exact absurd (ob_inj k ond) (by decide)
      · exact absurd (ob_inj k ond) (by decide)
      · exact absurd (ob_inj k ond) (by decide)
      · exact dst fl _ (by simpa using hf) e3 rfl
theorem dst_of (hI : IV S) (ow : ob S w 8) (orr : ob S r 4) {nd : Nat} (h12 : fR S r 12 = some nd) : DSt w nd S := by
  intro j b hj hb z
  obtain ⟨nd', e, -, n⟩ := hI.1 (4, 12, 13, 12) (by decide) r orr
  cases e.symm.trans h12
  obtain ⟨d, e', -, n'⟩ := d_ex hI ow (fl := j) (by simpa using hj)
  cases e'.symm.trans hb
  have n := n.resolve_left (by decide)
  rw [z, n] at n'
  rcases hj with rfl | rfl | rfl <;> exact absurd n' (by decide)
theorem ry_X9_world (hI : IV S) (P : TP 0 1 f t a c S) (ht : t ≤ 900) (J : CJ c r w1 w2 S) (h : P_X9_world c v1 Q S) : P_X9_world c v1 (fun x T => Q x T ∧ WCe c r w1 w2 S (RWo f t v1) T) S := by
  have J0 := J
  obtain ⟨j1, j2, j3, oc, orr, o1, o2, ⟨i1, n1⟩, ⟨i2, n2⟩, d1, d2⟩ := J0
  by_cases hb : v1 < 0 ∨ nI t < v1
  · rw [rw_bad hb]
    refine cm_X9_world (sp_X9_world_bad h (by rw [P.2.1]; exact hb)) h (fun x T hp h => ⟨h, ?_⟩)
    have e := hp.2.2
    have fr : fR T = fR S := by rw [e]; rfl
    refine ⟨cj_mv hI (by rw [e]; exact gr_rf S) ⟨fun x _ j _ => by rw [fr], fun x _ _ => by rw [fr]⟩ (fun d _ n => by rw [e]; exact n) J (by rw [fr]) (by rw [fr]) (by rw [fr]), fun b hb => ?_⟩
    refine row_o e (fun z => ?_)
    subst z
    rcases woi_k hI o1 hb with (k | k | k | k) | ⟨k, -⟩ <;> exact absurd (ob_inj k oc) (by decide)
  · obtain ⟨n, hn, hv⟩ := n_of ht (fun z => hb (Or.inl z)) (fun z => hb (Or.inr z))
    rw [rw_ok ht hn hv]
    obtain ⟨a', r', w', nm, nd, g1, g2, g3, g4, g5, g6⟩ := iv_rdy (f := f) (n := n) hI oc (by omega) (fun b hb j hj => by
      cases P.1.symm.trans hb
      exact P.2.2.2.2.2 j (by omega))
    cases j2.symm.trans g2
    have g3' := g3
    obtain ⟨r1, r2, r3, r11, r12, r5, p1, p2, p3, p4, p5⟩ := g3'
    cases j3.symm.trans r5
    have wk2 := wk_of hI o2 i2
    have hw := sq_X9_world_ok hI oc h hv g1 g2 g3 g4 wk2.1 wk2.2 g5 g6 (by
      rw [P.2.1]
      exact Int32.not_lt.mp (fun z => hb (Or.inr z)))
    have hk := cm_X9_world (kh_X9_world h) (kf_X9_world h) (Q3 := fun x T => Q x T ∧ KH S T ∧ Gr S T) (fun x T z y => ⟨z.1, z.2, y.2.1⟩)
    refine cm_X9_world hw hk (fun x T hp hq => ⟨hq.1, ?_⟩)
    obtain ⟨-, kh, gr⟩ := hq
    have hp := hp.2.2
    have nrc : r ≠ c := ob_ne orr oc (by decide)
    unfold RWs
    cases hR : sAll f n 1000 0 A00 with
    | inr e =>
      rw [hR] at hp
      obtain ⟨hp1, hp2⟩ := hp
      have FWf : FW S T := ⟨fun x ox j _ => hp2 x j (fun q => ob_ne ox orr (by decide) q.1), fun x hx hk => funext fun j => hp2 x j (fun q => by
        rw [q.1, orr.2] at hk
        exact absurd hk (by decide))⟩
      refine ⟨cj_mv hI gr FWf (fun d _ nd_ q hq x ox z => ?_) J (hp2 c 2 (fun q => nrc q.1.symm)) (hp2 c 3 (fun q => nrc q.1.symm)) (hp2 r 5 (fun q => absurd q.2 (by decide))), fun b hb => ?_⟩
      · have ox' : ob S x q.1 := ⟨by rw [← kh.1]; exact ox.1, by rw [← kh.2]; exact ox.2⟩
        have nk : q.1 ≠ 4 ∧ q.1 ≠ 9 := by
          simp only [List.mem_cons, List.not_mem_nil, or_false] at hq
          rcases hq with h | h | h | h | h | h | h | h <;> (rw [h]; decide)
        rw [hp2 x q.2 (fun y => ob_ne ox' orr nk.1 y.1)] at z
        exact nd_ q hq x ox' z
      · refine hp1 b (fun z => ?_) (woi_no hI J r11 r12 p3 p4 (dst_of hI o1 orr r12) hb)
        subst z
        rcases woi_k hI o1 hb with (k | k | k | k) | ⟨k, -⟩ <;> exact absurd (ob_inj k oc) (by decide)
    | inl A =>
      rw [hR] at hp
      obtain ⟨⟨V, v1', v2, v3, v4⟩, hp2, hp3, hp4, hp5, hp6⟩ := hp
      have FWf : FW S T := ⟨fun x ox j _ => hp2 x j (ob_ne ox oc (by decide)) (ob_ne ox orr (by decide)), fun x hx hk => funext fun j => hp2 x j (fun q => by
        rw [q, oc.2] at hk
        exact absurd hk (by decide)) (fun q => by
        rw [q, orr.2] at hk
        exact absurd hk (by decide))⟩
      refine ⟨cj_sw hI gr FWf (fun d _ nd_ q hq x ox z => ?_) J hp3 (hp4 3 (by decide)) (hp5.trans j1), ?_, ?_, v3⟩
      · have ox' : ob S x q.1 := ⟨by rw [← kh.1]; exact ox.1, by rw [← kh.2]; exact ox.2⟩
        have nk : q.1 ≠ 4 ∧ q.1 ≠ 9 := by
          simp only [List.mem_cons, List.not_mem_nil, or_false] at hq
          rcases hq with h | h | h | h | h | h | h | h <;> (rw [h]; decide)
        rw [hp2 x q.2 (ob_ne ox' oc nk.2) (ob_ne ox' orr nk.1)] at z
        exact nd_ q hq x ox' z
      · exact cn_row v2 (v4 w2 8 o2 (by decide) (by decide) (by decide))
      · have hne : ∀ x j, ¬ (x = r ∧ j = 2) → fR (sR S r 2 (some a')) x j = fR S x j := fun x j hx => u2_ne _ _ hx
        refine ctb_mv (S := S) hI o2 v3 (fun j _ => hne w2 j (fun q => ob_ne o2 orr (by decide) q.1)) (fun x hx hk => funext fun j => hne x j (fun q => by
          rw [q.1, orr.2] at hk
          exact absurd hk (by decide))) (fun j hj => FWf.1 w2 o2 j hj) (fun x hx hk => FWf.2 x hx hk) (fun b hb => ?_) v1'
        rcases woi_k hI o2 hb with (k | k | k | k) | ⟨k, -⟩
        · exact v4 b 8 k (by decide) (by decide) (by decide)
        · exact v4 b 3 k (by decide) (by decide) (by decide)
        · exact v4 b 5 k (by decide) (by decide) (by decide)
        · exact v4 b 6 k (by decide) (by decide) (by decide)
        · exact v4 b 13 k (by decide) (by decide) (by decide)
theorem ry_X11_world (P : TP 5 6 f t a m S) (ht : t ≤ 900) (hB : ∀ j, j < t → -128 ≤ (f j).toInt ∧ (f j).toInt ≤ 127) (h : P_X11_world m v1 Q S) : P_X11_world m v1 (fun x T => Q x T ∧ WMe m S (RWo f t v1) T) S := by
  by_cases hb : v1 < 0 ∨ nI t < v1
  · rw [rw_bad hb]
    refine cm_X11_world (sp_X11_world_bad h (by rw [P.2.1]; exact hb)) h (fun x T hp h => ⟨h, ?_⟩)
    have F := hp.2.2.1
    exact ⟨fun b _ hv => ⟨(F.2.2.2.2.1 b hv).1, by rw [F.2.2.2.1]⟩, fun j _ _ => by rw [F.2.2.2.1], fun x hx => Or.inl (by rw [← F.1]; exact hx), by rw [F.2.2.2.1]⟩
  · obtain ⟨n, hn, hv⟩ := n_of ht (fun z => hb (Or.inl z)) (fun z => hb (Or.inr z))
    rw [rw_ok ht hn hv]
    refine cm_X11_world (sq_X11_world_ok h hv (by omega) P.1 P.2.2.2.1 P.2.2.1 (fun j hj => P.2.2.2.2.2 j (by omega)) (fun j hj => hB j (by omega)) ?_) h (fun x T hp h => ⟨h, ?_⟩)
    · rw [P.2.1]
      exact Int32.not_lt.mp (fun z => hb (Or.inr z))
    obtain ⟨-, -, q1, q2, q3, q4⟩ := hp
    unfold RWs
    cases hR : sAll f n 1000 0 A00 with
    | inr e =>
      rw [hR] at q4
      exact ⟨q1, q2, q3, q4⟩
    | inl A =>
      rw [hR] at q4
      exact ⟨q1, q2, q3, q4⟩
end C18
/-! world on both sides keeps the worlds alike -/
section C19
variable {c r w w1 w2 m rd a t : Nat} {A : AS} {G : GC} {S T U : HS} {wi wr : List (Nat × Nat)} {R : Option (AS × GC)}
/-- what the reference's world(n) leaves of the rest -/
theorem me_x (e' : WMe m T R U) (g' : Gr T U) {x k : Nat} (ox : ob U x k) (hk : k ≠ 10 ∧ (k < 12 ∨ 16 ≤ k)) : ob T x k := by
  rcases e'.2.2.1 x ox.1 with z | z | z
  · exact ⟨z, (g' x z).2.1.symm.trans ox.2⟩
  · rw [ox.2] at z
    exact absurd z hk.1
  · rw [ox.2] at z
    omega
theorem me_f (om : ob T m 11) (e' : WMe m T R U) {x k j : Nat} (ox : ob T x k) (hj : k = 11 → j ≠ 3 ∧ j ≠ 4) : fR U x j = fR T x j := by
  by_cases z : x = m
  · subst z
    have := hj (ob_inj ox om)
    exact e'.2.1 j this.1 this.2
  · rw [(e'.1 x ox.1 z).2]
theorem me_nw (om : ob T m 11) (e' : WMe m T R U) (g' : Gr T U) (d : Nat) (h : NWq T d) : NWq U d := by
  intro q hq x ox z
  have hk : q.1 ≠ 10 ∧ (q.1 < 12 ∨ 16 ≤ q.1) ∧ (q.1 = 11 → q.2 ≠ 3 ∧ q.2 ≠ 4) := by
    simp only [List.mem_cons, List.not_mem_nil, or_false] at hq
    rcases hq with h | h | h | h | h | h | h | h <;> (rw [h]; decide)
  have oT := me_x e' g' ox ⟨hk.1, hk.2.1⟩
  rw [me_f om e' oT hk.2.2] at z
  exact h q hq x oT z
theorem nx_k {q : Nat × Nat} (hq : q ∈ nxT) : q.1 ≠ 10 ∧ (q.1 < 12 ∨ 16 ≤ q.1) ∧ (q.1 = 11 → q.2 ≠ 3 ∧ q.2 ≠ 4) := by
  simp only [List.mem_cons, List.not_mem_nil, or_false] at hq
  rcases hq with h | h | h | h | h | h | h | h | h | h | h | h <;> (rw [h]; decide)
theorem me_nw8 (om : ob T m 11) (e' : WMe m T R U) (g' : Gr T U) (d : Nat) (h : NW8 T d) : NW8 U d := by
  intro q hq x ox z
  have hk := nx_k hq
  have oT := me_x e' g' ox ⟨hk.1, hk.2.1⟩
  rw [me_f om e' oT hk.2.2] at z
  exact h q hq x oT z
theorem nx_in (hT : IV T) {q : Nat × Nat} (hq : q ∈ nxT) {x b : Nat} (ox : ob T x q.1) (e : fR T x q.2 = some b) : b ∈ hL T := by
  have hs : ∃ s ∈ shT, s.1 = q.1 ∧ s.2.1 = q.2 := by
    simp only [List.mem_cons, List.not_mem_nil, or_false] at hq
    rcases hq with rfl | rfl | rfl | rfl | rfl | rfl | rfl | rfl | rfl | rfl | rfl | rfl <;> decide
  obtain ⟨s, hs, h1, h2⟩ := hs
  obtain ⟨d, e1, e2, -⟩ := hT.1 s hs x (by rw [h1]; exact ox)
  rw [h2] at e1
  cases e1.symm.trans e
  exact e2.1
theorem rd_k (hU : IV U) (o : ob U rd 10) {i b : Nat} (h1 : 7 ≤ i) (h2 : i ≤ 27) (e : fR U rd i = some b) : ob U b 13 ∨ ob U b 15 := by
  have hs : ∀ i, i < 28 → 7 ≤ i → ∃ s ∈ shT, s.1 = 10 ∧ s.2.1 = i ∧ (s.2.2.1 = 13 ∨ s.2.2.1 = 15) := by decide
  obtain ⟨s, hs, q1, q2, q3⟩ := hs i (by omega) h1
  obtain ⟨d, e1, e2, -⟩ := hU.1 s hs rd (by rw [q1]; exact o)
  rw [q2] at e1
  cases e1.symm.trans e
  exact q3.elim (fun z => Or.inl (z ▸ e2)) (fun z => Or.inr (z ▸ e2))
/-- the class's side over the reference's world(n) -/
theorem cls_U (hT : IV T) (om : ob T m 11) (e' : WMe m T R U) (g' : Gr T U) (J : CJ c r w1 w2 T) (h1 : Cnt w1 A T) (h2 : CtB w1 A G T T) (ab : ABd A) : CJ c r w1 w2 U ∧ Cnt w1 A U ∧ CtB w1 A G U U := by
  have J0 := J
  obtain ⟨j1, j2, j3, oc, orr, o1, o2, -⟩ := J0
  have FWf : FW T U := ⟨fun x ox j _ => me_f om e' ox (fun z => absurd z (by decide)), fun x hx hk => funext fun j => me_f om e' (k := hK T x) ⟨hx, rfl⟩ (fun z => by
    rw [z] at hk
    exact absurd hk (by decide))⟩
  have row : ∀ b k, ob T b k → k ≠ 11 → fI U b = fI T b := fun b k ob_ hk => (e'.1 b ob_.1 (ob_ne ob_ om hk)).1
  refine ⟨cj_mv hT g' FWf (fun d _ n => me_nw om e' g' d n) J (me_f om e' oc (fun z => absurd z (by decide))) (me_f om e' oc (fun z => absurd z (by decide))) (me_f om e' orr (fun z => absurd z (by decide))), cn_row h1 (row w1 8 o1 (by decide)), ctb_mv (S := T) hT o1 ab (fun _ _ => rfl) (fun _ _ _ => rfl) (FWf.1 w1 o1) FWf.2 (fun b hb => ?_) h2⟩
  rcases woi_k hT o1 hb with (k | k | k | k) | ⟨k, -⟩
  · exact row b 8 k (by decide)
  · exact row b 3 k (by decide)
  · exact row b 5 k (by decide)
  · exact row b 6 k (by decide)
  · exact row b 13 k (by decide)
theorem wr_world (hI : IV S) (hT : IV T) (hU : IV U) (om : ob S m 11) (J : CJ c r w1 w2 S) (h1 : Cnt w1 A S) (h2 : CtB w1 A G S S) (h3 : ABd A) (h4 : (fR S m 3 = none ∧ A = A00) ∨ ∃ rd, WRm m rd A G S) (g : Gr S T) (K' : K8 S T) (F : FRI wi wr S T) (hR : (11, 3) ∉ wr) (h10 : ∀ i, i < 31 → (10, i) ∉ wr) (h10i : ∀ j, j < 6 → (10, j) ∉ wi) (hW8 : ∀ j ∈ ([6, 7, 8, 9, 10, 11] : List Nat), (8, j) ∉ wr) (g' : Gr T U) (e : WCe c r w1 w2 S R T) (e' : WMe m T R U) : WRx c m U := by
  have omT := gr_ob g om
  have o1 := J.2.2.2.2.2.1
  cases R with
  | none =>
    obtain ⟨JT, rows⟩ := e
    have hw : fI T w1 = fI S w1 := rows w1 (Or.inl rfl)
    have oT := JT.2.2.2.2.2.1
    -- the joints of the world told are the same in T
    have c1 : Cnt w1 A T := cn_row h1 hw
    have FWf : (∀ j ∈ ([6, 7, 8, 9, 10, 11] : List Nat), fR T w1 j = fR S w1 j) ∧ ∀ x, x ∈ hL S → 17 ≤ hK S x → fR T x = fR S x := ⟨fun j hj => F.2 8 j (by decide) (hW8 j hj) w1 o1, fun x hx hk => K'.2.1 x (hK S x) hk ⟨hx, rfl⟩⟩
    have c2 : CtB w1 A G T T := ctb_mv (S := S) hI o1 h3 (fun _ _ => rfl) (fun _ _ _ => rfl) FWf.1 FWf.2 rows h2
    obtain ⟨q1, q2, q3⟩ := cls_U hT omT e' g' JT c1 c2 h3
    refine ⟨A, G, r, w1, w2, q1, q2, q3, h3, ?_⟩
    have e3 : fR U m 3 = fR S m 3 := e'.2.2.2.trans (F.2 11 3 (by decide) hR m om)
    rcases h4 with ⟨n, hA⟩ | ⟨rd, hm⟩
    · exact Or.inl ⟨e3.trans n, hA⟩
    · have hmT : WRm m rd A G T := wrm_mv g hm (F.2 11 3 (by decide) hR m om) (fun i hi => F.2 10 i (by decide) (h10 i hi) rd hm.2.1) (fun j hj => F.1 10 j (by decide) (h10i j hj) rd hm.2.1) (fun b o n => K'.2.2 b ⟨o, n⟩)
      have nrm : rd ≠ m := ob_ne hmT.2.1 omT (by decide)
      exact Or.inr ⟨rd, wrm_mv g' hmT e'.2.2.2 (fun i _ => by rw [(e'.1 rd hmT.2.1.1 nrm).2]) (fun j _ => by rw [(e'.1 rd hmT.2.1.1 nrm).1]) (fun b o n => ⟨o.elim (fun o => (e'.1 b o.1 (ob_ne o omT (by decide))).1) (fun o => (e'.1 b o.1 (ob_ne o omT (by decide))).1), me_nw8 omT e' g' b n⟩)⟩
  | some p =>
    obtain ⟨JT, c1, c2, ab⟩ := e
    obtain ⟨q1, q2, q3⟩ := cls_U hT omT e' g' JT c1 c2 ab
    obtain ⟨rd, r1, r2, r3, r4, r5, r6, r7⟩ := e'.2.2.2
    refine ⟨p.1, p.2, r, w2, w1, q1, q2, q3, ab, Or.inr ⟨rd, r1, r3, r5, r4, r6, fun i b i1 i2 eb => ⟨rd_k hU r3 i1 i2 eb, fun q hq x ox z => ?_⟩⟩⟩
    have hk := nx_k hq
    have oT := me_x e' g' ox ⟨hk.1, hk.2.1⟩
    rw [me_f omT e' oT hk.2.2] at z
    exact r7 i b eb (nx_in hT hq oT z)
end C19
