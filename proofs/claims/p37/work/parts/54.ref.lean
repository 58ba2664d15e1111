/-! the reference's reader: what it carries -/
def WN (S : HS) (o : Nat) : Prop := ∃ w, fR S o 3 = some w
def WI (S : HS) (o c : Nat) (v : Int32) : Prop := ∃ w, fR S o 3 = some w ∧ 0 ≤ v ∧ v < fI S w c
/-- the world that is read is sound so far, and no one's -/
def RG (S : HS) (o : Nat) : Prop := ∃ w, fR S o 4 = some w ∧ ob S w 10 ∧ NW S w ∧ WG S w
def RN (S : HS) (o : Nat) : Prop := ∀ w, fR S o 4 = some w → fI S w 6 = fI S w 2 + fI S w 4
def KR (S : HS) (o : Nat) (v r : Int32) : Prop := fI S o 9 = 5 ∨ ∃ w, fR S o 4 = some w ∧ 0 ≤ r ∧ (v = 0 → r < fI S w 2) ∧ (v = 1 → r < fI S w 4)
theorem nn_ne {x y : Int32} (hy : 0 ≤ y) (h : y < x) : y.toNatClampNeg ≠ x.toNatClampNeg := by
  have a : 0 ≤ y.toInt := by simpa using Int32.le_iff_toInt_le.mp hy
  have b := Int32.lt_iff_toInt_lt.mp h
  show y.toInt.toNat ≠ x.toInt.toNat
  omega
theorem i32_lt1 {x y : Int32} (hr : 0 ≤ x ∧ x < 1000) (h : y < x + 1) : y < x ∨ y = x := by
  have a : 0 ≤ x.toInt := by simpa using Int32.le_iff_toInt_le.mp hr.1
  have b : x.toInt < 1000 := by simpa using Int32.lt_iff_toInt_lt.mp hr.2
  have c := Int32.lt_iff_toInt_lt.mp h
  have d : (x + 1).toInt = x.toInt + 1 := by
    rw [Int32.toInt_add]
    exact Int.bmod_eq_of_le (by simp; omega) (by simp; omega)
  rw [d] at c
  by_cases e : y.toInt < x.toInt
  · exact Or.inl (Int32.lt_iff_toInt_lt.mpr e)
  · exact Or.inr (Int32.toInt_inj.mp (by omega))
theorem i32_up {x z : Int32} (hr : 0 ≤ x ∧ x < 1000) (h : z < x) : z < x + 1 := by
  have a : 0 ≤ x.toInt := by simpa using Int32.le_iff_toInt_le.mp hr.1
  have b : x.toInt < 1000 := by simpa using Int32.lt_iff_toInt_lt.mp hr.2
  have c := Int32.lt_iff_toInt_lt.mp h
  have d : (x + 1).toInt = x.toInt + 1 := by
    rw [Int32.toInt_add]
    exact Int.bmod_eq_of_le (by simp; omega) (by simp; omega)
  exact Int32.lt_iff_toInt_lt.mpr (by rw [d]; omega)
theorem i32_self {x : Int32} (hr : 0 ≤ x ∧ x < 1000) : x < x + 1 := by
  have a : 0 ≤ x.toInt := by simpa using Int32.le_iff_toInt_le.mp hr.1
  have b : x.toInt < 1000 := by simpa using Int32.lt_iff_toInt_lt.mp hr.2
  have d : (x + 1).toInt = x.toInt + 1 := by
    rw [Int32.toInt_add]
    exact Int.bmod_eq_of_le (by simp; omega) (by simp; omega)
  exact Int32.lt_iff_toInt_lt.mpr (by rw [d]; omega)
theorem i32_add {x y : Int32} (hx : 0 ≤ x ∧ x < 1000) (hy : 0 ≤ y ∧ y < 1000) : (x + y).toInt = x.toInt + y.toInt := by
  have a : 0 ≤ x.toInt := by simpa using Int32.le_iff_toInt_le.mp hx.1
  have b : x.toInt < 1000 := by simpa using Int32.lt_iff_toInt_lt.mp hx.2
  have c : 0 ≤ y.toInt := by simpa using Int32.le_iff_toInt_le.mp hy.1
  have d : y.toInt < 1000 := by simpa using Int32.lt_iff_toInt_lt.mp hy.2
  rw [Int32.toInt_add]
  exact Int.bmod_eq_of_le (by omega) (by omega)
theorem i32_lt2 {x k z : Int32} (hx : 0 ≤ x ∧ x < 1000) (hk : 0 ≤ k ∧ k < 1000) (h : z < x + 1 + k) : z < x + k ∨ z = x + k := by
  have a : 0 ≤ x.toInt := by simpa using Int32.le_iff_toInt_le.mp hx.1
  have b : x.toInt < 1000 := by simpa using Int32.lt_iff_toInt_lt.mp hx.2
  have c : 0 ≤ k.toInt := by simpa using Int32.le_iff_toInt_le.mp hk.1
  have d : k.toInt < 1000 := by simpa using Int32.lt_iff_toInt_lt.mp hk.2
  have e := i32_add hx hk
  have g : (x + 1).toInt = x.toInt + 1 := by
    rw [Int32.toInt_add]
    exact Int.bmod_eq_of_le (by simp; omega) (by simp; omega)
  have i : (x + 1 + k).toInt = x.toInt + 1 + k.toInt := by
    rw [Int32.toInt_add, g]
    exact Int.bmod_eq_of_le (by omega) (by omega)
  have j := Int32.lt_iff_toInt_lt.mp h
  rw [i] at j
  by_cases l : z.toInt < x.toInt + k.toInt
  · exact Or.inl (Int32.lt_iff_toInt_lt.mpr (by rw [e]; exact l))
  · exact Or.inr (Int32.toInt_inj.mp (by rw [e]; omega))
theorem de_zero (z : Nat) : de1 z 0 := ⟨fun _ => by decide, fun _ => by decide⟩
theorem de_0 {v : Int64} (h : 0 ≤ v ∧ v ≤ 7) : de1 (0 : Int32).toNatClampNeg v := ⟨fun _ => h, fun z => absurd z (by decide)⟩
theorem de_1 {v : Int64} (h : 0 ≤ v ∧ v ≤ 999) : de1 (1 : Int32).toNatClampNeg v := ⟨fun z => absurd z (by decide), fun _ => h⟩
theorem de_tr {z z' : Nat} {v : Int64} (h : de1 z v) (e : z' % 7 = z % 7) : de1 z' v := ⟨fun t => h.1 (e ▸ t), fun t => h.2 (e ▸ t)⟩
theorem de_free {x : Int32} {v : Int64} (h : 2 ≤ x ∧ x < 7) : de1 x.toNatClampNeg v := by
  have a : 2 ≤ x.toInt := by simpa using Int32.le_iff_toInt_le.mp h.1
  have b : x.toInt < 7 := by simpa using Int32.lt_iff_toInt_lt.mp h.2
  have e : x.toNatClampNeg = x.toInt.toNat := rfl
  exact ⟨fun z => by rw [e] at z; omega, fun z => by rw [e] at z; omega⟩
section Rd
variable {S T : HS} {a b w o j k q i x : Nat}
theorem kr0 {r : Int32} (h : KR S o 0 r) (e : fR S o 4 = some w) : fI S o 9 = 5 ∨ (0 ≤ r ∧ r < fI S w 2) := by
  rcases h with g | ⟨w', e', g1, g2, -⟩
  · exact Or.inl g
  · cases e.symm.trans e'
    exact Or.inr ⟨g1, g2 rfl⟩
theorem kr1 {r : Int32} (h : KR S o 1 r) (e : fR S o 4 = some w) : fI S o 9 = 5 ∨ (0 ≤ r ∧ r < fI S w 4) := by
  rcases h with g | ⟨w', e', g1, -, g2⟩
  · exact Or.inl g
  · cases e.symm.trans e'
    exact Or.inr ⟨g1, g2 rfl⟩
theorem rg_nw (h : RG S o) (e : fR S o 4 = some w) : NW S w := by
  obtain ⟨w', e', -, h2, -⟩ := h
  cases e.symm.trans e'
  exact h2
theorem rg_wg (h : RG S o) (e : fR S o 4 = some w) : WG S w := by
  obtain ⟨w', e', -, -, h2⟩ := h
  cases e.symm.trans e'
  exact h2
theorem rg_J {v : Int64} (E : T = sJ S a j v) (h : RG S o) : RG T o := by rw [E]; exact h
theorem rg_11 {v : Int32} (E : T = sI S a j v) (hI : IV S) (oa : ob S a 11) (h : RG S o) : RG T o := by
  obtain ⟨w, e, ow, hn, hg⟩ := h
  rw [E]
  refine ⟨w, e, ow, hn, wg_same (S := S) ⟨u2_row _ _ (fun z => ?_), rfl, fun i b hp hb => u2_row _ _ (fun z => ?_)⟩ hg⟩
  · have := ob_inj (z ▸ ow) oa; omega
  · obtain ⟨r, r1, r2, r3⟩ := pr_kind hI.1 ow hp hb
    have := ob_inj (z ▸ r1) oa; omega
/-- an array of the world that is read, at its counter -/
theorem rg_a {v x : Int32} {jj : Nat} (E : T = sI S b x.toNatClampNeg v) (hI : IV S) (er : fR S o 4 = some w) (ow : ob S w 10) (eb : fR S w jj = some b) (p : ob S b q) (hq : 12 ≤ q) (h1 : ∀ e ∈ wgT, e.2.1 = jj → fI S w e.1 = x) (h2 : jj = 29 ∨ jj = 30 → fI S w 2 + fI S w 4 = x) (h : RG S o) : RG T o := by
  have hn := rg_nw h er
  have hg := rg_wg h er
  rw [E]
  have hwb : w ≠ b := fun z => by have := ob_inj (z ▸ ow) p; omega
  have hw : fI (sI S b x.toNatClampNeg v) w = fI S w := u2_row _ _ hwb
  have hp : ∀ e ∈ wgT, (10, e.2.1) ∈ prT := by decide
  refine ⟨w, er, ow, hn, fun e he y h0 hy c hc => ?_, fun y h0 hy c d hc hd => ?_⟩
  · rw [hw] at hy
    have hc : fR S w e.2.1 = some c := hc
    have g := hg.1 e he y h0 hy c hc
    unfold EG at g ⊢
    rw [hw]
    have : fI (sI S b x.toNatClampNeg v) c y.toNatClampNeg = fI S c y.toNatClampNeg := by
      refine u2_ne _ _ (fun z => ?_)
      have hj := (hI.2.2.2.2.1 w 10 jj w 10 e.2.1 b ow (by omega) ow (hp e he) eb (z.1 ▸ hc)).2
      exact nn_ne h0 (h1 e he hj.symm ▸ hy) z.2
    rw [this]
    exact g
  · rw [hw] at hy
    have hc : fR S w 29 = some c := hc
    have hd : fR S w 30 = some d := hd
    have e1 : fI (sI S b x.toNatClampNeg v) c y.toNatClampNeg = fI S c y.toNatClampNeg := by
      refine u2_ne _ _ (fun z => ?_)
      have hj := (hI.2.2.2.2.1 w 10 jj w 10 29 b ow (by omega) ow (by decide) eb (z.1 ▸ hc)).2
      exact nn_ne h0 (h2 (Or.inl hj) ▸ hy) z.2
    have e2 : fI (sI S b x.toNatClampNeg v) d y.toNatClampNeg = fI S d y.toNatClampNeg := by
      refine u2_ne _ _ (fun z => ?_)
      have hj := (hI.2.2.2.2.1 w 10 jj w 10 30 b ow (by omega) ow (by decide) eb (z.1 ▸ hd)).2
      exact nn_ne h0 (h2 (Or.inr hj) ▸ hy) z.2
    rw [e1, e2, hw]
    exact hg.2 y h0 hy c d hc hd
theorem h1_no {jj : Nat} {x : Int32} (h : (wgT.all fun e => !(e.2.1 == jj)) = true) : ∀ e ∈ wgT, e.2.1 = jj → fI S w e.1 = x := by
  intro e he h1
  have := List.all_eq_true.mp h e he
  simp [h1] at this
theorem h1_one {jj c : Nat} {x lo hi : Int32} {hf : Nat} (h : wgT.filter (fun e => e.2.1 == jj) = [(c, jj, lo, hi, hf)]) (hx : fI S w c = x) : ∀ e ∈ wgT, e.2.1 = jj → fI S w e.1 = x := by
  intro e he h1
  have hm : e ∈ wgT.filter (fun e => e.2.1 == jj) := List.mem_filter.mpr ⟨he, by simp [h1]⟩
  rw [h] at hm
  cases List.mem_singleton.mp hm
  exact hx
theorem h2_no {jj : Nat} {y : Int32} (h : jj ≠ 29 ∧ jj ≠ 30) {P : Prop} : jj = 29 ∨ jj = 30 → P := fun z => absurd z (by omega)
/-- a counter on which nothing depends -/
theorem rg_c {v : Int32} (E : T = sI S w j v) (hI : IV S) (er : fR S o 4 = some w) (ow : ob S w 10) (hj : j ≠ 2 ∧ j ≠ 3 ∧ j ≠ 4 ∧ j ≠ 5) (h : RG S o) : RG T o := by
  have hn := rg_nw h er
  have hg := rg_wg h er
  rw [E]
  have hc : ∀ c, c = 2 ∨ c = 3 ∨ c = 4 ∨ c = 5 → fI (sI S w j v) w c = fI S w c := fun c hc => u2_ne _ _ (fun z => by omega)
  have ht : ∀ e ∈ wgT, (e.1 = 2 ∨ e.1 = 3 ∨ e.1 = 4 ∨ e.1 = 5) ∧ (e.2.2.2.2 = 99 ∨ e.2.2.2.2 = 2 ∨ e.2.2.2.2 = 4) := by decide
  have hp : ∀ e ∈ wgT, (10, e.2.1) ∈ prT := by decide
  have hb : ∀ i b, (10, i) ∈ prT → fR S w i = some b → fI (sI S w j v) b = fI S b := fun i b hp hb => u2_row _ _ (fun z => by
    obtain ⟨r, r1, r2, r3⟩ := pr_kind hI.1 ow hp hb
    have := ob_inj (z ▸ r1) ow; omega)
  refine ⟨w, er, ow, hn, fun e he y h0 hy c hc' => ?_, fun y h0 hy c d hc' hd => ?_⟩
  · rw [hc _ (ht e he).1] at hy
    have g := hg.1 e he y h0 hy c hc'
    unfold EG at g ⊢
    rw [hb _ c (hp e he) hc']
    refine ⟨g.1, g.2.1, ?_⟩
    rcases (ht e he).2 with z | z | z
    · exact Or.inl z
    · rw [hc _ (by omega)]; exact g.2.2
    · rw [hc _ (by omega)]; exact g.2.2
  · rw [hc 2 (by omega), hc 4 (by omega)] at hy
    rw [hb _ c (by decide) hc', hb _ d (by decide) hd, hc 2 (by omega), hc 4 (by omega)]
    exact hg.2 y h0 hy c d hc' hd
/-- one more: a counter c goes up by one from y; what stands at y is sound -/
theorem rg_inc {v y : Int32} {c : Nat} (E : T = sI S w c v) (hI : IV S) (er : fR S o 4 = some w) (ow : ob S w 10) (hy : fI S w c = y) (hv : v = y + 1) (hr : 0 ≤ y ∧ y < 1000)
    (hn : ∀ e ∈ wgT, e.1 = c → ∀ b, fR S w e.2.1 = some b → EG S w e (fI S b y.toNatClampNeg))
    (hs : ∀ (z : Int32), 0 ≤ z → z < fI T w 2 + fI T w 4 → z < fI S w 2 + fI S w 4 ∨ (∀ b d, fR S w 29 = some b → fR S w 30 = some d → 0 ≤ fI S d z.toNatClampNeg ∧ (fI S b z.toNatClampNeg = 0 → fI S d z.toNatClampNeg < fI T w 2) ∧ (fI S b z.toNatClampNeg = 1 → fI S d z.toNatClampNeg < fI T w 4))) (h : RG S o) : RG T o := by
  have hnw := rg_nw h er
  have hg := rg_wg h er
  subst E
  have hc : ∀ d, d ≠ c → fI (sI S w c v) w d = fI S w d := fun d hd => u2_ne _ _ (fun z => hd z.2)
  have hcc : fI (sI S w c v) w c = v := u2_self _ _ _ _
  have hmon : ∀ z : Int32, z < y → z < v := fun z hz => by rw [hv]; exact i32_up hr hz
  have hup : ∀ (d : Nat) (z : Int32), z < fI S w d → z < fI (sI S w c v) w d := fun d z hz => by
    by_cases e : d = c
    · rw [e, hcc]; rw [e, hy] at hz; exact hmon z hz
    · rw [hc d e]; exact hz
  have hp : ∀ e ∈ wgT, (10, e.2.1) ∈ prT := by decide
  have hb : ∀ i b, (10, i) ∈ prT → fR S w i = some b → fI (sI S w c v) b = fI S b := fun i b hp hb => u2_row _ _ (fun z => by
    obtain ⟨r, r1, r2, r3⟩ := pr_kind hI.1 ow hp hb
    have := ob_inj (z ▸ r1) ow; omega)
  have heg : ∀ e z, EG S w e z → EG (sI S w c v) w e z := fun e z g => ⟨g.1, g.2.1, g.2.2.elim Or.inl (fun g => Or.inr (hup _ _ g))⟩
  refine ⟨w, er, ow, hnw, fun e he z h0 hz b hb' => ?_, fun z h0 hz b d hb' hd => ?_⟩
  · rw [hb _ b (hp e he) hb']
    refine heg e _ ?_
    by_cases g : e.1 = c
    · rw [g, hcc, hv] at hz
      rcases i32_lt1 hr hz with g1 | g1
      · exact hg.1 e he z h0 (by rw [g, hy]; exact g1) b hb'
      · rw [g1]; exact hn e he g b hb'
    · rw [hc _ g] at hz
      exact hg.1 e he z h0 hz b hb'
  · rw [hb _ b (by decide) hb', hb _ d (by decide) hd]
    rcases hs z h0 hz with g | g
    · have g2 := hg.2 z h0 g b d hb' hd
      exact ⟨g2.1, fun t => hup _ _ (g2.2.1 t), fun t => hup _ _ (g2.2.2 t)⟩
    · exact g b d hb' hd
theorem hs_no {c : Nat} {v : Int32} {P : Int32 → Prop} (hc : c ≠ 2 ∧ c ≠ 4) (z : Int32) (hz : z < fI (sI S w c v) w 2 + fI (sI S w c v) w 4) : z < fI S w 2 + fI S w 4 ∨ P z := by
  rw [show fI (sI S w c v) w 2 = fI S w 2 from u2_ne _ _ (fun t => by omega), show fI (sI S w c v) w 4 = fI S w 4 from u2_ne _ _ (fun t => by omega)] at hz
  exact Or.inl hz
theorem hn_2 {y : Int32} : ∀ e ∈ wgT, e.1 = 2 → ∀ b, fR S w e.2.1 = some b → EG S w e (fI S b y.toNatClampNeg) := by
  intro e he h1
  have : ∀ e ∈ wgT, e.1 ≠ 2 := by decide
  exact absurd h1 (this e he)
theorem hn_3 {y : Int32} {b1 b2 b3 : Nat} (e1 : fR S w 13 = some b1) (g1 : EG S w (3, 13, 0, 7, 2) (fI S b1 y.toNatClampNeg)) (e2 : fR S w 14 = some b2) (g2 : EG S w (3, 14, 0, 7, 2) (fI S b2 y.toNatClampNeg)) (e3 : fR S w 16 = some b3) (g3 : EG S w (3, 16, 1, 60, 99) (fI S b3 y.toNatClampNeg)) : ∀ e ∈ wgT, e.1 = 3 → ∀ b, fR S w e.2.1 = some b → EG S w e (fI S b y.toNatClampNeg) := by
  intro e he h1 b hb
  have hm : e ∈ wgT.filter (fun e => e.1 == 3) := List.mem_filter.mpr ⟨he, by simp [h1]⟩
  rw [show wgT.filter (fun e => e.1 == 3) = [(3, 13, 0, 7, 2), (3, 14, 0, 7, 2), (3, 16, 1, 60, 99)] by decide] at hm
  simp only [List.mem_cons, List.not_mem_nil, or_false] at hm
  rcases hm with rfl | rfl | rfl
  · cases e1.symm.trans hb; exact g1
  · cases e2.symm.trans hb; exact g2
  · cases e3.symm.trans hb; exact g3
theorem hn_4 {y : Int32} {b1 b2 : Nat} (e1 : fR S w 24 = some b1) (g1 : EG S w (4, 24, 1, 9, 99) (fI S b1 y.toNatClampNeg)) (e2 : fR S w 25 = some b2) (g2 : EG S w (4, 25, 0, 9, 99) (fI S b2 y.toNatClampNeg)) : ∀ e ∈ wgT, e.1 = 4 → ∀ b, fR S w e.2.1 = some b → EG S w e (fI S b y.toNatClampNeg) := by
  intro e he h1 b hb
  have hm : e ∈ wgT.filter (fun e => e.1 == 4) := List.mem_filter.mpr ⟨he, by simp [h1]⟩
  rw [show wgT.filter (fun e => e.1 == 4) = [(4, 24, 1, 9, 99), (4, 25, 0, 9, 99)] by decide] at hm
  simp only [List.mem_cons, List.not_mem_nil, or_false] at hm
  rcases hm with rfl | rfl
  · cases e1.symm.trans hb; exact g1
  · cases e2.symm.trans hb; exact g2
theorem hn_5 {y : Int32} {b1 : Nat} (e1 : fR S w 26 = some b1) (g1 : EG S w (5, 26, 0, 3, 4) (fI S b1 y.toNatClampNeg)) : ∀ e ∈ wgT, e.1 = 5 → ∀ b, fR S w e.2.1 = some b → EG S w e (fI S b y.toNatClampNeg) := by
  intro e he h1 b hb
  have hm : e ∈ wgT.filter (fun e => e.1 == 5) := List.mem_filter.mpr ⟨he, by simp [h1]⟩
  rw [show wgT.filter (fun e => e.1 == 5) = [(5, 26, 0, 3, 4)] by decide] at hm
  cases List.mem_singleton.mp hm
  cases e1.symm.trans hb; exact g1
theorem hs_2 {v y k i9 i3 : Int32} {b9 b3 : Nat} (E : T = sI S w 2 v) (hy : fI S w 2 = y) (hk : fI S w 4 = k) (hv : v = y + 1) (hr : 0 ≤ y ∧ y < 1000) (hkr : 0 ≤ k ∧ k < 1000) (e9 : fR S w 29 = some b9) (e3 : fR S w 30 = some b3) (l9 : fI S b9 i9.toNatClampNeg = 0) (l3 : fI S b3 i3.toNatClampNeg = y) (h9 : i9 = y + k) (h3 : i3 = y + k) : ∀ (z : Int32), 0 ≤ z → z < fI T w 2 + fI T w 4 → z < fI S w 2 + fI S w 4 ∨ (∀ b d, fR S w 29 = some b → fR S w 30 = some d → 0 ≤ fI S d z.toNatClampNeg ∧ (fI S b z.toNatClampNeg = 0 → fI S d z.toNatClampNeg < fI T w 2) ∧ (fI S b z.toNatClampNeg = 1 → fI S d z.toNatClampNeg < fI T w 4)) := by
  intro z h0 hz
  subst E
  have t2 : fI (sI S w 2 v) w 2 = y + 1 := (u2_self _ _ _ _).trans hv
  have t4 : fI (sI S w 2 v) w 4 = k := (u2_ne _ _ (fun t => by omega)).trans hk
  rw [t2, t4] at hz ⊢
  rw [hy, hk]
  rcases i32_lt2 hr hkr hz with g | g
  · exact Or.inl g
  · refine Or.inr (fun b d hb hd => ?_)
    cases e9.symm.trans hb
    cases e3.symm.trans hd
    rw [show fI S b9 z.toNatClampNeg = 0 by rw [g, ← h9]; exact l9, show fI S b3 z.toNatClampNeg = y by rw [g, ← h3]; exact l3]
    exact ⟨hr.1, fun _ => i32_self hr, fun t => absurd t (by decide)⟩
theorem hs_4 {v y k i9 i3 : Int32} {b9 b3 : Nat} (E : T = sI S w 4 v) (hy : fI S w 4 = y) (hk : fI S w 2 = k) (hv : v = y + 1) (hr : 0 ≤ y ∧ y < 1000) (hkr : 0 ≤ k ∧ k < 1000) (e9 : fR S w 29 = some b9) (e3 : fR S w 30 = some b3) (l9 : fI S b9 i9.toNatClampNeg = 1) (l3 : fI S b3 i3.toNatClampNeg = y) (h9 : i9 = k + y) (h3 : i3 = k + y) : ∀ (z : Int32), 0 ≤ z → z < fI T w 2 + fI T w 4 → z < fI S w 2 + fI S w 4 ∨ (∀ b d, fR S w 29 = some b → fR S w 30 = some d → 0 ≤ fI S d z.toNatClampNeg ∧ (fI S b z.toNatClampNeg = 0 → fI S d z.toNatClampNeg < fI T w 2) ∧ (fI S b z.toNatClampNeg = 1 → fI S d z.toNatClampNeg < fI T w 4)) := by
  intro z h0 hz
  subst E
  have t4 : fI (sI S w 4 v) w 4 = y + 1 := (u2_self _ _ _ _).trans hv
  have t2 : fI (sI S w 4 v) w 2 = k := (u2_ne _ _ (fun t => by omega)).trans hk
  rw [t2, t4] at hz ⊢
  rw [hy, hk]
  have hz2 : z < y + 1 + k := by rw [Int32.add_comm]; exact hz
  rcases i32_lt2 hr hkr hz2 with g | g
  · exact Or.inl (by rw [Int32.add_comm]; exact g)
  · refine Or.inr (fun b d hb hd => ?_)
    cases e9.symm.trans hb
    cases e3.symm.trans hd
    have hc : y + k = k + y := Int32.add_comm y k
    rw [show fI S b9 z.toNatClampNeg = 1 by rw [g, hc, ← h9]; exact l9, show fI S b3 z.toNatClampNeg = y by rw [g, hc, ← h3]; exact l3]
    exact ⟨hr.1, fun t => absurd t (by decide), fun _ => i32_self hr⟩
/-- what known answers -/
theorem kn_ok {v y n r : Int32} {b9 b3 : Nat} (hG : RG S o) (hn : RN S o) (e : fR S o 4 = some w) (e9 : fR S w 29 = some b9) (e3 : fR S w 30 = some b3) (h0 : 0 ≤ y) (h1 : y < fI S w 6) (l9 : fI S b9 y.toNatClampNeg = v) (l3 : r = fI S b3 y.toNatClampNeg) : KR S o v r := by
  rw [hn w e] at h1
  have g := (rg_wg hG e).2 y h0 h1 b9 b3 e9 e3
  rw [l9] at g
  rw [← l3] at g
  exact Or.inr ⟨w, e, g⟩
theorem rn_J {v : Int64} (E : T = sJ S a j v) (h : RN S o) : RN T o := by rw [E]; exact h
theorem rn_11 {v : Int32} (E : T = sI S a j v) (hI : IV S) (oo : ob S o 11) (oa : ob S a k) (hk : k ≠ 10) (h : RN S o) : RN T o := by
  intro w e
  rw [E] at e ⊢
  have ow := ml_ob4 hI oo e
  rw [show fI (sI S a j v) w = fI S w from u2_row _ _ (fun z => hk (ob_inj (z ▸ oa) ow))]
  exact h w e
theorem rn_c {v : Int32} (E : T = sI S a j v) (hj : j ≠ 2 ∧ j ≠ 4 ∧ j ≠ 6) (h : RN S o) : RN T o := by
  intro w e
  rw [E] at e ⊢
  rw [show fI (sI S a j v) w 6 = fI S w 6 from u2_ne _ _ (fun z => by omega), show fI (sI S a j v) w 2 = fI S w 2 from u2_ne _ _ (fun z => by omega), show fI (sI S a j v) w 4 = fI S w 4 from u2_ne _ _ (fun z => by omega)]
  exact h w e
theorem rn_fr {wi wr : List (Nat × Nat)} (fc : FRI wi wr S T) (g : Gr S T) (hI : IV S) (oo : ob S o 11) (hn : (11, 4) ∉ wr ∧ (10, 2) ∉ wi ∧ (10, 4) ∉ wi ∧ (10, 6) ∉ wi) (h : RN S o) : RN T o := by
  intro w e
  rw [frr_at fc (by decide) hn.1 oo] at e
  have ow := ml_ob4 hI oo e
  rw [fri_at fc (by decide) hn.2.1 ow, fri_at fc (by decide) hn.2.2.1 ow, fri_at fc (by decide) hn.2.2.2 ow]
  exact h w e
/-- the day itself and all rows of ints are as they were -/
def KP (S T : HS) (o : Nat) : Prop := (∀ b q, ob T b q → 12 ≤ q → fI T b = fI S b) ∧ ∀ b, fR T o 21 = some b → fJ T b = fJ S b
theorem kp_rf (S : HS) (o : Nat) : KP S S o := ⟨fun _ _ _ _ => rfl, fun _ _ => rfl⟩
theorem kp_I {S0 : HS} {v : Int32} (E : T = sI S a j v) (oa : ob S a k) (hk : k < 12) (h : KP S0 S o) : KP S0 T o := by
  rw [E]
  refine ⟨fun b q p hq => ?_, h.2⟩
  have p' : ob S b q := p
  rw [show fI (sI S a j v) b = fI S b from u2_row _ _ (fun z => by have e := ob_inj (show ob S b k by rw [z]; exact oa) p'; omega)]
  exact h.1 b q p' hq
theorem kp_J {S0 : HS} {v : Int64} (E : T = sJ S a j v) (hI : IV S) (oo : ob S o 11) (e : fR S o 22 = some a) (h : KP S0 S o) : KP S0 T o := by
  rw [E]
  refine ⟨h.1, fun c hc => ?_⟩
  have hc' : fR S o 21 = some c := hc
  rw [show fJ (sJ S a j v) c = fJ S c from u2_row _ _ (fun z => by
    have := (hI.2.2.2.2.1 o 11 22 o 11 21 a oo (by omega) oo (by decide) e (z ▸ hc')).2
    omega)]
  exact h.2 c hc'
/-- the minute, so many minutes more, stays below the last -/
def SJ (S : HS) (o : Nat) (n k : Int32) : Prop := ∀ b, fR S o 21 = some b → (fJ S b (1 : Int32).toNatClampNeg).toInt + n.toInt - k.toInt ≤ 999
theorem sj_I {v n k' : Int32} (E : T = sI S a j v) (h : SJ S o n k') : SJ T o n k' := by rw [E]; exact h
theorem sj_2 {v : Int64} {n k' : Int32} (E : T = sJ S a (2 : Int32).toNatClampNeg v) (h : SJ S o n k') : SJ T o n k' := by
  rw [E]
  intro c hc
  rw [show fJ (sJ S a (2 : Int32).toNatClampNeg v) c (1 : Int32).toNatClampNeg = fJ S c (1 : Int32).toNatClampNeg from u2_ne _ _ (fun z => absurd z.2 (by decide))]
  exact h c hc
theorem sj_1 {v x' : Int64} {n k' k2 : Int32} (E : T = sJ S a (1 : Int32).toNatClampNeg v) (e : fR S o 21 = some a) (ex : x' = fJ S a (1 : Int32).toNatClampNeg) (hv : v = x' + 1) (hx : 0 ≤ x' ∧ x' ≤ 999) (hk : 0 ≤ k' ∧ k' < 1000) (hk2 : k2 = k' + 1) (h : SJ S o n k') : SJ T o n k2 := by
  have h1 := h a e
  rw [← ex] at h1
  have a0 := Int64.le_iff_toInt_le.mp hx.1
  have a1 := Int64.le_iff_toInt_le.mp hx.2
  have z0 : (0 : Int64).toInt = 0 := by decide
  have z1 : (999 : Int64).toInt = 999 := by decide
  have z2 : (1 : Int64).toInt = 1 := by decide
  rw [z0] at a0
  rw [z1] at a1
  have d : v.toInt = x'.toInt + 1 := by
    rw [hv, Int64.toInt_add, z2]
    exact Int.bmod_eq_of_le (by omega) (by omega)
  have b0 : 0 ≤ k'.toInt := by simpa using Int32.le_iff_toInt_le.mp hk.1
  have b1 : k'.toInt < 1000 := by simpa using Int32.lt_iff_toInt_lt.mp hk.2
  have d2 : k2.toInt = k'.toInt + 1 := by
    rw [hk2, Int32.toInt_add]
    exact Int.bmod_eq_of_le (by simp; omega) (by simp; omega)
  rw [E]
  intro c hc
  have hc' : fR S o 21 = some c := hc
  cases e.symm.trans hc'
  rw [show fJ (sJ S a (1 : Int32).toNatClampNeg v) a (1 : Int32).toNatClampNeg = v from u2_self _ _ _ _, d, d2]
  omega
theorem sj_de {x' v : Int64} {n k' : Int32} (h : SJ S o n k') (e : fR S o 21 = some a) (ex : x' = fJ S a (1 : Int32).toNatClampNeg) (hv : v = x' + 1) (hx : 0 ≤ x' ∧ x' ≤ 999) (hk : k' < n) : de1 (1 : Int32).toNatClampNeg v := by
  have h1 := h a e
  rw [← ex] at h1
  have a0 := Int64.le_iff_toInt_le.mp hx.1
  have a1 := Int64.le_iff_toInt_le.mp hx.2
  have z0 : (0 : Int64).toInt = 0 := by decide
  have z1 : (999 : Int64).toInt = 999 := by decide
  have z2 : (1 : Int64).toInt = 1 := by decide
  rw [z0] at a0
  rw [z1] at a1
  have b := Int32.lt_iff_toInt_lt.mp hk
  have d : v.toInt = x'.toInt + 1 := by
    rw [hv, Int64.toInt_add, z2]
    exact Int.bmod_eq_of_le (by omega) (by omega)
  exact de_1 ⟨Int64.le_iff_toInt_le.mpr (by rw [z0, d]; omega), Int64.le_iff_toInt_le.mpr (by rw [z1, d]; omega)⟩
theorem sj_init {S0 : HS} {x' : Int64} {n : Int32} (ex : x' = fJ S0 a (1 : Int32).toNatClampNeg) (kp : KP S0 S o) (e : fR S o 21 = some a) (hx : 0 ≤ x' ∧ x' ≤ 999) (hn : 1 ≤ n ∧ n ≤ 60) (hc : x' + n.toInt64 ≤ 999) : SJ S o n 0 := by
  intro c hc'
  cases e.symm.trans hc'
  rw [kp.2 a e, ← ex]
  have a0 := Int64.le_iff_toInt_le.mp hx.1
  have a1 := Int64.le_iff_toInt_le.mp hx.2
  have z0 : (0 : Int64).toInt = 0 := by decide
  have z1 : (999 : Int64).toInt = 999 := by decide
  rw [z0] at a0
  rw [z1] at a1
  have b0 := Int32.le_iff_toInt_le.mp hn.1
  have b1 := Int32.le_iff_toInt_le.mp hn.2
  have y1 : (1 : Int32).toInt = 1 := by decide
  have y2 : (60 : Int32).toInt = 60 := by decide
  have y0 : (0 : Int32).toInt = 0 := by decide
  rw [y1] at b0
  rw [y2] at b1
  have g := Int64.le_iff_toInt_le.mp hc
  rw [z1, Int64.toInt_add, Int32.toInt_toInt64, Int.bmod_eq_of_le (by omega) (by omega)] at g
  rw [y0]
  omega
theorem el_J {v : Int64} {z : Int32} (E : T = sJ S a j v) (h : fI S b i = z) : fI T b i = z := by rw [E]; exact h
theorem el_R {v : Option Nat} {z : Int32} (E : T = sR S a j v) (h : fI S b i = z) : fI T b i = z := by rw [E]; exact h
theorem el_ob {v z : Int32} (E : T = sI S a j v) (oa : ob S a k) (p : ob S b q) (hk : k ≠ q) (h : fI S b i = z) : fI T b i = z := by rw [E, sI_ne oa p hk]; exact h
theorem el_ar {v z : Int32} (E : T = sI S a j v) (hne : b ≠ a) (h : fI S b i = z) : fI T b i = z := by rw [E, show fI (sI S a j v) b = fI S b from u2_row _ _ hne]; exact h
theorem ow_ne {k' j' a' b2 : Nat} (hI : IV S) (o1 : ob S a k) (hk : k < 12) (o2 : ob S a' k') (hp : (k', j') ∈ prT) (e1 : fR S a j = some b) (e2 : fR S a' j' = some b2) (hj : j ≠ j') : b2 ≠ b := fun z => hj (hI.2.2.2.2.1 a k j a' k' j' b o1 hk o2 hp e1 (z ▸ e2)).2
end Rd
theorem lc_eq {x : Int64} (h : lg_cmp x 0 = 0) : x = 0 := by
  unfold lg_cmp at h
  by_cases c : x > 0
  · rw [if_pos c] at h; exact absurd h (by decide)
  · rw [if_neg c] at h
    by_cases d : x = 0
    · exact d
    · rw [if_neg d] at h; exact absurd h (by decide)
theorem rem_abs {a b : Int64} (h : ¬ b = 0) : (a - a / b * b).toInt.natAbs < b.toInt.natAbs := by
  have hb : b.toInt ≠ 0 := fun z => h (Int64.toInt_inj.mp (by simpa using z))
  have h1 : (a.toInt.tmod b.toInt).natAbs < b.toInt.natAbs := by
    rw [Int.natAbs_tmod]
    exact Nat.mod_lt _ (by omega)
  have l1 := b.le_toInt
  have l2 := b.toInt_lt
  have e : (a - a / b * b).toInt = a.toInt.tmod b.toInt := by
    rw [Int64.toInt_sub, Int64.toInt_mul, Int64.toInt_div, Int.bmod_mul_bmod, Int.sub_bmod_bmod, Int.mul_comm, ← Int.tmod_def]
    exact Int.bmod_eq_of_le (by omega) (by omega)
  rw [e]
  exact h1
theorem dv1 {a c : Int32} (hc : 0 < c) (h : c ≤ a) : 1 ≤ a / c := by
  have c0 : 0 < c.toInt := by simpa using Int32.lt_iff_toInt_lt.mp hc
  have h1 := Int32.le_iff_toInt_le.mp h
  have a0 : 0 ≤ a.toInt := by omega
  have e : (a / c).toInt = a.toInt / c.toInt := by
    rw [Int32.toInt_div, Int.tdiv_eq_ediv_of_nonneg a0]
    refine Int.bmod_eq_of_le ?_ ?_
    · have := Int.ediv_nonneg a0 (Int.le_of_lt c0); omega
    · have := Int.ediv_le_self c.toInt a0; have := a.toInt_lt; omega
  refine Int32.le_iff_toInt_le.mpr ?_
  rw [e]
  have := Int.le_ediv_of_mul_le c0 (show 1 * c.toInt ≤ a.toInt by omega)
  simpa using this
theorem i32pos {c : Int32} (h : 1 ≤ c) : 0 < c.toInt := by
  have := Int32.le_iff_toInt_le.mp h
  have e : (1 : Int32).toInt = 1 := by decide
  omega
theorem i2l_rng {a lo hi : Int32} (h : lo ≤ a ∧ a ≤ hi) : lo.toInt64 ≤ a.toInt64 ∧ a.toInt64 ≤ hi.toInt64 := by
  refine ⟨Int64.le_iff_toInt_le.mpr ?_, Int64.le_iff_toInt_le.mpr ?_⟩
  · rw [Int32.toInt_toInt64, Int32.toInt_toInt64]; exact Int32.le_iff_toInt_le.mp h.1
  · rw [Int32.toInt_toInt64, Int32.toInt_toInt64]; exact Int32.le_iff_toInt_le.mp h.2
theorem md_add {k x : Int32} (h : x = k + 7) (h0 : 0 ≤ k ∧ k < 1000) : k.toNatClampNeg % 7 = x.toNatClampNeg % 7 := by
  have a : 0 ≤ k.toInt := by simpa using Int32.le_iff_toInt_le.mp h0.1
  have b : k.toInt < 1000 := by simpa using Int32.lt_iff_toInt_lt.mp h0.2
  have d : x.toInt = k.toInt + 7 := by
    rw [h, Int32.toInt_add]
    exact Int.bmod_eq_of_le (by simp; omega) (by simp; omega)
  show k.toInt.toNat % 7 = x.toInt.toNat % 7
  omega
theorem md_mul {a k x : Int32} (h : x = 7 * a + k) (ha : 0 ≤ a ∧ a < 100) (hk : 0 ≤ k ∧ k < 1000) : x.toNatClampNeg % 7 = k.toNatClampNeg % 7 := by
  have a0 : 0 ≤ a.toInt := by simpa using Int32.le_iff_toInt_le.mp ha.1
  have a1 : a.toInt < 100 := by simpa using Int32.lt_iff_toInt_lt.mp ha.2
  have k0 : 0 ≤ k.toInt := by simpa using Int32.le_iff_toInt_le.mp hk.1
  have k1 : k.toInt < 1000 := by simpa using Int32.lt_iff_toInt_lt.mp hk.2
  have m : (7 * a : Int32).toInt = 7 * a.toInt := by
    rw [Int32.toInt_mul]
    exact Int.bmod_eq_of_le (by simp; omega) (by simp; omega)
  have d : x.toInt = 7 * a.toInt + k.toInt := by
    rw [h, Int32.toInt_add, m]
    exact Int.bmod_eq_of_le (by omega) (by omega)
  show x.toInt.toNat % 7 = k.toInt.toNat % 7
  omega
theorem l2i_rng {t m : Int64} {n : Int32} (e : m.toInt = n.toInt) (h : 0 ≤ t ∧ t ≤ m) : 0 ≤ t.toInt32 ∧ t.toInt32 ≤ n := by
  have a := Int64.le_iff_toInt_le.mp h.1
  have b := Int64.le_iff_toInt_le.mp h.2
  have z : (0 : Int64).toInt = 0 := by decide
  have z2 : (0 : Int32).toInt = 0 := by decide
  rw [z] at a
  rw [e] at b
  have l := n.toInt_lt
  have d : t.toInt32.toInt = t.toInt := by
    rw [Int64.toInt_toInt32]
    exact Int.bmod_eq_of_le (by omega) (by omega)
  exact ⟨Int32.le_iff_toInt_le.mpr (by rw [d, z2]; exact a), Int32.le_iff_toInt_le.mpr (by rw [d]; exact b)⟩
theorem mu_ra {s s' m m' : Int32} (h1 : s ≤ s') (h2 : s' ≤ 900) (h : m = 1) (hc : m' = 0 ∨ (m' = 1 ∧ s < s')) : (2 * (901 - s'.toInt) + m'.toInt).toNat < (2 * (901 - s.toInt) + m.toInt).toNat := by
  have a := Int32.le_iff_toInt_le.mp h1
  have b := Int32.le_iff_toInt_le.mp h2
  have z : (900 : Int32).toInt = 900 := by decide
  have z0 : (0 : Int32).toInt = 0 := by decide
  have z1 : (1 : Int32).toInt = 1 := by decide
  rw [z] at b
  subst h
  rcases hc with rfl | ⟨rfl, c⟩
  · rw [z0, z1]; omega
  · have d := Int32.lt_iff_toInt_lt.mp c
    rw [z1]; omega
/-- what readAll leaves -/
def RA (S : HS) (o : Nat) : Prop := 0 < fI S o 13 ∨ ∀ w, fR S o 4 = some w → 1 ≤ fI S w 0
theorem ra_l {S : HS} {o : Nat} {x : Int32} (d : x = fI S o 13) (h : 0 < x) : RA S o := Or.inl (by rw [← d]; exact h)
theorem ra_r {S : HS} {o w : Nat} {x : Int32} (e : fR S o 4 = some w) (d : x = fI S w 0) (h : 1 ≤ x) : RA S o := Or.inr (fun z hz => by obtain rfl : w = z := Option.some.inj (e.symm.trans hz); rw [← d]; exact h)
theorem rg_new {S T : HS} {o a : Nat} (E : T = sR S o 4 (some a)) (oo : ob S o 11) (oa : ob S a 10) (hnw : NW S a) (hg : WG S a) : RG T o := by
  rw [E]
  refine ⟨a, u2_self _ _ _ _, oa, fun y oy => ?_, wg_same (S := S) ⟨rfl, u2_row _ _ (fun z => ?_), fun _ _ _ _ => rfl⟩ hg⟩
  · have oy' : ob S y 11 := oy
    rw [show fR (sR S o 4 (some a)) y 3 = fR S y 3 from u2_ne _ _ (fun z => by omega)]
    exact hnw y oy'
  · have e := ob_inj (show ob S a 11 by rw [z]; exact oo) oa
    omega
theorem rn_new {S T : HS} {o a : Nat} (E : T = sR S o 4 (some a)) (hz : ∀ j, fI S a j = 0) : RN T o := by
  rw [E]
  intro w e
  obtain rfl : a = w := Option.some.inj ((show fR (sR S o 4 (some a)) o 4 = some a from u2_self _ _ _ _).symm.trans e)
  show fI S a 6 = fI S a 2 + fI S a 4
  rw [hz 6, hz 2, hz 4]
  decide
