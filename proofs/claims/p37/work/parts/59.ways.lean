/-! the least ways of the reference -/
def gs (roads : Int32) (L : Nat → Int32) (t m y : Int32) : Prop := ∃ r d v u : Int32, y = -1 ∨ (y = -2 ∧ m < t) ∨ (0 ≤ r ∧ r < roads ∧ 0 ≤ d ∧ d ≤ 1 ∧ 1 ≤ v ∧ v ≤ 9 ∧ y = 100 * r + 10 * d + v ∧ u = (L r.toNatClampNeg + v - 1) / v ∧ m + u ≤ t)
theorem gs_stop {roads t m : Int32} {L : Nat → Int32} : gs roads L t m (-1) := ⟨0, 0, 0, 0, Or.inl rfl⟩
theorem gs_wait {roads t m : Int32} {L : Nat → Int32} (h : m < t) : gs roads L t m (-2) := ⟨0, 0, 0, 0, Or.inr (Or.inl ⟨rfl, h⟩)⟩
theorem gs_go {roads t m r d v u y : Int32} {L : Nat → Int32} (h1 : 0 ≤ r ∧ r < roads) (h2 : 0 ≤ d ∧ d ≤ 1) (h3 : 1 ≤ v ∧ v ≤ 9) (h4 : y = 100 * r + 10 * d + v) (h5 : u = (L r.toNatClampNeg + v - 1) / v) (h6 : m + u ≤ t) : gs roads L t m y := ⟨r, d, v, u, Or.inr (Or.inr ⟨h1.1, h1.2, h2.1, h2.2, h3.1, h3.2, h4, h5, h6⟩)⟩
/-- all spots behind minute m, and those of minute m up to place p, are sound -/
def SBD (S : HS) (o : Nat) (t m p : Int32) : Prop := ∀ w b c, fR S o 3 = some w → fR S o 18 = some b → fR S w 16 = some c → ∀ p' m' : Int32, 0 ≤ p' → p' < 8 → p' < fI S w 2 → 0 ≤ m' → m' ≤ t → (m < m' ∨ (m' = m ∧ p' ≤ p)) → gs (fI S w 3) (fI S c) t m' (fI S b (8 * m' + p').toNatClampNeg)
/-- at most one step was written -/
def TK (S T : HS) (o : Nat) (h y : Int32) : Prop := (∀ b, fR T o 18 = some b → ∀ z, fI T b z = fI S b z ∨ (z = h.toNatClampNeg ∧ fI T b z = y)) ∧ ∀ w c, ob T w 10 → fR T w 16 = some c → fI T c = fI S c
def WYQ (S : HS) (o : Nat) (p m : Int32) : Prop := ∃ (t : Int32) (w : Nat), SBD S o t (-1) (-1) ∧ 0 ≤ m ∧ m ≤ t ∧ t ≤ 400 ∧ fR S o 3 = some w ∧ 0 ≤ p ∧ p < fI S w 2
theorem i32b {x : Int32} {n : Int} {hi : Int32} (h : 0 ≤ x ∧ x ≤ hi) (e : hi.toInt = n) : 0 ≤ x.toInt ∧ x.toInt ≤ n := by
  have a := Int32.le_iff_toInt_le.mp h.1
  have b := Int32.le_iff_toInt_le.mp h.2
  have z : (0 : Int32).toInt = 0 := by decide
  omega
theorem sp_int {m p : Int32} (hm : 0 ≤ m.toInt ∧ m.toInt ≤ 400) (hp : 0 ≤ p.toInt ∧ p.toInt ≤ 7) : (8 * m + p).toInt = 8 * m.toInt + p.toInt := by
  have e8 : (8 : Int32).toInt = 8 := by decide
  have a : (8 * m : Int32).toInt = 8 * m.toInt := by
    rw [Int32.toInt_mul, e8]
    exact Int.bmod_eq_of_le (by omega) (by omega)
  rw [Int32.toInt_add, a]
  exact Int.bmod_eq_of_le (by omega) (by omega)
theorem sp_rng {m p : Int32} (hm : 0 ≤ m ∧ m ≤ 400) (hp : 0 ≤ p ∧ p < 8) : 0 ≤ 8 * m + p ∧ 8 * m + p < 3208 := by
  have a := i32b hm (n := 400) (by decide)
  have c0 := Int32.le_iff_toInt_le.mp hp.1
  have c1 := Int32.lt_iff_toInt_lt.mp hp.2
  have e0 : (0 : Int32).toInt = 0 := by decide
  have e8 : (8 : Int32).toInt = 8 := by decide
  have e3 : (3208 : Int32).toInt = 3208 := by decide
  have e := sp_int (p := p) a ⟨by omega, by omega⟩
  exact ⟨Int32.le_iff_toInt_le.mpr (by rw [e]; omega), Int32.lt_iff_toInt_lt.mpr (by rw [e]; omega)⟩
theorem i32le {x y : Int32} (h : x < y) : x.toInt < y.toInt := Int32.lt_iff_toInt_lt.mp h
theorem spot_inj {m m' p p' : Int32} (hm : 0 ≤ m ∧ m ≤ 400) (hm' : 0 ≤ m' ∧ m' ≤ 400) (hp : 0 ≤ p ∧ p ≤ 7) (hp' : 0 ≤ p' ∧ p' ≤ 7) (h : (8 * m' + p').toNatClampNeg = (8 * m + p).toNatClampNeg) : m' = m ∧ p' = p := by
  have a := i32b hm (n := 400) (by decide)
  have b := i32b hm' (n := 400) (by decide)
  have c := i32b hp (n := 7) (by decide)
  have d := i32b hp' (n := 7) (by decide)
  have e1 := sp_int a c
  have e2 := sp_int b d
  have h' : (8 * m' + p').toInt.toNat = (8 * m + p).toInt.toNat := h
  rw [e1, e2] at h'
  exact ⟨Int32.toInt_inj.mp (by omega), Int32.toInt_inj.mp (by omega)⟩
theorem lt8 {p : Int32} (h : p < 8) : p ≤ 7 := by
  have a := Int32.lt_iff_toInt_lt.mp h
  have e8 : (8 : Int32).toInt = 8 := by decide
  have e7 : (7 : Int32).toInt = 7 := by decide
  exact Int32.le_iff_toInt_le.mpr (by omega)
theorem cd_int {R D V : Int32} (hR : 0 ≤ R ∧ R ≤ 11) (hD : 0 ≤ D ∧ D ≤ 1) (hV : 1 ≤ V ∧ V ≤ 9) : (100 * R + 10 * D + V).toInt = 100 * R.toInt + 10 * D.toInt + V.toInt ∧ (0 ≤ R.toInt ∧ R.toInt ≤ 11) ∧ (0 ≤ D.toInt ∧ D.toInt ≤ 1) ∧ (1 ≤ V.toInt ∧ V.toInt ≤ 9) := by
  have a := i32b hR (n := 11) (by decide)
  have b := i32b hD (n := 1) (by decide)
  have c1 := Int32.le_iff_toInt_le.mp hV.1
  have c2 := Int32.le_iff_toInt_le.mp hV.2
  have e1 : (1 : Int32).toInt = 1 := by decide
  have e9 : (9 : Int32).toInt = 9 := by decide
  have e100 : (100 : Int32).toInt = 100 := by decide
  have e10 : (10 : Int32).toInt = 10 := by decide
  have m1 : (100 * R : Int32).toInt = 100 * R.toInt := by
    rw [Int32.toInt_mul, e100]
    exact Int.bmod_eq_of_le (by omega) (by omega)
  have m2 : (10 * D : Int32).toInt = 10 * D.toInt := by
    rw [Int32.toInt_mul, e10]
    exact Int.bmod_eq_of_le (by omega) (by omega)
  have s1 : (100 * R + 10 * D : Int32).toInt = 100 * R.toInt + 10 * D.toInt := by
    rw [Int32.toInt_add, m1, m2]
    exact Int.bmod_eq_of_le (by omega) (by omega)
  refine ⟨?_, a, b, by omega, by omega⟩
  rw [Int32.toInt_add, s1]
  exact Int.bmod_eq_of_le (by omega) (by omega)
section Wy
variable {S T : HS} {a b c w o j k q i : Nat} {t m p h y : Int32}
theorem tk_rf (S : HS) (o : Nat) (h y : Int32) : TK S S o h y := ⟨fun _ _ _ => Or.inl rfl, fun _ _ _ _ => rfl⟩
theorem tk_J {S0 : HS} {v : Int64} (E : T = sJ S a j v) (g : TK S0 S o h y) : TK S0 T o h y := by rw [E]; exact g
theorem tk_17 {S0 : HS} {v : Int32} (E : T = sI S a j v) (hI : IV S) (oo : ob S o 11) (e : fR S o 17 = some a) (g : TK S0 S o h y) : TK S0 T o h y := by
  rw [E]
  refine ⟨fun d hd z => ?_, fun w d ow hd => ?_⟩
  · have hd' : fR S o 18 = some d := hd
    rw [show fI (sI S a j v) d = fI S d from u2_row _ _ (fun z => by
      have := (hI.2.2.2.2.1 o 11 17 o 11 18 a oo (by omega) oo (by decide) e (z ▸ hd')).2
      omega)]
    exact g.1 d hd' z
  · have ow' : ob S w 10 := ow
    have hd' : fR S w 16 = some d := hd
    rw [show fI (sI S a j v) d = fI S d from u2_row _ _ (fun z => by
      have e1 := (hI.2.2.2.2.1 o 11 17 w 10 16 a oo (by omega) ow' (by decide) e (z ▸ hd')).1
      have := ob_inj (show ob S w 11 by rw [← e1]; exact oo) ow'
      omega)]
    exact g.2 w d ow' hd'
theorem tk_18 {S0 : HS} (E : T = sI S a h.toNatClampNeg y) (hI : IV S) (oo : ob S o 11) (e : fR S o 18 = some a) (g : TK S0 S o h y) : TK S0 T o h y := by
  rw [E]
  refine ⟨fun d hd z => ?_, fun w d ow hd => ?_⟩
  · have hd' : fR S o 18 = some d := hd
    obtain rfl : a = d := Option.some.inj (e.symm.trans hd')
    by_cases cz : z = h.toNatClampNeg
    · exact Or.inr ⟨cz, by rw [cz]; exact u2_self _ _ _ _⟩
    · rw [show fI (sI S a h.toNatClampNeg y) a z = fI S a z from u2_ne _ _ (fun t => cz t.2)]
      exact g.1 a hd' z
  · have ow' : ob S w 10 := ow
    have hd' : fR S w 16 = some d := hd
    rw [show fI (sI S a h.toNatClampNeg y) d = fI S d from u2_row _ _ (fun z => by
      have e1 := (hI.2.2.2.2.1 o 11 18 w 10 16 a oo (by omega) ow' (by decide) e (z ▸ hd')).1
      have := ob_inj (show ob S w 11 by rw [← e1]; exact oo) ow'
      omega)]
    exact g.2 w d ow' hd'
theorem sb_tk {wi wr : List (Nat × Nat)} (hI : IV S) (oo : ob S o 11) (fc : FRI wi wr S T) (g : Gr S T) (hn : (11, 3) ∉ wr ∧ (11, 18) ∉ wr ∧ (10, 16) ∉ wr ∧ (10, 2) ∉ wi ∧ (10, 3) ∉ wi) (tk : TK S T o h y) (hh : h = 8 * m + p) (hm : 0 ≤ m ∧ m ≤ 400) (hp : 0 ≤ p ∧ p < 8) (ht : t ≤ 400) (ew : fR S o 3 = some w) (ec : fR S w 16 = some c) (hg : gs (fI S w 3) (fI S c) t m y) (hS : SBD S o t m p) : SBD T o t m p := by
  have ow := ml_ob hI oo ew
  intro w' b c' ew' eb ec' p' m' h0 h8 hpl hm0 hmt hd
  rw [frr_at fc (by decide) hn.1 oo] at ew'
  rw [frr_at fc (by decide) hn.2.1 oo] at eb
  obtain rfl : w = w' := Option.some.inj (ew.symm.trans ew')
  have ec2 := ec'
  rw [frr_at fc (by decide) hn.2.2.1 ow] at ec'
  obtain rfl : c = c' := Option.some.inj (ec.symm.trans ec')
  have i2 := fri_at fc (by decide) hn.2.2.2.1 ow
  have i3 := fri_at fc (by decide) hn.2.2.2.2 ow
  rw [i2] at hpl
  rw [i3, tk.2 w c (gr_ob g ow) ec2]
  have eb2 : fR T o 18 = some b := (frr_at fc (by decide) hn.2.1 oo).trans eb
  rcases tk.1 b eb2 (8 * m' + p').toNatClampNeg with z | ⟨z1, z2⟩
  · rw [z]
    exact hS w b c ew eb ec p' m' h0 h8 hpl hm0 hmt hd
  · rw [hh] at z1
    obtain ⟨rfl, rfl⟩ := spot_inj hm ⟨hm0, Int32.le_trans hmt ht⟩ ⟨hp.1, lt8 hp.2⟩ ⟨h0, lt8 h8⟩ z1
    rw [z2]
    exact hg
theorem sb_J {v : Int64} (E : T = sJ S a j v) (hS : SBD S o t m p) : SBD T o t m p := by rw [E]; exact hS
theorem sb_17 {v : Int32} (E : T = sI S a j v) (hI : IV S) (oo : ob S o 11) (e : fR S o 17 = some a) (hS : SBD S o t m p) : SBD T o t m p := by
  have g := tk_17 E hI oo e (tk_rf S o 0 0)
  subst E
  intro w b c ew eb ec p' m' h0 h8 hpl hm0 hmt hd
  have ew' : fR S o 3 = some w := ew
  have eb' : fR S o 18 = some b := eb
  have ec' : fR S w 16 = some c := ec
  have ow := ml_ob hI oo ew'
  have hw : fI (sI S a j v) w = fI S w := u2_row _ _ (fun z => by
    have hd : ∀ e ∈ shT, e.1 = 11 → e.2.1 = 17 → e.2.2.1 = 13 := by decide
    obtain ⟨a', a1, a2, -⟩ := hI.1 (11, 17, 13, 3208) (by decide) o oo
    obtain rfl : a = a' := Option.some.inj (e.symm.trans a1)
    have := ob_inj (show ob S w 13 by rw [z]; exact a2) ow
    omega)
  rw [hw] at hpl ⊢
  rw [g.2 w c ow ec]
  have hb : fI (sI S a j v) b = fI S b := u2_row _ _ (fun z => by
    have := (hI.2.2.2.2.1 o 11 17 o 11 18 a oo (by omega) oo (by decide) e (z ▸ eb')).2
    omega)
  rw [hb]
  exact hS w b c ew' eb' ec' p' m' h0 h8 hpl hm0 hmt hd
theorem sb_18 {p0 : Int32} (E : T = sI S a h.toNatClampNeg (-1)) (hI : IV S) (oo : ob S o 11) (e : fR S o 18 = some a) (hh : h = 8 * m + p) (hm : 0 ≤ m ∧ m ≤ 400) (hp : 0 ≤ p ∧ p < 8) (ht : t ≤ 400) (hp0 : p0 = p - 1) (hS : SBD S o t m p0) : SBD T o t m p := by
  have g := tk_18 E hI oo e (tk_rf S o h (-1))
  subst E
  intro w b c ew eb ec p' m' h0 h8 hpl hm0 hmt hd
  have ew' : fR S o 3 = some w := ew
  have eb' : fR S o 18 = some b := eb
  have ec' : fR S w 16 = some c := ec
  have ow := ml_ob hI oo ew'
  have hw : fI (sI S a h.toNatClampNeg (-1)) w = fI S w := u2_row _ _ (fun z => by
    obtain ⟨a', a1, a2, -⟩ := hI.1 (11, 18, 13, 3208) (by decide) o oo
    obtain rfl : a = a' := Option.some.inj (e.symm.trans a1)
    have := ob_inj (show ob S w 13 by rw [z]; exact a2) ow
    omega)
  rw [hw] at hpl ⊢
  rw [g.2 w c ow ec]
  obtain rfl : a = b := Option.some.inj (e.symm.trans eb')
  by_cases cz : (8 * m' + p').toNatClampNeg = h.toNatClampNeg
  · rw [show fI (sI S a h.toNatClampNeg (-1)) a (8 * m' + p').toNatClampNeg = -1 by rw [cz]; exact u2_self _ _ _ _]
    exact gs_stop
  · rw [show fI (sI S a h.toNatClampNeg (-1)) a (8 * m' + p').toNatClampNeg = fI S a (8 * m' + p').toNatClampNeg from u2_ne _ _ (fun t => cz t.2)]
    refine hS w a c ew' eb' ec' p' m' h0 h8 hpl hm0 hmt ?_
    rcases hd with d | ⟨d1, d2⟩
    · exact Or.inl d
    · refine Or.inr ⟨d1, ?_⟩
      have hne : p' ≠ p := fun z => cz (by rw [hh, d1, z])
      have x1 := Int32.le_iff_toInt_le.mp d2
      have x2 : p'.toInt ≠ p.toInt := fun z => hne (Int32.toInt_inj.mp z)
      have x3 := i32b ⟨hp.1, lt8 hp.2⟩ (n := 7) (by decide)
      have e1 : (1 : Int32).toInt = 1 := by decide
      have x4 : (p - 1).toInt = p.toInt - 1 := by
        rw [Int32.toInt_sub, e1]
        exact Int.bmod_eq_of_le (by omega) (by omega)
      rw [hp0]
      exact Int32.le_iff_toInt_le.mpr (by rw [x4]; omega)
theorem sb_init : SBD S o t t (-1) := by
  intro w b c _ _ _ p' m' h0 _ _ _ hmt hd
  rcases hd with d | ⟨_, d⟩
  · exact absurd (Int32.lt_iff_toInt_lt.mp d) (by have := Int32.le_iff_toInt_le.mp hmt; omega)
  · have a := Int32.le_iff_toInt_le.mp h0
    have b := Int32.le_iff_toInt_le.mp d
    have e0 : (0 : Int32).toInt = 0 := by decide
    have e1 : (-1 : Int32).toInt = -1 := by decide
    omega
theorem sb_0 (hS : SBD S o t m (-1)) : SBD S o t m (0 - 1) := by
  have e : (0 : Int32) - 1 = -1 := by decide
  rw [e]; exact hS
theorem sb_next {x : Int32} (hS : SBD S o t m (p - 1)) (ew : fR S o 3 = some w) (hpl : fI S w 2 ≤ p) (hp : 0 ≤ p ∧ p ≤ 8) (hm : 0 ≤ m ∧ m ≤ 400) (hx : x = m - 1) : SBD S o t x (-1) := by
  intro w' b c ew' eb ec p' m' h0 h8 hpl' hm0 hmt hd
  obtain rfl : w = w' := Option.some.inj (ew.symm.trans ew')
  refine hS w b c ew eb ec p' m' h0 h8 hpl' hm0 hmt ?_
  have a0 := Int32.le_iff_toInt_le.mp h0
  have e0 : (0 : Int32).toInt = 0 := by decide
  have e1 : (1 : Int32).toInt = 1 := by decide
  have em : (-1 : Int32).toInt = -1 := by decide
  have bm := i32b hm (n := 400) (by decide)
  have bp := i32b hp (n := 8) (by decide)
  have x4 : (m - 1).toInt = m.toInt - 1 := by
    rw [Int32.toInt_sub, e1]
    exact Int.bmod_eq_of_le (by omega) (by omega)
  have x5 : (p - 1).toInt = p.toInt - 1 := by
    rw [Int32.toInt_sub, e1]
    exact Int.bmod_eq_of_le (by omega) (by omega)
  have y1 := Int32.lt_iff_toInt_lt.mp hpl'
  have y2 := Int32.le_iff_toInt_le.mp hpl
  rcases hd with d | ⟨_, d⟩
  · have d1 := Int32.lt_iff_toInt_lt.mp d
    rw [hx, x4] at d1
    by_cases cz : m.toInt < m'.toInt
    · exact Or.inl (Int32.lt_iff_toInt_lt.mpr cz)
    · exact Or.inr ⟨Int32.toInt_inj.mp (by omega), Int32.le_iff_toInt_le.mpr (by rw [x5]; omega)⟩
  · have := Int32.le_iff_toInt_le.mp d
    omega
theorem wyq_num (hI : IV S) (oo : ob S o 11) (hy : WYQ S o p m) : 0 ≤ p ∧ p < 8 ∧ 0 ≤ m ∧ m ≤ 400 := by
  obtain ⟨t, w, -, h1, h2, h3, ew, h4, h5⟩ := hy
  have ow := ml_ob hI oo ew
  have h6 := (hI.2.2.2.1 (10, 2, 0, 8) (by decide) w ow).2
  exact ⟨h4, Int32.lt_of_lt_of_le h5 h6, h1, Int32.le_trans h2 h3⟩
theorem gs_at {x xi x3 : Int32} (hS : SBD S o t (-1) (-1)) (ew : fR S o 3 = some w) (eb : fR S o 18 = some b) (ec : fR S w 16 = some c) (h0 : 0 ≤ p ∧ p < 8) (hpl : p < fI S w 2) (hm : 0 ≤ m ∧ m ≤ t) (hm1 : (-1 : Int32) < m) (hi : xi = 8 * m + p) (hx : x = fI S b xi.toNatClampNeg) (h3 : x3 = fI S w 3) (h3b : x3 ≤ 12) : ∃ r d v u : Int32, (x = -1 ∨ (x = -2 ∧ m < t) ∨ (0 ≤ r ∧ r < x3 ∧ 0 ≤ d ∧ d ≤ 1 ∧ 1 ≤ v ∧ v ≤ 9 ∧ m + u ≤ t ∧ 1 ≤ x)) ∧ (x = -1 ∨ x = -2 ∨ x = 100 * r + 10 * d + v) ∧ (x = -1 ∨ x = -2 ∨ u = (fI S c r.toNatClampNeg + v - 1) / v) := by
  obtain ⟨r, d, v, u, g⟩ := hS w b c ew eb ec p m h0.1 h0.2 hpl hm.1 hm.2 (Or.inl hm1)
  rw [← hi, ← hx, ← h3] at g
  refine ⟨r, d, v, u, ?_, ?_, ?_⟩
  · rcases g with g | g | g
    · exact Or.inl g
    · exact Or.inr (Or.inl g)
    · refine Or.inr (Or.inr ⟨g.1, g.2.1, g.2.2.1, g.2.2.2.1, g.2.2.2.2.1, g.2.2.2.2.2.1, g.2.2.2.2.2.2.2.2, ?_⟩)
      have r11 : r ≤ 11 := by
        have a1 := Int32.lt_iff_toInt_lt.mp g.2.1
        have a2 := Int32.le_iff_toInt_le.mp h3b
        have e12 : (12 : Int32).toInt = 12 := by decide
        have e11 : (11 : Int32).toInt = 11 := by decide
        exact Int32.le_iff_toInt_le.mpr (by omega)
      obtain ⟨e, a, b', c'⟩ := cd_int ⟨g.1, r11⟩ ⟨g.2.2.1, g.2.2.2.1⟩ ⟨g.2.2.2.2.1, g.2.2.2.2.2.1⟩
      rw [← g.2.2.2.2.2.2.1] at e
      have e1 : (1 : Int32).toInt = 1 := by decide
      exact Int32.le_iff_toInt_le.mpr (by omega)
  · rcases g with g | g | g
    · exact Or.inl g
    · exact Or.inr (Or.inl g.1)
    · exact Or.inr (Or.inr g.2.2.2.2.2.2.1)
  · rcases g with g | g | g
    · exact Or.inl g
    · exact Or.inr (Or.inl g.1)
    · exact Or.inr (Or.inr g.2.2.2.2.2.2.2.1)
end Wy
theorem dv_int {a c : Int32} (h0 : 0 ≤ a.toInt) (hc : 0 < c.toInt) : (a / c).toInt = a.toInt / c.toInt := by
  rw [Int32.toInt_div, Int.tdiv_eq_ediv_of_nonneg h0]
  refine Int.bmod_eq_of_le ?_ ?_
  · have := Int.ediv_nonneg h0 (Int.le_of_lt hc); omega
  · have := Int.ediv_le_self c.toInt h0; have := a.toInt_lt; omega
theorem dec100 {y R D V : Int32} (h : y = 100 * R + 10 * D + V) (hR : 0 ≤ R ∧ R ≤ 11) (hD : 0 ≤ D ∧ D ≤ 1) (hV : 1 ≤ V ∧ V ≤ 9) : y / 100 = R := by
  obtain ⟨e, a, b, c⟩ := cd_int hR hD hV
  rw [← h] at e
  have e100 : (100 : Int32).toInt = 100 := by decide
  refine Int32.toInt_inj.mp ?_
  rw [dv_int (by omega) (by decide), e100, e]
  omega
theorem dec10 {y R D V : Int32} (h : y = 100 * R + 10 * D + V) (hR : 0 ≤ R ∧ R ≤ 11) (hD : 0 ≤ D ∧ D ≤ 1) (hV : 1 ≤ V ∧ V ≤ 9) : (y / 10).toInt = 10 * R.toInt + D.toInt := by
  obtain ⟨e, a, b, c⟩ := cd_int hR hD hV
  rw [← h] at e
  have e10 : (10 : Int32).toInt = 10 := by decide
  rw [dv_int (by omega) (by decide), e10, e]
  omega
theorem rm10 {y : Int32} (h0 : 0 ≤ y.toInt) : (y - y / 10 * 10).toInt = y.toInt % 10 := by
  have e10 : (10 : Int32).toInt = 10 := by decide
  have d := dv_int h0 (c := 10) (by decide)
  rw [e10] at d
  have l := y.toInt_lt
  have m : (y / 10 * 10).toInt = y.toInt / 10 * 10 := by
    rw [Int32.toInt_mul, d, e10]
    exact Int.bmod_eq_of_le (by omega) (by omega)
  rw [Int32.toInt_sub, m]
  rw [Int.bmod_eq_of_le (by omega) (by omega)]
  omega
theorem decV {y R D V : Int32} (h : y = 100 * R + 10 * D + V) (hR : 0 ≤ R ∧ R ≤ 11) (hD : 0 ≤ D ∧ D ≤ 1) (hV : 1 ≤ V ∧ V ≤ 9) : y - y / 10 * 10 = V := by
  obtain ⟨e, a, b, c⟩ := cd_int hR hD hV
  rw [← h] at e
  refine Int32.toInt_inj.mp ?_
  rw [rm10 (by omega), e]
  omega
theorem decD {y x R D V : Int32} (hx : x = y / 10) (h : y = 100 * R + 10 * D + V) (hR : 0 ≤ R ∧ R ≤ 11) (hD : 0 ≤ D ∧ D ≤ 1) (hV : 1 ≤ V ∧ V ≤ 9) : x - x / 10 * 10 = D := by
  obtain ⟨e, a, b, c⟩ := cd_int hR hD hV
  have d := dec10 h hR hD hV
  rw [← hx] at d
  refine Int32.toInt_inj.mp ?_
  rw [rm10 (by omega), d]
  omega
