/-! THE INVARIANTS -/
def nuT : List (Nat × Nat × Int32 × Int32) := [(9, 1, 0, 900), (0, 0, (-1), 3), (0, 2, 0, 16), (0, 3, 0, 3), (6, 5, 0, 9), (6, 6, 0, 9), (4, 3, 0, 900), (4, 10, 0, 12), (7, 3, 0, 224), (7, 13, 0, 401), (8, 0, 0, 60), (8, 1, 0, 6), (8, 2, 0, 8), (8, 3, 0, 12), (8, 4, 0, 4), (8, 5, 0, 4)]
def shT : List (Nat × Nat × Nat × Nat) := [(9, 0, 12, 900), (9, 2, 8, 0), (9, 3, 4, 0), (9, 4, 1, 0), (9, 5, 7, 0), (9, 6, 0, 0), (0, 4, 2, 0), (0, 5, 16, 16), (0, 6, 16, 3), (1, 0, 14, 5), (1, 1, 14, 5), (2, 2, 14, 5), (4, 5, 8, 0), (4, 11, 14, 12), (4, 12, 13, 12), (8, 6, 17, 6), (8, 7, 13, 8), (8, 8, 18, 12), (8, 9, 19, 4), (8, 10, 13, 4), (8, 11, 13, 20), (7, 0, 13, 0), (7, 1, 14, 0), (7, 2, 13, 0), (7, 4, 13, 0), (7, 5, 13, 0), (7, 6, 13, 0), (7, 7, 14, 0), (7, 8, 13, 0)]
/-- the int fields are in their bounds -/
def NUF (S : HS) : Prop := ∀ e ∈ nuT, ∀ a, ob S a e.1 → e.2.2.1 ≤ fI S a e.2.1 ∧ fI S a e.2.1 ≤ e.2.2.2
/-- the reference fields hold what they must -/
def SHF (S : HS) : Prop := ∀ e ∈ shT, ∀ a, ob S a e.1 → ∃ b, fR S a e.2.1 = some b ∧ ob S b e.2.2.1 ∧ (e.2.2.2 = 0 ∨ hN S b = e.2.2.2)
/-- the arrays of references are full -/
def aeK (q : Nat) : Nat := if q = 16 then 2 else if q = 17 then 3 else if q = 18 then 5 else 6
def AEF (S : HS) : Prop := ∀ q, 16 ≤ q → q < 20 → ∀ a, ob S a q → ∀ i, i < hN S a → ∃ b, fR S a i = some b ∧ ob S b (aeK q)
/-- the rows of Ways are all empty or all made -/
def wyT : List (Nat × Nat) := [(0, 401), (1, 3208), (2, 3208), (4, 224), (5, 224), (6, 224), (7, 224), (8, 224)]
def WYF (S : HS) : Prop := ∀ a, ob S a 7 → (∀ e ∈ wyT, ∀ b, fR S a e.1 = some b → hN S b = 0) ∨ (∀ e ∈ wyT, ∀ b, fR S a e.1 = some b → hN S b = e.2)
/-- the reference's own -/
def MOF (S : HS) : Prop := True
def IV (S : HS) : Prop := SHF S ∧ AEF S ∧ WYF S ∧ NUF S ∧ MOF S
theorem nu {S : HS} {a k j : Nat} {lo hi : Int32} (i : Nat) (hi' : nuT[i]? = some (k, j, lo, hi)) (h : IV S) (o : ob S a k) : lo ≤ fI S a j ∧ fI S a j ≤ hi := h.2.2.2.1 _ (List.mem_of_getElem? hi') a o
theorem sh {S : HS} {a k j q N : Nat} (i : Nat) (hi' : shT[i]? = some (k, j, q, N)) (h : IV S) (o : ob S a k) : ∃ b, fR S a j = some b ∧ ob S b q ∧ (N = 0 ∨ hN S b = N) := h.1 _ (List.mem_of_getElem? hi') a o
theorem shl {S : HS} {a k j q N : Nat} (i : Nat) (hi' : shT[i]? = some (k, j, q, N + 1)) (h : IV S) (o : ob S a k) : ∃ b, fR S a j = some b ∧ ob S b q ∧ hN S b = N + 1 := by
  obtain ⟨b, h1, h2, h3⟩ := sh i hi' h o
  exact ⟨b, h1, h2, h3.resolve_left (by omega)⟩
theorem ae {S : HS} {a q : Nat} (h : IV S) (o : ob S a q) (h1 : 16 ≤ q) (h2 : q < 20) {x : Int32} (hx : vp_in x (hN S a)) : ∃ b, fR S a x.toNatClampNeg = some b ∧ ob S b (aeK q) := h.2.1 q h1 h2 a o _ (Nat.not_le.mp fun z => hx (Or.inr z))
theorem vin {x m : Int32} {n N : Nat} (e : n = N) (hm : m.toInt = (N : Int)) (h : 0 ≤ x ∧ x < m) : vp_in x n := by
  rw [vp_in_iff, e, ← hm]
  exact ⟨by simpa using Int32.le_iff_toInt_le.mp h.1, Int32.lt_iff_toInt_lt.mp h.2⟩
theorem vinL {x : Int32} {n : Nat} (hn : n < 2147483648) (h : 0 ≤ x ∧ x < nI n) : vp_in x n := by
  rw [vp_in_iff, ← nI_toInt hn]
  exact ⟨by simpa using Int32.le_iff_toInt_le.mp h.1, Int32.lt_iff_toInt_lt.mp h.2⟩
theorem sI_ne {S : HS} {a b k q j : Nat} {v : Int32} (o : ob S a k) (p : ob S b q) (h : k ≠ q) (i : Nat) : fI (sI S a j v) b i = fI S b i := u2_ne _ _ (fun z => h (by rw [← o.2, ← p.2, z.1]))
theorem nuf_sI {S : HS} {a k j : Nat} {v : Int32} (h : NUF S) (o : ob S a k) (hc : ∀ e ∈ nuT, e.1 = k → e.2.1 = j → e.2.2.1 ≤ v ∧ v ≤ e.2.2.2) : NUF (sI S a j v) := by
  intro e he b hb
  have hb' : ob S b e.1 := hb
  show e.2.2.1 ≤ u2 (fI S) a j v b e.2.1 ∧ u2 (fI S) a j v b e.2.1 ≤ e.2.2.2
  by_cases c : b = a ∧ e.2.1 = j
  · obtain ⟨rfl, c2⟩ := c
    rw [c2, u2_self]
    exact hc e he (hb'.2.symm.trans o.2) c2
  · rw [u2_ne _ _ c]
    exact h e he b hb'
theorem nu_free {k j : Nat} {v : Int32} (h : (nuT.all fun e => !(e.1 == k && e.2.1 == j)) = true) : ∀ e ∈ nuT, e.1 = k → e.2.1 = j → e.2.2.1 ≤ v ∧ v ≤ e.2.2.2 := by
  intro e he h1 h2
  have := List.all_eq_true.mp h e he
  simp [h1, h2] at this
theorem nu_one {k j : Nat} {v lo hi : Int32} (h : nuT.filter (fun e => e.1 == k && e.2.1 == j) = [(k, j, lo, hi)]) (hv : lo ≤ v ∧ v ≤ hi) : ∀ e ∈ nuT, e.1 = k → e.2.1 = j → e.2.2.1 ≤ v ∧ v ≤ e.2.2.2 := by
  intro e he h1 h2
  have hm : e ∈ nuT.filter (fun e => e.1 == k && e.2.1 == j) := List.mem_filter.mpr ⟨he, by simp [h1, h2]⟩
  rw [h] at hm
  cases List.mem_singleton.mp hm
  exact hv
/-- an int field of the class's own is written -/
theorem iv_sI {S : HS} {a k j : Nat} {v : Int32} (h : IV S) (o : ob S a k) (hk : k < 10) (hc : ∀ e ∈ nuT, e.1 = k → e.2.1 = j → e.2.2.1 ≤ v ∧ v ≤ e.2.2.2) : IV (sI S a j v) := ⟨h.1, h.2.1, h.2.2.1, nuf_sI h.2.2.2.1 o hc, trivial⟩
theorem iv_sJ {S : HS} {a k j : Nat} {v : Int64} (h : IV S) (o : ob S a k) (hk : k < 10) : IV (sJ S a j v) := ⟨h.1, h.2.1, h.2.2.1, h.2.2.2.1, trivial⟩
/-- an int array's element is written (its owner: a field of the class's own) -/
theorem iv_aI {S : HS} {a b k j q i : Nat} {v : Int32} (h : IV S) (o : ob S a k) (hk : k < 10) (e : fR S a j = some b) (ob' : ob S b q) (hq : 12 ≤ q) : IV (sI S b i v) := by
  refine ⟨h.1, h.2.1, h.2.2.1, nuf_sI h.2.2.2.1 ob' ?_, trivial⟩
  intro e he h1 _
  have : ∀ e ∈ nuT, e.1 < 12 := by decide
  have := this e he
  omega
theorem iv_aJ {S : HS} {a b k j q i : Nat} {v : Int64} (h : IV S) (o : ob S a k) (hk : k < 10) (e : fR S a j = some b) (ob' : ob S b q) (hq : 12 ≤ q) : IV (sJ S b i v) := ⟨h.1, h.2.1, h.2.2.1, h.2.2.2.1, trivial⟩
theorem mu_up {v x K : Int32} (h1 : v < x) (h2 : v < K) : (K.toInt - x.toInt).toNat < (K.toInt - v.toInt).toNat := by
  have a := Int32.lt_iff_toInt_lt.mp h1
  have b := Int32.lt_iff_toInt_lt.mp h2
  omega
theorem mu_down {v x K : Int32} (h1 : x < v) (h2 : K < v) : (x.toInt - K.toInt).toNat < (v.toInt - K.toInt).toNat := by
  have a := Int32.lt_iff_toInt_lt.mp h1
  have b := Int32.lt_iff_toInt_lt.mp h2
  omega
theorem sR_ne {S : HS} {a b k q j : Nat} {v : Option Nat} (o : ob S a k) (p : ob S b q) (h : k ≠ q) (i : Nat) : fR (sR S a j v) b i = fR S b i := u2_ne _ _ (fun z => h (by rw [← o.2, ← p.2, z.1]))
/-- an array of references gets an element -/
theorem iv_aR {S : HS} {a v q i : Nat} (h : IV S) (o : ob S a q) (h1 : 16 ≤ q) (h2 : q < 20) (ov : ob S v (aeK q)) : IV (sR S a i (some v)) := by
  have hs : ∀ e ∈ shT, e.1 < 12 := by decide
  refine ⟨fun e he b hb => ?_, fun r hr1 hr2 b hb z hz => ?_, fun b hb => ?_, h.2.2.2.1, trivial⟩
  · have hb' : ob S b e.1 := hb
    have := hs e he
    obtain ⟨c, c1, c2⟩ := h.1 e he b hb'
    exact ⟨c, by rw [sR_ne o hb' (by omega)]; exact c1, c2⟩
  · have hb' : ob S b r := hb
    by_cases c : b = a ∧ z = i
    · obtain ⟨rfl, rfl⟩ := c
      refine ⟨v, u2_self _ _ _ _, ?_⟩
      rw [show r = q from hb'.2.symm.trans o.2]
      exact ov
    · obtain ⟨d, d1, d2⟩ := h.2.1 r hr1 hr2 b hb' z hz
      exact ⟨d, (u2_ne _ _ c).trans d1, d2⟩
  · have hb' : ob S b 7 := hb
    have hne : ∀ j, fR (sR S a i (some v)) b j = fR S b j := fun j => sR_ne o hb' (by omega) j
    rcases h.2.2.1 b hb' with g | g
    · exact Or.inl (fun e he d hd => g e he d (by rw [← hne]; exact hd))
    · exact Or.inr (fun e he d hd => g e he d (by rw [← hne]; exact hd))
/-- a reference field of the class's own (not of Ways) is written -/
theorem iv_sR {S : HS} {a v k j : Nat} (h : IV S) (o : ob S a k) (hk : k < 10) (h7 : k ≠ 7) (hc : ∀ e ∈ shT, e.1 = k → e.2.1 = j → ob S v e.2.2.1 ∧ (e.2.2.2 = 0 ∨ hN S v = e.2.2.2)) : IV (sR S a j (some v)) := by
  refine ⟨fun e he b hb => ?_, fun r hr1 hr2 b hb z hz => ?_, fun b hb => ?_, h.2.2.2.1, trivial⟩
  · have hb' : ob S b e.1 := hb
    by_cases c : b = a ∧ e.2.1 = j
    · obtain ⟨rfl, c2⟩ := c
      refine ⟨v, ?_, hc e he (hb'.2.symm.trans o.2) c2⟩
      rw [c2]; exact u2_self _ _ _ _
    · obtain ⟨d, d1, d2⟩ := h.1 e he b hb'
      exact ⟨d, (u2_ne _ _ c).trans d1, d2⟩
  · have hb' : ob S b r := hb
    obtain ⟨d, d1, d2⟩ := h.2.1 r hr1 hr2 b hb' z hz
    exact ⟨d, by rw [sR_ne o hb' (by omega)]; exact d1, d2⟩
  · have hb' : ob S b 7 := hb
    have hne : ∀ z, fR (sR S a j (some v)) b z = fR S b z := fun z => sR_ne o hb' h7 z
    rcases h.2.2.1 b hb' with g | g
    · exact Or.inl (fun e he d hd => g e he d (by rw [← hne]; exact hd))
    · exact Or.inr (fun e he d hd => g e he d (by rw [← hne]; exact hd))
theorem sh_free {S : HS} {k j v : Nat} (h : (shT.all fun e => !(e.1 == k && e.2.1 == j)) = true) : ∀ e ∈ shT, e.1 = k → e.2.1 = j → ob S v e.2.2.1 ∧ (e.2.2.2 = 0 ∨ hN S v = e.2.2.2) := by
  intro e he h1 h2
  have := List.all_eq_true.mp h e he
  simp [h1, h2] at this
theorem sh_one {S : HS} {k j v q N : Nat} (h : shT.filter (fun e => e.1 == k && e.2.1 == j) = [(k, j, q, N)]) (hv : ob S v q ∧ (N = 0 ∨ hN S v = N)) : ∀ e ∈ shT, e.1 = k → e.2.1 = j → ob S v e.2.2.1 ∧ (e.2.2.2 = 0 ∨ hN S v = e.2.2.2) := by
  intro e he h1 h2
  have hm : e ∈ shT.filter (fun e => e.1 == k && e.2.1 == j) := List.mem_filter.mpr ⟨he, by simp [h1, h2]⟩
  rw [h] at hm
  cases List.mem_singleton.mp hm
  exact hv
theorem rd_j {S : HS} {a j b i : Nat} {v : Int32} (h : i ≠ j) : fI (sI S a j v) b i = fI S b i := u2_ne _ _ (fun z => h z.2)
/-- what stays: the int fields but those at the places wi, the reference fields but those at wr -/
def FRI (wi wr : List (Nat × Nat)) (S T : HS) : Prop := (∀ k j, k < 12 → (k, j) ∉ wi → ∀ a, ob S a k → fI T a j = fI S a j) ∧ ∀ k j, k < 12 → (k, j) ∉ wr → ∀ a, ob S a k → fR T a j = fR S a j
theorem fri_rf (wi wr : List (Nat × Nat)) (S : HS) : FRI wi wr S S := ⟨fun _ _ _ _ _ _ => rfl, fun _ _ _ _ _ _ => rfl⟩
theorem fri_sI {wi wr : List (Nat × Nat)} {S0 S : HS} {a k j : Nat} {v : Int32} (g : Gr S0 S) (h : FRI wi wr S0 S) (o : ob S a k) (hk : (k, j) ∈ wi) : FRI wi wr S0 (sI S a j v) := by
  refine ⟨fun q z h1 h2 b hb => ?_, h.2⟩
  have hne : ¬ (b = a ∧ z = j) := fun c => h2 (by rw [c.2, ← (gr_ob g hb).2, c.1, o.2]; exact hk)
  exact (u2_ne _ _ hne).trans (h.1 q z h1 h2 b hb)
theorem fri_aI {wi wr : List (Nat × Nat)} {S0 S : HS} {a k j : Nat} {v : Int32} (g : Gr S0 S) (h : FRI wi wr S0 S) (o : ob S a k) (hk : 12 ≤ k) : FRI wi wr S0 (sI S a j v) := by
  refine ⟨fun q z h1 h2 b hb => ?_, h.2⟩
  have hne : ¬ (b = a ∧ z = j) := fun c => by have := (gr_ob g hb).2; rw [c.1, o.2] at this; omega
  exact (u2_ne _ _ hne).trans (h.1 q z h1 h2 b hb)
theorem fri_sR {wi wr : List (Nat × Nat)} {S0 S : HS} {a k j : Nat} {v : Option Nat} (g : Gr S0 S) (h : FRI wi wr S0 S) (o : ob S a k) (hk : (k, j) ∈ wr) : FRI wi wr S0 (sR S a j v) := by
  refine ⟨h.1, fun q z h1 h2 b hb => ?_⟩
  have hne : ¬ (b = a ∧ z = j) := fun c => h2 (by rw [c.2, ← (gr_ob g hb).2, c.1, o.2]; exact hk)
  exact (u2_ne _ _ hne).trans (h.2 q z h1 h2 b hb)
theorem fri_aR {wi wr : List (Nat × Nat)} {S0 S : HS} {a k j : Nat} {v : Option Nat} (g : Gr S0 S) (h : FRI wi wr S0 S) (o : ob S a k) (hk : 12 ≤ k) : FRI wi wr S0 (sR S a j v) := by
  refine ⟨h.1, fun q z h1 h2 b hb => ?_⟩
  have hne : ¬ (b = a ∧ z = j) := fun c => by have := (gr_ob g hb).2; rw [c.1, o.2] at this; omega
  exact (u2_ne _ _ hne).trans (h.2 q z h1 h2 b hb)
theorem fri_tr {wi wr wi2 wr2 : List (Nat × Nat)} {S0 S T : HS} (g : Gr S0 S) (h : FRI wi wr S0 S) (h2 : FRI wi2 wr2 S T) (c : ∀ e ∈ wi2, e ∈ wi) (d : ∀ e ∈ wr2, e ∈ wr) : FRI wi wr S0 T := ⟨fun q z h1 h3 b hb => (h2.1 q z h1 (fun y => h3 (c _ y)) b (gr_ob g hb)).trans (h.1 q z h1 h3 b hb), fun q z h1 h3 b hb => (h2.2 q z h1 (fun y => h3 (d _ y)) b (gr_ob g hb)).trans (h.2 q z h1 h3 b hb)⟩
theorem fri_at {wi wr : List (Nat × Nat)} {S T : HS} {a k j : Nat} (h : FRI wi wr S T) (hk : k < 12) (hn : (k, j) ∉ wi) (o : ob S a k) : fI T a j = fI S a j := h.1 k j hk hn a o
theorem frr_at {wi wr : List (Nat × Nat)} {S T : HS} {a k j : Nat} (h : FRI wi wr S T) (hk : k < 12) (hn : (k, j) ∉ wr) (o : ob S a k) : fR T a j = fR S a j := h.2 k j hk hn a o
section Wr
variable {S0 S T : HS} {a j k b q i x : Nat}
theorem ln_I {v : Int32} {N : Nat} (e : T = sI S a j v) (h : hN S b = N) : hN T b = N := by rw [e]; exact h
theorem ln_J {v : Int64} {N : Nat} (e : T = sJ S a j v) (h : hN S b = N) : hN T b = N := by rw [e]; exact h
theorem ln_R {v : Option Nat} {N : Nat} (e : T = sR S a j v) (h : hN S b = N) : hN T b = N := by rw [e]; exact h
theorem hl_g {n : Nat} (g : Gr S T) (o : ob S b k) (h : hN S b < n) : hN T b < n := by rw [gr_len g o]; exact h
theorem hl_I {v : Int32} {N : Nat} (e : T = sI S a j v) (h : hN S b < N) : hN T b < N := by rw [e]; exact h
theorem hl_J {v : Int64} {N : Nat} (e : T = sJ S a j v) (h : hN S b < N) : hN T b < N := by rw [e]; exact h
theorem hl_R {v : Option Nat} {N : Nat} (e : T = sR S a j v) (h : hN S b < N) : hN T b < N := by rw [e]; exact h
theorem rf_I {v : Int32} {r : Option Nat} (e : T = sI S a j v) (h : fR S b i = r) : fR T b i = r := by rw [e]; exact h
theorem rf_J {v : Int64} {r : Option Nat} (e : T = sJ S a j v) (h : fR S b i = r) : fR T b i = r := by rw [e]; exact h
theorem rf_Rk {v r : Option Nat} (e : T = sR S a j v) (o : ob S a k) (p : ob S b q) (hk : k ≠ q) (h : fR S b i = r) : fR T b i = r := by rw [e, sR_ne o p hk]; exact h
theorem rf_Rj {v r : Option Nat} (e : T = sR S a j v) (hj : i ≠ j) (h : fR S b i = r) : fR T b i = r := by rw [e]; exact (u2_ne _ _ (fun z => hj z.2)).trans h
theorem gr_I {v : Int32} (e : T = sI S a j v) (g : Gr S0 S) : Gr S0 T := by rw [e]; exact g
theorem gr_J {v : Int64} (e : T = sJ S a j v) (g : Gr S0 S) : Gr S0 T := by rw [e]; exact g
theorem gr_R {v : Option Nat} (e : T = sR S a j v) (g : Gr S0 S) : Gr S0 T := by rw [e]; exact g
theorem rd_Ij {v y : Int32} (e : T = sI S a j v) (hj : i ≠ j) (h : y = fI S b i) : y = fI T b i := by rw [e, rd_j hj]; exact h
theorem rd_Ik {v y : Int32} (e : T = sI S a j v) (o : ob S a k) (p : ob S b q) (hk : k ≠ q) (h : y = fI S b i) : y = fI T b i := by rw [e, sI_ne o p hk]; exact h
theorem rd_Is {v y : Int32} (e : T = sI S a j v) (h : y = v) : y = fI T a j := by rw [e, h]; exact (u2_self _ _ _ _).symm
theorem rd_J {v : Int64} {y : Int32} (e : T = sJ S a j v) (h : y = fI S b i) : y = fI T b i := by rw [e]; exact h
theorem rd_R {v : Option Nat} {y : Int32} (e : T = sR S a j v) (h : y = fI S b i) : y = fI T b i := by rw [e]; exact h
theorem fr_I {wi wr : List (Nat × Nat)} {v : Int32} (e : T = sI S a j v) (g : Gr S0 S) (h : FRI wi wr S0 S) (o : ob S a k) (hk : (k, j) ∈ wi) : FRI wi wr S0 T := by rw [e]; exact fri_sI g h o hk
theorem fr_A {wi wr : List (Nat × Nat)} {v : Int32} (e : T = sI S a j v) (g : Gr S0 S) (h : FRI wi wr S0 S) (o : ob S a k) (hk : 12 ≤ k) : FRI wi wr S0 T := by rw [e]; exact fri_aI g h o hk
theorem fr_J {wi wr : List (Nat × Nat)} {v : Int64} (e : T = sJ S a j v) (h : FRI wi wr S0 S) : FRI wi wr S0 T := by rw [e]; exact h
theorem fr_R {wi wr : List (Nat × Nat)} {v : Option Nat} (e : T = sR S a j v) (g : Gr S0 S) (h : FRI wi wr S0 S) (o : ob S a k) (hk : (k, j) ∈ wr) : FRI wi wr S0 T := by rw [e]; exact fri_sR g h o hk
theorem fr_AR {wi wr : List (Nat × Nat)} {v : Option Nat} (e : T = sR S a j v) (g : Gr S0 S) (h : FRI wi wr S0 S) (o : ob S a k) (hk : 12 ≤ k) : FRI wi wr S0 T := by rw [e]; exact fri_aR g h o hk
end Wr
theorem lc_ne {x : Int64} (h : ¬ lg_cmp x 0 = 0) : ¬ x = 0 := fun z => h (by rw [z]; decide)
theorem lc_gt {x : Int64} (h : 0 < lg_cmp x 0) : ¬ x = 0 := fun z => absurd h (by rw [z]; decide)
theorem lc_ge {x y : Int64} (h : ¬ lg_cmp x y < 0) : y ≤ x := by
  unfold lg_cmp at h
  by_cases c : x > y
  · exact Int64.le_of_lt c
  · rw [if_neg c] at h
    by_cases d : x = y
    · rw [d]; exact Int64.le_refl y
    · rw [if_neg d] at h; exact absurd (by decide) h
theorem lc_le {x y : Int64} (h : lg_cmp x y ≤ 0) : x ≤ y := by
  unfold lg_cmp at h
  by_cases c : x > y
  · rw [if_pos c] at h; exact absurd h (by decide)
  · exact Int64.not_lt.mp c
theorem i64_rng {t : Int64} {lo hi : Int32} (h1 : lo.toInt64 ≤ t) (h2 : t ≤ hi.toInt64) : lo ≤ t.toInt32 ∧ t.toInt32 ≤ hi := by
  have a := Int64.le_iff_toInt_le.mp h1
  have b := Int64.le_iff_toInt_le.mp h2
  rw [Int32.toInt_toInt64] at a b
  have l1 := lo.le_toInt
  have l2 := hi.toInt_lt
  have e : t.toInt32.toInt = t.toInt := by
    rw [Int64.toInt_toInt32]
    exact Int.bmod_eq_of_le (by omega) (by omega)
  exact ⟨Int32.le_iff_toInt_le.mpr (by rw [e]; exact a), Int32.le_iff_toInt_le.mpr (by rw [e]; exact b)⟩
theorem dvl {a c k m : Int32} (h0 : 0 ≤ a) (h : a < m) (hc : 0 < c.toInt) (hm : m.toInt = c.toInt * k.toInt) : 0 ≤ a / c ∧ a / c < k := by
  have a0 : 0 ≤ a.toInt := by simpa using Int32.le_iff_toInt_le.mp h0
  have a1 := Int32.lt_iff_toInt_lt.mp h
  have e : (a / c).toInt = a.toInt / c.toInt := by
    rw [Int32.toInt_div, Int.tdiv_eq_ediv_of_nonneg a0]
    refine Int.bmod_eq_of_le ?_ ?_
    · have := Int.ediv_nonneg a0 (Int.le_of_lt hc); omega
    · have := Int.ediv_le_self c.toInt a0; have := a.toInt_lt; omega
  have q0 : 0 ≤ a.toInt / c.toInt := Int.ediv_nonneg a0 (Int.le_of_lt hc)
  have q1 : a.toInt / c.toInt < k.toInt := Int.ediv_lt_of_lt_mul hc (by rw [Int.mul_comm]; omega)
  exact ⟨Int32.le_iff_toInt_le.mpr (by rw [e]; simpa using q0), Int32.lt_iff_toInt_lt.mpr (by rw [e]; exact q1)⟩
theorem dv0 {a c : Int32} (h0 : 0 ≤ a) (hc : 0 < c.toInt) : 0 ≤ a / c ∧ a / c ≤ a := by
  have a0 : 0 ≤ a.toInt := by simpa using Int32.le_iff_toInt_le.mp h0
  have e : (a / c).toInt = a.toInt / c.toInt := by
    rw [Int32.toInt_div, Int.tdiv_eq_ediv_of_nonneg a0]
    refine Int.bmod_eq_of_le ?_ ?_
    · have := Int.ediv_nonneg a0 (Int.le_of_lt hc); omega
    · have := Int.ediv_le_self c.toInt a0; have := a.toInt_lt; omega
  exact ⟨Int32.le_iff_toInt_le.mpr (by rw [e]; simpa using Int.ediv_nonneg a0 (Int.le_of_lt hc)), Int32.le_iff_toInt_le.mpr (by rw [e]; exact Int.ediv_le_self _ a0)⟩
theorem rm_rng {a b : Int32} (h0 : 0 ≤ a) (hb : 0 < b) : 0 ≤ a - a / b * b ∧ a - a / b * b < b := by
  have a0 : 0 ≤ a.toInt := by simpa using Int32.le_iff_toInt_le.mp h0
  have b0 : 0 < b.toInt := by simpa using Int32.lt_iff_toInt_lt.mp hb
  obtain ⟨n, hn, rfl⟩ := nI_of (x := a) (fun z => absurd (Int32.lt_iff_toInt_lt.mp z) (by simpa using a0))
  obtain ⟨d, hd, rfl⟩ := nI_of (x := b) (fun z => absurd (Int32.lt_iff_toInt_lt.mp z) (by simpa using Int.le_of_lt b0))
  have hd0 : 0 < d := by rw [nI_toInt hd] at b0; omega
  rw [pk_rem hn hd0 hd]
  have hl := Nat.mod_lt n hd0
  exact ⟨nI_pos' (by omega), nI_lt hl hd⟩
theorem wyl {S : HS} {a b j N : Nat} (h : IV S) (o : ob S a 7) (i : Nat) (hi : wyT[i]? = some (j, N)) (hN' : N < 2147483648) (e : fR S a j = some b) : hN S b < 2147483648 := by
  rcases h.2.2.1 a o with g | g
  · rw [g _ (List.mem_of_getElem? hi) b e]; decide
  · rw [g _ (List.mem_of_getElem? hi) b e]; exact hN'
/-- the rows of Ways are made -/
def WM (S : HS) (a : Nat) : Prop := ∀ e ∈ wyT, ∀ b, fR S a e.1 = some b → hN S b = e.2
theorem wm {S : HS} {a b j N : Nat} (h : WM S a) (i : Nat) (hi : wyT[i]? = some (j, N)) (e : fR S a j = some b) : hN S b = N := h _ (List.mem_of_getElem? hi) b e
theorem wm_of {S : HS} {a b : Nat} (h : IV S) (o : ob S a 7) (e : fR S a 1 = some b) (hb : ¬ nI (hN S b) = 0) : WM S a := by
  rcases h.2.2.1 a o with g | g
  · exact absurd (by rw [g (1, 3208) (by decide) b e]; decide) hb
  · exact g
theorem wm_I {S T : HS} {a j b : Nat} {v : Int32} (e : T = sI S a j v) (h : WM S b) : WM T b := by rw [e]; exact h
theorem wm_J {S T : HS} {a j b : Nat} {v : Int64} (e : T = sJ S a j v) (h : WM S b) : WM T b := by rw [e]; exact h
theorem wm_fr {wi wr : List (Nat × Nat)} {S T : HS} {a : Nat} (fc : FRI wi wr S T) (g : Gr S T) (hI : IV S) (o : ob S a 7) (hn : ∀ e ∈ wyT, (7, e.1) ∉ wr) (h : WM S a) : WM T a := by
  intro e he b hb
  have h1 : fR S a e.1 = some b := (frr_at fc (by decide) (hn e he) o).symm.trans hb
  have hm : ∀ e ∈ wyT, (7, e.1, 13, 0) ∈ shT ∨ (7, e.1, 14, 0) ∈ shT := by decide
  have hm2 : ∃ q, (7, e.1, q, 0) ∈ shT := (hm e he).elim (fun z => ⟨13, z⟩) (fun z => ⟨14, z⟩)
  obtain ⟨q, hq⟩ := hm2
  obtain ⟨c, c1, c2, -⟩ := hI.1 _ hq a o
  have hc : c = b := Option.some.inj (c1.symm.trans h1)
  subst hc
  rw [gr_len g c2]
  exact h e he c h1
theorem sl_lt (w : Nat) : sLen.getD w 0 < 2147483648 := by
  rw [List.getD_eq_getElem?_getD]
  cases h : sLen[w]? with
  | none => decide
  | some v => exact (show ∀ x ∈ sLen, x < 2147483648 by decide) v (List.mem_of_getElem? h)
/-- there is room for one more in the world that is read -/
def RM (S : HS) (a j : Nat) (n : Int32) : Prop := ∀ w, fR S a 5 = some w → fI S w j < n
/-- the reader has its text -/
def TX (S : HS) (a : Nat) : Prop := ∃ t, fR S a 2 = some t ∧ ob S t 12 ∧ hN S t = 900
theorem tx_fr {wi wr : List (Nat × Nat)} {S T : HS} {a : Nat} (fc : FRI wi wr S T) (g : Gr S T) (hI : IV S) (o : ob S a 4) (hn : (4, 2) ∉ wr) (h : TX S a) : TX T a := by
  obtain ⟨t, h1, h2, h3⟩ := h
  exact ⟨t, (frr_at fc (by decide) hn o).trans h1, gr_ob g h2, (gr_len g h2).trans h3⟩
theorem tx_I {S T : HS} {a j b : Nat} {v : Int32} (e : T = sI S a j v) (h : TX S b) : TX T b := by rw [e]; exact h
theorem tx_J {S T : HS} {a j b : Nat} {v : Int64} (e : T = sJ S a j v) (h : TX S b) : TX T b := by rw [e]; exact h
