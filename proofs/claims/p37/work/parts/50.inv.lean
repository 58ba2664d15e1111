/-! THE INVARIANTS -/
def nuT : List (Nat × Nat × Int32 × Int32) := [(9, 1, 0, 900), (0, 0, (-1), 3), (0, 2, 0, 16), (0, 3, 0, 3), (6, 5, 0, 9), (6, 6, 0, 9), (4, 3, 0, 900), (4, 10, 0, 12), (7, 3, 0, 224), (7, 13, 0, 401), (8, 0, 0, 60), (8, 1, 0, 6), (8, 2, 0, 8), (8, 3, 0, 12), (8, 4, 0, 4), (8, 5, 0, 4), (10, 0, 0, 60), (10, 1, 0, 6), (10, 2, 0, 8), (10, 3, 0, 12), (10, 4, 0, 4), (10, 5, 0, 4), (10, 6, 0, 12), (11, 6, 0, 900), (11, 7, 0, 900), (11, 8, 0, 900), (11, 19, (-2), 3), (11, 24, 0, 16), (11, 25, 0, 3)]
def shT : List (Nat × Nat × Nat × Nat) := [(9, 0, 12, 900), (9, 2, 8, 0), (9, 3, 4, 0), (9, 4, 1, 0), (9, 5, 7, 0), (9, 6, 0, 0), (0, 4, 2, 0), (0, 5, 16, 16), (0, 6, 16, 3), (1, 0, 14, 5), (1, 1, 14, 5), (2, 2, 14, 5), (4, 5, 8, 0), (4, 11, 14, 12), (4, 12, 13, 12), (8, 6, 17, 6), (8, 7, 13, 8), (8, 8, 18, 12), (8, 9, 19, 4), (8, 10, 13, 4), (8, 11, 13, 20), (7, 0, 13, 0), (7, 1, 14, 0), (7, 2, 13, 0), (7, 4, 13, 0), (7, 5, 13, 0), (7, 6, 13, 0), (7, 7, 14, 0), (7, 8, 13, 0), (10, 7, 13, 6), (10, 8, 13, 6), (10, 9, 13, 6), (10, 10, 13, 6), (10, 11, 13, 6), (10, 12, 13, 8), (10, 13, 13, 12), (10, 14, 13, 12), (10, 15, 13, 12), (10, 16, 13, 12), (10, 17, 13, 12), (10, 18, 15, 8), (10, 19, 13, 4), (10, 20, 13, 4), (10, 21, 13, 4), (10, 22, 13, 4), (10, 23, 13, 4), (10, 24, 13, 4), (10, 25, 13, 4), (10, 26, 13, 4), (10, 27, 13, 20), (10, 28, 14, 12), (10, 29, 13, 12), (10, 30, 13, 12), (11, 5, 12, 900), (11, 16, 14, 3208), (11, 17, 13, 3208), (11, 18, 13, 3208), (11, 21, 14, 7), (11, 22, 14, 112), (11, 23, 14, 21)]
/-- the int fields are in their bounds -/
def NUF (S : HS) : Prop := ∀ e ∈ nuT, ∀ a, ob S a e.1 → e.2.2.1 ≤ fI S a e.2.1 ∧ fI S a e.2.1 ≤ e.2.2.2
/-- the reference fields hold what they must -/
def SHF (S : HS) : Prop := ∀ e ∈ shT, ∀ a, ob S a e.1 → ∃ b, fR S a e.2.1 = some b ∧ ob S b e.2.2.1 ∧ (e.2.2.2 = 0 ∨ hN S b = e.2.2.2)
/-- the arrays of references are full -/
def aeK (q : Nat) : Nat := if q = 16 then 2 else if q = 17 then 3 else if q = 18 then 5 else 6
def AEF (S : HS) : Prop := ∀ q, 16 ≤ q → q < 20 → ∀ a, ob S a q → ∀ i, i < hN S a → ∃ b, fR S a i = some b ∧ ob S b (aeK q)
/-- the rows of Ways are all empty or all made -/
def wyT : List (Nat × Nat) := [(0, 401), (1, 3208), (2, 3208), (4, 224), (5, 224), (6, 224), (7, 224), (8, 224)]
def WYF (S : HS) : Prop := ∀ a, ob S a 7 → (∀ e ∈ wyT, ∀ b, fR S a e.1 = some b → hN S b = 0) ∨ (∀ e ∈ wyT, ∀ b, fR S a e.1 = some b → hN S b = e.2)
/-- the reference's own -/
def prT : List (Nat × Nat) := [(10, 13), (10, 14), (10, 16), (10, 24), (10, 25), (10, 26), (10, 29), (10, 30), (11, 18), (11, 21), (11, 22), (11, 23)]
/-- an array of the reference whose contents matter has one owner -/
def OW (S : HS) : Prop := ∀ a k j a' k' j' b, ob S a k → k < 12 → ob S a' k' → (k', j') ∈ prT → fR S a j = some b → fR S a' j' = some b → a = a' ∧ j = j'
/-- what an object's field holds is there -/
def CLO (S : HS) : Prop := ∀ a k j b, ob S a k → k < 12 → fR S a j = some b → b ∈ hL S
/-- the contents of a world of the reference, below its counters: counter, array, least, greatest, the counter below which it is -/
def wgT : List (Nat × Nat × Int32 × Int32 × Nat) := [(3, 13, 0, 7, 2), (3, 14, 0, 7, 2), (3, 16, 1, 60, 99), (4, 24, 1, 9, 99), (4, 25, 0, 9, 99), (5, 26, 0, 3, 4)]
def EG (S : HS) (w : Nat) (e : Nat × Nat × Int32 × Int32 × Nat) (v : Int32) : Prop := e.2.2.1 ≤ v ∧ v ≤ e.2.2.2.1 ∧ (e.2.2.2.2 = 99 ∨ v < fI S w e.2.2.2.2)
def WG (S : HS) (w : Nat) : Prop := (∀ e ∈ wgT, ∀ x : Int32, 0 ≤ x → x < fI S w e.1 → ∀ b, fR S w e.2.1 = some b → EG S w e (fI S b x.toNatClampNeg)) ∧ ∀ x : Int32, 0 ≤ x → x < fI S w 2 + fI S w 4 → ∀ b c, fR S w 29 = some b → fR S w 30 = some c → 0 ≤ fI S c x.toNatClampNeg ∧ (fI S b x.toNatClampNeg = 0 → fI S c x.toNatClampNeg < fI S w 2) ∧ (fI S b x.toNatClampNeg = 1 → fI S c x.toNatClampNeg < fI S w 4)
/-- a place and a minute at each seventh -/
def de1 (z : Nat) (v : Int64) : Prop := (z % 7 = 0 → 0 ≤ v ∧ v ≤ 7) ∧ (z % 7 = 1 → 0 ≤ v ∧ v ≤ 999)
def DE (S : HS) (b : Nat) : Prop := ∀ z, de1 z (fJ S b z)
def ML (S : HS) (o : Nat) : Prop := (∀ w, fR S o 3 = some w → ob S w 10 ∧ WG S w ∧ 1 ≤ fI S w 0) ∧ (∀ w, fR S o 4 = some w → ob S w 10) ∧ (fI S o 19 = -2 ∨ (0 ≤ fI S o 19 ∧ ∃ w, fR S o 3 = some w ∧ fI S o 19 < fI S w 4)) ∧ ∀ j, j = 21 ∨ j = 22 ∨ j = 23 → ∀ b, fR S o j = some b → DE S b
def MOF (S : HS) : Prop := OW S ∧ CLO S ∧ ∀ o, ob S o 11 → ML S o
def IV (S : HS) : Prop := SHF S ∧ AEF S ∧ WYF S ∧ NUF S ∧ MOF S
theorem pr_kind {S : HS} {x k j b : Nat} (h : SHF S) (o : ob S x k) (hp : (k, j) ∈ prT) (e : fR S x j = some b) : ∃ q, ob S b q ∧ 13 ≤ q ∧ q < 15 := by
  have hd : ∀ p ∈ prT, ∃ t ∈ shT, t.1 = p.1 ∧ t.2.1 = p.2 ∧ 13 ≤ t.2.2.1 ∧ t.2.2.1 < 15 := by decide
  obtain ⟨t, ht, h1, h2, h3, h4⟩ := hd _ hp
  obtain ⟨c, c1, c2, -⟩ := h t ht x (by rw [h1]; exact o)
  rw [h2] at c1
  cases c1.symm.trans e
  exact ⟨_, c2, h3, h4⟩
theorem pr_ge : ∀ p ∈ prT, 10 ≤ p.1 ∧ p.1 < 12 := by decide
theorem ob_inj {S : HS} {a k q : Nat} (o : ob S a k) (p : ob S a q) : k = q := o.2.symm.trans p.2
/-- what the reference's invariant speaks of at a world w, at its object o, is the same -/
def SW (S T : HS) (w : Nat) : Prop := fI T w = fI S w ∧ fR T w = fR S w ∧ ∀ j b, (10, j) ∈ prT → fR S w j = some b → fI T b = fI S b
def SO (S T : HS) (o : Nat) : Prop := fI T o 19 = fI S o 19 ∧ fR T o = fR S o ∧ (∀ w, fR S o 3 = some w → SW S T w) ∧ ∀ j b, (11, j) ∈ prT → fR S o j = some b → fJ T b = fJ S b
theorem wg_same {S T : HS} {w : Nat} (sw : SW S T w) (h : WG S w) : WG T w := by
  obtain ⟨hi, hr, ha⟩ := sw
  have hp : ∀ e ∈ wgT, (10, e.2.1) ∈ prT := by decide
  refine ⟨fun e he x h0 hx b hb => ?_, fun x h0 hx b c hb hc => ?_⟩
  · rw [hi] at hx
    rw [hr] at hb
    have h1 := h.1 e he x h0 hx b hb
    have h2 := ha _ b (hp e he) hb
    unfold EG at h1 ⊢
    rw [h2, hi]
    exact h1
  · rw [hi] at hx
    rw [hr] at hb hc
    rw [ha _ b (by decide) hb, ha _ c (by decide) hc, hi]
    exact h.2 x h0 hx b c hb hc
theorem ml_same {S T : HS} {o : Nat} (hob : ∀ a k, ob S a k → ob T a k) (so : SO S T o) (h : ML S o) : ML T o := by
  obtain ⟨hi, hr, hw, hd⟩ := so
  obtain ⟨h1, h2, h3, h4⟩ := h
  refine ⟨fun w e => ?_, fun w e => ?_, ?_, fun j hj b e => ?_⟩
  · rw [hr] at e
    obtain ⟨a1, a2, a3⟩ := h1 w e
    refine ⟨hob _ _ a1, wg_same (hw w e) a2, ?_⟩
    rw [(hw w e).1]; exact a3
  · rw [hr] at e; exact hob _ _ (h2 w e)
  · rw [hi]
    rcases h3 with g | ⟨g, w, g2, g3⟩
    · exact Or.inl g
    · refine Or.inr ⟨g, w, by rw [hr]; exact g2, ?_⟩
      rw [(hw w g2).1]; exact g3
  · rw [hr] at e
    have hp : (11, j) ∈ prT := by rcases hj with rfl | rfl | rfl <;> decide
    have h5 := hd j b hp e
    intro z
    rw [h5]
    exact h4 j hj b e z
/-- neither an object of the reference nor one of its arrays that matter -/
def FRE (S : HS) (a : Nat) : Prop := (∀ k, ob S a k → k ≠ 10 ∧ k ≠ 11) ∧ ∀ x k j, ob S x k → (k, j) ∈ prT → fR S x j ≠ some a
theorem fre_I {S : HS} {a j : Nat} {v : Int32} (hf : FRE S a) (h : MOF S) : MOF (sI S a j v) := by
  refine ⟨h.1, h.2.1, fun o oo => ?_⟩
  have oo' : ob S o 11 := oo
  have hm := h.2.2 o oo'
  have ho : o ≠ a := fun z => (hf.1 11 (z ▸ oo')).2 rfl
  refine ml_same (S := S) (fun _ _ z => z) ⟨congrFun (u2_row _ _ ho) 19, rfl, fun w e => ?_, fun _ _ _ _ => rfl⟩ hm
  have hw := (hm.1 w e).1
  exact ⟨u2_row _ _ (fun z => (hf.1 10 (z ▸ hw)).1 rfl), rfl, fun i b hp hb => u2_row _ _ (fun z => hf.2 w 10 i hw hp (z ▸ hb))⟩
theorem fre_J {S : HS} {a j : Nat} {v : Int64} (hf : ∀ x k j, ob S x k → (k, j) ∈ prT → fR S x j ≠ some a) (h : MOF S) : MOF (sJ S a j v) := by
  refine ⟨h.1, h.2.1, fun o oo => ?_⟩
  have oo' : ob S o 11 := oo
  have hm := h.2.2 o oo'
  exact ml_same (S := S) (fun _ _ z => z) ⟨rfl, rfl, fun w e => ⟨rfl, rfl, fun _ _ _ _ => rfl⟩, fun i b hp hb => u2_row _ _ (fun z => hf o 11 i oo' hp (z ▸ hb))⟩ hm
theorem npr {S : HS} {v q : Nat} (h : SHF S) (ov : ob S v q) (hq : q < 13 ∨ 15 ≤ q) : ∀ x k j, ob S x k → (k, j) ∈ prT → fR S x j ≠ some v := by
  intro x k j ox hp e
  obtain ⟨r, r1, r2, r3⟩ := pr_kind h ox hp e
  have := ob_inj ov r1
  omega
theorem fre_ob {S : HS} {a k : Nat} (h : SHF S) (o : ob S a k) (hk : k < 10) : FRE S a := ⟨fun q p => by have := ob_inj o p; omega, npr h o (Or.inl (by omega))⟩
theorem npr_arr {S : HS} {a b k j : Nat} (h : OW S) (o : ob S a k) (hk : k < 12) (hnp : (k, j) ∉ prT) (e : fR S a j = some b) : ∀ x q i, ob S x q → (q, i) ∈ prT → fR S x i ≠ some b := by
  intro x q i ox hp e2
  obtain ⟨rfl, rfl⟩ := h a k j x q i b o hk ox hp e e2
  exact hnp (by rw [ob_inj o ox]; exact hp)
theorem fre_arr {S : HS} {a b k j q : Nat} (h : OW S) (o : ob S a k) (hk : k < 12) (hnp : (k, j) ∉ prT) (e : fR S a j = some b) (p : ob S b q) (hq : 12 ≤ q) : FRE S b := ⟨fun r z => by have := ob_inj p z; omega, npr_arr h o hk hnp e⟩
theorem np10 {k j : Nat} (hk : k < 10) : (k, j) ∉ prT := fun h => by have := (pr_ge _ h).1; simp only at this; omega
theorem mof_aR {S : HS} {a j q : Nat} {v : Option Nat} (o : ob S a q) (hq : 12 ≤ q) (h : MOF S) (h12 : SHF S) : MOF (sR S a j v) := by
  have hne : ∀ x k, ob S x k → k < 12 → fR (sR S a j v) x = fR S x := fun x k ox hk => u2_row _ _ (fun z => by have := ob_inj (z ▸ ox) o; omega)
  refine ⟨fun x k i x' k' i' b ox hk ox' hp e e' => ?_, fun x k i b ox hk e => ?_, fun y oo => ?_⟩
  · rw [hne x k ox hk] at e
    rw [hne x' k' ox' (pr_ge _ hp).2] at e'
    exact h.1 x k i x' k' i' b ox hk ox' hp e e'
  · rw [hne x k ox hk] at e
    exact h.2.1 x k i b ox hk e
  · have oo' : ob S y 11 := oo
    refine ml_same (S := S) (fun _ _ z => z) ⟨rfl, hne y 11 oo' (by omega), fun w e => ⟨rfl, hne w 10 ((h.2.2 y oo').1 w e).1 (by omega), fun _ _ _ _ => rfl⟩, fun _ _ _ _ => rfl⟩ (h.2.2 y oo')
theorem ow_sR {S : HS} {a k j v : Nat} (o : ob S a k) (hnp : (k, j) ∉ prT) (hv : ∀ x q i, ob S x q → (q, i) ∈ prT → fR S x i ≠ some v) (hvl : v ∈ hL S) (h : OW S ∧ CLO S) : OW (sR S a j (some v)) ∧ CLO (sR S a j (some v)) := by
  refine ⟨fun x q i x' q' i' b ox hk ox' hp e e' => ?_, fun x q i b ox hk e => ?_⟩
  · have ox : ob S x q := ox
    have ox' : ob S x' q' := ox'
    have c' : ¬ (x' = a ∧ i' = j) := fun z => hnp (by
      have e2 : q' = k := ob_inj ox' (show ob S x' k by rw [z.1]; exact o)
      rw [← e2, ← z.2]; exact hp)
    have e'2 : fR S x' i' = some b := (u2_ne _ _ c').symm.trans e'
    by_cases c : x = a ∧ i = j
    · have : some v = some b := by
        rw [c.1, c.2] at e
        exact (u2_self _ _ _ _).symm.trans e
      cases this
      exact absurd e'2 (hv x' q' i' ox' hp)
    · exact h.1 x q i x' q' i' b ox hk ox' hp ((u2_ne _ _ c).symm.trans e) e'2
  · have ox : ob S x q := ox
    by_cases c : x = a ∧ i = j
    · have : some v = some b := by
        rw [c.1, c.2] at e
        exact (u2_self _ _ _ _).symm.trans e
      cases this
      exact hvl
    · exact h.2 x q i b ox hk ((u2_ne _ _ c).symm.trans e)
theorem mof_sR {S : HS} {a k j v : Nat} (o : ob S a k) (hk : k < 10) (hv : ∀ x q i, ob S x q → (q, i) ∈ prT → fR S x i ≠ some v) (hvl : v ∈ hL S) (h : MOF S) : MOF (sR S a j (some v)) := by
  obtain ⟨h1, h2⟩ := ow_sR (j := j) o (np10 hk) hv hvl ⟨h.1, h.2.1⟩
  refine ⟨h1, h2, fun y oo => ?_⟩
  have oo' : ob S y 11 := oo
  have hne : ∀ x q, ob S x q → 10 ≤ q → fR (sR S a j (some v)) x = fR S x := fun x q ox hq => u2_row _ _ (fun z => by have := ob_inj (z ▸ ox) o; omega)
  exact ml_same (S := S) (fun _ _ z => z) ⟨rfl, hne y 11 oo' (by omega), fun w e => ⟨rfl, hne w 10 ((h.2.2 y oo').1 w e).1 (by omega), fun _ _ _ _ => rfl⟩, fun _ _ _ _ => rfl⟩ (h.2.2 y oo')
theorem nu {S : HS} {a k j : Nat} {lo hi : Int32} (i : Nat) (hi' : nuT[i]? = some (k, j, lo, hi)) (h : IV S) (o : ob S a k) : lo ≤ fI S a j ∧ fI S a j ≤ hi := h.2.2.2.1 _ (List.mem_of_getElem? hi') a o
theorem sh {S : HS} {a k j q N : Nat} (i : Nat) (hi' : shT[i]? = some (k, j, q, N)) (h : IV S) (o : ob S a k) : ∃ b, fR S a j = some b ∧ ob S b q ∧ (N = 0 ∨ hN S b = N) := h.1 _ (List.mem_of_getElem? hi') a o
theorem shl {S : HS} {a k j q N : Nat} (i : Nat) (hi' : shT[i]? = some (k, j, q, N + 1)) (h : IV S) (o : ob S a k) : ∃ b, fR S a j = some b ∧ ob S b q ∧ hN S b = N + 1 := by
  obtain ⟨b, h1, h2, h3⟩ := sh i hi' h o
  exact ⟨b, h1, h2, h3.resolve_left (by omega)⟩
theorem ae {S : HS} {a q : Nat} (h : IV S) (o : ob S a q) (h1 : 16 ≤ q) (h2 : q < 20) {x : Int32} (hx : vp_in x (hN S a)) : ∃ b, fR S a x.toNatClampNeg = some b ∧ ob S b (aeK q) := h.2.1 q h1 h2 a o _ (Nat.not_le.mp fun z => hx (Or.inr z))
theorem vin {x m : Int32} {n N : Nat} (e : n = N) (hm : m.toInt = (N : Int)) (h : 0 ≤ x ∧ x < m) : vp_in x n := by
  rw [vp_in_iff, e, ← hm]
  exact ⟨by simpa using Int32.le_iff_toInt_le.mp h.1, Int32.lt_iff_toInt_lt.mp h.2⟩
theorem vinL {x : Int32} {n : Nat} (hn : n < 2147483648) (h : 0 ≤ x ∧ x < nI n) : vp_in x n := by
  rw [vp_in_iff, ← nI_toInt hn]
  exact ⟨by simpa using Int32.le_iff_toInt_le.mp h.1, Int32.lt_iff_toInt_lt.mp h.2⟩
theorem sI_ne {S : HS} {a b k q j : Nat} {v : Int32} (o : ob S a k) (p : ob S b q) (h : k ≠ q) (i : Nat) : fI (sI S a j v) b i = fI S b i := u2_ne _ _ (fun z => h (by rw [← o.2, ← p.2, z.1]))
theorem nuf_sI {S : HS} {a k j : Nat} {v : Int32} (h : NUF S) (o : ob S a k) (hc : ∀ e ∈ nuT, e.1 = k → e.2.1 = j → e.2.2.1 ≤ v ∧ v ≤ e.2.2.2) : NUF (sI S a j v) := by
  intro e he b hb
  have hb' : ob S b e.1 := hb
  show e.2.2.1 ≤ u2 (fI S) a j v b e.2.1 ∧ u2 (fI S) a j v b e.2.1 ≤ e.2.2.2
  by_cases c : b = a ∧ e.2.1 = j
  · obtain ⟨rfl, c2⟩ := c
    rw [c2, u2_self]
    exact hc e he (hb'.2.symm.trans o.2) c2
  · rw [u2_ne _ _ c]
    exact h e he b hb'
theorem nu_free {k j : Nat} {v : Int32} (h : (nuT.all fun e => !(e.1 == k && e.2.1 == j)) = true) : ∀ e ∈ nuT, e.1 = k → e.2.1 = j → e.2.2.1 ≤ v ∧ v ≤ e.2.2.2 := by
  intro e he h1 h2
  have := List.all_eq_true.mp h e he
  simp [h1, h2] at this
theorem nu_one {k j : Nat} {v lo hi : Int32} (h : nuT.filter (fun e => e.1 == k && e.2.1 == j) = [(k, j, lo, hi)]) (hv : lo ≤ v ∧ v ≤ hi) : ∀ e ∈ nuT, e.1 = k → e.2.1 = j → e.2.2.1 ≤ v ∧ v ≤ e.2.2.2 := by
  intro e he h1 h2
  have hm : e ∈ nuT.filter (fun e => e.1 == k && e.2.1 == j) := List.mem_filter.mpr ⟨he, by simp [h1, h2]⟩
  rw [h] at hm
  cases List.mem_singleton.mp hm
  exact hv
/-- an int field of the class's own is written -/
theorem iv_sI {S : HS} {a k j : Nat} {v : Int32} (h : IV S) (o : ob S a k) (hk : k < 10) (hc : ∀ e ∈ nuT, e.1 = k → e.2.1 = j → e.2.2.1 ≤ v ∧ v ≤ e.2.2.2) : IV (sI S a j v) := ⟨h.1, h.2.1, h.2.2.1, nuf_sI h.2.2.2.1 o hc, fre_I (fre_ob h.1 o hk) h.2.2.2.2⟩
theorem iv_sJ {S : HS} {a k j : Nat} {v : Int64} (h : IV S) (o : ob S a k) (hk : k < 10) : IV (sJ S a j v) := ⟨h.1, h.2.1, h.2.2.1, h.2.2.2.1, fre_J (npr h.1 o (Or.inl (by omega))) h.2.2.2.2⟩
/-- an int array's element is written (its owner: a field of the class's own) -/
theorem iv_aI {S : HS} {a b k j q i : Nat} {v : Int32} (h : IV S) (o : ob S a k) (hk : k < 10) (e : fR S a j = some b) (ob' : ob S b q) (hq : 12 ≤ q) : IV (sI S b i v) := by
  refine ⟨h.1, h.2.1, h.2.2.1, nuf_sI h.2.2.2.1 ob' ?_, fre_I (fre_arr h.2.2.2.2.1 o (by omega) (np10 hk) e ob' hq) h.2.2.2.2⟩
  intro e he h1 _
  have : ∀ e ∈ nuT, e.1 < 12 := by decide
  have := this e he
  omega
theorem iv_aJ {S : HS} {a b k j q i : Nat} {v : Int64} (h : IV S) (o : ob S a k) (hk : k < 10) (e : fR S a j = some b) (ob' : ob S b q) (hq : 12 ≤ q) : IV (sJ S b i v) := ⟨h.1, h.2.1, h.2.2.1, h.2.2.2.1, fre_J (npr_arr h.2.2.2.2.1 o (by omega) (np10 hk) e) h.2.2.2.2⟩
theorem mu_up {v x K : Int32} (h1 : v < x) (h2 : v < K) : (K.toInt - x.toInt).toNat < (K.toInt - v.toInt).toNat := by
  have a := Int32.lt_iff_toInt_lt.mp h1
  have b := Int32.lt_iff_toInt_lt.mp h2
  omega
theorem mu_down {v x K : Int32} (h1 : x < v) (h2 : K < v) : (x.toInt - K.toInt).toNat < (v.toInt - K.toInt).toNat := by
  have a := Int32.lt_iff_toInt_lt.mp h1
  have b := Int32.lt_iff_toInt_lt.mp h2
  omega
theorem sR_ne {S : HS} {a b k q j : Nat} {v : Option Nat} (o : ob S a k) (p : ob S b q) (h : k ≠ q) (i : Nat) : fR (sR S a j v) b i = fR S b i := u2_ne _ _ (fun z => h (by rw [← o.2, ← p.2, z.1]))
/-- an array of references gets an element -/
theorem iv_aR {S : HS} {a v q i : Nat} (h : IV S) (o : ob S a q) (h1 : 16 ≤ q) (h2 : q < 20) (ov : ob S v (aeK q)) : IV (sR S a i (some v)) := by
  have hs : ∀ e ∈ shT, e.1 < 12 := by decide
  refine ⟨fun e he b hb => ?_, fun r hr1 hr2 b hb z hz => ?_, fun b hb => ?_, h.2.2.2.1, mof_aR o (by omega) h.2.2.2.2 h.1⟩
  · have hb' : ob S b e.1 := hb
    have := hs e he
    obtain ⟨c, c1, c2⟩ := h.1 e he b hb'
    exact ⟨c, by rw [sR_ne o hb' (by omega)]; exact c1, c2⟩
  · have hb' : ob S b r := hb
    by_cases c : b = a ∧ z = i
    · obtain ⟨rfl, rfl⟩ := c
      refine ⟨v, u2_self _ _ _ _, ?_⟩
      rw [show r = q from hb'.2.symm.trans o.2]
      exact ov
    · obtain ⟨d, d1, d2⟩ := h.2.1 r hr1 hr2 b hb' z hz
      exact ⟨d, (u2_ne _ _ c).trans d1, d2⟩
  · have hb' : ob S b 7 := hb
    have hne : ∀ j, fR (sR S a i (some v)) b j = fR S b j := fun j => sR_ne o hb' (by omega) j
    rcases h.2.2.1 b hb' with g | g
    · exact Or.inl (fun e he d hd => g e he d (by rw [← hne]; exact hd))
    · exact Or.inr (fun e he d hd => g e he d (by rw [← hne]; exact hd))
/-- a reference field of the class's own (not of Ways) is written -/
theorem iv_sR {S : HS} {a v k j : Nat} (h : IV S) (o : ob S a k) (hk : k < 10) (h7 : k ≠ 7) (hv : ∀ x q i, ob S x q → (q, i) ∈ prT → fR S x i ≠ some v) (hvl : v ∈ hL S) (hc : ∀ e ∈ shT, e.1 = k → e.2.1 = j → ob S v e.2.2.1 ∧ (e.2.2.2 = 0 ∨ hN S v = e.2.2.2)) : IV (sR S a j (some v)) := by
  refine ⟨fun e he b hb => ?_, fun r hr1 hr2 b hb z hz => ?_, fun b hb => ?_, h.2.2.2.1, mof_sR o hk hv hvl h.2.2.2.2⟩
  · have hb' : ob S b e.1 := hb
    by_cases c : b = a ∧ e.2.1 = j
    · obtain ⟨rfl, c2⟩ := c
      refine ⟨v, ?_, hc e he (hb'.2.symm.trans o.2) c2⟩
      rw [c2]; exact u2_self _ _ _ _
    · obtain ⟨d, d1, d2⟩ := h.1 e he b hb'
      exact ⟨d, (u2_ne _ _ c).trans d1, d2⟩
  · have hb' : ob S b r := hb
    obtain ⟨d, d1, d2⟩ := h.2.1 r hr1 hr2 b hb' z hz
    exact ⟨d, by rw [sR_ne o hb' (by omega)]; exact d1, d2⟩
  · have hb' : ob S b 7 := hb
    have hne : ∀ z, fR (sR S a j (some v)) b z = fR S b z := fun z => sR_ne o hb' h7 z
    rcases h.2.2.1 b hb' with g | g
    · exact Or.inl (fun e he d hd => g e he d (by rw [← hne]; exact hd))
    · exact Or.inr (fun e he d hd => g e he d (by rw [← hne]; exact hd))
theorem sh_free {S : HS} {k j v : Nat} (h : (shT.all fun e => !(e.1 == k && e.2.1 == j)) = true) : ∀ e ∈ shT, e.1 = k → e.2.1 = j → ob S v e.2.2.1 ∧ (e.2.2.2 = 0 ∨ hN S v = e.2.2.2) := by
  intro e he h1 h2
  have := List.all_eq_true.mp h e he
  simp [h1, h2] at this
theorem sh_one {S : HS} {k j v q N : Nat} (h : shT.filter (fun e => e.1 == k && e.2.1 == j) = [(k, j, q, N)]) (hv : ob S v q ∧ (N = 0 ∨ hN S v = N)) : ∀ e ∈ shT, e.1 = k → e.2.1 = j → ob S v e.2.2.1 ∧ (e.2.2.2 = 0 ∨ hN S v = e.2.2.2) := by
  intro e he h1 h2
  have hm : e ∈ shT.filter (fun e => e.1 == k && e.2.1 == j) := List.mem_filter.mpr ⟨he, by simp [h1, h2]⟩
  rw [h] at hm
  cases List.mem_singleton.mp hm
  exact hv
theorem rd_j {S : HS} {a j b i : Nat} {v : Int32} (h : i ≠ j) : fI (sI S a j v) b i = fI S b i := u2_ne _ _ (fun z => h z.2)
/-- what stays: the int fields but those at the places wi, the reference fields but those at wr -/
def FRI (wi wr : List (Nat × Nat)) (S T : HS) : Prop := (∀ k j, k < 12 → (k, j) ∉ wi → ∀ a, ob S a k → fI T a j = fI S a j) ∧ ∀ k j, k < 12 → (k, j) ∉ wr → ∀ a, ob S a k → fR T a j = fR S a j
theorem fri_rf (wi wr : List (Nat × Nat)) (S : HS) : FRI wi wr S S := ⟨fun _ _ _ _ _ _ => rfl, fun _ _ _ _ _ _ => rfl⟩
theorem fri_sI {wi wr : List (Nat × Nat)} {S0 S : HS} {a k j : Nat} {v : Int32} (g : Gr S0 S) (h : FRI wi wr S0 S) (o : ob S a k) (hk : (k, j) ∈ wi) : FRI wi wr S0 (sI S a j v) := by
  refine ⟨fun q z h1 h2 b hb => ?_, h.2⟩
  have hne : ¬ (b = a ∧ z = j) := fun c => h2 (by rw [c.2, ← (gr_ob g hb).2, c.1, o.2]; exact hk)
  exact (u2_ne _ _ hne).trans (h.1 q z h1 h2 b hb)
theorem fri_aI {wi wr : List (Nat × Nat)} {S0 S : HS} {a k j : Nat} {v : Int32} (g : Gr S0 S) (h : FRI wi wr S0 S) (o : ob S a k) (hk : 12 ≤ k) : FRI wi wr S0 (sI S a j v) := by
  refine ⟨fun q z h1 h2 b hb => ?_, h.2⟩
  have hne : ¬ (b = a ∧ z = j) := fun c => by have := (gr_ob g hb).2; rw [c.1, o.2] at this; omega
  exact (u2_ne _ _ hne).trans (h.1 q z h1 h2 b hb)
theorem fri_sR {wi wr : List (Nat × Nat)} {S0 S : HS} {a k j : Nat} {v : Option Nat} (g : Gr S0 S) (h : FRI wi wr S0 S) (o : ob S a k) (hk : (k, j) ∈ wr) : FRI wi wr S0 (sR S a j v) := by
  refine ⟨h.1, fun q z h1 h2 b hb => ?_⟩
  have hne : ¬ (b = a ∧ z = j) := fun c => h2 (by rw [c.2, ← (gr_ob g hb).2, c.1, o.2]; exact hk)
  exact (u2_ne _ _ hne).trans (h.2 q z h1 h2 b hb)
theorem fri_aR {wi wr : List (Nat × Nat)} {S0 S : HS} {a k j : Nat} {v : Option Nat} (g : Gr S0 S) (h : FRI wi wr S0 S) (o : ob S a k) (hk : 12 ≤ k) : FRI wi wr S0 (sR S a j v) := by
  refine ⟨h.1, fun q z h1 h2 b hb => ?_⟩
  have hne : ¬ (b = a ∧ z = j) := fun c => by have := (gr_ob g hb).2; rw [c.1, o.2] at this; omega
  exact (u2_ne _ _ hne).trans (h.2 q z h1 h2 b hb)
theorem fri_tr {wi wr wi2 wr2 : List (Nat × Nat)} {S0 S T : HS} (g : Gr S0 S) (h : FRI wi wr S0 S) (h2 : FRI wi2 wr2 S T) (c : ∀ e ∈ wi2, e ∈ wi) (d : ∀ e ∈ wr2, e ∈ wr) : FRI wi wr S0 T := ⟨fun q z h1 h3 b hb => (h2.1 q z h1 (fun y => h3 (c _ y)) b (gr_ob g hb)).trans (h.1 q z h1 h3 b hb), fun q z h1 h3 b hb => (h2.2 q z h1 (fun y => h3 (d _ y)) b (gr_ob g hb)).trans (h.2 q z h1 h3 b hb)⟩
theorem fri_at {wi wr : List (Nat × Nat)} {S T : HS} {a k j : Nat} (h : FRI wi wr S T) (hk : k < 12) (hn : (k, j) ∉ wi) (o : ob S a k) : fI T a j = fI S a j := h.1 k j hk hn a o
theorem frr_at {wi wr : List (Nat × Nat)} {S T : HS} {a k j : Nat} (h : FRI wi wr S T) (hk : k < 12) (hn : (k, j) ∉ wr) (o : ob S a k) : fR T a j = fR S a j := h.2 k j hk hn a o
section Wr
variable {S0 S T : HS} {a j k b q i x : Nat}
theorem ln_I {v : Int32} {N : Nat} (e : T = sI S a j v) (h : hN S b = N) : hN T b = N := by rw [e]; exact h
theorem ln_J {v : Int64} {N : Nat} (e : T = sJ S a j v) (h : hN S b = N) : hN T b = N := by rw [e]; exact h
theorem ln_R {v : Option Nat} {N : Nat} (e : T = sR S a j v) (h : hN S b = N) : hN T b = N := by rw [e]; exact h
theorem hl_g {n : Nat} (g : Gr S T) (o : ob S b k) (h : hN S b < n) : hN T b < n := by rw [gr_len g o]; exact h
theorem hl_I {v : Int32} {N : Nat} (e : T = sI S a j v) (h : hN S b < N) : hN T b < N := by rw [e]; exact h
theorem hl_J {v : Int64} {N : Nat} (e : T = sJ S a j v) (h : hN S b < N) : hN T b < N := by rw [e]; exact h
theorem hl_R {v : Option Nat} {N : Nat} (e : T = sR S a j v) (h : hN S b < N) : hN T b < N := by rw [e]; exact h
theorem rf_I {v : Int32} {r : Option Nat} (e : T = sI S a j v) (h : fR S b i = r) : fR T b i = r := by rw [e]; exact h
theorem rf_J {v : Int64} {r : Option Nat} (e : T = sJ S a j v) (h : fR S b i = r) : fR T b i = r := by rw [e]; exact h
theorem rf_Rk {v r : Option Nat} (e : T = sR S a j v) (o : ob S a k) (p : ob S b q) (hk : k ≠ q) (h : fR S b i = r) : fR T b i = r := by rw [e, sR_ne o p hk]; exact h
theorem rf_Rj {v r : Option Nat} (e : T = sR S a j v) (hj : i ≠ j) (h : fR S b i = r) : fR T b i = r := by rw [e]; exact (u2_ne _ _ (fun z => hj z.2)).trans h
theorem gr_I {v : Int32} (e : T = sI S a j v) (g : Gr S0 S) : Gr S0 T := by rw [e]; exact g
theorem gr_J {v : Int64} (e : T = sJ S a j v) (g : Gr S0 S) : Gr S0 T := by rw [e]; exact g
theorem gr_R {v : Option Nat} (e : T = sR S a j v) (g : Gr S0 S) : Gr S0 T := by rw [e]; exact g
theorem rd_Ij {v y : Int32} (e : T = sI S a j v) (hj : i ≠ j) (h : y = fI S b i) : y = fI T b i := by rw [e, rd_j hj]; exact h
theorem rd_Ik {v y : Int32} (e : T = sI S a j v) (o : ob S a k) (p : ob S b q) (hk : k ≠ q) (h : y = fI S b i) : y = fI T b i := by rw [e, sI_ne o p hk]; exact h
theorem rd_Is {v y : Int32} (e : T = sI S a j v) (h : y = v) : y = fI T a j := by rw [e, h]; exact (u2_self _ _ _ _).symm
theorem rd_J {v : Int64} {y : Int32} (e : T = sJ S a j v) (h : y = fI S b i) : y = fI T b i := by rw [e]; exact h
theorem rd_R {v : Option Nat} {y : Int32} (e : T = sR S a j v) (h : y = fI S b i) : y = fI T b i := by rw [e]; exact h
theorem fr_I {wi wr : List (Nat × Nat)} {v : Int32} (e : T = sI S a j v) (g : Gr S0 S) (h : FRI wi wr S0 S) (o : ob S a k) (hk : (k, j) ∈ wi) : FRI wi wr S0 T := by rw [e]; exact fri_sI g h o hk
theorem fr_A {wi wr : List (Nat × Nat)} {v : Int32} (e : T = sI S a j v) (g : Gr S0 S) (h : FRI wi wr S0 S) (o : ob S a k) (hk : 12 ≤ k) : FRI wi wr S0 T := by rw [e]; exact fri_aI g h o hk
theorem fr_J {wi wr : List (Nat × Nat)} {v : Int64} (e : T = sJ S a j v) (h : FRI wi wr S0 S) : FRI wi wr S0 T := by rw [e]; exact h
theorem fr_R {wi wr : List (Nat × Nat)} {v : Option Nat} (e : T = sR S a j v) (g : Gr S0 S) (h : FRI wi wr S0 S) (o : ob S a k) (hk : (k, j) ∈ wr) : FRI wi wr S0 T := by rw [e]; exact fri_sR g h o hk
theorem fr_AR {wi wr : List (Nat × Nat)} {v : Option Nat} (e : T = sR S a j v) (g : Gr S0 S) (h : FRI wi wr S0 S) (o : ob S a k) (hk : 12 ≤ k) : FRI wi wr S0 T := by rw [e]; exact fri_aR g h o hk
end Wr
theorem lc_ne {x : Int64} (h : ¬ lg_cmp x 0 = 0) : ¬ x = 0 := fun z => h (by rw [z]; decide)
theorem lc_gt {x : Int64} (h : 0 < lg_cmp x 0) : ¬ x = 0 := fun z => absurd h (by rw [z]; decide)
theorem lc_ge {x y : Int64} (h : ¬ lg_cmp x y < 0) : y ≤ x := by
  unfold lg_cmp at h
  by_cases c : x > y
  · exact Int64.le_of_lt c
  · rw [if_neg c] at h
    by_cases d : x = y
    · rw [d]; exact Int64.le_refl y
    · rw [if_neg d] at h; exact absurd (by decide) h
theorem lc_le {x y : Int64} (h : lg_cmp x y ≤ 0) : x ≤ y := by
  unfold lg_cmp at h
  by_cases c : x > y
  · rw [if_pos c] at h; exact absurd h (by decide)
  · exact Int64.not_lt.mp c
theorem i64_rng {t : Int64} {lo hi : Int32} (h1 : lo.toInt64 ≤ t) (h2 : t ≤ hi.toInt64) : lo ≤ t.toInt32 ∧ t.toInt32 ≤ hi := by
  have a := Int64.le_iff_toInt_le.mp h1
  have b := Int64.le_iff_toInt_le.mp h2
  rw [Int32.toInt_toInt64] at a b
  have l1 := lo.le_toInt
  have l2 := hi.toInt_lt
  have e : t.toInt32.toInt = t.toInt := by
    rw [Int64.toInt_toInt32]
    exact Int.bmod_eq_of_le (by omega) (by omega)
  exact ⟨Int32.le_iff_toInt_le.mpr (by rw [e]; exact a), Int32.le_iff_toInt_le.mpr (by rw [e]; exact b)⟩
theorem dvl {a c k m : Int32} (h0 : 0 ≤ a) (h : a < m) (hc : 0 < c.toInt) (hm : m.toInt = c.toInt * k.toInt) : 0 ≤ a / c ∧ a / c < k := by
  have a0 : 0 ≤ a.toInt := by simpa using Int32.le_iff_toInt_le.mp h0
  have a1 := Int32.lt_iff_toInt_lt.mp h
  have e : (a / c).toInt = a.toInt / c.toInt := by
    rw [Int32.toInt_div, Int.tdiv_eq_ediv_of_nonneg a0]
    refine Int.bmod_eq_of_le ?_ ?_
    · have := Int.ediv_nonneg a0 (Int.le_of_lt hc); omega
    · have := Int.ediv_le_self c.toInt a0; have := a.toInt_lt; omega
  have q0 : 0 ≤ a.toInt / c.toInt := Int.ediv_nonneg a0 (Int.le_of_lt hc)
  have q1 : a.toInt / c.toInt < k.toInt := Int.ediv_lt_of_lt_mul hc (by rw [Int.mul_comm]; omega)
  exact ⟨Int32.le_iff_toInt_le.mpr (by rw [e]; simpa using q0), Int32.lt_iff_toInt_lt.mpr (by rw [e]; exact q1)⟩
theorem dv0 {a c : Int32} (h0 : 0 ≤ a) (hc : 0 < c.toInt) : 0 ≤ a / c ∧ a / c ≤ a := by
  have a0 : 0 ≤ a.toInt := by simpa using Int32.le_iff_toInt_le.mp h0
  have e : (a / c).toInt = a.toInt / c.toInt := by
    rw [Int32.toInt_div, Int.tdiv_eq_ediv_of_nonneg a0]
    refine Int.bmod_eq_of_le ?_ ?_
    · have := Int.ediv_nonneg a0 (Int.le_of_lt hc); omega
    · have := Int.ediv_le_self c.toInt a0; have := a.toInt_lt; omega
  exact ⟨Int32.le_iff_toInt_le.mpr (by rw [e]; simpa using Int.ediv_nonneg a0 (Int.le_of_lt hc)), Int32.le_iff_toInt_le.mpr (by rw [e]; exact Int.ediv_le_self _ a0)⟩
theorem rm_rng {a b : Int32} (h0 : 0 ≤ a) (hb : 0 < b) : 0 ≤ a - a / b * b ∧ a - a / b * b < b := by
  have a0 : 0 ≤ a.toInt := by simpa using Int32.le_iff_toInt_le.mp h0
  have b0 : 0 < b.toInt := by simpa using Int32.lt_iff_toInt_lt.mp hb
  obtain ⟨n, hn, rfl⟩ := nI_of (x := a) (fun z => absurd (Int32.lt_iff_toInt_lt.mp z) (by simpa using a0))
  obtain ⟨d, hd, rfl⟩ := nI_of (x := b) (fun z => absurd (Int32.lt_iff_toInt_lt.mp z) (by simpa using Int.le_of_lt b0))
  have hd0 : 0 < d := by rw [nI_toInt hd] at b0; omega
  rw [pk_rem hn hd0 hd]
  have hl := Nat.mod_lt n hd0
  exact ⟨nI_pos' (by omega), nI_lt hl hd⟩
theorem wyl {S : HS} {a b j N : Nat} (h : IV S) (o : ob S a 7) (i : Nat) (hi : wyT[i]? = some (j, N)) (hN' : N < 2147483648) (e : fR S a j = some b) : hN S b < 2147483648 := by
  rcases h.2.2.1 a o with g | g
  · rw [g _ (List.mem_of_getElem? hi) b e]; decide
  · rw [g _ (List.mem_of_getElem? hi) b e]; exact hN'
/-- the rows of Ways are made -/
def WM (S : HS) (a : Nat) : Prop := ∀ e ∈ wyT, ∀ b, fR S a e.1 = some b → hN S b = e.2
theorem wm {S : HS} {a b j N : Nat} (h : WM S a) (i : Nat) (hi : wyT[i]? = some (j, N)) (e : fR S a j = some b) : hN S b = N := h _ (List.mem_of_getElem? hi) b e
theorem wm_of {S : HS} {a b : Nat} (h : IV S) (o : ob S a 7) (e : fR S a 1 = some b) (hb : ¬ nI (hN S b) = 0) : WM S a := by
  rcases h.2.2.1 a o with g | g
  · exact absurd (by rw [g (1, 3208) (by decide) b e]; decide) hb
  · exact g
theorem wm_I {S T : HS} {a j b : Nat} {v : Int32} (e : T = sI S a j v) (h : WM S b) : WM T b := by rw [e]; exact h
theorem wm_J {S T : HS} {a j b : Nat} {v : Int64} (e : T = sJ S a j v) (h : WM S b) : WM T b := by rw [e]; exact h
theorem wm_fr {wi wr : List (Nat × Nat)} {S T : HS} {a : Nat} (fc : FRI wi wr S T) (g : Gr S T) (hI : IV S) (o : ob S a 7) (hn : ∀ e ∈ wyT, (7, e.1) ∉ wr) (h : WM S a) : WM T a := by
  intro e he b hb
  have h1 : fR S a e.1 = some b := (frr_at fc (by decide) (hn e he) o).symm.trans hb
  have hm : ∀ e ∈ wyT, (7, e.1, 13, 0) ∈ shT ∨ (7, e.1, 14, 0) ∈ shT := by decide
  have hm2 : ∃ q, (7, e.1, q, 0) ∈ shT := (hm e he).elim (fun z => ⟨13, z⟩) (fun z => ⟨14, z⟩)
  obtain ⟨q, hq⟩ := hm2
  obtain ⟨c, c1, c2, -⟩ := hI.1 _ hq a o
  have hc : c = b := Option.some.inj (c1.symm.trans h1)
  subst hc
  rw [gr_len g c2]
  exact h e he c h1
theorem sl_lt (w : Nat) : sLen.getD w 0 < 2147483648 := by
  rw [List.getD_eq_getElem?_getD]
  cases h : sLen[w]? with
  | none => decide
  | some v => exact (show ∀ x ∈ sLen, x < 2147483648 by decide) v (List.mem_of_getElem? h)
/-- there is room for one more in the world that is read -/
def RM (S : HS) (a j : Nat) (n : Int32) : Prop := ∀ w, fR S a 5 = some w → fI S w j < n
/-- the reader has its text -/
def TX (S : HS) (a : Nat) : Prop := ∃ t, fR S a 2 = some t ∧ ob S t 12 ∧ hN S t = 900
theorem tx_fr {wi wr : List (Nat × Nat)} {S T : HS} {a : Nat} (fc : FRI wi wr S T) (g : Gr S T) (hI : IV S) (o : ob S a 4) (hn : (4, 2) ∉ wr) (h : TX S a) : TX T a := by
  obtain ⟨t, h1, h2, h3⟩ := h
  exact ⟨t, (frr_at fc (by decide) hn o).trans h1, gr_ob g h2, (gr_len g h2).trans h3⟩
theorem tx_I {S T : HS} {a j b : Nat} {v : Int32} (e : T = sI S a j v) (h : TX S b) : TX T b := by rw [e]; exact h
theorem tx_J {S T : HS} {a j b : Nat} {v : Int64} (e : T = sJ S a j v) (h : TX S b) : TX T b := by rw [e]; exact h
/-- w is no object's world -/
def NW (S : HS) (w : Nat) : Prop := ∀ o, ob S o 11 → fR S o 3 ≠ some w
section Ref
variable {S T : HS} {a b w o j k q i x : Nat}
theorem ml_of (h : IV S) (oo : ob S o 11) : ML S o := h.2.2.2.2.2.2 o oo
theorem ml_ob (h : IV S) (oo : ob S o 11) (e : fR S o 3 = some w) : ob S w 10 := ((ml_of h oo).1 w e).1
theorem ml_ob4 (h : IV S) (oo : ob S o 11) (e : fR S o 4 = some w) : ob S w 10 := (ml_of h oo).2.1 w e
theorem ml_wg (h : IV S) (oo : ob S o 11) (e : fR S o 3 = some w) : WG S w := ((ml_of h oo).1 w e).2.1
theorem ml_hour (h : IV S) (oo : ob S o 11) (e : fR S o 3 = some w) : 1 ≤ fI S w 0 := ((ml_of h oo).1 w e).2.2
theorem ml_who (h : IV S) (oo : ob S o 11) (e : fR S o 3 = some w) : fI S o 19 = -2 ∨ (0 ≤ fI S o 19 ∧ fI S o 19 < fI S w 4) := by
  rcases (ml_of h oo).2.2.1 with g | ⟨g, w', g2, g3⟩
  · exact Or.inl g
  · cases e.symm.trans g2
    exact Or.inr ⟨g, g3⟩
theorem ml_de (h : IV S) (oo : ob S o 11) (hj : j = 21 ∨ j = 22 ∨ j = 23) (e : fR S o j = some b) (z : Nat) : de1 z (fJ S b z) := (ml_of h oo).2.2.2 j hj b e z
theorem wg_at (h : WG S w) (n : Nat) {c jj hf : Nat} {lo hi : Int32} (hn : wgT[n]? = some (c, jj, lo, hi, hf)) {y : Int32} (hy : 0 ≤ y ∧ y < fI S w c) (e : fR S w jj = some b) : lo ≤ fI S b y.toNatClampNeg ∧ fI S b y.toNatClampNeg ≤ hi := by
  have h1 := h.1 _ (List.mem_of_getElem? hn) y hy.1 hy.2 b e
  exact ⟨h1.1, h1.2.1⟩
theorem wg_lt (h : WG S w) (n : Nat) {c jj hf : Nat} {lo hi : Int32} (hn : wgT[n]? = some (c, jj, lo, hi, hf)) (hff : hf ≠ 99) {y : Int32} (hy : 0 ≤ y ∧ y < fI S w c) (e : fR S w jj = some b) : fI S b y.toNatClampNeg < fI S w hf := ((h.1 _ (List.mem_of_getElem? hn) y hy.1 hy.2 b e).2.2).resolve_left hff
/-- an int field of the reference's object (not who) -/
theorem iv11_sI {v : Int32} (h : IV S) (oo : ob S a 11) (hj : j ≠ 19) (hc : ∀ e ∈ nuT, e.1 = 11 → e.2.1 = j → e.2.2.1 ≤ v ∧ v ≤ e.2.2.2) : IV (sI S a j v) := by
  refine ⟨h.1, h.2.1, h.2.2.1, nuf_sI h.2.2.2.1 oo hc, h.2.2.2.2.1, h.2.2.2.2.2.1, fun y oy => ?_⟩
  have oy' : ob S y 11 := oy
  have hm := ml_of h oy'
  refine ml_same (S := S) (fun _ _ z => z) ⟨u2_ne _ _ (fun z => hj z.2.symm), rfl, fun w e => ?_, fun _ _ _ _ => rfl⟩ hm
  have hw := (hm.1 w e).1
  refine ⟨u2_row _ _ (fun z => ?_), rfl, fun i b hp hb => u2_row _ _ (fun z => ?_)⟩
  · have := ob_inj (z ▸ hw) oo; omega
  · obtain ⟨r, r1, r2, r3⟩ := pr_kind h.1 hw hp hb
    have := ob_inj (z ▸ r1) oo; omega
theorem iv11_sJ {v : Int64} (h : IV S) (oo : ob S a 11) : IV (sJ S a j v) := ⟨h.1, h.2.1, h.2.2.1, h.2.2.2.1, fre_J (npr h.1 oo (Or.inl (by omega))) h.2.2.2.2⟩
theorem nuf_arr {v : Int32} (h : NUF S) (p : ob S b q) (hq : 12 ≤ q) : NUF (sI S b i v) := by
  refine nuf_sI h p ?_
  intro e he h1 _
  have : ∀ e ∈ nuT, e.1 < 12 := by decide
  have := this e he
  omega
/-- who he is -/
theorem ml_who_set {v : Int32} (h : IV S) (oo : ob S a 11) (hv : v = -2 ∨ (0 ≤ v ∧ v ≤ 3 ∧ ∃ w, fR S a 3 = some w ∧ v < fI S w 4)) : IV (sI S a 19 v) := by
  have hn : (-2 : Int32) ≤ v ∧ v ≤ 3 := by
    rcases hv with rfl | ⟨h1, h2, -⟩
    · decide
    · exact ⟨Int32.le_trans (by decide) h1, h2⟩
  refine ⟨h.1, h.2.1, h.2.2.1, nuf_sI h.2.2.2.1 oo (nu_one (lo := -2) (hi := 3) (by decide) hn), h.2.2.2.2.1, h.2.2.2.2.2.1, fun y oy => ?_⟩
  have oy' : ob S y 11 := oy
  have hm := ml_of h oy'
  have hI10 : ∀ z, ob S z 10 → fI (sI S a 19 v) z = fI S z := fun z oz => u2_row _ _ (fun t => by have := ob_inj (t ▸ oz) oo; omega)
  have hIar : ∀ w i b, ob S w 10 → (10, i) ∈ prT → fR S w i = some b → fI (sI S a 19 v) b = fI S b := fun w i b hw hp hb => u2_row _ _ (fun t => by
    obtain ⟨r, r1, r2, r3⟩ := pr_kind h.1 hw hp hb
    have := ob_inj (t ▸ r1) oo; omega)
  refine ⟨fun w e => ?_, hm.2.1, ?_, hm.2.2.2⟩
  · have hw := hm.1 w e
    refine ⟨hw.1, wg_same (S := S) ⟨hI10 w hw.1, rfl, fun i b hp hb => hIar w i b hw.1 hp hb⟩ hw.2.1, ?_⟩
    rw [hI10 w hw.1]; exact hw.2.2
  · by_cases c : y = a
    · subst c
      rw [show fI (sI S y 19 v) y 19 = v from u2_self _ _ _ _]
      rcases hv with g | ⟨g1, g2, w, g3, g4⟩
      · exact Or.inl g
      · exact Or.inr ⟨g1, w, g3, by rw [hI10 w (hm.1 w g3).1]; exact g4⟩
    · rw [show fI (sI S a 19 v) y 19 = fI S y 19 from u2_ne _ _ (fun z => c z.1)]
      rcases hm.2.2.1 with g | ⟨g1, w, g3, g4⟩
      · exact Or.inl g
      · exact Or.inr ⟨g1, w, g3, by rw [hI10 w (hm.1 w g3).1]; exact g4⟩
/-- an int field of a world that is no one's -/
theorem iv10_sI {v : Int32} (h : IV S) (oo : ob S a 10) (hn : NW S a) (hc : ∀ e ∈ nuT, e.1 = 10 → e.2.1 = j → e.2.2.1 ≤ v ∧ v ≤ e.2.2.2) : IV (sI S a j v) := by
  refine ⟨h.1, h.2.1, h.2.2.1, nuf_sI h.2.2.2.1 oo hc, h.2.2.2.2.1, h.2.2.2.2.2.1, fun y oy => ?_⟩
  have oy' : ob S y 11 := oy
  have hm := ml_of h oy'
  refine ml_same (S := S) (fun _ _ z => z) ⟨u2_ne _ _ (fun z => ?_), rfl, fun w e => ?_, fun _ _ _ _ => rfl⟩ hm
  · have := ob_inj (z.1 ▸ oy') oo; omega
  · have hw := (hm.1 w e).1
    refine ⟨u2_row _ _ (fun z => hn y oy' (z ▸ e)), rfl, fun i b hp hb => u2_row _ _ (fun z => ?_)⟩
    obtain ⟨r, r1, r2, r3⟩ := pr_kind h.1 hw hp hb
    have := ob_inj (z ▸ r1) oo; omega
/-- an array of a world that is no one's -/
theorem iv10_aI {v : Int32} (h : IV S) (oo : ob S a 10) (hn : NW S a) (e : fR S a j = some b) (p : ob S b q) (hq : 12 ≤ q) : IV (sI S b i v) := by
  refine ⟨h.1, h.2.1, h.2.2.1, nuf_arr h.2.2.2.1 p hq, h.2.2.2.2.1, h.2.2.2.2.2.1, fun y oy => ?_⟩
  have oy' : ob S y 11 := oy
  have hm := ml_of h oy'
  refine ml_same (S := S) (fun _ _ z => z) ⟨u2_ne _ _ (fun z => ?_), rfl, fun w e' => ?_, fun _ _ _ _ => rfl⟩ hm
  · have := ob_inj (z.1 ▸ oy') p; omega
  · have hw := (hm.1 w e').1
    refine ⟨u2_row _ _ (fun z => ?_), rfl, fun i2 b2 hp hb => u2_row _ _ (fun z => ?_)⟩
    · have := ob_inj (z ▸ hw) p; omega
    · have := (h.2.2.2.2.1 a 10 j w 10 i2 b oo (by omega) hw hp e (z ▸ hb)).1
      exact hn y oy' (this ▸ e')
theorem iv10_aJ {v : Int64} (h : IV S) (oo : ob S a 10) (hnp : (10, j) ∉ prT) (e : fR S a j = some b) : IV (sJ S b i v) := ⟨h.1, h.2.1, h.2.2.1, h.2.2.2.1, fre_J (npr_arr h.2.2.2.2.1 oo (by omega) hnp e) h.2.2.2.2⟩
/-- an array of ints, of bytes of the reference's object -/
theorem iv11_aI {v : Int32} (h : IV S) (oo : ob S a 11) (e : fR S a j = some b) (p : ob S b q) (hq : 12 ≤ q) : IV (sI S b i v) := by
  refine ⟨h.1, h.2.1, h.2.2.1, nuf_arr h.2.2.2.1 p hq, h.2.2.2.2.1, h.2.2.2.2.2.1, fun y oy => ?_⟩
  have oy' : ob S y 11 := oy
  have hm := ml_of h oy'
  refine ml_same (S := S) (fun _ _ z => z) ⟨u2_ne _ _ (fun z => ?_), rfl, fun w e' => ?_, fun _ _ _ _ => rfl⟩ hm
  · have := ob_inj (z.1 ▸ oy') p; omega
  · have hw := (hm.1 w e').1
    refine ⟨u2_row _ _ (fun z => ?_), rfl, fun i2 b2 hp hb => u2_row _ _ (fun z => ?_)⟩
    · have := ob_inj (z ▸ hw) p; omega
    · have := (h.2.2.2.2.1 a 11 j w 10 i2 b oo (by omega) hw hp e (z ▸ hb)).1
      have := ob_inj (this ▸ hw) oo
      omega
theorem iv11_aJ {v : Int64} (h : IV S) (oo : ob S a 11) (hnp : (11, j) ∉ prT) (e : fR S a j = some b) : IV (sJ S b i v) := ⟨h.1, h.2.1, h.2.2.1, h.2.2.2.1, fre_J (npr_arr h.2.2.2.2.1 oo (by omega) hnp e) h.2.2.2.2⟩
/-- a place or a minute of a day is written -/
theorem iv11_aD {v : Int64} (h : IV S) (hv : de1 i v) : IV (sJ S b i v) := by
  refine ⟨h.1, h.2.1, h.2.2.1, h.2.2.2.1, h.2.2.2.2.1, h.2.2.2.2.2.1, fun y oy => ?_⟩
  have oy' : ob S y 11 := oy
  have hm := ml_of h oy'
  refine ⟨hm.1, hm.2.1, hm.2.2.1, fun j hj c e z => ?_⟩
  show de1 z (u2 (fJ S) b i v c z)
  by_cases c' : c = b ∧ z = i
  · rw [c'.1, c'.2, u2_self]; exact hv
  · rw [u2_ne _ _ c']; exact hm.2.2.2 j hj c e z
/-- the world that is read -/
theorem sh_sR {v : Nat} (h : SHF S) (oo : ob S a k) (hf : ∀ e ∈ shT, ¬ (e.1 = k ∧ e.2.1 = j)) : SHF (sR S a j (some v)) := by
  intro e he b hb
  have hb' : ob S b e.1 := hb
  obtain ⟨d, d1, d2⟩ := h e he b hb'
  refine ⟨d, (u2_ne _ _ (fun z => ?_)).trans d1, d2⟩
  exact hf e he ⟨ob_inj hb' (z.1 ▸ oo), z.2⟩
theorem ae_sR {v : Nat} (h : AEF S) (oo : ob S a k) (hk : k < 12) : AEF (sR S a j (some v)) := by
  intro r h1 h2 b hb z hz
  have hb' : ob S b r := hb
  obtain ⟨d, d1, d2⟩ := h r h1 h2 b hb' z hz
  exact ⟨d, by rw [sR_ne oo hb' (by omega)]; exact d1, d2⟩
theorem wy_sR {v : Nat} (h : WYF S) (oo : ob S a k) (hk : k ≠ 7) : WYF (sR S a j (some v)) := by
  intro b hb
  have hb' : ob S b 7 := hb
  have hne : ∀ z, fR (sR S a j (some v)) b z = fR S b z := fun z => sR_ne oo hb' hk z
  rcases h b hb' with g | g
  · exact Or.inl (fun e he d hd => g e he d (by rw [← hne]; exact hd))
  · exact Or.inr (fun e he d hd => g e he d (by rw [← hne]; exact hd))
theorem iv11_read {v : Nat} (h : IV S) (oo : ob S a 11) (ov : ob S v 10) : IV (sR S a 4 (some v)) := by
  obtain ⟨h1, h2⟩ := ow_sR (j := 4) oo (by decide) (npr h.1 ov (Or.inl (by omega))) ov.1 ⟨h.2.2.2.2.1, h.2.2.2.2.2.1⟩
  refine ⟨sh_sR h.1 oo (by decide), ae_sR h.2.1 oo (by omega), wy_sR h.2.2.1 oo (by omega), h.2.2.2.1, h1, h2, fun y oy => ?_⟩
  have oy' : ob S y 11 := oy
  have hm := ml_of h oy'
  have hne : ∀ j, j ≠ 4 → fR (sR S a 4 (some v)) y j = fR S y j := fun j hj => u2_ne _ _ (fun z => hj z.2)
  have hne2 : ∀ w, ob S w 10 → fR (sR S a 4 (some v)) w = fR S w := fun w hw => u2_row _ _ (fun z => by have := ob_inj (z ▸ hw) oo; omega)
  refine ⟨fun w e => ?_, fun w e => ?_, ?_, fun j hj b e => ?_⟩
  · rw [hne 3 (by omega)] at e
    have hw := hm.1 w e
    exact ⟨hw.1, wg_same (S := S) ⟨rfl, hne2 w hw.1, fun _ _ _ _ => rfl⟩ hw.2.1, hw.2.2⟩
  · by_cases c : y = a
    · subst c
      rw [show fR (sR S y 4 (some v)) y 4 = some v from u2_self _ _ _ _] at e
      cases e; exact ov
    · rw [show fR (sR S a 4 (some v)) y 4 = fR S y 4 from u2_ne _ _ (fun z => c z.1)] at e
      exact hm.2.1 w e
  · rcases hm.2.2.1 with g | ⟨g1, w, g3, g4⟩
    · exact Or.inl g
    · exact Or.inr ⟨g1, w, by rw [hne 3 (by omega)]; exact g3, g4⟩
  · rw [hne j (by omega)] at e
    exact hm.2.2.2 j hj b e
/-- the world that was read is the world, and there is no day -/
theorem iv11_world {v : Nat} (h : IV S) (oo : ob S a 11) (ov : ob S v 10) (hg : WG S v) (hh : 1 ≤ fI S v 0) : IV (sI (sR S a 3 (some v)) a 19 (-2)) := by
  obtain ⟨h1, h2⟩ := ow_sR (j := 3) oo (by decide) (npr h.1 ov (Or.inl (by omega))) ov.1 ⟨h.2.2.2.2.1, h.2.2.2.2.2.1⟩
  refine ⟨sh_sR h.1 oo (by decide), ae_sR h.2.1 oo (by omega), wy_sR h.2.2.1 oo (by omega), nuf_sI (S := sR S a 3 (some v)) h.2.2.2.1 oo (nu_one (lo := -2) (hi := 3) (by decide) (by decide)), h1, h2, fun y oy => ?_⟩
  have oy' : ob S y 11 := oy
  have hm := ml_of h oy'
  have hne : ∀ j, j ≠ 3 → fR (sI (sR S a 3 (some v)) a 19 (-2)) y j = fR S y j := fun j hj => u2_ne _ _ (fun z => hj z.2)
  have hne2 : ∀ w, ob S w 10 → fR (sI (sR S a 3 (some v)) a 19 (-2)) w = fR S w := fun w hw => u2_row _ _ (fun z => by have := ob_inj (z ▸ hw) oo; omega)
  have hI10 : ∀ z, ob S z 10 → fI (sI (sR S a 3 (some v)) a 19 (-2)) z = fI S z := fun z oz => u2_row _ _ (fun t => by have := ob_inj (t ▸ oz) oo; omega)
  have hIar : ∀ w i b, ob S w 10 → (10, i) ∈ prT → fR S w i = some b → fI (sI (sR S a 3 (some v)) a 19 (-2)) b = fI S b := fun w i b hw hp hb => u2_row _ _ (fun t => by
    obtain ⟨r, r1, r2, r3⟩ := pr_kind h.1 hw hp hb
    have := ob_inj (t ▸ r1) oo; omega)
  have hwg : ∀ w, ob S w 10 → WG S w → 1 ≤ fI S w 0 → ob S w 10 ∧ WG (sI (sR S a 3 (some v)) a 19 (-2)) w ∧ 1 ≤ fI (sI (sR S a 3 (some v)) a 19 (-2)) w 0 := fun w ow g1 g2 => ⟨ow, wg_same (S := S) ⟨hI10 w ow, hne2 w ow, fun i b hp hb => hIar w i b ow hp hb⟩ g1, by rw [hI10 w ow]; exact g2⟩
  refine ⟨fun w e => ?_, fun w e => ?_, ?_, fun j hj b e => ?_⟩
  · by_cases c : y = a
    · subst c
      rw [show fR (sI (sR S y 3 (some v)) y 19 (-2)) y 3 = some v from u2_self _ _ _ _] at e
      cases e
      exact hwg v ov hg hh
    · rw [show fR (sI (sR S a 3 (some v)) a 19 (-2)) y 3 = fR S y 3 from u2_ne _ _ (fun z => c z.1)] at e
      have hw := hm.1 w e
      exact hwg w hw.1 hw.2.1 hw.2.2
  · rw [hne 4 (by omega)] at e
    exact hm.2.1 w e
  · by_cases c : y = a
    · subst c
      exact Or.inl (u2_self _ _ _ _)
    · rw [show fI (sI (sR S a 3 (some v)) a 19 (-2)) y 19 = fI S y 19 from u2_ne _ _ (fun z => c z.1)]
      rcases hm.2.2.1 with g | ⟨g1, w, g3, g4⟩
      · exact Or.inl g
      · refine Or.inr ⟨g1, w, ?_, by rw [hI10 w (hm.1 w g3).1]; exact g4⟩
        exact (show fR (sI (sR S a 3 (some v)) a 19 (-2)) y 3 = fR S y 3 from u2_ne _ _ (fun z => c z.1)).trans g3
  · rw [hne j (by omega)] at e
    exact hm.2.2.2 j hj b e
end Ref
