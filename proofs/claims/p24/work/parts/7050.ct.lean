section
/-! ways: the least from every place and minute, as a table -/
abbrev TE : Type := Option (Int × Int × Int32)
abbrev MVx : Type := Nat × Nat × Nat × Int × Int32
def lE (x y : TE) : Prop := match x, y with
  | none, _ => False
  | some _, none => True
  | some a, some b => a.1 < b.1 ∨ (a.1 = b.1 ∧ a.2.1 < b.2.1)
noncomputable def mnE (b c : TE) : TE := dc (lE c b) c b
def cdE (t : TE) (cost : Int) (code : Int32) : TE := match t with
  | none => none
  | some a => some (cost + a.1, a.2.1, code)
def mF (v : MVx) : Nat := v.1
def mT (v : MVx) : Nat := v.2.1
def mD (v : MVx) : Nat := v.2.2.1
def mC (v : MVx) : Int := v.2.2.2.1
def mK (v : MVx) : Int32 := v.2.2.2.2
noncomputable def stE (tb : Nat → Nat → TE) (tl m p : Nat) (b : TE) (v : MVx) : TE := if mF v = p ∧ m + mD v ≤ tl then mnE b (cdE (tb (mT v) (m + mD v)) (mC v) (mK v)) else b
noncomputable def flE (tb : Nat → Nat → TE) (tl m p : Nat) (l : List MVx) (b : TE) : TE := l.foldl (stE tb tl m p) b
def adM (gl : Nat) (l : List MVx) (v : MVx) : List MVx := if mF v = gl then l else l ++ [v]
def adL (gl : Nat) (l : List MVx) (v : MVx) : List MVx := match l.getLast? with
  | none => adM gl l v
  | some u => if mK u / 10 = mK v / 10 ∧ mD u = mD v then (if mC u ≤ mC v then l else adM gl l.dropLast v) else adM gl l v
section C61
variable {tb tb' : Nat → Nat → TE} {tl m p gl : Nat} {b c t : TE} {u v : MVx} {l : List MVx}
theorem mn_none (b : TE) : mnE b none = b := dc_n (by intro h; exact h)
theorem mg_le {c1 c2 : Int} {k1 k2 : Int32} (h : c1 ≤ c2) : mnE (mnE b (cdE t c1 k1)) (cdE t c2 k2) = mnE b (cdE t c1 k1) := by
  cases t with
  | none => show mnE (mnE b none) none = _; rw [mn_none]; rfl
  | some a =>
    show mnE (mnE b (some (c1 + a.1, a.2.1, k1))) (some (c2 + a.1, a.2.1, k2)) = mnE b (some (c1 + a.1, a.2.1, k1))
    have key : ∀ x : TE, ¬ lE (some (c1 + a.1, a.2.1, k1)) x → ¬ lE (some (c2 + a.1, a.2.1, k2)) x := by
      intro x hx
      cases x with
      | none => exact absurd trivial hx
      | some y =>
        have hx : ¬ (c1 + a.1 < y.1 ∨ (c1 + a.1 = y.1 ∧ a.2.1 < y.2.1)) := hx
        show ¬ (c2 + a.1 < y.1 ∨ (c2 + a.1 = y.1 ∧ a.2.1 < y.2.1))
        omega
    refine dc_n ?_
    by_cases q : lE (some (c1 + a.1, a.2.1, k1)) b
    · have e : mnE b (some (c1 + a.1, a.2.1, k1)) = some (c1 + a.1, a.2.1, k1) := dc_y q
      rw [e]
      show ¬ (c2 + a.1 < c1 + a.1 ∨ (c2 + a.1 = c1 + a.1 ∧ a.2.1 < a.2.1))
      omega
    · have e : mnE b (some (c1 + a.1, a.2.1, k1)) = b := dc_n q
      rw [e]
      exact key b q
theorem mg_lt {c1 c2 : Int} {k1 k2 : Int32} (h : c2 < c1) : mnE (mnE b (cdE t c1 k1)) (cdE t c2 k2) = mnE b (cdE t c2 k2) := by
  cases t with
  | none => show mnE (mnE b none) none = _; rw [mn_none]; rfl
  | some a =>
    show mnE (mnE b (some (c1 + a.1, a.2.1, k1))) (some (c2 + a.1, a.2.1, k2)) = mnE b (some (c2 + a.1, a.2.1, k2))
    by_cases q : lE (some (c1 + a.1, a.2.1, k1)) b
    · have e : mnE b (some (c1 + a.1, a.2.1, k1)) = some (c1 + a.1, a.2.1, k1) := dc_y q
      have q2 : lE (some (c2 + a.1, a.2.1, k2)) b := by
        cases b with
        | none => trivial
        | some y =>
          have q : c1 + a.1 < y.1 ∨ (c1 + a.1 = y.1 ∧ a.2.1 < y.2.1) := q
          show c2 + a.1 < y.1 ∨ (c2 + a.1 = y.1 ∧ a.2.1 < y.2.1)
          omega
      have e2 : mnE b (some (c2 + a.1, a.2.1, k2)) = some (c2 + a.1, a.2.1, k2) := dc_y q2
      rw [e, e2]
      refine dc_y ?_
      show c2 + a.1 < c1 + a.1 ∨ (c2 + a.1 = c1 + a.1 ∧ a.2.1 < a.2.1)
      omega
    · have e : mnE b (some (c1 + a.1, a.2.1, k1)) = b := dc_n q
      rw [e]
theorem fl_app (l l' : List MVx) : flE tb tl m p (l ++ l') b = flE tb tl m p l' (flE tb tl m p l b) := List.foldl_append
theorem fl_one : flE tb tl m p [v] b = stE tb tl m p b v := rfl
theorem adM_fold (hp : p ≠ gl) : flE tb tl m p (adM gl l v) b = stE tb tl m p (flE tb tl m p l b) v := by
  unfold adM
  by_cases h : mF v = gl
  · rw [if_pos h]
    unfold stE
    rw [if_neg (fun z => hp (z.1.symm.trans h))]
  · rw [if_neg h, fl_app, fl_one]
/-- the class's list of moves gives what all moves give -/
theorem adL_fold (hp : p ≠ gl) (hi : ∀ u ∈ l, mK u / 10 = mK v / 10 → mF u = mF v ∧ mT u = mT v) : flE tb tl m p (adL gl l v) b = stE tb tl m p (flE tb tl m p l b) v := by
  unfold adL
  cases hl : l.getLast? with
  | none => exact adM_fold hp
  | some u =>
    have hne : l ≠ [] := by
      intro z
      rw [z] at hl
      cases hl
    have hu : u ∈ l := List.mem_of_getLast? hl
    have el : l = l.dropLast ++ [u] := by
      rw [List.getLast?_eq_some_getLast hne] at hl
      cases hl
      exact (List.dropLast_concat_getLast hne).symm
    show flE tb tl m p (if mK u / 10 = mK v / 10 ∧ mD u = mD v then (if mC u ≤ mC v then l else adM gl l.dropLast v) else adM gl l v) b = _
    by_cases h1 : mK u / 10 = mK v / 10 ∧ mD u = mD v
    · rw [if_pos h1]
      obtain ⟨f1, f2⟩ := hi u hu h1.1
      have ef : flE tb tl m p l b = stE tb tl m p (flE tb tl m p l.dropLast b) u := by
        rw [congrArg (fun z => flE tb tl m p z b) el, fl_app, fl_one]
      by_cases h2 : mC u ≤ mC v
      · rw [if_pos h2, ef]
        unfold stE
        rw [f1, f2, h1.2]
        by_cases h3 : mF v = p ∧ m + mD v ≤ tl
        · rw [if_pos h3, if_pos h3]
          exact (mg_le h2).symm
        · rw [if_neg h3, if_neg h3]
      · rw [if_neg h2, adM_fold hp, ef]
        unfold stE
        rw [f1, f2, h1.2]
        by_cases h3 : mF v = p ∧ m + mD v ≤ tl
        · rw [if_pos h3, if_pos h3, if_pos h3]
          exact (mg_lt (by omega)).symm
        · rw [if_neg h3, if_neg h3, if_neg h3]
    · rw [if_neg h1]
      exact adM_fold hp
theorem adL_mem {q : MVx} (h : q ∈ adL gl l v) : q ∈ l ∨ q = v := by
  have am : ∀ {l' : List MVx}, q ∈ adM gl l' v → q ∈ l' ∨ q = v := by
    intro l' h
    unfold adM at h
    by_cases c : mF v = gl
    · rw [if_pos c] at h
      exact Or.inl h
    · rw [if_neg c] at h
      rcases List.mem_append.mp h with z | z
      · exact Or.inl z
      · exact Or.inr (List.mem_singleton.mp z)
  unfold adL at h
  cases hl : l.getLast? with
  | none => rw [hl] at h; exact am h
  | some u =>
    rw [hl] at h
    have h : q ∈ (if mK u / 10 = mK v / 10 ∧ mD u = mD v then (if mC u ≤ mC v then l else adM gl l.dropLast v) else adM gl l v) := h
    by_cases h1 : mK u / 10 = mK v / 10 ∧ mD u = mD v
    · rw [if_pos h1] at h
      by_cases h2 : mC u ≤ mC v
      · rw [if_pos h2] at h; exact Or.inl h
      · rw [if_neg h2] at h
        exact (am h).imp (fun z => List.dropLast_subset l z) id
    · rw [if_neg h1] at h
      exact am h
theorem fl_cong (h : ∀ v ∈ l, mF v = p → m + mD v ≤ tl → tb (mT v) (m + mD v) = tb' (mT v) (m + mD v)) : ∀ b, flE tb tl m p l b = flE tb' tl m p l b := by
  induction l with
  | nil => intro b; rfl
  | cons v l ih =>
    intro b
    have e : stE tb tl m p b v = stE tb' tl m p b v := by
      unfold stE
      by_cases c : mF v = p ∧ m + mD v ≤ tl
      · rw [if_pos c, if_pos c, h v List.mem_cons_self c.1 c.2]
      · rw [if_neg c, if_neg c]
    show flE tb tl m p l (stE tb tl m p b v) = flE tb' tl m p l (stE tb' tl m p b v)
    rw [e]
    exact ih (fun u hu => h u (List.mem_cons_of_mem _ hu)) _
end C61
/-- all moves of an hour, in the order of roads, ways, speeds; then waiting -/
def wyB2 (G : GC) (r u : Nat) : Nat := (if u = 0 then gRd G r 0 else gRd G r 1).toNatClampNeg
def wyT2 (G : GC) (r u : Nat) : Nat := (if u = 0 then gRd G r 1 else gRd G r 0).toNatClampNeg
noncomputable def cLg (A : AS) (G : GC) (w h r u v : Nat) : Int64 := if h < aHs A then psum (ptM (gRn G h) (gRd G r) (gWk G w) (nI u) (nI v)) 5 * (gRn G h 4).toInt64 else 0
noncomputable def cWt (A : AS) (G : GC) (w h p : Nat) : Int64 := if h < aHs A then (drpO A G (gWk G w) (nI p)).toInt64 * 2520 * (gRn G h 4).toInt64 else 0
noncomputable def mvL (A : AS) (G : GC) (w h r u v : Nat) : MVx := (wyB2 G r u, wyT2 G r u, (goM G (nI r) (nI v)).toNatClampNeg, (cLg A G w h r u v).toInt, nI (100 * r + 10 * u + v))
noncomputable def mvW (A : AS) (G : GC) (w h p : Nat) : MVx := (p, p, 1, (cWt A G w h p).toInt, -2)
noncomputable def vsL (A : AS) (G : GC) (w h r u : Nat) : Nat → Nat → List MVx
  | 0, _ => []
  | k + 1, v => mvL A G w h r u v :: vsL A G w h r u k (v + 1)
noncomputable def trL (A : AS) (G : GC) (w h : Nat) : Nat → Nat → List MVx
  | 0, _ => []
  | k + 1, t => vsL A G w h (t / 2) (t % 2) (gF G (nI w) + 1 - gS G (nI w)) (gS G (nI w)) ++ trL A G w h k (t + 1)
noncomputable def wtL (A : AS) (G : GC) (w h : Nat) : Nat → Nat → List MVx
  | 0, _ => []
  | k + 1, p => dc (cwO A G (nI p)) [mvW A G w h p] [] ++ wtL A G w h k (p + 1)
noncomputable def FLw (A : AS) (G : GC) (w h : Nat) : List MVx := trL A G w h (2 * aR A) 0 ++ wtL A G w h (aP A) 0
noncomputable def btE (A : AS) (G : GC) (w gl tl : Nat) (tb : Nat → Nat → TE) (p m : Nat) : TE := if p = gl then some (0, (m : Int), -1) else flE tb tl m p (FLw A G w (min (m / aH A) (aHs A))) none
/-- the table is right from lo on -/
def TRw (A : AS) (G : GC) (w gl tl lo : Nat) (tb : Nat → Nat → TE) : Prop := ∀ m, lo ≤ m → m ≤ tl → ∀ p, p < aP A → tb p m = btE A G w gl tl tb p m
def MvB (A : AS) (v : MVx) : Prop := mT v < aP A ∧ 1 ≤ mD v ∧ 0 ≤ mC v ∧ mC v ≤ 1873821600000
section C61b
variable {A : AS} {G : GC} {w h r u v gl tl lo p m k : Nat} {tb tb' : Nat → Nat → TE} {q : MVx}
theorem vs_mem : ∀ (k v : Nat), q ∈ vsL A G w h r u k v → ∃ j, v ≤ j ∧ j < v + k ∧ q = mvL A G w h r u j
  | 0, _, hq => by cases hq
  | k + 1, v, hq => by
    rcases List.mem_cons.mp hq with e | hq
    · exact ⟨v, by omega, by omega, e⟩
    · obtain ⟨j, a, b, c⟩ := vs_mem k (v + 1) hq
      exact ⟨j, by omega, by omega, c⟩
theorem tr_mem : ∀ (k t : Nat), q ∈ trL A G w h k t → ∃ s, t ≤ s ∧ s < t + k ∧ q ∈ vsL A G w h (s / 2) (s % 2) (gF G (nI w) + 1 - gS G (nI w)) (gS G (nI w))
  | 0, _, hq => by cases hq
  | k + 1, t, hq => by
    rcases List.mem_append.mp hq with hq | hq
    · exact ⟨t, by omega, by omega, hq⟩
    · obtain ⟨s, a, b, c⟩ := tr_mem k (t + 1) hq
      exact ⟨s, by omega, by omega, c⟩
theorem wt_mem : ∀ (k p : Nat), q ∈ wtL A G w h k p → ∃ j, p ≤ j ∧ j < p + k ∧ cwO A G (nI j) ∧ q = mvW A G w h j
  | 0, _, hq => by cases hq
  | k + 1, p, hq => by
    rcases List.mem_append.mp hq with hq | hq
    · by_cases c : cwO A G (nI p)
      · rw [dc_y c] at hq
        exact ⟨p, by omega, by omega, c, List.mem_singleton.mp hq⟩
      · rw [dc_n c] at hq
        cases hq
    · obtain ⟨j, a, b, c⟩ := wt_mem k (p + 1) hq
      exact ⟨j, by omega, by omega, c⟩
/-- two right tables are one -/
theorem tr_uniq (hb : ∀ h, ∀ q ∈ FLw A G w h, MvB A q) (h1 : TRw A G w gl tl lo tb) (h2 : TRw A G w gl tl lo tb') : ∀ d m, m + d = tl → lo ≤ m → ∀ p, p < aP A → tb p m = tb' p m := by
  intro d
  induction d using Nat.strongRecOn with
  | _ d ih =>
    intro m hm hlo p hp
    rw [h1 m hlo (by omega) p hp, h2 m hlo (by omega) p hp]
    unfold btE
    by_cases c : p = gl
    · rw [if_pos c, if_pos c]
    · rw [if_neg c, if_neg c]
      refine fl_cong (fun q hq hf hd => ?_) none
      have b := hb _ q hq
      exact ih (tl - (m + mD q)) (by have := b.2.1; omega) (m + mD q) (by omega) (by omega) _ b.1
end C61b
/-! ways: bounds -/
section C62
variable {A : AS} {G : GC} {w h r u v gl tl lo p m k t : Nat} {tb tb' : Nat → Nat → TE} {q : MVx} {b c : TE} {l : List MVx}
theorem clN {x : Int32} {n : Nat} (h0 : 0 ≤ x.toInt) (h1 : x.toInt < (n : Int)) : x.toNatClampNeg < n := by
  rw [Int32.toNatClampNeg]
  omega
theorem sp_sf (bw : WkB (gWk G w)) (hw : w < 100000) : 1 ≤ gS G (nI w) ∧ gS G (nI w) ≤ gF G (nI w) ∧ gF G (nI w) ≤ 9 := by
  have bw' : WkB (gWk G (nI w).toNatClampNeg) := by rw [nI_cl hw]; exact bw
  unfold gS gF
  rw [nI_cl hw]
  have a := bw.2.2.2.2.2.1.1
  have b := bw.2.2.2.2.2.2.1
  have c := bw.2.2.2.2.2.2.2
  rw [Int32.toNatClampNeg, Int32.toNatClampNeg]
  omega
theorem cLg_b (gb : GBd A G) (hw : w < aW A) (hr : r < aR A) (h1 : 1 ≤ v) (h9 : v ≤ 9) : 0 ≤ (cLg A G w h r u v).toInt ∧ (cLg A G w h r u v).toInt ≤ 1873821600000 := by
  unfold cLg
  by_cases c : h < aHs A
  · rw [if_pos c]
    have p2 := rW_b (u := nI u) (k := v) (gb.1 _ c) (gb.2.2.1 _ hr) (gb.2.2.2 _ hw) h1 h9
    have q := bJ_mul (x := psum (ptM (gRn G h) (gRd G r) (gWk G w) (nI u) (nI v)) 5) ⟨rfl, p2⟩ (bJ_of (bI_of (gb.1 _ c).2.2.2.2 (by decide))) (by decide)
    rw [q.1]
    have := q.2
    omega
  · rw [if_neg c]
    decide
theorem cWt_b (ab : ABd A) (gb : GBd A G) (hw : w < aW A) (cw : cwO A G (nI p)) : 0 ≤ (cWt A G w h p).toInt ∧ (cWt A G w h p).toInt ≤ 1873821600000 := by
  unfold cWt
  by_cases c : h < aHs A
  · rw [if_pos c]
    have ip := ix_lt (by have := ab.2.2.1; omega) cw.1
    have b := gb.2.1 _ ip
    have bw := gb.2.2.2 _ hw
    have bv : bI (dripOf (gPk G (nI p).toNatClampNeg) (gPv G (nI p).toNatClampNeg)) (dripOf (gPk G (nI p).toNatClampNeg) (gPv G (nI p).toNatClampNeg)).toInt 9 := by
      have q := cw.2
      unfold dripOf at q ⊢
      by_cases z : gPk G (nI p).toNatClampNeg = 1
      · rw [if_pos z]; exact ⟨rfl, by decide, by decide⟩
      · rw [if_neg z] at q ⊢
        by_cases z2 : gPk G (nI p).toNatClampNeg = 2
        · rw [if_pos z2]; exact bI_of b.2 (by decide)
        · rw [if_neg z2] at q; exact absurd rfl q
    have bm := bI_mx (B := 153) (bI_sub (bI_of bw.2.2.1 (by decide)) (sh_b bw) (by decide) (by decide)) (by have := bw.2.2.1.2; have := (sh_b bw).2.1; omega) (by decide)
    unfold drpO
    rw [dc_y cw]
    have q := bJ_mul (bJ_mul (bJ_of (bI_mul bv bm (by decide))) (⟨by decide, by decide, by decide⟩ : bJ 2520 2520 2520) (by decide)) (bJ_of (bI_of (gb.1 _ c).2.2.2.2 (by decide))) (by decide)
    rw [q.1]
    have := q.2
    omega
  · rw [if_neg c]
    decide
theorem mvL_b (gb : GBd A G) (ge : GBe A G) (hw : w < aW A) (hr : r < aR A) (hr9 : r < 100000) (h1 : 1 ≤ v) (h9 : v ≤ 9) : MvB A (mvL A G w h r u v) ∧ mD (mvL A G w h r u v) ≤ 68 ∧ mF (mvL A G w h r u v) < aP A := by
  have bd := gb.2.2.1 _ hr
  have er := ge.2.1 _ hr
  have ev : (nI v).toInt = (v : Int) := nI_i (by omega)
  have gm := goM_b (l := gRd G r 3) (v := nI v) bd.2.2.2.1.1 bd.2.2.2.1.2 (by omega) (by omega)
  have gm' : 1 ≤ (goM G (nI r) (nI v)).toInt ∧ (goM G (nI r) (nI v)).toInt ≤ 68 := by
    unfold goM
    rw [nI_cl hr9]
    exact gm
  have cb := cLg_b (h := h) (u := u) gb hw hr h1 h9
  refine ⟨⟨?_, ?_, cb.1, cb.2⟩, ?_, ?_⟩
  · show wyT2 G r u < aP A
    unfold wyT2
    by_cases z : u = 0
    · rw [if_pos z]; exact clN bd.2.1.1 er.2
    · rw [if_neg z]; exact clN bd.1.1 er.1
  · show 1 ≤ (goM G (nI r) (nI v)).toNatClampNeg
    rw [Int32.toNatClampNeg]
    omega
  · show (goM G (nI r) (nI v)).toNatClampNeg ≤ 68
    rw [Int32.toNatClampNeg]
    omega
  · show wyB2 G r u < aP A
    unfold wyB2
    by_cases z : u = 0
    · rw [if_pos z]; exact clN bd.1.1 er.1
    · rw [if_neg z]; exact clN bd.2.1.1 er.2
theorem flw_b (ab : ABd A) (gb : GBd A G) (ge : GBe A G) (hw : w < aW A) : ∀ h, ∀ q ∈ FLw A G w h, MvB A q ∧ mD q ≤ 68 ∧ mF q < aP A := by
  intro h q hq
  have hb := ab.2.2.2.1
  have hb2 := ab.2.2.2.2.1
  rcases List.mem_append.mp hq with hq | hq
  · obtain ⟨s, -, hs, hq⟩ := tr_mem _ _ hq
    obtain ⟨j, a, b, rfl⟩ := vs_mem _ _ hq
    have sf := sp_sf (gb.2.2.2 _ hw) (by omega)
    exact mvL_b gb ge hw (by omega) (by omega) (by omega) (by omega)
  · obtain ⟨j, -, hj, cw, rfl⟩ := wt_mem _ _ hq
    have cb := cWt_b (h := h) ab gb hw cw
    exact ⟨⟨by show j < aP A; omega, by show 1 ≤ 1; omega, cb.1, cb.2⟩, by show 1 ≤ 68; omega, by show j < aP A; omega⟩
/-- what an entry may be -/
def EB (tl m : Nat) (t : TE) : Prop := ∀ a, t = some a → 0 ≤ a.1 ∧ a.1 ≤ ((tl - m : Nat) : Int) * 1873821600000 ∧ (m : Int) ≤ a.2.1 ∧ a.2.1 ≤ (tl : Int)
theorem mn_or (b c : TE) : mnE b c = c ∨ mnE b c = b := by
  by_cases h : lE c b
  · exact Or.inl (dc_y h)
  · exact Or.inr (dc_n h)
theorem st_eb (hv : MvB A q) (hb : EB tl m b) (ht : m + mD q ≤ tl → EB tl (m + mD q) (tb (mT q) (m + mD q))) : EB tl m (stE tb tl m p b q) := by
  unfold stE
  by_cases c : mF q = p ∧ m + mD q ≤ tl
  · rw [if_pos c]
    rcases mn_or b (cdE (tb (mT q) (m + mD q)) (mC q) (mK q)) with e | e
    · rw [e]
      intro a ha
      cases ht' : tb (mT q) (m + mD q) with
      | none => rw [ht'] at ha; cases ha
      | some y =>
        rw [ht'] at ha
        cases ha
        obtain ⟨y1, y2, y3, y4⟩ := ht c.2 y ht'
        obtain ⟨-, d1, c0, c1⟩ := hv
        have hd : ((tl - m : Nat) : Int) * 1873821600000 ≥ ((tl - (m + mD q) : Nat) : Int) * 1873821600000 + 1873821600000 := by
          have : (tl - (m + mD q) : Nat) + 1 ≤ tl - m := by omega
          omega
        show 0 ≤ mC q + y.1 ∧ mC q + y.1 ≤ _ ∧ (m : Int) ≤ y.2.1 ∧ y.2.1 ≤ _
        omega
    · rw [e]
      exact hb
  · rw [if_neg c]
    exact hb
theorem fl_eb (hv : ∀ q ∈ l, MvB A q) (ht : ∀ q ∈ l, m + mD q ≤ tl → EB tl (m + mD q) (tb (mT q) (m + mD q))) : ∀ b, EB tl m b → EB tl m (flE tb tl m p l b) := by
  induction l with
  | nil => intro b hb; exact hb
  | cons q l ih =>
    intro b hb
    exact ih (fun u hu => hv u (List.mem_cons_of_mem _ hu)) (fun u hu => ht u (List.mem_cons_of_mem _ hu)) _ (st_eb (hv q List.mem_cons_self) hb (ht q List.mem_cons_self))
theorem bt_eb (hb : ∀ h, ∀ q ∈ FLw A G w h, MvB A q) (hm : m ≤ tl) (ht : ∀ m', m < m' → m' ≤ tl → ∀ p, p < aP A → EB tl m' (tb p m')) : EB tl m (btE A G w gl tl tb p m) := by
  unfold btE
  by_cases c : p = gl
  · rw [if_pos c]
    intro a ha
    cases ha
    show (0 : Int) ≤ 0 ∧ (0 : Int) ≤ _ ∧ (m : Int) ≤ (m : Int) ∧ (m : Int) ≤ _
    have : 0 ≤ ((tl - m : Nat) : Int) * 1873821600000 := by omega
    omega
  · rw [if_neg c]
    refine fl_eb (hb _) (fun q hq hd => ht _ (by have := (hb _ q hq).2.1; omega) hd _ (hb _ q hq).1) none (fun a ha => by cases ha)
theorem tr_eb (hb : ∀ h, ∀ q ∈ FLw A G w h, MvB A q) (h1 : TRw A G w gl tl lo tb) : ∀ d m, m + d = tl → lo ≤ m → ∀ p, p < aP A → EB tl m (tb p m) := by
  intro d
  induction d using Nat.strongRecOn with
  | _ d ih =>
    intro m hm hlo p hp
    rw [h1 m hlo (by omega) p hp]
    exact bt_eb hb (by omega) (fun m' h1' h2' p' hp' => ih (tl - m') (by omega) m' (by omega) (by omega) p' hp')
theorem fl_skip (h : ∀ q ∈ l, mF q ≠ p) : ∀ b, flE tb tl m p l b = b := by
  induction l with
  | nil => intro b; rfl
  | cons q l ih =>
    intro b
    have e : stE tb tl m p b q = b := if_neg (fun z => h q List.mem_cons_self z.1)
    show flE tb tl m p l (stE tb tl m p b q) = b
    rw [e]
    exact ih (fun u hu => h u (List.mem_cons_of_mem _ hu)) b
theorem fl_wt : ∀ (k s : Nat), s ≤ p → p < s + k → ∀ b, flE tb tl m p (wtL A G w h k s) b = dc (cwO A G (nI p)) (stE tb tl m p b (mvW A G w h p)) b
  | 0, s, h1, h2, b => by omega
  | k + 1, s, h1, h2, b => by
    show flE tb tl m p (dc (cwO A G (nI s)) [mvW A G w h s] [] ++ wtL A G w h k (s + 1)) b = _
    rw [fl_app]
    by_cases e : s = p
    · have sk : ∀ b, flE tb tl m p (wtL A G w h k (s + 1)) b = b := fl_skip (fun q hq => by
        obtain ⟨j, j1, -, -, rfl⟩ := wt_mem _ _ hq
        show j ≠ p
        omega)
      rw [sk, e]
      by_cases c : cwO A G (nI p)
      · rw [dc_y c, dc_y c, fl_one]
      · rw [dc_n c, dc_n c]
        rfl
    · have sk : flE tb tl m p (dc (cwO A G (nI s)) [mvW A G w h s] []) b = b := by
        by_cases c : cwO A G (nI s)
        · rw [dc_y c, fl_one]
          exact if_neg (fun z => e z.1)
        · rw [dc_n c]
          rfl
      rw [sk]
      exact fl_wt k (s + 1) (by omega) (by omega) b
end C62
/-! ways: the reference's rows, cell by cell -/
def RC (S : HS) (le ar sb i : Nat) (t : TE) : Prop := match t with
  | none => fJ S le i = -1 ∧ fI S sb i = -1
  | some a => (fJ S le i).toInt = a.1 ∧ (fI S ar i).toInt = a.2.1 ∧ fI S sb i = a.2.2
def DWm (le ar sb : Nat) (S T : HS) : Prop := hL T = hL S ∧ hK T = hK S ∧ hN T = hN S ∧ fR T = fR S ∧ (∀ x, x ≠ ar → x ≠ sb → fI T x = fI S x) ∧ ∀ x, x ≠ le → fJ T x = fJ S x
def DWc (le ar sb i : Nat) (S T : HS) : Prop := ∀ k, k ≠ i → fJ T le k = fJ S le k ∧ fI T ar k = fI S ar k ∧ fI T sb k = fI S sb k
def RW3 (m le ar sb : Nat) (S : HS) : Prop := ob S m 11 ∧ fR S m 16 = some le ∧ fR S m 17 = some ar ∧ fR S m 18 = some sb ∧ ob S ar 13 ∧ ob S sb 13 ∧ ar ≠ sb
section C63
variable {m le ar sb i j rd : Nat} {A : AS} {G : GC} {S T U : HS} {v1 v2 v5 x : Int32} {v3 : Int64} {b t : TE} {Q : Int32 → HS → Prop} {QJ : Int64 → HS → Prop} {Q0 : HS → Prop}
theorem dw_rf : DWm le ar sb S S := ⟨rfl, rfl, rfl, rfl, fun _ _ _ => rfl, fun _ _ => rfl⟩
theorem dw_tr (h : DWm le ar sb S T) (g : DWm le ar sb T U) : DWm le ar sb S U := ⟨g.1.trans h.1, g.2.1.trans h.2.1, g.2.2.1.trans h.2.2.1, g.2.2.2.1.trans h.2.2.2.1, fun x a b => (g.2.2.2.2.1 x a b).trans (h.2.2.2.2.1 x a b), fun x a => (g.2.2.2.2.2 x a).trans (h.2.2.2.2.2 x a)⟩
theorem dwc_rf : DWc le ar sb i S S := fun _ _ => ⟨rfl, rfl, rfl⟩
theorem dwc_tr (h : DWc le ar sb i S T) (g : DWc le ar sb i T U) : DWc le ar sb i S U := fun k hk => ⟨(g k hk).1.trans (h k hk).1, (g k hk).2.1.trans (h k hk).2.1, (g k hk).2.2.trans (h k hk).2.2⟩
theorem dw_ob (h : DWm le ar sb S T) {a k : Nat} (o : ob S a k) : ob T a k := by
  unfold ob
  rw [h.1, h.2.1]
  exact o
theorem rw3_mv (R : RW3 m le ar sb S) (h : DWm le ar sb S T) : RW3 m le ar sb T := by
  obtain ⟨r1, r2, r3, r4, r5, r6, r7⟩ := R
  exact ⟨dw_ob h r1, by rw [h.2.2.2.1]; exact r2, by rw [h.2.2.2.1]; exact r3, by rw [h.2.2.2.1]; exact r4, dw_ob h r5, dw_ob h r6, r7⟩
theorem rc_mv {k : Nat} (h : RC S le ar sb k t) (c : DWc le ar sb i S T) (hk : k ≠ i) : RC T le ar sb k t := by
  obtain ⟨c1, c2, c3⟩ := c k hk
  cases t with
  | none => exact ⟨c1.trans h.1, c3.trans h.2⟩
  | some a => exact ⟨by rw [c1]; exact h.1, by rw [c2]; exact h.2.1, c3.trans h.2.2⟩
theorem wrm_dw (R : RW3 m le ar sb S) (h : DWm le ar sb S T) (hr : WRm m rd A G S) : WRm m rd A G T := by
  obtain ⟨r1, r2, r3, r4, r5, r6, r7⟩ := R
  obtain ⟨h1, h2, h3, h4, h5, h6⟩ := hr
  obtain ⟨g1, g2, g3, g4, g5, g6⟩ := h
  refine ⟨by rw [g4]; exact h1, by unfold ob; rw [g1, g2]; exact h2, ?_, fun i b i1 i2 e z hz => ?_, ?_, fun i b i1 i2 e => ?_⟩
  · unfold Cnt
    rw [g5 rd (ob_ne h2 r5 (by decide)) (ob_ne h2 r6 (by decide))]
    exact h3
  · rw [g4] at e
    have q := (h6 i b i1 i2 e).2
    have n1 : b ≠ ar := fun z => q (11, 17) (by decide) m r1 (by rw [z]; exact r3)
    have n2 : b ≠ sb := fun z => q (11, 18) (by decide) m r1 (by rw [z]; exact r4)
    rw [g5 b n1 n2]
    exact h4 i b i1 i2 e z hz
  · unfold DMr
    rw [g4]
    exact h5
  · rw [g4] at e
    unfold NW8 ob
    rw [g1, g2, g4]
    exact h6 i b i1 i2 e
theorem tk77 {v6 : Int64} (R : RW3 m le ar sb S) (hi : v1.toNatClampNeg = i) (hj : v2.toNatClampNeg = j) (nij : j ≠ i) (h : P_X11_takes_77 Q0 m v1 v2 v5 v6 S) : P_X11_takes_77 (fun T => Q0 T ∧ DWm le ar sb S T ∧ DWc le ar sb i S T ∧ fJ T le i = v6 ∧ fI T ar i = fI S ar j ∧ fI T sb i = v5) m v1 v2 v5 v6 S := by
  obtain ⟨r1, r2, r3, r4, r5, r6, r7⟩ := R
  delta P_X11_takes_77
  obtain ⟨o1, a1, e1, o2, i2, h⟩ := h
  cases r2.symm.trans e1
  refine ⟨o1, _, e1, o2, i2, fun S3 q3 => ?_⟩
  obtain ⟨a4, e4, a5, e5, o5, i5, h⟩ := h S3 q3
  have f3 : fR S3 = fR S ∧ fI S3 = fI S := by rw [q3]; exact ⟨rfl, rfl⟩
  cases r3.symm.trans (by rw [← f3.1]; exact e4 : fR S m 17 = some a4)
  cases r3.symm.trans (by rw [← f3.1]; exact e5 : fR S m 17 = some a5)
  refine ⟨_, e4, _, e5, o5, i5, fun x7 q7 => ?_⟩
  obtain ⟨o7, i7, h⟩ := h x7 q7
  refine ⟨o7, i7, fun S9 q9 => ?_⟩
  obtain ⟨a10, e10, o10, i10, h⟩ := h S9 q9
  have f9 : fR S9 = fR S := by rw [q9]; exact f3.1
  cases r4.symm.trans (by rw [← f9]; exact e10 : fR S m 18 = some a10)
  refine ⟨_, e10, o10, i10, fun S12 q12 => ⟨h S12 q12, ?_⟩⟩
  rw [hi] at q3 q9 q12
  rw [hj] at q7
  have ra : fI S9 ar = va_up (fI S ar) i x7 := by rw [row_I q9, f3.2]
  have r12s : fI S12 sb = va_up (fI S9 sb) i v5 := row_I q12
  have r12a : fI S12 ar = fI S9 ar := row_o q12 r7
  have r9s : fI S9 sb = fI S sb := by rw [row_o q9 (Ne.symm r7), f3.2]
  have rj : fJ S12 = u2 (fJ S) le i v6 := by rw [q12, q9, q3]; rfl
  refine ⟨⟨by rw [q12, q9, q3]; rfl, by rw [q12, q9, q3]; rfl, by rw [q12, q9, q3]; rfl, by rw [q12, q9, q3]; rfl, fun x a b => by rw [row_o q12 b, row_o q9 a, f3.2], fun x a => by rw [rj]; exact u2_row _ _ a⟩, fun k hk => ⟨?_, ?_, ?_⟩, ?_, ?_, ?_⟩
  · rw [rj]; exact u2_ne _ _ (fun z => hk z.2)
  · rw [r12a, ra]; exact va_up_ne _ _ hk
  · rw [r12s, r9s]; exact va_up_ne _ _ hk
  · rw [rj]; exact u2_self _ _ _ _
  · rw [r12a, ra, va_up_self, q7, f3.2]
  · rw [r12s, va_up_self]
theorem m1J {z : Int64} (h : 0 ≤ z.toInt) : ¬ z = -1 := fun e => by
  rw [e] at h
  exact absurd h (by decide)
theorem sm_X11_takes (R : RW3 m le ar sb S) (hi : v1.toNatClampNeg = i) (hj : v2.toNatClampNeg = j) (nij : j ≠ i) (ri : RC S le ar sb i b) (rj : RC S le ar sb j t) (bt : ∀ a, t = some a → 0 ≤ a.1 ∧ a.1 ≤ 1000000000000000) (bb : ∀ a, b = some a → 0 ≤ a.1) (hc : 0 ≤ v3.toInt ∧ v3.toInt ≤ 1873821600000) (h : P_X11_takes m v1 v2 v3 v5 Q0 S) : P_X11_takes m v1 v2 v3 v5 (fun T => Q0 T ∧ DWm le ar sb S T ∧ DWc le ar sb i S T ∧ RC T le ar sb i (mnE b (cdE t v3.toInt v5))) S := by
  have R0 := R
  obtain ⟨r1, r2, r3, r4, r5, r6, r7⟩ := R
  have stay : ∀ {Qx : Prop}, Qx → mnE b (cdE t v3.toInt v5) = b → Qx ∧ DWm le ar sb S S ∧ DWc le ar sb i S S ∧ RC S le ar sb i (mnE b (cdE t v3.toInt v5)) := fun hq e => ⟨hq, dw_rf, dwc_rf, by rw [e]; exact ri⟩
  delta P_X11_takes P_X11_takes_0
  obtain ⟨o1, a1, e1, o2, i2, h⟩ := h
  cases r2.symm.trans e1
  refine ⟨o1, _, e1, o2, i2, fun x3 q3 => ?_⟩
  have h := h x3 q3
  rw [hj] at q3
  refine Iff.mp and_comm ⟨fun c1 => stay (h.2 c1) ?_, fun c1 => ?_⟩
  · have z := lgc_eq.mp c1
    cases ht : t with
    | none => exact mn_none b
    | some a =>
      rw [ht] at rj
      exact absurd (q3.symm.trans z) (m1J (by rw [rj.1]; exact (bt a ht).1))
  have ex : ∃ a, t = some a := by
    cases ht : t with
    | none =>
      rw [ht] at rj
      exact absurd (lgc_eq.mpr (q3.trans rj.1)) c1
    | some a => exact ⟨a, rfl⟩
  obtain ⟨a, ea⟩ := ex
  rw [ea] at rj
  obtain ⟨a0, a9⟩ := bt a ea
  obtain ⟨a5, e5, o5, i5, h⟩ := h.1 c1
  cases r2.symm.trans e5
  refine ⟨_, e5, o5, i5, fun x7 q7 x8 q8 => ?_⟩
  obtain ⟨a9', e9, o9, i9, h⟩ := h x7 q7 x8 q8
  cases r2.symm.trans e9
  rw [hj] at q7
  have n8 : x8.toInt = v3.toInt + a.1 := by
    rw [q8, Int64.toInt_add, q7, rj.1, Int.bmod_eq_of_le (by omega) (by omega)]
  have ec : cdE t v3.toInt v5 = some (v3.toInt + a.1, a.2.1, v5) := by rw [ea]; rfl
  have take : ∀ {Qx : HS → Prop}, lE (some (v3.toInt + a.1, a.2.1, v5)) b → P_X11_takes_77 Qx m v1 v2 v5 x8 S → P_X11_takes_77 (fun T => Qx T ∧ DWm le ar sb S T ∧ DWc le ar sb i S T ∧ RC T le ar sb i (mnE b (cdE t v3.toInt v5))) m v1 v2 v5 x8 S := by
    intro Qx hl h
    refine cm_X11_takes_77 (tk77 R0 hi hj nij h) h (fun T hp hq => ⟨hq, hp.2.1, hp.2.2.1, ?_⟩)
    obtain ⟨-, -, -, w1, w2, w3⟩ := hp
    rw [ec]
    have e : mnE b (some (v3.toInt + a.1, a.2.1, v5)) = some (v3.toInt + a.1, a.2.1, v5) := dc_y hl
    rw [e]
    exact ⟨by rw [w1]; exact n8, by rw [w2]; exact rj.2.1, w3⟩
  refine ⟨_, e9, o9, i9, fun x11 q11 => ?_⟩
  have h := h x11 q11
  rw [hi] at q11
  refine ⟨fun c2 => take ?_ (h.1 c2), fun c2 => ?_⟩
  · have z := lgc_eq.mp c2
    cases hb : b with
    | none => trivial
    | some y =>
      rw [hb] at ri
      exact absurd (q11.symm.trans z) (m1J (by rw [ri.1]; exact bb y hb))
  have ey : ∃ y, b = some y := by
    cases hb : b with
    | none =>
      rw [hb] at ri
      exact absurd (lgc_eq.mpr (q11.trans ri.1)) c2
    | some y => exact ⟨y, rfl⟩
  obtain ⟨y, ey⟩ := ey
  rw [ey] at ri
  obtain ⟨a13, e13, o13, i13, h⟩ := h.2 c2
  cases r2.symm.trans e13
  refine ⟨_, e13, o13, i13, fun x15 q15 => ?_⟩
  have h := h x15 q15
  rw [hi] at q15
  have n15 : x15.toInt = y.1 := by rw [q15]; exact ri.1
  have keep : ¬ lE (some (v3.toInt + a.1, a.2.1, v5)) b → mnE b (cdE t v3.toInt v5) = b := fun hl => by rw [ec]; exact dc_n hl
  refine ⟨fun c3 => stay (h.1 c3) (keep (fun hl => ?_)), fun c3 => ?_⟩
  · have z := lgc.mp (Int32.not_le.mpr c3)
    rw [ey] at hl
    have hl : v3.toInt + a.1 < y.1 ∨ (v3.toInt + a.1 = y.1 ∧ a.2.1 < y.2.1) := hl
    omega
  have z3 : x8.toInt ≤ x15.toInt := by
    have : ¬ x15.toInt < x8.toInt := fun q => c3 (Int32.not_le.mp (lgc.mpr q))
    omega
  obtain ⟨a17, e17, o17, i17, h⟩ := h.2 c3
  cases r2.symm.trans e17
  refine ⟨_, e17, o17, i17, fun x19 q19 => ?_⟩
  have h := h x19 q19
  rw [hi] at q19
  have n19 : x19.toInt = y.1 := by rw [q19]; exact ri.1
  refine ⟨fun c4 => take ?_ (h.1 c4), fun c4 => ?_⟩
  · rw [ey]
    show v3.toInt + a.1 < y.1 ∨ (v3.toInt + a.1 = y.1 ∧ a.2.1 < y.2.1)
    have : x8.toInt ≠ x19.toInt := fun q => c4 (lgc_eq.mpr (Int64.toInt_inj.mp q))
    omega
  have z4 : x8.toInt = x19.toInt := by rw [lgc_eq.mp c4]
  obtain ⟨a21, e21, o21, i21, h⟩ := h.2 c4
  cases r3.symm.trans e21
  refine ⟨_, e21, o21, i21, fun x23 q23 => ?_⟩
  obtain ⟨a24, e24, o24, i24, h⟩ := h x23 q23
  cases r3.symm.trans e24
  refine ⟨_, e24, o24, i24, fun x26 q26 => ?_⟩
  have h := h x26 q26
  rw [hj] at q23
  rw [hi] at q26
  have n23 : x23.toInt = a.2.1 := by rw [q23]; exact rj.2.1
  have n26 : x26.toInt = y.2.1 := by rw [q26]; exact ri.2.1
  refine ⟨fun c5 => take ?_ (h.1 c5), fun c5 => stay (h.2 c5) (keep (fun hl => ?_))⟩
  · rw [ey]
    show v3.toInt + a.1 < y.1 ∨ (v3.toInt + a.1 = y.1 ∧ a.2.1 < y.2.1)
    have := lt_i c5
    omega
  · rw [ey] at hl
    have hl : v3.toInt + a.1 < y.1 ∨ (v3.toInt + a.1 = y.1 ∧ a.2.1 < y.2.1) := hl
    have := nlt_i c5
    omega
end C63
/-! ways: what the reference tries from a place at a minute -/
def hx (A : AS) (m : Nat) : Nat := min (m / aH A) (aHs A)
section C64
variable {m le ar sb i j rd w p mm tl r u v : Nat} {A : AS} {G : GC} {S S0 T U : HS} {tb : Nat → Nat → TE} {cur cur' : TE} {Q Q' : Int32 → HS → Prop} {QJ : Int64 → HS → Prop} {Q0 Q0' : HS → Prop}
theorem hr_n (ab : ABd A) (hm : mm < 100000) (h0 : ¬ aH A = 0) : hrO A (nI mm) = nI (mm / aH A) := by
  unfold hrO
  rw [if_neg h0, nJ_div hm (by have := ab.1; omega)]
theorem sm_X11_meanOf (ab : ABd A) (he : HE S) (om : ob S m 11) (hr : WRm m rd A G S) (iw : w < aW A) (ir : r < aR A) (hm : mm < 1000) (h : P_X11_meanOf m (nI w) (nI r) (nI u) (nI mm) (nI v) QJ S) : P_X11_meanOf m (nI w) (nI r) (nI u) (nI mm) (nI v) (fun x T => QJ x T ∧ S = T ∧ x = cLg A G w (hx A mm) r u v) S := by
  have b1 := ab.2.1
  have b2 := ab.2.2.2.1
  have b3 := ab.2.2.2.2.1
  delta P_X11_meanOf P_X11_meanOf_0
  obtain ⟨o1, h⟩ := h
  refine ⟨o1, ?_⟩
  refine cm_X11_hourOf (sm_X11_hourOf om hr h) h (fun x3 S1 hp h g => ?_)
  have h := h g
  obtain ⟨-, hS, h3, h0⟩ := hp
  subst hS
  rw [hr_n ab (by omega) h0] at h3
  have lm : mm / aH A ≤ mm := Nat.div_le_self _ _
  obtain ⟨a4, e4, o4, h⟩ := h
  cases hr.1.symm.trans e4
  refine ⟨_, e4, o4, fun x5 q5 => ?_⟩
  have h := h x5 q5
  have q5 := q5.trans hr.2.2.1.2.1
  have n5 : x5.toInt = (aHs A : Int) := by rw [q5, nI_i (by omega)]
  have n3 : x3.toInt = ((mm / aH A : Nat) : Int) := by rw [h3, nI_i (by omega)]
  unfold cLg hx
  refine ⟨fun cc => ⟨h.1 cc, rfl, ?_⟩, fun cc => ?_⟩
  · have := le_i cc
    rw [if_neg (by omega)]
  have lt := nle_i cc
  have eh : min (mm / aH A) (aHs A) = mm / aH A := by omega
  rw [eh, if_pos (by omega)]
  have h := h.2 cc
  have heT : ∀ i, 7 ≤ i → i ≤ 27 → ∃ b, fR S rd i = some b := fun i => he rd i hr.2.1
  refine cm_X11_wetOf (sp_X11_wetOf heT hr.1 h) h (fun x9 S7 hp h g => ?_)
  have h := h g
  obtain ⟨-, hS, h9⟩ := hp
  subst hS
  have cw : (nI w).toNatClampNeg = w := nI_cl (by omega)
  have cr : (nI r).toNatClampNeg = r := nI_cl (by omega)
  have c3 : x3.toNatClampNeg = mm / aH A := by rw [h3, nI_cl (by omega)]
  have mr := m_rows (v1 := nI w) (v2 := nI r) (v4 := x3) heT hr (by rw [cw]; exact iw) (by rw [cr]; exact ir) (by rw [c3]; omega)
  rw [ptM_c mr.1 mr.2.1 mr.2.2, cw, cr, c3] at h9
  obtain ⟨a10, e10, o10, a11, e11, o11, i11, h⟩ := h
  cases hr.1.symm.trans e10
  refine ⟨_, e10, o10, _, e11, o11, i11, fun x13 q13 => ⟨h x13 q13, rfl, ?_⟩⟩
  rw [c3] at q13
  have q13 : x13 = gRn G (mm / aH A) 4 := q13.trans (hr.2.2.2.1 11 a11 (by decide) (by decide) e11 _ (by show mm / aH A < aHs A; omega))
  rw [h9, q13]
theorem tr_eq (gb : GBd A G) (iw : w < aW A) (hp : p < 100000) (ip : p < aP A) (cw : cwO A G (nI p)) (hk : ¬ gPk G p = 1) : (treeOf (gPk G p) (gPv G p)).toInt64 * (ls2 (gWk G w 2) (shO (gWk G w))).toInt64 = (drpO A G (gWk G w) (nI p)).toInt64 := by
  have b := gb.2.1 _ ip
  have bw := gb.2.2.2 _ iw
  have cp : (nI p).toNatClampNeg = p := nI_cl hp
  have k2 : gPk G p = 2 := by
    have q := cw.2
    rw [cp] at q
    unfold dripOf at q
    rw [if_neg hk] at q
    by_cases z : gPk G p = 2
    · exact z
    · rw [if_neg z] at q
      exact absurd rfl q
  unfold drpO
  rw [dc_y cw, mx_ls (bI_of bw.2.2.1 (by decide)) (sh_b bw), cp]
  unfold treeOf dripOf
  rw [if_pos k2, if_neg hk, if_pos k2]
  have bv := bI_of b.2 (by decide)
  have bl := bI_ls (bI_of bw.2.2.1 (by decide)) (sh_b bw) (by decide) (by decide)
  apply Int64.toInt_inj.mp
  rw [(bJ_mul (bJ_of bv) (bJ_of bl) (by decide)).1, Int32.toInt_toInt64, (bI_mul bv bl (by decide)).1]
theorem sm_X11_waitsOf (ab : ABd A) (gb : GBd A G) (he : HE S) (om : ob S m 11) (hr : WRm m rd A G S) (iw : w < aW A) (ip : p < aP A) (hm : mm < 1000) (cw : cwO A G (nI p)) (h : P_X11_waitsOf m (nI w) (nI p) (nI mm) QJ S) : P_X11_waitsOf m (nI w) (nI p) (nI mm) (fun x T => QJ x T ∧ S = T ∧ x = cWt A G w (hx A mm) p) S := by
  have b1 := ab.2.1
  have b2 := ab.2.2.1
  have b3 := ab.2.2.2.2.1
  have cp : (nI p).toNatClampNeg = p := nI_cl (by omega)
  have cww : (nI w).toNatClampNeg = w := nI_cl (by omega)
  delta P_X11_waitsOf P_X11_waitsOf_0
  obtain ⟨o1, h⟩ := h
  refine ⟨o1, ?_⟩
  refine cm_X11_hourOf (sm_X11_hourOf om hr h) h (fun x3 S1 hp h g => ?_)
  have h := h g
  obtain ⟨-, hS, h3, h0⟩ := hp
  subst hS
  rw [hr_n ab (by omega) h0] at h3
  have lm : mm / aH A ≤ mm := Nat.div_le_self _ _
  obtain ⟨a4, e4, o4, a5, e5, o5, i5, h⟩ := h
  cases hr.1.symm.trans e4
  refine ⟨_, e4, o4, _, e5, o5, i5, fun x7 q7 => ?_⟩
  have h := h x7 q7
  rw [cp] at q7
  have q7 : x7 = innOf (gPk G p) := q7.trans (hr.2.2.2.1 18 a5 (by decide) (by decide) e5 _ ip)
  have inn : gPk G p = 1 → drpO A G (gWk G w) (nI p) = 0 := fun z => by
    unfold drpO
    rw [dc_y cw, cp]
    unfold dripOf
    rw [if_pos z, Int32.zero_mul]
  refine ⟨fun cc => ⟨h.1 cc, rfl, ?_⟩, fun cc => ?_⟩
  · have k1 : gPk G p = 1 := by
      rw [q7] at cc
      unfold innOf at cc
      by_cases z : gPk G p = 1
      · exact z
      · rw [if_neg z] at cc
        exact absurd rfl cc
    unfold cWt
    by_cases c : hx A mm < aHs A
    · rw [if_pos c, inn k1]
      have : (0 : Int32).toInt64 * 2520 = (0 : Int64) := by decide
      rw [this, Int64.zero_mul]
    · rw [if_neg c]
  have k1 : ¬ gPk G p = 1 := fun z => by
    rw [q7] at cc
    unfold innOf at cc
    rw [if_pos z] at cc
    exact absurd cc (by decide)
  obtain ⟨a9, e9, o9, h⟩ := h.2 cc
  cases hr.1.symm.trans e9
  refine ⟨_, e9, o9, fun x10 q10 => ?_⟩
  have h := h x10 q10
  have q10 := q10.trans hr.2.2.1.2.1
  have n10 : x10.toInt = (aHs A : Int) := by rw [q10, nI_i (by omega)]
  have n3 : x3.toInt = ((mm / aH A : Nat) : Int) := by rw [h3, nI_i (by omega)]
  unfold cWt hx
  refine Iff.mp and_comm ⟨fun c2 => ⟨h.2 c2, rfl, ?_⟩, fun c2 => ?_⟩
  · have := nlt_i c2
    rw [if_neg (by omega)]
  have lt := lt_i c2
  have eh : min (mm / aH A) (aHs A) = mm / aH A := by omega
  rw [eh, if_pos (by omega)]
  have h := h.1 c2
  refine cm_X11_drips (sm_X11_drips he hr (by rw [cww]; exact iw) (by rw [cp]; exact ip) h) h (fun x14 S12 hp h g => ?_)
  have h := h g
  obtain ⟨-, hS, h14⟩ := hp
  subst hS
  rw [cp, cww, tr_eq gb iw (by omega) ip cw k1] at h14
  have c3 : x3.toNatClampNeg = mm / aH A := by rw [h3, nI_cl (by omega)]
  obtain ⟨a15, e15, o15, a16, e16, o16, i16, h⟩ := h
  cases hr.1.symm.trans e15
  refine ⟨_, e15, o15, _, e16, o16, i16, fun x18 q18 => ⟨h x18 q18, rfl, ?_⟩⟩
  rw [c3] at q18
  have q18 : x18 = gRn G (mm / aH A) 4 := q18.trans (hr.2.2.2.1 11 a16 (by decide) (by decide) e16 _ (by show mm / aH A < aHs A; omega))
  rw [h14, q18]
/-- where the reference stands: the rows but one cell as at S0, that cell as told -/
def IVt (m le ar sb rd : Nat) (A : AS) (G : GC) (tl mm p : Nat) (S0 T : HS) (cur : TE) : Prop := DWm le ar sb S0 T ∧ DWc le ar sb (8 * mm + p) S0 T ∧ RC T le ar sb (8 * mm + p) cur ∧ EB tl mm cur
def TCw (le ar sb : Nat) (A : AS) (tl lo : Nat) (tb : Nat → Nat → TE) (S : HS) : Prop := ∀ m', lo ≤ m' → m' ≤ tl → ∀ p', p' < aP A → RC S le ar sb (8 * m' + p') (tb p' m') ∧ EB tl m' (tb p' m')
theorem tc_dwc {lo : Nat} (ab : ABd A) (hp : p < aP A) (h : TCw le ar sb A tl lo tb S) (c : DWc le ar sb (8 * mm + p) S T) (hl : mm < lo) : TCw le ar sb A tl lo tb T := fun m' h1 h2 p' hp' => ⟨rc_mv (h m' h1 h2 p' hp').1 c (by have := ab.2.2.1; omega), (h m' h1 h2 p' hp').2⟩
theorem sp8 {a b : Nat} : (8 : Int32) * nI a + nI b = nI (8 * a + b) := by
  show nI 8 * nI a + nI b = _
  rw [nJ_mul, nI_add]
/-- one move is tried: the cell takes it if it is better -/
theorem try1 {q : MVx} {v3 : Int64} {h1 h2 k : Int32} (ab : ABd A) (R : RW3 m le ar sb S0) (hp : p < aP A) (tc : TCw le ar sb A tl (mm + 1) tb S0) (iv : IVt m le ar sb rd A G tl mm p S0 S cur) (hq : MvB A q) (hd : mm + mD q ≤ tl) (htl : tl ≤ 400) (e1 : h1 = nI (8 * mm + p)) (e2 : h2 = nI (8 * (mm + mD q) + mT q)) (ec : v3.toInt = mC q) (ek : k = mK q) (hf : mF q = p) (h : P_X11_takes m h1 h2 v3 k Q0 S) : P_X11_takes m h1 h2 v3 k (fun T => Q0 T ∧ IVt m le ar sb rd A G tl mm p S0 T (stE tb tl mm p cur q)) S := by
  have b2 := ab.2.2.1
  obtain ⟨i1, i2, i3, i4⟩ := iv
  obtain ⟨q1, q2, q3, q4⟩ := hq
  have tcS := tc_dwc (mm := mm) ab hp tc i2 (by omega)
  have t := tcS (mm + mD q) (by omega) hd (mT q) q1
  have st : stE tb tl mm p cur q = mnE cur (cdE (tb (mT q) (mm + mD q)) v3.toInt k) := by
    unfold stE
    rw [if_pos ⟨hf, hd⟩, ec, ek]
  have bt : ∀ a, tb (mT q) (mm + mD q) = some a → 0 ≤ a.1 ∧ a.1 ≤ 1000000000000000 := fun a ha => by
    obtain ⟨x1, x2, -, -⟩ := t.2 a ha
    have : ((tl - (mm + mD q) : Nat) : Int) ≤ 400 := by omega
    omega
  refine cm_X11_takes (sm_X11_takes (rw3_mv R i1) (by rw [e1]; exact nI_cl (by omega)) (by rw [e2]; exact nI_cl (by omega)) (by omega) i3 t.1 bt (fun a ha => (i4 a ha).1) (by rw [ec]; exact ⟨q3, q4⟩) h) h (fun T hp hq => ⟨hq, dw_tr i1 hp.2.1, dwc_tr i2 hp.2.2.1, by rw [st]; exact hp.2.2.2, st_eb (A := A) ⟨q1, q2, q3, q4⟩ i4 (fun _ => t.2)⟩)
end C64
end
section
/-! ways: the reference tries all moves from a place, and lays all ways -/
section C65
variable {m le ar sb i j rd w p mm tl r u v gl : Nat} {A : AS} {G : GC} {S S0 T U : HS} {tb : Nat → Nat → TE} {cur cur' : TE} {Q Q' : HS → Prop} {QI : Int32 → HS → Prop} {X3 X3' : Nat → Int32 → Int32 → Int32 → Int32 → Int32 → HS → Prop} {X18 X18' : Nat → Int32 → Int32 → Int32 → Int32 → Int32 → Int32 → HS → Prop}
theorem nI_ofw {x : Int32} (h : 0 ≤ x.toInt) (h2 : x.toInt < 100000) : x = nI x.toNatClampNeg := by
  apply Int32.toInt_inj.mp
  rw [nI_i (by rw [Int32.toNatClampNeg]; omega), Int32.toNatClampNeg]
  omega
theorem nI_zw {u : Nat} (h : u < 100000) : nI u = 0 ↔ u = 0 := by
  constructor
  · intro z
    have e : (nI u).toInt = (u : Int) := nI_i h
    rw [z] at e
    have : (0 : Int32).toInt = 0 := by decide
    omega
  · intro z
    rw [z]
    rfl
theorem nI_injw {a b : Nat} (ha : a < 100000) (hb : b < 100000) (h : nI a = nI b) : a = b := by
  have e := congrArg Int32.toInt h
  rw [nI_i ha, nI_i hb] at e
  omega
theorem go_n (gb : GBd A G) (ir : r < aR A) (hr : r < 100000) (hu : u < 100000) : goB G (nI r) (nI u) = nI (wyB2 G r u) ∧ goT G (nI r) (nI u) = nI (wyT2 G r u) := by
  have bd := gb.2.2.1 _ ir
  have d1 := bd.1
  have d2 := bd.2.1
  unfold goB goT wyB2 wyT2
  rw [nI_cl hr]
  by_cases z : u = 0
  · have z' : nI u = 0 := (nI_zw hu).mpr z
    rw [if_pos z', if_pos z', if_pos z, if_pos z]
    exact ⟨nI_ofw d1.1 (by have := d1.2; omega), nI_ofw d2.1 (by have := d2.2; omega)⟩
  · have z' : ¬ nI u = 0 := fun q => z ((nI_zw hu).mp q)
    rw [if_neg z', if_neg z', if_neg z, if_neg z]
    exact ⟨nI_ofw d2.1 (by have := d2.2; omega), nI_ofw d1.1 (by have := d1.2; omega)⟩
theorem sm_X11_spotOf {x y : Int32} (h : P_X11_spotOf x y QI S) : P_X11_spotOf x y (fun z T => QI z T ∧ S = T ∧ z = (8 : Int32) * y + x) S := ⟨h, rfl, rfl⟩
theorem l53 (ab : ABd A) (gb : GBd A G) (ge : GBe A G) (he : HE S0) (R : RW3 m le ar sb S0) (hr : WRm m rd A G S0) (iw : w < aW A) (ir : r < aR A) (hu : u < 2) (hp : p < aP A) (htl : tl ≤ 400) (hmm : mm ≤ tl) (tc : TCw le ar sb A tl (mm + 1) tb S0) (iv : IVt m le ar sb rd A G tl mm p S0 S cur) (hbg : wyB2 G r u = p) (hv : gS G (nI w) ≤ v) (hv2 : v ≤ gF G (nI w) + 1)
    (hE : ∀ T cur', IVt m le ar sb rd A G tl mm p S0 T cur' → cur' = flE tb tl mm p (vsL A G w (hx A mm) r u (gF G (nI w) + 1 - v) v) cur → ∀ x6, x6 = nI u + 1 → X18 m (nI w) (nI p) (nI mm) (nI tl) (nI r) x6 T → X18' m (nI w) (nI p) (nI mm) (nI tl) (nI r) x6 T)
    (h : P_X11_tries_53 Q X3 X18 m (nI w) (nI p) (nI mm) (nI tl) (nI r) (nI u) (nI v) S) : P_X11_tries_53 Q' X3' X18' m (nI w) (nI p) (nI mm) (nI tl) (nI r) (nI u) (nI v) S := by
  have b1 := ab.2.1
  have b2 := ab.2.2.1
  have b3 := ab.2.2.2.1
  have b4 := ab.2.2.2.2.1
  have sf := sp_sf (gb.2.2.2 _ iw) (by omega)
  have cw : (nI w).toNatClampNeg = w := nI_cl (by omega)
  have cr : (nI r).toNatClampNeg = r := nI_cl (by omega)
  intro X hX
  refine h (fun a0 a1 a2 a3 a4 a5 a6 v7 T => (a0 = m ∧ a1 = nI w ∧ a2 = nI p ∧ a3 = nI mm ∧ a4 = nI tl ∧ a5 = nI r ∧ a6 = nI u ∧ ∃ j c1, v7 = nI j ∧ v ≤ j ∧ j ≤ gF G (nI w) + 1 ∧ IVt m le ar sb rd A G tl mm p S0 T c1 ∧ flE tb tl mm p (vsL A G w (hx A mm) r u (gF G (nI w) + 1 - j) j) c1 = flE tb tl mm p (vsL A G w (hx A mm) r u (gF G (nI w) + 1 - v) v) cur) → X a0 a1 a2 a3 a4 a5 a6 v7 T) ?_ ⟨rfl, rfl, rfl, rfl, rfl, rfl, rfl, v, cur, rfl, Nat.le_refl v, hv2, iv, rfl⟩
  rintro a0 a1 a2 a3 a4 a5 a6 v7 T h ⟨rfl, rfl, rfl, rfl, rfl, rfl, rfl, j, c1, rfl, j1, j2, ivT, hres⟩
  apply hX
  have hrT := wrm_dw R ivT.1 hr
  have omT := dw_ob ivT.1 R.1
  have heT : HE T := fun rd i o h1 h2 => by
    rw [ivT.1.2.2.2.1]
    refine he rd i ?_ h1 h2
    unfold ob at o ⊢
    rw [ivT.1.1, ivT.1.2.1] at o
    exact o
  obtain ⟨o1, x1, e1, o2, x2, e2, o3, i3, h⟩ := h
  cases hrT.1.symm.trans e1
  refine ⟨o1, _, e1, o2, _, e2, o3, i3, fun x4 q4 => ?_⟩
  have h := h x4 q4
  rw [cw] at q4
  have q4 : x4 = gWk G w 6 := q4.trans (hrT.2.2.2.1 25 x2 (by decide) (by decide) e2 _ iw)
  have n4 : x4.toInt = (gF G (nI w) : Int) := by
    have bw := gb.2.2.2 _ iw
    have z1 := bw.2.2.2.2.2.1.1
    have z2 := bw.2.2.2.2.2.2.1
    unfold gF
    rw [q4, cw, Int32.toNatClampNeg]
    omega
  have nj : (nI j).toInt = (j : Int) := nI_i (by omega)
  refine ⟨fun cc => ?_, fun cc => ?_⟩
  · have := lt_i cc
    have ej : j = gF G (nI w) + 1 := by omega
    have h := h.1 cc
    delta P_X11_tries_146
    intro y1 q1
    refine hE T c1 ivT ?_ y1 q1 (h y1 q1)
    rw [← hres, ej, Nat.sub_self]
    rfl
  have ge1 := nlt_i cc
  have jF : j ≤ gF G (nI w) := by omega
  have hk : gF G (nI w) + 1 - j = (gF G (nI w) + 1 - (j + 1)) + 1 := by omega
  rw [hk] at hres
  have hres : flE tb tl mm p (vsL A G w (hx A mm) r u (gF G (nI w) + 1 - (j + 1)) (j + 1)) (stE tb tl mm p c1 (mvL A G w (hx A mm) r u j)) = flE tb tl mm p (vsL A G w (hx A mm) r u (gF G (nI w) + 1 - v) v) cur := hres
  have mb := mvL_b (h := hx A mm) (u := u) (v := j) gb ge iw ir (by omega) (by omega) (by omega)
  have nx : ∀ U, IVt a0 le ar sb rd A G tl mm p S0 U (stE tb tl mm p c1 (mvL A G w (hx A mm) r u j)) → P_X11_tries_140 Q X3 X18 (fun a0_1 a1 a2 a3 a4 a5 a6 v7 T => (a0_1 = a0 ∧ a1 = nI w ∧ a2 = nI p ∧ a3 = nI mm ∧ a4 = nI tl ∧ a5 = nI r ∧ a6 = nI u ∧ ∃ j c1, v7 = nI j ∧ v ≤ j ∧ j ≤ gF G (nI w) + 1 ∧ IVt a0 le ar sb rd A G tl mm p S0 T c1 ∧ flE tb tl mm p (vsL A G w (hx A mm) r u (gF G (nI w) + 1 - j) j) c1 = flE tb tl mm p (vsL A G w (hx A mm) r u (gF G (nI w) + 1 - v) v) cur) → X a0_1 a1 a2 a3 a4 a5 a6 v7 T) a0 (nI w) (nI p) (nI mm) (nI tl) (nI r) (nI u) (nI j) U → P_X11_tries_140 Q' X3' X18' X a0 (nI w) (nI p) (nI mm) (nI tl) (nI r) (nI u) (nI j) U := by
    intro U ivU h
    delta P_X11_tries_140
    intro y1 q1
    exact h y1 q1 ⟨rfl, rfl, rfl, rfl, rfl, rfl, rfl, j + 1, _, by rw [q1]; exact nI_add j 1, by omega, by omega, ivU, hres⟩
  obtain ⟨a6, e6, o6, h⟩ := h.2 cc
  cases hrT.1.symm.trans e6
  refine ⟨_, e6, o6, ?_⟩
  obtain ⟨b16, e16⟩ := heT rd 16 hrT.2.1 (by decide) (by decide)
  refine cm_X10_minutes (sp_X10_minutes e16 h) h (fun x9 S7 hp9 h g => ?_)
  have h := h g
  obtain ⟨-, hS, h9⟩ := hp9
  subst hS
  have h9 : x9 = nI (mD (mvL A G w (hx A mm) r u j)) := by
    have e9 : x9 = goM G (nI r) (nI j) := by
      rw [h9, hrT.2.2.2.1 16 b16 (by decide) (by decide) e16 (nI r).toNatClampNeg (by rw [cr]; exact ir)]
      rfl
    have bd := gb.2.2.1 _ ir
    have gm := goM_b (l := gRd G r 3) (v := nI j) bd.2.2.2.1.1 bd.2.2.2.1.2 (by omega) (by omega)
    have gm' : 1 ≤ (goM G (nI r) (nI j)).toInt ∧ (goM G (nI r) (nI j)).toInt ≤ 68 := by
      unfold goM
      rw [cr]
      exact gm
    rw [e9]
    exact nI_ofw (by omega) (by omega)
  intro x10 q10
  have h := h x10 q10
  have q10 : x10 = nI (mm + mD (mvL A G w (hx A mm) r u j)) := by
    rw [q10, h9]
    exact nI_add _ _
  have n10 : x10.toInt = ((mm + mD (mvL A G w (hx A mm) r u j) : Nat) : Int) := by
    rw [q10, nI_i (by have := mb.2.1; omega)]
  have ntl : (nI tl).toInt = (tl : Int) := nI_i (by omega)
  refine ⟨fun c2 => nx T ?_ (h.1 c2), fun c2 => ?_⟩
  · have := lt_i c2
    have e : stE tb tl mm p c1 (mvL A G w (hx A mm) r u j) = c1 := if_neg (fun z => by have := z.2; omega)
    rw [e]
    exact ivT
  have d2 := nlt_i c2
  have h := h.2 c2
  refine cm_X11_spotOf (sm_X11_spotOf h) h (fun x14 S12 hp h g => ?_)
  have h := h g
  obtain ⟨-, hS, h14⟩ := hp
  subst hS
  obtain ⟨a15, e15, o15, h⟩ := h
  cases hrT.1.symm.trans e15
  refine ⟨_, e15, o15, ?_⟩
  refine cm_X10_ends (sm_X10_ends hrT (by rw [cr]; exact ir) h) h (fun x18 S16 hp h g => ?_)
  have h := h g
  obtain ⟨-, hS, h18⟩ := hp
  subst hS
  rw [(go_n gb ir (by omega) (by omega)).2] at h18
  refine cm_X11_spotOf (sm_X11_spotOf h) h (fun x21 S19 hp h g => ?_)
  have h := h g
  obtain ⟨-, hS, h21⟩ := hp
  subst hS
  refine cm_X11_meanOf (sm_X11_meanOf ab heT omT hrT iw ir (by omega) h) h (fun x24 S22 hp h g => ?_)
  have h := h g
  obtain ⟨-, hS, h24⟩ := hp
  subst hS
  have ek : ((100 : Int32) * nI r + (10 : Int32) * nI u) + nI j = mK (mvL A G w (hx A mm) r u j) := by
    show (nI 100 * nI r + nI 10 * nI u) + nI j = nI (100 * r + 10 * u + j)
    rw [nJ_mul, nJ_mul, nI_add, nI_add]
  refine cm_X11_takes (try1 (q := mvL A G w (hx A mm) r u j) ab R hp tc ivT mb.1 (by omega) htl (by rw [h14]; exact sp8) (by rw [h21, h18, q10]; exact sp8) (by rw [h24]; rfl) ek hbg h) h (fun S25 hp h g => ?_)
  exact nx S25 hp.2 (h g)
theorem l18 (ab : ABd A) (gb : GBd A G) (ge : GBe A G) (he : HE S0) (R : RW3 m le ar sb S0) (hr : WRm m rd A G S0) (iw : w < aW A) (ir : r < aR A) (hp : p < aP A) (htl : tl ≤ 400) (hmm : mm ≤ tl) (tc : TCw le ar sb A tl (mm + 1) tb S0) (iv : IVt m le ar sb rd A G tl mm p S0 S cur)
    (hE : ∀ T cur', IVt m le ar sb rd A G tl mm p S0 T cur' → cur' = flE tb tl mm p (trL A G w (hx A mm) 2 (2 * r)) cur → ∀ x2, x2 = nI r + 1 → X3 m (nI w) (nI p) (nI mm) (nI tl) x2 T → X3' m (nI w) (nI p) (nI mm) (nI tl) x2 T)
    (h : P_X11_tries_18 Q X3 m (nI w) (nI p) (nI mm) (nI tl) (nI r) 0 S) : P_X11_tries_18 Q' X3' m (nI w) (nI p) (nI mm) (nI tl) (nI r) 0 S := by
  have b2 := ab.2.2.1
  have b3 := ab.2.2.2.1
  have b4 := ab.2.2.2.2.1
  have sf := sp_sf (gb.2.2.2 _ iw) (by omega)
  have cw : (nI w).toNatClampNeg = w := nI_cl (by omega)
  have cr : (nI r).toNatClampNeg = r := nI_cl (by omega)
  intro X hX
  refine h (fun a0 a1 a2 a3 a4 a5 v6 T => (a0 = m ∧ a1 = nI w ∧ a2 = nI p ∧ a3 = nI mm ∧ a4 = nI tl ∧ a5 = nI r ∧ ∃ u c1, v6 = nI u ∧ u ≤ 2 ∧ IVt m le ar sb rd A G tl mm p S0 T c1 ∧ flE tb tl mm p (trL A G w (hx A mm) (2 - u) (2 * r + u)) c1 = flE tb tl mm p (trL A G w (hx A mm) 2 (2 * r)) cur) → X a0 a1 a2 a3 a4 a5 v6 T) ?_ ⟨rfl, rfl, rfl, rfl, rfl, rfl, 0, cur, rfl, by decide, iv, rfl⟩
  rintro a0 a1 a2 a3 a4 a5 v6 T h ⟨rfl, rfl, rfl, rfl, rfl, rfl, u, c1, rfl, u2', ivT, hres⟩
  apply hX
  have e2 : (2 : Int32).toInt = 2 := by decide
  have nu : (nI u).toInt = (u : Int) := nI_i (by omega)
  refine ⟨fun cc x2 q2 => ?_, fun cc => ?_⟩
  · have := le_i cc
    have eu : u = 2 := by omega
    have h := h.1 cc x2 q2
    refine hE T c1 ivT ?_ x2 q2 h
    rw [← hres, eu]
    rfl
  have lt := nle_i cc
  have hu : u < 2 := by omega
  have hk : 2 - u = (2 - (u + 1)) + 1 := by omega
  rw [hk] at hres
  have d1 : (2 * r + u) / 2 = r := by omega
  have d2 : (2 * r + u) % 2 = u := by omega
  have hres : flE tb tl mm p (vsL A G w (hx A mm) ((2 * r + u) / 2) ((2 * r + u) % 2) (gF G (nI w) + 1 - gS G (nI w)) (gS G (nI w)) ++ trL A G w (hx A mm) (2 - (u + 1)) (2 * r + u + 1)) c1 = flE tb tl mm p (trL A G w (hx A mm) 2 (2 * r)) cur := hres
  rw [d1, d2, fl_app] at hres
  have hrT := wrm_dw R ivT.1 hr
  obtain ⟨o1, a3, e3, o3, h⟩ := h.2 cc
  cases hrT.1.symm.trans e3
  refine ⟨o1, _, e3, o3, ?_⟩
  refine cm_X10_begins (sm_X10_begins hrT (by rw [cr]; exact ir) h) h (fun x6 S4 hp6 h g => ?_)
  have h := h g
  obtain ⟨-, hS, h6⟩ := hp6
  subst hS
  rw [(go_n gb ir (by omega) (by omega)).1] at h6
  have wb : wyB2 G r u < aP A := (mvL_b (h := hx A mm) (u := u) (v := 1) gb ge iw ir (by omega) (by omega) (by omega)).2.2
  refine ⟨fun c2 => ?_, fun c2 => ?_⟩
  · have hbg : wyB2 G r u = p := nI_injw (by omega) (by omega) (h6.symm.trans c2)
    obtain ⟨a8, e8, o8, a9, e9, o9, i9, h⟩ := h.1 c2
    cases hrT.1.symm.trans e8
    refine ⟨_, e8, o8, _, e9, o9, i9, fun x11 q11 => ?_⟩
    have h := h x11 q11
    rw [cw] at q11
    have q11 : x11 = gWk G w 5 := q11.trans (hrT.2.2.2.1 24 a9 (by decide) (by decide) e9 _ iw)
    have e11 : x11 = nI (gS G (nI w)) := by
      have bw := gb.2.2.2 _ iw
      have z1 := bw.2.2.2.2.2.1
      unfold gS
      rw [q11, cw]
      exact nI_ofw (by have := z1.1; omega) (by have := z1.2; omega)
    rw [e11] at h ⊢
    refine l53 (v := gS G (nI w)) ab gb ge he R hr iw ir hu hp htl hmm tc ivT hbg (Nat.le_refl _) (by omega) (fun T' c2 iv2 hc x6 q6 h => h ⟨rfl, rfl, rfl, rfl, rfl, rfl, u + 1, c2, by rw [q6]; exact nI_add u 1, by omega, iv2, ?_⟩) h
    rw [hc]
    exact hres
  · have h := h.2 c2
    delta P_X11_tries_146
    intro y1 q1
    refine h y1 q1 ⟨rfl, rfl, rfl, rfl, rfl, rfl, u + 1, c1, by rw [q1]; exact nI_add u 1, by omega, ivT, ?_⟩
    have sk : flE tb tl mm p (vsL A G w (hx A mm) r u (gF G (nI w) + 1 - gS G (nI w)) (gS G (nI w))) c1 = c1 := fl_skip (fun q hq => by
      obtain ⟨j, -, -, rfl⟩ := vs_mem _ _ hq
      exact fun z => c2 (h6.trans (congrArg nI z))) c1
    rw [sk] at hres
    exact hres
theorem tr_app : ∀ (k l t : Nat) (h : Nat), trL A G w h (k + l) t = trL A G w h k t ++ trL A G w h l (t + k)
  | 0, l, t, h => by rw [Nat.zero_add, Nat.add_zero]; rfl
  | k + 1, l, t, h => by
    have e : k + 1 + l = (k + l) + 1 := by omega
    rw [e]
    show vsL A G w h (t / 2) (t % 2) _ _ ++ trL A G w h (k + l) (t + 1) = (vsL A G w h (t / 2) (t % 2) _ _ ++ trL A G w h k (t + 1)) ++ trL A G w h l (t + (k + 1))
    rw [tr_app k l (t + 1) h, List.append_assoc, show t + 1 + k = t + (k + 1) by omega]
theorem sm_X11_tries (ab : ABd A) (gb : GBd A G) (ge : GBe A G) (he : HE S) (R : RW3 m le ar sb S) (hr : WRm m rd A G S) (iw : w < aW A) (hp : p < aP A) (htl : tl ≤ 400) (hmm : mm ≤ tl) (tc : TCw le ar sb A tl (mm + 1) tb S) (rc : RC S le ar sb (8 * mm + p) none) (h : P_X11_tries m (nI w) (nI p) (nI mm) (nI tl) Q S) : P_X11_tries m (nI w) (nI p) (nI mm) (nI tl) (fun T => Q T ∧ IVt m le ar sb rd A G tl mm p S T (flE tb tl mm p (FLw A G w (hx A mm)) none)) S := by
  have b2 := ab.2.2.1
  have b3 := ab.2.2.2.1
  have b4 := ab.2.2.2.2.1
  have cp : (nI p).toNatClampNeg = p := nI_cl (by omega)
  have iv0 : IVt m le ar sb rd A G tl mm p S S none := ⟨dw_rf, dwc_rf, rc, fun a ha => by cases ha⟩
  have fin : flE tb tl mm p (FLw A G w (hx A mm)) none = flE tb tl mm p (wtL A G w (hx A mm) (aP A) 0) (flE tb tl mm p (trL A G w (hx A mm) (2 * aR A) 0) none) := fl_app _ _
  delta P_X11_tries P_X11_tries_0
  intro X hX
  refine h (fun a0 a1 a2 a3 a4 v5 T => (a0 = m ∧ a1 = nI w ∧ a2 = nI p ∧ a3 = nI mm ∧ a4 = nI tl ∧ ∃ r c1, v5 = nI r ∧ r ≤ aR A ∧ IVt m le ar sb rd A G tl mm p S T c1 ∧ flE tb tl mm p (trL A G w (hx A mm) (2 * (aR A - r)) (2 * r)) c1 = flE tb tl mm p (trL A G w (hx A mm) (2 * aR A) 0) none) → X a0 a1 a2 a3 a4 v5 T) ?_ ⟨rfl, rfl, rfl, rfl, rfl, 0, none, rfl, Nat.zero_le _, iv0, rfl⟩
  rintro a0 a1 a2 a3 a4 v5 T h ⟨rfl, rfl, rfl, rfl, rfl, r, c1, rfl, hr2, ivT, hres⟩
  apply hX
  have hrT := wrm_dw R ivT.1 hr
  have omT := dw_ob ivT.1 R.1
  have heT : HE T := fun rd i o h1 h2 => by
    rw [ivT.1.2.2.2.1]
    refine he rd i ?_ h1 h2
    unfold ob at o ⊢
    rw [ivT.1.1, ivT.1.2.1] at o
    exact o
  have nr : (nI r).toInt = (r : Int) := nI_i (by omega)
  obtain ⟨o1, a1, e1, o2, h⟩ := h
  cases hrT.1.symm.trans e1
  refine ⟨o1, _, e1, o2, fun x2 q2 => ?_⟩
  have h := h x2 q2
  have q2 := q2.trans hrT.2.2.1.2.2.2.1
  have n2 : x2.toInt = (aR A : Int) := by rw [q2, nI_i (by omega)]
  refine ⟨fun cc => ?_, fun cc => ?_⟩
  · have := le_i cc
    have er : r = aR A := by omega
    rw [er, Nat.sub_self] at hres
    have hc1 : c1 = flE tb tl mm p (trL A G w (hx A mm) (2 * aR A) 0) none := hres
    have fw := fl_wt (A := A) (G := G) (w := w) (h := hx A mm) (tb := tb) (tl := tl) (m := mm) (p := p) (aP A) 0 (Nat.zero_le p) (by omega) c1
    rw [← hc1, fw] at fin
    have h := h.1 cc
    have cpp : ¬ nI p < 0 ∧ nI p < nI (aP A) := by
      refine ⟨fun z => ?_, Int32.lt_iff_toInt_lt.mpr (by rw [nI_i (by omega), nI_i (by omega)]; omega)⟩
      have := lt_i z
      rw [nI_i (by omega)] at this
      have : (0 : Int32).toInt = 0 := by decide
      omega
    refine cm_X11_canWait (sm_X11_canWait ab gb hrT cpp h) h (fun x6 S4 hp6 h g b => ?_)
    have h := h g b
    obtain ⟨-, hS, hx6⟩ := hp6
    subst hS
    refine ⟨fun c2 => ⟨h.1 c2, ?_⟩, fun c2 => ?_⟩
    · rw [fin, dc_n (an0 hx6 c2)]
      exact ivT
    have cwo := an1 hx6 c2
    rw [dc_y cwo] at fin
    have h := h.2 c2
    have nm : (nI mm).toInt = (mm : Int) := nI_i (by omega)
    have nt : (nI tl).toInt = (tl : Int) := nI_i (by omega)
    refine ⟨fun c3 => ⟨h.1 c3, ?_⟩, fun c3 => ?_⟩
    · have := le_i c3
      have e : stE tb tl mm p c1 (mvW A G w (hx A mm) p) = c1 := if_neg (fun z => by have z2 : mm + 1 ≤ tl := z.2; omega)
      rw [fin, e]
      exact ivT
    have lt3 := nle_i c3
    have h := h.2 c3
    refine cm_X11_spotOf (sm_X11_spotOf h) h (fun x11 S9 hp h g => ?_)
    have h := h g
    obtain ⟨-, hS, h11⟩ := hp
    subst hS
    refine cm_X11_spotOf (sm_X11_spotOf h) h (fun x14 S12 hp h g => ?_)
    have h := h g
    obtain ⟨-, hS, h14⟩ := hp
    subst hS
    refine cm_X11_waitsOf (sm_X11_waitsOf ab gb heT omT hrT iw (by assumption) (by omega) cwo h) h (fun x17 S15 hp h g => ?_)
    have h := h g
    obtain ⟨-, hS, h17⟩ := hp
    subst hS
    have cb := cWt_b (h := hx A mm) ab gb iw cwo
    have hpp : p < aP A := by assumption
    have e14 : x14 = nI (8 * (mm + mD (mvW A G w (hx A mm) p)) + mT (mvW A G w (hx A mm) p)) := by
      rw [h14]
      show (8 : Int32) * (nI mm + 1) + nI p = nI (8 * (mm + 1) + p)
      have e1 : nI mm + 1 = nI (mm + 1) := nI_add mm 1
      rw [e1]
      exact sp8
    refine cm_X11_takes (try1 (q := mvW A G w (hx A mm) p) ab R hpp tc ivT ⟨hpp, Nat.le_refl 1, cb.1, cb.2⟩ (by show mm + 1 ≤ tl; omega) htl (by rw [h11]; exact sp8) e14 (by rw [h17]; rfl) rfl rfl h) h (fun S18 hp h g => ⟨h g, ?_⟩)
    rw [fin]
    exact hp.2
  have lt := nle_i cc
  have ir : r < aR A := by omega
  have hk : 2 * (aR A - r) = 2 + 2 * (aR A - (r + 1)) := by omega
  rw [hk, tr_app, fl_app, show 2 * r + 2 = 2 * (r + 1) by omega] at hres
  refine l18 ab gb ge he R hr iw ir hp htl hmm tc ivT (fun T' c2 iv2 hc x6 q6 h => h ⟨rfl, rfl, rfl, rfl, rfl, r + 1, c2, by rw [q6]; exact nI_add r 1, by omega, iv2, ?_⟩) (h.2 cc)
  rw [hc]
  exact hres
end C65
/-! ways: the reference lays them all; there is one right table -/
section C66
variable {m le ar sb i j rd w p mm tl r u v gl n lo : Nat} {A : AS} {G : GC} {S S0 T U : HS} {tb tb' : Nat → Nat → TE} {cur cur' : TE} {Q Q' : HS → Prop} {QI : Int32 → HS → Prop}
theorem bt_cong (hb : ∀ h, ∀ q ∈ FLw A G w h, MvB A q) (h : ∀ m', mm < m' → m' ≤ tl → ∀ p, p < aP A → tb p m' = tb' p m') : btE A G w gl tl tb p mm = btE A G w gl tl tb' p mm := by
  unfold btE
  by_cases c : p = gl
  · rw [if_pos c, if_pos c]
  · rw [if_neg c, if_neg c]
    exact fl_cong (fun q hq _ hd => h _ (by have := (hb _ q hq).2.1; omega) hd _ (hb _ q hq).1) none
/-- a right table, one minute more -/
noncomputable def tbX (A : AS) (G : GC) (w gl tl mm : Nat) (tb : Nat → Nat → TE) : Nat → Nat → TE := fun p' m' => if m' = mm then btE A G w gl tl tb p' mm else tb p' m'
theorem tr_ext (hb : ∀ h, ∀ q ∈ FLw A G w h, MvB A q) (h : TRw A G w gl tl (mm + 1) tb) : TRw A G w gl tl mm (tbX A G w gl tl mm tb) := by
  intro m' h1 h2 p hp
  have lat : ∀ m2, mm < m2 → ∀ p, tbX A G w gl tl mm tb p m2 = tb p m2 := fun m2 hm p => if_neg (by omega)
  have e : btE A G w gl tl (tbX A G w gl tl mm tb) p m' = btE A G w gl tl tb p m' := bt_cong hb (fun m2 q1 _ p2 _ => lat m2 (by omega) p2)
  rw [e]
  by_cases c : m' = mm
  · rw [c]
    exact if_pos rfl
  · rw [lat m' (by omega)]
    exact h m' (by omega) h2 p hp
theorem tr_exists (hb : ∀ h, ∀ q ∈ FLw A G w h, MvB A q) : ∀ d n, n + d = tl + 1 → ∃ tb, TRw A G w gl tl n tb := by
  intro d
  induction d with
  | zero => intro n hn; exact ⟨fun _ _ => none, fun m' h1 h2 => by omega⟩
  | succ d ih =>
    intro n hn
    obtain ⟨tb, h⟩ := ih (n + 1) (by omega)
    exact ⟨_, tr_ext hb h⟩
noncomputable def TBw (A : AS) (G : GC) (w gl tl : Nat) : Nat → Nat → TE := Classical.epsilon (fun tb => TRw A G w gl tl 0 tb)
theorem tbw_tr (hb : ∀ h, ∀ q ∈ FLw A G w h, MvB A q) : TRw A G w gl tl 0 (TBw A G w gl tl) := Classical.epsilon_spec (tr_exists hb (tl + 1) 0 (by omega))
theorem tr_up (h : TRw A G w gl tl lo tb) (hl : lo ≤ n) : TRw A G w gl tl n tb := fun m' h1 h2 p hp => h m' (by omega) h2 p hp
theorem tbw_eq (hb : ∀ h, ∀ q ∈ FLw A G w h, MvB A q) (h : TRw A G w gl tl lo tb) (h1 : lo ≤ mm) (h2 : mm ≤ tl) (hp : p < aP A) : tb p mm = TBw A G w gl tl p mm := tr_uniq hb h (tr_up (tbw_tr hb) (Nat.zero_le lo)) (tl - mm) mm (by omega) h1 p hp
theorem lay51 {X3 X3' : Nat → Int32 → Int32 → Int32 → Int32 → HS → Prop} {X11 X11' : Nat → Int32 → Int32 → Int32 → Int32 → Int32 → HS → Prop} {s2 : Int64} (ab : ABd A) (gb : GBd A G) (ge : GBe A G) (he : HE S) (R : RW3 m le ar sb S) (hr : WRm m rd A G S) (iw : w < aW A) (hp : p < aP A) (hgl : gl < 100000) (htl : tl ≤ 400) (hmm : mm ≤ tl) (tc : TCw le ar sb A tl (mm + 1) tb S) (hs : s2 = if p = gl then 0 else -1)
    (hE : ∀ T, DWm le ar sb S T → DWc le ar sb (8 * mm + p) S T → RC T le ar sb (8 * mm + p) (btE A G w gl tl tb p mm) → ∀ x1, x1 = nI p + 1 → X11 m (nI w) (nI gl) (nI tl) (nI mm) x1 T → X11' m (nI w) (nI gl) (nI tl) (nI mm) x1 T)
    (h : P_X11_laysWays_51 Q X3 X11 m (nI w) (nI gl) (nI tl) (nI mm) (nI p) (nI (8 * mm + p)) le (nI (8 * mm + p)) s2 S) : P_X11_laysWays_51 Q' X3' X11' m (nI w) (nI gl) (nI tl) (nI mm) (nI p) (nI (8 * mm + p)) le (nI (8 * mm + p)) s2 S := by
  have R0 := R
  obtain ⟨r1, r2, r3, r4, r5, r6, r7⟩ := R
  have b2 := ab.2.2.1
  have ci : (nI (8 * mm + p)).toNatClampNeg = 8 * mm + p := nI_cl (by omega)
  delta P_X11_laysWays_51
  obtain ⟨o1, i1, h⟩ := h
  refine ⟨o1, i1, fun S2 q2 => ?_⟩
  obtain ⟨o2, a3, e3, o3, i3, h⟩ := h S2 q2
  have f2 : fR S2 = fR S ∧ fI S2 = fI S := by rw [q2]; exact ⟨rfl, rfl⟩
  cases r3.symm.trans (by rw [← f2.1]; exact e3 : fR S m 17 = some a3)
  refine ⟨o2, _, e3, o3, i3, fun S5 q5 => ?_⟩
  obtain ⟨a6, e6, o6, i6, h⟩ := h S5 q5
  have f5 : fR S5 = fR S := by rw [q5]; exact f2.1
  cases r4.symm.trans (by rw [← f5]; exact e6 : fR S m 18 = some a6)
  refine ⟨_, e6, o6, i6, fun S8 q8 => ?_⟩
  have h := h S8 q8
  rw [ci] at q2 q5 q8
  have ra : fI S5 ar = va_up (fI S ar) (8 * mm + p) (nI mm) := by rw [row_I q5, f2.2]
  have r8s : fI S8 sb = va_up (fI S5 sb) (8 * mm + p) (-1) := row_I q8
  have r8a : fI S8 ar = fI S5 ar := row_o q8 r7
  have r5s : fI S5 sb = fI S sb := by rw [row_o q5 (Ne.symm r7), f2.2]
  have rj : fJ S8 = u2 (fJ S) le (8 * mm + p) s2 := by rw [q8, q5, q2]; rfl
  have dw8 : DWm le ar sb S S8 := ⟨by rw [q8, q5, q2]; rfl, by rw [q8, q5, q2]; rfl, by rw [q8, q5, q2]; rfl, by rw [q8, q5, q2]; rfl, fun x a b => by rw [row_o q8 b, row_o q5 a, f2.2], fun x a => by rw [rj]; exact u2_row _ _ a⟩
  have dc8 : DWc le ar sb (8 * mm + p) S S8 := fun k hk => ⟨by rw [rj]; exact u2_ne _ _ (fun z => hk z.2), by rw [r8a, ra]; exact va_up_ne _ _ hk, by rw [r8s, r5s]; exact va_up_ne _ _ hk⟩
  have cj : fJ S8 le (8 * mm + p) = s2 := by rw [rj]; exact u2_self _ _ _ _
  have ca : fI S8 ar (8 * mm + p) = nI mm := by rw [r8a, ra, va_up_self]
  have cs : fI S8 sb (8 * mm + p) = -1 := by rw [r8s, va_up_self]
  refine ⟨fun cc => ?_, fun cc => ?_⟩
  · have eg : p = gl := nI_injw (by omega) hgl cc
    have h := h.1 cc
    delta P_X11_laysWays_85
    intro x1 q1
    refine hE S8 dw8 dc8 ?_ x1 q1 (h x1 q1)
    unfold btE
    rw [if_pos eg]
    refine ⟨?_, ?_, cs⟩
    · rw [cj, hs, if_pos eg]
      show (0 : Int64).toInt = (0 : Int)
      decide
    · rw [ca]
      exact nI_i (by omega)
  · have ng : ¬ p = gl := fun z => cc (by rw [z])
    have h := h.2 cc
    have he8 : HE S8 := fun rd i o h1 h2 => by
      rw [dw8.2.2.2.1]
      refine he rd i ?_ h1 h2
      unfold ob at o ⊢
      rw [dw8.1, dw8.2.1] at o
      exact o
    have rc8 : RC S8 le ar sb (8 * mm + p) none := ⟨by rw [cj, hs, if_neg ng], cs⟩
    refine cm_X11_tries (sm_X11_tries (rd := rd) ab gb ge he8 (rw3_mv R0 dw8) (wrm_dw R0 dw8 hr) iw hp htl hmm (tc_dwc (mm := mm) ab hp tc dc8 (by omega)) rc8 h) h (fun S10 hq h g => ?_)
    have h := h g
    obtain ⟨-, i1, i2, i3, -⟩ := hq
    delta P_X11_laysWays_85
    intro x1 q1
    refine hE S10 (dw_tr dw8 i1) (dwc_tr dc8 i2) ?_ x1 q1 (h x1 q1)
    unfold btE
    rw [if_neg ng]
    exact i3
theorem sm_X11_laysWays (ab : ABd A) (gb : GBd A G) (ge : GBe A G) (he : HE S) (R : RW3 m le ar sb S) (hr : WRm m rd A G S) (iw : w < aW A) (hgl : gl < 100000) (htl : tl ≤ 400) (h : P_X11_laysWays m (nI w) (nI gl) (nI tl) Q S) : P_X11_laysWays m (nI w) (nI gl) (nI tl) (fun T => Q T ∧ DWm le ar sb S T ∧ TCw le ar sb A tl 0 (TBw A G w gl tl) T) S := by
  have b2 := ab.2.2.1
  have hb : ∀ h, ∀ q ∈ FLw A G w h, MvB A q := fun h q hq => (flw_b ab gb ge iw h q hq).1
  have e0 : (0 : Int32).toInt = 0 := by decide
  have sub1 : ∀ k : Nat, nI (k + 1) - 1 = nI k := fun k => by
    have w : nI (k + 1) = nI k + (1 : Int32) := (nI_add k 1).symm
    rw [w, Int32.add_sub_cancel]
  delta P_X11_laysWays P_X11_laysWays_0
  intro X hX
  refine h (fun a0 a1 a2 a3 v4 T => (a0 = m ∧ a1 = nI w ∧ a2 = nI gl ∧ a3 = nI tl ∧ ∃ n tb, n ≤ tl + 1 ∧ v4 = nI n - 1 ∧ DWm le ar sb S T ∧ TRw A G w gl tl n tb ∧ TCw le ar sb A tl n tb T) → X a0 a1 a2 a3 v4 T) ?_ ⟨rfl, rfl, rfl, rfl, tl + 1, fun _ _ => none, Nat.le_refl _, (sub1 tl).symm, dw_rf, fun m' h1 h2 => by omega, fun m' h1 h2 => by omega⟩
  rintro a0 a1 a2 a3 v4 T h ⟨rfl, rfl, rfl, rfl, n, tb, hn, h4, dT, tr, tc⟩
  apply hX
  refine ⟨fun cc => ⟨h.1 cc, dT, ?_⟩, fun cc => ?_⟩
  · have z : n = 0 := by
      cases n with
      | zero => rfl
      | succ k =>
        rw [sub1] at h4
        have := lt_i cc
        rw [h4, nI_i (by omega)] at this
        omega
    rw [z] at tr tc
    intro m' h1 h2 p hp
    rw [← tbw_eq hb tr h1 h2 hp]
    exact tc m' h1 h2 p hp
  have h := h.2 cc
  obtain ⟨mm, rfl⟩ : ∃ k, n = k + 1 := by
    cases n with
    | zero =>
      exfalso
      apply cc
      rw [h4]
      decide
    | succ k => exact ⟨k, rfl⟩
  rw [sub1] at h4
  subst h4
  intro X2 hX2
  refine h (fun a0_1 a1 a2 a3 a4 v5 T' => (a0_1 = a0 ∧ a1 = nI w ∧ a2 = nI gl ∧ a3 = nI tl ∧ a4 = nI mm ∧ ∃ p, v5 = nI p ∧ p ≤ aP A ∧ DWm le ar sb S T' ∧ TCw le ar sb A tl (mm + 1) tb T' ∧ ∀ p', p' < p → RC T' le ar sb (8 * mm + p') (btE A G w gl tl tb p' mm)) → X2 a0_1 a1 a2 a3 a4 v5 T') ?_ ⟨rfl, rfl, rfl, rfl, rfl, 0, rfl, Nat.zero_le _, dT, tc, fun p' hp' => absurd hp' (Nat.not_lt_zero p')⟩
  rintro a0_1 a1 a2 a3 a4 v5 T' h ⟨rfl, rfl, rfl, rfl, rfl, p, rfl, hp, dT', tc', rows⟩
  apply hX2
  have RT := rw3_mv R dT'
  have hrT := wrm_dw R dT' hr
  have heT : HE T' := fun rd i o h1 h2 => by
    rw [dT'.2.2.2.1]
    refine he rd i ?_ h1 h2
    unfold ob at o ⊢
    rw [dT'.1, dT'.2.1] at o
    exact o
  obtain ⟨o1, x1, e1, o2, h⟩ := h
  cases hrT.1.symm.trans e1
  refine ⟨o1, _, e1, o2, fun x2 q2 => ?_⟩
  have h := h x2 q2
  have q2 := q2.trans hrT.2.2.1.2.2.1
  have n2 : x2.toInt = (aP A : Int) := by rw [q2, nI_i (by omega)]
  have np : (nI p).toInt = (p : Int) := nI_i (by omega)
  refine ⟨fun c2 x4 q4 => ?_, fun c2 => ?_⟩
  · have := le_i c2
    have ep : p = aP A := by omega
    have h := h.1 c2 x4 q4
    refine h ⟨rfl, rfl, rfl, rfl, mm, tbX A G w gl tl mm tb, by omega, ?_, dT', tr_ext hb tr, fun m' h1 h2 p' hp' => ?_⟩
    · rw [q4]
      exact (Int32.sub_eq_add_neg _ _).symm
    · unfold tbX
      by_cases c : m' = mm
      · rw [if_pos c, c]
        refine ⟨rows p' (by omega), bt_eb hb (by omega) (fun m2 q1 q2 p2 hp2 => (tc' m2 (by omega) q2 p2 hp2).2)⟩
      · rw [if_neg c]
        exact tc' m' (by omega) h2 p' hp'
  have lt := nle_i c2
  have hpp : p < aP A := by omega
  have h := h.2 c2
  refine cm_X11_spotOf (sm_X11_spotOf h) h (fun x7 S5 hq h g => ?_)
  have h := h g
  obtain ⟨-, hS, h7⟩ := hq
  subst hS
  have h7 : x7 = nI (8 * mm + p) := by rw [h7]; exact sp8
  obtain ⟨a8, e8, h⟩ := h
  cases RT.2.1.symm.trans e8
  refine ⟨_, e8, ?_⟩
  rw [h7] at h ⊢
  have nxt : ∀ T2, DWm le ar sb T' T2 → DWc le ar sb (8 * mm + p) T' T2 → RC T2 le ar sb (8 * mm + p) (btE A G w gl tl tb p mm) → ∀ x1, x1 = nI p + 1 → ((a0_1 = a0_1 ∧ nI w = nI w ∧ nI gl = nI gl ∧ nI tl = nI tl ∧ nI mm = nI mm ∧ ∃ p, x1 = nI p ∧ p ≤ aP A ∧ DWm le ar sb S T2 ∧ TCw le ar sb A tl (mm + 1) tb T2 ∧ ∀ p', p' < p → RC T2 le ar sb (8 * mm + p') (btE A G w gl tl tb p' mm)) → X2 a0_1 (nI w) (nI gl) (nI tl) (nI mm) x1 T2) → X2 a0_1 (nI w) (nI gl) (nI tl) (nI mm) x1 T2 := by
    intro T2 d2 c2' rc x1 q1 h
    refine h ⟨rfl, rfl, rfl, rfl, rfl, p + 1, by rw [q1]; exact nI_add p 1, by omega, dw_tr dT' d2, tc_dwc (mm := mm) ab hpp tc' c2' (by omega), fun p' hp' => ?_⟩
    by_cases z : p' = p
    · rw [z]; exact rc
    · exact rc_mv (rows p' (by omega)) c2' (by omega)
  refine ⟨fun c3 => ?_, fun c3 => ?_⟩
  · exact lay51 (gl := gl) ab gb ge heT RT hrT iw hpp hgl htl (by omega) tc' (by rw [if_neg (fun z => c3 (by rw [z]))]) nxt (h.1 c3)
  · exact lay51 (gl := gl) ab gb ge heT RT hrT iw hpp hgl htl (by omega) tc' (by rw [if_pos (nI_injw (by omega) hgl c3)]) nxt (h.2 c3)
end C66
/-! ways: the reference's refusal, least and there -/
def wyOK (A : AS) (v1 v2 v3 : Int32) : Prop := (¬ v1 < 0 ∧ v1 < nI (aW A)) ∧ (¬ v2 < 0 ∧ v2 < nI (aP A)) ∧ (¬ v3 < 0 ∧ v3 < nI (aP A))
def wmOK (v4 v5 : Int32) : Prop := ¬ (v5 < 0 ∨ (400 : Int32) < v5) ∧ ¬ (v4 < 0 ∨ v5 < v4)
noncomputable def wyE (A : AS) (G : GC) (v1 v2 v3 v4 v5 : Int32) : TE := TBw A G v1.toNatClampNeg v3.toNatClampNeg v5.toNatClampNeg v2.toNatClampNeg v4.toNatClampNeg
noncomputable def wyN (A : AS) (G : GC) (v1 v2 v3 v4 v5 : Int32) : Int32 := dc (wyOK A v1 v2 v3) (dc (wmOK v4 v5) (dc (wyE A G v1 v2 v3 v4 v5 = none) 6 0) 2) 1
def lM : TE → Int64
  | none => -1
  | some a => Int64.ofInt a.1
def rM : TE → Int32
  | none => 0
  | some a => Int32.ofInt a.2.1
noncomputable def tellleast (A : AS) (G : GC) (v1 v2 v3 v4 v5 l : Int32) : Int64 := dc (wyN A G v1 v2 v3 v4 v5 = 0) (tdJ (lM (wyE A G v1 v2 v3 v4 v5)) 252000 l) (-1)
noncomputable def tellthere (A : AS) (G : GC) (v1 v2 v3 v4 v5 : Int32) : Int32 := dc (wyN A G v1 v2 v3 v4 v5 = 0) (rM (wyE A G v1 v2 v3 v4 v5)) (-1)
section C67
variable {m le ar sb i j rd w p mm tl r u gl n lo : Nat} {A : AS} {G : GC} {S S0 T U : HS} {v1 v2 v3 v4 v5 l : Int32} {tb tb' : Nat → Nat → TE} {t : TE} {Q : Int32 → HS → Prop} {QJ : Int64 → HS → Prop}
theorem wyN_0 (h : wyN A G v1 v2 v3 v4 v5 = 0) : wyOK A v1 v2 v3 ∧ wmOK v4 v5 ∧ ¬ wyE A G v1 v2 v3 v4 v5 = none := by
  unfold wyN at h
  by_cases a : wyOK A v1 v2 v3
  · rw [dc_y a] at h
    by_cases b : wmOK v4 v5
    · rw [dc_y b] at h
      by_cases c : wyE A G v1 v2 v3 v4 v5 = none
      · rw [dc_y c] at h; exact absurd h (by decide)
      · exact ⟨a, b, c⟩
    · rw [dc_n b] at h; exact absurd h (by decide)
  · rw [dc_n a] at h; exact absurd h (by decide)
theorem wm_n (h : wmOK v4 v5) : v4.toNatClampNeg ≤ v5.toNatClampNeg ∧ v5.toNatClampNeg ≤ 400 ∧ v4 = nI v4.toNatClampNeg ∧ v5 = nI v5.toNatClampNeg := by
  have a := nlt_i (fun z => h.1 (Or.inl z))
  have b := nlt_i (fun z => h.1 (Or.inr z))
  have c := nlt_i (fun z => h.2 (Or.inl z))
  have d := nlt_i (fun z => h.2 (Or.inr z))
  have e0 : (0 : Int32).toInt = 0 := by decide
  have e4 : (400 : Int32).toInt = 400 := by decide
  have n4 := nI_ofw (x := v4) (by omega) (by omega)
  have n5 := nI_ofw (x := v5) (by omega) (by omega)
  have t4 : v4.toNatClampNeg = v4.toInt.toNat := rfl
  have t5 : v5.toNatClampNeg = v5.toInt.toNat := rfl
  exact ⟨by omega, by omega, n4, n5⟩
theorem wy_n (ab : ABd A) (h : wyOK A v1 v2 v3) : v1.toNatClampNeg < aW A ∧ v2.toNatClampNeg < aP A ∧ v3.toNatClampNeg < aP A ∧ v1 = nI v1.toNatClampNeg ∧ v2 = nI v2.toNatClampNeg ∧ v3 = nI v3.toNatClampNeg := by
  have h1 := ix_lt (by have := ab.2.2.2.2.1; omega) h.1
  have h2 := ix_lt (by have := ab.2.2.1; omega) h.2.1
  have h3 := ix_lt (by have := ab.2.2.1; omega) h.2.2
  have e0 : (0 : Int32).toInt = 0 := by decide
  have b1 := ab.2.2.2.2.1
  have b2 := ab.2.2.1
  have q1 := nlt_i h.1.1
  have q2 := nlt_i h.2.1.1
  have q3 := nlt_i h.2.2.1
  have t1 : v1.toNatClampNeg = v1.toInt.toNat := rfl
  have t2 : v2.toNatClampNeg = v2.toInt.toNat := rfl
  have t3 : v3.toNatClampNeg = v3.toInt.toNat := rfl
  exact ⟨h1, h2, h3, nI_ofw (by omega) (by omega), nI_ofw (by omega) (by omega), nI_ofw (by omega) (by omega)⟩
theorem lcm1 {x : Int64} : lg_cmp x (-1) = 0 ↔ x = -1 := by
  constructor
  · intro h
    unfold lg_cmp at h
    by_cases c : (-1 : Int64) < x
    · rw [if_pos c] at h; exact absurd h (by decide)
    · rw [if_neg c] at h
      by_cases d : x = -1
      · exact d
      · rw [if_neg d] at h; exact absurd h (by decide)
  · rintro rfl
    decide
theorem hm_wy (hm : HM m A G S) (h : wyOK A v1 v2 v3) : ∃ rd, WRm m rd A G S := by
  rcases hm with ⟨n, hA⟩ | hm
  · exact absurd (zero_n (by rw [hA]; rfl) h.1) id
  · exact hm
theorem rw3_0 {S1 : HS} (R : RW3 m le ar sb S) (e : S1 = sI S m 0 0) : RW3 m le ar sb S1 := by
  subst e
  exact R
end C67
end
section
/-! ways: the reference's off -/
def mE : TE → Int
  | none => 0
  | some a => a.1
def oI : Option Nat → Int32
  | none => -1
  | some b => nI b
noncomputable def offS (e : Nat → TE) (n : Nat) (o : Option Nat) : Option Nat := dc (e n = none) o (match o with
  | none => some n
  | some b => if mE (e n) < mE (e b) then some n else some b)
noncomputable def offB (e : Nat → TE) : Nat → Option Nat
  | 0 => none
  | n + 1 => offS e n (offB e n)
noncomputable def telloff (A : AS) (G : GC) (v1 v2 v3 v4 : Int32) : Int32 := dc (wyOK A v1 v2 v3) (dc (¬ (v4 < 0 ∨ (400 : Int32) < v4)) (oI (offB (fun k => TBw A G v1.toNatClampNeg v3.toNatClampNeg v4.toNatClampNeg v2.toNatClampNeg k) (v4.toNatClampNeg + 1))) (-1)) (-1)
section C68
variable {m le ar sb i j rd w p mm tl r u gl n lo : Nat} {A : AS} {G : GC} {S S0 T U : HS} {v1 v2 v3 v4 v5 l : Int32} {tb tb' : Nat → Nat → TE} {t : TE} {e : Nat → TE} {Q : Int32 → HS → Prop} {QJ : Int64 → HS → Prop}
theorem off_lt : ∀ n b, offB e n = some b → b < n ∧ ¬ e b = none
  | 0, b, h => by cases h
  | n + 1, b, h => by
    have h : offS e n (offB e n) = some b := h
    unfold offS at h
    by_cases c : e n = none
    · rw [dc_y c] at h
      have := off_lt n b h
      exact ⟨by omega, this.2⟩
    · rw [dc_n c] at h
      cases z : offB e n with
      | none => rw [z] at h; cases h; exact ⟨by omega, c⟩
      | some b' =>
        rw [z] at h
        have h : (if mE (e n) < mE (e b') then some n else some b') = some b := h
        by_cases d : mE (e n) < mE (e b')
        · rw [if_pos d] at h; cases h; exact ⟨by omega, c⟩
        · rw [if_neg d] at h
          cases h
          have := off_lt n b z
          exact ⟨by omega, this.2⟩
theorem oI_m1 {o : Option Nat} (ho : ∀ b, o = some b → b < 100000) (h : oI o = -1) : o = none := by
  cases o with
  | none => rfl
  | some b =>
    have hb := nI_i (ho b rfl)
    have h : nI b = -1 := h
    rw [h] at hb
    have e1 : (-1 : Int32).toInt = -1 := by decide
    omega
theorem tc_cell (b2 : aP A ≤ 8) (tc : TCw le ar sb A tl 0 tb T) (hk : mm ≤ tl) (htl : tl ≤ 400) (ip : p < aP A) {x : Int64} {y : Int32} (hy : y = (8 : Int32) * nI mm + nI p) (hx : x = fJ T le y.toNatClampNeg) : (x = -1 ↔ tb p mm = none) ∧ (¬ tb p mm = none → x.toInt = mE (tb p mm)) := by
  rw [hy, sp8, nI_cl (by omega)] at hx
  obtain ⟨rc, eb⟩ := tc mm (Nat.zero_le _) hk p ip
  cases z : tb p mm with
  | none =>
    rw [z] at rc
    exact ⟨⟨fun _ => rfl, fun _ => hx.trans rc.1⟩, fun n => absurd rfl n⟩
  | some a =>
    rw [z] at rc
    have q := (eb a z).1
    refine ⟨⟨fun y => absurd (hx.symm.trans y) (m1J (by rw [rc.1]; exact q)), fun y => by cases y⟩, fun _ => ?_⟩
    rw [hx, rc.1]
    rfl
theorem off_loop (b2 : aP A ≤ 8) (tc : TCw le ar sb A tl 0 tb T) (R : RW3 m le ar sb T) (ip : p < aP A) (htl : tl ≤ 400) (h : P_X11_off_67 Q m (nI p) (nI tl) (-1) 0 T) : P_X11_off_67 (fun x U => Q x U ∧ x = oI (offB (fun k => tb p k) (tl + 1))) m (nI p) (nI tl) (-1) 0 T := by
  intro X hX
  refine h (fun a0 a2 a4 a5 a6 U => (a0 = m ∧ a2 = nI p ∧ a4 = nI tl ∧ U = T ∧ ∃ n, n ≤ tl + 1 ∧ a6 = nI n ∧ a5 = oI (offB (fun k => tb p k) n)) → X a0 a2 a4 a5 a6 U) ?_ ⟨rfl, rfl, rfl, rfl, 0, Nat.zero_le _, rfl, rfl⟩
  rintro a0 a2 a4 a5 a6 U h ⟨rfl, rfl, rfl, rfl, n, hn, rfl, rfl⟩
  apply hX
  have bo : ∀ b, offB (fun k => tb p k) n = some b → b < 100000 := fun b z => by have := (off_lt n b z).1; omega
  refine ⟨fun c => ?_, fun c => ?_⟩
  · have c' := lt_i c
    rw [nI_i (by omega), nI_i (by omega)] at c'
    have z : n = tl + 1 := by omega
    have h := h.1 c
    refine ⟨fun d => ?_, fun d => ?_⟩
    · obtain ⟨o, h⟩ := h.1 d
      exact ⟨o, cm_X11_good (sp_X11_good h) h (fun x U hp h g => ⟨h g, by rw [hp.2.1, z]⟩)⟩
    · obtain ⟨o, h⟩ := h.2 d
      exact ⟨o, cm_X11_refused (sp_X11_refused h) h (fun x U hp h g => ⟨h g, by rw [hp.2.1, ← z, d]⟩)⟩
  have c' := nlt_i c
  rw [nI_i (by omega), nI_i (by omega)] at c'
  have hk : n ≤ tl := by omega
  obtain ⟨o, a9, e9, h⟩ := h.2 c
  cases R.2.1.symm.trans e9
  refine ⟨o, _, e9, ?_⟩
  refine cm_X11_spotOf (sm_X11_spotOf h) h (fun x7 S5 hq h g => ?_)
  have h := h g
  obtain ⟨-, hS, h7⟩ := hq
  subst hS
  obtain ⟨o8, v8, h⟩ := h
  refine ⟨o8, v8, fun x14 q14 => ?_⟩
  have h := h x14 q14
  have ce := tc_cell b2 tc hk htl ip h7 q14
  refine ⟨fun d => ?_, fun d => ?_⟩
  · have h := h.1 d
    delta P_X11_off_128
    intro x1 q1
    refine h x1 q1 ⟨rfl, rfl, rfl, rfl, n + 1, by omega, by rw [q1]; exact nI_add n 1, ?_⟩
    show _ = oI (offS _ n _)
    unfold offS
    rw [dc_y (ce.1.mp (lcm1.mp d))]
  have ne : ¬ tb p n = none := fun z => d (lcm1.mpr (ce.1.mpr z))
  have h := h.2 d
  refine ⟨fun f => ?_, fun f => ?_⟩
  · have h := h.1 f
    delta P_X11_off_124 P_X11_off_128
    intro x1 q1
    refine h x1 q1 ⟨rfl, rfl, rfl, rfl, n + 1, by omega, by rw [q1]; exact nI_add n 1, ?_⟩
    show _ = oI (offS _ n _)
    unfold offS
    rw [dc_n ne, oI_m1 bo f]
    rfl
  have h := h.2 f
  obtain ⟨b, hb⟩ : ∃ b, offB (fun k => tb p k) n = some b := by
    cases z : offB (fun k => tb p k) n with
    | none => rw [z] at f; exact absurd rfl f
    | some b => exact ⟨b, rfl⟩
  have bl := off_lt n b hb
  have vb : oI (offB (fun k => tb p k) n) = nI b := by rw [hb]; rfl
  obtain ⟨a17, e17, h⟩ := h
  cases R.2.1.symm.trans e17
  refine ⟨_, e17, ?_⟩
  refine cm_X11_spotOf (sm_X11_spotOf h) h (fun x20 S5 hq h g => ?_)
  have h := h g
  obtain ⟨-, hS, h20⟩ := hq
  subst hS
  obtain ⟨o20, v20, h⟩ := h
  refine ⟨o20, v20, fun x22 q22 => ?_⟩
  have h := h x22 q22
  have ce2 := tc_cell b2 tc hk htl ip h20 q22
  obtain ⟨a23, e23, h⟩ := h
  cases R.2.1.symm.trans e23
  refine ⟨_, e23, ?_⟩
  refine cm_X11_spotOf (sm_X11_spotOf h) h (fun x26 S5 hq h g => ?_)
  have h := h g
  obtain ⟨-, hS, h26⟩ := hq
  subst hS
  rw [vb] at h26
  obtain ⟨o26, v26, h⟩ := h
  refine ⟨o26, v26, fun x28 q28 => ?_⟩
  have h := h x28 q28
  have ce3 := tc_cell b2 tc (mm := b) (by omega) htl ip h26 q28
  have m1 := ce2.2 ne
  have m2 := ce3.2 bl.2
  have st : offB (fun k => tb p k) (n + 1) = if mE (tb p n) < mE (tb p b) then some n else some b := by
    show offS _ n _ = _
    unfold offS
    rw [dc_n ne, hb]
  refine ⟨fun y => ?_, fun y => ?_⟩
  · have h := h.1 y
    delta P_X11_off_128
    intro x1 q1
    refine h x1 q1 ⟨rfl, rfl, rfl, rfl, n + 1, by omega, by rw [q1]; exact nI_add n 1, ?_⟩
    rw [st, if_neg (fun z => absurd y (lgc_ge.mpr (by rw [m1, m2]; exact z))), hb]
  · have h := h.2 y
    delta P_X11_off_124 P_X11_off_128
    intro x1 q1
    refine h x1 q1 ⟨rfl, rfl, rfl, rfl, n + 1, by omega, by rw [q1]; exact nI_add n 1, ?_⟩
    have y := lgc_ge.mp y
    rw [m1, m2] at y
    rw [st, if_pos y]
    rfl
theorem tl_X11_off (hI : IV S) (hm : HM m A G S) (ab : ABd A) (gb : GBd A G) (ge : GBe A G) (R : RW3 m le ar sb S) (h : P_X11_off m v1 v2 v3 v4 Q S) : P_X11_off m v1 v2 v3 v4 (fun x T => Q x T ∧ x = telloff A G v1 v2 v3 v4) S := by
  have b2 := ab.2.2.1
  delta P_X11_off P_X11_off_0
  obtain ⟨om, h⟩ := h
  refine ⟨om, ?_⟩
  intro S1 eS1
  have h := h S1 eS1
  replace hm := hm_0 hm om eS1
  have hE := m_start hI eS1
  replace R := rw3_0 R eS1
  have no1 : ∀ T, ¬ wyOK A v1 v2 v3 → P_X11_off_29 Q m T → P_X11_off_29 (fun x T => Q x T ∧ x = telloff A G v1 v2 v3 v4) m T := fun T z h => by
    obtain ⟨o, h⟩ := h
    exact ⟨o, cm_X11_refused (sp_X11_refused h) h (fun x U hp h g => ⟨h g, by unfold telloff; rw [dc_n z, hp.2.1]⟩)⟩
  refine cm_X11_isWalker (sp_X11_isWalker hm h) h (fun x1 S2 hp h g b => ?_)
  have h := h g b
  obtain ⟨-, hS, a1⟩ := hp
  subst hS
  refine ⟨fun c => no1 _ (fun z => an0 a1 c ⟨hm_wy hm z, z.1⟩) (h.1 c), fun c => ?_⟩
  have a1 := an1 a1 c
  have h := h.2 c
  refine cm_X11_isPlace (sm_X11_isPlace hm h) h (fun x1 S2 hp h g b => ?_)
  have h := h g b
  obtain ⟨-, hS, a2⟩ := hp
  subst hS
  refine ⟨fun c => no1 _ (fun z => an0 a2 c ⟨hm_wy hm z, z.2.1⟩) (h.1 c), fun c => ?_⟩
  have a2 := an1 a2 c
  have h := h.2 c
  refine cm_X11_isPlace (sm_X11_isPlace hm h) h (fun x1 S2 hp h g b => ?_)
  have h := h g b
  obtain ⟨-, hS, a3⟩ := hp
  subst hS
  refine Iff.mp and_comm ⟨fun c => no1 _ (fun z => an0 a3 c ⟨hm_wy hm z, z.2.2⟩) (h.2 c), fun c => ?_⟩
  have a3 := an1 a3 c
  have h := h.1 c
  have ok : wyOK A v1 v2 v3 := ⟨a1.2, a2.2, a3.2⟩
  refine cm_X11_in (sp_X11_in h) h (fun x1 S2 hp h g b => ?_)
  have h := h g b
  obtain ⟨-, hS, a4⟩ := hp
  subst hS
  refine Iff.mp and_comm ⟨fun c => ?_, fun c => ?_⟩
  · have h := h.2 c
    exact cm_X11_refused (sp_X11_refused h) h (fun x U hp h g => ⟨h g, by unfold telloff; rw [dc_y ok, dc_n (an0 a4 c), hp.2.1]⟩)
  have a4 := an1 a4 c
  have h := h.1 c
  have q0 : ¬ ((0 : Int32) < 0 ∨ v4 < 0) := fun z => z.elim (fun z => absurd z (by decide)) (fun z => a4 (Or.inl z))
  obtain ⟨-, i4, -, n4⟩ := wm_n (v4 := 0) ⟨a4, q0⟩
  obtain ⟨i1, i2, i3, n1, n2, n3⟩ := wy_n ab ok
  obtain ⟨rd, hr⟩ := hm_wy hm ok
  have fin : ∀ T, P_X11_laysWays m v1 v3 v4 T S1 = P_X11_laysWays m (nI v1.toNatClampNeg) (nI v3.toNatClampNeg) (nI v4.toNatClampNeg) T S1 := fun T => by rw [← n1, ← n3, ← n4]
  rw [fin] at h ⊢
  refine cm_X11_laysWays (sm_X11_laysWays ab gb ge hE R hr i1 (by omega) i4 h) h (fun T hp h g => ?_)
  have h := h g
  obtain ⟨-, dT, tc⟩ := hp
  have RT := rw3_mv R dT
  have f2 : ∀ Q, P_X11_off_67 Q m v2 v4 (-1) 0 T = P_X11_off_67 Q m (nI v2.toNatClampNeg) (nI v4.toNatClampNeg) (-1) 0 T := fun Q => by rw [← n2, ← n4]
  have k : telloff A G v1 v2 v3 v4 = oI (offB (fun k => TBw A G v1.toNatClampNeg v3.toNatClampNeg v4.toNatClampNeg v2.toNatClampNeg k) (v4.toNatClampNeg + 1)) := by
    unfold telloff
    rw [dc_y ok, dc_y a4]
  rw [f2] at h
  have h := off_loop b2 tc RT i2 i4 h
  rw [← k, ← f2] at h
  exact h
end C68
/-! ways: the steps of a right table, pure -/
def nxE (G : GC) (p m : Nat) (k : Int32) : Nat × Nat := if k = -2 then (p, m + 1) else ((goT G (k / 100) (k / 10 - k / 10 / 10 * 10)).toNatClampNeg, m + (goM G (k / 100) (k - k / 10 * 10)).toNatClampNeg)
def kE : TE → Int32
  | none => -1
  | some a => a.2.2
def trc (G : GC) (tb : Nat → Nat → TE) : Nat → Nat → Nat → List Int32
  | 0, _, _ => []
  | f + 1, p, m => if kE (tb p m) = -1 then [] else kE (tb p m) :: trc G tb f (nxE G p m (kE (tb p m))).1 (nxE G p m (kE (tb p m))).2
section C69
variable {m le ar sb i j rd w p mm tl r u v gl n lo h : Nat} {A : AS} {G : GC} {S S0 T U : HS} {k : Int32} {tb tb' : Nat → Nat → TE} {t b : TE} {a : Int × Int × Int32} {q : MVx} {e : Nat → TE}
theorem fl_some : ∀ (l : List MVx) (b : TE), flE tb tl m p l b = some a → b = some a ∨ ∃ q ∈ l, mF q = p ∧ m + mD q ≤ tl ∧ cdE (tb (mT q) (m + mD q)) (mC q) (mK q) = some a
  | [], b, h => Or.inl h
  | q :: l, b, h => by
    have h : flE tb tl m p l (stE tb tl m p b q) = some a := h
    rcases fl_some l _ h with h | ⟨q', hq, z⟩
    · unfold stE at h
      by_cases c : mF q = p ∧ m + mD q ≤ tl
      · rw [if_pos c] at h
        rcases mn_or b (cdE (tb (mT q) (m + mD q)) (mC q) (mK q)) with e | e
        · rw [e] at h
          exact Or.inr ⟨q, List.mem_cons_self, c.1, c.2, h⟩
        · rw [e] at h
          exact Or.inl h
      · rw [if_neg c] at h
        exact Or.inl h
    · exact Or.inr ⟨q', List.mem_cons_of_mem _ hq, z⟩
theorem cd_k {c : Int} (h : cdE t c k = some a) : a.2.2 = k ∧ ¬ t = none := by
  cases t with
  | none => cases h
  | some x =>
    cases h
    exact ⟨rfl, fun z => by cases z⟩
theorem dg : ∀ r, r < 12 → ∀ u, u < 2 → ∀ v, v < 10 → nI (100 * r + 10 * u + v) / 100 = nI r ∧ nI (100 * r + 10 * u + v) / 10 - nI (100 * r + 10 * u + v) / 10 / 10 * 10 = nI u ∧ nI (100 * r + 10 * u + v) - nI (100 * r + 10 * u + v) / 10 * 10 = nI v ∧ ¬ nI (100 * r + 10 * u + v) = -1 ∧ ¬ nI (100 * r + 10 * u + v) = -2 := by decide
theorem flw_k (ab : ABd A) (gb : GBd A G) (hw : w < aW A) (hq : q ∈ FLw A G w h) : (mK q = -2 ∧ mT q = mF q ∧ mD q = 1) ∨ ∃ r u v, r < aR A ∧ u < 2 ∧ 1 ≤ v ∧ v ≤ 9 ∧ q = mvL A G w h r u v := by
  have hb2 := ab.2.2.2.2.1
  rcases List.mem_append.mp hq with hq | hq
  · obtain ⟨s, -, hs, hq⟩ := tr_mem _ _ hq
    obtain ⟨j, a, b, rfl⟩ := vs_mem _ _ hq
    have sf := sp_sf (gb.2.2.2 _ hw) (by omega)
    exact Or.inr ⟨s / 2, s % 2, j, by omega, by omega, by omega, by omega, rfl⟩
  · obtain ⟨j, -, hj, cw, rfl⟩ := wt_mem _ _ hq
    exact Or.inl ⟨rfl, rfl, rfl⟩
/-- where a move's code leads -/
theorem flw_nx (ab : ABd A) (gb : GBd A G) (hw : w < aW A) (hq : q ∈ FLw A G w h) : nxE G (mF q) m (mK q) = (mT q, m + mD q) ∧ ¬ mK q = -1 := by
  have hb := ab.2.2.2.1
  rcases flw_k ab gb hw hq with ⟨e1, e2, e3⟩ | ⟨r, u, v, hr, hu, h1, h9, rfl⟩
  · unfold nxE
    rw [if_pos e1, e2, e3, e1]
    exact ⟨rfl, by decide⟩
  · obtain ⟨d1, d2, d3, d4, d5⟩ := dg r (by omega) u hu v (by omega)
    have g := (go_n (u := u) gb hr (by omega) (by omega)).2
    have bd := gb.2.2.1 _ hr
    have wb : wyT2 G r u < 100000 := by
      have z1 := bd.1
      have z2 := bd.2.1
      unfold wyT2
      by_cases c : u = 0
      · rw [if_pos c, Int32.toNatClampNeg]; have := z2.2; omega
      · rw [if_neg c, Int32.toNatClampNeg]; have := z1.2; omega
    show nxE G (wyB2 G r u) m (nI (100 * r + 10 * u + v)) = (wyT2 G r u, m + (goM G (nI r) (nI v)).toNatClampNeg) ∧ ¬ nI (100 * r + 10 * u + v) = -1
    unfold nxE
    rw [if_neg d5, d1, d2, d3, g, nI_cl wb]
    exact ⟨rfl, d4⟩
/-- a right table's step is a move of the list, and leads on to an open cell -/
theorem tr_step (ab : ABd A) (gb : GBd A G) (ge : GBe A G) (hw : w < aW A) (tr : TRw A G w gl tl 0 tb) (hm : m ≤ tl) (hp : p < aP A) (hk : ¬ kE (tb p m) = -1) : ∃ q ∈ FLw A G w (min (m / aH A) (aHs A)), mF q = p ∧ kE (tb p m) = mK q ∧ nxE G p m (kE (tb p m)) = (mT q, m + mD q) ∧ m + mD q ≤ tl ∧ mT q < aP A ∧ 1 ≤ mD q ∧ ¬ tb (mT q) (m + mD q) = none := by
  have e := tr m (Nat.zero_le _) hm p hp
  unfold btE at e
  by_cases c : p = gl
  · rw [if_pos c] at e
    rw [e] at hk
    exact absurd rfl hk
  rw [if_neg c] at e
  cases z : tb p m with
  | none => rw [z] at hk; exact absurd rfl hk
  | some a =>
    rw [z] at e hk
    rcases fl_some _ _ e.symm with e | ⟨q, hq, f, d, cd⟩
    · cases e
    obtain ⟨k1, k2⟩ := cd_k cd
    have b := (flw_b ab gb ge hw _ q hq).1
    have nx := flw_nx (m := m) ab gb hw hq
    have kk : kE (some a) = mK q := k1
    refine ⟨q, hq, f, kk, ?_, d, b.1, b.2.1, k2⟩
    rw [kk, ← f]
    exact nx.1
end C69
/-! ways: the reference's steps -/
noncomputable def wyL (A : AS) (G : GC) (v1 v2 v3 v4 v5 : Int32) : List Int32 := trc G (TBw A G v1.toNatClampNeg v3.toNatClampNeg v5.toNatClampNeg) (v5.toNatClampNeg + 1) v2.toNatClampNeg v4.toNatClampNeg
noncomputable def tellsteps (A : AS) (G : GC) (v1 v2 v3 v4 v5 : Int32) : Int32 := dc (wyN A G v1 v2 v3 v4 v5 = 0) (nI (wyL A G v1 v2 v3 v4 v5).length) (-1)
noncomputable def tellstep (A : AS) (G : GC) (v1 v2 v3 v4 v5 v6 : Int32) : Int32 := dc (wyN A G v1 v2 v3 v4 v5 = 0) (if 0 ≤ v6 then (wyL A G v1 v2 v3 v4 v5).getD v6.toNatClampNeg (-1) else -1) (-1)
section C70
variable {m le ar sb i j rd w p mm tl r u v gl n lo h0 : Nat} {A : AS} {G : GC} {S S0 T U : HS} {k v1 v2 v3 v4 v5 v6 : Int32} {tb tb' : Nat → Nat → TE} {t b : TE} {q : MVx} {Q : Int32 → HS → Prop}
theorem gd_out {l : List Int32} (h : l.length ≤ i) : l.getD i (-1) = -1 := by
  rw [List.getD_eq_getElem?_getD, List.getElem?_eq_none h]
  rfl
theorem gd_l {l l' : List Int32} (h : i < l.length) : (l ++ l').getD i (-1) = l.getD i (-1) := by
  rw [List.getD_eq_getElem?_getD, List.getD_eq_getElem?_getD, List.getElem?_append_left h]
theorem gd_n {l l' : List Int32} {a : Int32} (h : l.length = i) : (l ++ a :: l').getD i (-1) = a := by
  rw [List.getD_eq_getElem?_getD, List.getElem?_append_right (Nat.le_of_eq h), h, Nat.sub_self]
  rfl
theorem trc_z (h : kE (tb p mm) = -1) : ∀ f, trc G tb f p mm = []
  | 0 => rfl
  | f + 1 => if_pos h
theorem trc_s (h : ¬ kE (tb p mm) = -1) (f : Nat) : trc G tb (f + 1) p mm = kE (tb p mm) :: trc G tb f (nxE G p mm (kE (tb p mm))).1 (nxE G p mm (kE (tb p mm))).2 := if_neg h
end C70
end
section
/-! ways: the class's list of moves, pure -/
def LgM (A : AS) (G : GC) (w h : Nat) (u : MVx) : Prop := ∃ r s v, r < aR A ∧ s < 2 ∧ 1 ≤ v ∧ v ≤ 9 ∧ u = mvL A G w h r s v
noncomputable def LLw (A : AS) (G : GC) (w h gl : Nat) : List MVx := (trL A G w h (2 * aR A) 0).foldl (adL gl) []
noncomputable def PLw (A : AS) (G : GC) (w h gl : Nat) : List MVx := (wtL A G w h (aP A) 0).foldl (adM gl) (LLw A G w h gl)
section C71
variable {tb : Nat → Nat → TE} {tl m p gl w h i : Nat} {b : TE} {u v q : MVx} {l a c : List MVx} {A : AS} {G : GC}
theorem dgT : ∀ r, r < 12 → ∀ u, u < 2 → ∀ v, v < 10 → nI (100 * r + 10 * u + v) / 10 = nI (10 * r + u) := by decide
theorem mK_mvL {r s x : Nat} : mK (mvL A G w h r s x) = nI (100 * r + 10 * s + x) := rfl
theorem mF_mvL {r s x : Nat} : mF (mvL A G w h r s x) = wyB2 G r s := rfl
theorem mT_mvL {r s x : Nat} : mT (mvL A G w h r s x) = wyT2 G r s := rfl
theorem lgm_same (hb : aR A ≤ 12) (hu : LgM A G w h u) (hv : LgM A G w h v) (e : mK u / 10 = mK v / 10) : mF u = mF v ∧ mT u = mT v := by
  obtain ⟨r, s, x, i1, i2, i3, i4, rfl⟩ := hu
  obtain ⟨r', s', x', j1, j2, j3, j4, rfl⟩ := hv
  rw [mK_mvL, mK_mvL] at e
  rw [dgT r (by omega) s i2 x (by omega), dgT r' (by omega) s' j2 x' (by omega)] at e
  have e := nI_injw (by omega) (by omega) e
  have er : r = r' := by omega
  have es : s = s' := by omega
  subst er
  subst es
  exact ⟨mF_mvL.trans mF_mvL.symm, mT_mvL.trans mT_mvL.symm⟩
theorem adM_mem (h : q ∈ adM gl l v) : q ∈ l ∨ q = v := by
  unfold adM at h
  by_cases c : mF v = gl
  · rw [if_pos c] at h
    exact Or.inl h
  · rw [if_neg c] at h
    rcases List.mem_append.mp h with z | z
    · exact Or.inl z
    · exact Or.inr (List.mem_singleton.mp z)
theorem adM_ne (h : ∀ q ∈ l, mF q ≠ gl) : ∀ q ∈ adM gl l v, mF q ≠ gl := by
  intro q hq
  unfold adM at hq
  by_cases c : mF v = gl
  · rw [if_pos c] at hq
    exact h q hq
  · rw [if_neg c] at hq
    rcases List.mem_append.mp hq with z | z
    · exact h q z
    · rw [List.mem_singleton.mp z]; exact c
theorem adM_len : (adM gl l v).length ≤ l.length + 1 := by
  unfold adM
  by_cases c : mF v = gl
  · rw [if_pos c]; omega
  · rw [if_neg c, List.length_append]; exact Nat.le_refl _
theorem adL_cases (Pr : List MVx → Prop) (h1 : Pr (adM gl l v)) (h2 : Pr l) (h3 : Pr (adM gl l.dropLast v)) : Pr (adL gl l v) := by
  unfold adL
  cases l.getLast? with
  | none => exact h1
  | some u =>
    show Pr (if mK u / 10 = mK v / 10 ∧ mD u = mD v then (if mC u ≤ mC v then l else adM gl l.dropLast v) else adM gl l v)
    by_cases c1 : mK u / 10 = mK v / 10 ∧ mD u = mD v
    · rw [if_pos c1]
      by_cases c2 : mC u ≤ mC v
      · rw [if_pos c2]; exact h2
      · rw [if_neg c2]; exact h3
    · rw [if_neg c1]; exact h1
theorem adL_ne (h : ∀ q ∈ l, mF q ≠ gl) : ∀ q ∈ adL gl l v, mF q ≠ gl :=
  adL_cases (fun z => ∀ q ∈ z, mF q ≠ gl) (adM_ne h) h (adM_ne (fun q hq => h q (List.dropLast_subset l hq)))
theorem adL_len : (adL gl l v).length ≤ l.length + 1 :=
  adL_cases (fun z => z.length ≤ l.length + 1) adM_len (Nat.le_succ _) (Nat.le_trans adM_len (by rw [List.length_dropLast]; omega))
theorem fdL_mem : ∀ (L l : List MVx), q ∈ L.foldl (adL gl) l → q ∈ l ∨ q ∈ L
  | [], l, h => Or.inl h
  | v :: L, l, h => (fdL_mem L (adL gl l v) h).elim (fun z => (adL_mem z).elim Or.inl (fun y => Or.inr (y ▸ List.mem_cons_self))) (fun z => Or.inr (List.mem_cons_of_mem _ z))
theorem fdM_mem : ∀ (L l : List MVx), q ∈ L.foldl (adM gl) l → q ∈ l ∨ q ∈ L
  | [], l, h => Or.inl h
  | v :: L, l, h => (fdM_mem L (adM gl l v) h).elim (fun z => (adM_mem z).elim Or.inl (fun y => Or.inr (y ▸ List.mem_cons_self))) (fun z => Or.inr (List.mem_cons_of_mem _ z))
theorem fdL_ne : ∀ (L l : List MVx), (∀ q ∈ l, mF q ≠ gl) → ∀ q ∈ L.foldl (adL gl) l, mF q ≠ gl
  | [], l, h => h
  | v :: L, l, h => fdL_ne L (adL gl l v) (adL_ne h)
theorem fdM_ne : ∀ (L l : List MVx), (∀ q ∈ l, mF q ≠ gl) → ∀ q ∈ L.foldl (adM gl) l, mF q ≠ gl
  | [], l, h => h
  | v :: L, l, h => fdM_ne L (adM gl l v) (adM_ne h)
theorem ll_fold (hb : aR A ≤ 12) (hp : p ≠ gl) : ∀ (L l : List MVx) (b : TE), (∀ u ∈ l, LgM A G w h u) → (∀ u ∈ L, LgM A G w h u) → flE tb tl m p (L.foldl (adL gl) l) b = flE tb tl m p L (flE tb tl m p l b)
  | [], l, b, _, _ => rfl
  | v :: L, l, b, hl, hL => by
    have hv := hL v List.mem_cons_self
    have e := ll_fold hb hp L (adL gl l v) b (fun u hu => (adL_mem hu).elim (hl u) (fun z => z ▸ hv)) (fun u hu => hL u (List.mem_cons_of_mem _ hu))
    show flE tb tl m p (L.foldl (adL gl) (adL gl l v)) b = flE tb tl m p L (stE tb tl m p (flE tb tl m p l b) v)
    rw [e, adL_fold hp (fun u hu => lgm_same hb (hl u hu) hv)]
theorem wl_fold (hp : p ≠ gl) : ∀ (L l : List MVx) (b : TE), flE tb tl m p (L.foldl (adM gl) l) b = flE tb tl m p L (flE tb tl m p l b)
  | [], l, b => rfl
  | v :: L, l, b => by
    show flE tb tl m p (L.foldl (adM gl) (adM gl l v)) b = flE tb tl m p L (stE tb tl m p (flE tb tl m p l b) v)
    rw [wl_fold hp L (adM gl l v) b, adM_fold hp]
theorem tr_lgm (ab : ABd A) (gb : GBd A G) (hw : w < aW A) : ∀ q ∈ trL A G w h (2 * aR A) 0, LgM A G w h q := by
  intro q hq
  have hb2 := ab.2.2.2.2.1
  obtain ⟨s, -, hs, hq⟩ := tr_mem _ _ hq
  obtain ⟨j, a, b, rfl⟩ := vs_mem _ _ hq
  have sf := sp_sf (gb.2.2.2 _ hw) (by omega)
  exact ⟨s / 2, s % 2, j, by omega, by omega, by omega, by omega, rfl⟩
/-- the class's list does what all moves do -/
theorem pl_fold (ab : ABd A) (gb : GBd A G) (hw : w < aW A) (hp : p ≠ gl) : flE tb tl m p (PLw A G w h gl) b = flE tb tl m p (FLw A G w h) b := by
  unfold PLw LLw FLw
  rw [wl_fold hp, ll_fold ab.2.2.2.1 hp _ _ _ (fun u hu => by cases hu) (tr_lgm ab gb hw), fl_app]
  rfl
theorem pl_mem (hq : q ∈ PLw A G w h gl) : q ∈ FLw A G w h := by
  rcases fdM_mem _ _ hq with z | z
  · rcases fdL_mem _ _ z with z | z
    · cases z
    · exact List.mem_append_left _ z
  · exact List.mem_append_right _ z
theorem pl_ne : ∀ q ∈ PLw A G w h gl, mF q ≠ gl := fdM_ne _ _ (fdL_ne _ _ (fun q hq => by cases hq))
theorem fdL_len : ∀ (L l : List MVx), (L.foldl (adL gl) l).length ≤ l.length + L.length
  | [], l => Nat.le_refl _
  | v :: L, l => by
    have := fdL_len L (adL gl l v)
    have h2 := adL_len (gl := gl) (l := l) (v := v)
    show (L.foldl (adL gl) (adL gl l v)).length ≤ l.length + (L.length + 1)
    omega
theorem fdM_len : ∀ (L l : List MVx), (L.foldl (adM gl) l).length ≤ l.length + L.length
  | [], l => Nat.le_refl _
  | v :: L, l => by
    have := fdM_len L (adM gl l v)
    have h2 := adM_len (gl := gl) (l := l) (v := v)
    show (L.foldl (adM gl) (adM gl l v)).length ≤ l.length + (L.length + 1)
    omega
theorem vs_len {r s : Nat} : ∀ (k v : Nat), (vsL A G w h r s k v).length = k
  | 0, _ => rfl
  | k + 1, v => congrArg (· + 1) (vs_len k (v + 1))
theorem tr_len (hs : gF G (nI w) + 1 - gS G (nI w) ≤ 9) : ∀ (k t : Nat), (trL A G w h k t).length ≤ 9 * k
  | 0, _ => Nat.zero_le _
  | k + 1, t => by
    have := tr_len hs k (t + 1)
    show (vsL A G w h (t / 2) (t % 2) (gF G (nI w) + 1 - gS G (nI w)) (gS G (nI w)) ++ trL A G w h k (t + 1)).length ≤ _
    rw [List.length_append, vs_len]
    omega
theorem wt_len : ∀ (k p : Nat), (wtL A G w h k p).length ≤ k
  | 0, _ => Nat.zero_le _
  | k + 1, p => by
    have := wt_len k (p + 1)
    show (dc (cwO A G (nI p)) [mvW A G w h p] [] ++ wtL A G w h k (p + 1)).length ≤ k + 1
    rw [List.length_append]
    by_cases c : cwO A G (nI p)
    · rw [dc_y c]
      show 1 + _ ≤ _
      omega
    · rw [dc_n c]
      show 0 + _ ≤ _
      omega
theorem pl_len (ab : ABd A) (gb : GBd A G) (hw : w < aW A) : (PLw A G w h gl).length ≤ 224 := by
  have b2 := ab.2.2.1
  have b3 := ab.2.2.2.1
  have b4 := ab.2.2.2.2.1
  have sf := sp_sf (gb.2.2.2 _ hw) (by omega)
  have h1 := fdM_len (gl := gl) (wtL A G w h (aP A) 0) (LLw A G w h gl)
  have h2 := fdL_len (gl := gl) (trL A G w h (2 * aR A) 0) []
  have h3 := tr_len (A := A) (G := G) (w := w) (h := h) (by omega) (2 * aR A) 0
  have h4 := wt_len (A := A) (G := G) (w := w) (h := h) (aP A) 0
  have e0 : ([] : List MVx).length = 0 := rfl
  unfold PLw
  unfold LLw at h1 ⊢
  omega
theorem gq_i (h : a[i]? = some q) : i < a.length := (List.getElem?_eq_some_iff.mp h).1
theorem gq_m (h : a[i]? = some q) : q ∈ a := List.mem_of_getElem? h
theorem gq_l (h : a[i]? = some q) : (a ++ c)[i]? = some q := by
  rw [List.getElem?_append_left (gq_i h)]
  exact h
theorem gq_s (h : (a ++ [v])[i]? = some q) : a[i]? = some q ∨ (i = a.length ∧ q = v) := by
  by_cases hi : i < a.length
  · rw [List.getElem?_append_left hi] at h
    exact Or.inl h
  · rw [List.getElem?_append_right (by omega)] at h
    cases hk : i - a.length with
    | zero =>
      rw [hk] at h
      have h : some v = some q := h
      cases h
      exact Or.inr ⟨by omega, rfl⟩
    | succ k =>
      rw [hk] at h
      have h : (none : Option MVx) = some q := h
      cases h
theorem gq_d (h : a.dropLast[i]? = some q) : a[i]? = some q := by
  by_cases e : a = []
  · rw [e] at h
    have h : (none : Option MVx) = some q := h
    cases h
  · rw [← List.dropLast_concat_getLast e]
    exact gq_l h
theorem gq_z (h : a.getLast? = some u) : a[a.length - 1]? = some u ∧ 0 < a.length := by
  by_cases e : a = []
  · rw [e] at h
    cases h
  · have hl : 0 < a.length := by
      cases a with
      | nil => exact absurd rfl e
      | cons b c => exact Nat.succ_pos _
    rw [List.getLast?_eq_getElem?] at h
    exact ⟨h, hl⟩
theorem gq_n (h : a.getLast? = none) : a.length = 0 := by
  rw [List.getLast?_eq_none_iff] at h
  rw [h]
  rfl
end C71
/-! ways: the class's rows -/
abbrev jW : List Nat := [0, 1, 2, 4, 5, 6, 7, 8]
abbrev jI : List Nat := [0, 2, 4, 5, 6, 8]
abbrev jJ : List Nat := [1, 7]
abbrev LWJ : List (Nat × Nat) := [(4, 12), (8, 7), (8, 10), (8, 11), (10, 7), (10, 8), (10, 9), (10, 10), (10, 11), (10, 12), (10, 13), (10, 14), (10, 15), (10, 16), (10, 17), (10, 18), (10, 19), (10, 20), (10, 21), (10, 22), (10, 23), (10, 24), (10, 25), (10, 26), (10, 27), (10, 29), (10, 30), (11, 17), (11, 18)]
abbrev LWL : List (Nat × Nat) := [(1, 0), (1, 1), (2, 2), (4, 11), (10, 28), (11, 16), (11, 21), (11, 22), (11, 23)]
def WYs (wy : Nat) (y : Nat → Nat) (S : HS) : Prop := ob S wy 7 ∧ (∀ j ∈ jW, fR S wy j = some (y j)) ∧ (∀ i ∈ jW, ∀ j ∈ jW, y i = y j → i = j) ∧ (∀ j ∈ jI, ob S (y j) 13 ∧ NW9 LWJ S (y j)) ∧ ∀ j ∈ jJ, ob S (y j) 14 ∧ NW9 LWL S (y j)
def WYn (y : Nat → Nat) (S : HS) : Prop := ∀ e ∈ wyT, hN S (y e.1) = e.2
def MVr (y : Nat → Nat) (l : List MVx) (S : HS) : Prop := ∀ i q, l[i]? = some q → fI S (y 4) i = nI (401 * mF q) ∧ fI S (y 5) i = nI (401 * mT q + mD q) ∧ fI S (y 6) i = nI (mD q) ∧ (fJ S (y 7) i).toInt = 512 * mC q ∧ fI S (y 8) i = mK q
/-- the ways' own ints and rows, and the two rows of a leg, alone have changed -/
def YM (wy : Nat) (y : Nat → Nat) (b0 b1 : Nat) (S T : HS) : Prop := hL T = hL S ∧ hK T = hK S ∧ hN T = hN S ∧ fR T = fR S ∧ (∀ x, x ≠ wy → (∀ j ∈ jI, x ≠ y j) → fI T x = fI S x) ∧ ∀ x, (∀ j ∈ jJ, x ≠ y j) → x ≠ b0 → x ≠ b1 → fJ T x = fJ S x
/-- of these the moves alone -/
def MM (wy : Nat) (y : Nat → Nat) (b0 b1 : Nat) (S T : HS) : Prop := YM wy y b0 b1 S T ∧ (∀ j, j ≠ 3 → fI T wy j = fI S wy j) ∧ fI T (y 0) = fI S (y 0) ∧ fI T (y 2) = fI S (y 2) ∧ fJ T (y 1) = fJ S (y 1)
section C71b
variable {wy b0 b1 l w c x k : Nat} {y : Nat → Nat} {S T U : HS} {A : AS} {G : GC} {ls : List MVx} {q : MVx}
theorem ym_rf : YM wy y b0 b1 S S := ⟨rfl, rfl, rfl, rfl, fun _ _ _ => rfl, fun _ _ _ _ => rfl⟩
theorem ym_tr (h : YM wy y b0 b1 S T) (g : YM wy y b0 b1 T U) : YM wy y b0 b1 S U := ⟨g.1.trans h.1, g.2.1.trans h.2.1, g.2.2.1.trans h.2.2.1, g.2.2.2.1.trans h.2.2.2.1, fun x a b => (g.2.2.2.2.1 x a b).trans (h.2.2.2.2.1 x a b), fun x a b d => (g.2.2.2.2.2 x a b d).trans (h.2.2.2.2.2 x a b d)⟩
theorem mm_rf : MM wy y b0 b1 S S := ⟨ym_rf, fun _ _ => rfl, rfl, rfl, rfl⟩
theorem mm_tr (h : MM wy y b0 b1 S T) (g : MM wy y b0 b1 T U) : MM wy y b0 b1 S U := ⟨ym_tr h.1 g.1, fun j hj => (g.2.1 j hj).trans (h.2.1 j hj), g.2.2.1.trans h.2.2.1, g.2.2.2.1.trans h.2.2.2.1, g.2.2.2.2.trans h.2.2.2.2⟩
theorem ym_ob (h : YM wy y b0 b1 S T) (o : ob S x k) : ob T x k := by
  unfold ob
  rw [h.1, h.2.1]
  exact o
theorem ym_ob' (h : YM wy y b0 b1 S T) (o : ob T x k) : ob S x k := by
  unfold ob at o ⊢
  rw [h.1, h.2.1] at o
  exact o
theorem ym_r (h : YM wy y b0 b1 S T) {j : Nat} {v : Option Nat} (e : fR S x j = v) : fR T x j = v := by rw [h.2.2.2.1]; exact e
theorem nw_ym (h : YM wy y b0 b1 S T) {L : List (Nat × Nat)} {a : Nat} (n : NW9 L S a) : NW9 L T a := fun q hq x o z => by
  rw [h.2.2.2.1] at z
  exact n q hq x (ym_ob' h o) z
theorem wys_ym (ws : WYs wy y S) (h : YM wy y b0 b1 S T) : WYs wy y T := ⟨ym_ob h ws.1, fun j hj => ym_r h (ws.2.1 j hj), ws.2.2.1, fun j hj => ⟨ym_ob h (ws.2.2.2.1 j hj).1, nw_ym h (ws.2.2.2.1 j hj).2⟩, fun j hj => ⟨ym_ob h (ws.2.2.2.2 j hj).1, nw_ym h (ws.2.2.2.2 j hj).2⟩⟩
theorem wyn_ym (wn : WYn y S) (h : YM wy y b0 b1 S T) : WYn y T := fun e he => by rw [h.2.2.1]; exact wn e he
theorem jI_W : ∀ j ∈ jI, j ∈ jW := by decide
theorem jJ_W : ∀ j ∈ jJ, j ∈ jW := by decide
/-- what is no row of ints keeps its ints -/
theorem ym_i (ws : WYs wy y S) (h : YM wy y b0 b1 S T) (o : ob S x k) (h7 : k ≠ 7) (h13 : k ≠ 13) : fI T x = fI S x := h.2.2.2.2.1 x (ob_ne o ws.1 h7) (fun j hj => ob_ne o (ws.2.2.2.1 j hj).1 h13)
theorem wt_ym (ws : WYs wy y S) (h : YM wy y b0 b1 S T) (h8 : WT w A G S) : WT w A G T := by
  obtain ⟨h1, h2, h3, h4, h5, h6⟩ := h8
  have ri : ∀ x, fR T x = fR S x := fun x => by rw [h.2.2.2.1]
  refine ⟨ym_ob h h1, ?_, fun a e => ?_, fun a e => ?_, fun a e => ?_, fun a e => ?_⟩
  · unfold Cnt
    rw [ym_i ws h h1 (by decide) (by decide)]
    exact h2
  · rw [ri] at e
    obtain ⟨o, n, q⟩ := h3 a e
    refine ⟨ym_ob h o, by rw [h.2.2.1]; exact n, fun i p hi hp => ?_⟩
    rw [ri] at hp
    obtain ⟨o2, q2⟩ := q i p hi hp
    exact ⟨ym_ob h o2, fun j hj => by rw [ym_i ws h o2 (by decide) (by decide)]; exact q2 j hj⟩
  · rw [ri] at e
    obtain ⟨o, n, q⟩ := h4 a e
    refine ⟨ym_ob h o, by rw [h.2.2.1]; exact n, fun i p hi hp => ?_⟩
    rw [ri] at hp
    obtain ⟨o2, q2⟩ := q i p hi hp
    exact ⟨ym_ob h o2, fun j hj => by rw [ym_i ws h o2 (by decide) (by decide)]; exact q2 j hj⟩
  · rw [ri] at e
    obtain ⟨o, n, q⟩ := h5 a e
    refine ⟨ym_ob h o, by rw [h.2.2.1]; exact n, fun i p hi hp => ?_⟩
    rw [ri] at hp
    obtain ⟨o2, q2⟩ := q i p hi hp
    exact ⟨ym_ob h o2, fun j hj => by rw [ym_i ws h o2 (by decide) (by decide)]; exact q2 j hj⟩
  · rw [ri] at e
    obtain ⟨o, n, q⟩ := h6 a e
    have na : ∀ j ∈ jI, a ≠ y j := fun j hj z => (ws.2.2.2.1 j hj).2 (8, 7) (by decide) w h1 (by rw [← z]; exact e)
    refine ⟨ym_ob h o, by rw [h.2.2.1]; exact n, fun i hi => ?_⟩
    rw [h.2.2.2.2.1 a (ob_ne o ws.1 (by decide)) na]
    exact q i hi
theorem mvr_mm (h : MVr y ls S) (e4 : fI T (y 4) = fI S (y 4)) (e5 : fI T (y 5) = fI S (y 5)) (e6 : fI T (y 6) = fI S (y 6)) (e8 : fI T (y 8) = fI S (y 8)) (e7 : fJ T (y 7) = fJ S (y 7)) : MVr y ls T := fun i q hq => by
  rw [e4, e5, e6, e8, e7]
  exact h i q hq
theorem mvr_drop (h : MVr y ls S) : MVr y ls.dropLast S := fun i q hq => h i q (gq_d hq)
theorem ws_ne (ws : WYs wy y S) {i j : Nat} (hi : i ∈ jW) (hj : j ∈ jW) (h : i ≠ j) : y i ≠ y j := fun z => h (ws.2.2.1 i hi j hj z)
theorem ws_wy (ws : WYs wy y S) {j : Nat} (hj : j ∈ jI) : y j ≠ wy := ob_ne (ws.2.2.2.1 j hj).1 ws.1 (by decide)
end C71b
/-! ways: the class adds a move, a leg -/
section C72
variable {wy b0 b1 l w c x k a1 gl n : Nat} {y : Nat → Nat} {S T U : HS} {A : AS} {G : GC} {ls : List MVx} {q u : MVx} {v1 v2 v3 v6 v7 : Int32} {v4 : Int64} {Q0 : HS → Prop}
theorem lgc_gt {x y : Int64} : 0 < lg_cmp x y ↔ y.toInt < x.toInt := by
  unfold lg_cmp
  by_cases c : x > y
  · rw [if_pos c]
    have := Int64.lt_iff_toInt_lt.mp c
    exact ⟨fun _ => by omega, fun _ => by decide⟩
  · rw [if_neg c]
    have n := Int64.le_iff_toInt_le.mp (Int64.not_lt.mp c)
    by_cases d : x = y
    · rw [if_pos d]
      exact ⟨fun z => absurd z (by decide), fun z => by omega⟩
    · rw [if_neg d]
      exact ⟨fun z => absurd z (by decide), fun z => by omega⟩
theorem sub_one (k : Nat) : nI (k + 1) - 1 = nI k := by
  have w : nI (k + 1) = nI k + (1 : Int32) := (nI_add k 1).symm
  rw [w, Int32.add_sub_cancel]
theorem yw_addMove (ws : WYs wy y S) (mv : MVr y ls S) (hc : fI S wy 3 = nI ls.length) (hl : ls.length < 224) (hg : fI S wy 11 = nI gl) (hgl : gl < 100000) (bf : mF q < 100000) (e1 : v1 = nI (mF q)) (e2 : v2 = nI (mT q)) (e3 : v3 = nI (mD q)) (e4 : v4.toInt = mC q) (bc : 0 ≤ mC q ∧ mC q ≤ 1873821600000) (e6 : v6 = mK q) (h : P_X7_addMove wy v1 v2 v3 v4 v6 Q0 S) : P_X7_addMove wy v1 v2 v3 v4 v6 (fun T => Q0 T ∧ MM wy y b0 b1 S T ∧ MVr y (adM gl ls q) T ∧ fI T wy 3 = nI (adM gl ls q).length) S := by
  have W := fun j (hj : j ∈ jI) => ws_wy ws hj
  have D := fun i j (hi : i ∈ jW) (hj : j ∈ jW) (h : i ≠ j) => ws_ne ws hi hj h
  have e0 : (0 : Int32).toInt = 0 := by decide
  have e224 : (224 : Int32).toInt = 224 := by decide
  delta P_X7_addMove P_X7_addMove_0
  obtain ⟨o1, h⟩ := h
  refine ⟨o1, fun x1 q1 => ?_⟩
  have h := h x1 q1
  refine ⟨fun cc => ?_, fun cc => ?_⟩
  · have eg : mF q = gl := nI_injw bf hgl (e1.symm.trans (cc.trans (q1.trans hg)))
    have ea : adM gl ls q = ls := if_pos eg
    rw [ea]
    exact ⟨h.1 cc, mm_rf, mv, hc⟩
  have ng : ¬ mF q = gl := fun z => cc (by rw [e1, z, q1, hg])
  have ea : adM gl ls q = ls ++ [q] := if_neg ng
  rw [ea]
  intro x3 q3
  have h := h.2 cc x3 q3
  have n3 : x3.toInt = (ls.length : Int) := by rw [q3, hc, nI_i (by omega)]
  refine ⟨fun d => by have := lt_i d; omega, fun d => ?_⟩
  intro x5 q5
  have h := h.2 d x5 q5
  have n5 : x5.toInt = (ls.length : Int) := by rw [q5, hc, nI_i (by omega)]
  refine ⟨fun f => ?_, fun f => by have := nlt_i f; omega⟩
  obtain ⟨a7, e7, h⟩ := h.1 f
  cases (ws.2.1 4 (by decide)).symm.trans e7
  refine ⟨_, e7, fun x8 q8 => ?_⟩
  obtain ⟨o8, h⟩ := h x8 q8
  have k8 : x8.toNatClampNeg = ls.length := by rw [q8, hc]; exact nI_cl (by omega)
  refine ⟨o8, fun x10 q10 => ?_⟩
  obtain ⟨i10, h⟩ := h x10 q10
  refine ⟨i10, fun S11 q11 => ?_⟩
  obtain ⟨a12, e12, h⟩ := h S11 q11
  rw [k8] at q11
  have f11 : fR S11 = fR S := by rw [q11]; rfl
  have z11 : ∀ x, x ≠ y 4 → fI S11 x = fI S x := fun x hx => row_o q11 hx
  cases (ws.2.1 5 (by decide)).symm.trans (by rw [← f11]; exact e12 : fR S wy 5 = some a12)
  refine ⟨_, e12, fun x13 q13 => ?_⟩
  obtain ⟨o13, h⟩ := h x13 q13
  have k13 : x13.toNatClampNeg = ls.length := by
    rw [q13, z11 wy (Ne.symm (W 4 (by decide))), hc]
    exact nI_cl (by omega)
  refine ⟨o13, fun x15 q15 => ?_⟩
  obtain ⟨i15, h⟩ := h x15 q15
  refine ⟨i15, fun S16 q16 => ?_⟩
  obtain ⟨a17, e17, h⟩ := h S16 q16
  rw [k13] at q16
  have f16 : fR S16 = fR S := by rw [q16]; exact f11
  have z16 : ∀ x, x ≠ y 5 → fI S16 x = fI S11 x := fun x hx => row_o q16 hx
  cases (ws.2.1 6 (by decide)).symm.trans (by rw [← f16]; exact e17 : fR S wy 6 = some a17)
  refine ⟨_, e17, fun x18 q18 => ?_⟩
  obtain ⟨o18, i18, h⟩ := h x18 q18
  have k18 : x18.toNatClampNeg = ls.length := by
    rw [q18, z16 wy (Ne.symm (W 5 (by decide))), z11 wy (Ne.symm (W 4 (by decide))), hc]
    exact nI_cl (by omega)
  refine ⟨o18, i18, fun S20 q20 => ?_⟩
  obtain ⟨a21, e21, h⟩ := h S20 q20
  rw [k18] at q20
  have f20 : fR S20 = fR S := by rw [q20]; exact f16
  have z20 : ∀ x, x ≠ y 6 → fI S20 x = fI S16 x := fun x hx => row_o q20 hx
  cases (ws.2.1 7 (by decide)).symm.trans (by rw [← f20]; exact e21 : fR S wy 7 = some a21)
  refine ⟨_, e21, fun x22 q22 => ?_⟩
  obtain ⟨o22, h⟩ := h x22 q22
  have k22 : x22.toNatClampNeg = ls.length := by
    rw [q22, z20 wy (Ne.symm (W 6 (by decide))), z16 wy (Ne.symm (W 5 (by decide))), z11 wy (Ne.symm (W 4 (by decide))), hc]
    exact nI_cl (by omega)
  refine ⟨o22, fun x24 q24 => ?_⟩
  obtain ⟨i24, h⟩ := h x24 q24
  refine ⟨i24, fun S25 q25 => ?_⟩
  obtain ⟨a26, e26, h⟩ := h S25 q25
  rw [k22] at q25
  have f25 : fR S25 = fR S := by rw [q25]; exact f20
  have z25 : fI S25 = fI S20 := by rw [q25]; rfl
  cases (ws.2.1 8 (by decide)).symm.trans (by rw [← f25]; exact e26 : fR S wy 8 = some a26)
  refine ⟨_, e26, fun x27 q27 => ?_⟩
  obtain ⟨o27, i27, h⟩ := h x27 q27
  have w25 : fI S25 wy = fI S wy := by rw [z25, z20 wy (Ne.symm (W 6 (by decide))), z16 wy (Ne.symm (W 5 (by decide))), z11 wy (Ne.symm (W 4 (by decide)))]
  have k27 : x27.toNatClampNeg = ls.length := by
    rw [q27, w25, hc]
    exact nI_cl (by omega)
  refine ⟨o27, i27, fun S29 q29 x30 q30 x31 q31 S32 q32 => ?_⟩
  have h := h S29 q29 x30 q30 x31 q31 S32 q32
  rw [k27] at q29
  have z29 : ∀ x, x ≠ y 8 → fI S29 x = fI S25 x := fun x hx => row_o q29 hx
  have w29 : fI S29 wy = fI S wy := (z29 wy (Ne.symm (W 8 (by decide)))).trans w25
  have z32 : ∀ x, x ≠ wy → fI S32 x = fI S29 x := fun x hx => row_o q32 hx
  have r32 : fI S32 wy = va_up (fI S wy) 3 x31 := by rw [row_I q32, w29]
  have jj : fJ S32 = u2 (fJ S) (y 7) ls.length x24 := by rw [q32, q29, q25, q20, q16, q11]; rfl
  have all : ∀ x, x ≠ wy → x ≠ y 4 → x ≠ y 5 → x ≠ y 6 → x ≠ y 8 → fI S32 x = fI S x := fun x h0 h4 h5 h6 h8 => (z32 x h0).trans ((z29 x h8).trans ((congrFun z25 x).trans ((z20 x h6).trans ((z16 x h5).trans (z11 x h4)))))
  have r4 : fI S32 (y 4) = va_up (fI S (y 4)) ls.length x10 := by
    rw [z32 _ (W 4 (by decide)), z29 _ (D 4 8 (by decide) (by decide) (by decide)), z25, z20 _ (D 4 6 (by decide) (by decide) (by decide)), z16 _ (D 4 5 (by decide) (by decide) (by decide))]
    exact row_I q11
  have r5 : fI S32 (y 5) = va_up (fI S (y 5)) ls.length x15 := by
    rw [z32 _ (W 5 (by decide)), z29 _ (D 5 8 (by decide) (by decide) (by decide)), z25, z20 _ (D 5 6 (by decide) (by decide) (by decide)), row_I q16, z11 _ (D 5 4 (by decide) (by decide) (by decide))]
  have r6 : fI S32 (y 6) = va_up (fI S (y 6)) ls.length v3 := by
    rw [z32 _ (W 6 (by decide)), z29 _ (D 6 8 (by decide) (by decide) (by decide)), z25, row_I q20, z16 _ (D 6 5 (by decide) (by decide) (by decide)), z11 _ (D 6 4 (by decide) (by decide) (by decide))]
  have r8 : fI S32 (y 8) = va_up (fI S (y 8)) ls.length v6 := by
    rw [z32 _ (W 8 (by decide)), row_I q29, z25, z20 _ (D 8 6 (by decide) (by decide) (by decide)), z16 _ (D 8 5 (by decide) (by decide) (by decide)), z11 _ (D 8 4 (by decide) (by decide) (by decide))]
  have r7 : fJ S32 (y 7) = va_up (fJ S (y 7)) ls.length x24 := by rw [jj]; exact u2_self_row _ _ _ _
  have b24 := bJ_mul (x := v4) (y := 512) ⟨e4, bc⟩ (⟨by decide, by decide, by decide⟩ : bJ 512 512 512) (by decide)
  refine ⟨h, ⟨⟨by rw [q32, q29, q25, q20, q16, q11]; rfl, by rw [q32, q29, q25, q20, q16, q11]; rfl, by rw [q32, q29, q25, q20, q16, q11]; rfl, by rw [q32, q29]; exact f25, fun x a b => all x a (b 4 (by decide)) (b 5 (by decide)) (b 6 (by decide)) (b 8 (by decide)), fun x a b d => by rw [jj]; exact u2_row _ _ (a 7 (by decide))⟩, fun j hj => by rw [r32]; exact va_up_ne _ _ hj, all _ (W 0 (by decide)) (D 0 4 (by decide) (by decide) (by decide)) (D 0 5 (by decide) (by decide) (by decide)) (D 0 6 (by decide) (by decide) (by decide)) (D 0 8 (by decide) (by decide) (by decide)), all _ (W 2 (by decide)) (D 2 4 (by decide) (by decide) (by decide)) (D 2 5 (by decide) (by decide) (by decide)) (D 2 6 (by decide) (by decide) (by decide)) (D 2 8 (by decide) (by decide) (by decide)), by rw [jj]; exact u2_row _ _ (D 1 7 (by decide) (by decide) (by decide))⟩, fun i p hp => ?_, ?_⟩
  · rw [r4, r5, r6, r7, r8]
    rcases gq_s hp with hp | ⟨hi, hpq⟩
    · have hi : i ≠ ls.length := Nat.ne_of_lt (gq_i hp)
      rw [va_up_ne _ _ hi, va_up_ne _ _ hi, va_up_ne _ _ hi, va_up_ne _ _ hi, va_up_ne _ _ hi]
      exact mv i p hp
    · rw [hi, hpq, va_up_self, va_up_self, va_up_self, va_up_self, va_up_self]
      refine ⟨?_, ?_, e3, ?_, e6⟩
      · rw [q10, e1, Nat.mul_comm]
        exact nJ_mul (mF q) 401
      · rw [q15, e2, e3, Nat.mul_comm 401 (mT q)]
        show nI (mT q) * nI 401 + nI (mD q) = _
        rw [nJ_mul, nI_add]
      · rw [q24, b24.1, Int.mul_comm]
  · rw [r32, va_up_self, q31, q30, w29, hc, List.length_append]
    exact nI_add ls.length 1
/-- a leg's move, its end and minutes known -/
theorem yw_addLeg82 (ws : WYs wy y S) (mv : MVr y ls S) (hc : fI S wy 3 = nI ls.length) (hl : ls.length < 224) (hg : fI S wy 11 = nI gl) (hgl : gl < 100000) (bf : mF q < 100000) (e1 : (if v2 = 0 then fI S a1 0 else fI S a1 1) = nI (mF q)) (e2 : (if v2 = 0 then fI S a1 1 else fI S a1 0) = nI (mT q)) (e3 : v7 = nI (mD q)) (e4 : v4.toInt = mC q) (bc : 0 ≤ mC q ∧ mC q ≤ 1873821600000) (e6 : v6 = mK q) (h : P_X7_addLeg_82 Q0 wy a1 v2 v4 v6 v7 S) : P_X7_addLeg_82 (fun T => Q0 T ∧ MM wy y b0 b1 S T ∧ MVr y (adM gl ls q) T ∧ fI T wy 3 = nI (adM gl ls q).length) wy a1 v2 v4 v6 v7 S := by
  delta P_X7_addLeg_82
  obtain ⟨o1, h⟩ := h
  refine ⟨o1, ?_⟩
  refine cm_X5_startOf (sw_X5_startOf h) h (fun x3 S1 hp h g => ?_)
  have h := h g
  obtain ⟨-, hS, q3⟩ := hp
  subst hS
  refine cm_X5_endOf (sw_X5_endOf h) h (fun x6 S4 hp h g => ?_)
  obtain ⟨o4, h⟩ := h g
  obtain ⟨-, hS, q6⟩ := hp
  subst hS
  refine ⟨o4, ?_⟩
  exact cm_X7_addMove (yw_addMove (b0 := b0) (b1 := b1) (q := q) ws mv hc hl hg hgl bf (q3.trans e1) (q6.trans e2) e3 e4 bc e6 h) h (fun S7 hp h g => ⟨h g, hp.2⟩)
theorem yw_addLeg (ws : WYs wy y S) (mv : MVr y ls S) (hc : fI S wy 3 = nI ls.length) (hl : ls.length < 224) (hg : fI S wy 11 = nI gl) (hgl : gl < 100000) (bf : mF q < 100000) (bd : mD q < 100000) (bl : ∀ u ∈ ls, mD u < 100000) (e1 : (if v2 = 0 then fI S a1 0 else fI S a1 1) = nI (mF q)) (e2 : (if v2 = 0 then fI S a1 1 else fI S a1 0) = nI (mT q)) (e30 : 1 ≤ v3.toInt) (e3 : (fI S a1 3 + v3 - 1) / v3 = nI (mD q)) (e4 : v4.toInt = mC q) (bc : 0 ≤ mC q ∧ mC q ≤ 1873821600000) (e6 : v6 = mK q) (h : P_X7_addLeg wy a1 v2 v3 v4 v6 Q0 S) : P_X7_addLeg wy a1 v2 v3 v4 v6 (fun T => Q0 T ∧ MM wy y b0 b1 S T ∧ MVr y (adL gl ls q) T ∧ fI T wy 3 = nI (adL gl ls q).length) S := by
  have e0 : (0 : Int32).toInt = 0 := by decide
  have e224 : (224 : Int32).toInt = 224 := by decide
  have b512 := bJ_mul (x := v4) (y := 512) ⟨e4, bc⟩ (⟨by decide, by decide, by decide⟩ : bJ 512 512 512) (by decide)
  delta P_X7_addLeg P_X7_addLeg_0
  obtain ⟨o1, h⟩ := h
  refine ⟨o1, ?_⟩
  refine cm_X5_minutesAt (sp_X5_minutesAt e30 h) h (fun x3 S1 hp h g => ?_)
  obtain ⟨o2, h⟩ := h g
  obtain ⟨-, hS, q3⟩ := hp
  subst hS
  have w3 := q3.trans e3
  clear q3
  refine ⟨o2, fun x4 q4 x5 q5 => ?_⟩
  have h := h x4 q4 x5 q5
  have q4 := q4.trans hc
  have fin82 : ∀ {U l'}, U = S → adM gl l' q = adL gl ls q → l' = ls → P_X7_addLeg_82 Q0 wy a1 v2 v4 v6 x3 U → P_X7_addLeg_82 (fun T => Q0 T ∧ MM wy y b0 b1 S T ∧ MVr y (adL gl ls q) T ∧ fI T wy 3 = nI (adL gl ls q).length) wy a1 v2 v4 v6 x3 U := by
    rintro U l' rfl ea rfl h
    rw [← ea]
    exact yw_addLeg82 ws mv hc hl hg hgl bf e1 e2 w3 e4 bc e6 h
  cases hz : ls.getLast? with
  | none =>
    have hn := gq_n hz
    have ea : adM gl ls q = adL gl ls q := by unfold adL; simp only [hz]
    have m1 : x5.toInt = -1 := by
      rw [q5, q4, hn]
      decide
    exact ⟨fun d => fin82 rfl ea rfl (h.1 d), fun d => by have := nlt_i d; omega⟩
  | some u =>
    obtain ⟨hu, hpos⟩ := gq_z hz
    obtain ⟨k, hk⟩ : ∃ k, ls.length = k + 1 := ⟨ls.length - 1, by omega⟩
    have q5 : x5 = nI k := by
      rw [q5, q4, hk]
      exact sub_one k
    have c5 : x5.toNatClampNeg = k := by rw [q5]; exact nI_cl (by omega)
    have n5 : x5.toInt = (k : Int) := by rw [q5]; exact nI_i (by omega)
    have hu : ls[k]? = some u := by
      have e : ls.length - 1 = k := by omega
      rw [e] at hu
      exact hu
    have bu := bl u (gq_m hu)
    obtain ⟨-, -, m6, m7, m8⟩ := mv k u hu
    have al : adL gl ls q = if mK u / 10 = mK q / 10 ∧ mD u = mD q then (if mC u ≤ mC q then ls else adM gl ls.dropLast q) else adM gl ls q := by
      unfold adL
      simp only [hz]
    refine ⟨fun d => by have := lt_i d; omega, fun d => ?_⟩
    have h := h.2 d
    refine ⟨fun d2 => by have := le_i d2; omega, fun d2 => ?_⟩
    obtain ⟨a8, e8, o8, i8, h⟩ := h.2 d2
    cases (ws.2.1 8 (by decide)).symm.trans e8
    refine ⟨_, e8, o8, i8, fun x10 q10 x11 q11 x12 q12 => ?_⟩
    have h := h x10 q10 x11 q11 x12 q12
    rw [c5, m8] at q10
    refine ⟨fun d3 => fin82 rfl ?_ rfl (h.1 d3), fun d3 => ?_⟩
    · rw [al, if_neg (fun z => d3 (by rw [q11, q12, q10, e6]; exact z.1))]
    obtain ⟨a14, e14, o14, i14, h⟩ := h.2 d3
    cases (ws.2.1 6 (by decide)).symm.trans e14
    refine ⟨_, e14, o14, i14, fun x16 q16 => ?_⟩
    have h := h x16 q16
    rw [c5, m6] at q16
    refine ⟨fun d4 => fin82 rfl ?_ rfl (h.1 d4), fun d4 => ?_⟩
    · rw [al, if_neg (fun z => d4 (by rw [q16, w3, z.2]))]
    have k1 : mK u / 10 = mK q / 10 := by rw [← e6, ← q12, ← d3, q11, q10]
    have k2 : mD u = mD q := nI_injw bu bd (by rw [← q16, ← w3]; exact d4)
    rw [if_pos ⟨k1, k2⟩] at al
    obtain ⟨a18, e18, o18, i18, h⟩ := h.2 d4
    cases (ws.2.1 7 (by decide)).symm.trans e18
    refine ⟨_, e18, o18, i18, fun x20 q20 => ?_⟩
    have h := h x20 q20
    rw [c5] at q20
    have v20 : x20.toInt = 512 * mC u := by rw [q20]; exact m7
    have v51 : (v4 * 512).toInt = mC q * 512 := b512.1
    refine ⟨fun d5 S22 q22 => ?_, fun d5 => ?_⟩
    · have h := h.1 d5 S22 q22
      have d5 := lgc_gt.mp d5
      have nle : ¬ mC u ≤ mC q := by omega
      rw [if_neg nle] at al
      have z22 : ∀ x, x ≠ wy → fI S22 x = fI S x := fun x hx => row_o q22 hx
      have r22 : fI S22 wy = va_up (fI S wy) 3 x5 := row_I q22
      have m22 : MM wy y b0 b1 S S22 := ⟨⟨by rw [q22]; rfl, by rw [q22]; rfl, by rw [q22]; rfl, by rw [q22]; rfl, fun x a b => z22 x a, fun x a b d => by rw [q22]; rfl⟩, fun j hj => by rw [r22]; exact va_up_ne _ _ hj, z22 _ (ws_wy ws (by decide)), z22 _ (ws_wy ws (by decide)), by rw [q22]; rfl⟩
      have ws22 := wys_ym ws m22.1
      have hd : ls.dropLast.length = k := by rw [List.length_dropLast, hk]; rfl
      have mv22 : MVr y ls.dropLast S22 := mvr_mm (mvr_drop mv) (z22 _ (ws_wy ws (by decide))) (z22 _ (ws_wy ws (by decide))) (z22 _ (ws_wy ws (by decide))) (z22 _ (ws_wy ws (by decide))) (by rw [q22]; rfl)
      have o5 : a1 ≠ wy := ob_ne o1 ws.1 (by decide)
      rw [al]
      refine cm_X7_addLeg_82 (yw_addLeg82 (b0 := b0) (b1 := b1) (q := q) ws22 mv22 (by rw [r22, va_up_self, hd]; exact q5) (by omega) ((m22.2.1 11 (by decide)).trans hg) hgl bf (by rw [z22 a1 o5]; exact e1) (by rw [z22 a1 o5]; exact e2) w3 e4 bc e6 h) h (fun T hp hq => ⟨hq, mm_tr m22 hp.2.1, hp.2.2⟩)
    · have d5 : ¬ (mC q * 512 < 512 * mC u) := fun z => d5 (lgc_gt.mpr (by rw [v20, v51]; exact z))
      rw [if_pos (by omega)] at al
      rw [al]
      exact ⟨h.2 (fun z => d5 (by have := lgc_gt.mp z; rw [v20, v51] at this; exact this)), mm_rf, mv, hc⟩
end C72
/-! ways: the class prices the moves of an hour -/
def PCx (wy : Nat) (y : Nat → Nat) (b0 b1 w1 lg gl : Nat) (A : AS) (G : GC) (S : HS) : Prop := WYs wy y S ∧ WT w1 A G S ∧ ob S lg 1 ∧ fR S lg 0 = some b0 ∧ fR S lg 1 = some b1 ∧ fI S wy 11 = nI gl
def PVx (wy : Nat) (y : Nat → Nat) (ls : List MVx) (S : HS) : Prop := MVr y ls S ∧ fI S wy 3 = nI ls.length ∧ ∀ u ∈ ls, mD u ≤ 68
def RDx (a : Nat) (g : Nat → Int32) (S : HS) : Prop := ob S a 5 ∧ ∀ j, j < 5 → fI S a j = g j
def WKx (a : Nat) (g : Nat → Int32) (S : HS) : Prop := ob S a 6 ∧ ∀ j, j < 7 → fI S a j = g j
section C73
variable {wy b0 b1 lg w1 w c x k a6 ak gl n hh t r s v j p : Nat} {y : Nat → Nat} {S S0 T U : HS} {A : AS} {G : GC} {ls : List MVx} {q u : MVx} {v3 v5 : Int32} {s0 : Int64} {Q Q' : HS → Prop} {X51 X51' : Nat → Nat → Nat → Int32 → Nat → Int32 → Int32 → HS → Prop} {X86 X86' : Nat → Nat → Nat → Int32 → Nat → Int32 → Int32 → Nat → Int32 → Int32 → HS → Prop} {X179 X179' : Nat → Nat → Int32 → Nat → Int32 → Int32 → HS → Prop}
theorem pc_mm (h : PCx wy y b0 b1 w1 lg gl A G S) (m : MM wy y b0 b1 S T) : PCx wy y b0 b1 w1 lg gl A G T := ⟨wys_ym h.1 m.1, wt_ym h.1 m.1 h.2.1, ym_ob m.1 h.2.2.1, ym_r m.1 h.2.2.2.1, ym_r m.1 h.2.2.2.2.1, (m.2.1 11 (by decide)).trans h.2.2.2.2.2⟩
theorem rd_mm {g : Nat → Int32} (h : PCx wy y b0 b1 w1 lg gl A G S) (m : MM wy y b0 b1 S T) (d : RDx x g S) : RDx x g T := ⟨ym_ob m.1 d.1, fun j hj => by rw [ym_i h.1 m.1 d.1 (by decide) (by decide)]; exact d.2 j hj⟩
theorem wk_mm {g : Nat → Int32} (h : PCx wy y b0 b1 w1 lg gl A G S) (m : MM wy y b0 b1 S T) (d : WKx x g S) : WKx x g T := ⟨ym_ob m.1 d.1, fun j hj => by rw [ym_i h.1 m.1 d.1 (by decide) (by decide)]; exact d.2 j hj⟩
theorem gm_n (gb : GBd A G) (ir : r < aR A) (hr : r < 100000) (h1 : 1 ≤ v) (h9 : v ≤ 9) : goM G (nI r) (nI v) = nI (mD (mvL A G w hh r s v)) := by
  have cr : (nI r).toNatClampNeg = r := nI_cl hr
  have bd := gb.2.2.1 _ ir
  have ev : (nI v).toInt = (v : Int) := nI_i (by omega)
  have gm := goM_b (l := gRd G r 3) (v := nI v) bd.2.2.2.1.1 bd.2.2.2.1.2 (by omega) (by omega)
  have gm' : 1 ≤ (goM G (nI r) (nI v)).toInt ∧ (goM G (nI r) (nI v)).toInt ≤ 68 := by
    unfold goM
    rw [cr]
    exact gm
  exact nI_ofw (by omega) (by omega)
/-- one leg's move -/
theorem yw134 (ab : ABd A) (gb : GBd A G) (ge : GBe A G) (iw : w < aW A) (ir : r < aR A) (is2 : s < 2) (h1 : 1 ≤ v) (h9 : v ≤ 9) (hgl : gl < 100000) (pc : PCx wy y b0 b1 w1 lg gl A G S) (pv : PVx wy y ls S) (hl : ls.length < 224) (rd : RDx a6 (gRd G r) S) (hs : s0.toInt = mC (mvL A G w hh r s v))
    (hE : ∀ T, MM wy y b0 b1 S T → PVx wy y (adL gl ls (mvL A G w hh r s v)) T → X86 wy w1 lg v3 ak v5 (nI (2 * r + s)) a6 (nI s) (nI (v + 1)) T → X86' wy w1 lg v3 ak v5 (nI (2 * r + s)) a6 (nI s) (nI (v + 1)) T)
    (h : P_X7_price_134 Q X51 X86 wy w1 lg v3 ak v5 (nI (2 * r + s)) a6 (nI s) (nI v) s0 S) : P_X7_price_134 Q' X51' X86' wy w1 lg v3 ak v5 (nI (2 * r + s)) a6 (nI s) (nI v) s0 S := by
  have b3 := ab.2.2.2.1
  have b4 := ab.2.2.2.2.1
  have mb := mvL_b (h := hh) (u := s) (v := v) gb ge iw ir (by omega) h1 h9
  have cr : (nI r).toNatClampNeg = r := nI_cl (by omega)
  have b2 := ab.2.2.1
  delta P_X7_price_134
  intro x1 q1
  obtain ⟨o1, h⟩ := h x1 q1
  have q1 : x1 = nI r := by
    have e2 : (2 * r + s) / 2 = r := by omega
    rw [q1]
    show nI (2 * r + s) / nI 2 = _
    rw [nJ_div (by omega) (by omega), e2]
  subst q1
  refine ⟨o1, ?_⟩
  have gn := go_n (u := s) gb ir (by omega) (by omega)
  unfold goB goT at gn
  rw [cr] at gn
  have nv : (nI v).toInt = (v : Int) := nI_i (by omega)
  refine cm_X7_addLeg (yw_addLeg (b0 := b0) (b1 := b1) (q := mvL A G w hh r s v) pc.1 pv.1 pv.2.1 hl pc.2.2.2.2.2 hgl (by omega) (by omega) (fun u hu => by have := pv.2.2 u hu; omega) ?_ ?_ (by omega) ?_ hs mb.1.2.2 ?_ h) h (fun S2 hp h g => ?_)
  · rw [rd.2 0 (by decide), rd.2 1 (by decide)]
    exact gn.1
  · rw [rd.2 0 (by decide), rd.2 1 (by decide)]
    exact gn.2
  · rw [rd.2 3 (by decide)]
    have e := gm_n (w := w) (hh := hh) (s := s) gb ir (by omega) h1 h9
    unfold goM at e
    rw [cr] at e
    exact e
  · show (nI 100 * nI r + nI 10 * nI s) + nI v = nI (100 * r + 10 * s + v)
    rw [nJ_mul, nJ_mul, nI_add, nI_add]
  have h := h g
  obtain ⟨-, m, mv, mc⟩ := hp
  intro x5 q5
  have h := h x5 q5
  have q5 : x5 = nI (v + 1) := by rw [q5]; exact nI_add v 1
  subst q5
  exact hE S2 m ⟨mv, mc, fun u hu => (adL_mem hu).elim (pv.2.2 u) (fun z => by rw [z]; exact mb.2.1)⟩ h
/-- the speeds of a leg -/
theorem yw86 (ab : ABd A) (gb : GBd A G) (ge : GBe A G) (iw : w < aW A) (ir : r < aR A) (is2 : s < 2) (hgl : gl < 100000) (hhh : hh ≤ 6) (ne : b1 ≠ b0) (hd : v5 = if hh < aHs A then 0 else 1) (pc : PCx wy y b0 b1 w1 lg gl A G S) (pv : PVx wy y ls S) (hl : ls.length ≤ 9 * (2 * r + s)) (rd : RDx a6 (gRd G r) S) (wk : WKx ak (gWk G w) S)
    (hE : ∀ T l', MM wy y b0 b1 S T → PVx wy y l' T → l' = (vsL A G w hh r s (gF G (nI w) + 1 - gS G (nI w)) (gS G (nI w))).foldl (adL gl) ls → l'.length ≤ 9 * (2 * r + s + 1) → X51 wy w1 lg (nI hh) ak v5 (nI (2 * r + s + 1)) T → X51' wy w1 lg (nI hh) ak v5 (nI (2 * r + s + 1)) T)
    (h : P_X7_price_86 Q X51 wy w1 lg (nI hh) ak v5 (nI (2 * r + s)) a6 (nI s) (nI (gS G (nI w))) S) : P_X7_price_86 Q' X51' wy w1 lg (nI hh) ak v5 (nI (2 * r + s)) a6 (nI s) (nI (gS G (nI w))) S := by
  have a2 := ab.2.1
  have b3 := ab.2.2.2.1
  have b4 := ab.2.2.2.2.1
  have sf := sp_sf (gb.2.2.2 _ iw) (by omega)
  have cw : (nI w).toNatClampNeg = w := nI_cl (by omega)
  have ch : (nI hh).toNatClampNeg = hh := nI_cl (by omega)
  intro X hX
  refine h (fun a0 a1 a2 a3 a4 a5 a6_1 a7 a8 v9 T => (wy = a0 ∧ w1 = a1 ∧ lg = a2 ∧ nI hh = a3 ∧ ak = a4 ∧ v5 = a5 ∧ nI (2 * r + s) = a6_1 ∧ a6 = a7 ∧ nI s = a8 ∧ ∃ j l', nI j = v9 ∧ gS G (nI w) ≤ j ∧ j ≤ gF G (nI w) + 1 ∧ MM wy y b0 b1 S T ∧ PVx wy y l' T ∧ l'.length + 1 ≤ 9 * (2 * r + s) + j ∧ (vsL A G w hh r s (gF G (nI w) + 1 - j) j).foldl (adL gl) l' = (vsL A G w hh r s (gF G (nI w) + 1 - gS G (nI w)) (gS G (nI w))).foldl (adL gl) ls) → X a0 a1 a2 a3 a4 a5 a6_1 a7 a8 v9 T) ?_ ⟨rfl, rfl, rfl, rfl, rfl, rfl, rfl, rfl, rfl, _, ls, rfl, Nat.le_refl _, by omega, mm_rf, pv, by omega, rfl⟩
  rintro a0 a1 a2 a3 a4 a5 a6_1 a7 a8 v9 T h ⟨rfl, rfl, rfl, rfl, rfl, rfl, rfl, rfl, rfl, j, l', rfl, j1, j2, mT_, pvT, lenT, hres⟩
  apply hX
  have pcT := pc_mm pc mT_
  have rdT := rd_mm pc mT_ rd
  have wkT := wk_mm pc mT_ wk
  have l9 := pcT.2.1
  obtain ⟨o1, h⟩ := h
  refine ⟨o1, fun x1 q1 => ?_⟩
  have h := h x1 q1
  have q1 : x1 = gWk G w 6 := q1.trans (wkT.2 6 (by decide))
  have n1 : x1.toInt = (gF G (nI w) : Int) := by
    have bw := gb.2.2.2 _ iw
    have z1 := bw.2.2.2.2.2.1.1
    have z2 := bw.2.2.2.2.2.2.1
    unfold gF
    rw [q1, cw, Int32.toNatClampNeg]
    omega
  have nj : (nI j).toInt = (j : Int) := nI_i (by omega)
  refine ⟨fun cc x3 q3 => ?_, fun cc => ?_⟩
  · have := lt_i cc
    have ej : j = gF G (nI w) + 1 := by omega
    have h := h.1 cc x3 q3
    have q3 : x3 = nI (2 * r + s + 1) := by rw [q3]; exact nI_add (2 * r + s) 1
    subst q3
    rw [ej, Nat.sub_self] at hres
    exact hE T l' mT_ pvT hres (by omega) h
  have ge1 := nlt_i cc
  have jF : j ≤ gF G (nI w) := by omega
  have hk : gF G (nI w) + 1 - j = (gF G (nI w) + 1 - (j + 1)) + 1 := by omega
  rw [hk] at hres
  have hres : (vsL A G w hh r s (gF G (nI w) + 1 - (j + 1)) (j + 1)).foldl (adL gl) (adL gl l' (mvL A G w hh r s j)) = (vsL A G w hh r s (gF G (nI w) + 1 - gS G (nI w)) (gS G (nI w))).foldl (adL gl) ls := hres
  have len2 := adL_len (gl := gl) (l := l') (v := mvL A G w hh r s j)
  have nx : ∀ U T2, MM wy y b0 b1 S U → MM wy y b0 b1 U T2 → PVx wy y (adL gl l' (mvL A G w hh r s j)) T2 → ∀ (F : HS → Prop), ((wy = wy ∧ w1 = w1 ∧ lg = lg ∧ nI hh = nI hh ∧ ak = ak ∧ v5 = v5 ∧ nI (2 * r + s) = nI (2 * r + s) ∧ a6 = a6 ∧ nI s = nI s ∧ ∃ j_1 l', nI j_1 = nI (j + 1) ∧ gS G (nI w) ≤ j_1 ∧ j_1 ≤ gF G (nI w) + 1 ∧ MM wy y b0 b1 S T2 ∧ PVx wy y l' T2 ∧ l'.length + 1 ≤ 9 * (2 * r + s) + j_1 ∧ (vsL A G w hh r s (gF G (nI w) + 1 - j_1) j_1).foldl (adL gl) l' = (vsL A G w hh r s (gF G (nI w) + 1 - gS G (nI w)) (gS G (nI w))).foldl (adL gl) ls) → F T2) → F T2 := fun U T2 mU m2 pv2 F hF => hF ⟨rfl, rfl, rfl, rfl, rfl, rfl, rfl, rfl, rfl, j + 1, _, rfl, by omega, by omega, mm_tr mU m2, pv2, by omega, hres⟩
  have h := h.2 cc
  refine ⟨fun c2 => ?_, fun c2 => ?_⟩
  · have ih : hh < aHs A := by
      by_cases z : hh < aHs A
      · exact z
      · rw [hd, if_neg z] at c2
        exact absurd c2 (by decide)
    obtain ⟨o2, a5, e5, o5, i5, a7, e7, o7, h⟩ := h.1 c2
    refine ⟨o2, _, e5, o5, i5, _, e7, o7, ?_⟩
    rw [ch] at e7
    have rn := (l9.2.2.1 _ e5).2.2 _ _ ih e7
    have sv : ¬ nI j ≤ 0 := fun z => by
      have := le_i z
      have e0 : (0 : Int32).toInt = 0 := by decide
      omega
    refine cm_X1_wetOf (sp_X1_wetOf sv pcT.2.2.2.1 pcT.2.2.2.2.1 ne h) h (fun x10 S8 hp h g => ?_)
    have h := h g
    obtain ⟨-, f, hS, fo, -, q10⟩ := hp
    have m8 : MM wy y b0 b1 T S8 := by
      have n1 : ∀ j ∈ jJ, y j ≠ b0 ∧ y j ≠ b1 := fun j hj => ⟨fun z => (pcT.1.2.2.2.2 j hj).2 (1, 0) (by decide) lg pcT.2.2.1 (by rw [z]; exact pcT.2.2.2.1), fun z => (pcT.1.2.2.2.2 j hj).2 (1, 1) (by decide) lg pcT.2.2.1 (by rw [z]; exact pcT.2.2.2.2.1)⟩
      rw [hS]
      exact ⟨⟨rfl, rfl, rfl, rfl, fun _ _ _ => rfl, fun x _ d0 d1 => fo x d0 d1⟩, fun _ _ => rfl, rfl, rfl, fo _ (n1 1 (by decide)).1 (n1 1 (by decide)).2⟩
    have pv8 : PVx wy y l' S8 := by
      have n1 : y 7 ≠ b0 ∧ y 7 ≠ b1 := ⟨fun z => (pcT.1.2.2.2.2 7 (by decide)).2 (1, 0) (by decide) lg pcT.2.2.1 (by rw [z]; exact pcT.2.2.2.1), fun z => (pcT.1.2.2.2.2 7 (by decide)).2 (1, 1) (by decide) lg pcT.2.2.1 (by rw [z]; exact pcT.2.2.2.2.1)⟩
      refine ⟨mvr_mm pvT.1 ?_ ?_ ?_ ?_ ?_, ?_, pvT.2.2⟩
      · rw [hS]; rfl
      · rw [hS]; rfl
      · rw [hS]; rfl
      · rw [hS]; rfl
      · rw [hS]; exact fo _ n1.1 n1.2
      · rw [hS]; exact pvT.2.1
    have pc8 := pc_mm pcT m8
    obtain ⟨a11, e11, o11, i11, a13, e13, o13, h⟩ := h
    refine ⟨_, e11, o11, i11, _, e13, o13, fun x14 q14 => ?_⟩
    have h := h x14 q14
    rw [ch] at e13
    have rn8 := (pc8.2.1.2.2.1 _ e11).2.2 _ _ ih e13
    have q14 : x14 = gRn G hh 4 := q14.trans (rn8.2 4 (by decide))
    refine yw134 (v := j) (hh := hh) ab gb ge iw ir is2 (by omega) (by omega) hgl pc8 pv8 (by omega) (rd_mm pcT m8 rdT) ?_ (fun T2 m2 pv2 h => nx S8 T2 (mm_tr mT_ m8) m2 pv2 _ h) h
    show _ = (cLg A G w hh r s j).toInt
    unfold cLg
    rw [if_pos ih, q10, q14, wtJ_c (rn' := gRn G hh) (rd' := gRd G r) (wk' := gWk G w) rn.2 rdT.2 wkT.2, (wet_eq (u := nI s) (v := nI j) (gb.1 _ ih) (gb.2.2.1 _ ir) (gb.2.2.2 _ iw) (by omega) (by omega)).1]
  · have ih : ¬ hh < aHs A := fun z => c2 (by rw [hd, if_pos z])
    refine yw134 (v := j) (hh := hh) ab gb ge iw ir is2 (by omega) (by omega) hgl pcT pvT (by omega) rdT ?_ (fun T2 m2 pv2 h => nx T T2 mT_ m2 pv2 _ h) (h.2 c2)
    show _ = (cLg A G w hh r s j).toInt
    unfold cLg
    rw [if_neg ih]
/-- all waits -/
theorem yw179 (ab : ABd A) (gb : GBd A G) (ge : GBe A G) (iw : w < aW A) (hgl : gl < 100000) (hhh : hh ≤ 6) (hd : v5 = if hh < aHs A then 0 else 1) (pc : PCx wy y b0 b1 w1 lg gl A G S) (pv : PVx wy y ls S) (hl : ls.length ≤ 216) (wk : WKx ak (gWk G w) S) (h : P_X7_price_179 Q wy w1 (nI hh) ak v5 0 S) : P_X7_price_179 (fun T => Q T ∧ MM wy y b0 b1 S T ∧ PVx wy y ((wtL A G w hh (aP A) 0).foldl (adM gl) ls) T) wy w1 (nI hh) ak v5 0 S := by
  have b2 := ab.2.2.1
  have ch : (nI hh).toNatClampNeg = hh := nI_cl (by omega)
  intro X hX
  refine h (fun a0 a1 a3 a4 a5 v6 T => (wy = a0 ∧ w1 = a1 ∧ nI hh = a3 ∧ ak = a4 ∧ v5 = a5 ∧ ∃ p l', nI p = v6 ∧ p ≤ aP A ∧ MM wy y b0 b1 S T ∧ PVx wy y l' T ∧ l'.length ≤ 216 + p ∧ (wtL A G w hh (aP A - p) p).foldl (adM gl) l' = (wtL A G w hh (aP A) 0).foldl (adM gl) ls) → X a0 a1 a3 a4 a5 v6 T) ?_ ⟨rfl, rfl, rfl, rfl, rfl, 0, ls, rfl, Nat.zero_le _, mm_rf, pv, hl, rfl⟩
  rintro a0 a1 a3 a4 a5 v6 T h ⟨rfl, rfl, rfl, rfl, rfl, p, l', rfl, hp, mT_, pvT, lenT, hres⟩
  apply hX
  have pcT := pc_mm pc mT_
  have wkT := wk_mm pc mT_ wk
  obtain ⟨o1, h⟩ := h
  refine ⟨o1, fun x1 q1 => ?_⟩
  have h := h x1 q1
  have q1 := q1.trans pcT.2.1.2.1.2.2.1
  have n1 : x1.toInt = (aP A : Int) := by rw [q1, nI_i (by omega)]
  have np : (nI p).toInt = (p : Int) := nI_i (by omega)
  refine ⟨fun cc => ⟨h.1 cc, mT_, ?_⟩, fun cc => ?_⟩
  · have := le_i cc
    have ep : p = aP A := by omega
    rw [ep, Nat.sub_self] at hres
    have hres : l' = (wtL A G w hh (aP A) 0).foldl (adM gl) ls := hres
    rw [← hres]
    exact pvT
  have lt := nle_i cc
  have ip : p < aP A := by omega
  have hk : aP A - p = (aP A - (p + 1)) + 1 := by omega
  rw [hk] at hres
  have hres : (dc (cwO A G (nI p)) [mvW A G w hh p] [] ++ wtL A G w hh (aP A - (p + 1)) (p + 1)).foldl (adM gl) l' = (wtL A G w hh (aP A) 0).foldl (adM gl) ls := hres
  rw [List.foldl_append] at hres
  have nx : ∀ T2 l2, MM wy y b0 b1 S T2 → PVx wy y l2 T2 → l2.length ≤ l'.length + 1 → (dc (cwO A G (nI p)) [mvW A G w hh p] []).foldl (adM gl) l' = l2 → P_X7_price_245 Q (fun a0 a1 a3 a4 a5 v6 T => (wy = a0 ∧ w1 = a1 ∧ nI hh = a3 ∧ ak = a4 ∧ v5 = a5 ∧ ∃ p l', nI p = v6 ∧ p ≤ aP A ∧ MM wy y b0 b1 S T ∧ PVx wy y l' T ∧ l'.length ≤ 216 + p ∧ (wtL A G w hh (aP A - p) p).foldl (adM gl) l' = (wtL A G w hh (aP A) 0).foldl (adM gl) ls) → X a0 a1 a3 a4 a5 v6 T) wy w1 (nI hh) ak v5 (nI p) T2 → P_X7_price_245 (fun T => Q T ∧ MM wy y b0 b1 S T ∧ PVx wy y ((wtL A G w hh (aP A) 0).foldl (adM gl) ls) T) X wy w1 (nI hh) ak v5 (nI p) T2 := by
    intro T2 l2 m2 pv2 len2 e2 h
    delta P_X7_price_245
    intro x1 q1
    have h := h x1 q1
    have q1 : x1 = nI (p + 1) := by rw [q1]; exact nI_add p 1
    subst q1
    exact h ⟨rfl, rfl, rfl, rfl, rfl, p + 1, l2, rfl, by omega, m2, pv2, by omega, by rw [← e2]; exact hres⟩
  have h := h.2 cc
  refine cm_X8_canWait (sw_X8_canWait pcT.2.1 ab h) h (fun x5 S3 hp5 h g b => ?_)
  have h := h g b
  obtain ⟨-, hS, a5⟩ := hp5
  subst hS
  refine ⟨fun c2 => ?_, fun c2 => ?_⟩
  · exact nx T l' mT_ pvT (Nat.le_succ _) (by rw [dc_n (an0 a5 c2)]; rfl) (h.1 c2)
  have cw := an1 a5 c2
  have h := h.2 c2
  have cb := cWt_b (h := hh) ab gb iw cw
  have go : ∀ s0 : Int64, s0.toInt = (cWt A G w hh p).toInt → P_X7_price_230 Q (fun a0 a1 a3 a4 a5 v6 T => (wy = a0 ∧ w1 = a1 ∧ nI hh = a3 ∧ ak = a4 ∧ v5 = a5 ∧ ∃ p l', nI p = v6 ∧ p ≤ aP A ∧ MM wy y b0 b1 S T ∧ PVx wy y l' T ∧ l'.length ≤ 216 + p ∧ (wtL A G w hh (aP A - p) p).foldl (adM gl) l' = (wtL A G w hh (aP A) 0).foldl (adM gl) ls) → X a0 a1 a3 a4 a5 v6 T) wy w1 (nI hh) ak v5 (nI p) s0 T → P_X7_price_230 (fun T => Q T ∧ MM wy y b0 b1 S T ∧ PVx wy y ((wtL A G w hh (aP A) 0).foldl (adM gl) ls) T) X wy w1 (nI hh) ak v5 (nI p) s0 T := by
    intro s0 hs h
    delta P_X7_price_230
    obtain ⟨o2, h⟩ := h
    refine ⟨o2, ?_⟩
    refine cm_X7_addMove (yw_addMove (b0 := b0) (b1 := b1) (q := mvW A G w hh p) pcT.1 pvT.1 pvT.2.1 (by omega) pcT.2.2.2.2.2 hgl (by show p < 100000; omega) rfl rfl rfl hs cb rfl h) h (fun S1 hp1 h g => ?_)
    have h := h g
    obtain ⟨-, m, mv, mc⟩ := hp1
    exact nx S1 _ (mm_tr mT_ m) ⟨mv, mc, fun u hu => (adM_mem hu).elim (pvT.2.2 u) (fun z => by rw [z]; show 1 ≤ 68; omega)⟩ adM_len (by rw [dc_y cw]; rfl) h
  refine ⟨fun c3 => ?_, fun c3 => ?_⟩
  · have ih : hh < aHs A := by
      by_cases z : hh < aHs A
      · exact z
      · rw [hd, if_neg z] at c3
        exact absurd c3 (by decide)
    have h := h.1 c3
    refine cm_X8_dripOn (sw_X8_dripOn pcT.2.1 ab h) h (fun x10 S8 hp10 h g => ?_)
    have h := h g
    obtain ⟨-, hS, q10⟩ := hp10
    subst hS
    obtain ⟨a11, e11, o11, i11, a13, e13, o13, h⟩ := h
    refine ⟨_, e11, o11, i11, _, e13, o13, fun x14 q14 => ?_⟩
    have h := h x14 q14
    rw [ch] at e13
    have rn8 := (pcT.2.1.2.2.1 _ e11).2.2 _ _ ih e13
    have q14 : x14 = gRn G hh 4 := q14.trans (rn8.2 4 (by decide))
    refine go _ ?_ h
    have ed : drpO A G (fI T ak) (nI p) = drpO A G (gWk G w) (nI p) := by
      unfold drpO
      rw [dc_y cw, dc_y cw, shO_c wkT.2, wkT.2 2 (by decide)]
    unfold cWt
    rw [if_pos ih, q10, q14, ed]
  · have ih : ¬ hh < aHs A := fun z => c3 (by rw [hd, if_pos z])
    refine go _ ?_ (h.2 c3)
    unfold cWt
    rw [if_neg ih]
/-- all legs, then all waits -/
theorem yw51 (ab : ABd A) (gb : GBd A G) (ge : GBe A G) (iw : w < aW A) (hgl : gl < 100000) (hhh : hh ≤ 6) (ne : b1 ≠ b0) (hd : v5 = if hh < aHs A then 0 else 1) (pc : PCx wy y b0 b1 w1 lg gl A G S) (pv : PVx wy y [] S) (wk : WKx ak (gWk G w) S) (h : P_X7_price_51 Q wy w1 lg (nI hh) ak v5 0 S) : P_X7_price_51 (fun T => Q T ∧ MM wy y b0 b1 S T ∧ PVx wy y (PLw A G w hh gl) T) wy w1 lg (nI hh) ak v5 0 S := by
  have b3 := ab.2.2.2.1
  have b4 := ab.2.2.2.2.1
  have cw : (nI w).toNatClampNeg = w := nI_cl (by omega)
  intro X hX
  refine h (fun a0 a1 a2 a3 a4 a5 v6 T => (wy = a0 ∧ w1 = a1 ∧ lg = a2 ∧ nI hh = a3 ∧ ak = a4 ∧ v5 = a5 ∧ ∃ t l', nI t = v6 ∧ t ≤ 2 * aR A ∧ MM wy y b0 b1 S T ∧ PVx wy y l' T ∧ l'.length ≤ 9 * t ∧ (trL A G w hh (2 * aR A - t) t).foldl (adL gl) l' = LLw A G w hh gl) → X a0 a1 a2 a3 a4 a5 v6 T) ?_ ⟨rfl, rfl, rfl, rfl, rfl, rfl, 0, [], rfl, Nat.zero_le _, mm_rf, pv, Nat.zero_le _, rfl⟩
  rintro a0 a1 a2 a3 a4 a5 v6 T h ⟨rfl, rfl, rfl, rfl, rfl, rfl, t, l', rfl, ht, mT_, pvT, lenT, hres⟩
  apply hX
  have pcT := pc_mm pc mT_
  have wkT := wk_mm pc mT_ wk
  obtain ⟨o1, h⟩ := h
  refine ⟨o1, fun x1 q1 => ?_⟩
  have h := h x1 q1
  have q1 := q1.trans pcT.2.1.2.1.2.2.2.1
  have m2 : (2 : Int32) * x1 = nI (2 * aR A) := by
    rw [q1]
    exact nJ_mul 2 (aR A)
  have n1 : ((2 : Int32) * x1).toInt = ((2 * aR A : Nat) : Int) := by rw [m2, nI_i (by omega)]
  have nt : (nI t).toInt = (t : Int) := nI_i (by omega)
  refine ⟨fun cc => ?_, fun cc => ?_⟩
  · have := le_i cc
    have et : t = 2 * aR A := by omega
    rw [et, Nat.sub_self] at hres
    have hres : l' = LLw A G w hh gl := hres
    have h := h.1 cc
    refine cm_X7_price_179 (yw179 ab gb ge iw hgl hhh hd pcT pvT (by omega) wkT h) h (fun T2 hp hq => ⟨hq, mm_tr mT_ hp.2.1, ?_⟩)
    have e := hp.2.2
    rw [hres] at e
    exact e
  have lt := nle_i cc
  obtain ⟨a3, e3, h⟩ := h.2 cc
  refine ⟨_, e3, fun x4 q4 => ?_⟩
  obtain ⟨o4, i4, a6, e6, h⟩ := h x4 q4
  refine ⟨o4, i4, _, e6, fun x7 q7 => ?_⟩
  obtain ⟨o7, h⟩ := h x7 q7
  refine ⟨o7, fun x8 q8 => ?_⟩
  have h := h x8 q8
  obtain ⟨r, s, is2, rfl⟩ : ∃ r s, s < 2 ∧ t = 2 * r + s := ⟨t / 2, t % 2, by omega, by omega⟩
  have ir : r < aR A := by omega
  have q4 : x4 = nI r := by
    have e2 : (2 * r + s) / 2 = r := by omega
    rw [q4]
    show nI (2 * r + s) / nI 2 = _
    rw [nJ_div (by omega) (by omega), e2]
  have q7 : x7 = nI s := by
    have e2 : (2 * r + s) % 2 = s := by omega
    rw [q7]
    show nI (2 * r + s) - nI (2 * r + s) / nI 2 * nI 2 = _
    rw [nJ_mod (by omega) (by omega), e2]
  have q8 : x8 = nI (gS G (nI w)) := by
    have bw := gb.2.2.2 _ iw
    have z1 := bw.2.2.2.2.2.1
    rw [q8, wkT.2 5 (by decide)]
    unfold gS
    rw [cw]
    exact nI_ofw (by have := z1.1; omega) (by have := z1.2; omega)
  have cr : (nI r).toNatClampNeg = r := nI_cl (by omega)
  subst q4 q7 q8
  rw [cr] at e6
  have rd := (pcT.2.1.2.2.2.1 _ e3).2.2 _ _ ir e6
  have hk : 2 * aR A - (2 * r + s) = (2 * aR A - (2 * r + s + 1)) + 1 := by omega
  rw [hk] at hres
  have hres : (vsL A G w hh ((2 * r + s) / 2) ((2 * r + s) % 2) (gF G (nI w) + 1 - gS G (nI w)) (gS G (nI w)) ++ trL A G w hh (2 * aR A - (2 * r + s + 1)) (2 * r + s + 1)).foldl (adL gl) l' = LLw A G w hh gl := hres
  have d1 : (2 * r + s) / 2 = r := by omega
  have d2 : (2 * r + s) % 2 = s := by omega
  rw [List.foldl_append, d1, d2] at hres
  exact yw86 ab gb ge iw ir is2 hgl hhh ne hd pcT pvT lenT rd wkT (fun T2 l2 m3 pv2 e2 len2 h => h ⟨rfl, rfl, rfl, rfl, rfl, rfl, 2 * r + s + 1, l2, rfl, by omega, mm_tr mT_ m3, pv2, len2, by rw [e2]; exact hres⟩) h
/-- price -/
theorem yw_price (ab : ABd A) (gb : GBd A G) (ge : GBe A G) (iw : w < aW A) (hgl : gl < 100000) (hhh : hh ≤ 6) (ne : b1 ≠ b0) (hw : fI S wy 10 = nI w) (pc : PCx wy y b0 b1 w1 lg gl A G S) (h : P_X7_price wy w1 lg (nI hh) Q S) : P_X7_price wy w1 lg (nI hh) (fun T => Q T ∧ YM wy y b0 b1 S T ∧ (∀ j, j ≠ 3 → j ≠ 9 → fI T wy j = fI S wy j) ∧ fI T wy 9 = nI hh ∧ fI T (y 0) = fI S (y 0) ∧ fI T (y 2) = fI S (y 2) ∧ fJ T (y 1) = fJ S (y 1) ∧ PVx wy y (PLw A G w hh gl) T) S := by
  have b4 := ab.2.2.2.2.1
  have a2 := ab.2.1
  have cw : (nI w).toNatClampNeg = w := nI_cl (by omega)
  delta P_X7_price P_X7_price_0
  obtain ⟨o1, h⟩ := h
  refine ⟨o1, fun S1 s1 S2 s2 x3 q3 => ?_⟩
  obtain ⟨o2, h⟩ := h S1 s1 S2 s2 x3 q3
  refine ⟨o2, ?_⟩
  have r1 : fI S1 wy = va_up (fI S wy) 9 (nI hh) := row_I s1
  have r2 : fI S2 wy = va_up (fI S1 wy) 3 0 := row_I s2
  have z2 : ∀ x, x ≠ wy → fI S2 x = fI S x := fun x hx => (row_o s2 hx).trans (row_o s1 hx)
  have ym2 : YM wy y b0 b1 S S2 := ⟨by rw [s2, s1]; rfl, by rw [s2, s1]; rfl, by rw [s2, s1]; rfl, by rw [s2, s1]; rfl, fun x a _ => z2 x a, fun x _ _ _ => by rw [s2, s1]; rfl⟩
  have i2 : ∀ j, j ≠ 3 → j ≠ 9 → fI S2 wy j = fI S wy j := fun j h3 h9 => by rw [r2, va_up_ne _ _ h3, r1, va_up_ne _ _ h9]
  have n9 : fI S2 wy 9 = nI hh := by rw [r2, va_up_ne _ _ (by decide : (9 : Nat) ≠ 3), r1, va_up_self]
  have n3 : fI S2 wy 3 = 0 := by rw [r2, va_up_self]
  have j2 : fJ S2 = fJ S := by rw [s2, s1]; rfl
  have pc2 : PCx wy y b0 b1 w1 lg gl A G S2 := ⟨wys_ym pc.1 ym2, wt_ym pc.1 ym2 pc.2.1, ym_ob ym2 pc.2.2.1, ym_r ym2 pc.2.2.2.1, ym_r ym2 pc.2.2.2.2.1, (i2 11 (by decide) (by decide)).trans pc.2.2.2.2.2⟩
  have w2 : fI S2 wy 10 = nI w := (i2 10 (by decide) (by decide)).trans hw
  have pv2 : PVx wy y [] S2 := ⟨fun i q hq => absurd (show (none : Option MVx) = some q from hq) (by intro z; cases z), n3, fun u hu => absurd hu (List.not_mem_nil)⟩
  have q3 := q3.trans w2
  subst q3
  have okw : ¬ nI w < 0 ∧ nI w < nI (aW A) := ⟨nJ_neg (by omega), Int32.lt_iff_toInt_lt.mpr (by rw [nI_i (by omega), nI_i (by omega)]; omega)⟩
  refine cm_X8_hasWalker (sw_X8_hasWalker pc2.2.1 ab h) h (fun x6 S4 hp h g b => ?_)
  have h := h g b
  obtain ⟨-, hS, a6⟩ := hp
  subst hS
  refine Iff.mp and_comm ⟨fun c => absurd okw (an0 a6 c), fun c => ?_⟩
  obtain ⟨a8, e8, h⟩ := h.1 c
  refine ⟨_, e8, fun x9 q9 => ?_⟩
  obtain ⟨o9, i9, a11, e11, h⟩ := h x9 q9
  refine ⟨o9, i9, _, e11, ?_⟩
  have q9 := q9.trans w2
  subst q9
  rw [cw] at e11
  have wk := (pc2.2.1.2.2.2.2.1 _ e8).2.2 _ _ iw e11
  refine cm_X8_hasHour (sw_X8_hasHour pc2.2.1 ab h) h (fun x14 S12 hp h g b => ?_)
  have h := h g b
  obtain ⟨-, hS, a14⟩ := hp
  subst hS
  have fin : ∀ v5, v5 = (if hh < aHs A then 0 else 1) → P_X7_price_46 Q wy w1 lg (nI hh) a11 v5 S2 → P_X7_price_46 (fun T => Q T ∧ YM wy y b0 b1 S T ∧ (∀ j, j ≠ 3 → j ≠ 9 → fI T wy j = fI S wy j) ∧ fI T wy 9 = nI hh ∧ fI T (y 0) = fI S (y 0) ∧ fI T (y 2) = fI S (y 2) ∧ fJ T (y 1) = fJ S (y 1) ∧ PVx wy y (PLw A G w hh gl) T) wy w1 lg (nI hh) a11 v5 S2 := by
    intro v5 hd h
    delta P_X7_price_46
    refine cm_X7_price_51 (yw51 ab gb ge iw hgl hhh ne hd pc2 pv2 wk h) h (fun T hp hq => ?_)
    obtain ⟨-, m, pv⟩ := hp
    exact ⟨hq, ym_tr ym2 m.1, fun j h3 h9 => (m.2.1 j h3).trans (i2 j h3 h9), (m.2.1 9 (by decide)).trans n9, m.2.2.1.trans (z2 _ (ws_wy pc.1 (by decide))), m.2.2.2.1.trans (z2 _ (ws_wy pc.1 (by decide))), m.2.2.2.2.trans (by rw [j2]), pv⟩
  have ihn : (¬ nI hh < 0 ∧ nI hh < nI (aHs A)) ↔ hh < aHs A := ⟨fun z => by
    have := lt_i z.2
    rw [nI_i (by omega), nI_i (by omega)] at this
    omega, fun z => ⟨nJ_neg (by omega), Int32.lt_iff_toInt_lt.mpr (by rw [nI_i (by omega), nI_i (by omega)]; omega)⟩⟩
  refine ⟨fun c2 => fin 0 ?_ (h.1 c2), fun c2 => fin 1 ?_ (h.2 c2)⟩
  · rw [if_pos (ihn.mp (an1 a14 c2))]
  · rw [if_neg (fun z => an0 a14 c2 (ihn.mpr z))]
end C73
end
section
/-! ways: the class reckons a minute -/
def kvE : TE → Int
  | none => 4611686018427387904
  | some a => 512 * a.1 + a.2.1
def KCx (y : Nat → Nat) (S : HS) (i : Nat) (t : TE) : Prop := (fJ S (y 1) i).toInt = kvE t ∧ fI S (y 2) i = kE t
/-- keys and choices alone have changed -/
def YK (y : Nat → Nat) (S T : HS) : Prop := hL T = hL S ∧ hK T = hK S ∧ hN T = hN S ∧ fR T = fR S ∧ (∀ x, x ≠ y 2 → fI T x = fI S x) ∧ ∀ x, x ≠ y 1 → fJ T x = fJ S x
/-- at this minute alone -/
def YC (y : Nat → Nat) (mm : Nat) (S T : HS) : Prop := YK y S T ∧ ∀ i, ¬ i % 401 = mm → fJ T (y 1) i = fJ S (y 1) i ∧ fI T (y 2) i = fI S (y 2) i
def TCk (y : Nat → Nat) (A : AS) (tl lo : Nat) (tb : Nat → Nat → TE) (S : HS) : Prop := ∀ m', lo ≤ m' → m' ≤ tl → ∀ p', p' < aP A → KCx y S (401 * p' + m') (tb p' m') ∧ EB tl m' (tb p' m')
def inE (gl mm p : Nat) : TE := if p = gl then some (0, (mm : Int), -1) else none
section C74
variable {wy b0 b1 w gl tl hh mm p i lo : Nat} {y : Nat → Nat} {S S0 T U : HS} {A : AS} {G : GC} {ls l1 l2 : List MVx} {q : MVx} {t b c : TE} {tb : Nat → Nat → TE} {v1 v2 v3 x : Int32} {Q Q' : HS → Prop}
theorem yk_rf : YK y S S := ⟨rfl, rfl, rfl, rfl, fun _ _ => rfl, fun _ _ => rfl⟩
theorem yk_tr (h : YK y S T) (g : YK y T U) : YK y S U := ⟨g.1.trans h.1, g.2.1.trans h.2.1, g.2.2.1.trans h.2.2.1, g.2.2.2.1.trans h.2.2.2.1, fun x a => (g.2.2.2.2.1 x a).trans (h.2.2.2.2.1 x a), fun x a => (g.2.2.2.2.2 x a).trans (h.2.2.2.2.2 x a)⟩
theorem yc_rf : YC y mm S S := ⟨yk_rf, fun _ _ => ⟨rfl, rfl⟩⟩
theorem yc_tr (h : YC y mm S T) (g : YC y mm T U) : YC y mm S U := ⟨yk_tr h.1 g.1, fun i hi => ⟨(g.2 i hi).1.trans (h.2 i hi).1, (g.2 i hi).2.trans (h.2 i hi).2⟩⟩
theorem yk_ym (h : YK y S T) : YM wy y b0 b1 S T := ⟨h.1, h.2.1, h.2.2.1, h.2.2.2.1, fun x _ b => h.2.2.2.2.1 x (b 2 (by decide)), fun x a _ _ => h.2.2.2.2.2 x (a 1 (by decide))⟩
theorem pv_yk (ws : WYs wy y S) (h : YK y S T) (pv : PVx wy y ls S) : PVx wy y ls T := ⟨mvr_mm pv.1 (h.2.2.2.2.1 _ (ws_ne ws (by decide) (by decide) (by decide))) (h.2.2.2.2.1 _ (ws_ne ws (by decide) (by decide) (by decide))) (h.2.2.2.2.1 _ (ws_ne ws (by decide) (by decide) (by decide))) (h.2.2.2.2.1 _ (ws_ne ws (by decide) (by decide) (by decide))) (h.2.2.2.2.2 _ (ws_ne ws (by decide) (by decide) (by decide))), by rw [h.2.2.2.2.1 wy (Ne.symm (ws_wy ws (by decide)))]; exact pv.2.1, pv.2.2⟩
theorem kc_yc (h : YC y mm S T) (hi : ¬ i % 401 = mm) (k : KCx y S i t) : KCx y T i t := ⟨by rw [(h.2 i hi).1]; exact k.1, by rw [(h.2 i hi).2]; exact k.2⟩
theorem tck_yc (h : YC y mm S T) (htl : tl ≤ 400) (hl : mm < lo) (tc : TCk y A tl lo tb S) : TCk y A tl lo tb T := fun m' h1 h2 p' hp' => ⟨kc_yc h (by omega) (tc m' h1 h2 p' hp').1, (tc m' h1 h2 p' hp').2⟩
theorem kv_b (h : EB tl mm t) (htl : tl ≤ 400) : 0 ≤ kvE t ∧ kvE t ≤ 4611686018427387904 ∧ (kvE t = 4611686018427387904 ↔ t = none) := by
  cases t with
  | none => exact ⟨by decide, by decide, fun _ => rfl, fun _ => rfl⟩
  | some a =>
    obtain ⟨h1, h2, h3, h4⟩ := h a rfl
    have hk : kvE (some a) = 512 * a.1 + a.2.1 := rfl
    have hb : ((tl - mm : Nat) : Int) * 1873821600000 ≤ 400 * 1873821600000 := by omega
    rw [hk]
    exact ⟨by omega, by omega, fun z => by omega, fun z => by cases z⟩
/-- keys compare as ways do -/
theorem kv_lt (hc : EB tl mm c) (hb : EB tl mm b) (htl : tl ≤ 400) : kvE c < kvE b ↔ lE c b := by
  cases c with
  | none =>
    have k := kv_b hb htl
    exact ⟨fun z => by
      have e : kvE none = 4611686018427387904 := rfl
      omega, fun z => z.elim⟩
  | some a =>
    have ka := kv_b hc htl
    cases b with
    | none =>
      refine ⟨fun _ => trivial, fun _ => ?_⟩
      have ne : ¬ kvE (some a) = 4611686018427387904 := fun z => by cases ka.2.2.mp z
      have e : kvE none = 4611686018427387904 := rfl
      omega
    | some d =>
      obtain ⟨h1, h2, h3, h4⟩ := hc a rfl
      obtain ⟨g1, g2, g3, g4⟩ := hb d rfl
      show 512 * a.1 + a.2.1 < 512 * d.1 + d.2.1 ↔ (a.1 < d.1 ∨ (a.1 = d.1 ∧ a.2.1 < d.2.1))
      omega
theorem cd_kv {co : Int} {k : Int32} {a : Int × Int × Int32} (h : t = some a) : kvE (cdE t co k) = 512 * co + kvE t ∧ kE (cdE t co k) = k := by
  rw [h]
  refine ⟨?_, rfl⟩
  show 512 * (co + a.1) + a.2.1 = 512 * co + (512 * a.1 + a.2.1)
  omega
theorem cd_eb (hv : MvB A q) (hd : mm + mD q ≤ tl) (ht : EB tl (mm + mD q) t) : EB tl mm (cdE t (mC q) (mK q)) := by
  intro a ha
  cases t with
  | none => cases ha
  | some z =>
    cases ha
    obtain ⟨y1, y2, y3, y4⟩ := ht z rfl
    obtain ⟨-, d1, c0, c1⟩ := hv
    have : (tl - (mm + mD q) : Nat) + 1 ≤ tl - mm := by omega
    show 0 ≤ mC q + z.1 ∧ mC q + z.1 ≤ _ ∧ (mm : Int) ≤ z.2.1 ∧ z.2.1 ≤ _
    omega
theorem ix401 (p mm : Nat) : nI p * (401 : Int32) + nI mm = nI (401 * p + mm) := by
  show nI p * nI 401 + nI mm = _
  rw [nJ_mul, nI_add, Nat.mul_comm]
theorem yw40 {X2 X2' : Nat → Int32 → Int32 → Int32 → HS → Prop} {s2 : Int64} (ws : WYs wy y S) (b2 : aP A ≤ 8) (hp : p < aP A) (hmm : mm ≤ 400) (hs : s2.toInt = kvE (inE gl mm p))
    (hE : ∀ T, YC y mm S T → KCx y T (401 * p + mm) (inE gl mm p) → (∀ p', p' ≠ p → p' < aP A → ∀ t, KCx y S (401 * p' + mm) t → KCx y T (401 * p' + mm) t) → X2 wy v1 (nI mm) (nI (p + 1)) T → X2' wy v1 (nI mm) (nI (p + 1)) T)
    (h : P_X7_reckonMinute_40 Q X2 wy v1 (nI mm) (nI p) (y 1) (nI p * (401 : Int32) + nI mm) s2 S) : P_X7_reckonMinute_40 Q' X2' wy v1 (nI mm) (nI p) (y 1) (nI p * (401 : Int32) + nI mm) s2 S := by
  have n12 : y 1 ≠ y 2 := ws_ne ws (by decide) (by decide) (by decide)
  rw [ix401] at h ⊢
  have ck : (nI (401 * p + mm)).toNatClampNeg = 401 * p + mm := nI_cl (by omega)
  delta P_X7_reckonMinute_40
  obtain ⟨o1, i1, h⟩ := h
  refine ⟨o1, i1, fun S2 q2 => ?_⟩
  obtain ⟨o2, a3, e3, h⟩ := h S2 q2
  rw [ck] at q2
  have f2 : fR S2 = fR S ∧ fI S2 = fI S := by rw [q2]; exact ⟨rfl, rfl⟩
  cases (ws.2.1 2 (by decide)).symm.trans (by rw [← f2.1]; exact e3 : fR S wy 2 = some a3)
  rw [ix401] at h ⊢
  obtain ⟨o3, i3, h⟩ := h
  refine ⟨o2, _, e3, o3, i3, fun S5 q5 x6 q6 => ?_⟩
  have h := h S5 q5 x6 q6
  rw [ck] at q5
  have q6 : x6 = nI (p + 1) := by rw [q6]; exact nI_add p 1
  subst q6
  have r5 : fI S5 (y 2) = va_up (fI S (y 2)) (401 * p + mm) (-1) := by rw [row_I q5, f2.2]
  have jj : fJ S5 = u2 (fJ S) (y 1) (401 * p + mm) s2 := by rw [q5, q2]; rfl
  have j5 : fJ S5 (y 1) = va_up (fJ S (y 1)) (401 * p + mm) s2 := by rw [jj]; exact u2_self_row _ _ _ _
  have oth : ∀ i, i ≠ 401 * p + mm → fJ S5 (y 1) i = fJ S (y 1) i ∧ fI S5 (y 2) i = fI S (y 2) i := fun i hi => ⟨by rw [j5]; exact va_up_ne _ _ hi, by rw [r5]; exact va_up_ne _ _ hi⟩
  refine hE S5 ⟨⟨by rw [q5, q2]; rfl, by rw [q5, q2]; rfl, by rw [q5, q2]; rfl, by rw [q5, q2]; rfl, fun x a => by rw [row_o q5 a, f2.2], fun x a => by rw [jj]; exact u2_row _ _ a⟩, fun i hi => oth i (fun z => hi (by rw [z]; omega))⟩ ⟨by rw [j5, va_up_self]; exact hs, ?_⟩ (fun p' ne hp' t k => ⟨by rw [(oth _ (by omega)).1]; exact k.1, by rw [(oth _ (by omega)).2]; exact k.2⟩) h
  rw [r5, va_up_self]
  unfold inE
  by_cases z : p = gl
  · rw [if_pos z]; rfl
  · rw [if_neg z]; rfl
/-- one move, at a minute -/
theorem yw117 {X62 X62' : Nat → Int32 → Int32 → HS → Prop} {s0 : Int32} (ab : ABd A) (ws : WYs wy y S) (wn : WYn y S) (pv : PVx wy y ls S) (hq : ls[i]? = some q) (hi : i < 224) (hmm : mm ≤ tl) (htl : tl ≤ 400) (hv : MvB A q) (hF : mF q < aP A) (tc : TCk y A tl (mm + 1) tb S) {cu : Nat → TE} (hcu : ∀ p, p < aP A → KCx y S (401 * p + mm) (cu p) ∧ EB tl mm (cu p)) (hs : (s0 = 0 ∧ ¬ mm + mD q ≤ tl) ∨ (s0 = 1 ∧ mm + mD q ≤ tl))
    (hE : ∀ T, YC y mm S T → (∀ p, p < aP A → KCx y T (401 * p + mm) (stE tb tl mm p (cu p) q) ∧ EB tl mm (stE tb tl mm p (cu p) q)) → X62 wy (nI mm) (nI (i + 1)) T → X62' wy (nI mm) (nI (i + 1)) T)
    (h : P_X7_reckonMinute_117 Q X62 wy (nI mm) (nI i) (nI (401 * mF q + mm)) (nI (401 * mT q + (mm + mD q))) s0 S) : P_X7_reckonMinute_117 Q' X62' wy (nI mm) (nI i) (nI (401 * mF q + mm)) (nI (401 * mT q + (mm + mD q))) s0 S := by
  have b2 := ab.2.2.1
  have hT := hv.1
  have n12 : y 1 ≠ y 2 := ws_ne ws (by decide) (by decide) (by decide)
  have len1 : hN S (y 1) = 3208 := wn (1, 3208) (by decide)
  have e0 : (0 : Int32).toInt = 0 := by decide
  have ci : (nI i).toNatClampNeg = i := nI_cl (by omega)
  obtain ⟨-, -, -, m7, m8⟩ := pv.1 i q hq
  have nx : ∀ T, YC y mm S T → (∀ p, p < aP A → KCx y T (401 * p + mm) (stE tb tl mm p (cu p) q) ∧ EB tl mm (stE tb tl mm p (cu p) q)) → P_X7_reckonMinute_219 Q X62 wy (nI mm) (nI i) T → P_X7_reckonMinute_219 Q' X62' wy (nI mm) (nI i) T := by
    intro T yc hc h
    delta P_X7_reckonMinute_219
    intro x1 q1
    have h := h x1 q1
    have q1 : x1 = nI (i + 1) := by rw [q1]; exact nI_add i 1
    subst q1
    exact hE T yc hc h
  have skip : (∀ p, p < aP A → stE tb tl mm p (cu p) q = cu p) → P_X7_reckonMinute_219 Q X62 wy (nI mm) (nI i) S → P_X7_reckonMinute_219 Q' X62' wy (nI mm) (nI i) S := fun hz h => nx S yc_rf (fun p hp => by rw [hz p hp]; exact hcu p hp) h
  delta P_X7_reckonMinute_117
  refine ⟨fun c => ?_, fun c => ?_⟩
  · have nd : ¬ mm + mD q ≤ tl := hs.elim (fun z => z.2) (fun z => by rw [z.1] at c; exact absurd c (by decide))
    exact skip (fun p hp => if_neg (fun z => nd z.2)) (h.1 c)
  have hd : mm + mD q ≤ tl := hs.elim (fun z => absurd z.1 c) (fun z => z.2)
  have n4 : (nI (401 * mF q + mm)).toInt = ((401 * mF q + mm : Nat) : Int) := nI_i (by omega)
  have n5 : (nI (401 * mT q + (mm + mD q))).toInt = ((401 * mT q + (mm + mD q) : Nat) : Int) := nI_i (by omega)
  have c4 : (nI (401 * mF q + mm)).toNatClampNeg = 401 * mF q + mm := nI_cl (by omega)
  have c5 : (nI (401 * mT q + (mm + mD q))).toNatClampNeg = 401 * mT q + (mm + mD q) := nI_cl (by omega)
  have nL : (nI (hN S (y 1))).toInt = 3208 := by rw [len1]; exact nI_i (by omega)
  have cell := tc (mm + mD q) (by have := hv.2.1; omega) hd (mT q) hT
  have here := hcu (mF q) hF
  have kb := kv_b cell.2 htl
  have h := h.2 c
  refine ⟨fun d => by have := lt_i d; omega, fun d => ?_⟩
  obtain ⟨o1, a3, e3, o3, h⟩ := h.2 d
  cases (ws.2.1 1 (by decide)).symm.trans e3
  refine ⟨o1, _, e3, o3, fun d => by have := le_i d; omega, fun d => ?_⟩
  have h := h.2 d
  refine ⟨fun d => by have := lt_i d; omega, fun d => ?_⟩
  obtain ⟨a6, e6, o6, h⟩ := h.2 d
  cases (ws.2.1 1 (by decide)).symm.trans e6
  refine ⟨_, e6, o6, fun d => by have := le_i d; omega, fun d => ?_⟩
  obtain ⟨a8, e8, o8, i8, h⟩ := h.2 d
  cases (ws.2.1 1 (by decide)).symm.trans e8
  refine ⟨_, e8, o8, i8, fun x10 q10 => ?_⟩
  have h := h x10 q10
  rw [c5] at q10
  have v10 : x10.toInt = kvE (tb (mT q) (mm + mD q)) := by rw [q10]; exact cell.1.1
  have eCl : (4611686018427387904 : Int64).toInt = 4611686018427387904 := by decide
  refine ⟨fun d => skip (fun p hp => ?_) (h.1 d), fun d => ?_⟩
  · have z := lgc_eq.mp d
    have tn := kb.2.2.mp (by rw [← v10, z, eCl])
    unfold stE
    by_cases y : mF q = p ∧ mm + mD q ≤ tl
    · rw [if_pos y, tn]
      exact mn_none _
    · rw [if_neg y]
  have ts : ¬ tb (mT q) (mm + mD q) = none := fun z => d (lgc_eq.mpr (Int64.toInt_inj.mp (by rw [v10, eCl]; exact kb.2.2.mpr z)))
  obtain ⟨a, ta⟩ : ∃ a, tb (mT q) (mm + mD q) = some a := by
    cases z : tb (mT q) (mm + mD q) with
    | none => exact absurd z ts
    | some a => exact ⟨a, rfl⟩
  have ck := cd_kv (co := mC q) (k := mK q) ta
  have ceb := cd_eb hv hd cell.2
  have cb := kv_b ceb htl
  obtain ⟨a12, e12, o12, i12, h⟩ := h.2 d
  cases (ws.2.1 7 (by decide)).symm.trans e12
  refine ⟨_, e12, o12, i12, fun x14 q14 => ?_⟩
  have h := h x14 q14
  rw [ci] at q14
  obtain ⟨a15, e15, o15, i15, h⟩ := h
  cases (ws.2.1 1 (by decide)).symm.trans e15
  refine ⟨_, e15, o15, i15, fun x17 q17 x18 q18 => ?_⟩
  have h := h x17 q17 x18 q18
  rw [c5] at q17
  have v17 : x17.toInt = kvE (tb (mT q) (mm + mD q)) := by rw [q17]; exact cell.1.1
  have v14 : x14.toInt = 512 * mC q := by rw [q14]; exact m7
  have mc := hv.2.2
  have ne17 : ¬ kvE (tb (mT q) (mm + mD q)) = 4611686018427387904 := fun z => ts (kb.2.2.mp z)
  have v18 : x18.toInt = kvE (cdE (tb (mT q) (mm + mD q)) (mC q) (mK q)) := by
    have s := (bJ_add (x := x14) (y := x17) (a := 512 * mC q) (b := kvE (tb (mT q) (mm + mD q))) (B := 959396659200000) (C := 3600000000000000000) ⟨v14, by omega, by omega⟩ ⟨v17, kb.1, ?_⟩ (by decide)).1
    · rw [q18, s, ck.1]
    · obtain ⟨h1, h2, h3, h4⟩ := cell.2 a ta
      have e : kvE (tb (mT q) (mm + mD q)) = 512 * a.1 + a.2.1 := by rw [ta]; rfl
      have hb : ((tl - (mm + mD q) : Nat) : Int) * 1873821600000 ≤ 400 * 1873821600000 := by omega
      rw [e]
      omega
  obtain ⟨a19, e19, o19, i19, h⟩ := h
  cases (ws.2.1 1 (by decide)).symm.trans e19
  refine ⟨_, e19, o19, i19, fun x21 q21 => ?_⟩
  have h := h x21 q21
  rw [c4] at q21
  have v21 : x21.toInt = kvE (cu (mF q)) := by rw [q21]; exact here.1.1
  have cmp := kv_lt ceb here.2 htl
  refine ⟨fun d => skip (fun p hp => ?_) (h.1 d), fun d => ?_⟩
  · have nl : ¬ lE (cdE (tb (mT q) (mm + mD q)) (mC q) (mK q)) (cu (mF q)) := fun z => by
      have z := cmp.mpr z
      exact (lgc_ge.mpr (by rw [v18, v21]; exact z)) d
    unfold stE
    by_cases y : mF q = p ∧ mm + mD q ≤ tl
    · rw [if_pos y, ← y.1]
      exact dc_n nl
    · rw [if_neg y]
  have le : lE (cdE (tb (mT q) (mm + mD q)) (mC q) (mK q)) (cu (mF q)) := cmp.mp (by
    have z := lgc_ge.mp d
    rw [v18, v21] at z
    exact z)
  obtain ⟨a23, e23, o23, i23, h⟩ := h.2 d
  cases (ws.2.1 1 (by decide)).symm.trans e23
  refine ⟨_, e23, o23, i23, fun S25 q25 => ?_⟩
  obtain ⟨a26, e26, a27, e27, o27, i27, h⟩ := h S25 q25
  rw [c4] at q25
  have f25 : fR S25 = fR S ∧ fI S25 = fI S := by rw [q25]; exact ⟨rfl, rfl⟩
  cases (ws.2.1 2 (by decide)).symm.trans (by rw [← f25.1]; exact e26 : fR S wy 2 = some a26)
  cases (ws.2.1 8 (by decide)).symm.trans (by rw [← f25.1]; exact e27 : fR S wy 8 = some a27)
  refine ⟨_, e26, _, e27, o27, i27, fun x29 q29 => ?_⟩
  obtain ⟨o29, i29, h⟩ := h x29 q29
  refine ⟨o29, i29, fun S31 q31 => ?_⟩
  have h := h S31 q31
  rw [ci, f25.2, m8] at q29
  rw [c4] at q31
  have r31 : fI S31 (y 2) = va_up (fI S (y 2)) (401 * mF q + mm) x29 := by rw [row_I q31, f25.2]
  have jj : fJ S31 = u2 (fJ S) (y 1) (401 * mF q + mm) x18 := by rw [q31, q25]; rfl
  have j31 : fJ S31 (y 1) = va_up (fJ S (y 1)) (401 * mF q + mm) x18 := by rw [jj]; exact u2_self_row _ _ _ _
  have oth : ∀ i, i ≠ 401 * mF q + mm → fJ S31 (y 1) i = fJ S (y 1) i ∧ fI S31 (y 2) i = fI S (y 2) i := fun i hi => ⟨by rw [j31]; exact va_up_ne _ _ hi, by rw [r31]; exact va_up_ne _ _ hi⟩
  refine nx S31 ⟨⟨by rw [q31, q25]; rfl, by rw [q31, q25]; rfl, by rw [q31, q25]; rfl, by rw [q31, q25]; rfl, fun x a => by rw [row_o q31 a, f25.2], fun x a => by rw [jj]; exact u2_row _ _ a⟩, fun i hi => oth i (fun z => hi (by rw [z]; omega))⟩ (fun p hp => ?_) h
  by_cases z : mF q = p
  · have es : stE tb tl mm p (cu p) q = cdE (tb (mT q) (mm + mD q)) (mC q) (mK q) := by
      unfold stE
      rw [if_pos ⟨z, hd⟩, ← z]
      exact dc_y le
    rw [es, ← z]
    exact ⟨⟨by rw [j31, va_up_self]; exact v18, by rw [r31, va_up_self, q29]; exact ck.2.symm⟩, ceb⟩
  · have es : stE tb tl mm p (cu p) q = cu p := if_neg (fun y => z y.1)
    rw [es]
    have k := hcu p hp
    exact ⟨⟨by rw [(oth _ (by omega)).1]; exact k.1.1, by rw [(oth _ (by omega)).2]; exact k.1.2⟩, k.2⟩
/-- all moves, at a minute -/
theorem yw62 (ab : ABd A) (ws : WYs wy y S) (wn : WYn y S) (pv : PVx wy y ls S) (hll : ls.length ≤ 224) (ht : fI S wy 12 = nI tl) (hmm : mm ≤ tl) (htl : tl ≤ 400) (hv : ∀ q ∈ ls, MvB A q ∧ mF q < aP A) (tc : TCk y A tl (mm + 1) tb S) {cu : Nat → TE} (hcu : ∀ p, p < aP A → KCx y S (401 * p + mm) (cu p) ∧ EB tl mm (cu p)) (h : P_X7_reckonMinute_62 Q wy (nI mm) 0 S) : P_X7_reckonMinute_62 (fun T => Q T ∧ YC y mm S T ∧ ∀ p, p < aP A → KCx y T (401 * p + mm) (flE tb tl mm p ls (cu p))) wy (nI mm) 0 S := by
  have b2 := ab.2.2.1
  have e224 : (224 : Int32).toInt = 224 := by decide
  intro X hX
  refine h (fun a0 a2 v3 T => (wy = a0 ∧ nI mm = a2 ∧ ∃ l1 l2, ls = l1 ++ l2 ∧ nI l1.length = v3 ∧ YC y mm S T ∧ ∀ p, p < aP A → KCx y T (401 * p + mm) (flE tb tl mm p l1 (cu p)) ∧ EB tl mm (flE tb tl mm p l1 (cu p))) → X a0 a2 v3 T) ?_ ⟨rfl, rfl, [], ls, rfl, rfl, yc_rf, hcu⟩
  rintro a0 a2 v3 T h ⟨rfl, rfl, l1, l2, hsp, rfl, yc, hc⟩
  apply hX
  have wsT := wys_ym ws (yk_ym (wy := wy) (b0 := 0) (b1 := 0) yc.1)
  have wnT := wyn_ym wn (yk_ym (wy := wy) (b0 := 0) (b1 := 0) yc.1)
  have pvT := pv_yk ws yc.1 pv
  have lsl : ls.length = l1.length + l2.length := by rw [hsp, List.length_append]
  have iwT : fI T wy = fI S wy := yc.1.2.2.2.2.1 wy (Ne.symm (ws_wy ws (by decide)))
  obtain ⟨o1, h⟩ := h
  refine ⟨o1, fun x1 q1 => ?_⟩
  have h := h x1 q1
  have q1 := q1.trans pvT.2.1
  have n1 : x1.toInt = (ls.length : Int) := by rw [q1, nI_i (by omega)]
  have ni : (nI l1.length).toInt = (l1.length : Int) := nI_i (by omega)
  refine ⟨fun c => ⟨h.1 c, yc, ?_⟩, fun c => ?_⟩
  · have := le_i c
    have z : l2 = [] := List.eq_nil_of_length_eq_zero (by omega)
    rw [z, List.append_nil] at hsp
    rw [hsp]
    exact fun p hp => (hc p hp).1
  have lt := nle_i c
  have h := h.2 c
  refine ⟨fun d => by have := le_i d; omega, fun d => ?_⟩
  obtain ⟨q, l3, rfl⟩ : ∃ q l3, l2 = q :: l3 := by
    cases l2 with
    | nil =>
      have z : ([] : List MVx).length = 0 := rfl
      omega
    | cons q l3 => exact ⟨q, l3, rfl⟩
  have hq : ls[l1.length]? = some q := by
    rw [hsp, List.getElem?_append_right (Nat.le_refl _), Nat.sub_self]
    rfl
  have hi : l1.length < 224 := by omega
  have mq : q ∈ ls := by rw [hsp]; exact List.mem_append_right _ List.mem_cons_self
  obtain ⟨m4, m5, m6, -, -⟩ := pvT.1 _ q hq
  have ci : (nI l1.length).toNatClampNeg = l1.length := nI_cl (by omega)
  obtain ⟨a4, e4, o4, i4, h⟩ := h.2 d
  cases (wsT.2.1 4 (by decide)).symm.trans e4
  refine ⟨_, e4, o4, i4, fun x6 q6 x7 q7 => ?_⟩
  obtain ⟨a8, e8, o8, i8, h⟩ := h x6 q6 x7 q7
  cases (wsT.2.1 5 (by decide)).symm.trans e8
  refine ⟨_, e8, o8, i8, fun x10 q10 x11 q11 => ?_⟩
  obtain ⟨a12, e12, o12, i12, h⟩ := h x10 q10 x11 q11
  cases (wsT.2.1 6 (by decide)).symm.trans e12
  refine ⟨_, e12, o12, i12, fun x14 q14 x15 q15 => ?_⟩
  have h := h x14 q14 x15 q15
  rw [ci, m4] at q6
  rw [ci, m5] at q10
  rw [ci, m6] at q14
  rw [iwT, ht] at q15
  have q7 : x7 = nI (401 * mF q + mm) := by rw [q7, q6, nI_add]
  have q11 : x11 = nI (401 * mT q + (mm + mD q)) := by rw [q11, q10, nI_add, Nat.add_assoc, Nat.add_comm (mD q) mm]
  subst q7 q11
  have vq := hv q mq
  have bd := pv.2.2 q mq
  have nd : (x15 - nI mm).toInt = ((tl - mm : Nat) : Int) := by
    rw [q15, nJ_sub (by omega) hmm]
    exact nI_i (by omega)
  have n14 : x14.toInt = (mD q : Int) := by rw [q14]; exact nI_i (by omega)
  have tcT := tck_yc yc htl (Nat.lt_succ_self mm) tc
  have fin : ∀ U, YC y mm T U → (∀ p, p < aP A → KCx y U (401 * p + mm) (stE tb tl mm p (flE tb tl mm p l1 (cu p)) q) ∧ EB tl mm (stE tb tl mm p (flE tb tl mm p l1 (cu p)) q)) → ((wy = wy ∧ nI mm = nI mm ∧ ∃ l1_1 l2, ls = l1_1 ++ l2 ∧ nI l1_1.length = nI (l1.length + 1) ∧ YC y mm S U ∧ ∀ p, p < aP A → KCx y U (401 * p + mm) (flE tb tl mm p l1_1 (cu p)) ∧ EB tl mm (flE tb tl mm p l1_1 (cu p))) → X wy (nI mm) (nI (l1.length + 1)) U) → X wy (nI mm) (nI (l1.length + 1)) U := fun U yU hU hF => hF ⟨rfl, rfl, l1 ++ [q], l3, by rw [hsp, List.append_assoc]; rfl, by rw [List.length_append]; rfl, yc_tr yc yU, fun p hp => by rw [fl_app, fl_one]; exact hU p hp⟩
  refine ⟨fun c2 => ?_, fun c2 => ?_⟩
  · have := lt_i c2
    exact yw117 ab wsT wnT pvT hq hi hmm htl vq.1 vq.2 tcT hc (Or.inl ⟨rfl, by omega⟩) fin (h.1 c2)
  · have := nlt_i c2
    exact yw117 ab wsT wnT pvT hq hi hmm htl vq.1 vq.2 tcT hc (Or.inr ⟨rfl, by omega⟩) fin (h.2 c2)
theorem in_eb (hmm : mm ≤ tl) : EB tl mm (inE gl mm p) := by
  unfold inE
  by_cases z : p = gl
  · rw [if_pos z]
    intro a ha
    cases ha
    show (0 : Int) ≤ 0 ∧ (0 : Int) ≤ _ ∧ (mm : Int) ≤ (mm : Int) ∧ (mm : Int) ≤ _
    omega
  · rw [if_neg z]
    intro a ha
    cases ha
/-- a minute -/
theorem yw_reckonMinute (ab : ABd A) (gb : GBd A G) (ge : GBe A G) (iw : w < aW A) (igl : gl < aP A) (ws : WYs wy y S) (wn : WYn y S) (pv : PVx wy y (PLw A G w (min (mm / aH A) (aHs A)) gl) S) (hll : (PLw A G w (min (mm / aH A) (aHs A)) gl).length ≤ 224) (hg : fI S wy 11 = nI gl) (ht : fI S wy 12 = nI tl) (hmm : mm ≤ tl) (htl : tl ≤ 400) (tc : TCk y A tl (mm + 1) tb S) (h : P_X7_reckonMinute wy (nI (aP A)) (nI mm) Q S) : P_X7_reckonMinute wy (nI (aP A)) (nI mm) (fun T => Q T ∧ YC y mm S T ∧ ∀ p, p < aP A → KCx y T (401 * p + mm) (btE A G w gl tl tb p mm)) S := by
  have b2 := ab.2.2.1
  have e8 : (8 : Int32).toInt = 8 := by decide
  have hv : ∀ q ∈ PLw A G w (min (mm / aH A) (aHs A)) gl, MvB A q ∧ mF q < aP A := fun q hq => by
    have z := flw_b ab gb ge iw _ q (pl_mem hq)
    exact ⟨z.1, z.2.2⟩
  have go : ∀ T, YC y mm S T → (∀ p, p < aP A → KCx y T (401 * p + mm) (inE gl mm p)) → P_X7_reckonMinute_60 Q wy (nI mm) T → P_X7_reckonMinute_60 (fun T => Q T ∧ YC y mm S T ∧ ∀ p, p < aP A → KCx y T (401 * p + mm) (btE A G w gl tl tb p mm)) wy (nI mm) T := by
    intro T yc hc h
    have wsT := wys_ym ws (yk_ym (wy := wy) (b0 := 0) (b1 := 0) yc.1)
    have wnT := wyn_ym wn (yk_ym (wy := wy) (b0 := 0) (b1 := 0) yc.1)
    have iwT : fI T wy = fI S wy := yc.1.2.2.2.2.1 wy (Ne.symm (ws_wy ws (by decide)))
    delta P_X7_reckonMinute_60
    refine cm_X7_reckonMinute_62 (yw62 (cu := inE gl mm) ab wsT wnT (pv_yk ws yc.1 pv) hll (by rw [iwT]; exact ht) hmm htl hv (tck_yc yc htl (Nat.lt_succ_self mm) tc) (fun p hp => ⟨hc p hp, in_eb hmm⟩) h) h (fun U hp hq => ⟨hq, yc_tr yc hp.2.1, fun p ip => ?_⟩)
    have k := hp.2.2 p ip
    unfold btE
    unfold inE at k
    by_cases z : p = gl
    · rw [if_pos z] at k ⊢
      rw [fl_skip (fun q hq => by rw [z]; exact pl_ne q hq)] at k
      exact k
    · rw [if_neg z] at k ⊢
      rw [pl_fold ab gb iw z] at k
      exact k
  delta P_X7_reckonMinute P_X7_reckonMinute_0
  intro X hX
  refine h (fun a0 a1 a2 v3 T => (wy = a0 ∧ nI (aP A) = a1 ∧ nI mm = a2 ∧ ∃ p, nI p = v3 ∧ p ≤ aP A ∧ YC y mm S T ∧ ∀ p', p' < p → KCx y T (401 * p' + mm) (inE gl mm p')) → X a0 a1 a2 v3 T) ?_ ⟨rfl, rfl, rfl, 0, rfl, Nat.zero_le _, yc_rf, fun p' hp' => absurd hp' (Nat.not_lt_zero p')⟩
  rintro a0 a1 a2 v3 T h ⟨rfl, rfl, rfl, p, rfl, hp, yc, hc⟩
  apply hX
  have wsT := wys_ym ws (yk_ym (wy := wy) (b0 := 0) (b1 := 0) yc.1)
  have iwT : fI T wy = fI S wy := yc.1.2.2.2.2.1 wy (Ne.symm (ws_wy ws (by decide)))
  have np : (nI p).toInt = (p : Int) := nI_i (by omega)
  have nP : (nI (aP A)).toInt = (aP A : Int) := nI_i (by omega)
  refine ⟨fun c => ?_, fun c => ?_⟩
  · have := le_i c
    have z : p = aP A := by omega
    exact go T yc (fun p' hp' => hc p' (by omega)) (h.1 c)
  have lt := nle_i c
  have h := h.2 c
  refine ⟨fun d => by have := le_i d; omega, fun d => ?_⟩
  obtain ⟨o1, a3, e3, h⟩ := h.2 d
  cases (wsT.2.1 1 (by decide)).symm.trans e3
  refine ⟨o1, _, e3, fun x4 q4 => ?_⟩
  have h := h x4 q4
  rw [iwT, hg] at q4
  have ip : p < aP A := by omega
  have fin : ∀ U, YC y mm T U → KCx y U (401 * p + mm) (inE gl mm p) → (∀ p', p' ≠ p → p' < aP A → ∀ t, KCx y T (401 * p' + mm) t → KCx y U (401 * p' + mm) t) → ((wy = wy ∧ nI (aP A) = nI (aP A) ∧ nI mm = nI mm ∧ ∃ p_1, nI p_1 = nI (p + 1) ∧ p_1 ≤ aP A ∧ YC y mm S U ∧ ∀ p', p' < p_1 → KCx y U (401 * p' + mm) (inE gl mm p')) → X wy (nI (aP A)) (nI mm) (nI (p + 1)) U) → X wy (nI (aP A)) (nI mm) (nI (p + 1)) U := fun U yU kU oU hF => hF ⟨rfl, rfl, rfl, p + 1, rfl, by omega, yc_tr yc yU, fun p' hp' => by
    by_cases z : p' = p
    · rw [z]; exact kU
    · exact oU p' z (by omega) _ (hc p' (by omega))⟩
  refine ⟨fun c2 => ?_, fun c2 => ?_⟩
  · refine yw40 (gl := gl) wsT b2 ip (by omega) ?_ fin (h.1 c2)
    unfold inE
    rw [if_neg (fun z => c2 (by rw [q4, z]))]
    decide
  · refine yw40 (gl := gl) wsT b2 ip (by omega) ?_ fin (h.2 c2)
    have e : p = gl := nI_injw (by omega) (by omega) (c2.trans q4)
    unfold inE
    rw [if_pos e]
    show (nI mm).toInt64.toInt = 512 * 0 + (mm : Int)
    rw [Int32.toInt_toInt64, nI_i (by omega)]
    omega
end C74
/-! ways: the class's rows made; the class reckons -/
def WYk (wy : Nat) (y : Nat → Nat) (A : AS) (G : GC) (w gl tl lo : Nat) (S : HS) : Prop := fI S wy 10 = nI w ∧ fI S wy 11 = nI gl ∧ fI S wy 12 = nI tl ∧ fI S wy 13 = nI lo ∧ lo ≤ tl + 1 ∧ TCk y A tl lo (TBw A G w gl tl) S ∧ (fI S wy 9 = -1 ∨ ∃ hh, hh ≤ 6 ∧ fI S wy 9 = nI hh ∧ PVx wy y (PLw A G w hh gl) S)
def WYv (wy : Nat) (y : Nat → Nat) (A : AS) (G : GC) (S : HS) : Prop := fI S wy 10 = -1 ∨ (WYn y S ∧ ∃ w gl tl lo, w < aW A ∧ gl < aP A ∧ tl ≤ 400 ∧ WYk wy y A G w gl tl lo S)
def CLx (S : HS) : Prop := ∀ x k j b, ob S x k → k < 12 → fR S x j = some b → b ∈ hL S
section C75
variable {wy b0 b1 lg w1 w gl tl hh mm p i lo fr x k : Nat} {y : Nat → Nat} {S S0 T U : HS} {A : AS} {G : GC} {ls : List MVx} {tb : Nat → Nat → TE} {v1 v2 v3 v6 v7 : Int32} {Q Q' : HS → Prop}
theorem bx_X7_makeRows (cl : CLx S) (o : ob S wy 7) (h : P_X7_makeRows wy Q S) : P_X7_makeRows wy (fun T => Q T ∧ BX S T wy rowsF (fI S wy)) S := by
  delta P_X7_makeRows P_X7_makeRows_0
  have b0 := bx_rf (S0 := S) (v := wy) (fun j b e => cl wy 7 j b o (by omega) e)
  intro a0 q0 T0 e0
  obtain ⟨o0, h⟩ := h a0 q0 T0 e0
  refine ⟨o0, ?_⟩
  intro U0 g0
  have b1 := bx_arr b0 o.1 q0 e0 g0 (by decide) (by decide)
  intro a1 q1 T1 e1 U1 g1
  have b2 := bx_arr b1 o.1 q1 e1 g1 (by decide) (by decide)
  intro a2 q2 T2 e2 U2 g2
  have b3 := bx_arr b2 o.1 q2 e2 g2 (by decide) (by decide)
  intro a3 q3 T3 e3 U3 g3
  have b4 := bx_arr b3 o.1 q3 e3 g3 (by decide) (by decide)
  intro a4 q4 T4 e4 U4 g4
  have b5 := bx_arr b4 o.1 q4 e4 g4 (by decide) (by decide)
  intro a5 q5 T5 e5 U5 g5
  have b6 := bx_arr b5 o.1 q5 e5 g5 (by decide) (by decide)
  intro a6 q6 T6 e6 U6 g6
  have b7 := bx_arr b6 o.1 q6 e6 g6 (by decide) (by decide)
  intro a7 q7 T7 e7 U7 g7
  have b8 := bx_arr b7 o.1 q7 e7 g7 (by decide) (by decide)
  exact ⟨h U0 g0 a1 q1 T1 e1 U1 g1 a2 q2 T2 e2 U2 g2 a3 q3 T3 e3 U3 g3 a4 q4 T4 e4 U4 g4 a5 q5 T5 e5 U5 g5 a6 q6 T6 e6 U6 g6 a7 q7 T7 e7 U7 g7, b8⟩
theorem wys_bx (cl : CLx S) (o : ob S wy 7) (bx : BX S T wy rowsF (fI S wy)) : ∃ y, WYs wy y T ∧ WYn y T := by
  have oT := gr_ob bx.1 o
  have hd : ∀ j ∈ jW, ∃ e ∈ rowsF, e.1 = j := by decide
  have hdI : ∀ j ∈ jI, ∃ e ∈ rowsF, e.1 = j ∧ e.2.1 = 13 := by decide
  have hdJ : ∀ j ∈ jJ, ∃ e ∈ rowsF, e.1 = j ∧ e.2.1 = 14 := by decide
  have hdN : ∀ e ∈ wyT, ∃ f ∈ rowsF, f.1 = e.1 ∧ f.2.2 = e.2 := by decide
  have hy : ∀ e ∈ rowsF, fR T wy e.1 = some ((fR T wy e.1).getD 0) ∧ (fR T wy e.1).getD 0 ∉ hL S ∧ ob T ((fR T wy e.1).getD 0) e.2.1 ∧ hN T ((fR T wy e.1).getD 0) = e.2.2 := fun e he => by
    obtain ⟨b, h1, h2, h3, h4, -⟩ := bx.2.2.2.1 e he
    rw [h1]
    exact ⟨rfl, h2, h3, h4⟩
  have nw : ∀ (L : List (Nat × Nat)), (∀ q ∈ L, q.1 < 12 ∧ q.1 ≠ 7) → ∀ e ∈ rowsF, NW9 L T ((fR T wy e.1).getD 0) := fun L hLk e he q hq x ox z => by
    have hk := hLk q hq
    have xS : x ∈ hL S := (bx.2.2.1 x ox.1).elim id (fun z => by have := ox.2; omega)
    have oS : ob S x q.1 := ⟨xS, ((bx.1 x xS).2.1).symm.trans ox.2⟩
    have nx : x ≠ wy := ob_ne oS o hk.2
    rw [(bx.2.1 x xS nx).2.2] at z
    exact (hy e he).2.1 (cl x q.1 q.2 _ oS hk.1 z)
  refine ⟨fun j => (fR T wy j).getD 0, ⟨oT, fun j hj => ?_, fun i hi j hj e => ?_, fun j hj => ?_, fun j hj => ?_⟩, fun e he => ?_⟩
  · obtain ⟨e, he, rfl⟩ := hd j hj
    exact (hy e he).1
  · obtain ⟨e1, he1, rfl⟩ := hd i hi
    obtain ⟨e2, he2, rfl⟩ := hd j hj
    have e : (fR T wy e1.1).getD 0 = (fR T wy e2.1).getD 0 := e
    exact bx.2.2.2.2.2.1 e1.1 e2.1 _ (hy e1 he1).2.1 (hy e1 he1).1 (by rw [e]; exact (hy e2 he2).1)
  · obtain ⟨e, he, rfl, q⟩ := hdI j hj
    refine ⟨?_, nw LWJ (by decide) e he⟩
    have z := (hy e he).2.2.1
    rw [q] at z
    exact z
  · obtain ⟨e, he, rfl, q⟩ := hdJ j hj
    refine ⟨?_, nw LWL (by decide) e he⟩
    have z := (hy e he).2.2.1
    rw [q] at z
    exact z
  · obtain ⟨f, hf, q1, q2⟩ := hdN e he
    have z := (hy f hf).2.2.2
    rw [q1, q2] at z
    exact z
theorem wt_bx (o : ob S wy 7) (bx : BX S T wy rowsF (fI S wy)) (h8 : WT w A G S) : WT w A G T := by
  obtain ⟨h1, h2, h3, h4, h5, h6⟩ := h8
  have rw8 := fun {x k : Nat} (ox : ob S x k) (hk : k ≠ 7) => bx.2.1 x ox.1 (ob_ne ox o hk)
  have g := bx.1
  refine ⟨gr_ob g h1, ?_, fun a e => ?_, fun a e => ?_, fun a e => ?_, fun a e => ?_⟩
  · unfold Cnt
    rw [(rw8 h1 (by decide)).1]
    exact h2
  · rw [(rw8 h1 (by decide)).2.2] at e
    obtain ⟨o, n, q⟩ := h3 a e
    refine ⟨gr_ob g o, by rw [gr_len g o]; exact n, fun i p hi hp => ?_⟩
    rw [(rw8 o (by decide)).2.2] at hp
    obtain ⟨o2, q2⟩ := q i p hi hp
    exact ⟨gr_ob g o2, fun j hj => by rw [(rw8 o2 (by decide)).1]; exact q2 j hj⟩
  · rw [(rw8 h1 (by decide)).2.2] at e
    obtain ⟨o, n, q⟩ := h4 a e
    refine ⟨gr_ob g o, by rw [gr_len g o]; exact n, fun i p hi hp => ?_⟩
    rw [(rw8 o (by decide)).2.2] at hp
    obtain ⟨o2, q2⟩ := q i p hi hp
    exact ⟨gr_ob g o2, fun j hj => by rw [(rw8 o2 (by decide)).1]; exact q2 j hj⟩
  · rw [(rw8 h1 (by decide)).2.2] at e
    obtain ⟨o, n, q⟩ := h5 a e
    refine ⟨gr_ob g o, by rw [gr_len g o]; exact n, fun i p hi hp => ?_⟩
    rw [(rw8 o (by decide)).2.2] at hp
    obtain ⟨o2, q2⟩ := q i p hi hp
    exact ⟨gr_ob g o2, fun j hj => by rw [(rw8 o2 (by decide)).1]; exact q2 j hj⟩
  · rw [(rw8 h1 (by decide)).2.2] at e
    obtain ⟨o, n, q⟩ := h6 a e
    refine ⟨gr_ob g o, by rw [gr_len g o]; exact n, fun i hi => ?_⟩
    rw [(rw8 o (by decide)).1]
    exact q i hi
theorem hr_m (ab : ABd A) (hm : mm < 100000) : (if nI (aHs A) < hrO A (nI mm) then nI (aHs A) else hrO A (nI mm)) = nI (min (mm / aH A) (aHs A)) := by
  have a2 := ab.2.1
  have e : hrO A (nI mm) = nI (mm / aH A) := by
    by_cases z : aH A = 0
    · unfold hrO
      rw [if_pos z, z, Nat.div_zero]
      rfl
    · exact hr_n ab hm z
  have q : mm / aH A ≤ mm := Nat.div_le_self mm (aH A)
  rw [e]
  generalize mm / aH A = d at q
  by_cases c : nI (aHs A) < nI d
  · have := lt_i c
    rw [nI_i (by omega), nI_i (by omega)] at this
    rw [if_pos c, Nat.min_eq_right (by omega)]
  · have := nlt_i c
    rw [nI_i (by omega), nI_i (by omega)] at this
    rw [if_neg c, Nat.min_eq_left (by omega)]
theorem tck_same (e1 : fJ T (y 1) = fJ S (y 1)) (e2 : fI T (y 2) = fI S (y 2)) (tc : TCk y A tl lo tb S) : TCk y A tl lo tb T := fun m' h1 h2 p' hp' => ⟨⟨by rw [e1]; exact (tc m' h1 h2 p' hp').1.1, by rw [e2]; exact (tc m' h1 h2 p' hp').1.2⟩, (tc m' h1 h2 p' hp').2⟩
/-- a minute, its moves priced -/
theorem yw120 {X76 X76' : Nat → Nat → Nat → Int32 → Int32 → HS → Prop} (ab : ABd A) (gb : GBd A G) (ge : GBe A G) (iw : w < aW A) (igl : gl < aP A) (htl : tl ≤ 400) (hmm : mm ≤ tl) (ws : WYs wy y S) (wn : WYn y S) (h8 : WT w1 A G S) (k : WYk wy y A G w gl tl (mm + 1) S) (e9 : fI S wy 9 = nI (min (mm / aH A) (aHs A))) (pv : PVx wy y (PLw A G w (min (mm / aH A) (aHs A)) gl) S)
    (hE : ∀ T, YM wy y b0 b1 S T → WYk wy y A G w gl tl mm T → X76 wy w1 lg v6 (nI mm - 1) T → X76' wy w1 lg v6 (nI mm - 1) T)
    (h : P_X7_reckon_120 Q X76 wy w1 lg v6 (nI mm) S) : P_X7_reckon_120 Q' X76' wy w1 lg v6 (nI mm) S := by
  have a2 := ab.2.1
  have b2 := ab.2.2.1
  have hmn : min (mm / aH A) (aHs A) ≤ 6 := Nat.le_trans (Nat.min_le_right _ _) a2
  have hb : ∀ h, ∀ q ∈ FLw A G w h, MvB A q := fun h q hq => (flw_b ab gb ge iw h q hq).1
  obtain ⟨k1, k2, k3, k4, k5, k6, -⟩ := k
  delta P_X7_reckon_120
  obtain ⟨o1, h⟩ := h
  refine ⟨o1, fun x1 q1 => ?_⟩
  obtain ⟨o2, h⟩ := h x1 q1
  refine ⟨o2, ?_⟩
  have q1 := q1.trans h8.2.1.2.2.1
  subst q1
  refine cm_X7_reckonMinute (yw_reckonMinute ab gb ge iw igl ws wn pv (pl_len ab gb iw) k2 k3 hmm htl k6 h) h (fun S2 hp h g => ?_)
  have h := h g
  obtain ⟨-, yc, cells⟩ := hp
  intro S5 q5 x6 q6
  have h := h S5 q5 x6 q6
  have q6 : x6 = nI mm - 1 := by rw [q6]; exact (Int32.sub_eq_add_neg _ _).symm
  subst q6
  have ym2 : YM wy y b0 b1 S S2 := yk_ym yc.1
  have i2 : fI S2 wy = fI S wy := yc.1.2.2.2.2.1 wy (Ne.symm (ws_wy ws (by decide)))
  have r5 : fI S5 wy = va_up (fI S wy) 13 (nI mm) := by rw [row_I q5, i2]
  have z5 : ∀ x, x ≠ wy → fI S5 x = fI S2 x := fun x hx => row_o q5 hx
  have ym5 : YM wy y b0 b1 S2 S5 := ⟨by rw [q5]; rfl, by rw [q5]; rfl, by rw [q5]; rfl, by rw [q5]; rfl, fun x a _ => z5 x a, fun x _ _ _ => by rw [q5]; rfl⟩
  have j5 : fJ S5 = fJ S2 := by rw [q5]; rfl
  have pv2 := pv_yk ws yc.1 pv
  have i5 : ∀ j, j ≠ 13 → fI S5 wy j = fI S wy j := fun j hj => by rw [r5]; exact va_up_ne _ _ hj
  refine hE S5 (ym_tr ym2 ym5) ⟨(i5 10 (by decide)).trans k1, (i5 11 (by decide)).trans k2, (i5 12 (by decide)).trans k3, by rw [r5, va_up_self], by omega, ?_, Or.inr ⟨_, hmn, (i5 9 (by decide)).trans e9, mvr_mm pv2.1 (z5 _ (ws_wy ws (by decide))) (z5 _ (ws_wy ws (by decide))) (z5 _ (ws_wy ws (by decide))) (z5 _ (ws_wy ws (by decide))) (by rw [j5]), (i5 3 (by decide)).trans pv.2.1, pv.2.2⟩⟩ h
  refine tck_same (S := S2) (by rw [j5]) (z5 _ (ws_wy ws (by decide))) ?_
  intro m' h1 h2 p' hp'
  by_cases z : m' = mm
  · rw [z]
    have tr := tbw_tr (tl := tl) (gl := gl) hb mm (Nat.zero_le _) hmm p' hp'
    have c := cells p' hp'
    rw [← tr] at c
    exact ⟨c, tr_eb hb (tbw_tr hb) (tl - mm) mm (by omega) (Nat.zero_le _) p' hp'⟩
  · exact tck_yc yc htl (Nat.lt_succ_self mm) k6 m' (by omega) h2 p' hp'
/-- minute by minute, later ones first -/
theorem yw76 (ab : ABd A) (gb : GBd A G) (ge : GBe A G) (iw : w < aW A) (igl : gl < aP A) (htl : tl ≤ 400) (ne : b1 ≠ b0) (ws : WYs wy y S) (wn : WYn y S) (h8 : WT w1 A G S) (ol : ob S lg 1) (l0 : fR S lg 0 = some b0) (l1 : fR S lg 1 = some b1) (k : WYk wy y A G w gl tl lo S) (h : P_X7_reckon_76 Q wy w1 lg (nI fr) (nI lo - 1) S) (hfr : fr ≤ tl) : P_X7_reckon_76 (fun T => Q T ∧ YM wy y b0 b1 S T ∧ ∃ lo, lo ≤ fr ∧ WYk wy y A G w gl tl lo T) wy w1 lg (nI fr) (nI lo - 1) S := by
  have a2 := ab.2.1
  have b2 := ab.2.2.1
  have e0 : (0 : Int32).toInt = 0 := by decide
  intro X hX
  refine h (fun a0 a1 a2 v6 v7 T => (wy = a0 ∧ w1 = a1 ∧ lg = a2 ∧ nI fr = v6 ∧ ∃ n, nI n - 1 = v7 ∧ YM wy y b0 b1 S T ∧ WYk wy y A G w gl tl n T) → X a0 a1 a2 v6 v7 T) ?_ ⟨rfl, rfl, rfl, rfl, lo, rfl, ym_rf, k⟩
  rintro a0 a1 a2 v6 v7 T h ⟨rfl, rfl, rfl, rfl, n, rfl, ym, kT⟩
  apply hX
  have wsT := wys_ym ws ym
  have wnT := wyn_ym wn ym
  have h8T := wt_ym ws ym h8
  have hn := kT.2.2.2.2.1
  have nf : (nI fr).toInt = (fr : Int) := nI_i (by omega)
  have sub : ∀ k : Nat, nI (k + 1) - 1 = nI k := sub_one
  refine ⟨fun c => ⟨h.1 c, ym, n, ?_, kT⟩, fun c => ?_⟩
  · have c := lt_i c
    cases n with
    | zero => exact Nat.zero_le _
    | succ j =>
      rw [sub, nI_i (by omega)] at c
      omega
  have h := h.2 c
  have c := nlt_i c
  refine ⟨fun d => ⟨h.1 d, ym, n, ?_, kT⟩, fun d => ?_⟩
  · have d := lt_i d
    cases n with
    | zero => exact Nat.zero_le _
    | succ j =>
      rw [sub, nI_i (by omega)] at d
      omega
  have h := h.2 d
  obtain ⟨mm, rfl⟩ : ∃ k, n = k + 1 := by
    cases n with
    | zero =>
      exfalso
      apply d
      decide
    | succ k => exact ⟨k, rfl⟩
  rw [sub] at h ⊢
  have hmm : mm ≤ tl := by omega
  have hmn : min (mm / aH A) (aHs A) ≤ 6 := Nat.le_trans (Nat.min_le_right _ _) a2
  obtain ⟨o1, h⟩ := h
  refine ⟨o1, ?_⟩
  refine cm_X8_hourOf (sw_X8_hourOf h8T ab h) h (fun x5 S3 hp h g => ?_)
  have h := h g
  obtain ⟨-, hS, q5⟩ := hp
  subst hS
  intro x6 q6 x7 q7
  obtain ⟨o7, h⟩ := h x6 q6 x7 q7
  refine ⟨o7, fun x8 q8 => ?_⟩
  have h := h x8 q8
  have q6 := q6.trans h8T.2.1.2.1
  have q7 : x7 = nI (min (mm / aH A) (aHs A)) := by
    rw [q7, q6, q5]
    exact hr_m ab (by omega)
  subst q7
  have fin : ∀ U, YM wy y b0 b1 T U → WYk wy y A G w gl tl mm U → ((wy = wy ∧ w1 = w1 ∧ lg = lg ∧ nI fr = nI fr ∧ ∃ n, nI n - 1 = nI mm - 1 ∧ YM wy y b0 b1 S U ∧ WYk wy y A G w gl tl n U) → X wy w1 lg (nI fr) (nI mm - 1) U) → X wy w1 lg (nI fr) (nI mm - 1) U := fun U yU kU hF => hF ⟨rfl, rfl, rfl, rfl, mm, rfl, ym_tr ym yU, kU⟩
  refine ⟨fun c2 => ?_, fun c2 => ?_⟩
  · have e9 := q8.symm.trans c2.symm
    have pv : PVx wy y (PLw A G w (min (mm / aH A) (aHs A)) gl) T := by
      rcases kT.2.2.2.2.2.2 with z | ⟨hh, h6, z, pv⟩
      · exact absurd (e9.symm.trans z) (nI_nm1 (by omega))
      · have e := nI_injw (by omega) (by omega) (e9.symm.trans z)
        rw [e]
        exact pv
    exact yw120 ab gb ge iw igl htl hmm wsT wnT h8T kT e9 pv fin (h.1 c2)
  · have h := h.2 c2
    have pcT : PCx wy y b0 b1 w1 lg gl A G T := ⟨wsT, h8T, ym_ob ym ol, ym_r ym l0, ym_r ym l1, kT.2.1⟩
    refine cm_X7_price (yw_price ab gb ge iw (by omega) hmn ne kT.1 pcT h) h (fun S10 hp h g => ?_)
    have h := h g
    obtain ⟨-, y10, i10, n9, -, r2, j1, pv⟩ := hp
    obtain ⟨k1, k2, k3, k4, k5, k6, -⟩ := kT
    exact yw120 ab gb ge iw igl htl hmm (wys_ym wsT y10) (wyn_ym wnT y10) (wt_ym wsT y10 h8T) ⟨(i10 10 (by decide) (by decide)).trans k1, (i10 11 (by decide) (by decide)).trans k2, (i10 12 (by decide) (by decide)).trans k3, (i10 13 (by decide) (by decide)).trans k4, k5, tck_same j1 r2 k6, Or.inr ⟨_, hmn, n9, pv⟩⟩ n9 pv (fun U yU kU hF => fin U (ym_tr y10 yU) kU hF) h
/-- reckon, the rows made -/
theorem yw12 (ab : ABd A) (gb : GBd A G) (ge : GBe A G) (iw : w < aW A) (igl : gl < aP A) (htl : tl ≤ 400) (hfr : fr ≤ tl) (ne : b1 ≠ b0) (ws : WYs wy y S) (wn : WYn y S) (wv : WYv wy y A G S) (h8 : WT w1 A G S) (ol : ob S lg 1) (l0 : fR S lg 0 = some b0) (l1 : fR S lg 1 = some b1) (h : P_X7_reckon_12 Q wy w1 lg (nI w) (nI gl) (nI tl) (nI fr) S) : P_X7_reckon_12 (fun T => Q T ∧ YM wy y b0 b1 S T ∧ ∃ lo, lo ≤ fr ∧ WYk wy y A G w gl tl lo T) wy w1 lg (nI w) (nI gl) (nI tl) (nI fr) S := by
  have b2 := ab.2.2.1
  have b4 := ab.2.2.2.2.1
  have go : ∀ T lo, YM wy y b0 b1 S T → WYk wy y A G w gl tl lo T → P_X7_reckon_68 Q wy w1 lg (nI fr) T → P_X7_reckon_68 (fun T => Q T ∧ YM wy y b0 b1 S T ∧ ∃ lo, lo ≤ fr ∧ WYk wy y A G w gl tl lo T) wy w1 lg (nI fr) T := by
    intro T lo ym kT h
    delta P_X7_reckon_68
    obtain ⟨o1, h⟩ := h
    refine ⟨o1, fun x1 q1 x2 q2 => ?_⟩
    have h := h x1 q1 x2 q2
    have q2 : x2 = nI lo - 1 := by rw [q2, q1, kT.2.2.2.1]
    subst q2
    exact cm_X7_reckon_76 (yw76 ab gb ge iw igl htl ne (wys_ym ws ym) (wyn_ym wn ym) (wt_ym ws ym h8) (ym_ob ym ol) (ym_r ym l0) (ym_r ym l1) kT h hfr) h (fun U hp hq => ⟨hq, ym_tr ym hp.2.1, hp.2.2⟩)
  have new : P_X7_reckon_38 Q wy w1 lg (nI w) (nI gl) (nI tl) (nI fr) S → P_X7_reckon_38 (fun T => Q T ∧ YM wy y b0 b1 S T ∧ ∃ lo, lo ≤ fr ∧ WYk wy y A G w gl tl lo T) wy w1 lg (nI w) (nI gl) (nI tl) (nI fr) S := by
    intro h
    delta P_X7_reckon_38
    obtain ⟨o1, h⟩ := h
    refine ⟨o1, fun S1 q1 S2 q2 S3 q3 x4 q4 S5 q5 S6 q6 => ?_⟩
    have h := h S1 q1 S2 q2 S3 q3 x4 q4 S5 q5 S6 q6
    have z6 : ∀ x, x ≠ wy → fI S6 x = fI S x := fun x hx => (row_o q6 hx).trans ((row_o q5 hx).trans ((row_o q3 hx).trans ((row_o q2 hx).trans (row_o q1 hx))))
    have r1 : fI S1 wy = va_up (fI S wy) 10 (nI w) := row_I q1
    have r2 : fI S2 wy = va_up (fI S1 wy) 11 (nI gl) := row_I q2
    have r3 : fI S3 wy = va_up (fI S2 wy) 12 (nI tl) := row_I q3
    have r5 : fI S5 wy = va_up (fI S3 wy) 13 x4 := row_I q5
    have r6 : fI S6 wy = va_up (fI S5 wy) 9 (-1) := row_I q6
    have q4 : x4 = nI (tl + 1) := by rw [q4]; exact nI_add tl 1
    refine go S6 (tl + 1) ⟨by rw [q6, q5, q3, q2, q1]; rfl, by rw [q6, q5, q3, q2, q1]; rfl, by rw [q6, q5, q3, q2, q1]; rfl, by rw [q6, q5, q3, q2, q1]; rfl, fun x a _ => z6 x a, fun x _ _ _ => by rw [q6, q5, q3, q2, q1]; rfl⟩ ⟨?_, ?_, ?_, ?_, Nat.le_refl _, fun m' h1 h2 => by omega, Or.inl ?_⟩ h
    · rw [r6, r5, r3, r2, r1]; rfl
    · rw [r6, r5, r3, r2, r1]; rfl
    · rw [r6, r5, r3, r2, r1]; rfl
    · rw [r6, r5, r3, r2, r1, q4]; rfl
    · rw [r6, r5, r3, r2, r1]; rfl
  delta P_X7_reckon_12
  obtain ⟨o1, h⟩ := h
  refine ⟨o1, fun x1 q1 => ?_⟩
  have h := h x1 q1
  refine ⟨fun c => new (h.1 c), fun c => ?_⟩
  have h := h.2 c
  intro x3 q3
  have h := h x3 q3
  refine ⟨fun c2 => new (h.1 c2), fun c2 => ?_⟩
  have h := h.2 c2
  intro x5 q5
  have h := h x5 q5
  refine Iff.mp and_comm ⟨fun c3 => new (h.2 c3), fun c3 => ?_⟩
  have h := h.1 c3
  rcases wv with z | ⟨-, w', gl', tl', lo, i1, i2, i3, k⟩
  · exact absurd ((c.trans q1).trans z) (nI_nm1 (by omega))
  · have e1 := nI_injw (by omega) (by omega) ((c.trans q1).trans k.1)
    have e2 := nI_injw (by omega) (by omega) ((c2.trans q3).trans k.2.1)
    have e3 := nI_injw (by omega) (by omega) ((c3.trans q5).trans k.2.2.1)
    subst e1 e2 e3
    exact go S lo ym_rf k h
/-- reckon -/
theorem yw_reckon (cl : CLx S) (ab : ABd A) (gb : GBd A G) (ge : GBe A G) (iw : w < aW A) (igl : gl < aP A) (htl : tl ≤ 400) (hfr : fr ≤ tl) (ne : b1 ≠ b0) (ws : WYs wy y S) (wl : (hN S (y 1) = 0 ∧ fI S wy 10 = -1) ∨ WYn y S) (wv : WYv wy y A G S) (h8 : WT w1 A G S) (ol : ob S lg 1) (l0 : fR S lg 0 = some b0) (l1 : fR S lg 1 = some b1) (h : P_X7_reckon wy w1 lg (nI w) (nI gl) (nI tl) (nI fr) Q S) : P_X7_reckon wy w1 lg (nI w) (nI gl) (nI tl) (nI fr) (fun T => Q T ∧ Gr S T ∧ (∀ x k, ob S x k → k ≠ 7 → fR T x = fR S x) ∧ ∃ y', WYs wy y' T ∧ WYn y' T ∧ WT w1 A G T ∧ ∃ lo, lo ≤ fr ∧ WYk wy y' A G w gl tl lo T) S := by
  delta P_X7_reckon P_X7_reckon_0
  obtain ⟨o1, a1, e1, o2, h⟩ := h
  cases (ws.2.1 1 (by decide)).symm.trans e1
  refine ⟨o1, _, e1, o2, fun c => ?_, fun c => ?_⟩
  · have h := h.1 c
    have wn : WYn y S := wl.elim (fun z => by
      rw [z.1] at c
      exact absurd rfl c) id
    refine cm_X7_reckon_12 (yw12 ab gb ge iw igl htl hfr ne ws wn wv h8 ol l0 l1 h) h (fun T hp hq => ⟨hq, ?_, ?_, y, ?_⟩)
    · intro x hx
      have ym := hp.2.1
      rw [ym.1, ym.2.1, ym.2.2.1]
      exact ⟨hx, rfl, rfl⟩
    · intro x k o _
      rw [hp.2.1.2.2.2.1]
    · exact ⟨wys_ym ws hp.2.1, wyn_ym wn hp.2.1, wt_ym ws hp.2.1 h8, hp.2.2⟩
  · have h := h.2 c
    have w10 : fI S wy 10 = -1 := wl.elim (fun z => z.2) (fun z => by
      exfalso
      rw [z (1, 3208) (by decide)] at c
      exact absurd c (by decide))
    refine cm_X7_makeRows (bx_X7_makeRows cl ws.1 h) h (fun S3 hp h g => ?_)
    have h := h g
    have bx := hp.2
    obtain ⟨y', ws3, wn3⟩ := wys_bx cl ws.1 bx
    have i3 : fI S3 wy = fI S wy := bx.2.2.2.2.2.2.1
    have nl : lg ≠ wy := ob_ne ol ws.1 (by decide)
    have rl := (bx.2.1 lg ol.1 nl).2.2
    refine cm_X7_reckon_12 (yw12 ab gb ge iw igl htl hfr ne ws3 wn3 (Or.inl (by rw [i3]; exact w10)) (wt_bx ws.1 bx h8) (gr_ob bx.1 ol) (by rw [rl]; exact l0) (by rw [rl]; exact l1) h) h (fun T hp hq => ⟨hq, ?_, ?_, y', ?_⟩)
    · refine gr_tr bx.1 (fun x hx => ?_)
      have ym := hp.2.1
      rw [ym.1, ym.2.1, ym.2.2.1]
      exact ⟨hx, rfl, rfl⟩
    · intro x k o hk
      rw [hp.2.1.2.2.2.1]
      exact (bx.2.1 x o.1 (ob_ne o ws.1 hk)).2.2
    · exact ⟨wys_ym ws3 hp.2.1, wyn_ym wn3 hp.2.1, wt_ym ws3 hp.2.1 (wt_bx ws.1 bx h8), hp.2.2⟩
end C75
end
section
/-! ways: what the class's rows tell, and its steps -/
/-- the route alone has changed -/
def YR (y : Nat → Nat) (S T : HS) : Prop := hL T = hL S ∧ hK T = hK S ∧ hN T = hN S ∧ fR T = fR S ∧ fJ T = fJ S ∧ ∀ x, x ≠ y 0 → fI T x = fI S x
section C76
variable {wy b0 b1 lg w1 w gl tl hh mm p i lo : Nat} {y : Nat → Nat} {S S0 T U : HS} {A : AS} {G : GC} {ls : List MVx} {tb : Nat → Nat → TE} {t : TE} {Q Q' : Int32 → HS → Prop} {QJ : Int64 → HS → Prop}
theorem yr_rf : YR y S S := ⟨rfl, rfl, rfl, rfl, rfl, fun _ _ => rfl⟩
theorem yr_tr (h : YR y S T) (g : YR y T U) : YR y S U := ⟨g.1.trans h.1, g.2.1.trans h.2.1, g.2.2.1.trans h.2.2.1, g.2.2.2.1.trans h.2.2.2.1, g.2.2.2.2.1.trans h.2.2.2.2.1, fun x a => (g.2.2.2.2.2 x a).trans (h.2.2.2.2.2 x a)⟩
theorem yr_ym (h : YR y S T) : YM wy y b0 b1 S T := ⟨h.1, h.2.1, h.2.2.1, h.2.2.2.1, fun x _ b => h.2.2.2.2.2 x (b 0 (by decide)), fun x _ _ _ => by rw [h.2.2.2.2.1]⟩
theorem tck_yr (ws : WYs wy y S) (h : YR y S T) (tc : TCk y A tl lo tb S) : TCk y A tl lo tb T := tck_same (by rw [h.2.2.2.2.1]) (h.2.2.2.2.2 _ (ws_ne ws (by decide) (by decide) (by decide))) tc
theorem wyk_yr (ws : WYs wy y S) (h : YR y S T) (k : WYk wy y A G w gl tl lo S) : WYk wy y A G w gl tl lo T := by
  have i : fI T wy = fI S wy := h.2.2.2.2.2 wy (Ne.symm (ws_wy ws (by decide)))
  obtain ⟨k1, k2, k3, k4, k5, k6, k7⟩ := k
  refine ⟨by rw [i]; exact k1, by rw [i]; exact k2, by rw [i]; exact k3, by rw [i]; exact k4, k5, tck_yr ws h k6, ?_⟩
  rcases k7 with z | ⟨hh, h6, z, pv⟩
  · exact Or.inl (by rw [i]; exact z)
  · exact Or.inr ⟨hh, h6, by rw [i]; exact z, mvr_mm pv.1 (h.2.2.2.2.2 _ (ws_ne ws (by decide) (by decide) (by decide))) (h.2.2.2.2.2 _ (ws_ne ws (by decide) (by decide) (by decide))) (h.2.2.2.2.2 _ (ws_ne ws (by decide) (by decide) (by decide))) (h.2.2.2.2.2 _ (ws_ne ws (by decide) (by decide) (by decide))) (by rw [h.2.2.2.2.1]), by rw [i]; exact pv.2.1, pv.2.2⟩
theorem dv512 {x : Int64} (h0 : 0 ≤ x.toInt) : (x / 512).toInt = x.toInt / 512 ∧ (x - x / 512 * 512).toInt = x.toInt % 512 := by
  have e5 : (512 : Int64).toInt = ((512 : Nat) : Int) := by decide
  obtain ⟨n, hn, -⟩ := nn_of h0
  have l2 := x.toInt_lt
  refine ⟨?_, ?_⟩
  · have e : ((n : Nat) : Int).tdiv ((512 : Nat) : Int) = ((n / 512 : Nat) : Int) := (Int.ofNat_tdiv n 512).symm
    have q : n / 512 ≤ n := Nat.div_le_self n 512
    rw [Int64.toInt_div, hn, e5, e, Int.bmod_eq_of_le (by omega) (by omega)]
    omega
  · rw [rem_n hn e5 (by decide), hn]
    omega
theorem yw_keyOf (ws : WYs wy y S) (wn : WYn y S) (hp : p < 8) (hmm : mm ≤ 400) (h : P_X7_keyOf wy (nI p) (nI mm) QJ S) : P_X7_keyOf wy (nI p) (nI mm) (fun x T => QJ x T ∧ S = T ∧ x = fJ S (y 1) (401 * p + mm)) S := by
  have e0 : (0 : Int32).toInt = 0 := by decide
  have nL : (nI (hN S (y 1))).toInt = 3208 := by rw [wn (1, 3208) (by decide)]; exact nI_i (by omega)
  delta P_X7_keyOf P_X7_keyOf_0
  intro x1 q1
  have h := h x1 q1
  rw [ix401] at q1
  have n1 : x1.toInt = ((401 * p + mm : Nat) : Int) := by rw [q1]; exact nI_i (by omega)
  refine ⟨fun c => by have := lt_i c; omega, fun c => ?_⟩
  obtain ⟨o1, a3, e3, o3, h⟩ := h.2 c
  cases (ws.2.1 1 (by decide)).symm.trans e3
  refine ⟨o1, _, e3, o3, fun d => by have := le_i d; omega, fun d => ?_⟩
  obtain ⟨a5, e5, o5, i5, h⟩ := h.2 d
  cases (ws.2.1 1 (by decide)).symm.trans e5
  refine ⟨_, e5, o5, i5, fun x7 q7 => ⟨h x7 q7, rfl, ?_⟩⟩
  rw [q7, q1, nI_cl (by omega)]
theorem yw_isOpen (ws : WYs wy y S) (wn : WYn y S) (hp : p < 8) (hmm : mm ≤ 400) (htl : tl ≤ 400) (kc : KCx y S (401 * p + mm) t) (eb : EB tl mm t) (h : P_X7_isOpen wy (nI p) (nI mm) Q S) : P_X7_isOpen wy (nI p) (nI mm) (fun x T => Q x T ∧ S = T ∧ ans (¬ t = none) x) S := by
  have kb := kv_b eb htl
  have eCl : (4611686018427387904 : Int64).toInt = 4611686018427387904 := by decide
  delta P_X7_isOpen P_X7_isOpen_0
  obtain ⟨o1, h⟩ := h
  refine ⟨o1, ?_⟩
  refine cm_X7_keyOf (yw_keyOf ws wn hp hmm h) h (fun x3 S1 hp3 h g => ?_)
  have h := h g
  obtain ⟨-, hS, q3⟩ := hp3
  subst hS
  have v3 : x3.toInt = kvE t := by rw [q3]; exact kc.1
  refine ⟨fun c => ⟨h.1 c, rfl, Or.inr ⟨fun z => z (kb.2.2.mp ?_), rfl⟩⟩, fun c => ⟨h.2 c, rfl, Or.inl ⟨fun z => c (lgc_eq.mpr (Int64.toInt_inj.mp ?_)), rfl⟩⟩⟩
  · rw [← v3, lgc_eq.mp c, eCl]
  · rw [v3, eCl]
    exact kb.2.2.mpr z
theorem yw_meanFrom (ws : WYs wy y S) (wn : WYn y S) (hp : p < 8) (hmm : mm ≤ 400) (htl : tl ≤ 400) (kc : KCx y S (401 * p + mm) t) (eb : EB tl mm t) (h : P_X7_meanFrom wy (nI p) (nI mm) QJ S) : P_X7_meanFrom wy (nI p) (nI mm) (fun x T => QJ x T ∧ S = T ∧ (¬ t = none → x = lM t ∧ x.toInt = mE t ∧ 0 ≤ mE t)) S := by
  have kb := kv_b eb htl
  delta P_X7_meanFrom P_X7_meanFrom_0
  obtain ⟨o1, h⟩ := h
  refine ⟨o1, ?_⟩
  refine cm_X7_keyOf (yw_keyOf ws wn hp hmm h) h (fun x3 S1 hp3 h g => ?_)
  have h := h g
  obtain ⟨-, hS, q3⟩ := hp3
  subst hS
  have v3 : x3.toInt = kvE t := by rw [q3]; exact kc.1
  intro x4 q4
  refine ⟨h x4 q4, rfl, fun ne => ?_⟩
  cases t with
  | none => exact absurd rfl ne
  | some a =>
    obtain ⟨h1, h2, h3, h4⟩ := eb a rfl
    have hk : kvE (some a) = 512 * a.1 + a.2.1 := rfl
    have d := (dv512 (x := x3) (by omega)).1
    have v4 : x4.toInt = a.1 := by
      rw [q4, d, v3, hk]
      omega
    refine ⟨?_, v4, h1⟩
    rw [← Int64.ofInt_toInt x4, v4]
    rfl
theorem yw_endFrom (ws : WYs wy y S) (wn : WYn y S) (hp : p < 8) (hmm : mm ≤ 400) (htl : tl ≤ 400) (kc : KCx y S (401 * p + mm) t) (eb : EB tl mm t) (h : P_X7_endFrom wy (nI p) (nI mm) Q S) : P_X7_endFrom wy (nI p) (nI mm) (fun x T => Q x T ∧ S = T ∧ (¬ t = none → x = rM t)) S := by
  have kb := kv_b eb htl
  delta P_X7_endFrom P_X7_endFrom_0
  obtain ⟨o1, h⟩ := h
  refine ⟨o1, ?_⟩
  refine cm_X7_keyOf (yw_keyOf ws wn hp hmm h) h (fun x3 S1 hp3 h g => ?_)
  have h := h g
  obtain ⟨-, hS, q3⟩ := hp3
  subst hS
  have v3 : x3.toInt = kvE t := by rw [q3]; exact kc.1
  intro x4 q4
  refine ⟨h x4 q4, rfl, fun ne => ?_⟩
  cases t with
  | none => exact absurd rfl ne
  | some a =>
    obtain ⟨h1, h2, h3, h4⟩ := eb a rfl
    have hk : kvE (some a) = 512 * a.1 + a.2.1 := rfl
    have d := (dv512 (x := x3) (by omega)).2
    have v4 : x4.toInt = a.2.1 := by
      rw [q4, d, v3, hk]
      omega
    show x4.toInt32 = Int32.ofInt a.2.1
    apply Int32.toInt_inj.mp
    rw [Int64.toInt_toInt32, v4, Int32.toInt_ofInt]
theorem yw_trace (ab : ABd A) (gb : GBd A G) (ge : GBe A G) (iw : w < aW A) (ws : WYs wy y S) (wn : WYn y S) (h8 : WT w1 A G S) (ip : p < aP A) (hm : mm ≤ tl) (hlo : lo ≤ mm) (htl : tl ≤ 400) (tr : TRw A G w gl tl 0 tb) (tc : TCk y A tl lo tb S) (h : P_X7_trace wy w1 (nI p) (nI mm) Q S) : P_X7_trace wy w1 (nI p) (nI mm) (fun x T => Q x T ∧ YR y S T ∧ x = nI (trc G tb (tl + 1) p mm).length ∧ (trc G tb (tl + 1) p mm).length ≤ 400 ∧ ∀ i, i < (trc G tb (tl + 1) p mm).length → fI T (y 0) i = (trc G tb (tl + 1) p mm).getD i (-1)) S := by
  have b1 := ab.2.1
  have b2 := ab.2.2.1
  have b3 := ab.2.2.2.1
  have e0 : (0 : Int32).toInt = 0 := by decide
  delta P_X7_trace P_X7_trace_0
  intro X hX
  refine h (fun a0 a1 a4 a5 a6 T => (wy = a0 ∧ w1 = a1 ∧ ∃ p' m' n f pre, nI p' = a4 ∧ nI m' = a5 ∧ nI n = a6 ∧ p' < aP A ∧ m' ≤ tl ∧ mm ≤ m' ∧ n ≤ m' ∧ tl + 1 - m' ≤ f ∧ pre.length = n ∧ trc G tb (tl + 1) p mm = pre ++ trc G tb f p' m' ∧ YR y S T ∧ ∀ i, i < n → fI T (y 0) i = pre.getD i (-1)) → X a0 a1 a4 a5 a6 T) ?_ ⟨rfl, rfl, p, mm, 0, tl + 1, [], rfl, rfl, rfl, ip, hm, Nat.le_refl _, Nat.zero_le _, by omega, rfl, rfl, yr_rf, fun i hi => absurd hi (Nat.not_lt_zero i)⟩
  rintro a0 a1 a4 a5 a6 T h ⟨rfl, rfl, p', m', n, f, pre, rfl, rfl, rfl, hp, hm', hmm, hn, hf, hl, hw, yr, rows⟩
  apply hX
  obtain ⟨f, rfl⟩ : ∃ f', f = f' + 1 := ⟨f - 1, by omega⟩
  have ymT : YM wy y 0 0 S T := yr_ym yr
  have wsT := wys_ym ws ymT
  have wnT := wyn_ym wn ymT
  have h8T := wt_ym ws ymT h8
  have cell := (tck_yr ws yr tc m' (by omega) hm' p' hp).1
  have nL0 : (nI (hN T (y 0))).toInt = 401 := by rw [wnT (0, 401) (by decide)]; exact nI_i (by omega)
  have nL2 : (nI (hN T (y 2))).toInt = 3208 := by rw [wnT (2, 3208) (by decide)]; exact nI_i (by omega)
  have nn : (nI n).toInt = (n : Int) := nI_i (by omega)
  obtain ⟨o1, a1, e1, o1', h⟩ := h
  cases (wsT.2.1 0 (by decide)).symm.trans e1
  refine ⟨o1, _, e1, o1', fun c => by have := le_i c; omega, fun c => ?_⟩
  have h := h.2 c
  intro x4 q4
  have h := h x4 q4
  rw [ix401] at q4
  have n4 : x4.toInt = ((401 * p' + m' : Nat) : Int) := by rw [q4]; exact nI_i (by omega)
  have k4 : x4.toNatClampNeg = 401 * p' + m' := by rw [q4]; exact nI_cl (by omega)
  refine ⟨fun c => by have := lt_i c; omega, fun c => ?_⟩
  obtain ⟨a6, e6, o6, h⟩ := h.2 c
  cases (wsT.2.1 2 (by decide)).symm.trans e6
  refine ⟨_, e6, o6, fun c => by have := le_i c; omega, fun c => ?_⟩
  obtain ⟨a8, e8, o8, i8, h⟩ := h.2 c
  cases (wsT.2.1 2 (by decide)).symm.trans e8
  refine ⟨_, e8, o8, i8, fun x10 q10 => ?_⟩
  have h := h x10 q10
  rw [k4] at q10
  have q10 : x10 = kE (tb p' m') := q10.trans cell.2
  delta P_X7_trace_56
  refine Iff.mp and_comm ⟨fun c => ?_, fun c => ?_⟩
  · have h := h.2 c
    have hk : kE (tb p' m') = -1 := by rw [← q10]; exact c
    rw [trc_z hk, List.append_nil] at hw
    refine ⟨h, yr, by rw [hw, hl], by rw [hw, hl]; omega, fun i hi => ?_⟩
    rw [hw] at hi ⊢
    exact rows i (by omega)
  have hk : ¬ kE (tb p' m') = -1 := by rw [← q10]; exact c
  rw [trc_s hk] at hw
  obtain ⟨q, hq, hqf, hqk, hnx, hqd, hqt, hq1, -⟩ := tr_step ab gb ge iw tr hm' hp hk
  rw [hnx] at hw
  obtain ⟨o2, a2, e2, o2', i2, h⟩ := h.1 c
  cases (wsT.2.1 0 (by decide)).symm.trans e2
  refine ⟨o2, _, e2, o2', i2, fun S4 s4 => ?_⟩
  have h := h S4 s4
  have cn : (nI n).toNatClampNeg = n := nI_cl (by omega)
  rw [cn] at s4
  have r4 : fI S4 (y 0) = va_up (fI T (y 0)) n x10 := row_I s4
  have yr4 : YR y T S4 := ⟨by rw [s4]; rfl, by rw [s4]; rfl, by rw [s4]; rfl, by rw [s4]; rfl, by rw [s4]; rfl, fun x a => row_o s4 a⟩
  have ym4 : YM wy y 0 0 T S4 := yr_ym yr4
  have h84 := wt_ym wsT ym4 h8T
  have k10 : x10 = mK q := q10.trans hqk
  have fin : (wy = wy ∧ w1 = w1 ∧ ∃ p'_1 m'_1 n_1 f pre, nI p'_1 = nI (mT q) ∧ nI m'_1 = nI (m' + mD q) ∧ nI n_1 = nI (n + 1) ∧ p'_1 < aP A ∧ m'_1 ≤ tl ∧ mm ≤ m'_1 ∧ n_1 ≤ m'_1 ∧ tl + 1 - m'_1 ≤ f ∧ pre.length = n_1 ∧ trc G tb (tl + 1) p mm = pre ++ trc G tb f p'_1 m'_1 ∧ YR y S S4 ∧ ∀ i, i < n_1 → fI S4 (y 0) i = pre.getD i (-1)) :=
    ⟨rfl, rfl, mT q, m' + mD q, n + 1, f, pre ++ [kE (tb p' m')], rfl, rfl, rfl, hqt, hqd, by omega, by omega, by omega, by rw [List.length_append, hl]; rfl, by rw [hw, List.append_assoc]; rfl, yr_tr yr yr4, fun i hi => by
      rw [r4]
      by_cases z : i = n
      · rw [z, va_up_self, q10, gd_n hl]
      · rw [va_up_ne _ _ z, gd_l (by omega)]
        exact rows i (by omega)⟩
  refine ⟨fun c3 => ?_, fun c3 => ?_⟩
  · rcases flw_k ab gb iw hq with ⟨z1, -, -⟩ | ⟨r, u, v, ir, iu, iv1, iv9, rfl⟩
    · exact absurd (k10.trans z1) c3
    have cr : (nI r).toNatClampNeg = r := nI_cl (by omega)
    obtain ⟨d1, d2, d3, -, -⟩ := dg r (by omega) u iu v (by omega)
    have k10 : x10 = nI (100 * r + 10 * u + v) := k10
    intro x6 q6
    obtain ⟨o7, h⟩ := h.1 c3 x6 q6
    rw [k10, d1] at q6
    subst q6
    refine ⟨o7, ?_⟩
    refine cm_X8_hasRoad (sw_X8_hasRoad h84 ab h) h (fun x9 S7 hp9 h g b => ?_)
    have h := h g b
    obtain ⟨-, hS, a9⟩ := hp9
    subst hS
    refine ⟨fun c4 => absurd ⟨nJ_neg (by omega), Int32.lt_iff_toInt_lt.mpr (by rw [nI_i (by omega), nI_i (by omega)]; omega)⟩ (an0 a9 c4), fun c4 => ?_⟩
    obtain ⟨a11, e11, h⟩ := h.2 c4
    refine ⟨_, e11, fun x12 q12 => ?_⟩
    obtain ⟨o12, i12, a14, e14, h⟩ := h x12 q12
    refine ⟨o12, i12, _, e14, fun x15 q15 x16 q16 => ?_⟩
    obtain ⟨o16, h⟩ := h x15 q15 x16 q16
    rw [k10, d1] at q12
    have q16 : x16 = nI u := by rw [q16, q15, k10]; exact d2
    subst q12 q16
    rw [cr] at e14
    have rd := (h84.2.2.2.1 _ e11).2.2 _ _ ir e14
    refine ⟨o16, ?_⟩
    refine cm_X5_endOf (sw_X5_endOf h) h (fun x19 S17 hp19 h g => ?_)
    have h := h g
    obtain ⟨-, hS, q19⟩ := hp19
    subst hS
    intro x20 q20
    have h := h x20 q20
    rw [k10, d3] at q20
    subst q20
    have nv : (nI v).toInt = (v : Int) := nI_i (by omega)
    refine cm_X5_minutesAt (sp_X5_minutesAt (by omega) h) h (fun x23 S21 hp23 h g => ?_)
    have h := h g
    obtain ⟨-, hS, q23⟩ := hp23
    subst hS
    intro x24 q24
    have h := h x24 q24
    have gn := (go_n (u := u) gb ir (by omega) (by omega)).2
    unfold goT at gn
    rw [cr] at gn
    have q19 : x19 = nI (mT (mvL A G w (min (m' / aH A) (aHs A)) r u v)) := by
      rw [q19, rd.2 0 (by decide), rd.2 1 (by decide)]
      exact gn
    have q23 : x23 = nI (mD (mvL A G w (min (m' / aH A) (aHs A)) r u v)) := by
      rw [q23, rd.2 3 (by decide)]
      have e := gm_n (w := w) (hh := min (m' / aH A) (aHs A)) (s := u) gb ir (by omega) iv1 iv9
      unfold goM at e
      rw [cr] at e
      exact e
    have q24 : x24 = nI (m' + mD (mvL A G w (min (m' / aH A) (aHs A)) r u v)) := by rw [q24, q23]; exact nI_add _ _
    delta P_X7_trace_143
    intro z1 p1
    have h := h z1 p1
    have p1 : z1 = nI (n + 1) := by rw [p1]; exact nI_add n 1
    rw [q19, q24, p1] at h ⊢
    exact h fin
  · rcases flw_k ab gb iw hq with ⟨z1, z2, z3⟩ | ⟨r, u, v, ir, iu, iv1, iv9, rfl⟩
    · intro x25 q25
      have h := h.2 c3 x25 q25
      have q25 : x25 = nI (m' + mD q) := by rw [q25, z3]; exact nI_add m' 1
      have pq : nI p' = nI (mT q) := by rw [z2, hqf]
      delta P_X7_trace_143
      intro y1 p1
      have h := h y1 p1
      have p1 : y1 = nI (n + 1) := by rw [p1]; exact nI_add n 1
      rw [pq, q25, p1] at h ⊢
      exact h fin
    · obtain ⟨-, -, -, -, d5⟩ := dg r (by omega) u iu v (by omega)
      exact absurd (k10.symm.trans c3) d5
end C76
/-! ways: what least, there, steps, step, off tell in the class -/
def WYd (c : Nat) (A : AS) (G : GC) (S : HS) : Prop := ∃ wy y, fR S c 5 = some wy ∧ WYs wy y S ∧ WYv wy y A G S
/-- behind the question whether there is a way -/
def WTp (c wy w1 : Nat) (A : AS) (G : GC) (w gl tl s : Nat) (P : Prop) (S T : HS) : Prop := Gr S T ∧ fR T c = fR S c ∧ ∃ y, WYs wy y T ∧ WYv wy y A G T ∧ WT w1 A G T ∧ (P → WYn y T ∧ ∃ lo, lo ≤ s ∧ WYk wy y A G w gl tl lo T)
section C77
variable {c wy b0 b1 lgo r w1 w2 w gl tl hh mm p i lo s : Nat} {y : Nat → Nat} {S S0 T U : HS} {A : AS} {G : GC} {t : TE} {v1 v2 v3 v4 v5 v6 x l : Int32} {P : Prop} {e : Nat → TE} {Q Q' : Int32 → HS → Prop} {QJ : Int64 → HS → Prop}
theorem wl_of (hI : IV S) (ws : WYs wy y S) (wv : WYv wy y A G S) : (hN S (y 1) = 0 ∧ fI S wy 10 = -1) ∨ WYn y S := by
  have jw : ∀ e ∈ wyT, e.1 ∈ jW := by decide
  rcases hI.2.2.1 wy ws.1 with z | z
  · have z1 := z (1, 3208) (by decide) (y 1) (ws.2.1 1 (by decide))
    refine Or.inl ⟨z1, ?_⟩
    rcases wv with q | ⟨q, -⟩
    · exact q
    · have q := q (1, 3208) (by decide)
      have q : hN S (y 1) = 3208 := q
      omega
  · exact Or.inr (fun e he => z e he _ (ws.2.1 e.1 (jw e he)))
theorem cl_of (hI : IV S) : CLx S := fun x k j b o hk e => hI.2.2.2.2.2.1 x k j b o hk e
theorem wt_c (oc : ob S c 9) (h8 : WT w1 A G S) {v : Int32} (e : T = sI S c 9 v) : WT w1 A G T := wt_ds oc ⟨by rw [e]; rfl, by rw [e]; rfl, by rw [e]; rfl, fun x _ => by rw [e]; rfl, fun x hx _ _ => row_o e hx⟩ h8
theorem ws_c (ws : WYs wy y S) {v : Int32} (e : T = sI S c 9 v) : WYs wy y T := by
  rw [e]
  exact ws
theorem wyn_c (wn : WYn y S) {v : Int32} (e : T = sI S c 9 v) : WYn y T := by
  rw [e]
  exact wn
theorem wyk_c (oc : ob S c 9) (ws : WYs wy y S) (k : WYk wy y A G w gl tl lo S) {v : Int32} (e : T = sI S c 9 v) : WYk wy y A G w gl tl lo T := by
  have i : fI T wy = fI S wy := row_o e (ob_ne ws.1 oc (by decide))
  have ri : ∀ j ∈ jI, fI T (y j) = fI S (y j) := fun j hj => row_o e (ob_ne (ws.2.2.2.1 j hj).1 oc (by decide))
  have rj : fJ T = fJ S := by rw [e]; rfl
  obtain ⟨k1, k2, k3, k4, k5, k6, k7⟩ := k
  refine ⟨by rw [i]; exact k1, by rw [i]; exact k2, by rw [i]; exact k3, by rw [i]; exact k4, k5, tck_same (by rw [rj]) (ri 2 (by decide)) k6, ?_⟩
  rcases k7 with z | ⟨hh, h6, z, pv⟩
  · exact Or.inl (by rw [i]; exact z)
  · exact Or.inr ⟨hh, h6, by rw [i]; exact z, mvr_mm pv.1 (ri 4 (by decide)) (ri 5 (by decide)) (ri 6 (by decide)) (ri 8 (by decide)) (by rw [rj]), by rw [i]; exact pv.2.1, pv.2.2⟩
theorem wyv_c (oc : ob S c 9) (ws : WYs wy y S) (wv : WYv wy y A G S) {v : Int32} (e : T = sI S c 9 v) : WYv wy y A G T := by
  rcases wv with z | ⟨wn, w, gl, tl, lo, i1, i2, i3, k⟩
  · exact Or.inl (by rw [row_o e (ob_ne ws.1 oc (by decide))]; exact z)
  · exact Or.inr ⟨wyn_c wn e, w, gl, tl, lo, i1, i2, i3, wyk_c oc ws k e⟩
theorem wtp_c (oc : ob S c 9) (h : WTp c wy w1 A G w gl tl s P S T) {v : Int32} (e : U = sI T c 9 v) : WTp c wy w1 A G w gl tl s P S U := by
  obtain ⟨g, rc, y, ws, wv, h8, k⟩ := h
  have ocT := gr_ob g oc
  refine ⟨by rw [e]; exact g, by rw [e]; exact rc, y, ws_c ws e, wyv_c ocT ws wv e, wt_c ocT h8 e, fun z => ?_⟩
  obtain ⟨wn, lo, hl, k⟩ := k z
  exact ⟨wyn_c wn e, lo, hl, wyk_c ocT ws k e⟩
theorem wtp_d (e5 : fR S c 5 = some wy) (h : WTp c wy w1 A G w gl tl s P S T) : WYd c A G T := by
  obtain ⟨g, rc, y, ws, wv, h8, k⟩ := h
  exact ⟨wy, y, by rw [rc]; exact e5, ws, wv⟩
theorem sp_X9_isTill (h : P_X9_isTill v5 Q S) : P_X9_isTill v5 (fun x T => Q x T ∧ S = T ∧ ans (¬ (v5 < 0 ∨ (400 : Int32) < v5)) x) S := by
  delta P_X9_isTill P_X9_isTill_0
  refine ⟨fun c => ⟨h.1 c, rfl, Or.inr ⟨fun z => z (Or.inl c), rfl⟩⟩, fun c => ?_⟩
  have h := h.2 c
  exact ⟨fun d => ⟨h.1 d, rfl, Or.inr ⟨fun z => z (Or.inr d), rfl⟩⟩, fun d => ⟨h.2 d, rfl, Or.inl ⟨fun z => z.elim c d, rfl⟩⟩⟩
theorem yw_placesTrouble (ab : ABd A) (e2 : fR S c 2 = some w1) (h8 : WT w1 A G S) (h : P_X9_placesTrouble c v1 v2 v3 Q S) : P_X9_placesTrouble c v1 v2 v3 (fun x T => Q x T ∧ S = T ∧ ((x = 0 ∧ wyOK A v1 v2 v3) ∨ (x = 1 ∧ ¬ wyOK A v1 v2 v3))) S := by
  have no : ¬ wyOK A v1 v2 v3 → P_X9_placesTrouble_37 Q S → P_X9_placesTrouble_37 (fun x T => Q x T ∧ S = T ∧ ((x = 0 ∧ wyOK A v1 v2 v3) ∨ (x = 1 ∧ ¬ wyOK A v1 v2 v3))) S := by
    intro n h
    delta P_X9_placesTrouble_37 P_X9_placesTrouble_38
    exact ⟨fun z => ⟨h.1 z, rfl, Or.inr ⟨rfl, n⟩⟩, fun z => absurd rfl z⟩
  delta P_X9_placesTrouble P_X9_placesTrouble_0
  obtain ⟨o1, a1, e1, o2, h⟩ := h
  cases e2.symm.trans e1
  refine ⟨o1, _, e1, o2, ?_⟩
  refine cm_X8_hasWalker (sw_X8_hasWalker h8 ab h) h (fun x4 S2 hp h g b => ?_)
  have h := h g b
  obtain ⟨-, hS, a4⟩ := hp
  subst hS
  refine ⟨fun z => no (fun q => an0 a4 z q.1) (h.1 z), fun z => ?_⟩
  obtain ⟨a6, e6, o6, h⟩ := h.2 z
  cases e2.symm.trans e6
  refine ⟨_, e6, o6, ?_⟩
  refine cm_X8_hasPlace (sw_X8_hasPlace h8 ab h) h (fun x9 S7 hp h g b => ?_)
  have h := h g b
  obtain ⟨-, hS, a9⟩ := hp
  subst hS
  refine ⟨fun z2 => no (fun q => an0 a9 z2 q.2.1) (h.1 z2), fun z2 => ?_⟩
  obtain ⟨a11, e11, o11, h⟩ := h.2 z2
  cases e2.symm.trans e11
  refine ⟨_, e11, o11, ?_⟩
  refine cm_X8_hasPlace (sw_X8_hasPlace h8 ab h) h (fun x14 S12 hp h g b => ?_)
  have h := h g b
  obtain ⟨-, hS, a14⟩ := hp
  subst hS
  refine ⟨fun z3 => no (fun q => an0 a14 z3 q.2.2) (h.1 z3), fun z3 => ?_⟩
  have h := h.2 z3
  delta P_X9_placesTrouble_38
  exact ⟨fun q => absurd q (by decide), fun q => ⟨h.2 q, rfl, Or.inl ⟨rfl, an1 a4 z, an1 a9 z2, an1 a14 z3⟩⟩⟩
/-- the cell of a way -/
theorem wyk_at (k : WYk wy y A G w gl tl lo S) (h1 : lo ≤ mm) (h2 : mm ≤ tl) (hp : p < aP A) : KCx y S (401 * p + mm) (TBw A G w gl tl p mm) ∧ EB tl mm (TBw A G w gl tl p mm) := k.2.2.2.2.2.1 mm h1 h2 p hp
theorem yw_wayTrouble (hI : IV S) (oc : ob S c 9) (ab : ABd A) (gb : GBd A G) (ge : GBe A G) (e2 : fR S c 2 = some w1) (h8 : WT w1 A G S) (lg : LG c lgo b0 b1 S) (e5 : fR S c 5 = some wy) (ws : WYs wy y S) (wv : WYv wy y A G S) (h : P_X9_wayTrouble c v1 v2 v3 v4 v5 Q S) : P_X9_wayTrouble c v1 v2 v3 v4 v5 (fun x T => Q x T ∧ x = wyN A G v1 v2 v3 v4 v5 ∧ WTp c wy w1 A G v1.toNatClampNeg v3.toNatClampNeg v5.toNatClampNeg v4.toNatClampNeg (x = 0) S T) S := by
  have b2 := ab.2.2.1
  have same : ∀ x : Int32, ¬ x = 0 → WTp c wy w1 A G v1.toNatClampNeg v3.toNatClampNeg v5.toNatClampNeg v4.toNatClampNeg (x = 0) S S := fun x hx => ⟨gr_rf S, rfl, y, ws, wv, h8, fun z => absurd z hx⟩
  delta P_X9_wayTrouble P_X9_wayTrouble_0
  obtain ⟨o1, h⟩ := h
  refine ⟨o1, ?_⟩
  refine cm_X9_placesTrouble (yw_placesTrouble ab e2 h8 h) h (fun x3 S1 hp h g => ?_)
  have h := h g
  obtain ⟨-, hS, a3⟩ := hp
  subst hS
  refine Iff.mp and_comm ⟨fun z => ?_, fun z => ?_⟩
  · have q := a3.resolve_left (fun q => z q.1)
    rw [q.1] at h ⊢
    exact ⟨h.2 (by decide), by unfold wyN; rw [dc_n q.2], same 1 (by decide)⟩
  have ok := (a3.resolve_right (fun q => by rw [z] at q; exact absurd q.1 (by decide))).2
  have h := h.1 z
  have no2 : ¬ wmOK v4 v5 → (2 : Int32) = wyN A G v1 v2 v3 v4 v5 ∧ WTp c wy w1 A G v1.toNatClampNeg v3.toNatClampNeg v5.toNatClampNeg v4.toNatClampNeg ((2 : Int32) = 0) S S := fun q => ⟨by unfold wyN; rw [dc_y ok, dc_n q], same 2 (by decide)⟩
  refine cm_X9_isTill (sp_X9_isTill h) h (fun x7 S5 hp h g b => ?_)
  have h := h g b
  obtain ⟨-, hS, a7⟩ := hp
  subst hS
  refine ⟨fun q => ⟨h.1 q, no2 (fun m => an0 a7 q m.1)⟩, fun q => ?_⟩
  have a7 := an1 a7 q
  have h := h.2 q
  refine ⟨fun q2 => ⟨h.1 q2, no2 (fun m => m.2 (Or.inl q2))⟩, fun q2 => ?_⟩
  have h := h.2 q2
  refine Iff.mp and_comm ⟨fun q3 => ⟨h.2 q3, no2 (fun m => m.2 (Or.inr (Int32.not_le.mp q3)))⟩, fun q3 => ?_⟩
  obtain ⟨a11, e11, a12, e12, a13, e13, o14, h⟩ := h.1 q3
  cases e5.symm.trans e11
  cases e2.symm.trans e12
  cases lg.1.symm.trans e13
  refine ⟨_, e11, _, e12, _, e13, o14, ?_⟩
  have okm : wmOK v4 v5 := ⟨a7, fun m => m.elim q2 (fun m => absurd q3 (Int32.not_le.mpr m))⟩
  obtain ⟨i1, i2, i3, n1, n2, n3⟩ := wy_n ab ok
  obtain ⟨i4, i5, n4, n5⟩ := wm_n okm
  have fin : ∀ F, P_X7_reckon wy w1 lgo v1 v3 v5 v4 F S = P_X7_reckon wy w1 lgo (nI v1.toNatClampNeg) (nI v3.toNatClampNeg) (nI v5.toNatClampNeg) (nI v4.toNatClampNeg) F S := fun F => by rw [← n1, ← n3, ← n5, ← n4]
  rw [fin] at h ⊢
  refine cm_X7_reckon (yw_reckon (cl_of hI) ab gb ge i1 i3 i5 i4 lg.2.2.2.2 ws (wl_of hI ws wv) wv h8 lg.2.1 lg.2.2.1 lg.2.2.2.1 h) h (fun T hp h g => ?_)
  obtain ⟨a17, e17, o17, h⟩ := h g
  obtain ⟨-, gT, rT, y', ws', wn', h8', lo, hlo, k⟩ := hp
  have rc : fR T c = fR S c := rT c 9 oc (by decide)
  cases e5.symm.trans (by rw [← rc]; exact e17 : fR S c 5 = some a17)
  refine ⟨_, e17, o17, ?_⟩
  have cell := wyk_at k hlo i4 i2
  have wvT : WYv wy y' A G T := Or.inr ⟨wn', _, _, _, lo, i1, i3, i5, k⟩
  have fi2 : ∀ F, P_X7_isOpen wy v2 v4 F T = P_X7_isOpen wy (nI v2.toNatClampNeg) (nI v4.toNatClampNeg) F T := fun F => by rw [← n2, ← n4]
  rw [fi2] at h ⊢
  refine cm_X7_isOpen (yw_isOpen ws' wn' (by omega) (by omega) i5 cell.1 cell.2 h) h (fun x20 S18 hp h g b => ?_)
  have h := h g b
  obtain ⟨-, hS, a20⟩ := hp
  subst hS
  refine ⟨fun q4 => ⟨h.1 q4, ?_, gT, rc, y', ws', wvT, h8', fun z => absurd z (by decide)⟩, fun q4 => ⟨h.2 q4, ?_, gT, rc, y', ws', wvT, h8', fun _ => ⟨wn', lo, hlo, k⟩⟩⟩
  · have ye : wyE A G v1 v2 v3 v4 v5 = none := Classical.byContradiction (an0 a20 q4)
    unfold wyN
    rw [dc_y ok, dc_y okm, dc_y ye]
  · have ne : ¬ wyE A G v1 v2 v3 v4 v5 = none := an1 a20 q4
    unfold wyN
    rw [dc_y ok, dc_y okm, dc_n ne]
theorem tl_X9_least (hI : IV S) (oc : ob S c 9) (ab : ABd A) (gb : GBd A G) (ge : GBe A G) (e2 : fR S c 2 = some w1) (h8 : WT w1 A G S) (lg : LG c lgo b0 b1 S) (wd : WYd c A G S) (h : P_X9_least c v1 v2 v3 v4 v5 l QJ S) : P_X9_least c v1 v2 v3 v4 v5 l (fun x T => QJ x T ∧ x = tellleast A G v1 v2 v3 v4 v5 l ∧ WYd c A G T) S := by
  have b2 := ab.2.2.1
  obtain ⟨wy, y, e5, ws, wv⟩ := wd
  delta P_X9_least P_X9_least_0
  obtain ⟨o1, h⟩ := h
  refine ⟨o1, ?_⟩
  refine cm_X9_wayTrouble (yw_wayTrouble hI oc ab gb ge e2 h8 lg e5 ws wv h) h (fun x3 S1 hp h g => ?_)
  have h := h g
  obtain ⟨-, h3, wt⟩ := hp
  refine cm_X9_refusedBy (sp_X9_refusedBy h) h (fun x6 S4 hp h g b => ?_)
  have h := h g b
  obtain ⟨-, s4, a6⟩ := hp
  have wt := wtp_c oc wt s4
  have wd4 := wtp_d e5 wt
  refine ⟨fun q => ?_, fun q => ⟨h.2 q, ?_, wd4⟩⟩
  · have z3 : x3 = 0 := Classical.byContradiction (an0 a6 q)
    have h0 : wyN A G v1 v2 v3 v4 v5 = 0 := h3.symm.trans z3
    obtain ⟨ok, okm, ne⟩ := wyN_0 h0
    obtain ⟨i1, i2, i3, n1, n2, n3⟩ := wy_n ab ok
    obtain ⟨i4, i5, n4, n5⟩ := wm_n okm
    obtain ⟨g4, rc, y', ws', wv', h8', k⟩ := wt
    obtain ⟨wn', lo, hlo, k⟩ := k z3
    have cell := wyk_at k hlo i4 i2
    obtain ⟨a8, e8, o8, h⟩ := h.1 q
    cases e5.symm.trans (by rw [← rc]; exact e8 : fR S c 5 = some a8)
    refine ⟨_, e8, o8, ?_⟩
    have fi2 : ∀ F, P_X7_meanFrom wy v2 v4 F S4 = P_X7_meanFrom wy (nI v2.toNatClampNeg) (nI v4.toNatClampNeg) F S4 := fun F => by rw [← n2, ← n4]
    rw [fi2] at h ⊢
    refine cm_X7_meanFrom (yw_meanFrom ws' wn' (by omega) (by omega) i5 cell.1 cell.2 h) h (fun x11 S9 hp h g => ?_)
    have h := h g
    obtain ⟨-, hS, m⟩ := hp
    subst hS
    obtain ⟨m1, m2, m3⟩ := m ne
    refine cm_X9_fraction (sp_X9_fraction (by omega) (by decide) h) h (fun x14 S12 hp h g => ?_)
    have h := h g
    obtain ⟨-, hS, q14⟩ := hp
    subst hS
    refine ⟨h, ?_, wd4⟩
    unfold tellleast
    rw [dc_y h0, q14, m1]
    rfl
  · have n0 : ¬ wyN A G v1 v2 v3 v4 v5 = 0 := fun z => an1 a6 q (h3.trans z)
    unfold tellleast
    rw [dc_n n0]
theorem tl_X9_there (hI : IV S) (oc : ob S c 9) (ab : ABd A) (gb : GBd A G) (ge : GBe A G) (e2 : fR S c 2 = some w1) (h8 : WT w1 A G S) (lg : LG c lgo b0 b1 S) (wd : WYd c A G S) (h : P_X9_there c v1 v2 v3 v4 v5 Q S) : P_X9_there c v1 v2 v3 v4 v5 (fun x T => Q x T ∧ x = tellthere A G v1 v2 v3 v4 v5 ∧ WYd c A G T) S := by
  have b2 := ab.2.2.1
  obtain ⟨wy, y, e5, ws, wv⟩ := wd
  delta P_X9_there P_X9_there_0
  obtain ⟨o1, h⟩ := h
  refine ⟨o1, ?_⟩
  refine cm_X9_wayTrouble (yw_wayTrouble hI oc ab gb ge e2 h8 lg e5 ws wv h) h (fun x3 S1 hp h g => ?_)
  have h := h g
  obtain ⟨-, h3, wt⟩ := hp
  refine cm_X9_refusedBy (sp_X9_refusedBy h) h (fun x6 S4 hp h g b => ?_)
  have h := h g b
  obtain ⟨-, s4, a6⟩ := hp
  have wt := wtp_c oc wt s4
  have wd4 := wtp_d e5 wt
  refine ⟨fun q => ?_, fun q => ⟨h.2 q, ?_, wd4⟩⟩
  · have z3 : x3 = 0 := Classical.byContradiction (an0 a6 q)
    have h0 : wyN A G v1 v2 v3 v4 v5 = 0 := h3.symm.trans z3
    obtain ⟨ok, okm, ne⟩ := wyN_0 h0
    obtain ⟨i1, i2, i3, n1, n2, n3⟩ := wy_n ab ok
    obtain ⟨i4, i5, n4, n5⟩ := wm_n okm
    obtain ⟨g4, rc, y', ws', wv', h8', k⟩ := wt
    obtain ⟨wn', lo, hlo, k⟩ := k z3
    have cell := wyk_at k hlo i4 i2
    obtain ⟨a8, e8, o8, h⟩ := h.1 q
    cases e5.symm.trans (by rw [← rc]; exact e8 : fR S c 5 = some a8)
    refine ⟨_, e8, o8, ?_⟩
    have fi2 : ∀ F, P_X7_endFrom wy v2 v4 F S4 = P_X7_endFrom wy (nI v2.toNatClampNeg) (nI v4.toNatClampNeg) F S4 := fun F => by rw [← n2, ← n4]
    rw [fi2] at h ⊢
    refine cm_X7_endFrom (yw_endFrom ws' wn' (by omega) (by omega) i5 cell.1 cell.2 h) h (fun x11 S9 hp h g => ?_)
    have h := h g
    obtain ⟨-, hS, m⟩ := hp
    subst hS
    refine ⟨h, ?_, wd4⟩
    unfold tellthere
    rw [dc_y h0, m ne]
    rfl
  · have n0 : ¬ wyN A G v1 v2 v3 v4 v5 = 0 := fun z => an1 a6 q (h3.trans z)
    unfold tellthere
    rw [dc_n n0]
/-- the steps' rows, behind the question -/
theorem yw_traced (ab : ABd A) (gb : GBd A G) (ge : GBe A G) (i1 : v1.toNatClampNeg < aW A) (i2 : v2.toNatClampNeg < aP A) (i4 : v4.toNatClampNeg ≤ v5.toNatClampNeg) (i5 : v5.toNatClampNeg ≤ 400) (n2 : v2 = nI v2.toNatClampNeg) (n4 : v4 = nI v4.toNatClampNeg) (i3 : v3.toNatClampNeg < aP A) (ws : WYs wy y S) (wn : WYn y S) (h8 : WT w1 A G S) (hlo : lo ≤ v4.toNatClampNeg) (k : WYk wy y A G v1.toNatClampNeg v3.toNatClampNeg v5.toNatClampNeg lo S) (h : P_X7_trace wy w1 v2 v4 Q S) : P_X7_trace wy w1 v2 v4 (fun x T => Q x T ∧ YR y S T ∧ WYv wy y A G T ∧ x = nI (wyL A G v1 v2 v3 v4 v5).length ∧ (wyL A G v1 v2 v3 v4 v5).length ≤ 400 ∧ ∀ i, i < (wyL A G v1 v2 v3 v4 v5).length → fI T (y 0) i = (wyL A G v1 v2 v3 v4 v5).getD i (-1)) S := by
  have hb : ∀ h, ∀ q ∈ FLw A G v1.toNatClampNeg h, MvB A q := fun h q hq => (flw_b ab gb ge i1 h q hq).1
  have fi2 : ∀ F, P_X7_trace wy w1 v2 v4 F S = P_X7_trace wy w1 (nI v2.toNatClampNeg) (nI v4.toNatClampNeg) F S := fun F => by rw [← n2, ← n4]
  rw [fi2] at h ⊢
  refine cm_X7_trace (yw_trace ab gb ge i1 ws wn h8 i2 i4 hlo i5 (tbw_tr hb) k.2.2.2.2.2.1 h) h (fun x T hp hq => ⟨hq, hp.2.1, ?_, hp.2.2⟩)
  exact Or.inr ⟨wyn_ym wn (yr_ym (wy := wy) (b0 := 0) (b1 := 0) hp.2.1), _, _, _, lo, i1, i3, i5, wyk_yr ws hp.2.1 k⟩
theorem tl_X9_steps (hI : IV S) (oc : ob S c 9) (ab : ABd A) (gb : GBd A G) (ge : GBe A G) (e2 : fR S c 2 = some w1) (h8 : WT w1 A G S) (lg : LG c lgo b0 b1 S) (wd : WYd c A G S) (h : P_X9_steps c v1 v2 v3 v4 v5 Q S) : P_X9_steps c v1 v2 v3 v4 v5 (fun x T => Q x T ∧ x = tellsteps A G v1 v2 v3 v4 v5 ∧ WYd c A G T) S := by
  obtain ⟨wy, y, e5, ws, wv⟩ := wd
  delta P_X9_steps P_X9_steps_0
  obtain ⟨o1, h⟩ := h
  refine ⟨o1, ?_⟩
  refine cm_X9_wayTrouble (yw_wayTrouble hI oc ab gb ge e2 h8 lg e5 ws wv h) h (fun x3 S1 hp h g => ?_)
  have h := h g
  obtain ⟨-, h3, wt⟩ := hp
  refine cm_X9_refusedBy (sp_X9_refusedBy h) h (fun x6 S4 hp h g b => ?_)
  have h := h g b
  obtain ⟨-, s4, a6⟩ := hp
  have wt := wtp_c oc wt s4
  have wd4 := wtp_d e5 wt
  refine ⟨fun q => ?_, fun q => ⟨h.2 q, ?_, wd4⟩⟩
  · have z3 : x3 = 0 := Classical.byContradiction (an0 a6 q)
    have h0 : wyN A G v1 v2 v3 v4 v5 = 0 := h3.symm.trans z3
    obtain ⟨ok, okm, ne⟩ := wyN_0 h0
    obtain ⟨i1, i2, i3, n1, n2, n3⟩ := wy_n ab ok
    obtain ⟨i4, i5, n4, n5⟩ := wm_n okm
    obtain ⟨g4, rc, y', ws', wv', h8', k⟩ := wt
    obtain ⟨wn', lo, hlo, k⟩ := k z3
    obtain ⟨a8, e8, a9, e9, o8, h⟩ := h.1 q
    cases e5.symm.trans (by rw [← rc]; exact e8 : fR S c 5 = some a8)
    cases e2.symm.trans (by rw [← rc]; exact e9 : fR S c 2 = some a9)
    refine ⟨_, e8, _, e9, o8, ?_⟩
    refine cm_X7_trace (yw_traced ab gb ge i1 i2 i4 i5 n2 n4 i3 ws' wn' h8' hlo k h) h (fun x11 S9 hp h g => ?_)
    have h := h g
    obtain ⟨-, yr, wv9, q11, -, -⟩ := hp
    refine ⟨h, ?_, wy, y', by rw [yr.2.2.2.1]; exact e8, wys_ym ws' (yr_ym (wy := wy) (b0 := 0) (b1 := 0) yr), wv9⟩
    unfold tellsteps
    rw [dc_y h0, q11]
  · have n0 : ¬ wyN A G v1 v2 v3 v4 v5 = 0 := fun z => an1 a6 q (h3.trans z)
    unfold tellsteps
    rw [dc_n n0]
theorem tl_X9_step (hI : IV S) (oc : ob S c 9) (ab : ABd A) (gb : GBd A G) (ge : GBe A G) (e2 : fR S c 2 = some w1) (h8 : WT w1 A G S) (lg : LG c lgo b0 b1 S) (wd : WYd c A G S) (h : P_X9_step c v1 v2 v3 v4 v5 v6 Q S) : P_X9_step c v1 v2 v3 v4 v5 v6 (fun x T => Q x T ∧ x = tellstep A G v1 v2 v3 v4 v5 v6 ∧ WYd c A G T) S := by
  have e0 : (0 : Int32).toInt = 0 := by decide
  obtain ⟨wy, y, e5, ws, wv⟩ := wd
  delta P_X9_step P_X9_step_0
  obtain ⟨o1, h⟩ := h
  refine ⟨o1, ?_⟩
  refine cm_X9_wayTrouble (yw_wayTrouble hI oc ab gb ge e2 h8 lg e5 ws wv h) h (fun x3 S1 hp h g => ?_)
  have h := h g
  obtain ⟨-, h3, wt⟩ := hp
  refine cm_X9_refusedBy (sp_X9_refusedBy h) h (fun x6 S4 hp h g b => ?_)
  have h := h g b
  obtain ⟨-, s4, a6⟩ := hp
  have wt := wtp_c oc wt s4
  have wd4 := wtp_d e5 wt
  refine ⟨fun q => ?_, fun q => ⟨h.2 q, ?_, wd4⟩⟩
  · have z3 : x3 = 0 := Classical.byContradiction (an0 a6 q)
    have h0 : wyN A G v1 v2 v3 v4 v5 = 0 := h3.symm.trans z3
    obtain ⟨ok, okm, ne⟩ := wyN_0 h0
    obtain ⟨i1, i2, i3, n1, n2, n3⟩ := wy_n ab ok
    obtain ⟨i4, i5, n4, n5⟩ := wm_n okm
    obtain ⟨g4, rc, y', ws', wv', h8', k⟩ := wt
    obtain ⟨wn', lo, hlo, k⟩ := k z3
    have oc4 := gr_ob g4 oc
    obtain ⟨a8, e8, a9, e9, o8, h⟩ := h.1 q
    cases e5.symm.trans (by rw [← rc]; exact e8 : fR S c 5 = some a8)
    cases e2.symm.trans (by rw [← rc]; exact e9 : fR S c 2 = some a9)
    refine ⟨_, e8, _, e9, o8, ?_⟩
    refine cm_X7_trace (yw_traced ab gb ge i1 i2 i4 i5 n2 n4 i3 ws' wn' h8' hlo k h) h (fun x12 S10 hp h g => ?_)
    have h := h g
    obtain ⟨-, yr, wv9, q12, l400, rows⟩ := hp
    have ws10 := wys_ym ws' (yr_ym (wy := wy) (b0 := 0) (b1 := 0) yr)
    have wn10 := wyn_ym wn' (yr_ym (wy := wy) (b0 := 0) (b1 := 0) yr)
    have e810 : fR S10 c 5 = some wy := by rw [yr.2.2.2.1]; exact e8
    have oc10 : ob S10 c 9 := ym_ob (yr_ym (wy := wy) (b0 := 0) (b1 := 0) yr) oc4
    have n12 : x12.toInt = ((wyL A G v1 v2 v3 v4 v5).length : Int) := by rw [q12]; exact nI_i (by omega)
    have no : (0 ≤ v6 → (wyL A G v1 v2 v3 v4 v5).length ≤ v6.toNatClampNeg) → P_X9_step_61 Q c S10 → P_X9_step_61 (fun x T => Q x T ∧ x = tellstep A G v1 v2 v3 v4 v5 v6 ∧ WYd c A G T) c S10 := by
      intro z h
      delta P_X9_step_61
      obtain ⟨o2, h⟩ := h
      refine ⟨o2, ?_⟩
      refine cm_X9_refuse (sp_X9_refuse h) h (fun x U hp h g => ⟨h g, ?_, wy, y', by rw [hp.2.2]; exact e810, ws_c ws10 hp.2.2, wyv_c oc10 ws10 wv9 hp.2.2⟩)
      unfold tellstep
      rw [dc_y h0, hp.2.1]
      by_cases z6 : 0 ≤ v6
      · rw [if_pos z6, gd_out (z z6)]
      · rw [if_neg z6]
    refine ⟨fun d => no (fun z => ?_) (h.1 d), fun d => ?_⟩
    · have := lt_i d
      have := le_i z
      omega
    have d0 := nlt_i d
    have p6 : 0 ≤ v6 := Int32.le_iff_toInt_le.mpr (by omega)
    have h := h.2 d
    have t6 : v6.toNatClampNeg = v6.toInt.toNat := rfl
    refine ⟨fun d2 => no (fun _ => ?_) (h.1 d2), fun d2 => ?_⟩
    · have := le_i d2
      omega
    have d2' := nle_i d2
    have h := h.2 d2
    obtain ⟨a15, e15, o15, a16, e16, o16, h⟩ := h
    cases e810.symm.trans e15
    cases (ws10.2.1 0 (by decide)).symm.trans e16
    refine ⟨_, e15, o15, _, e16, o16, fun d3 => ?_, fun d3 => ?_⟩
    · obtain ⟨a18, e18, o18, a19, e19, o19, i19, h⟩ := h.1 d3
      cases e810.symm.trans e18
      cases (ws10.2.1 0 (by decide)).symm.trans e19
      refine ⟨_, e18, o18, _, e19, o19, i19, fun x21 q21 => ⟨h x21 q21, ?_, wy, y', e810, ws10, wv9⟩⟩
      unfold tellstep
      rw [dc_y h0, if_pos p6, q21]
      exact rows _ (by omega)
    · exfalso
      have z := nlt_i d3
      rw [wn10 (0, 401) (by decide), nI_i (by decide : (0, 401).2 < 100000)] at z
      have z : (401 : Int) ≤ v6.toInt := z
      omega
  · have n0 : ¬ wyN A G v1 v2 v3 v4 v5 = 0 := fun z => an1 a6 q (h3.trans z)
    unfold tellstep
    rw [dc_n n0]
/-- off's loop -/
theorem yw_off62 (ab : ABd A) (oc : ob S c 9) (e5 : fR S c 5 = some wy) (ws : WYs wy y S) (wn : WYn y S) (wv : WYv wy y A G S) (k : WYk wy y A G w gl tl 0 S) (ip : p < aP A) (htl : tl ≤ 400) (h : P_X9_off_62 Q c (nI p) (nI tl) (-1) 0 S) : P_X9_off_62 (fun x T => Q x T ∧ x = oI (offB (fun k => TBw A G w gl tl p k) (tl + 1)) ∧ WYd c A G T) c (nI p) (nI tl) (-1) 0 S := by
  have b2 := ab.2.2.1
  intro X hX
  refine h (fun a0 a2 a4 a6 a7 U => (c = a0 ∧ nI p = a2 ∧ nI tl = a4 ∧ S = U ∧ ∃ n, n ≤ tl + 1 ∧ nI n = a7 ∧ oI (offB (fun k => TBw A G w gl tl p k) n) = a6) → X a0 a2 a4 a6 a7 U) ?_ ⟨rfl, rfl, rfl, rfl, 0, Nat.zero_le _, rfl, rfl⟩
  rintro a0 a2 a4 a6 a7 U h ⟨rfl, rfl, rfl, rfl, n, hn, rfl, rfl⟩
  apply hX
  have wd : WYd c A G S := ⟨wy, y, e5, ws, wv⟩
  have bo : ∀ b, offB (fun k => TBw A G w gl tl p k) n = some b → b < 100000 := fun b z => by have := (off_lt n b z).1; omega
  have nn : (nI n).toInt = (n : Int) := nI_i (by omega)
  have nt : (nI tl).toInt = (tl : Int) := nI_i (by omega)
  refine ⟨fun d => ?_, fun d => ?_⟩
  · have d := lt_i d
    have z : n = tl + 1 := by omega
    have h := h.1 (by assumption)
    refine ⟨fun q => ⟨h.1 q, by rw [z], wd⟩, fun q => ?_⟩
    obtain ⟨o, h⟩ := h.2 q
    refine ⟨o, ?_⟩
    refine cm_X9_refuse (sp_X9_refuse h) h (fun x U hp h g => ⟨h g, ?_, wy, y, by rw [hp.2.2]; exact e5, ws_c ws hp.2.2, wyv_c oc ws wv hp.2.2⟩)
    rw [hp.2.1, ← z, q]
  have hk : n ≤ tl := by have := nlt_i d; omega
  have cell := wyk_at k (Nat.zero_le n) hk ip
  have nx : ∀ v6 : Int32, oI (offB (fun k => TBw A G w gl tl p k) (n + 1)) = v6 → P_X9_off_128 Q (fun a0 a2 a4 a6 a7 U => (c = a0 ∧ nI p = a2 ∧ nI tl = a4 ∧ S = U ∧ ∃ n, n ≤ tl + 1 ∧ nI n = a7 ∧ oI (offB (fun k => TBw A G w gl tl p k) n) = a6) → X a0 a2 a4 a6 a7 U) c (nI p) (nI tl) v6 (nI n) S → P_X9_off_128 (fun x T => Q x T ∧ x = oI (offB (fun k => TBw A G w gl tl p k) (tl + 1)) ∧ WYd c A G T) X c (nI p) (nI tl) v6 (nI n) S := by
    intro v6 e6 h
    delta P_X9_off_128
    intro x1 q1
    have h := h x1 q1
    have q1 : x1 = nI (n + 1) := by rw [q1]; exact nI_add n 1
    subst q1
    exact h ⟨rfl, rfl, rfl, rfl, n + 1, by omega, rfl, e6⟩
  have f104 : ∀ s0 : Int32, (s0 = 0 → TBw A G w gl tl p n = none ∨ oI (offB (fun k => TBw A G w gl tl p k) (n + 1)) = oI (offB (fun k => TBw A G w gl tl p k) n)) → (¬ s0 = 0 → TBw A G w gl tl p n = none ∨ oI (offB (fun k => TBw A G w gl tl p k) (n + 1)) = nI n) → P_X9_off_104 Q (fun a0 a2 a4 a6 a7 U => (c = a0 ∧ nI p = a2 ∧ nI tl = a4 ∧ S = U ∧ ∃ n, n ≤ tl + 1 ∧ nI n = a7 ∧ oI (offB (fun k => TBw A G w gl tl p k) n) = a6) → X a0 a2 a4 a6 a7 U) c (nI p) (nI tl) (oI (offB (fun k => TBw A G w gl tl p k) n)) (nI n) s0 S → P_X9_off_104 (fun x T => Q x T ∧ x = oI (offB (fun k => TBw A G w gl tl p k) (tl + 1)) ∧ WYd c A G T) X c (nI p) (nI tl) (oI (offB (fun k => TBw A G w gl tl p k) n)) (nI n) s0 S := by
    intro s0 z0 z1 h
    delta P_X9_off_104
    obtain ⟨o1, a1, e1, o2, h⟩ := h
    cases e5.symm.trans e1
    refine ⟨o1, _, e1, o2, ?_⟩
    refine cm_X7_isOpen (yw_isOpen ws wn (by omega) (by omega) htl cell.1 cell.2 h) h (fun x4 S2 hp h g b => ?_)
    have h := h g b
    obtain ⟨-, hS, a4⟩ := hp
    subst hS
    refine ⟨fun q => nx _ ?_ (h.1 q), fun q => ?_⟩
    · have tn : TBw A G w gl tl p n = none := Classical.byContradiction (an0 a4 q)
      show oI (offS _ n _) = _
      unfold offS
      rw [dc_y tn]
    have ne := an1 a4 q
    have h := h.2 q
    exact ⟨fun q2 => nx _ ((z0 q2).resolve_left ne) (h.1 q2), fun q2 => nx _ ((z1 q2).resolve_left ne) (h.2 q2)⟩
  have h := h.2 d
  refine ⟨fun q => ?_, fun q => ?_⟩
  · have h := h.1 q
    delta P_X9_off_99
    refine f104 1 (fun z => absurd z (by decide)) (fun _ => ?_) h
    by_cases tn : TBw A G w gl tl p n = none
    · exact Or.inl tn
    · refine Or.inr ?_
      show oI (offS _ n _) = _
      unfold offS
      rw [dc_n tn, oI_m1 bo q]
      rfl
  obtain ⟨o1, a7, e7, o7, h⟩ := h.2 q
  cases e5.symm.trans e7
  refine ⟨o1, _, e7, o7, ?_⟩
  obtain ⟨b, hb⟩ : ∃ b, offB (fun k => TBw A G w gl tl p k) n = some b := by
    cases z : offB (fun k => TBw A G w gl tl p k) n with
    | none => rw [z] at q; exact absurd rfl q
    | some b => exact ⟨b, rfl⟩
  have bl := off_lt n b hb
  have vb : oI (offB (fun k => TBw A G w gl tl p k) n) = nI b := by rw [hb]; rfl
  refine cm_X7_meanFrom (yw_meanFrom ws wn (by omega) (by omega) htl cell.1 cell.2 h) h (fun x10 S8 hp h g => ?_)
  have h := h g
  obtain ⟨-, hS, m10⟩ := hp
  subst hS
  obtain ⟨a11, e11, o11, h⟩ := h
  cases e5.symm.trans e11
  refine ⟨_, e11, o11, ?_⟩
  have cellb := wyk_at k (Nat.zero_le b) (by omega) ip
  have fb : ∀ F, P_X7_meanFrom wy (nI p) (oI (offB (fun k => TBw A G w gl tl p k) n)) F S = P_X7_meanFrom wy (nI p) (nI b) F S := fun F => by rw [vb]
  rw [fb] at h ⊢
  refine cm_X7_meanFrom (yw_meanFrom ws wn (by omega) (by omega) htl cellb.1 cellb.2 h) h (fun x14 S12 hp h g => ?_)
  have h := h g
  obtain ⟨-, hS, m14⟩ := hp
  subst hS
  have m14 := (m14 bl.2).2.1
  have st : ¬ TBw A G w gl tl p n = none → offB (fun k => TBw A G w gl tl p k) (n + 1) = if mE (TBw A G w gl tl p n) < mE (TBw A G w gl tl p b) then some n else some b := fun ne => by
    show offS _ n _ = _
    unfold offS
    rw [dc_n ne, hb]
  refine ⟨fun q2 => ?_, fun q2 => ?_⟩
  · refine f104 0 (fun _ => ?_) (fun z => absurd rfl z) (h.1 q2)
    by_cases tn : TBw A G w gl tl p n = none
    · exact Or.inl tn
    · have m10 := (m10 tn).2.1
      refine Or.inr ?_
      rw [st tn, if_neg (fun z => (lgc_ge.mpr (by rw [m10, m14]; exact z)) q2), hb]
  · have h := h.2 q2
    delta P_X9_off_99
    refine f104 1 (fun z => absurd z (by decide)) (fun _ => ?_) h
    by_cases tn : TBw A G w gl tl p n = none
    · exact Or.inl tn
    · have m10 := (m10 tn).2.1
      have z := lgc_ge.mp q2
      rw [m10, m14] at z
      refine Or.inr ?_
      rw [st tn, if_pos z]
      rfl
theorem tl_X9_off (hI : IV S) (oc : ob S c 9) (ab : ABd A) (gb : GBd A G) (ge : GBe A G) (e2 : fR S c 2 = some w1) (h8 : WT w1 A G S) (lg : LG c lgo b0 b1 S) (wd : WYd c A G S) (h : P_X9_off c v1 v2 v3 v4 Q S) : P_X9_off c v1 v2 v3 v4 (fun x T => Q x T ∧ x = telloff A G v1 v2 v3 v4 ∧ WYd c A G T) S := by
  obtain ⟨wy, y, e5, ws, wv⟩ := wd
  have f25 : ∀ x : Int32, ((x = 0 ∧ wyOK A v1 v2 v3 ∧ ¬ (v4 < 0 ∨ (400 : Int32) < v4)) ∨ (¬ x = 0 ∧ telloff A G v1 v2 v3 v4 = -1)) → P_X9_off_25 Q c v1 v2 v3 v4 x S → P_X9_off_25 (fun x T => Q x T ∧ x = telloff A G v1 v2 v3 v4 ∧ WYd c A G T) c v1 v2 v3 v4 x S := by
    intro x hx h
    delta P_X9_off_25
    obtain ⟨o1, h⟩ := h
    refine ⟨o1, ?_⟩
    refine cm_X9_refusedBy (sp_X9_refusedBy h) h (fun x3 S1 hp h g b => ?_)
    have h := h g b
    obtain ⟨-, s1, a3⟩ := hp
    have ws1 := ws_c ws s1
    have wv1 := wyv_c oc ws wv s1
    have r1 : fR S1 = fR S := by rw [s1]; rfl
    have oc1 : ob S1 c 9 := ob_wI oc s1
    refine Iff.mp and_comm ⟨fun q => ⟨h.2 q, ?_, wy, y, by rw [r1]; exact e5, ws1, wv1⟩, fun q => ?_⟩
    · exact (hx.resolve_left (fun z => an1 a3 q z.1)).2.symm
    have z0 : x = 0 := Classical.byContradiction (an0 a3 q)
    obtain ⟨-, ok, oh⟩ := hx.resolve_right (fun z => z.1 z0)
    have q0 : ¬ ((0 : Int32) < 0 ∨ v4 < 0) := fun z => z.elim (fun z => absurd z (by decide)) (fun z => oh (Or.inl z))
    obtain ⟨-, i4, -, n4⟩ := wm_n (v4 := 0) ⟨oh, q0⟩
    obtain ⟨i1, i2, i3, n1, n2, n3⟩ := wy_n ab ok
    obtain ⟨a5, e5', a6, e6, a7, e7, o8, h⟩ := h.1 q
    cases e5.symm.trans (by rw [← r1]; exact e5' : fR S c 5 = some a5)
    cases e2.symm.trans (by rw [← r1]; exact e6 : fR S c 2 = some a6)
    cases lg.1.symm.trans (by rw [← r1]; exact e7 : fR S c 4 = some a7)
    refine ⟨_, e5', _, e6, _, e7, o8, ?_⟩
    have fin : ∀ F, P_X7_reckon wy w1 lgo v1 v3 v4 0 F S1 = P_X7_reckon wy w1 lgo (nI v1.toNatClampNeg) (nI v3.toNatClampNeg) (nI v4.toNatClampNeg) (nI 0) F S1 := fun F => by rw [← n1, ← n3, ← n4]; rfl
    rw [fin] at h ⊢
    have wl1 : (hN S1 (y 1) = 0 ∧ fI S1 wy 10 = -1) ∨ WYn y S1 := (wl_of hI ws wv).elim (fun z => Or.inl ⟨by rw [s1]; exact z.1, by rw [row_o s1 (ob_ne ws.1 oc (by decide))]; exact z.2⟩) (fun z => Or.inr (wyn_c z s1))
    have cl1 : CLx S1 := by
      have z : CLx S := cl_of hI
      rw [s1]
      exact z
    refine cm_X7_reckon (yw_reckon cl1 ab gb ge i1 i3 i4 (Nat.zero_le _) lg.2.2.2.2 ws1 wl1 wv1 (wt_c oc h8 s1) (ob_wI lg.2.1 s1) (by rw [r1]; exact lg.2.2.1) (by rw [r1]; exact lg.2.2.2.1) h) h (fun T hp h g => ?_)
    have h := h g
    obtain ⟨-, gT, rT, y', ws', wn', h8', lo, hlo, k⟩ := hp
    have l0 : lo = 0 := Nat.le_zero.mp hlo
    rw [l0] at k
    have rc : fR T c = fR S c := (rT c 9 oc1 (by decide)).trans (by rw [r1])
    have ocT := gr_ob gT oc1
    have wvT : WYv wy y' A G T := Or.inr ⟨wn', _, _, _, 0, i1, i3, i4, k⟩
    have f62 : ∀ F, P_X9_off_62 F c v2 v4 (-1) 0 T = P_X9_off_62 F c (nI v2.toNatClampNeg) (nI v4.toNatClampNeg) (-1) 0 T := fun F => by rw [← n2, ← n4]
    have kk : telloff A G v1 v2 v3 v4 = oI (offB (fun k => TBw A G v1.toNatClampNeg v3.toNatClampNeg v4.toNatClampNeg v2.toNatClampNeg k) (v4.toNatClampNeg + 1)) := by
      unfold telloff
      rw [dc_y ok, dc_y oh]
    rw [f62] at h
    have h := yw_off62 ab ocT (by rw [rc]; exact e5) ws' wn' wvT k i2 i4 h
    rw [← kk, ← f62] at h
    exact h
  delta P_X9_off P_X9_off_0
  obtain ⟨o1, h⟩ := h
  refine ⟨o1, ?_⟩
  refine cm_X9_placesTrouble (yw_placesTrouble ab e2 h8 h) h (fun x3 S1 hp h g => ?_)
  have h := h g
  obtain ⟨-, hS, a3⟩ := hp
  subst hS
  refine ⟨fun q => ?_, fun q => ?_⟩
  · have z := a3.resolve_left (fun z => q z.1)
    exact f25 x3 (Or.inr ⟨q, by unfold telloff; rw [dc_n z.2]⟩) (h.1 q)
  have ok := (a3.resolve_right (fun z => by rw [q] at z; exact absurd z.1 (by decide))).2
  have h := h.2 q
  refine cm_X9_isTill (sp_X9_isTill h) h (fun x7 S5 hp h g b => ?_)
  have h := h g b
  obtain ⟨-, hS, a7⟩ := hp
  subst hS
  exact ⟨fun z => f25 x3 (Or.inl ⟨q, ok, an1 a7 z⟩) (h.1 z), fun z => f25 2 (Or.inr ⟨by decide, by unfold telloff; rw [dc_y ok, dc_n (an0 a7 z)]⟩) (h.2 z)⟩
end C77
end
section
/-! ways: the class's rows over all other calls, over world and at the start -/
def OX (x k : Nat) (F : Nat → Int32) (R : Nat → Option Nat) (S : HS) : Prop := ob S x k ∧ fI S x = F ∧ fR S x = R
section C78
variable {c m wy w1 w2 r x k a a3 j q n v0 v2 : Nat} {F : Nat → Int32} {R : Nat → Option Nat} {S T U : HS} {y : Nat → Nat} {A A' : AS} {G G' : GC} {v v1 z : Int32} {vr : Option Nat} {Q0 : HS → Prop} {Q : Int32 → HS → Prop} {kk nn : Nat} {wi wr : List (Nat × Nat)} {bb : Bool}
theorem ox_W (h : OX x k F R S) (ha : a ∉ hL S) (e : T = nW S a q n) : OX x k F R T := by
  have nx : x ≠ a := fun z => ha (z ▸ h.1.1)
  exact ⟨gr_ob (gr_of_new e ha) h.1, by rw [e]; exact (va_up_ne _ _ nx).trans h.2.1, by rw [e]; exact (va_up_ne _ _ nx).trans h.2.2⟩
theorem ox_R (h : OX x k F R S) (nx : x ≠ a) (e : T = sR S a j vr) : OX x k F R T := ⟨ob_wR h.1 e, by rw [e]; exact h.2.1, by rw [e]; exact (u2_row _ _ nx).trans h.2.2⟩
theorem ox_I (h : OX x k F R S) (nx : x ≠ a) (e : T = sI S a j v) : OX x k F R T := ⟨ob_wI h.1 e, (row_o e nx).trans h.2.1, by rw [e]; exact h.2.2⟩
theorem ox_X2_init (hk : k ≠ 2) (h : OX x k F R S) (p : P_X2_init a Q0 S) : P_X2_init a (fun T => Q0 T ∧ OX x k F R T) S := by
  delta P_X2_init P_X2_init_0
  intro a1 n1 S2 q2
  obtain ⟨o2, p⟩ := p a1 n1 S2 q2
  have h2 := ox_W h n1 q2
  exact ⟨o2, fun S3 q3 => ⟨p S3 q3, ox_R h2 (ob_ne h2.1 o2 hk) q3⟩⟩
theorem ox69 (hk : k ≠ 2) (h16 : k ≠ 16) (h : OX x k F R S) (p : P_X0_init_69 Q0 v0 v kk nn S) : P_X0_init_69 (fun T => Q0 T ∧ OX x k F R T) v0 v kk nn S := by
  intro X hX
  refine p (fun a0 v1 kk nn T => OX x k F R T → X a0 v1 kk nn T) ?_ h
  rintro a0 v1 kk nn T p h
  apply hX
  obtain ⟨o1, a1, e1, o2, p⟩ := p
  refine ⟨o1, _, e1, o2, fun c1 => ⟨(p.1 c1).1, (p.1 c1).2.1, (p.1 c1).2.2, h⟩, fun c1 => ?_⟩
  obtain ⟨a3, e3, p1, p2, p⟩ := p.2 c1
  refine ⟨_, e3, p1, p2, fun a4 n4 S5 q5 => ?_⟩
  obtain ⟨p3, p4, p⟩ := p a4 n4 S5 q5
  refine ⟨p3, p4, ?_⟩
  refine cm_X2_init (ox_X2_init hk (ox_W h n4 q5) p) p (fun S6 hp p g => ?_)
  obtain ⟨o6, i6, p⟩ := p g
  exact ⟨o6, i6, fun S10 q10 x11 q11 => p S10 q10 x11 q11 (ox_R hp.2 (ob_ne hp.2.1 o6 h16) q10)⟩
theorem ox39 (hk : k ≠ 2) (h16 : k ≠ 16) (h : OX x k F R S) (p : P_X0_init_39 Q0 v0 v kk nn S) : P_X0_init_39 (fun T => Q0 T ∧ OX x k F R T) v0 v kk nn S := by
  intro X hX
  refine p (fun a0 v1 kk nn T => OX x k F R T → X a0 v1 kk nn T) ?_ h
  rintro a0 v1 kk nn T p h
  apply hX
  obtain ⟨o1, a1, e1, o2, p⟩ := p
  refine ⟨o1, _, e1, o2, fun c1 => ox69 hk h16 h (p.1 c1), fun c1 => ?_⟩
  obtain ⟨a3, e3, p1, p2, p⟩ := p.2 c1
  refine ⟨_, e3, p1, p2, fun a4 n4 S5 q5 => ?_⟩
  obtain ⟨p3, p4, p⟩ := p a4 n4 S5 q5
  refine ⟨p3, p4, ?_⟩
  refine cm_X2_init (ox_X2_init hk (ox_W h n4 q5) p) p (fun S6 hp p g => ?_)
  obtain ⟨o6, i6, p⟩ := p g
  exact ⟨o6, i6, fun S10 q10 x11 q11 => p S10 q10 x11 q11 (ox_R hp.2 (ob_ne hp.2.1 o6 h16) q10)⟩
theorem ox_X0_init (h0 : k ≠ 0) (hk : k ≠ 2) (h16 : k ≠ 16) (h : OX x k F R S) (p : P_X0_init v0 Q0 S) : P_X0_init v0 (fun T => Q0 T ∧ OX x k F R T) S := by
  delta P_X0_init P_X0_init_0
  obtain ⟨o1, p⟩ := p
  have nx : x ≠ v0 := ob_ne h.1 o1 h0
  refine ⟨o1, fun S1 q1 => ?_⟩
  obtain ⟨p1, p2, p⟩ := p S1 q1
  refine ⟨p1, p2, fun a2 n2 S3 q3 => ?_⟩
  obtain ⟨p3, p4, p⟩ := p a2 n2 S3 q3
  refine ⟨p3, p4, ?_⟩
  refine cm_X2_init (ox_X2_init hk (ox_W (ox_I h nx q1) n2 q3) p) p (fun S4 hp p g => ?_)
  have p := p g
  intro S7 q7
  obtain ⟨p5, p6, p⟩ := p S7 q7
  refine ⟨p5, p6, fun a8 n8 S9 q9 S10 q10 => ?_⟩
  obtain ⟨p7, p8, p⟩ := p a8 n8 S9 q9 S10 q10
  refine ⟨p7, p8, fun a11 n11 S12 q12 S13 q13 => ?_⟩
  have p := p a11 n11 S12 q12 S13 q13
  exact ox39 hk h16 (ox_R (ox_W (ox_R (ox_W (ox_R hp.2 nx q7) n8 q9) nx q10) n11 q12) nx q13) p
theorem y7_init (p : P_X7_init v0 Q0 S) : P_X7_init v0 (fun T => Q0 T ∧ fI T v0 10 = -1) S := by
  delta P_X7_init P_X7_init_0
  intro a1 n1 S2 q2
  obtain ⟨o2, p⟩ := p a1 n1 S2 q2
  refine ⟨o2, fun S3 q3 a4 n4 S5 q5 S6 q6 a7 n7 S8 q8 S9 q9 a10 n10 S11 q11 S12 q12 a13 n13 S14 q14 S15 q15 a16 n16 S17 q17 S18 q18 a19 n19 S20 q20 S21 q21 a22 n22 S23 q23 S24 q24 S25 q25 S26 q26 S27 q27 S28 q28 => ⟨p S3 q3 a4 n4 S5 q5 S6 q6 a7 n7 S8 q8 S9 q9 a10 n10 S11 q11 S12 q12 a13 n13 S14 q14 S15 q15 a16 n16 S17 q17 S18 q18 a19 n19 S20 q20 S21 q21 a22 n22 S23 q23 S24 q24 S25 q25 S26 q26 S27 q27 S28 q28, ?_⟩⟩
  have e : (10 : Nat) ≠ 12 := by decide
  have e' : (10 : Nat) ≠ 11 := by decide
  rw [row_I q28, va_up_ne _ _ e, row_I q27, va_up_ne _ _ e', row_I q26, va_up_self]
theorem sy_X9_init (h : P_X9_init c Q0 S) : P_X9_init c (fun T => Q0 T ∧ ∀ wy, fR T c 5 = some wy → fI T wy 10 = -1) S := by
  delta P_X9_init P_X9_init_0
  intro a1 n1 S2 q2
  obtain ⟨o2, h⟩ := h a1 n1 S2 q2
  refine ⟨o2, fun S3 q3 a4 n4 S5 q5 => ?_⟩
  have h := h S3 q3 a4 n4 S5 q5
  have oc5 : ob S5 c 9 := gr_ob (gr_of_new q5 n4) (ob_wR o2 q3)
  refine cm_X8_init h h (fun S6 h _ g => ?_)
  have h := h g
  have oc6 := gr_ob g oc5
  intro S9 q9 a10 n10 S11 q11
  have h := h S9 q9 a10 n10 S11 q11
  have oc11 : ob S11 c 9 := gr_ob (gr_of_new q11 n10) (ob_wR oc6 q9)
  refine cm_X4_init h h (fun S12 h _ g => ?_)
  have h := h g
  have oc12 := gr_ob g oc11
  intro S15 q15 a16 n16 S17 q17
  have h := h S15 q15 a16 n16 S17 q17
  have oc17 : ob S17 c 9 := gr_ob (gr_of_new q17 n16) (ob_wR oc12 q15)
  refine cm_X1_init h h (fun S18 h _ g => ?_)
  have h := h g
  have oc18 := gr_ob g oc17
  intro S21 q21 a22 n22 S23 q23
  have h := h S21 q21 a22 n22 S23 q23
  have oc23 : ob S23 c 9 := gr_ob (gr_of_new q23 n22) (ob_wR oc18 q21)
  have ow23 : ob S23 a22 7 := ob_of_new q23
  refine cm_X7_init (y7_init h) h (fun S24 hp h g => ?_)
  have h := h g
  have oc24 := gr_ob g oc23
  have ow24 := gr_ob g ow23
  intro S27 q27 a28 n28 S29 q29
  have h := h S27 q27 a28 n28 S29 q29
  have nwc : a22 ≠ c := ob_ne ow24 oc24 (by decide)
  have w24 : OX a22 7 (fI S24 a22) (fR S24 a22) S24 := ⟨ow24, rfl, rfl⟩
  have w29 := ox_W (ox_R w24 nwc q27) n28 q29
  have c27 : OX c 9 (fI S27 c) (fR S27 c) S27 := ⟨ob_wR oc24 q27, rfl, rfl⟩
  have c29 := ox_W c27 n28 q29
  have r27 : fR S27 c 5 = some a22 := by rw [q27]; exact u2_self _ _ _ _
  refine cm_X0_init (ox_X0_init (by decide) (by decide) (by decide) w29 h) (ox_X0_init (by decide) (by decide) (by decide) c29 h) (fun S30 hp1 hp2 g => ?_)
  have h := hp2.1 g
  intro S33 q33
  refine ⟨h S33 q33, fun wy e => ?_⟩
  have r30 : fR S30 c 5 = some a22 := by rw [hp2.2.2.2]; exact r27
  have e' : u2 (fR S30) c 6 (some a28) c 5 = some wy := by rw [q33] at e; exact e
  rw [u2_ne _ _ (fun z => absurd z.2 (by decide)), r30] at e'
  cases e'
  rw [q33]
  show fI S30 a22 10 = -1
  rw [hp1.2.2.1]
  exact hp.2
theorem wyd_start {FF : List (Nat × Nat × Nat)} {g : Nat → Int32} (hI : IV S) (oc : ob S c 9) (u : UZ S) (hw : ∀ wy, fR S c 5 = some wy → fI S wy 10 = -1) (hf : m ∉ hL S) (bx : BX (nW S m 11 0) T m FF g) (ha : a3 ∉ hL T) (e5 : U = nW T a3 14 1) : WYd c A G U := by
  have row := fun {b : Nat} (hb : b ∈ hL S) => st_rows hf bx ha e5 hb
  have obU : ∀ {b q : Nat}, ob S b q → ob U b q := fun o => ⟨(row o.1).2.2.2.1, (row o.1).2.2.2.2.trans o.2⟩
  obtain ⟨wy, ew, ow, -⟩ := hI.1 (9, 5, 7, 0) (by decide) c oc
  have hd : ∀ j ∈ jW, ∃ e ∈ shT, e.1 = 7 ∧ e.2.1 = j := by decide
  have hdI : ∀ j ∈ jI, ∃ e ∈ shT, e.1 = 7 ∧ e.2.1 = j ∧ e.2.2.1 = 13 := by decide
  have hdJ : ∀ j ∈ jJ, ∃ e ∈ shT, e.1 = 7 ∧ e.2.1 = j ∧ e.2.2.1 = 14 := by decide
  have hy : ∀ j ∈ jW, fR S wy j = some ((fR S wy j).getD 0) ∧ (fR S wy j).getD 0 ∈ hL S := fun j hj => by
    obtain ⟨e, he, k1, k2⟩ := hd j hj
    obtain ⟨b, h1, h2, -⟩ := hI.1 e he wy (by rw [k1]; exact ow)
    rw [k2] at h1
    rw [h1]
    exact ⟨rfl, h2.1⟩
  have hyI : ∀ j ∈ jI, ob S ((fR S wy j).getD 0) 13 := fun j hj => by
    obtain ⟨e, he, k1, k2, k3⟩ := hdI j hj
    obtain ⟨b, h1, h2, -⟩ := hI.1 e he wy (by rw [k1]; exact ow)
    rw [k2] at h1
    rw [h1]
    rw [k3] at h2
    exact h2
  have hyJ : ∀ j ∈ jJ, ob S ((fR S wy j).getD 0) 14 := fun j hj => by
    obtain ⟨e, he, k1, k2, k3⟩ := hdJ j hj
    obtain ⟨b, h1, h2, -⟩ := hI.1 e he wy (by rw [k1]; exact ow)
    rw [k2] at h1
    rw [h1]
    rw [k3] at h2
    exact h2
  have kind : ∀ x k, ob U x k → k < 12 → x ∈ hL S ∨ x = m := fun x k ox hk => by
    obtain ⟨o1, o2⟩ := ox
    rw [e5] at o1 o2
    have o1 : x ∈ hL T ++ [a3] := o1
    by_cases xa : x = a3
    · exfalso
      have o2 : va_up (hK T) a3 14 x = k := o2
      rw [xa, va_up_self] at o2
      omega
    · have o2 : va_up (hK T) a3 14 x = k := o2
      rw [va_up_ne _ _ xa] at o2
      rcases List.mem_append.mp o1 with z | z
      · rcases bx.2.2.1 x z with q | q
        · have q : x ∈ hL S ++ [m] := q
          rcases List.mem_append.mp q with q | q
          · exact Or.inl q
          · exact Or.inr (List.mem_singleton.mp q)
        · omega
      · exact absurd (List.mem_singleton.mp z) xa
  have nw : ∀ (L : List (Nat × Nat)), (∀ q ∈ L, q.1 < 12 ∧ q.1 ≠ 7) → ∀ j ∈ jW, NW9 L U ((fR S wy j).getD 0) := fun L hLk j hj q hq x ox zz => by
    have hk := hLk q hq
    rcases kind x q.1 ox hk.1 with hx | hx
    · rw [(row hx).2.2.1] at zz
      have q1 := (u.1.2 x q.2 wy j _ zz (hy j hj).1).1
      have ox' : hK S x = q.1 := (row hx).2.2.2.2.symm.trans ox.2
      rw [q1, ow.2] at ox'
      exact hk.2 ox'.symm
    · have ma3 : m ≠ a3 := fun w => ha (w ▸ (bx.1 m (by show m ∈ hL S ++ [m]; simp)).1)
      have rm : fR U m = fR T m := by rw [e5]; exact va_up_ne _ _ ma3
      rw [hx, rm] at zz
      rcases bx.2.2.2.2.1 q.2 _ zz with y | y
      · exact y.1 ((gr_of_new (T := nW S m 11 0) rfl hf) _ (hy j hj).2).1
      · have y : va_up (fR S) m (fun _ => none) m q.2 = some ((fR S wy j).getD 0) := y
        rw [va_up_self] at y
        cases y
  refine ⟨wy, fun j => (fR S wy j).getD 0, by rw [(row oc.1).2.2.1]; exact ew, ⟨obU ow, fun j hj => ?_, fun i hi j hj e => ?_, fun j hj => ⟨obU (hyI j hj), nw LWJ (by decide) j (jI_W j hj)⟩, fun j hj => ⟨obU (hyJ j hj), nw LWL (by decide) j (jJ_W j hj)⟩⟩, Or.inl ?_⟩
  · rw [(row ow.1).2.2.1]
    exact (hy j hj).1
  · have e : (fR S wy i).getD 0 = (fR S wy j).getD 0 := e
    exact (u.1.2 wy i wy j _ (hy i hi).1 (by rw [e]; exact (hy j hj).1)).2
  · rw [(row ow.1).1]
    exact hw wy ew
abbrev wyW : List (Nat × Nat) := [(9, 5), (7, 0), (7, 1), (7, 2), (7, 4), (7, 5), (7, 6), (7, 7), (7, 8)]
/-- the rows themselves behind any call that leaves them -/
theorem ws_keep (oc : ob S c 9) (e5 : fR S c 5 = some wy) (ws : WYs wy y S) (g : Gr S T) (F : FRI wi wr S T) (J : KJ LWJ S T) (L : K9 bb LWL S T) (hr : ∀ q ∈ wyW, q ∉ wr) : fR T c 5 = some wy ∧ WYs wy y T ∧ (∀ j ∈ jI, fI T (y j) = fI S (y j)) ∧ ∀ j ∈ jJ, fJ T (y j) = fJ S (y j) := by
  have hd : ∀ j ∈ jW, (7, j) ∈ wyW := by decide
  have pj := fun j (hj : j ∈ jI) => J.2 (y j) ⟨Or.inl (ws.2.2.2.1 j hj).1, (ws.2.2.2.1 j hj).2⟩
  have pl := fun j (hj : j ∈ jJ) => L.2.2 (y j) (ws.2.2.2.2 j hj)
  exact ⟨(F.2 9 5 (by decide) (hr _ (by decide)) c oc).trans e5, ⟨gr_ob g ws.1, fun j hj => (F.2 7 j (by decide) (hr _ (hd j hj)) wy ws.1).trans (ws.2.1 j hj), ws.2.2.1, fun j hj => ⟨gr_ob g (ws.2.2.2.1 j hj).1, (pj j hj).2⟩, fun j hj => ⟨gr_ob g (ws.2.2.2.2 j hj).1, (pl j hj).2⟩⟩, fun j hj => (pj j hj).1, fun j hj => (pl j hj).1⟩
theorem wyv_mv (ws : WYs wy y S) (wv : WYv wy y A G S) (hn : ∀ j ∈ jW, hN T (y j) = hN S (y j)) (hi : ∀ j ∈ ([3, 9, 10, 11, 12, 13] : List Nat), fI T wy j = fI S wy j) (ri : ∀ j ∈ jI, fI T (y j) = fI S (y j)) (rj : WYn y S → ∀ j ∈ jJ, fJ T (y j) = fJ S (y j)) : WYv wy y A G T := by
  have jw : ∀ e ∈ wyT, e.1 ∈ jW := by decide
  rcases wv with z | ⟨wn, w, gl, tl, lo, i1, i2, i3, k1, k2, k3, k4, k5, k6, k7⟩
  · exact Or.inl ((hi 10 (by decide)).trans z)
  · refine Or.inr ⟨fun e he => (hn e.1 (jw e he)).trans (wn e he), w, gl, tl, lo, i1, i2, i3, (hi 10 (by decide)).trans k1, (hi 11 (by decide)).trans k2, (hi 12 (by decide)).trans k3, (hi 13 (by decide)).trans k4, k5, tck_same (rj wn 1 (by decide)) (ri 2 (by decide)) k6, ?_⟩
    rcases k7 with z | ⟨hh, h6, z, pv⟩
    · exact Or.inl ((hi 9 (by decide)).trans z)
    · exact Or.inr ⟨hh, h6, (hi 9 (by decide)).trans z, mvr_mm pv.1 (ri 4 (by decide)) (ri 5 (by decide)) (ri 6 (by decide)) (ri 8 (by decide)) (rj wn 7 (by decide)), (hi 3 (by decide)).trans pv.2.1, pv.2.2⟩
theorem ws_len (ws : WYs wy y S) (g : Gr S T) : ∀ j ∈ jW, hN T (y j) = hN S (y j) := fun j hj => by
  have hd : ∀ j ∈ jW, j ∈ jI ∨ j ∈ jJ := by decide
  rcases hd j hj with z | z
  · exact gr_len g (ws.2.2.2.1 j z).1
  · exact gr_len g (ws.2.2.2.2 j z).1
/-- any other call -/
theorem wyd_keep (oc : ob S c 9) (wd : WYd c A G S) (g : Gr S T) (F : FRI wi wr S T) (J : KJ LWJ S T) (L : K9 bb LWL S T) (hr : ∀ q ∈ wyW, q ∉ wr) (hi : ∀ j ∈ ([3, 9, 10, 11, 12, 13] : List Nat), (7, j) ∉ wi) : WYd c A G T := by
  obtain ⟨wy, y, e5, ws, wv⟩ := wd
  obtain ⟨e5T, wsT, ri, rj⟩ := ws_keep oc e5 ws g F J L hr
  exact ⟨wy, y, e5T, wsT, wyv_mv ws wv (ws_len ws g) (fun j hj => F.1 7 j (by decide) (hi j hj) wy ws.1) ri (fun _ => rj)⟩
theorem wyd_led (l2 : hN S v2 = 1) (wd : WYd c A G S) (L : LDx v2 S T) : WYd c A G T := by
  obtain ⟨wy, y, e5, ws, wv⟩ := wd
  obtain ⟨h1, h2, h3, h4, h5, h6⟩ := L
  have obT : ∀ {b q : Nat}, ob S b q → ob T b q := fun o => by
    unfold ob
    rw [h1, h2]
    exact o
  have obS : ∀ {b q : Nat}, ob T b q → ob S b q := fun o => by
    unfold ob at o ⊢
    rw [h1, h2] at o
    exact o
  have nwT : ∀ {L : List (Nat × Nat)} {a : Nat}, NW9 L S a → NW9 L T a := fun n q hq x o z => by
    rw [h5] at z
    exact n q hq x (obS o) z
  refine ⟨wy, y, by rw [h5]; exact e5, ⟨obT ws.1, fun j hj => by rw [h5]; exact ws.2.1 j hj, ws.2.2.1, fun j hj => ⟨obT (ws.2.2.2.1 j hj).1, nwT (ws.2.2.2.1 j hj).2⟩, fun j hj => ⟨obT (ws.2.2.2.2 j hj).1, nwT (ws.2.2.2.2 j hj).2⟩⟩, wyv_mv ws wv (fun j _ => by rw [h3]) (fun j _ => by rw [h4]) (fun j _ => by rw [h4]) (fun wn j hj => h6 _ (fun z => ?_))⟩
  have hd : ∀ j ∈ jJ, ∃ e ∈ wyT, e.1 = j ∧ e.2 ≠ 1 := by decide
  obtain ⟨e, he, q1, q2⟩ := hd j hj
  have n := wn e he
  rw [q1, z, l2] at n
  exact q2 n.symm
/-- world(n): the ways are forgotten, or as they were -/
def DyW (c wy : Nat) (S : HS) (z : Int32) (T : HS) : Prop := (z = -1 ∧ fI T wy 10 = fI S wy 10) ∨ ∃ a, fR T c 5 = some a ∧ fI T a 10 = -1
theorem dy_X9_world (hI : IV S) (oc : ob S c 9) (ow : ob S wy 7) (h : P_X9_world c v1 Q S) : P_X9_world c v1 (fun x T => Q x T ∧ DyW c wy S x T) S := by
  have nc : wy ≠ c := ob_ne ow oc (by decide)
  have no : P_X9_world_12 Q c S → P_X9_world_12 (fun x T => Q x T ∧ DyW c wy S x T) c S := by
    intro h
    delta P_X9_world_12
    obtain ⟨o1, h⟩ := h
    refine ⟨o1, ?_⟩
    refine cm_X9_refuse (sp_X9_refuse h) h (fun x U hp h g => ⟨h g, Or.inl ⟨hp.2.1, congrFun (row_o hp.2.2 nc) 10⟩⟩)
  delta P_X9_world P_X9_world_0
  refine ⟨fun c1 => no (h.1 c1), fun c1 => ?_⟩
  obtain ⟨o1, h⟩ := h.2 c1
  refine ⟨o1, fun x2 q2 => ?_⟩
  have h := h x2 q2
  refine Iff.mp and_comm ⟨fun c2 => no (h.2 c2), fun c2 => ?_⟩
  obtain ⟨a4, e4, a5, e5, o5, h⟩ := h.1 c2
  obtain ⟨b5, k5, ob5, lb5⟩ := hI.1 (9, 0, 12, 900) (by decide) c oc
  cases k5.symm.trans e5
  refine ⟨_, e4, _, e5, o5, ?_⟩
  refine cm_X4_read (m_X4_read (Q := fun _ T => FRI [(3, 0), (3, 1), (3, 2), (3, 3), (3, 4), (4, 0), (4, 1), (4, 3), (4, 4), (4, 6), (4, 7), (4, 9), (4, 10), (5, 0), (5, 1), (5, 2), (5, 3), (5, 4), (6, 0), (6, 1), (6, 2), (6, 3), (6, 4), (6, 5), (6, 6), (8, 0), (8, 1), (8, 2), (8, 3), (8, 4), (8, 5)] [(4, 2)] S T) hI o5 ob5 (lb5.resolve_left (by decide)) (Int32.not_lt.mp c1) (fun r T _ _ F _ => F)) h (fun x8 S6 hp h g b => ?_)
  have h := h g b
  have oc6 := gr_ob g oc
  have f6 : fI S6 wy 10 = fI S wy 10 := hp.1 7 10 (by decide) (by decide) wy ow
  intro S9 q9
  obtain ⟨a10, e10, o10, h⟩ := h S9 q9
  refine ⟨_, e10, o10, fun x11 q11 S12 q12 => ?_⟩
  obtain ⟨a13, e13, o13, h⟩ := h x11 q11 S12 q12
  refine ⟨_, e13, o13, fun x14 q14 S15 q15 => ?_⟩
  have h := h x14 q14 S15 q15
  have f15 : fI S15 wy = fI S6 wy := (row_o q15 nc).trans ((row_o q12 nc).trans (row_o q9 nc))
  have oc15 : ob S15 c 9 := ob_wI (ob_wI (ob_wI oc6 q9) q12) q15
  refine Iff.mp and_comm ⟨fun c3 => ?_, fun c3 => ?_⟩
  · have h := h.2 c3
    refine cm_X9_refuse (sp_X9_refuse h) h (fun x U hp h g => ⟨h g, Or.inl ⟨hp.2.1, ?_⟩⟩)
    rw [row_o hp.2.2 nc, f15]
    exact f6
  obtain ⟨a17, e17, a18, e18, o18, h⟩ := h.1 c3
  refine ⟨_, e17, _, e18, o18, ?_⟩
  refine cm_X4_exchange h h (fun a21 S19 h _ g => ?_)
  have h := h g
  have oc19 := gr_ob g oc15
  intro S22 q22
  obtain ⟨a23, e23, o23, h⟩ := h S22 q22
  have oc22 : ob S22 c 9 := ob_wR oc19 q22
  refine ⟨_, e23, o23, ?_⟩
  have n23 : a23 ≠ c := ob_ne o23 oc22 (by decide)
  have f7 : ∀ {Q : HS → Prop}, P_X7_forget a23 Q S22 → P_X7_forget a23 (fun T => Q T ∧ T = sI S22 a23 10 (-1)) S22 := fun h => by
    delta P_X7_forget P_X7_forget_0
    exact ⟨h.1, fun S1 q1 => ⟨h.2 S1 q1, q1⟩⟩
  refine cm_X7_forget (f7 h) h (fun S24 hp h g => ?_)
  have h := h g
  have s24 := hp.2
  have oc24 := gr_ob g oc22
  have o24 := gr_ob g o23
  have w24 : fI S24 a23 10 = -1 := by rw [s24]; exact u2_self _ _ _ _
  have r24 : fR S24 c 5 = some a23 := by rw [s24]; exact e23
  obtain ⟨a27, e27, o27, h⟩ := h
  refine ⟨_, e27, o27, ?_⟩
  refine cm_X0_end (sp_X0_end h) h (fun S28 hp h g => ?_)
  have h := h g
  obtain ⟨-, F, -, -, -⟩ := hp
  have oc28 := gr_ob g oc24
  have o28 := gr_ob g o24
  have w28 : fI S28 a23 10 = -1 := by
    rw [(F.2.2.2.2.1 a23 (ob_ne o24 o27 (by decide))).1]
    exact w24
  have r28 : fR S28 c 5 = some a23 := by rw [F.2.2.2.1]; exact r24
  obtain ⟨a31, e31, o31, h⟩ := h
  refine ⟨_, e31, o31, fun x32 q32 => ?_⟩
  have h := h x32 q32
  refine cm_X9_grant (sp_X9_grant h) h (fun x U hp h g => ⟨h g, Or.inr ⟨a23, ?_, ?_⟩⟩)
  · rw [hp.2.2]
    exact r28
  · rw [row_o hp.2.2 (ob_ne o28 oc28 (by decide))]
    exact w28
/-- the ways behind world(n): of the same world as before, or of any -/
theorem wyd_world (oc : ob S c 9) (wd : WYd c A G S) (g : Gr S T) (F : FRI wi wr S T) (J : KJ LWJ S T) (L : K9 bb LWL S T) (hr : ∀ q ∈ wyW, q ∉ wr) (hi : ∀ j ∈ ([3, 9, 11, 12, 13] : List Nat), (7, j) ∉ wi) (w : ∀ wy, fR S c 5 = some wy → DyW c wy S z T) : (z = -1 → WYd c A G T) ∧ (¬ z = -1 → ∀ A' G', WYd c A' G' T) := by
  obtain ⟨wy, y, e5, ws, wv⟩ := wd
  obtain ⟨e5T, wsT, ri, rj⟩ := ws_keep oc e5 ws g F J L hr
  rcases w wy e5 with ⟨z1, z2⟩ | ⟨a, ea, z2⟩
  · refine ⟨fun _ => ⟨wy, y, e5T, wsT, wyv_mv ws wv (ws_len ws g) (fun j hj => ?_) ri (fun _ => rj)⟩, fun n => absurd z1 n⟩
    by_cases c10 : j = 10
    · rw [c10]; exact z2
    · exact F.1 7 j (by decide) (hi j (by
        simp only [List.mem_cons, List.not_mem_nil, or_false] at hj ⊢
        omega)) wy ws.1
  · cases e5T.symm.trans ea
    exact ⟨fun _ => ⟨wy, y, e5T, wsT, Or.inl z2⟩, fun _ A' G' => ⟨wy, y, e5T, wsT, Or.inl z2⟩⟩
/-- both sides, with the day and the ways -/
def WRw (c m : Nat) (S : HS) : Prop := ∃ A G D dy, WRa c m A G S ∧ GBd A G ∧ GBe A G ∧ Tld m A S ∧ fR S c 6 = some dy ∧ CDd dy D S ∧ MDd m D S ∧ DBd A D ∧ WYd c A G S
/-- the reference's three rows are three -/
theorem rw3_iv (hI : IV S) (om : ob S m 11) : ∃ le ar sb, RW3 m le ar sb S := by
  obtain ⟨le, e1, o1, -⟩ := hI.1 (11, 16, 14, 3208) (by decide) m om
  obtain ⟨ar, e2, o2, -⟩ := hI.1 (11, 17, 13, 3208) (by decide) m om
  obtain ⟨sb, e3, o3, -⟩ := hI.1 (11, 18, 13, 3208) (by decide) m om
  refine ⟨le, ar, sb, om, e1, e2, e3, o2, o3, fun z => ?_⟩
  exact absurd (hI.2.2.2.2.1 m 11 17 m 11 18 sb om (by decide) om (by decide) (z ▸ e2) e3).2 (by decide)
end C78
/-! ways: both sides behind world(n) and the rest; the reference's own rows -/
section C79
variable {c m dy v2 r w1 w2 : Nat} {A : AS} {G : GC} {D : DY} {S T U : HS} {x y l v1 v3 v4 v5 v6 : Int32} {v2' : Int32} {P : Prop} {wi wr : List (Nat × Nat)} {R : Option (AS × GC)} {Q : Int32 → HS → Prop} {QJ : Int64 → HS → Prop}
theorem wr_ww (hI : IV S) (hT : IV T) (hU : IV U) (om : ob S m 11) (J : CJ c r w1 w2 S) (h1 : Cnt w1 A S) (h2 : CtB w1 A G S S) (h3 : ABd A) (h4 : (fR S m 3 = none ∧ A = A00) ∨ ∃ rd, WRm m rd A G S) (g : Gr S T) (K' : K8 S T) (F : FRI wi wr S T) (hR : (11, 3) ∉ wr) (h10 : ∀ i, i < 31 → (10, i) ∉ wr) (h10i : ∀ j, j < 6 → (10, j) ∉ wi) (hW8 : ∀ j ∈ ([6, 7, 8, 9, 10, 11] : List Nat), (8, j) ∉ wr) (g' : Gr T U) (e : WCe c r w1 w2 S R T) (e' : WMe m T R U) (gb : GBd A G) (ge : GBe A G) (td : Tld m A S) (hG : ∀ p, R = some p → GBd p.1 p.2) (hE : ∀ p, R = some p → GBe p.1 p.2 ∧ 0 < aH p.1) (xr : (R = none ∧ x = -1) ∨ ((∃ p, R = some p) ∧ ¬ x = -1)) (e6 : fR U c 6 = some dy) (cdU : (x = -1 ∧ CDd dy D U) ∨ (¬ x = -1 ∧ CDd dy (offD D) U)) (mdU : (x = -1 → MDd m D U) ∧ (¬ x = -1 → MDd m (offD D) U)) (db : DBd A D) (wu : (x = -1 → WYd c A G U) ∧ (¬ x = -1 → ∀ A' G', WYd c A' G' U)) : WRw c m U := by
  obtain ⟨A', G', h, q⟩ := wr_worldz hI hT hU om J h1 h2 h3 h4 g K' F hR h10 h10i hW8 g' e e'
  rcases q with ⟨q0, q1, q2⟩ | q
  · have hx : x = -1 := xr.elim (fun z => z.2) (fun ⟨⟨p, z⟩, _⟩ => by rw [q0] at z; cases z)
    have cd : CDd dy D U := cdU.elim (fun z => z.2) (fun z => absurd hx z.1)
    have e3 : fR U m 3 = fR S m 3 := by
      rw [q0] at e'
      exact e'.2.2.2.trans (F.2 11 3 (by decide) hR m om)
    refine ⟨A', G', D, dy, h, by rw [q1, q2]; exact gb, by rw [q1, q2]; exact ge, ?_, e6, cd, mdU.1 hx, by rw [q1]; exact db, by rw [q1, q2]; exact wu.1 hx⟩
    unfold Tld
    rw [e3, q1]
    exact td
  · have hx : ¬ x = -1 := xr.elim (fun z => by rw [q] at z; cases z.1) (fun z => z.2)
    have cd : CDd dy (offD D) U := cdU.elim (fun z => absurd z.1 hx) (fun z => z.2)
    exact ⟨A', G', offD D, dy, h, hG _ q, (hE _ q).1, Or.inr (hE _ q).2, e6, cd, mdU.2 hx, Or.inl ⟨rfl, rfl, rfl⟩, wu.2 hx A' G'⟩
theorem wyd_two (h : (x = -1 → WYd c A G T) ∧ (¬ x = -1 → ∀ A' G', WYd c A' G' T)) (oc : ob T c 9) (g : Gr T U) {bb : Bool} (F : FRI wi wr T U) (J : KJ LWJ T U) (L : K9 bb LWL T U) (hr : ∀ q ∈ wyW, q ∉ wr) (hi : ∀ j ∈ ([3, 9, 10, 11, 12, 13] : List Nat), (7, j) ∉ wi) : (x = -1 → WYd c A G U) ∧ (¬ x = -1 → ∀ A' G', WYd c A' G' U) := ⟨fun z => wyd_keep oc (h.1 z) g F J L hr hi, fun z A' G' => wyd_keep oc (h.2 z A' G') g F J L hr hi⟩
theorem tlr_X11_off (hI : IV S) (om : ob S m 11) (hm : HM m A G S) (ab : ABd A) (gb : GBd A G) (ge : GBe A G) (h : P_X11_off m v1 v2' v3 v4 Q S) : P_X11_off m v1 v2' v3 v4 (fun x T => Q x T ∧ x = telloff A G v1 v2' v3 v4) S := by
  obtain ⟨le, ar, sb, R⟩ := rw3_iv hI om
  exact tl_X11_off hI hm ab gb ge R h
end C79
section C79b
variable {m v3 : Nat} {S T : HS} {res : Option Int32} {x r : Int32}
end C79b
end
