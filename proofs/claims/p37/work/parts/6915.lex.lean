/-! LEXING: what both readers see of the bytes f, n of them -/
def sortOf (b : Int32) : Nat := if 97 ≤ b.toInt ∧ b.toInt ≤ 122 then 1 else if 48 ≤ b.toInt ∧ b.toInt ≤ 57 then 2 else if b.toInt = 32 then 5 else if b.toInt = 44 then 4 else if b.toInt = 59 then 3 else 6
def cls (f : Nat → Int32) (n p : Nat) : Nat := if p < n then sortOf (f p) else 0
def runL (f : Nat → Int32) (n c : Nat) : Nat → Nat → Nat
  | 0, p => p
  | k + 1, p => if cls f n p = c then runL f n c k (p + 1) else p
theorem run_eq {f : Nat → Int32} {n c : Nat} : ∀ (i k p : Nat), i ≤ k → (∀ j, j < i → cls f n (p + j) = c) → cls f n (p + i) ≠ c → runL f n c k p = p + i
  | 0, 0, p, _, _, _ => rfl
  | 0, k + 1, p, _, _, h => by
    have h : cls f n p ≠ c := h
    simp only [runL]
    rw [if_neg h]; rfl
  | i + 1, 0, p, hk, _, _ => absurd hk (by omega)
  | i + 1, k + 1, p, hk, hs, h => by
    have h0 : cls f n p = c := hs 0 (by omega)
    simp only [runL]
    rw [if_pos h0, run_eq i k (p + 1) (by omega) (fun j hj => by rw [Nat.add_assoc, Nat.add_comm 1 j]; exact hs (j + 1) (by omega)) (by rw [Nat.add_assoc, Nat.add_comm 1 i]; exact h)]
    omega
def vL (f : Nat → Int32) (base : Int64) (mask : Int32) (q : Nat) : Nat → Int64
  | 0 => 0
  | m + 1 => vL f base mask q m * base + (f (q + m) &&& mask).toInt64
def tSt (f : Nat → Int32) (n p : Nat) : Nat := runL f n 5 1000 p
def tC (f : Nat → Int32) (n p : Nat) : Nat := cls f n (tSt f n p)
def tLg (c : Nat) : Nat := if c = 1 then 8 else 3
def tBs (c : Nat) : Int64 := if c = 1 then 32 else 10
def tMk (c : Nat) : Int32 := if c = 1 then 31 else 15
def tEn (f : Nat → Int32) (n p : Nat) : Nat := if tC f n p = 1 ∨ tC f n p = 2 then runL f n (tC f n p) 1000 (tSt f n p) else if tC f n p = 0 then tSt f n p else tSt f n p + 1
def tV (f : Nat → Int32) (n p : Nat) : Int64 := if tC f n p = 1 ∨ tC f n p = 2 then vL f (tBs (tC f n p)) (tMk (tC f n p)) (tSt f n p) (min (tEn f n p - tSt f n p) (tLg (tC f n p))) else 0
def tS (f : Nat → Int32) (n p : Nat) : Nat := if (tC f n p = 1 ∨ tC f n p = 2) ∧ tLg (tC f n p) < tEn f n p - tSt f n p then 6 else tC f n p
theorem so_le (b : Int32) : sortOf b ≤ 6 := by
  unfold sortOf
  repeat' split
  all_goals omega
theorem cls_le (f : Nat → Int32) (n p : Nat) : cls f n p ≤ 6 := by
  unfold cls
  split
  · exact so_le _
  · omega
theorem cls_of {f : Nat → Int32} {n p : Nat} {x : Int32} (hl : p < n) (hx : x = f p) : cls f n p = sortOf x := by
  unfold cls
  rw [if_pos hl, hx]
theorem cls_end {f : Nat → Int32} {n p : Nat} (hl : n ≤ p) : cls f n p = 0 := by
  unfold cls
  rw [if_neg (by omega)]
theorem lt_i {a b : Int32} (h : a < b) : a.toInt < b.toInt := Int32.lt_iff_toInt_lt.mp h
theorem nlt_i {a b : Int32} (h : ¬ a < b) : b.toInt ≤ a.toInt := Int32.le_iff_toInt_le.mp (Int32.not_lt.mp h)
theorem le_i {a b : Int32} (h : a ≤ b) : a.toInt ≤ b.toInt := Int32.le_iff_toInt_le.mp h
theorem nle_i {a b : Int32} (h : ¬ a ≤ b) : b.toInt < a.toInt := Int32.lt_iff_toInt_lt.mp (Int32.not_le.mp h)
theorem nI_i {n : Nat} (h : n < 100000) : (nI n).toInt = (n : Int) := nI_toInt (by omega)
theorem nI_inj {a b : Nat} (ha : a < 100000) (hb : b < 100000) (h : nI a = nI b) : a = b := by
  have e1 := nI_i ha
  have e2 := nI_i hb
  rw [h, e2] at e1
  omega
theorem nI_cl {p : Nat} (h : p < 100000) : (nI p).toNatClampNeg = p := Int32.toNatClampNeg_ofNat_of_lt (by omega)
/-- of the object r alone, these int fields and these long fields have changed -/
def Fr (W WJ : List Nat) (r : Nat) (S T : HS) : Prop := hL T = hL S ∧ hK T = hK S ∧ hN T = hN S ∧ fR T = fR S ∧ (∀ b, b ≠ r → fI T b = fI S b ∧ fJ T b = fJ S b) ∧ (∀ j, j ∉ W → fI T r j = fI S r j) ∧ ∀ j, j ∉ WJ → fJ T r j = fJ S r j
section Frs
variable {W WJ W' WJ' : List Nat} {r : Nat} {S T U : HS}
theorem fr_rf (W WJ : List Nat) (r : Nat) (S : HS) : Fr W WJ r S S := ⟨rfl, rfl, rfl, rfl, fun _ _ => ⟨rfl, rfl⟩, fun _ _ => rfl, fun _ _ => rfl⟩
theorem fr_tr (h : Fr W WJ r S T) (g : Fr W WJ r T U) : Fr W WJ r S U := by
  obtain ⟨h1, h2, h3, h4, h5, h6, h7⟩ := h
  obtain ⟨g1, g2, g3, g4, g5, g6, g7⟩ := g
  exact ⟨g1.trans h1, g2.trans h2, g3.trans h3, g4.trans h4, fun b hb => ⟨(g5 b hb).1.trans (h5 b hb).1, (g5 b hb).2.trans (h5 b hb).2⟩, fun j hj => (g6 j hj).trans (h6 j hj), fun j hj => (g7 j hj).trans (h7 j hj)⟩
theorem fr_up (h : Fr W WJ r S T) (hW : ∀ j ∈ W, j ∈ W') (hJ : ∀ j ∈ WJ, j ∈ WJ') : Fr W' WJ' r S T := by
  obtain ⟨h1, h2, h3, h4, h5, h6, h7⟩ := h
  exact ⟨h1, h2, h3, h4, h5, fun j hj => h6 j (fun z => hj (hW j z)), fun j hj => h7 j (fun z => hj (hJ j z))⟩
theorem fr_wI {j : Nat} {v : Int32} (h : Fr W WJ r S T) (e : U = sI T r j v) (hj : j ∈ W) : Fr W WJ r S U := by
  refine fr_tr h ?_
  rw [e]
  exact ⟨rfl, rfl, rfl, rfl, fun b hb => ⟨u2_row _ _ hb, rfl⟩, fun i hi => u2_ne _ _ (fun q => hi (q.2 ▸ hj)), fun _ _ => rfl⟩
theorem fr_wJ {j : Nat} {v : Int64} (h : Fr W WJ r S T) (e : U = sJ T r j v) (hj : j ∈ WJ) : Fr W WJ r S U := by
  refine fr_tr h ?_
  rw [e]
  exact ⟨rfl, rfl, rfl, rfl, fun b hb => ⟨rfl, u2_row _ _ hb⟩, fun _ _ => rfl, fun i hi => u2_ne _ _ (fun q => hi (q.2 ▸ hj))⟩
theorem wI_at {j : Nat} {v : Int32} (e : U = sI T r j v) : fI U r j = v := by rw [e]; exact u2_self _ _ _ _
theorem wI_ne {j i : Nat} {v : Int32} (e : U = sI T r j v) (h : i ≠ j) : fI U r i = fI T r i := by rw [e]; exact u2_ne _ _ (fun q => h q.2)
theorem wJ_at {j : Nat} {v : Int64} (e : U = sJ T r j v) : fJ U r j = v := by rw [e]; exact u2_self _ _ _ _
theorem wI_J {j i : Nat} {v : Int32} (e : U = sI T r j v) : fJ U r i = fJ T r i := by rw [e]; rfl
theorem wJ_I {j i : Nat} {v : Int64} (e : U = sJ T r j v) : fI U r i = fI T r i := by rw [e]; rfl
end Frs
/-- the class's reader r over the row a of the bytes f, n of them -/
def EC (f : Nat → Int32) (n a r : Nat) (S : HS) : Prop := fR S r 2 = some a ∧ (∀ j, j < n → fI S a j = f j) ∧ fI S r 3 = nI n ∧ hN S a = 900 ∧ n ≤ 900 ∧ a ≠ r
theorem ec_fr {f : Nat → Int32} {n a r : Nat} {S T : HS} {W WJ : List Nat} (h : EC f n a r S) (g : Fr W WJ r S T) (h3 : 3 ∉ W) : EC f n a r T := by
  obtain ⟨h1, h2, h4, h5, h6, h7⟩ := h
  obtain ⟨g1, g2, g3, g4, g5, g6, g7⟩ := g
  exact ⟨by rw [g4]; exact h1, by rw [(g5 a h7).1]; exact h2, by rw [g6 3 h3]; exact h4, by rw [g3]; exact h5, h6, h7⟩
section SortAt
variable {Q : Int32 → HS → Prop} {S : HS} {x : Int32}
theorem b58 {R : Int32} (h : P_X4_sortAt_58 Q x S) (h1 : ¬ (97 ≤ x.toInt ∧ x.toInt ≤ 122)) (h2 : ¬ (48 ≤ x.toInt ∧ x.toInt ≤ 57)) (hR : nI (sortOf x) = R) : P_X4_sortAt_58 (fun r T => Q r T ∧ S = T ∧ r = R) x S := by
  delta P_X4_sortAt_58 at h ⊢
  have e : sortOf x = if x.toInt = 32 then 5 else if x.toInt = 44 then 4 else if x.toInt = 59 then 3 else 6 := by
    unfold sortOf
    rw [if_neg h1, if_neg h2]
  refine ⟨?_, ?_, ?_, ?_⟩
  · intro c
    refine ⟨h.1 c, rfl, ?_⟩
    rw [← hR, e, if_pos c]; rfl
  · intro c
    refine ⟨h.2.1 c, rfl, ?_⟩
    rw [← hR, e, if_neg (by omega), if_pos c]; rfl
  · intro c
    refine ⟨h.2.2.1 c, rfl, ?_⟩
    rw [← hR, e, if_neg (by omega), if_neg (by omega), if_pos c]; rfl
  · intro c
    refine ⟨h.2.2.2 c, rfl, ?_⟩
    rw [← hR, e, if_neg c.1, if_neg c.2.1, if_neg c.2.2]; rfl
theorem b44 {R : Int32} (h : P_X4_sortAt_44 Q x S) (h1 : ¬ (97 ≤ x.toInt ∧ x.toInt ≤ 122)) (hR : nI (sortOf x) = R) : P_X4_sortAt_44 (fun r T => Q r T ∧ S = T ∧ r = R) x S := by
  delta P_X4_sortAt_44 at h ⊢
  have e48 : (48 : Int32).toInt = 48 := by decide
  have e57 : (57 : Int32).toInt = 57 := by decide
  refine ⟨?_, ?_⟩
  · intro c
    have := lt_i c
    exact b58 (h.1 c) h1 (by omega) hR
  · intro c
    have c1 := nlt_i c
    have h := h.2 c
    refine ⟨?_, ?_⟩
    · intro c
      have := lt_i c
      exact b58 (h.1 c) h1 (by omega) hR
    · intro c
      have c2 := nlt_i c
      refine ⟨h.2 c, rfl, ?_⟩
      rw [← hR]
      unfold sortOf
      rw [if_neg h1, if_pos (by omega)]; rfl
theorem sp_X4_sortAt {f : Nat → Int32} {n a p v0 : Nat} {v1 : Int32} (h : P_X4_sortAt v0 v1 Q S) (E : EC f n a v0 S) (hp : v1 = nI p) (hpp : p ≤ 5000) : P_X4_sortAt v0 v1 (fun r T => Q r T ∧ S = T ∧ r = nI (cls f n p)) S := by
  obtain ⟨E1, E2, E3, E4, E5, E6⟩ := E
  have ep : v1.toInt = (p : Int) := by rw [hp]; exact nI_i (by omega)
  have en : (nI n).toInt = (n : Int) := nI_i (by omega)
  have e0 : (0 : Int32).toInt = 0 := by decide
  have e9 : (nI 900).toInt = 900 := nI_i (by omega)
  have e97 : (97 : Int32).toInt = 97 := by decide
  have e122 : (122 : Int32).toInt = 122 := by decide
  delta P_X4_sortAt P_X4_sortAt_0 at h ⊢
  refine ⟨?_, ?_⟩
  · intro c1
    have := lt_i c1
    omega
  · intro c2
    have h := h.2 c2
    obtain ⟨o3, h⟩ := h
    refine ⟨o3, ?_⟩
    intro x4 ex4
    have h := h x4 ex4
    rw [E3] at ex4
    refine ⟨?_, ?_⟩
    · intro c5
      have c6 := le_i c5
      rw [ex4, en, ep] at c6
      refine ⟨h.1 c5, rfl, ?_⟩
      rw [cls_end (by omega)]; rfl
    · intro c6
      have c7 := nle_i c6
      rw [ex4, en, ep] at c7
      have hl : p < n := by omega
      have h := h.2 c6
      obtain ⟨a7, ea7, h⟩ := h
      refine ⟨a7, ea7, ?_⟩
      cases E1.symm.trans ea7
      obtain ⟨o8, h⟩ := h
      refine ⟨o8, ?_⟩
      refine ⟨?_, ?_⟩
      · intro c9
        have h := h.1 c9
        obtain ⟨a10, ea10, h⟩ := h
        refine ⟨a10, ea10, ?_⟩
        cases E1.symm.trans ea10
        obtain ⟨o11, h⟩ := h
        refine ⟨o11, ?_⟩
        obtain ⟨o12, h⟩ := h
        refine ⟨o12, ?_⟩
        intro x13 ex13
        have h := h x13 ex13
        have hx : x13 = f p := by rw [ex13, hp, nI_cl (by omega)]; exact E2 p hl
        have hR : nI (sortOf x13) = nI (cls f n p) := by rw [cls_of hl hx]
        refine ⟨?_, ?_⟩
        · intro c14
          have := lt_i c14
          exact b44 (h.1 c14) (by omega) hR
        · intro c27
          have h := h.2 c27
          have c1 := nlt_i c27
          refine ⟨?_, ?_⟩
          · intro c28
            have := lt_i c28
            exact b44 (h.1 c28) (by omega) hR
          · intro c41
            have c2 := nlt_i c41
            refine ⟨h.2 c41, rfl, ?_⟩
            rw [← hR]
            unfold sortOf
            rw [if_pos (by omega)]; rfl
      · intro c42
        have := nlt_i c42
        rw [E4, e9, ep] at this
        omega
end SortAt
theorem sp_X4_fail {Q : Int32 → HS → Prop} {S : HS} {v0 : Nat} {v1 : Int32} (h : P_X4_fail v0 v1 Q S) : P_X4_fail v0 v1 (fun r T => Q r T ∧ r = 0 ∧ Fr [0, 1] [] v0 S T ∧ fI T v0 0 = v1 ∧ fI T v0 1 = fI S v0 7) S := by
  delta P_X4_fail P_X4_fail_0 at h ⊢
  obtain ⟨o1, h⟩ := h
  refine ⟨o1, ?_⟩
  intro S2 eS2
  have h := h S2 eS2
  intro x3 ex3
  have h := h x3 ex3
  intro S4 eS4
  have h := h S4 eS4
  refine ⟨h, rfl, fr_wI (fr_wI (fr_rf _ _ _ _) eS2 (by decide)) eS4 (by decide), ?_, ?_⟩
  · rw [wI_ne eS4 (by decide), wI_at eS2]
  · rw [wI_at eS4, ex3, wI_ne eS2 (by decide)]
