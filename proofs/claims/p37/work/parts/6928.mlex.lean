/-! the model's lexer -/
theorem and255 (x : Int32) : (x &&& 255).toInt = x.toInt % 256 := by
  show (x.toBitVec &&& (255#32)).toInt = x.toBitVec.toInt % 256
  have h : (x.toBitVec &&& (255#32)).toNat = x.toBitVec.toNat % 256 := by
    rw [BitVec.toNat_and]
    exact Nat.and_two_pow_sub_one_eq_mod x.toBitVec.toNat 8
  have hl := x.toBitVec.isLt
  rw [BitVec.toInt_eq_toNat_cond, BitVec.toInt_eq_toNat_cond, h]
  split <;> split <;> omega
theorem and31 (x : Int32) : (x &&& 31).toInt = x.toInt % 32 := by
  show (x.toBitVec &&& (31#32)).toInt = x.toBitVec.toInt % 32
  have h : (x.toBitVec &&& (31#32)).toNat = x.toBitVec.toNat % 32 := by
    rw [BitVec.toNat_and]
    exact Nat.and_two_pow_sub_one_eq_mod x.toBitVec.toNat 5
  have hl := x.toBitVec.isLt
  rw [BitVec.toInt_eq_toNat_cond, BitVec.toInt_eq_toNat_cond, h]
  split <;> split <;> omega
theorem and15 (x : Int32) : (x &&& 15).toInt = x.toInt % 16 := by
  show (x.toBitVec &&& (15#32)).toInt = x.toBitVec.toInt % 16
  have h : (x.toBitVec &&& (15#32)).toNat = x.toBitVec.toNat % 16 := by
    rw [BitVec.toNat_and]
    exact Nat.and_two_pow_sub_one_eq_mod x.toBitVec.toNat 4
  have hl := x.toBitVec.isLt
  rw [BitVec.toInt_eq_toNat_cond, BitVec.toInt_eq_toNat_cond, h]
  split <;> split <;> omega
/-- the model m over the row a of the bytes f, n of them -/
def EM (f : Nat → Int32) (n a m : Nat) (S : HS) : Prop := fR S m 5 = some a ∧ (∀ j, j < n → fI S a j = f j) ∧ fI S m 7 = nI n ∧ hN S a = 900 ∧ n ≤ 900 ∧ (a ≠ m ∧ ob S a 12) ∧ ∀ j, j < n → -128 ≤ (f j).toInt ∧ (f j).toInt ≤ 127
theorem em_fr {f : Nat → Int32} {n a m : Nat} {S T : HS} {W WJ : List Nat} (h : EM f n a m S) (g : Fr W WJ m S T) (h3 : 7 ∉ W) : EM f n a m T := by
  obtain ⟨h1, h2, h4, h5, h6, h7, h8⟩ := h
  obtain ⟨g1, g2, g3, g4, g5, g6, g7⟩ := g
  exact ⟨by rw [g4]; exact h1, by rw [(g5 a h7.1).1]; exact h2, by rw [g6 7 h3]; exact h4, by rw [g3]; exact h5, h6, ⟨h7.1, g1.symm ▸ h7.2.1, g2.symm ▸ h7.2.2⟩, h8⟩
def bM (f : Nat → Int32) (n p : Nat) : Int32 := if p < n then f p &&& 255 else -1
section MBytes
variable {f : Nat → Int32} {n a p : Nat} {Q : Int32 → HS → Prop} {S : HS}
theorem bm_cls (E : EM f n a p S) (k : Nat) : cls f n k = if 97 ≤ (bM f n k).toInt ∧ (bM f n k).toInt ≤ 122 then 1 else if 48 ≤ (bM f n k).toInt ∧ (bM f n k).toInt ≤ 57 then 2 else if (bM f n k).toInt = 32 then 5 else if (bM f n k).toInt = 44 then 4 else if (bM f n k).toInt = 59 then 3 else if (bM f n k).toInt = -1 then 0 else 6 := by
  by_cases hk : k < n
  · have hb := E.2.2.2.2.2.2 k hk
    have e : (bM f n k).toInt = (f k).toInt % 256 := by
      unfold bM
      rw [if_pos hk]; exact and255 _
    rw [cls_of hk rfl, e]
    unfold sortOf
    repeat' split
    all_goals omega
  · have e : (bM f n k).toInt = -1 := by
      unfold bM
      rw [if_neg hk]; decide
    rw [cls_end (by omega), e]
    decide
theorem bm_x (E : EM f n a p S) {k : Nat} (hk : k < n) : (bM f n k).toInt = (f k).toInt % 256 ∧ -128 ≤ (f k).toInt ∧ (f k).toInt ≤ 127 := by
  refine ⟨?_, E.2.2.2.2.2.2 k hk⟩
  unfold bM
  rw [if_pos hk]; exact and255 _
theorem sp_X11_byteAt {k v0 : Nat} {v1 : Int32} (h : P_X11_byteAt v0 v1 Q S) (E : EM f n a v0 S) (hp : v1 = nI k) (hpp : k ≤ 5000) : P_X11_byteAt v0 v1 (fun r T => Q r T ∧ S = T ∧ r = bM f n k) S := by
  obtain ⟨E1, E2, E3, E4, E5, E6, E7⟩ := E
  have ep : v1.toInt = (k : Int) := by rw [hp]; exact nI_i (by omega)
  have en : (nI n).toInt = (n : Int) := nI_i (by omega)
  delta P_X11_byteAt P_X11_byteAt_0
  obtain ⟨o1, h⟩ := h
  refine ⟨o1, ?_⟩
  intro x2 ex2
  have h := h x2 ex2
  refine ⟨?_, ?_⟩
  · intro c3
    have c4 := le_i c3
    rw [ex2, E3, en, ep] at c4
    refine ⟨h.1 c3, rfl, ?_⟩
    unfold bM
    rw [if_neg (by omega)]
  · intro c4
    have c5 := nle_i c4
    rw [ex2, E3, en, ep] at c5
    have h := h.2 c4
    obtain ⟨a5, ea5, h⟩ := h
    refine ⟨a5, ea5, ?_⟩
    cases E1.symm.trans ea5
    obtain ⟨o6, h⟩ := h
    refine ⟨o6, ?_⟩
    obtain ⟨o7, h⟩ := h
    refine ⟨o7, ?_⟩
    intro x8 ex8
    have h := h x8 ex8
    refine ⟨h, rfl, ?_⟩
    unfold bM
    rw [if_pos (by omega), ex8, hp, nI_cl (by omega), E2 k (by omega)]
theorem sp_X11_isLetter {v0 : Int32} (h : P_X11_isLetter v0 Q S) : P_X11_isLetter v0 (fun r T => Q r T ∧ S = T ∧ ans (97 ≤ v0.toInt ∧ v0.toInt ≤ 122) r) S := by
  have e97 : (97 : Int32).toInt = 97 := by decide
  have e122 : (122 : Int32).toInt = 122 := by decide
  delta P_X11_isLetter P_X11_isLetter_0
  refine ⟨?_, ?_⟩
  · intro c1
    have := lt_i c1
    exact ⟨h.1 c1, rfl, Or.inr ⟨by omega, rfl⟩⟩
  · intro c2
    have := nlt_i c2
    have h := h.2 c2
    refine ⟨?_, ?_⟩
    · intro c3
      have := lt_i c3
      exact ⟨h.1 c3, rfl, Or.inr ⟨by omega, rfl⟩⟩
    · intro c4
      have := nlt_i c4
      exact ⟨h.2 c4, rfl, Or.inl ⟨by omega, rfl⟩⟩
theorem sp_X11_isDigit {v0 : Int32} (h : P_X11_isDigit v0 Q S) : P_X11_isDigit v0 (fun r T => Q r T ∧ S = T ∧ ans (48 ≤ v0.toInt ∧ v0.toInt ≤ 57) r) S := by
  have e97 : (48 : Int32).toInt = 48 := by decide
  have e122 : (57 : Int32).toInt = 57 := by decide
  delta P_X11_isDigit P_X11_isDigit_0
  refine ⟨?_, ?_⟩
  · intro c1
    have := lt_i c1
    exact ⟨h.1 c1, rfl, Or.inr ⟨by omega, rfl⟩⟩
  · intro c2
    have := nlt_i c2
    have h := h.2 c2
    refine ⟨?_, ?_⟩
    · intro c3
      have := lt_i c3
      exact ⟨h.1 c3, rfl, Or.inr ⟨by omega, rfl⟩⟩
    · intro c4
      have := nlt_i c4
      exact ⟨h.2 c4, rfl, Or.inl ⟨by omega, rfl⟩⟩
end MBytes
/-- the model's number of a token's sort -/
def mSo (t : Nat) : Nat := if t = 0 then 1 else if t = 1 then 2 else if t = 2 then 3 else if t = 3 then 4 else if t = 4 then 4 else 0
/-- the model m stands at the token that begins behind p; no fault so far -/
def MT (f : Nat → Int32) (n p m : Nat) (T : HS) : Prop := fI T m 9 = nI (mSo (tS f n p)) ∧ fI T m 10 = nI (tSt f n p) ∧ (tS f n p = 1 → fJ T m 15 = tV f n p) ∧ (tS f n p = 2 → (fI T m 12).toInt64 = tV f n p) ∧ (tS f n p = 3 → fI T m 11 = 59) ∧ (tS f n p = 4 → fI T m 11 = 44) ∧ (tS f n p ≠ 6 → fI T m 8 = nI (tEn f n p)) ∧ fI T m 13 = 0
theorem run_tok {f : Nat → Int32} {n p q c i : Nat} (hc : c = 1 ∨ c = 2) (hq : q = tSt f n p) (hcc : c = tC f n p) (hi : i ≤ 1000) (hs : ∀ j, j < i → cls f n (q + j) = c) (he : cls f n (q + i) ≠ c) : tEn f n p = q + i ∧ tV f n p = vL f (tBs c) (tMk c) q (min i (tLg c)) ∧ (tLg c < i → tS f n p = 6) ∧ (i ≤ tLg c → tS f n p = c) := by
  have hr := run_eq i 1000 q hi hs he
  have hE : tEn f n p = q + i := by
    unfold tEn
    rw [← hcc, if_pos hc, ← hq]; exact hr
  refine ⟨hE, ?_, fun z => ?_, fun z => ?_⟩
  · unfold tV
    rw [← hcc, if_pos hc, ← hq, hE, Nat.add_sub_cancel_left]
  · unfold tS
    rw [← hcc, hE, ← hq, Nat.add_sub_cancel_left, if_pos ⟨hc, z⟩]
  · unfold tS
    rw [← hcc, hE, ← hq, Nat.add_sub_cancel_left, if_neg (by omega)]
theorem mt_bad {f : Nat → Int32} {n p m : Nat} {T : HS} (hS : tS f n p = 6) (h9 : fI T m 9 = 0) (h10 : fI T m 10 = nI (tSt f n p)) (h13 : fI T m 13 = 0) : MT f n p m T := by
  unfold MT
  rw [hS]
  exact ⟨h9, h10, fun z => absurd z (by decide), fun z => absurd z (by decide), fun z => absurd z (by decide), fun z => absurd z (by decide), fun z => absurd rfl z, h13⟩
