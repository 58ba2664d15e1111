/-! the class's world(n) -/
def A00 : AS := ((0, 0, 0, 0, 0, 0), 0, fun _ => 0, fun _ => 0)
section World
variable {f : Nat → Int32} {n a r w nm nd : Nat} {S T : HS} {Q : Int32 → HS → Prop}
theorem sp_X8_clear {Q : HS → Prop} {v0 : Nat} (h : P_X8_clear v0 Q S) : P_X8_clear v0 (fun T => Q T ∧ Fr [0, 1, 2, 3, 4, 5] [] v0 S T ∧ Cnt v0 A00 T) S := by
  delta P_X8_clear P_X8_clear_0
  obtain ⟨o1, h⟩ := h
  refine ⟨o1, ?_⟩
  intro S2 e2
  have h := h S2 e2
  intro S3 e3
  have h := h S3 e3
  intro S4 e4
  have h := h S4 e4
  intro S5 e5
  have h := h S5 e5
  intro S6 e6
  have h := h S6 e6
  intro S7 e7
  have h := h S7 e7
  refine ⟨h, fr_wI (fr_wI (fr_wI (fr_wI (fr_wI (fr_wI (fr_rf _ _ _ _) e2 (by decide)) e3 (by decide)) e4 (by decide)) e5 (by decide)) e6 (by decide)) e7 (by decide), ?_, ?_, ?_, ?_, ?_, ?_⟩
  · rw [wI_ne e7 (by decide), wI_ne e6 (by decide), wI_ne e5 (by decide), wI_ne e4 (by decide), wI_ne e3 (by decide), wI_at e2]; rfl
  · rw [wI_ne e7 (by decide), wI_ne e6 (by decide), wI_ne e5 (by decide), wI_ne e4 (by decide), wI_at e3]; rfl
  · rw [wI_ne e7 (by decide), wI_ne e6 (by decide), wI_ne e5 (by decide), wI_at e4]; rfl
  · rw [wI_ne e7 (by decide), wI_ne e6 (by decide), wI_at e5]; rfl
  · rw [wI_ne e7 (by decide), wI_at e6]; rfl
  · rw [wI_at e7]; rfl
/-- what stands before a text is read -/
def Rdy (f : Nat → Int32) (n a r w nm nd : Nat) (S : HS) : Prop := (∀ j, j < n → fI S a j = f j) ∧ hN S a = 900 ∧ n ≤ 900 ∧ fR S r 11 = some nm ∧ fR S r 12 = some nd ∧ fR S r 5 = some w ∧ ob S r 4 ∧ ob S w 8 ∧ ob S nm 14 ∧ ob S nd 13 ∧ ob S a 12
theorem sp_X4_open {Q : HS → Prop} {v2 : Int32} (h : P_X4_open r a v2 Q S) (hv : v2 = nI n) (hr : Rdy f n a r w nm nd S) : P_X4_open r a v2 (fun T => Q T ∧ LnS f n a r w nm nd (sR S r 2 (some a)) A00 0 T) S := by
  obtain ⟨r1, r2, r3, r4, r5, r6, o1, o2, o3, o4, o5⟩ := hr
  have nar : a ≠ r := ob_ne o5 o1 (by decide)
  have nwr : w ≠ r := ob_ne o2 o1 (by decide)
  have nwa : w ≠ a := ob_ne o2 o5 (by decide)
  have nmr : nm ≠ r := ob_ne o3 o1 (by decide)
  have ndr : nd ≠ r := ob_ne o4 o1 (by decide)
  have nmd : nm ≠ nd := ob_ne o3 o4 (by decide)
  delta P_X4_open P_X4_open_0
  obtain ⟨p1, h⟩ := h
  refine ⟨p1, ?_⟩
  intro S2 e2
  have h := h S2 e2
  obtain ⟨p3, h⟩ := h
  refine ⟨p3, ?_⟩
  intro x4 ex4
  have h := h x4 ex4
  intro S5 e5
  have h := h S5 e5
  intro S6 e6
  have h := h S6 e6
  intro S7 e7
  have h := h S7 e7
  intro S8 e8
  have h := h S8 e8
  intro S9 e9
  have h := h S9 e9
  obtain ⟨a10, ea10, h⟩ := h
  refine ⟨a10, ea10, ?_⟩
  obtain ⟨p11, h⟩ := h
  refine ⟨p11, ?_⟩
  have F9 : Fr [0, 1, 3, 4, 10] [] r S2 S9 := fr_wI (fr_wI (fr_wI (fr_wI (fr_wI (fr_rf _ _ _ _) e5 (by decide)) e6 (by decide)) e7 (by decide)) e8 (by decide)) e9 (by decide)
  have R2 : ∀ b j, (b, j) ≠ (r, 2) → fR S2 b j = fR S b j := fun b j hb => by rw [e2]; exact u2_ne _ _ (fun q => hb (by rw [q.1, q.2]))
  have ew : a10 = w := by
    rw [F9.2.2.2.1, R2 r 5 (by intro z; cases z), r6] at ea10
    cases ea10; rfl
  subst ew
  have hx4 : x4 = nI n := by
    have hN2 : hN S2 a = 900 := by rw [e2]; exact r2
    rw [ex4, hN2, hv]
    have e9' : (nI 900).toInt = 900 := nI_i (by omega)
    have en : (nI n).toInt = (n : Int) := nI_i (by omega)
    rw [if_neg (fun z => by have := lt_i z; omega)]
  have I2 : fI S2 = fI S := by rw [e2]; rfl
  refine cm_X8_clear (sp_X8_clear h) h (fun S12 hp h g13 => ?_)
  have h := h g13
  obtain ⟨-, Fc, hc⟩ := hp
  have row : ∀ j, fI S12 r j = fI S9 r j := fun j => congrFun (Fc.2.2.2.2.1 r (Ne.symm nwr)).1 j
  have f4 : fI S12 r 4 = nI 0 := by rw [row, wI_ne e9 (by decide), wI_ne e8 (by decide), wI_ne e7 (by decide), wI_at e6]; rfl
  have f0 : fI S12 r 0 = 0 := by rw [row, wI_ne e9 (by decide), wI_ne e8 (by decide), wI_at e7]
  have f3 : fI S12 r 3 = nI n := by rw [row, wI_ne e9 (by decide), wI_ne e8 (by decide), wI_ne e7 (by decide), wI_ne e6 (by decide), wI_at e5, hx4]
  have f10 : fI S12 r 10 = nI 0 := by rw [row, wI_at e9]; rfl
  have bas : Bas (sR S r 2 (some a)) S12 := by
    rw [← e2]
    exact ⟨Fc.1.trans F9.1, Fc.2.1.trans F9.2.1, Fc.2.2.1.trans F9.2.2.1, Fc.2.2.2.1.trans F9.2.2.2.1⟩
  have hfR : ∀ b j, fR S12 b j = fR S2 b j := fun b j => by rw [Fc.2.2.2.1, F9.2.2.2.1]
  have E12 : EC f n a r S12 := by
    refine ⟨by rw [hfR, e2]; exact u2_self _ _ _ _, ?_, f3, by rw [Fc.2.2.1, F9.2.2.1, e2]; exact r2, r3, nar⟩
    rw [(Fc.2.2.2.2.1 a (Ne.symm nwa)).1, (F9.2.2.2.2.1 a nar).1, I2]; exact r1
  refine cm_X4_next (sp_X4_next h E12 f4 (by omega) f0) h (fun S14 hp h g15 => ?_)
  have h := h g15
  obtain ⟨-, Fn, tc⟩ := hp
  refine ⟨h, ⟨ec_fr E12 Fn (by decide), tc, by omega⟩, ?_, cn_row hc (Fn.2.2.2.2.1 _ nwr).1, ⟨Fn.1.trans bas.1, Fn.2.1.trans bas.2.1, Fn.2.2.1.trans bas.2.2.1, Fn.2.2.2.1.trans bas.2.2.2⟩, ?_⟩
  · refine na_R (S := S12) ⟨by rw [hfR, R2 r 11 (by intro z; cases z)]; exact r4, by rw [hfR, R2 r 12 (by intro z; cases z)]; exact r5, f10, by decide, fun k hk => absurd hk (Nat.not_lt_zero k), nmr, ndr, nmd⟩ (frR_next Fn)
  · exact ⟨by decide, by decide, by decide, by decide, by decide, by decide⟩
theorem sp_X4_read {v2 : Int32} (h : P_X4_read r a v2 Q S) (hv : v2 = nI n) (hr : Rdy f n a r w nm nd S) (hd : DSt w nd S) (hwk : ∀ x b i, fR S w 9 = some b → i < hN S b → fR S b i = some x → ob S x 6) (hw9 : ∀ b, fR S w 9 = some b → b ≠ r) : P_X4_read r a v2 (fun x T => Q x T ∧ RdB f n a r w nm nd (sR S r 2 (some a)) (sAll f n 1000 0 A00) x T) S := by
  have hr0 := hr
  obtain ⟨r1, r2, r3, r4, r5, r6, o1, o2, o3, o4, o5⟩ := hr0
  have nwr : w ≠ r := ob_ne o2 o1 (by decide)
  have hne : ∀ b j, b ≠ r → fR (sR S r 2 (some a)) b j = fR S b j := fun b j hb => u2_ne _ _ (fun q => hb q.1)
  have hB : BFa a r w nm nd (sR S r 2 (some a)) := ⟨(u2_ne _ _ (fun q => absurd q.2 (by decide))).trans r6, o1, o2, o3, o4, o5⟩
  have hd' : DSt w nd (sR S r 2 (some a)) := fun j b hj hb => hd j b hj (by rw [← hne w j nwr]; exact hb)
  have hwk' : ∀ x b i, fR (sR S r 2 (some a)) w 9 = some b → i < hN (sR S r 2 (some a)) b → fR (sR S r 2 (some a)) b i = some x → ob (sR S r 2 (some a)) x 6 := by
    intro x b i hb hi hx
    rw [hne w 9 nwr] at hb
    exact hwk x b i hb hi (by rw [← hne b i (hw9 b hb)]; exact hx)
  delta P_X4_read P_X4_read_0
  obtain ⟨p1, h⟩ := h
  refine ⟨p1, ?_⟩
  refine cm_X4_open (sp_X4_open h hv hr) h (fun S2 hp h g3 => ?_)
  have h := h g3
  exact lpR8 hB hd' hwk' h ⟨0, 0, A00, rfl, nI_0.symm, Nat.le_refl 0, hp.2, rfl, rfl⟩
end World
