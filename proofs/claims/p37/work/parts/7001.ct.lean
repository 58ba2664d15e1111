/-! what a line writes: the rows of one object, all else as it was but for some -/
def TRK (o : Nat) (X : List Nat) (S0 : HS) (g : Nat → Int32) (S : HS) : Prop := (∀ b, b ∉ X → b ≠ o → fI S b = fI S0 b) ∧ fI S o = g
section Trk
variable {o r nm nd b j : Nat} {X : List Nat} {S0 S T : HS} {g : Nat → Int32} {v : Int32}
theorem row_I (e : T = sI S o j v) : fI T o = va_up (fI S o) j v := by
  rw [e]
  funext i
  show u2 (fI S) o j v o i = va_up (fI S o) j v i
  unfold u2 va_up
  by_cases h : i = j
  · rw [if_pos ⟨rfl, h⟩, if_pos h]
  · rw [if_neg (fun z => h z.2), if_neg h]
theorem row_o (e : T = sI S b j v) (h : o ≠ b) : fI T o = fI S o := by
  rw [e]
  exact u2_row _ _ h
theorem tk_0 (F : FrR r S0 S) (hr : r ∈ X) : TRK o X S0 (fI S o) S := ⟨fun b hb _ => (F.2.2.2.2.1 b (fun z => hb (z ▸ hr))).1, rfl⟩
theorem tk_r0 (o : Nat) (X : List Nat) (S : HS) : TRK o X S (fI S o) S := ⟨fun _ _ _ => rfl, rfl⟩
theorem tk_R (t : TRK o X S0 g S) (F : FrR r S T) (hr : r ∈ X) (ho : o ≠ r) : TRK o X S0 g T := ⟨fun b hb hbo => (F.2.2.2.2.1 b (fun z => hb (z ▸ hr))).1.trans (t.1 b hb hbo), (F.2.2.2.2.1 o ho).1.trans t.2⟩
theorem tk_A (t : TRK o X S0 g S) (F : FrA r nm nd S T) (hr : r ∈ X) (hm : nm ∈ X) (hn : nd ∈ X) (ho : o ≠ r) (ho1 : o ≠ nm) (ho2 : o ≠ nd) : TRK o X S0 g T := ⟨fun b hb hbo => (F.2.2.2.2.1 b (fun z => hb (z ▸ hr)) (fun z => hb (z ▸ hm)) (fun z => hb (z ▸ hn))).1.trans (t.1 b hb hbo), (F.2.2.2.2.1 o ho ho1 ho2).1.trans t.2⟩
theorem tk_I (t : TRK o X S0 g S) (e : T = sI S o j v) : TRK o X S0 (va_up g j v) T := ⟨fun b hb hbo => (row_o e hbo).trans (t.1 b hb hbo), (row_I e).trans (by rw [t.2])⟩
theorem tk_w (t : TRK o X S0 g S) (e : T = sI S b j v) (hb : b ∈ X) (ho : o ≠ b) : TRK o X S0 g T := ⟨fun c hc hco => (row_o (o := c) e (fun z => hc (z ▸ hb))).trans (t.1 c hc hco), (row_o e ho).trans t.2⟩
theorem tk_F {W WJ : List Nat} (t : TRK o X S0 g S) (F : Fr W WJ b S T) (hb : b ∈ X) (ho : o ≠ b) : TRK o X S0 g T := ⟨fun c hc hco => (F.2.2.2.2.1 c (fun z => hc (z ▸ hb))).1.trans (t.1 c hc hco), (F.2.2.2.2.1 o ho).1.trans t.2⟩
end Trk
/-! what a line tells, out of its tokens -/
def e2 (f : Nat → Int32) (n p : Nat) : Nat := tEn f n (tEn f n p)
noncomputable def sdV (f : Nat → Int32) (n p : Nat) : Int32 := match sideOf f n p with
  | some k => nI k
  | none => 0
def lkV (A : AS) (v : Int64) : Nat := match lkr (aV A) (aI A) v (aM A) 0 with
  | some k => k
  | none => 0
noncomputable def rnC (f : Nat → Int32) (n p j : Nat) : Int32 := if j = 0 then pVal f n p else if j = 1 then pVal f n (e2 f n p) else if j = 2 then sdV f n (tEn f n (e2 f n (e2 f n p))) else if j = 3 then (tV f n (e2 f n (e2 f n (e2 f n p)))).toInt32 else pVal f n (tEn f n (e2 f n (e2 f n (e2 f n p))))
noncomputable def plK (f : Nat → Int32) (n p : Nat) : Nat := dc (isW f n (tEn f n p) 15) 1 (dc (isW f n (tEn f n p) 16) 2 0)
noncomputable def plV (f : Nat → Int32) (n p : Nat) : Int32 := dc (isW f n (tEn f n p) 15) 0 (dc (isW f n (tEn f n p) 16) (pVal f n (tEn f n p)) 0)
noncomputable def rdC (f : Nat → Int32) (n p : Nat) (A : AS) (j : Nat) : Int32 := if j = 0 then nI (lkV A (tV f n p)) else if j = 1 then nI (lkV A (tV f n (tEn f n (e2 f n p)))) else if j = 2 then sdV f n (tEn f n p) else if j = 3 then (tV f n (e2 f n p)).toInt32 else dc (isW f n (e2 f n (e2 f n p)) 17) (pVal f n (e2 f n (e2 f n p))) 0
noncomputable def kEn (f : Nat → Int32) (n p : Nat) : Nat := dc (isW f n p 18) (e2 f n p) (dc (isW f n p 19) (e2 f n p) (dc (isW f n p 20) (e2 f n p) (tEn f n p)))
noncomputable def bowOf (f : Nat → Int32) (n p : Nat) : Int32 := if kdOf f n p = 1 then amOf f n p else 0
noncomputable def wkC (f : Nat → Int32) (n p j : Nat) : Int32 :=
  if j = 0 then nI (kdOf f n (tEn f n p)) else if j = 1 then amOf f n (tEn f n p)
  else if j = 2 then pVal f n (kEn f n (tEn f n p)) * (pVal f n (e2 f n (kEn f n (tEn f n p))) + bowOf f n (tEn f n p))
  else if j = 3 then pVal f n (kEn f n (tEn f n p)) * (pVal f n (e2 f n (e2 f n (kEn f n (tEn f n p)))) - bowOf f n (tEn f n p))
  else if j = 4 then (pVal f n (e2 f n (kEn f n (tEn f n p))) + bowOf f n (tEn f n p)) * (pVal f n (e2 f n (e2 f n (kEn f n (tEn f n p)))) - bowOf f n (tEn f n p))
  else if j = 5 then pVal f n (e2 f n (e2 f n (e2 f n (kEn f n (tEn f n p))))) else pVal f n (e2 f n (e2 f n (e2 f n (e2 f n (kEn f n (tEn f n p))))))
def snP (f : Nat → Int32) (n : Nat) : Nat → Nat → Nat
  | 0, p => p
  | k + 1, p => e2 f n (snP f n k p)
noncomputable def snC (f : Nat → Int32) (n p : Nat) (A : AS) (j : Nat) : Int32 := if j = 0 then nI (lkV A (tV f n p) - 8) else (tV f n (snP f n (j - 1) (tEn f n p))).toInt32
/-! the rain and road lines: what they write -/
section Ct1
variable {f : Nat → Int32} {n a r w nm nd p : Nat} {A : AS} {B S T : HS} {Q : Int32 → HS → Prop}
def ObD (fl k cnt N r w nm nd : Nat) (c : Nat → Int32) (B S T : HS) : Prop := ∃ ra o, fR B w fl = some ra ∧ fR B ra cnt = some o ∧ ob B o k ∧ (∀ b, b ∉ [r, w, nm, nd] → b ≠ o → fI T b = fI S b) ∧ ∀ j, j < N → fI T o j = c j
theorem sdV_of {k : Nat} {v : Int32} (h : ∃ k, sideOf f n p = some k ∧ v = nI k) : v = sdV f n p := by
  obtain ⟨k, h1, h2⟩ := h
  unfold sdV
  rw [h1]
  exact h2
theorem lkV_of {q : Nat} {v : Int64} (h : lkr (aV A) (aI A) v (aM A) 0 = some q) : lkV A v = q := by
  unfold lkV
  rw [h]
set_option maxHeartbeats 2000000 in
theorem sq_X4_rainLine (hB : BFa a r w nm nd B) (h : P_X4_rainLine r Q S) (ls : LnS f n a r w nm nd B A p S) (hlt : aHs A < 6) : P_X4_rainLine r (fun x T => Q x T ∧ LnB f n a r w nm nd B (sRain f n p) (up1 A) x T ∧ (x = 1 → ObD 6 3 (aHs A) 5 r w nm nd (rnC f n p) B S T)) S := by
  have ls0 := ls
  delta P_X4_rainLine P_X4_rainLine_0
  obtain ⟨o1, h⟩ := h
  refine ⟨o1, ?_⟩
  obtain ⟨a2, ea2, h⟩ := h
  refine ⟨a2, ea2, ?_⟩
  cases (ls_w hB ls).symm.trans ea2
  obtain ⟨o3, h⟩ := h
  refine ⟨o3, ?_⟩
  obtain ⟨a4, ea4, h⟩ := h
  refine ⟨a4, ea4, ?_⟩
  obtain ⟨a5, ea5, h⟩ := h
  refine ⟨a5, ea5, ?_⟩
  cases (ls_w hB ls).symm.trans ea5
  obtain ⟨o6, h⟩ := h
  refine ⟨o6, ?_⟩
  intro x7 ex7
  have h := h x7 ex7
  obtain ⟨o8, h⟩ := h
  refine ⟨o8, ?_⟩
  obtain ⟨o9, h⟩ := h
  refine ⟨o9, ?_⟩
  obtain ⟨a10, ea10, h⟩ := h
  refine ⟨a10, ea10, ?_⟩
  have K := sRain_eq f n p
  refine cm_X4_wordAndWhole (sp_X4_wordAndWhole h ls.1) h (fun x11 S12 hp h g13 b14 => ?_)
  have h := h g13 b14
  obtain ⟨-, F, hc, hv15⟩ := hp
  rcases cb_split hB ls F hc K (le_part ls) with ⟨rfl, lb⟩ | ⟨p16, rfl, hRp16, K, ls⟩
  · exact ⟨fun c => absurd rfl c, fun c => ⟨h.2 c, lb _, fun z => absurd z (by decide)⟩⟩
  refine ⟨fun c => ?_, fun c => absurd c (by decide)⟩
  have h := h.1 c
  replace hv15 := hv15 rfl
  intro x17 ex17
  have h := h x17 ex17
  obtain ⟨o18, h⟩ := h
  refine ⟨o18, ?_⟩
  have ob := bb_ob ls.2.2.2.1 o18
  have nor : a10 ≠ r := ob_ne ob hB.2.1 (by decide)
  have now : a10 ≠ w := ob_ne ob hB.2.2.1 (by decide)
  have tk := tk_0 (o := a10) (X := [r, w, nm, nd]) F (by simp)
  intro T19 eT19
  have h := h T19 eT19
  replace ls := ls_Ik hB ls eT19 ob (by decide)
  replace tk := tk_I tk eT19
  refine cm_X4_wordAndWhole (sp_X4_wordAndWhole h ls.1) h (fun x20 S21 hp h g22 b23 => ?_)
  have h := h g22 b23
  obtain ⟨-, F, hc, hv24⟩ := hp
  replace tk := tk_R tk F (by simp) nor
  rcases cb_split hB ls F hc K (le_part ls) with ⟨rfl, lb⟩ | ⟨p25, rfl, hRp25, K, ls⟩
  · exact ⟨fun c => absurd rfl c, fun c => ⟨h.2 c, lb _, fun z => absurd z (by decide)⟩⟩
  refine ⟨fun c => ?_, fun c => absurd c (by decide)⟩
  have h := h.1 c
  replace hv24 := hv24 rfl
  intro x26 ex26
  have h := h x26 ex26
  intro T27 eT27
  have h := h T27 eT27
  replace ls := ls_Ik hB ls eT27 ob (by decide)
  replace tk := tk_I tk eT27
  refine cm_X4_word (sp_X4_word h ls.1) h (fun x28 S29 hp h g30 b31 => ?_)
  have h := h g30 b31
  obtain ⟨-, F, hc⟩ := hp
  replace tk := tk_R tk F (by simp) nor
  rcases cb_split hB ls F hc K (le_word ls) with ⟨rfl, lb⟩ | ⟨p33, rfl, hRp33, K, ls⟩
  · exact ⟨fun c => ⟨h.1 c, lb _, fun z => absurd z (by decide)⟩, fun c => absurd rfl c⟩
  refine ⟨fun c => absurd c (by decide), fun c => ?_⟩
  have h := h.2 c
  refine cm_X4_side (sp_X4_side h ls.1) h (fun x34 S35 hp h g36 b37 => ?_)
  have h := h g36 b37
  obtain ⟨-, F, hc, hv38⟩ := hp
  replace tk := tk_R tk F (by simp) nor
  rcases cb_split hB ls F hc K (le_side ls) with ⟨rfl, lb⟩ | ⟨p39, rfl, hRp39, K, ls⟩
  · exact ⟨fun c => absurd rfl c, fun c => ⟨h.2 c, lb _, fun z => absurd z (by decide)⟩⟩
  refine ⟨fun c => ?_, fun c => absurd c (by decide)⟩
  have h := h.1 c
  replace hv38 := hv38 rfl
  intro x40 ex40
  have h := h x40 ex40
  intro T41 eT41
  have h := h T41 eT41
  replace ls := ls_Ik hB ls eT41 ob (by decide)
  replace tk := tk_I tk eT41
  refine cm_X4_whole (sp_X4_whole h ls.1) h (fun x42 S43 hp h g44 b45 => ?_)
  have h := h g44 b45
  obtain ⟨-, F, hc, hv46⟩ := hp
  replace tk := tk_R tk F (by simp) nor
  rcases cb_split hB ls F hc K (le_whole ls) with ⟨rfl, lb⟩ | ⟨p47, rfl, hRp47, K, ls⟩
  · exact ⟨fun c => absurd rfl c, fun c => ⟨h.2 c, lb _, fun z => absurd z (by decide)⟩⟩
  refine ⟨fun c => ?_, fun c => absurd c (by decide)⟩
  have h := h.1 c
  replace hv46 := hv46 rfl
  intro x48 ex48
  have h := h x48 ex48
  intro T49 eT49
  have h := h T49 eT49
  replace ls := ls_Ik hB ls eT49 ob (by decide)
  replace tk := tk_I tk eT49
  replace K := K.trans (rb_id _)
  refine cm_X4_wordAndWhole (sp_X4_wordAndWhole h ls.1) h (fun x50 S51 hp h g52 b53 => ?_)
  have h := h g52 b53
  obtain ⟨-, F, hc, hv54⟩ := hp
  replace tk := tk_R tk F (by simp) nor
  rcases cb_split hB ls F hc K (le_part ls) with ⟨rfl, lb⟩ | ⟨p55, rfl, hRp55, K, ls⟩
  · exact ⟨fun c => absurd rfl c, fun c => ⟨h.2 c, lb _, fun z => absurd z (by decide)⟩⟩
  refine ⟨fun c => ?_, fun c => absurd c (by decide)⟩
  have h := h.1 c
  replace hv54 := hv54 rfl
  intro x56 ex56
  have h := h x56 ex56
  intro T57 eT57
  have h := h T57 eT57
  replace ls := ls_Ik hB ls eT57 ob (by decide)
  replace tk := tk_I tk eT57
  obtain ⟨a58, ea58, h⟩ := h
  refine ⟨a58, ea58, ?_⟩
  cases (ls_w hB ls).symm.trans ea58
  obtain ⟨o59, h⟩ := h
  refine ⟨o59, ?_⟩
  intro x60 ex60
  have h := h x60 ex60
  intro x61 ex61
  have h := h x61 ex61
  intro T62 eT62
  have h := h T62 eT62
  refine ⟨h, lb_s K rfl (ls_C hB ls eT62 (cn_1 ls.2.2.1 eT62 (inc_ ex60 ls.2.2.1.2.1 ex61)) (ab_1 ls.2.2.2.2 hlt) ⟨rfl, rfl, rfl⟩), fun _ => ?_⟩
  replace tk := tk_w tk eT62 (by simp) now
  have fB := ls0.2.2.2.1.2.2.2
  have q16 := sPart_inl hRp16
  subst q16
  have q25 := sPart_inl hRp25
  subst q25
  have q33 := sWord_inl hRp33
  subst q33
  have q39 := sSide_inl hRp39
  subst q39
  have q47 := sWhole_inl hRp47
  subst q47
  refine ⟨a4, a10, by rw [← fB]; exact ea4, ?_, ob, tk.1, ?_⟩
  · rw [← fB, ← nI_cl (p := aHs A) (by omega), ← ex7.trans ls0.2.2.1.2.1]
    exact ea10
  · intro j hj
    rw [tk.2]
    match j, hj with
    | 0, _ => simpa [va_up, rnC, e2] using ex17.trans hv15
    | 1, _ => simpa [va_up, rnC, e2] using ex26.trans hv24
    | 2, _ => simpa [va_up, rnC, e2] using ex40.trans (sdV_of (k := 0) hv38)
    | 3, _ => simpa [va_up, rnC, e2] using ex48.trans hv46
    | 4, _ => simpa [va_up, rnC, e2] using ex56.trans hv54
    | j + 5, hj => exact absurd hj (by omega)
theorem bq130 {L : Res} {Z : HS → Prop} (hB : BFa a r w nm nd B) (h : P_X4_roadLine_130 Q r S) (ls : LnS f n a r w nm nd B A p S) (K : L = .inl p) (hlt : aR A < 12) (hz : ∀ T, (∀ b, b ≠ w → fI T b = fI S b) → Z T) : P_X4_roadLine_130 (fun x T => Q x T ∧ LnB f n a r w nm nd B L (up3 A) x T ∧ (x = 1 → Z T)) r S := by
  delta P_X4_roadLine_130
  obtain ⟨o20, h⟩ := h
  refine ⟨o20, ?_⟩
  obtain ⟨a21, ea21, h⟩ := h
  refine ⟨a21, ea21, ?_⟩
  cases (ls_w hB ls).symm.trans ea21
  obtain ⟨o22, h⟩ := h
  refine ⟨o22, ?_⟩
  intro x32 ex32
  have h := h x32 ex32
  intro x33 ex33
  have h := h x33 ex33
  intro S34 eS34
  have h := h S34 eS34
  exact ⟨h, lb_s K rfl (ls_C hB ls eS34 (cn_3 ls.2.2.1 eS34 (inc_ ex32 ls.2.2.1.2.2.2.1 ex33)) (ab_3 ls.2.2.2.2 hlt) ⟨rfl, rfl, rfl⟩), fun _ => hz _ (fun b hb => row_o eS34 hb)⟩
set_option maxHeartbeats 4000000 in
theorem sq_X4_roadLine (hB : BFa a r w nm nd B) (h : P_X4_roadLine r Q S) (ls : LnS f n a r w nm nd B A p S) (hlt : aR A < 12) : P_X4_roadLine r (fun x T => Q x T ∧ LnB f n a r w nm nd B (sRoad f n p A) (up3 A) x T ∧ (x = 1 → ObD 8 5 (aR A) 5 r w nm nd (rdC f n p A) B S T)) S := by
  have ls0 := ls
  have fB := ls0.2.2.2.1.2.2.2
  delta P_X4_roadLine P_X4_roadLine_0
  obtain ⟨o1, h⟩ := h
  refine ⟨o1, ?_⟩
  obtain ⟨a2, ea2, h⟩ := h
  refine ⟨a2, ea2, ?_⟩
  cases (ls_w hB ls).symm.trans ea2
  obtain ⟨o3, h⟩ := h
  refine ⟨o3, ?_⟩
  obtain ⟨a4, ea4, h⟩ := h
  refine ⟨a4, ea4, ?_⟩
  obtain ⟨a5, ea5, h⟩ := h
  refine ⟨a5, ea5, ?_⟩
  cases (ls_w hB ls).symm.trans ea5
  obtain ⟨o6, h⟩ := h
  refine ⟨o6, ?_⟩
  intro x7 ex7
  have h := h x7 ex7
  obtain ⟨o8, h⟩ := h
  refine ⟨o8, ?_⟩
  obtain ⟨o9, h⟩ := h
  refine ⟨o9, ?_⟩
  obtain ⟨bo, ebo, h⟩ := h
  refine ⟨bo, ebo, ?_⟩
  have K : sRoad f n p A = rb _ _ := rfl
  refine cm_X4_placeBut (sp_X4_placeBut h ls (o := none) rfl (fun q z => by cases z)) h (fun x10 S11 hp h g12 b13 => ?_)
  have h := h g12 b13
  obtain ⟨-, F, hc, hv14⟩ := hp
  rcases cb_split hB ls F hc K (le_pb ls) with ⟨rfl, lb⟩ | ⟨p15, rfl, hRp15, K, ls⟩
  · exact ⟨fun c => absurd rfl c, fun c => ⟨h.2 c, lb _, fun z => absurd z (by decide)⟩⟩
  refine ⟨fun c => ?_, fun c => absurd c (by decide)⟩
  have h := h.1 c
  replace hv14 := hv14 rfl
  intro x16 ex16
  have h := h x16 ex16
  obtain ⟨o17, h⟩ := h
  refine ⟨o17, ?_⟩
  have ob_ := bb_ob ls.2.2.2.1 o17
  have nor : bo ≠ r := ob_ne ob_ hB.2.1 (by decide)
  have now : bo ≠ w := ob_ne ob_ hB.2.2.1 (by decide)
  have tk := tk_0 (o := bo) (X := [r, w, nm, nd]) F (by simp)
  have hbr : bo ≠ r := ob_ne ob_ hB.2.1 (by decide)
  obtain ⟨q, hq, hq8, hv9⟩ := hv14
  intro T18 eT18
  have h := h T18 eT18
  replace ls := ls_Ik hB ls eT18 ob_ (by decide)
  replace tk := tk_I tk eT18
  have k0 : fI T18 bo 0 = nI q := by rw [wI_at eT18, ex16, hv9]
  refine cm_X4_side (sp_X4_side h ls.1) h (fun x19 S20 hp h g21 b22 => ?_)
  have h := h g21 b22
  obtain ⟨-, F, hc, hv23⟩ := hp
  replace tk := tk_R tk F (by simp) nor
  rcases cb_split hB ls F hc K (le_side ls) with ⟨rfl, lb⟩ | ⟨p24, rfl, hRp24, K, ls⟩
  · exact ⟨fun c => absurd rfl c, fun c => ⟨h.2 c, lb _, fun z => absurd z (by decide)⟩⟩
  refine ⟨fun c => ?_, fun c => absurd c (by decide)⟩
  have h := h.1 c
  replace hv23 := hv23 rfl
  replace k0 := (congrFun (F.2.2.2.2.1 bo hbr).1 0).trans k0
  intro x25 ex25
  have h := h x25 ex25
  intro T26 eT26
  have h := h T26 eT26
  replace ls := ls_Ik hB ls eT26 ob_ (by decide)
  replace tk := tk_I tk eT26
  replace k0 := (wI_ne eT26 (by decide)).trans k0
  refine cm_X4_whole (sp_X4_whole h ls.1) h (fun x27 S28 hp h g29 b30 => ?_)
  have h := h g29 b30
  obtain ⟨-, F, hc, hv31⟩ := hp
  replace tk := tk_R tk F (by simp) nor
  rcases cb_split hB ls F hc K (le_whole ls) with ⟨rfl, lb⟩ | ⟨p32, rfl, hRp32, K, ls⟩
  · exact ⟨fun c => absurd rfl c, fun c => ⟨h.2 c, lb _, fun z => absurd z (by decide)⟩⟩
  refine ⟨fun c => ?_, fun c => absurd c (by decide)⟩
  have h := h.1 c
  replace hv31 := hv31 rfl
  replace k0 := (congrFun (F.2.2.2.2.1 bo hbr).1 0).trans k0
  intro x33 ex33
  have h := h x33 ex33
  intro T34 eT34
  have h := h T34 eT34
  replace ls := ls_Ik hB ls eT34 ob_ (by decide)
  replace tk := tk_I tk eT34
  replace k0 := (wI_ne eT34 (by decide)).trans k0
  have k3 : fI T34 bo 3 = (tV f n p24).toInt32 := by rw [wI_at eT34, ex33, hv31]
  intro x35 ex35
  have h := h x35 ex35
  have e33 : x35 = enc (lkr (aV A) (aI A) (tV f n p) (aM A) 0) := by rw [ex35, k0, hq]; rfl
  refine cm_X4_placeBut (sp_X4_placeBut h ls e33 (na_lt ls.2.1)) h (fun x36 S37 hp h g38 b39 => ?_)
  have h := h g38 b39
  obtain ⟨-, F, hc, hv40⟩ := hp
  replace tk := tk_R tk F (by simp) nor
  rcases cb_split hB ls F hc K (le_pb ls) with ⟨rfl, lb⟩ | ⟨p41, rfl, hRp41, K, ls⟩
  · exact ⟨fun c => absurd rfl c, fun c => ⟨h.2 c, lb _, fun z => absurd z (by decide)⟩⟩
  refine ⟨fun c => ?_, fun c => absurd c (by decide)⟩
  have h := h.1 c
  replace hv40 := hv40 rfl
  replace k0 := (congrFun (F.2.2.2.2.1 bo hbr).1 0).trans k0
  replace k3 := (congrFun (F.2.2.2.2.1 bo hbr).1 3).trans k3
  intro x42 ex42
  have h := h x42 ex42
  intro T43 eT43
  have h := h T43 eT43
  replace ls := ls_Ik hB ls eT43 ob_ (by decide)
  replace tk := tk_I tk eT43
  replace k0 := (wI_ne eT43 (by decide)).trans k0
  replace k3 := (wI_ne eT43 (by decide)).trans k3
  intro T44 eT44
  have h := h T44 eT44
  replace ls := ls_Ik hB ls eT44 ob_ (by decide)
  replace tk := tk_I tk eT44
  replace k0 := (wI_ne eT44 (by decide)).trans k0
  replace k3 := (wI_ne eT44 (by decide)).trans k3
  have q15 := (sPB_inl hRp15).1
  subst q15
  have q24 := sSide_inl hRp24
  subst q24
  have q32 := sWhole_inl hRp32
  subst q32
  have q41 := (sPB_inl hRp41).1
  subst q41
  obtain ⟨q4, hq4, -, hv49⟩ := hv40
  have fin : ∀ (g : Nat → Int32) (U : HS) (V : HS), TRK bo [r, w, nm, nd] S g U → (∀ b, b ≠ w → fI V b = fI U b) → (∀ j, j < 5 → g j = rdC f n p A j) → ObD 8 5 (aR A) 5 r w nm nd (rdC f n p A) B S V := by
    intro g U V tk hw hg
    refine ⟨a4, bo, by rw [← fB]; exact ea4, ?_, ob_, fun b hb hbo => (hw b (fun z => hb (by rw [z]; simp))).trans (tk.1 b hb hbo), fun j hj => ?_⟩
    · rw [← fB, ← nI_cl (p := aR A) (by omega), ← ex7.trans ls0.2.2.1.2.2.2.1]
      exact ebo
    · rw [hw bo now, tk.2]
      exact hg j hj
  refine cm_X4_is (sp_X4_is h ls.1.2.1) h (fun xa Sa hp h ga ba => ?_)
  have h := h ga ba
  obtain ⟨-, hS, hx⟩ := hp
  subst hS
  refine ⟨?_, ?_⟩
  · intro c46
    refine bq130 hB (h.1 c46) ls (K.trans (dc_n (an0 hx c46))) hlt (fun V hV => fin _ _ V tk hV (fun j hj => ?_))
    have n17 := an0 hx c46
    match j, hj with
    | 0, _ => simpa [va_up, rdC, e2, lkV_of hq] using ex16.trans hv9
    | 1, _ => simpa [va_up, rdC, e2, lkV_of hq4] using ex42.trans hv49
    | 2, _ => simpa [va_up, rdC, e2] using ex25.trans (sdV_of (k := 0) hv23)
    | 3, _ => simpa [va_up, rdC, e2] using ex33.trans hv31
    | 4, _ => exact (dc_n n17).symm
    | j + 5, hj => exact absurd hj (by omega)
  · intro c53
    have h := h.2 c53
    have K := (K.trans (dc_y (an1 hx c53))).trans (rb_id _)
    intro x54 ex54
    have h := h x54 ex54
    rw [k3] at ex54
    subst ex54
    refine cm_X4_wordAndWhole (sp_X4_wordAndWhole h ls.1) h (fun x36 S37 hp h g38 b39 => ?_)
    have h := h g38 b39
    obtain ⟨-, F, hc, hvL⟩ := hp
    replace tk := tk_R tk F (by simp) nor
    rcases cb_split hB ls F hc K (le_part ls) with ⟨rfl, lb⟩ | ⟨p5, rfl, hRp5, K, ls⟩
    · exact ⟨fun c => absurd rfl c, fun c => ⟨h.2 c, lb _, fun z => absurd z (by decide)⟩⟩
    refine ⟨fun c => ?_, fun c => absurd c (by decide)⟩
    have h := h.1 c
    intro x60 ex60
    have h := h x60 ex60
    intro S61 eS61
    have h := h S61 eS61
    replace tk := tk_I tk eS61
    refine bq130 hB h (ls_Ik hB ls eS61 ob_ (by decide)) K hlt (fun V hV => fin _ _ V tk hV (fun j hj => ?_))
    have n17 := an1 hx c53
    match j, hj with
    | 0, _ => simpa [va_up, rdC, e2, lkV_of hq] using ex16.trans hv9
    | 1, _ => simpa [va_up, rdC, e2, lkV_of hq4] using ex42.trans hv49
    | 2, _ => simpa [va_up, rdC, e2] using ex25.trans (sdV_of (k := 0) hv23)
    | 3, _ => simpa [va_up, rdC, e2] using ex33.trans hv31
    | 4, _ => exact (ex60.trans (hvL rfl)).trans (dc_y n17).symm
    | j + 5, hj => exact absurd hj (by omega)
end Ct1
/-! the walker line: what it writes -/
section Ct2
variable {f : Nat → Int32} {n a r w nm nd p : Nat} {A : AS} {B S T : HS} {Q : Int32 → HS → Prop}
theorem tk_self {o : Nat} {X : List Nat} {S0 : HS} {g : Nat → Int32} (t : TRK o X S0 g S) : TRK o X S0 (fI S o) S := ⟨t.1, rfl⟩
theorem tk_tr {o : Nat} {X : List Nat} {S0 : HS} {g g2 : Nat → Int32} (t : TRK o X S0 g S) (u : TRK o X S g2 T) : TRK o X S0 g2 T := ⟨fun b hb hbo => (u.1 b hb hbo).trans (t.1 b hb hbo), u.2⟩
theorem sKind_inl {p' : Nat} (h : sKind f n p = .inl p') : p' = kEn f n p := by
  unfold sKind at h
  unfold kEn
  by_cases h1 : isW f n p 18
  · rw [dc_y h1] at h ⊢
    exact sPart_inl h
  rw [dc_n h1] at h ⊢
  by_cases h2 : isW f n p 19
  · rw [dc_y h2] at h ⊢
    exact sPart_inl h
  rw [dc_n h2] at h ⊢
  by_cases h3 : isW f n p 20
  · rw [dc_y h3] at h ⊢
    exact sPart_inl h
  rw [dc_n h3] at h ⊢
  exact sWord_inl h
theorem sBody_inl {lh : Int32} {p' : Nat} (h : sBody f n p lh = .inl p') : p' = e2 f n (e2 f n (e2 f n p)) := by
  unfold sBody at h
  cases h1 : sPart f n p 22 1 9 with
  | inr e => rw [h1] at h; cases h
  | inl p1 =>
    rw [h1] at h
    have h : rb (sPart f n p1 23 1 9) (fun p => sPart f n p 24 lh.toInt64 9) = .inl p' := h
    cases h2 : sPart f n p1 23 1 9 with
    | inr e => rw [h2] at h; cases h
    | inl p2 =>
      rw [h2] at h
      have h : sPart f n p2 24 lh.toInt64 9 = .inl p' := h
      rw [sPart_inl h, sPart_inl h2, sPart_inl h1]
      rfl
def shR (g : Nat → Int32) (v1 v2 v3 bw : Int32) : Nat → Int32 := va_up (va_up (va_up g 2 (v1 * (v2 + bw))) 3 (v1 * (v3 - bw))) 4 ((v2 + bw) * (v3 - bw))
theorem sq_X6_shape {Q : HS → Prop} {v0 : Nat} {v1 v2 v3 bw : Int32} (h : P_X6_shape v0 v1 v2 v3 Q S) (hb : bw = if fI S v0 0 = 1 then fI S v0 1 else 0) : P_X6_shape v0 v1 v2 v3 (fun T => Q T ∧ Fr [2, 3, 4] [] v0 S T ∧ TRK v0 [] S (shR (fI S v0) v1 v2 v3 bw) T) S := by
  delta P_X6_shape P_X6_shape_0
  obtain ⟨o1, h⟩ := h
  refine ⟨o1, ?_⟩
  intro x2 ex2
  have h := h x2 ex2
  have fin : ∀ z : Int32, z = bw → P_X6_shape_16 Q v0 v1 v2 v3 z S → P_X6_shape_16 (fun T => Q T ∧ Fr [2, 3, 4] [] v0 S T ∧ TRK v0 [] S (shR (fI S v0) v1 v2 v3 bw) T) v0 v1 v2 v3 z S := by
    intro z hz h
    subst hz
    delta P_X6_shape_16
    obtain ⟨o4, h⟩ := h
    refine ⟨o4, ?_⟩
    intro x5 ex5
    have h := h x5 ex5
    intro S6 eS6
    have h := h S6 eS6
    intro x7 ex7
    have h := h x7 ex7
    intro S8 eS8
    have h := h S8 eS8
    intro x9 ex9
    have h := h x9 ex9
    intro S10 eS10
    have h := h S10 eS10
    have u := tk_I (tk_I (tk_I (tk_r0 v0 [] S) eS6) eS8) eS10
    rw [ex5, ex7, ex9] at u
    exact ⟨h, fr_wI (fr_wI (fr_wI (fr_rf _ _ _ _) eS6 (by decide)) eS8 (by decide)) eS10 (by decide), u⟩
  refine ⟨fun c3 => fin _ (by rw [hb, if_neg (by rw [← ex2]; exact c3)]) (h.1 c3), fun c11 => ?_⟩
  have h := h.2 c11
  intro x12 ex12
  have h := h x12 ex12
  exact fin _ (by rw [hb, if_pos (by rw [← ex2]; exact c11), ex12]) h
set_option maxHeartbeats 2000000 in
theorem sq_X4_kindOf {b : Nat} (hB : BFa a r w nm nd B) (ob_ : ob B b 6) (h : P_X4_kindOf r b Q S) (ls : LnS f n a r w nm nd B A p S) : P_X4_kindOf r b (fun x T => Q x T ∧ LnB f n a r w nm nd B (sKind f n p) A x T ∧ (x = 1 → fI T b 0 = nI (kdOf f n p) ∧ fI T b 1 = amOf f n p) ∧ TRK b [r, w, nm, nd] S (fI T b) T) S := by
  have tk := tk_r0 b [r, w, nm, nd] S
  have hbr := ob_ne ob_ hB.2.1 (by decide)
  delta P_X4_kindOf P_X4_kindOf_0
  obtain ⟨o1, h⟩ := h
  refine ⟨o1, ?_⟩
  intro S2 eS2
  have h := h S2 eS2
  have v9 : fI S2 r 9 = 0 := wI_at eS2
  have ls := ls_val hB ls eS2
  replace tk := tk_w tk eS2 (by simp) hbr
  refine cm_X4_is (sp_X4_is h ls.1.2.1) h (fun x3 S4 hp h g5 b6 => ?_)
  have h := h g5 b6
  obtain ⟨-, hS, hx0⟩ := hp
  subst hS
  refine Iff.mp and_comm ⟨?_, ?_⟩
  · intro c
    have h := h.2 c
    have y := an1 hx0 c
    obtain ⟨o48, h⟩ := h
    refine ⟨o48, ?_⟩
    intro S49 eS49
    have h := h S49 eS49
    have ls := ls_Ik hB ls eS49 ob_ (by decide)
    replace tk := tk_I tk eS49
    refine cm_X4_wordAndWhole (sp_X4_wordAndWhole h ls.1) h (fun x50 S51 hp h g52 b53 => ?_)
    have h := h g52 b53
    obtain ⟨-, F, hc, hv⟩ := hp
    replace tk := tk_R tk F (by simp) hbr
    intro x54 ex54
    have h := h x54 ex54
    intro S55 eS55
    have h := h S55 eS55
    refine ⟨h.1, h.2, ?_⟩
    have e1 : kdOf f n p = 1 := by unfold kdOf; rw [dc_y y]
    have e2 : amOf f n p = pVal f n p := by unfold amOf; rw [dc_y y]
    have e3 : sKind f n p = sPart f n p 18 1 8 := by unfold sKind; rw [dc_y y]
    rw [e1, e2]
    have ke := kd_end hB ob_ ls F hc (le_part ls) (wI_at eS49) hv ex54 eS55 e3
    exact ⟨ke.1, ke.2, tk_self (tk_I tk eS55)⟩
  · intro c
    have h := h.1 c
    have n0 := an0 hx0 c
    refine cm_X4_is (sp_X4_is h ls.1.2.1) h (fun x3 S4 hp h g5 b6 => ?_)
    have h := h g5 b6
    obtain ⟨-, hS, hx1⟩ := hp
    subst hS
    refine Iff.mp and_comm ⟨?_, ?_⟩
    · intro c
      have h := h.2 c
      have y := an1 hx1 c
      obtain ⟨o48, h⟩ := h
      refine ⟨o48, ?_⟩
      intro S49 eS49
      have h := h S49 eS49
      have ls := ls_Ik hB ls eS49 ob_ (by decide)
      replace tk := tk_I tk eS49
      refine cm_X4_wordAndWhole (sp_X4_wordAndWhole h ls.1) h (fun x50 S51 hp h g52 b53 => ?_)
      have h := h g52 b53
      obtain ⟨-, F, hc, hv⟩ := hp
      replace tk := tk_R tk F (by simp) hbr
      intro x54 ex54
      have h := h x54 ex54
      intro S55 eS55
      have h := h S55 eS55
      refine ⟨h.1, h.2, ?_⟩
      have e1 : kdOf f n p = 2 := by unfold kdOf; rw [dc_n n0, dc_y y]
      have e2 : amOf f n p = pVal f n p := by unfold amOf; rw [dc_n n0, dc_y y]
      have e3 : sKind f n p = sPart f n p 19 0 999 := by unfold sKind; rw [dc_n n0, dc_y y]
      rw [e1, e2]
      have ke := kd_end hB ob_ ls F hc (le_part ls) (wI_at eS49) hv ex54 eS55 e3
      exact ⟨ke.1, ke.2, tk_self (tk_I tk eS55)⟩
    · intro c
      have h := h.1 c
      have n1 := an0 hx1 c
      refine cm_X4_is (sp_X4_is h ls.1.2.1) h (fun x3 S4 hp h g5 b6 => ?_)
      have h := h g5 b6
      obtain ⟨-, hS, hx2⟩ := hp
      subst hS
      refine Iff.mp and_comm ⟨?_, ?_⟩
      · intro c
        have h := h.2 c
        have y := an1 hx2 c
        obtain ⟨o48, h⟩ := h
        refine ⟨o48, ?_⟩
        intro S49 eS49
        have h := h S49 eS49
        have ls := ls_Ik hB ls eS49 ob_ (by decide)
        replace tk := tk_I tk eS49
        refine cm_X4_wordAndWhole (sp_X4_wordAndWhole h ls.1) h (fun x50 S51 hp h g52 b53 => ?_)
        have h := h g52 b53
        obtain ⟨-, F, hc, hv⟩ := hp
        replace tk := tk_R tk F (by simp) hbr
        intro x54 ex54
        have h := h x54 ex54
        intro S55 eS55
        have h := h S55 eS55
        refine ⟨h.1, h.2, ?_⟩
        have e1 : kdOf f n p = 3 := by unfold kdOf; rw [dc_n n0, dc_n n1, dc_y y]
        have e2 : amOf f n p = pVal f n p := by unfold amOf; rw [dc_n n0, dc_n n1, dc_y y]
        have e3 : sKind f n p = sPart f n p 20 1 99 := by unfold sKind; rw [dc_n n0, dc_n n1, dc_y y]
        rw [e1, e2]
        have ke := kd_end hB ob_ ls F hc (le_part ls) (wI_at eS49) hv ex54 eS55 e3
        exact ⟨ke.1, ke.2, tk_self (tk_I tk eS55)⟩
      · intro c
        have h := h.1 c
        have n2 := an0 hx2 c
        obtain ⟨o18, h⟩ := h
        refine ⟨o18, ?_⟩
        intro S19 eS19
        have h := h S19 eS19
        have v9 : fI S19 r 9 = 0 := by rw [eS19]; exact (u2_ne _ _ (fun q => hbr q.1.symm)).trans v9
        have ls := ls_Ik hB ls eS19 ob_ (by decide)
        replace tk := tk_I tk eS19
        refine cm_X4_word (sp_X4_word h ls.1) (sp9_X4_word h ls.1) (fun x20 S21 hp h9 g22 b23 => ?_)
        have h := h9.1 g22 b23
        obtain ⟨-, F, hc⟩ := hp
        replace tk := tk_R tk F (by simp) hbr
        intro x24 ex24
        have h := h x24 ex24
        intro S25 eS25
        have h := h S25 eS25
        refine ⟨h.1, h.2, ?_⟩
        have e1 : kdOf f n p = 0 := by unfold kdOf; rw [dc_n n0, dc_n n1, dc_n n2]
        have e2 : amOf f n p = 0 := by unfold amOf; rw [dc_n n0, dc_n n1, dc_n n2]
        have e3 : sKind f n p = sWord f n p 21 := by unfold sKind; rw [dc_n n0, dc_n n1, dc_n n2]
        rw [e1, e2]
        have ke := kd_end hB ob_ ls F hc (le_word ls) (wI_at eS19) (fun _ => h9.2.trans v9) ex24 eS25 e3
        exact ⟨ke.1, ke.2, tk_self (tk_I tk eS25)⟩
set_option maxHeartbeats 2000000 in
theorem sq_X4_bodyOf {b : Nat} {kd : Nat} {am lh : Int32} (hB : BFa a r w nm nd B) (ob_ : ob B b 6) (h : P_X4_bodyOf r b Q S) (ls : LnS f n a r w nm nd B A p S) (k0 : fI S b 0 = nI kd) (k1 : fI S b 1 = am) (hkd : kd ≤ 3) (hlh : lh = if kd = 1 then am + 1 else 1) : P_X4_bodyOf r b (fun x T => Q x T ∧ LnB f n a r w nm nd B (sBody f n p lh) A x T ∧ (x = 1 → TRK b [r, w, nm, nd] S (shR (fI S b) (pVal f n p) (pVal f n (e2 f n p)) (pVal f n (e2 f n (e2 f n p))) (if kd = 1 then am else 0)) T)) S := by
  have hbr := ob_ne ob_ hB.2.1 (by decide)
  have tk := tk_r0 b [r, w, nm, nd] S
  have b0 := k0
  have b1 := k1
  have K : sBody f n p lh = rb _ _ := rfl
  delta P_X4_bodyOf P_X4_bodyOf_0
  obtain ⟨o1, h⟩ := h
  refine ⟨o1, ?_⟩
  refine cm_X4_wordAndWhole (sp_X4_wordAndWhole h ls.1) h (fun x2 S3 hp h g4 b5 => ?_)
  have h := h g4 b5
  obtain ⟨-, F, hc, hv6⟩ := hp
  replace tk := tk_R tk F (by simp) hbr
  rcases cb_split hB ls F hc K (le_part ls) with ⟨rfl, lb⟩ | ⟨p7, rfl, hRp7, K, ls⟩
  · exact ⟨fun c => absurd rfl c, fun c => ⟨h.2 c, lb _, fun z => absurd z (by decide)⟩⟩
  refine ⟨fun c => ?_, fun c => absurd c (by decide)⟩
  have h := h.1 c
  replace hv6 := hv6 rfl
  replace k0 := (congrFun (F.2.2.2.2.1 b hbr).1 0).trans k0
  replace k1 := (congrFun (F.2.2.2.2.1 b hbr).1 1).trans k1
  intro x8 ex8
  have h := h x8 ex8
  refine cm_X4_wordAndWhole (sp_X4_wordAndWhole h ls.1) h (fun x9 S10 hp h g11 b12 => ?_)
  have h := h g11 b12
  obtain ⟨-, F, hc, hv13⟩ := hp
  replace tk := tk_R tk F (by simp) hbr
  rcases cb_split hB ls F hc K (le_part ls) with ⟨rfl, lb⟩ | ⟨p14, rfl, hRp14, K, ls⟩
  · exact ⟨fun c => absurd rfl c, fun c => ⟨h.2 c, lb _, fun z => absurd z (by decide)⟩⟩
  refine ⟨fun c => ?_, fun c => absurd c (by decide)⟩
  have h := h.1 c
  replace hv13 := hv13 rfl
  replace k0 := (congrFun (F.2.2.2.2.1 b hbr).1 0).trans k0
  replace k1 := (congrFun (F.2.2.2.2.1 b hbr).1 1).trans k1
  intro x15 ex15
  have h := h x15 ex15
  obtain ⟨o16, h⟩ := h
  refine ⟨o16, ?_⟩
  intro x17 ex17
  have h := h x17 ex17
  have fin : ∀ (v2 v3 s0 : Int32), s0 = lh → v2 = pVal f n p → v3 = pVal f n p7 → ∀ (Sx : HS), TRK b [r, w, nm, nd] S (fI S b) Sx → LnS f n a r w nm nd B A p14 Sx → P_X4_bodyOf_58 Q r b v2 v3 s0 Sx → P_X4_bodyOf_58 (fun x T => Q x T ∧ LnB f n a r w nm nd B (sBody f n p lh) A x T ∧ (x = 1 → TRK b [r, w, nm, nd] S (shR (fI S b) (pVal f n p) (pVal f n (e2 f n p)) (pVal f n (e2 f n (e2 f n p))) (if kd = 1 then am else 0)) T)) r b v2 v3 s0 Sx := by
    intro v2 v3 s0 hs0 h2v h3v Sx tk ls h
    subst hs0
    have K := K.trans (rb_id _)
    delta P_X4_bodyOf_58
    obtain ⟨o17, h⟩ := h
    refine ⟨o17, ?_⟩
    refine cm_X4_wordAndWhole (sp_X4_wordAndWhole h ls.1) h (fun x18 S19 hp h g20 b21 => ?_)
    have h := h g20 b21
    obtain ⟨-, F, hc, hvL⟩ := hp
    replace tk := tk_R tk F (by simp) hbr
    rcases cb_split hB ls F hc K (le_part ls) with ⟨rfl, lb⟩ | ⟨p9, rfl, hRp9, K, ls⟩
    · exact ⟨fun c => absurd rfl c, fun c => ⟨h.2 c, lb _, fun z => absurd z (by decide)⟩⟩
    refine ⟨fun c => ?_, fun c => absurd c (by decide)⟩
    have h := h.1 c
    intro x23 ex23
    have h := h x23 ex23
    obtain ⟨o24, h⟩ := h
    refine ⟨o24, ?_⟩
    refine cm_X6_shape (sq_X6_shape (bw := if kd = 1 then am else 0) h ?_) h (fun S25 hp h g26 => ?_)
    · rw [tk.2, b0, b1]
      by_cases hk1 : kd = 1
      · rw [if_pos hk1, if_pos (by rw [hk1]; rfl)]
      · rw [if_neg hk1, if_neg (fun z => hk1 (nI_inj (by omega) (by omega) (z.trans rfl)))]
    have h := h g26
    refine ⟨h, lb_s K rfl (ls_Fr hB ls hp.2.1 ob_ (by decide)), fun _ => ?_⟩
    have q7 := sPart_inl hRp7
    subst q7
    have q14 := sPart_inl hRp14
    subst q14
    have u := hp.2.2
    rw [tk.2] at u
    subst h2v h3v
    have e9 : x23 = pVal f n (e2 f n (e2 f n p)) := ex23.trans (hvL rfl)
    rw [e9] at u
    exact ⟨fun c hc hcb => (u.1 c (by simp) hcb).trans (tk.1 c hc hcb), u.2⟩
  refine ⟨fun c16 => ?_, fun c28 => ?_⟩
  · exact fin _ _ _ (by rw [hlh, if_neg (fun z => c16 (by rw [ex17, k0, z]; rfl))]) (ex8.trans hv6) (ex15.trans hv13) _ tk ls (h.1 c16)
  · have h := h.2 c28
    intro x29 ex29
    have h := h x29 ex29
    refine fin _ _ _ ?_ (ex8.trans hv6) (ex15.trans hv13) _ tk ls h
    rw [hlh, if_pos (nI_inj (by omega) (by omega) (by rw [← k0, ← ex17, c28]; rfl)), ex29, k1]
set_option maxHeartbeats 4000000 in
theorem sq_X4_walkerLine (hB : BFa a r w nm nd B) (h : P_X4_walkerLine r Q S) (ls : LnS f n a r w nm nd B A p S) (hwk : ∀ x b i, fR B w 9 = some b → i < hN B b → fR B b i = some x → ob B x 6) (hlt : aW A < 4) (hm : aM A < 12) : P_X4_walkerLine r (fun x T => Q x T ∧ LnB f n a r w nm nd B (sWalker f n p A) (up4 (upN A (tV f n p) (8 + aW A))) x T ∧ (x = 1 → ObD 9 6 (aW A) 7 r w nm nd (wkC f n p) B S T)) S := by
  have ls0 := ls
  delta P_X4_walkerLine P_X4_walkerLine_0
  obtain ⟨o1, h⟩ := h
  refine ⟨o1, ?_⟩
  obtain ⟨a2, ea2, h⟩ := h
  refine ⟨a2, ea2, ?_⟩
  cases (ls_w hB ls).symm.trans ea2
  obtain ⟨o3, h⟩ := h
  refine ⟨o3, ?_⟩
  obtain ⟨a4, ea4, h⟩ := h
  refine ⟨a4, ea4, ?_⟩
  obtain ⟨a5, ea5, h⟩ := h
  refine ⟨a5, ea5, ?_⟩
  cases (ls_w hB ls).symm.trans ea5
  obtain ⟨o6, h⟩ := h
  refine ⟨o6, ?_⟩
  intro x7 ex7
  have h := h x7 ex7
  obtain ⟨o8, h⟩ := h
  refine ⟨o8, ?_⟩
  obtain ⟨o9, h⟩ := h
  refine ⟨o9, ?_⟩
  obtain ⟨bo, ebo, h⟩ := h
  refine ⟨bo, ebo, ?_⟩
  obtain ⟨a10, ea10, h⟩ := h
  refine ⟨a10, ea10, ?_⟩
  cases (ls_w hB ls).symm.trans ea10
  obtain ⟨o11, h⟩ := h
  refine ⟨o11, ?_⟩
  intro x12 ex12
  have h := h x12 ex12
  have fB := ls.2.2.2.1.2.2.2
  have ob_ : ob B bo 6 := hwk bo a4 _ (by rw [← fB]; exact ea4) (by rw [← ls.2.2.2.1.2.2.1]; exact Nat.not_le.mp (fun z => o9 (Or.inr z))) (by rw [← fB]; exact ebo)
  have hbr := ob_ne ob_ hB.2.1 (by decide)
  have hbm := ob_ne ob_ hB.2.2.2.1 (by decide)
  have hbd := ob_ne ob_ hB.2.2.2.2.1 (by decide)
  have now := ob_ne ob_ hB.2.2.1 (by decide)
  have tk := tk_r0 bo [r, w, nm, nd] S
  have K : sWalker f n p A = rb _ _ := rfl
  refine cm_X4_newName (sp_X4_newName h ls.1 ls.2.1 hm (idn := 8 + aW A) (by rw [ex12, ls.2.2.1.2.2.2.2.1]; exact nI_add 8 (aW A)) (by omega) (ob_ne hB.2.2.2.2.2 hB.2.2.2.1 (by decide)) (ob_ne hB.2.2.2.2.2 hB.2.2.2.2.1 (by decide))) h (fun x5 S6 hp h g7 b8 => ?_)
  have h := h g7 b8
  replace tk := tk_A tk hp.2.1 (by simp) (by simp) (by simp) hbr hbm hbd
  rcases new_split hB ls hp.2 K with ⟨rfl, lb⟩ | ⟨p1, rfl, q1, K, ls⟩
  · exact ⟨fun c => ⟨h.1 c, lb _, fun z => absurd z (by decide)⟩, fun c => absurd rfl c⟩
  refine ⟨fun c => absurd c (by decide), fun c => ?_⟩
  have h := h.2 c
  refine cm_X4_kindOf (sq_X4_kindOf hB ob_ h ls) h (fun x20 S21 hp h g22 b23 => ?_)
  have h := h g22 b23
  obtain ⟨-, lb, hk, tk1⟩ := hp
  replace tk := tk_tr tk tk1
  rcases lb_split lb K with ⟨rfl, lb2⟩ | ⟨p2, rfl, hRp2, K, ls⟩
  · exact ⟨fun c => ⟨h.1 c, lb2 _, fun z => absurd z (by decide)⟩, fun c => absurd rfl c⟩
  refine ⟨fun c => absurd c (by decide), fun c => ?_⟩
  have h := h.2 c
  obtain ⟨k0, k1⟩ := hk rfl
  refine cm_X4_bodyOf (sq_X4_bodyOf hB ob_ h ls k0 k1 (kdOf_le _ _ _) (lh := lhOf f n p1) rfl) h (fun x26 S27 hp h g28 b29 => ?_)
  have h := h g28 b29
  obtain ⟨-, lb, tk2⟩ := hp
  rcases lb_split lb K with ⟨rfl, lb2⟩ | ⟨p3, rfl, hRp3, K, ls⟩
  · exact ⟨fun c => absurd rfl c, fun c => ⟨h.2 c, lb2 _, fun z => absurd z (by decide)⟩⟩
  refine ⟨fun c => ?_, fun c => absurd c (by decide)⟩
  have h := h.1 c
  replace tk := tk_tr tk (tk2 rfl)
  refine cm_X4_wordAndWhole (sp_X4_wordAndWhole h ls.1) h (fun x101 S102 hp h g103 b104 => ?_)
  have h := h g103 b104
  obtain ⟨-, F, hc, hv105⟩ := hp
  replace tk := tk_R tk F (by simp) hbr
  rcases cb_split hB ls F hc K (le_part ls) with ⟨rfl, lb⟩ | ⟨p106, rfl, hRp106, K, ls⟩
  · exact ⟨fun c => absurd rfl c, fun c => ⟨h.2 c, lb _, fun z => absurd z (by decide)⟩⟩
  refine ⟨fun c => ?_, fun c => absurd c (by decide)⟩
  have h := h.1 c
  replace hv105 := hv105 rfl
  intro x107 ex107
  have h := h x107 ex107
  obtain ⟨o108, h⟩ := h
  refine ⟨o108, ?_⟩
  intro T109 eT109
  have h := h T109 eT109
  replace ls := ls_Ik hB ls eT109 ob_ (by decide)
  replace tk := tk_I tk eT109
  intro x110 ex110
  have h := h x110 ex110
  have k5 : x110 = pVal f n p3 := by rw [ex110, wI_at eT109, ex107, hv105]
  subst k5
  replace K := K.trans (rb_id _)
  refine cm_X4_wordAndWhole (sp_X4_wordAndWhole h ls.1) h (fun x111 S112 hp h g113 b114 => ?_)
  have h := h g113 b114
  obtain ⟨-, F, hc, hv115⟩ := hp
  replace tk := tk_R tk F (by simp) hbr
  rcases cb_split hB ls F hc K (le_part ls) with ⟨rfl, lb⟩ | ⟨p116, rfl, hRp116, K, ls⟩
  · exact ⟨fun c => absurd rfl c, fun c => ⟨h.2 c, lb _, fun z => absurd z (by decide)⟩⟩
  refine ⟨fun c => ?_, fun c => absurd c (by decide)⟩
  have h := h.1 c
  replace hv115 := hv115 rfl
  intro x117 ex117
  have h := h x117 ex117
  intro T118 eT118
  have h := h T118 eT118
  replace ls := ls_Ik hB ls eT118 ob_ (by decide)
  replace tk := tk_I tk eT118
  obtain ⟨a119, ea119, h⟩ := h
  refine ⟨a119, ea119, ?_⟩
  cases (ls_w hB ls).symm.trans ea119
  obtain ⟨o120, h⟩ := h
  refine ⟨o120, ?_⟩
  intro x121 ex121
  have h := h x121 ex121
  intro x122 ex122
  have h := h x122 ex122
  intro T123 eT123
  have h := h T123 eT123
  refine ⟨h, lb_s K rfl (ls_C hB ls eT123 (cn_4 ls.2.2.1 eT123 (inc_ ex121 ls.2.2.1.2.2.2.2.1 ex122)) (ab_4 ls.2.2.2.2 hlt) ⟨rfl, rfl, rfl⟩), fun _ => ?_⟩
  replace tk := tk_w tk eT123 (by simp) now
  have fB := ls0.2.2.2.1.2.2.2
  subst q1
  have q2 := sKind_inl hRp2
  subst q2
  have q3 := sBody_inl hRp3
  subst q3
  have q4 := sPart_inl hRp106
  subst q4
  refine ⟨a4, bo, by rw [← fB]; exact ea4, ?_, ob_, tk.1, ?_⟩
  · rw [← fB, ← nI_cl (p := aW A) (by omega), ← ex7.trans ls0.2.2.1.2.2.2.2.1]
    exact ebo
  · intro j hj
    rw [tk.2]
    match j, hj with
    | 0, _ => simpa [va_up, wkC, shR] using k0
    | 1, _ => simpa [va_up, wkC, shR] using k1
    | 2, _ => simp [va_up, wkC, shR, bowOf]
    | 3, _ => simp [va_up, wkC, shR, bowOf]
    | 4, _ => simp [va_up, wkC, shR, bowOf]
    | 5, _ => simpa [va_up, wkC, shR] using ex107.trans hv105
    | 6, _ => simpa [va_up, wkC, shR, e2] using ex117.trans hv115
    | j + 7, hj => exact absurd hj (by omega)
end Ct2
/-! the place and seen lines: what they write -/
section Ct3
variable {f : Nat → Int32} {n a r w nm nd p : Nat} {A : AS} {B S T : HS} {Q : Int32 → HS → Prop}
def dripOf (k : Nat) (v : Int32) : Int32 := if k = 1 then 0 else if k = 2 then v else -1
def Ot (X : List Nat) (S T : HS) : Prop := ∀ b, b ∉ X → fI T b = fI S b
theorem ot_rf (X : List Nat) (S : HS) : Ot X S S := fun _ _ => rfl
theorem ot_R {X : List Nat} {S0 : HS} (t : Ot X S0 S) (F : FrR r S T) (hr : r ∈ X) : Ot X S0 T := fun b hb => (F.2.2.2.2.1 b (fun z => hb (z ▸ hr))).1.trans (t b hb)
theorem ot_A {X : List Nat} {S0 : HS} (t : Ot X S0 S) (F : FrA r nm nd S T) (hr : r ∈ X) (hm : nm ∈ X) (hn : nd ∈ X) : Ot X S0 T := fun b hb => (F.2.2.2.2.1 b (fun z => hb (z ▸ hr)) (fun z => hb (z ▸ hm)) (fun z => hb (z ▸ hn))).1.trans (t b hb)
/-- a place's row -/
def PlD (r w nm nd k : Nat) (v : Int32) (B S T : HS) : Prop := ∃ d, fR B w 7 = some d ∧ ob B d 13 ∧ TRK d [r, w, nm, nd] S (va_up (fI S d) k v) T
theorem bq64 {v1 : Int32} {L : Res} {S0 : HS} (hB : BFa a r w nm nd B) (hd : DSt w nd B) (h : P_X4_placeLine_64 Q r v1 S) (ls : LnS f n a r w nm nd B A p S) (K : L = .inl p) (hlt : aP A < 8) (ot : Ot [r, w, nm, nd] S0 S) : P_X4_placeLine_64 (fun x T => Q x T ∧ LnB f n a r w nm nd B L (up2 A) x T ∧ (x = 1 → PlD r w nm nd (aP A) v1 B S0 T)) r v1 S := by
  have ls0 := ls
  delta P_X4_placeLine_64
  obtain ⟨o20, h⟩ := h
  refine ⟨o20, ?_⟩
  obtain ⟨a21, ea21, h⟩ := h
  refine ⟨a21, ea21, ?_⟩
  cases (ls_w hB ls).symm.trans ea21
  obtain ⟨o22, h⟩ := h
  refine ⟨o22, ?_⟩
  obtain ⟨a23, ea23, h⟩ := h
  refine ⟨a23, ea23, ?_⟩
  obtain ⟨a24, ea24, h⟩ := h
  refine ⟨a24, ea24, ?_⟩
  cases (ls_w hB ls).symm.trans ea24
  obtain ⟨o25, h⟩ := h
  refine ⟨o25, ?_⟩
  intro x26 ex26
  have h := h x26 ex26
  obtain ⟨o27, h⟩ := h
  refine ⟨o27, ?_⟩
  obtain ⟨o28, h⟩ := h
  refine ⟨o28, ?_⟩
  intro S29 eS29
  have h := h S29 eS29
  have ls := ls_13 hB hd ls eS29 (Or.inl rfl) ea23 o27
  obtain ⟨a30, ea30, h⟩ := h
  refine ⟨a30, ea30, ?_⟩
  cases (ls_w hB ls).symm.trans ea30
  obtain ⟨o31, h⟩ := h
  refine ⟨o31, ?_⟩
  intro x32 ex32
  have h := h x32 ex32
  intro x33 ex33
  have h := h x33 ex33
  intro S34 eS34
  have h := h S34 eS34
  refine ⟨h, lb_s K rfl (ls_C hB ls eS34 (cn_2 ls.2.2.1 eS34 (inc_ ex32 ls.2.2.1.2.2.1 ex33)) (ab_2 ls.2.2.2.2 hlt) ⟨rfl, rfl, rfl⟩), fun _ => ?_⟩
  have fB := ls0.2.2.2.1.2.2.2
  have oa := bb_ob ls0.2.2.2.1 o27
  have ea := ea23
  rw [fB] at ea
  have n1 : a23 ≠ r := ob_ne oa hB.2.1 (by decide)
  have n2 : a23 ≠ w := ob_ne oa hB.2.2.1 (by decide)
  have n3 : a23 ≠ nm := ob_ne oa hB.2.2.2.1 (by decide)
  have n4 : a23 ≠ nd := hd 7 a23 (Or.inl rfl) ea
  have e26 : x26.toNatClampNeg = aP A := by rw [ex26.trans ls0.2.2.1.2.2.1]; exact nI_cl (by omega)
  rw [e26] at eS29
  have tk : TRK a23 [r, w, nm, nd] S0 (fI S0 a23) S := ⟨fun b hb _ => ot b hb, ot a23 (by simp [n1, n2, n3, n4])⟩
  exact ⟨a23, ea, oa, tk_w (tk_I tk eS29) eS34 (by simp) n2⟩
set_option maxHeartbeats 2000000 in
theorem sq_X4_placeLine (hB : BFa a r w nm nd B) (hd : DSt w nd B) (h : P_X4_placeLine r Q S) (ls : LnS f n a r w nm nd B A p S) (hlt : aP A < 8) (hm : aM A < 12) : P_X4_placeLine r (fun x T => Q x T ∧ LnB f n a r w nm nd B (sPlace f n p A) (up2 (upN A (tV f n p) (aP A))) x T ∧ (x = 1 → PlD r w nm nd (aP A) (dripOf (plK f n p) (plV f n p)) B S T)) S := by
  have ot := ot_rf [r, w, nm, nd] S
  delta P_X4_placeLine P_X4_placeLine_0
  obtain ⟨o1, h⟩ := h
  refine ⟨o1, ?_⟩
  obtain ⟨a2, ea2, h⟩ := h
  refine ⟨a2, ea2, ?_⟩
  cases (ls_w hB ls).symm.trans ea2
  obtain ⟨o3, h⟩ := h
  refine ⟨o3, ?_⟩
  intro x4 ex4
  have h := h x4 ex4
  have K : sPlace f n p A = rb _ _ := rfl
  refine cm_X4_newName (sp_X4_newName h ls.1 ls.2.1 hm (ex4.trans ls.2.2.1.2.2.1) (by omega) (ob_ne hB.2.2.2.2.2 hB.2.2.2.1 (by decide)) (ob_ne hB.2.2.2.2.2 hB.2.2.2.2.1 (by decide))) h (fun x5 S6 hp h g7 b8 => ?_)
  have h := h g7 b8
  replace ot := ot_A ot hp.2.1 (by simp) (by simp) (by simp)
  rcases new_split hB ls hp.2 K with ⟨rfl, lb⟩ | ⟨p1, rfl, q1, K, ls⟩
  · exact ⟨fun c => absurd rfl c, fun c => ⟨h.2 c, lb _, fun z => absurd z (by decide)⟩⟩
  refine ⟨fun c => ?_, fun c => absurd c (by decide)⟩
  have h := h.1 c
  subst q1
  refine cm_X4_is (sp_X4_is h ls.1.2.1) h (fun x10 S11 hp h g12 b13 => ?_)
  have h := h g12 b13
  obtain ⟨-, hS, hx⟩ := hp
  subst hS
  refine ⟨?_, ?_⟩
  · intro c14
    have h := h.1 c14
    have K := K.trans (dc_n (an0 hx c14))
    refine cm_X4_is (sp_X4_is h ls.1.2.1) h (fun x15 S16 hp h g17 b18 => ?_)
    have h := h g17 b18
    obtain ⟨-, hS, hx2⟩ := hp
    subst hS
    refine ⟨?_, ?_⟩
    · intro c19
      have ev : dripOf (plK f n p) (plV f n p) = -1 := by
        unfold plK plV
        rw [dc_n (an0 hx c14), dc_n (an0 hx2 c19)]
        rfl
      rw [ev]
      exact bq64 hB hd (h.1 c19) ls (K.trans (dc_n (an0 hx2 c19))) hlt ot
    · intro c35
      have h := h.2 c35
      have K := (K.trans (dc_y (an1 hx2 c35))).trans (rb_id _)
      refine cm_X4_wordAndWhole (sp_X4_wordAndWhole h ls.1) h (fun x36 S37 hp h g38 b39 => ?_)
      have h := h g38 b39
      obtain ⟨-, F, hc, hvL⟩ := hp
      replace ot := ot_R ot F (by simp)
      rcases cb_split hB ls F hc K (le_part ls) with ⟨rfl, lb⟩ | ⟨p2, rfl, hRp2, K, ls⟩
      · exact ⟨fun c => absurd rfl c, fun c => ⟨h.2 c, lb _, fun z => absurd z (by decide)⟩⟩
      refine ⟨fun c => ?_, fun c => absurd c (by decide)⟩
      have h := h.1 c
      intro x41 ex41
      have h := h x41 ex41
      have ev : dripOf (plK f n p) (plV f n p) = x41 := by
        unfold plK plV
        rw [dc_n (an0 hx c14), dc_y (an1 hx2 c35), dc_n (an0 hx c14), dc_y (an1 hx2 c35), ex41, hvL rfl]
        rfl
      rw [ev]
      exact bq64 hB hd h ls K hlt ot
  · intro c58
    have h := h.2 c58
    have K := K.trans (dc_y (an1 hx c58))
    refine cm_X4_next (sp_X4_next h ls.1.1 (po_4 ls.1) (le1 ls) (po_0 ls.1)) h (fun S59 hp h g60 => ?_)
    have h := h g60
    have ev : dripOf (plK f n p) (plV f n p) = 0 := by
      unfold plK plV
      rw [dc_y (an1 hx c58)]
      rfl
    rw [ev]
    exact bq64 hB hd h (ls_R hB ls (frR_next hp.2.1) hp.2.2 (le1 ls)) K hlt (ot_R ot (frR_next hp.2.1) (by simp))
theorem nI_sub8 {q : Nat} (h : 8 ≤ q) (h2 : q < 200) : nI q - 8 = nI (q - 8) := by
  have e8 : (8 : Int32).toInt = 8 := by decide
  refine Int32.toInt_inj.mp ?_
  rw [Int32.toInt_sub, nI_i (by omega), nI_i (by omega), e8]
  rw [Int.bmod_eq_of_le (by omega) (by omega)]
  omega
theorem sq_X4_someWalker (h : P_X4_someWalker r Q S) (ls : LnS f n a r w nm nd B A p S) : P_X4_someWalker r (fun x T => Q x T ∧ FrR r S T ∧ CB f n r (sSW f n p A) x T ∧ (x = 1 → fI T r 9 = nI (lkV A (tV f n p) - 8))) S := by
  have po := ls.1
  have lt := na_lt (v := tV f n p) ls.2.1
  delta P_X4_someWalker P_X4_someWalker_0
  obtain ⟨o1, h⟩ := h
  refine ⟨o1, ?_⟩
  refine cm_X4_canBeName (sp_X4_canBeName h po.2.1) h (fun x2 S3 hp h g4 b5 => ?_)
  have h := h g4 b5
  obtain ⟨-, hS, hx⟩ := hp
  subst hS
  refine ⟨?_, ?_⟩
  · intro c6
    have h := h.1 c6
    have ok := an1 hx c6
    refine cm_X4_findName (sp_X4_findName h po.2.1 ls.2.1) h (fun x7 S8 hp h g9 => ?_)
    have h := h g9
    obtain ⟨-, hS, hx7⟩ := hp
    subst hS
    have i8 : (8 : Int32).toInt = 8 := by decide
    refine ⟨?_, ?_⟩
    · intro c10
      have c11 := le_i c10
      have h := h.1 c10
      cases hl : lkr (aV A) (aI A) (tV f n p) (aM A) 0 with
      | none =>
        rw [hx7, hl] at c11
        have : (enc none).toInt = -1 := by decide
        omega
      | some q =>
        have hq := lt q hl
        have i7 : x7.toInt = (q : Int) := by rw [hx7, hl]; exact nI_i (by omega)
        intro x11 ex11
        have h := h x11 ex11
        intro S12 eS12
        have h := h S12 eS12
        have g20 := frR_val eS12
        refine cm_X4_next (sp_X4_next h (ec_R po.1 g20) (by rw [wI_ne eS12 (by decide)]; exact po_4 po) (po_le po) (by rw [wI_ne eS12 (by decide)]; exact po_0 po)) h (fun S13 hp h g14 => ?_)
        have h := h g14
        refine ⟨h, fr_tr g20 (frR_next hp.2.1), ?_, fun _ => ?_⟩
        · rw [sSW_some ok hl, if_neg (by omega)]
          exact ⟨rfl, hp.2.2⟩
        · rw [hp.2.1.2.2.2.2.2.1 9 (by decide), wI_at eS12, ex11, hx7, hl, lkV_of hl]
          exact nI_sub8 (by omega) (by omega)
    · intro c15
      have c16 := nle_i c15
      have h := h.2 c15
      refine cm_X4_fail (sp_X4_fail h) h (fun x16 S17 hp h g18 b19 => ?_)
      have h := h g18 b19
      obtain ⟨q1, q2⟩ := fl_res (k := 2) po.2.1 rfl hp.2
      refine ⟨h.1, h.2, q1, ?_⟩
      cases hl : lkr (aV A) (aI A) (tV f n p) (aM A) 0 with
      | none =>
        have K : sSW f n p A = .inr (2, tSt f n p) := by
          unfold sSW
          rw [dc_y ok, hl]
        rw [K]; exact ⟨q2, fun z => absurd z (by rw [hp.2.1]; decide)⟩
      | some q =>
        have hq := lt q hl
        have i7 : x7.toInt = (q : Int) := by rw [hx7, hl]; exact nI_i (by omega)
        rw [sSW_some ok hl, if_pos (by omega)]
        exact ⟨q2, fun z => absurd z (by rw [hp.2.1]; decide)⟩
  · intro c21
    have h := h.2 c21
    refine cm_X4_fail (sp_X4_fail h) h (fun x22 S23 hp h g24 b25 => ?_)
    have h := h g24 b25
    obtain ⟨q1, q2⟩ := fl_res (k := 1) po.2.1 rfl hp.2
    refine ⟨h.1, h.2, q1, ?_⟩
    unfold sSW
    rw [dc_n (an0 hx c21)]
    exact ⟨q2, fun z => absurd z (by rw [hp.2.1]; decide)⟩
theorem sf_ix : ∀ s, s < 4 → ∀ i, i < 5 → ((nI s * (5 : Int32)) + nI i).toNatClampNeg = 5 * s + i := by decide
def SnT (f : Nat → Int32) (n r w nm nd sw sf s s0 : Nat) (who : Int32) (S0 : HS) (i : Nat) (U : HS) : Prop := (∀ b, b ∉ [r, w, nm, nd] → b ≠ sw → b ≠ sf → fI U b = fI S0 b) ∧ fI U sw = va_up (fI S0 sw) s who ∧ (∀ z, z < 5 * s → fI U sf z = fI S0 sf z) ∧ ∀ k, k < i → fI U sf (5 * s + k) = (tV f n (snP f n k s0)).toInt32
def SnW (B : HS) (w sw sf : Nat) : Prop := fR B w 10 = some sw ∧ fR B w 11 = some sf ∧ sw ≠ sf ∧ ob B sw 13 ∧ ob B sf 13
def snQ (f : Nat → Int32) (n s0 i p' : Nat) : Prop := (i = 0 → p' = s0) ∧ (0 < i → p' = tEn f n (snP f n (i - 1) s0))
theorem sn_step {sw sf s s0 i j : Nat} {who v : Int32} {S0 U V : HS} (hd : DSt w nd B) (hB : BFa a r w nm nd B) (hw : SnW B w sw sf) (h : SnT f n r w nm nd sw sf s s0 who S0 i S) (F : FrR r S T) (e : U = sI T sf (5 * s + i) v) (hv : v = (tV f n (snP f n i s0)).toInt32) : SnT f n r w nm nd sw sf s s0 who S0 (i + 1) U := by
  obtain ⟨w1, w2, w3, w4, w5⟩ := hw
  obtain ⟨h1, h2, h3, h4⟩ := h
  have n1 : sf ≠ r := ob_ne w5 hB.2.1 (by decide)
  have m1 : sw ≠ r := ob_ne w4 hB.2.1 (by decide)
  have rf := (F.2.2.2.2.1 sf n1).1
  have ru := row_I e
  rw [rf] at ru
  refine ⟨fun b hb hb1 hb2 => ?_, ?_, fun z hz => ?_, fun k hk => ?_⟩
  · rw [row_o e hb2, (F.2.2.2.2.1 b (fun z => hb (by rw [z]; simp))).1]
    exact h1 b hb hb1 hb2
  · rw [row_o e w3, (F.2.2.2.2.1 sw m1).1]
    exact h2
  · rw [ru, va_up_ne _ _ (by omega)]
    exact h3 z hz
  · rw [ru]
    by_cases q : k = i
    · rw [q, va_up_self]
      exact hv
    · rw [va_up_ne _ _ (by omega)]
      exact h4 k (by omega)
theorem sn_R {sw sf s s0 i : Nat} {who : Int32} {S0 : HS} (hB : BFa a r w nm nd B) (hw : SnW B w sw sf) (h : SnT f n r w nm nd sw sf s s0 who S0 i S) (F : FrR r S T) : SnT f n r w nm nd sw sf s s0 who S0 i T := by
  obtain ⟨w1, w2, w3, w4, w5⟩ := hw
  obtain ⟨h1, h2, h3, h4⟩ := h
  have n1 : sf ≠ r := ob_ne w5 hB.2.1 (by decide)
  have m1 : sw ≠ r := ob_ne w4 hB.2.1 (by decide)
  have rf := (F.2.2.2.2.1 sf n1).1
  refine ⟨fun b hb hb1 hb2 => ?_, ?_, fun z hz => ?_, fun k hk => ?_⟩
  · rw [(F.2.2.2.2.1 b (fun z => hb (by rw [z]; simp))).1]
    exact h1 b hb hb1 hb2
  · rw [(F.2.2.2.2.1 sw m1).1]
    exact h2
  · rw [rf]; exact h3 z hz
  · rw [rf]; exact h4 k hk
theorem bq47 {v1 : Int32} {sw sf s0 i : Nat} {who : Int32} {S0 : HS} {Z : HS → Prop} {L : Res} {g : Nat → Res} {X : Nat → Int32 → HS → Prop} {X' : Nat → Int32 → HS → Prop} (hB : BFa a r w nm nd B) (hd : DSt w nd B) (h : P_X4_seenLine_47 Q X r v1 S) (ls : LnS f n a r w nm nd B A p S) (K : L = rb (sWhole f n p 0 999) g) (hw : SnW B w sw sf) (hs4 : aS A < 4) (hi5 : i < 5) (hvi : v1 = nI i) (ps : p = snP f n i s0) (sn : SnT f n r w nm nd sw sf (aS A) s0 who S0 i S) (hX : ∀ (y : Int32) (p' : Nat) (U : HS), y = v1 + 1 → LnS f n a r w nm nd B A p' U → L = g p' → p' = tEn f n (snP f n i s0) → SnT f n r w nm nd sw sf (aS A) s0 who S0 (i + 1) U → X r y U → X' r y U) : P_X4_seenLine_47 (fun x T => Q x T ∧ LnB f n a r w nm nd B L (up5 A) x T ∧ (x = 1 → Z T)) X' r v1 S := by
  delta P_X4_seenLine_47
  obtain ⟨o10, h⟩ := h
  refine ⟨o10, ?_⟩
  refine cm_X4_whole (sp_X4_whole h ls.1) h (fun x11 S12 hp h g13 b14 => ?_)
  have h := h g13 b14
  obtain ⟨-, F, hc, hvL⟩ := hp
  rcases cb_split hB ls F hc K (le_whole ls) with ⟨rfl, lb⟩ | ⟨p1, rfl, hRp1, K, ls⟩
  · exact ⟨fun c => absurd rfl c, fun c => ⟨h.2 c, lb _, fun z => absurd z (by decide)⟩⟩
  refine ⟨fun c => ?_, fun c => absurd c (by decide)⟩
  have h := h.1 c
  obtain ⟨a16, ea16, h⟩ := h
  refine ⟨a16, ea16, ?_⟩
  cases (ls_w hB ls).symm.trans ea16
  obtain ⟨o17, h⟩ := h
  refine ⟨o17, ?_⟩
  obtain ⟨a18, ea18, h⟩ := h
  refine ⟨a18, ea18, ?_⟩
  obtain ⟨a19, ea19, h⟩ := h
  refine ⟨a19, ea19, ?_⟩
  cases (ls_w hB ls).symm.trans ea19
  obtain ⟨o20, h⟩ := h
  refine ⟨o20, ?_⟩
  intro x21 ex21
  have h := h x21 ex21
  intro x22 ex22
  have h := h x22 ex22
  obtain ⟨o23, h⟩ := h
  refine ⟨o23, ?_⟩
  obtain ⟨o24, h⟩ := h
  refine ⟨o24, ?_⟩
  intro S25 eS25
  have h := h S25 eS25
  intro x26 ex26
  have h := h x26 ex26
  have ls' := ls_13 hB hd ls eS25 (Or.inr (Or.inr rfl)) ea18 o23
  have esf : a18 = sf := by
    have z := ea18
    rw [ls.2.2.2.1.2.2.2, hw.2.1] at z
    cases z
    rfl
  subst esf
  have e21 : ((x21 * (5 : Int32)) + v1).toNatClampNeg = 5 * aS A + i := by rw [ex21.trans ls.2.2.1.2.2.2.2.2, hvi]; exact sf_ix _ hs4 _ hi5
  rw [e21] at eS25
  exact hX _ p1 _ ex26 ls' K (by rw [sWhole_inl hRp1, ps]) (sn_step (i := i) (j := 0) (V := S) hd hB hw sn F eS25 (by rw [ex22, hvL rfl, ps])) h
set_option maxHeartbeats 2000000 in
theorem lq30 {L : Res} {sw sf s0 : Nat} {who : Int32} {S0 : HS} {v0 : Nat} {v1 : Int32} (hB : BFa a r w nm nd B) (hd : DSt w nd B) (hlt : aS A < 4) (hw : SnW B w sw sf) (h : P_X4_seenLine_30 Q v0 v1 S) (hi : ∃ i p', r = v0 ∧ i ≤ 5 ∧ v1 = nI i ∧ LnS f n a r w nm nd B A p' S ∧ L = sFc f n (5 - i) i p' ∧ snQ f n s0 i p' ∧ SnT f n r w nm nd sw sf (aS A) s0 who S0 i S) : P_X4_seenLine_30 (fun x T => Q x T ∧ LnB f n a r w nm nd B L (up5 A) x T ∧ (x = 1 → SnT f n r w nm nd sw sf (aS A) s0 who S0 5 T)) v0 v1 S := by
  refine h (fun v0 v1 S => (∃ i p', r = v0 ∧ i ≤ 5 ∧ v1 = nI i ∧ LnS f n a r w nm nd B A p' S ∧ L = sFc f n (5 - i) i p' ∧ snQ f n s0 i p' ∧ SnT f n r w nm nd sw sf (aS A) s0 who S0 i S) → P_X4_seenLine_30 (fun x T => Q x T ∧ LnB f n a r w nm nd B L (up5 A) x T ∧ (x = 1 → SnT f n r w nm nd sw sf (aS A) s0 who S0 5 T)) v0 v1 S) ?_ hi
  intro v0 v1 S h hi
  obtain ⟨i, p', rfl, hi5, hv1, ls, K, ps, sn⟩ := hi
  have e5 : (5 : Int32).toInt = 5 := by decide
  have e0 : (0 : Int32).toInt = 0 := by decide
  have ei : v1.toInt = (i : Int) := by rw [hv1]; exact nI_i (by omega)
  refine fd_X4_seenLine_30 ?_
  delta B_X4_seenLine_30
  refine ⟨?_, ?_⟩
  · intro c1
    have := le_i c1
    have h := h.1 c1
    have hi : i = 5 := by omega
    rw [hi, Nat.sub_self] at K
    obtain ⟨o2, h⟩ := h
    refine ⟨o2, ?_⟩
    obtain ⟨a3, ea3, h⟩ := h
    refine ⟨a3, ea3, ?_⟩
    cases (ls_w hB ls).symm.trans ea3
    obtain ⟨o4, h⟩ := h
    refine ⟨o4, ?_⟩
    intro x5 ex5
    have h := h x5 ex5
    intro x6 ex6
    have h := h x6 ex6
    intro S7 eS7
    have h := h S7 eS7
    refine ⟨h, lb_s K rfl (ls_C hB ls eS7 (cn_5 ls.2.2.1 eS7 (inc_ ex5 ls.2.2.1.2.2.2.2.2 ex6)) (ab_5 ls.2.2.2.2 hlt) ⟨rfl, rfl, rfl⟩), fun _ => ?_⟩
    have nw1 : sw ≠ w := ob_ne hw.2.2.2.1 hB.2.2.1 (by decide)
    have nw2 : sf ≠ w := ob_ne hw.2.2.2.2 hB.2.2.1 (by decide)
    rw [hi] at sn
    exact ⟨fun b hb hb1 hb2 => (row_o eS7 (fun z => hb (by rw [z]; simp))).trans (sn.1 b hb hb1 hb2), (row_o eS7 nw1).trans sn.2.1, fun z hz => by rw [row_o eS7 nw2]; exact sn.2.2.1 z hz, fun k hk => by rw [row_o eS7 nw2]; exact sn.2.2.2 k hk⟩
  · intro c8
    have := nle_i c8
    have h := h.2 c8
    have hs : 5 - i = (4 - i) + 1 := by omega
    rw [hs] at K
    have nx : ∀ (y : Int32) (p' : Nat) (U : HS), y = v1 + 1 → LnS f n a r w nm nd B A p' U → L = sFc f n (4 - i) (i + 1) p' → p' = tEn f n (snP f n i s0) → SnT f n r w nm nd sw sf (aS A) s0 who S0 (i + 1) U → ((∃ i p', r = r ∧ i ≤ 5 ∧ y = nI i ∧ LnS f n a r w nm nd B A p' U ∧ L = sFc f n (5 - i) i p' ∧ snQ f n s0 i p' ∧ SnT f n r w nm nd sw sf (aS A) s0 who S0 i U) → P_X4_seenLine_30 (fun x T => Q x T ∧ LnB f n a r w nm nd B L (up5 A) x T ∧ (x = 1 → SnT f n r w nm nd sw sf (aS A) s0 who S0 5 T)) r y U) → P_X4_seenLine_30 (fun x T => Q x T ∧ LnB f n a r w nm nd B L (up5 A) x T ∧ (x = 1 → SnT f n r w nm nd sw sf (aS A) s0 who S0 5 T)) r y U := by
      intro y p' U ey ls K pq sn h
      exact h ⟨i + 1, p', rfl, by omega, by rw [ey, hv1]; exact nI_1 i, ls, by rw [show 5 - (i + 1) = 4 - i by omega]; exact K, ⟨fun z => absurd z (by omega), fun _ => by rw [pq, Nat.add_sub_cancel]⟩, sn⟩
    refine ⟨?_, ?_⟩
    · intro c9
      have := le_i c9
      have h := h.1 c9
      have hi : i = 0 := by omega
      refine bq47 hB hd h ls (g := fun p => sFc f n (4 - i) (i + 1) p) (rb_l (p := p') K ?_) hw hlt (by omega) hv1 (by rw [ps.1 hi, hi]; rfl) sn nx
      rw [if_pos hi]
    · intro c28
      have := nle_i c28
      have h := h.2 c28
      obtain ⟨o29, h⟩ := h
      refine ⟨o29, ?_⟩
      have K2 : L = rb (sSign f n p' 4) fun p => rb (sWhole f n p 0 999) fun p => sFc f n (4 - i) (i + 1) p := by
        rw [K]
        show rb (if i = 0 then .inl p' else sSign f n p' 4) _ = _
        rw [if_neg (by omega)]
      refine cm_X4_sign (sp_X4_sign h ls.1 (k := 4) rfl (by omega)) h (fun x30 S31 hp h g32 b33 => ?_)
      have h := h g32 b33
      obtain ⟨-, F, hc⟩ := hp
      rcases cb_split hB ls F hc K2 (le_sign ls) with ⟨rfl, lb⟩ | ⟨p1, rfl, hR, K3, ls⟩
      · exact ⟨fun c => ⟨h.1 c, lb _, fun z => absurd z (by decide)⟩, fun c => absurd rfl c⟩
      refine ⟨fun c => absurd c (by decide), fun c => ?_⟩
      have h := h.2 c
      refine bq47 hB hd h ls K3 hw hlt (by omega) hv1 ?_ (sn_R hB hw sn F) nx
      rw [sSign_inl hR, ps.2 (by omega)]
      obtain ⟨i0, hi0⟩ : ∃ i0, i = i0 + 1 := ⟨i - 1, by omega⟩
      subst hi0
      rfl
theorem sSW_inl {p' : Nat} (h : sSW f n p A = .inl p') : p' = tEn f n p := by
  unfold sSW at h
  by_cases hk : nmOk f n p
  · rw [dc_y hk] at h
    cases hl : lkr (aV A) (aI A) (tV f n p) (aM A) 0 with
    | none => rw [hl] at h; cases h
    | some q =>
      rw [hl] at h
      have h : (if q < 8 then (.inr (2, tSt f n p) : Res) else .inl (tEn f n p)) = .inl p' := h
      split at h
      · cases h
      · cases h; rfl
  · rw [dc_n hk] at h; cases h
theorem sq_X4_seenLine {sw sf : Nat} (hB : BFa a r w nm nd B) (hd : DSt w nd B) (hlt : aS A < 4) (hw : SnW B w sw sf) (h : P_X4_seenLine r Q S) (ls : LnS f n a r w nm nd B A p S) : P_X4_seenLine r (fun x T => Q x T ∧ LnB f n a r w nm nd B (sSeen f n p A) (up5 A) x T ∧ (x = 1 → SnT f n r w nm nd sw sf (aS A) (tEn f n p) (nI (lkV A (tV f n p) - 8)) S 5 T)) S := by
  have K : sSeen f n p A = rb _ _ := rfl
  delta P_X4_seenLine P_X4_seenLine_0
  obtain ⟨o1, h⟩ := h
  refine ⟨o1, ?_⟩
  refine cm_X4_someWalker (sq_X4_someWalker h ls) h (fun x2 S3 hp h g4 b5 => ?_)
  have h := h g4 b5
  obtain ⟨-, F, hc, hvW⟩ := hp
  rcases cb_split hB ls F hc K (le_sw ls) with ⟨rfl, lb⟩ | ⟨p1, rfl, hRp1, K, ls⟩
  · exact ⟨fun c => absurd rfl c, fun c => ⟨h.2 c, lb _, fun z => absurd z (by decide)⟩⟩
  refine ⟨fun c => ?_, fun c => absurd c (by decide)⟩
  have h := h.1 c
  obtain ⟨a7, ea7, h⟩ := h
  refine ⟨a7, ea7, ?_⟩
  cases (ls_w hB ls).symm.trans ea7
  obtain ⟨o8, h⟩ := h
  refine ⟨o8, ?_⟩
  obtain ⟨a9, ea9, h⟩ := h
  refine ⟨a9, ea9, ?_⟩
  obtain ⟨a10, ea10, h⟩ := h
  refine ⟨a10, ea10, ?_⟩
  cases (ls_w hB ls).symm.trans ea10
  obtain ⟨o11, h⟩ := h
  refine ⟨o11, ?_⟩
  intro x12 ex12
  have h := h x12 ex12
  intro x13 ex13
  have h := h x13 ex13
  obtain ⟨o14, h⟩ := h
  refine ⟨o14, ?_⟩
  obtain ⟨o15, h⟩ := h
  refine ⟨o15, ?_⟩
  intro S16 eS16
  have h := h S16 eS16
  have fB := ls.2.2.2.1.2.2.2
  have esw : a9 = sw := by
    have z := ea9
    rw [fB, hw.1] at z
    cases z
    rfl
  subst esw
  have n1 : a9 ≠ r := ob_ne hw.2.2.2.1 hB.2.1 (by decide)
  have n2 : sf ≠ r := ob_ne hw.2.2.2.2 hB.2.1 (by decide)
  have e12 : x12.toNatClampNeg = aS A := by rw [ex12.trans ls.2.2.1.2.2.2.2.2]; exact nI_cl (by omega)
  have eT := eS16
  rw [e12] at eT
  have q1 := sSW_inl hRp1
  subst q1
  have sn : SnT f n r w nm nd a9 sf (aS A) (tEn f n p) (nI (lkV A (tV f n p) - 8)) S 0 S16 := by
    refine ⟨fun b hb hb1 hb2 => ?_, ?_, fun z hz => ?_, fun k hk => absurd hk (by omega)⟩
    · rw [row_o eT hb1, (F.2.2.2.2.1 b (fun z => hb (by rw [z]; simp))).1]
    · rw [row_I eT, (F.2.2.2.2.1 a9 n1).1, ex13, hvW rfl]
    · rw [row_o eT (Ne.symm hw.2.2.1), (F.2.2.2.2.1 sf n2).1]
  exact lq30 hB hd hlt hw h ⟨0, tEn f n p, rfl, by omega, nI_0.symm, ls_13 hB hd ls eS16 (Or.inr (Or.inl rfl)) ea9 o14, K, ⟨fun _ => rfl, fun z => absurd z (by omega)⟩, sn⟩
end Ct3
