section
/-! what a line writes: the rows of one object, all else as it was but for some -/
def TRK (o : Nat) (X : List Nat) (S0 : HS) (g : Nat → Int32) (S : HS) : Prop := (∀ b, b ∉ X → b ≠ o → fI S b = fI S0 b) ∧ fI S o = g
section Trk
variable {o r nm nd b j : Nat} {X : List Nat} {S0 S T : HS} {g : Nat → Int32} {v : Int32}
theorem row_I (e : T = sI S o j v) : fI T o = va_up (fI S o) j v := by
  rw [e]
  funext i
  show u2 (fI S) o j v o i = va_up (fI S o) j v i
  unfold u2 va_up
  by_cases h : i = j
  · rw [if_pos ⟨rfl, h⟩, if_pos h]
  · rw [if_neg (fun z => h z.2), if_neg h]
theorem row_o (e : T = sI S b j v) (h : o ≠ b) : fI T o = fI S o := by
  rw [e]
  exact u2_row _ _ h
theorem tk_0 (F : FrR r S0 S) (hr : r ∈ X) : TRK o X S0 (fI S o) S := ⟨fun b hb _ => (F.2.2.2.2.1 b (fun z => hb (z ▸ hr))).1, rfl⟩
theorem tk_r0 (o : Nat) (X : List Nat) (S : HS) : TRK o X S (fI S o) S := ⟨fun _ _ _ => rfl, rfl⟩
theorem tk_R (t : TRK o X S0 g S) (F : FrR r S T) (hr : r ∈ X) (ho : o ≠ r) : TRK o X S0 g T := ⟨fun b hb hbo => (F.2.2.2.2.1 b (fun z => hb (z ▸ hr))).1.trans (t.1 b hb hbo), (F.2.2.2.2.1 o ho).1.trans t.2⟩
theorem tk_A (t : TRK o X S0 g S) (F : FrA r nm nd S T) (hr : r ∈ X) (hm : nm ∈ X) (hn : nd ∈ X) (ho : o ≠ r) (ho1 : o ≠ nm) (ho2 : o ≠ nd) : TRK o X S0 g T := ⟨fun b hb hbo => (F.2.2.2.2.1 b (fun z => hb (z ▸ hr)) (fun z => hb (z ▸ hm)) (fun z => hb (z ▸ hn))).1.trans (t.1 b hb hbo), (F.2.2.2.2.1 o ho ho1 ho2).1.trans t.2⟩
theorem tk_I (t : TRK o X S0 g S) (e : T = sI S o j v) : TRK o X S0 (va_up g j v) T := ⟨fun b hb hbo => (row_o e hbo).trans (t.1 b hb hbo), (row_I e).trans (by rw [t.2])⟩
theorem tk_w (t : TRK o X S0 g S) (e : T = sI S b j v) (hb : b ∈ X) (ho : o ≠ b) : TRK o X S0 g T := ⟨fun c hc hco => (row_o (o := c) e (fun z => hc (z ▸ hb))).trans (t.1 c hc hco), (row_o e ho).trans t.2⟩
end Trk
/-! what a line tells, out of its tokens -/
def e2 (f : Nat → Int32) (n p : Nat) : Nat := tEn f n (tEn f n p)
noncomputable def sdV (f : Nat → Int32) (n p : Nat) : Int32 := match sideOf f n p with
  | some k => nI k
  | none => 0
def lkV (A : AS) (v : Int64) : Nat := match lkr (aV A) (aI A) v (aM A) 0 with
  | some k => k
  | none => 0
noncomputable def rnC (f : Nat → Int32) (n p j : Nat) : Int32 := if j = 0 then pVal f n p else if j = 1 then pVal f n (e2 f n p) else if j = 2 then sdV f n (tEn f n (e2 f n (e2 f n p))) else if j = 3 then (tV f n (e2 f n (e2 f n (e2 f n p)))).toInt32 else pVal f n (tEn f n (e2 f n (e2 f n (e2 f n p))))
noncomputable def plK (f : Nat → Int32) (n p : Nat) : Nat := dc (isW f n (tEn f n p) 15) 1 (dc (isW f n (tEn f n p) 16) 2 0)
noncomputable def plV (f : Nat → Int32) (n p : Nat) : Int32 := dc (isW f n (tEn f n p) 15) 0 (dc (isW f n (tEn f n p) 16) (pVal f n (tEn f n p)) 0)
noncomputable def rdC (f : Nat → Int32) (n p : Nat) (A : AS) (j : Nat) : Int32 := if j = 0 then nI (lkV A (tV f n p)) else if j = 1 then nI (lkV A (tV f n (tEn f n (e2 f n p)))) else if j = 2 then sdV f n (tEn f n p) else if j = 3 then (tV f n (e2 f n p)).toInt32 else dc (isW f n (e2 f n (e2 f n p)) 17) (pVal f n (e2 f n (e2 f n p))) 0
noncomputable def kEn (f : Nat → Int32) (n p : Nat) : Nat := dc (isW f n p 18) (e2 f n p) (dc (isW f n p 19) (e2 f n p) (dc (isW f n p 20) (e2 f n p) (tEn f n p)))
noncomputable def bowOf (f : Nat → Int32) (n p : Nat) : Int32 := if kdOf f n p = 1 then amOf f n p else 0
noncomputable def wkC (f : Nat → Int32) (n p j : Nat) : Int32 :=
  if j = 0 then nI (kdOf f n (tEn f n p)) else if j = 1 then amOf f n (tEn f n p)
  else if j = 2 then pVal f n (kEn f n (tEn f n p)) * (pVal f n (e2 f n (kEn f n (tEn f n p))) + bowOf f n (tEn f n p))
  else if j = 3 then pVal f n (kEn f n (tEn f n p)) * (pVal f n (e2 f n (e2 f n (kEn f n (tEn f n p)))) - bowOf f n (tEn f n p))
  else if j = 4 then (pVal f n (e2 f n (kEn f n (tEn f n p))) + bowOf f n (tEn f n p)) * (pVal f n (e2 f n (e2 f n (kEn f n (tEn f n p)))) - bowOf f n (tEn f n p))
  else if j = 5 then pVal f n (e2 f n (e2 f n (e2 f n (kEn f n (tEn f n p))))) else pVal f n (e2 f n (e2 f n (e2 f n (e2 f n (kEn f n (tEn f n p))))))
def snP (f : Nat → Int32) (n : Nat) : Nat → Nat → Nat
  | 0, p => p
  | k + 1, p => e2 f n (snP f n k p)
noncomputable def snC (f : Nat → Int32) (n p : Nat) (A : AS) (j : Nat) : Int32 := if j = 0 then nI (lkV A (tV f n p) - 8) else (tV f n (snP f n (j - 1) (tEn f n p))).toInt32
/-! the rain and road lines: what they write -/
section Ct1
variable {f : Nat → Int32} {n a r w nm nd p : Nat} {A : AS} {B S T : HS} {Q : Int32 → HS → Prop}
def ObD (fl k cnt N r w nm nd : Nat) (c : Nat → Int32) (B S T : HS) : Prop := ∃ ra o, fR B w fl = some ra ∧ fR B ra cnt = some o ∧ ob B o k ∧ (∀ b, b ∉ [r, w, nm, nd] → b ≠ o → fI T b = fI S b) ∧ ∀ j, j < N → fI T o j = c j
theorem sdV_of {k : Nat} {v : Int32} (h : ∃ k, sideOf f n p = some k ∧ v = nI k) : v = sdV f n p := by
  obtain ⟨k, h1, h2⟩ := h
  unfold sdV
  rw [h1]
  exact h2
theorem lkV_of {q : Nat} {v : Int64} (h : lkr (aV A) (aI A) v (aM A) 0 = some q) : lkV A v = q := by
  unfold lkV
  rw [h]
set_option maxHeartbeats 2000000 in
theorem sq_X4_rainLine (hB : BFa a r w nm nd B) (h : P_X4_rainLine r Q S) (ls : LnS f n a r w nm nd B A p S) (hlt : aHs A < 6) : P_X4_rainLine r (fun x T => Q x T ∧ LnB f n a r w nm nd B (sRain f n p) (up1 A) x T ∧ (x = 1 → ObD 6 3 (aHs A) 5 r w nm nd (rnC f n p) B S T)) S := by
  have ls0 := ls
  delta P_X4_rainLine P_X4_rainLine_0
  obtain ⟨o1, h⟩ := h
  refine ⟨o1, ?_⟩
  obtain ⟨a2, ea2, h⟩ := h
  refine ⟨a2, ea2, ?_⟩
  cases (ls_w hB ls).symm.trans ea2
  obtain ⟨o3, h⟩ := h
  refine ⟨o3, ?_⟩
  obtain ⟨a4, ea4, h⟩ := h
  refine ⟨a4, ea4, ?_⟩
  obtain ⟨a5, ea5, h⟩ := h
  refine ⟨a5, ea5, ?_⟩
  cases (ls_w hB ls).symm.trans ea5
  obtain ⟨o6, h⟩ := h
  refine ⟨o6, ?_⟩
  intro x7 ex7
  have h := h x7 ex7
  obtain ⟨o8, h⟩ := h
  refine ⟨o8, ?_⟩
  obtain ⟨o9, h⟩ := h
  refine ⟨o9, ?_⟩
  obtain ⟨a10, ea10, h⟩ := h
  refine ⟨a10, ea10, ?_⟩
  have K := sRain_eq f n p
  refine cm_X4_wordAndWhole (sp_X4_wordAndWhole h ls.1) h (fun x11 S12 hp h g13 b14 => ?_)
  have h := h g13 b14
  obtain ⟨-, F, hc, hv15⟩ := hp
  rcases cb_split hB ls F hc K (le_part ls) with ⟨rfl, lb⟩ | ⟨p16, rfl, hRp16, K, ls⟩
  · exact ⟨fun c => absurd rfl c, fun c => ⟨h.2 c, lb _, fun z => absurd z (by decide)⟩⟩
  refine ⟨fun c => ?_, fun c => absurd c (by decide)⟩
  have h := h.1 c
  replace hv15 := hv15 rfl
  intro x17 ex17
  have h := h x17 ex17
  obtain ⟨o18, h⟩ := h
  refine ⟨o18, ?_⟩
  have ob := bb_ob ls.2.2.2.1 o18
  have nor : a10 ≠ r := ob_ne ob hB.2.1 (by decide)
  have now : a10 ≠ w := ob_ne ob hB.2.2.1 (by decide)
  have tk := tk_0 (o := a10) (X := [r, w, nm, nd]) F (by simp)
  intro T19 eT19
  have h := h T19 eT19
  replace ls := ls_Ik hB ls eT19 ob (by decide)
  replace tk := tk_I tk eT19
  refine cm_X4_wordAndWhole (sp_X4_wordAndWhole h ls.1) h (fun x20 S21 hp h g22 b23 => ?_)
  have h := h g22 b23
  obtain ⟨-, F, hc, hv24⟩ := hp
  replace tk := tk_R tk F (by simp) nor
  rcases cb_split hB ls F hc K (le_part ls) with ⟨rfl, lb⟩ | ⟨p25, rfl, hRp25, K, ls⟩
  · exact ⟨fun c => absurd rfl c, fun c => ⟨h.2 c, lb _, fun z => absurd z (by decide)⟩⟩
  refine ⟨fun c => ?_, fun c => absurd c (by decide)⟩
  have h := h.1 c
  replace hv24 := hv24 rfl
  intro x26 ex26
  have h := h x26 ex26
  intro T27 eT27
  have h := h T27 eT27
  replace ls := ls_Ik hB ls eT27 ob (by decide)
  replace tk := tk_I tk eT27
  refine cm_X4_word (sp_X4_word h ls.1) h (fun x28 S29 hp h g30 b31 => ?_)
  have h := h g30 b31
  obtain ⟨-, F, hc⟩ := hp
  replace tk := tk_R tk F (by simp) nor
  rcases cb_split hB ls F hc K (le_word ls) with ⟨rfl, lb⟩ | ⟨p33, rfl, hRp33, K, ls⟩
  · exact ⟨fun c => ⟨h.1 c, lb _, fun z => absurd z (by decide)⟩, fun c => absurd rfl c⟩
  refine ⟨fun c => absurd c (by decide), fun c => ?_⟩
  have h := h.2 c
  refine cm_X4_side (sp_X4_side h ls.1) h (fun x34 S35 hp h g36 b37 => ?_)
  have h := h g36 b37
  obtain ⟨-, F, hc, hv38⟩ := hp
  replace tk := tk_R tk F (by simp) nor
  rcases cb_split hB ls F hc K (le_side ls) with ⟨rfl, lb⟩ | ⟨p39, rfl, hRp39, K, ls⟩
  · exact ⟨fun c => absurd rfl c, fun c => ⟨h.2 c, lb _, fun z => absurd z (by decide)⟩⟩
  refine ⟨fun c => ?_, fun c => absurd c (by decide)⟩
  have h := h.1 c
  replace hv38 := hv38 rfl
  intro x40 ex40
  have h := h x40 ex40
  intro T41 eT41
  have h := h T41 eT41
  replace ls := ls_Ik hB ls eT41 ob (by decide)
  replace tk := tk_I tk eT41
  refine cm_X4_whole (sp_X4_whole h ls.1) h (fun x42 S43 hp h g44 b45 => ?_)
  have h := h g44 b45
  obtain ⟨-, F, hc, hv46⟩ := hp
  replace tk := tk_R tk F (by simp) nor
  rcases cb_split hB ls F hc K (le_whole ls) with ⟨rfl, lb⟩ | ⟨p47, rfl, hRp47, K, ls⟩
  · exact ⟨fun c => absurd rfl c, fun c => ⟨h.2 c, lb _, fun z => absurd z (by decide)⟩⟩
  refine ⟨fun c => ?_, fun c => absurd c (by decide)⟩
  have h := h.1 c
  replace hv46 := hv46 rfl
  intro x48 ex48
  have h := h x48 ex48
  intro T49 eT49
  have h := h T49 eT49
  replace ls := ls_Ik hB ls eT49 ob (by decide)
  replace tk := tk_I tk eT49
  replace K := K.trans (rb_id _)
  refine cm_X4_wordAndWhole (sp_X4_wordAndWhole h ls.1) h (fun x50 S51 hp h g52 b53 => ?_)
  have h := h g52 b53
  obtain ⟨-, F, hc, hv54⟩ := hp
  replace tk := tk_R tk F (by simp) nor
  rcases cb_split hB ls F hc K (le_part ls) with ⟨rfl, lb⟩ | ⟨p55, rfl, hRp55, K, ls⟩
  · exact ⟨fun c => absurd rfl c, fun c => ⟨h.2 c, lb _, fun z => absurd z (by decide)⟩⟩
  refine ⟨fun c => ?_, fun c => absurd c (by decide)⟩
  have h := h.1 c
  replace hv54 := hv54 rfl
  intro x56 ex56
  have h := h x56 ex56
  intro T57 eT57
  have h := h T57 eT57
  replace ls := ls_Ik hB ls eT57 ob (by decide)
  replace tk := tk_I tk eT57
  obtain ⟨a58, ea58, h⟩ := h
  refine ⟨a58, ea58, ?_⟩
  cases (ls_w hB ls).symm.trans ea58
  obtain ⟨o59, h⟩ := h
  refine ⟨o59, ?_⟩
  intro x60 ex60
  have h := h x60 ex60
  intro x61 ex61
  have h := h x61 ex61
  intro T62 eT62
  have h := h T62 eT62
  refine ⟨h, lb_s K rfl (ls_C hB ls eT62 (cn_1 ls.2.2.1 eT62 (inc_ ex60 ls.2.2.1.2.1 ex61)) (ab_1 ls.2.2.2.2 hlt) ⟨rfl, rfl, rfl⟩), fun _ => ?_⟩
  replace tk := tk_w tk eT62 (by simp) now
  have fB := ls0.2.2.2.1.2.2.2
  have q16 := sPart_inl hRp16
  subst q16
  have q25 := sPart_inl hRp25
  subst q25
  have q33 := sWord_inl hRp33
  subst q33
  have q39 := sSide_inl hRp39
  subst q39
  have q47 := sWhole_inl hRp47
  subst q47
  refine ⟨a4, a10, by rw [← fB]; exact ea4, ?_, ob, tk.1, ?_⟩
  · rw [← fB, ← nI_cl (p := aHs A) (by omega), ← ex7.trans ls0.2.2.1.2.1]
    exact ea10
  · intro j hj
    rw [tk.2]
    match j, hj with
    | 0, _ => simpa [va_up, rnC, e2] using ex17.trans hv15
    | 1, _ => simpa [va_up, rnC, e2] using ex26.trans hv24
    | 2, _ => simpa [va_up, rnC, e2] using ex40.trans (sdV_of (k := 0) hv38)
    | 3, _ => simpa [va_up, rnC, e2] using ex48.trans hv46
    | 4, _ => simpa [va_up, rnC, e2] using ex56.trans hv54
    | j + 5, hj => exact absurd hj (by omega)
theorem bq130 {L : Res} {Z : HS → Prop} (hB : BFa a r w nm nd B) (h : P_X4_roadLine_130 Q r S) (ls : LnS f n a r w nm nd B A p S) (K : L = .inl p) (hlt : aR A < 12) (hz : ∀ T, (∀ b, b ≠ w → fI T b = fI S b) → Z T) : P_X4_roadLine_130 (fun x T => Q x T ∧ LnB f n a r w nm nd B L (up3 A) x T ∧ (x = 1 → Z T)) r S := by
  delta P_X4_roadLine_130
  obtain ⟨o20, h⟩ := h
  refine ⟨o20, ?_⟩
  obtain ⟨a21, ea21, h⟩ := h
  refine ⟨a21, ea21, ?_⟩
  cases (ls_w hB ls).symm.trans ea21
  obtain ⟨o22, h⟩ := h
  refine ⟨o22, ?_⟩
  intro x32 ex32
  have h := h x32 ex32
  intro x33 ex33
  have h := h x33 ex33
  intro S34 eS34
  have h := h S34 eS34
  exact ⟨h, lb_s K rfl (ls_C hB ls eS34 (cn_3 ls.2.2.1 eS34 (inc_ ex32 ls.2.2.1.2.2.2.1 ex33)) (ab_3 ls.2.2.2.2 hlt) ⟨rfl, rfl, rfl⟩), fun _ => hz _ (fun b hb => row_o eS34 hb)⟩
set_option maxHeartbeats 4000000 in
theorem sq_X4_roadLine (hB : BFa a r w nm nd B) (h : P_X4_roadLine r Q S) (ls : LnS f n a r w nm nd B A p S) (hlt : aR A < 12) : P_X4_roadLine r (fun x T => Q x T ∧ LnB f n a r w nm nd B (sRoad f n p A) (up3 A) x T ∧ (x = 1 → ObD 8 5 (aR A) 5 r w nm nd (rdC f n p A) B S T)) S := by
  have ls0 := ls
  have fB := ls0.2.2.2.1.2.2.2
  delta P_X4_roadLine P_X4_roadLine_0
  obtain ⟨o1, h⟩ := h
  refine ⟨o1, ?_⟩
  obtain ⟨a2, ea2, h⟩ := h
  refine ⟨a2, ea2, ?_⟩
  cases (ls_w hB ls).symm.trans ea2
  obtain ⟨o3, h⟩ := h
  refine ⟨o3, ?_⟩
  obtain ⟨a4, ea4, h⟩ := h
  refine ⟨a4, ea4, ?_⟩
  obtain ⟨a5, ea5, h⟩ := h
  refine ⟨a5, ea5, ?_⟩
  cases (ls_w hB ls).symm.trans ea5
  obtain ⟨o6, h⟩ := h
  refine ⟨o6, ?_⟩
  intro x7 ex7
  have h := h x7 ex7
  obtain ⟨o8, h⟩ := h
  refine ⟨o8, ?_⟩
  obtain ⟨o9, h⟩ := h
  refine ⟨o9, ?_⟩
  obtain ⟨bo, ebo, h⟩ := h
  refine ⟨bo, ebo, ?_⟩
  have K : sRoad f n p A = rb _ _ := rfl
  refine cm_X4_placeBut (sp_X4_placeBut h ls (o := none) rfl (fun q z => by cases z)) h (fun x10 S11 hp h g12 b13 => ?_)
  have h := h g12 b13
  obtain ⟨-, F, hc, hv14⟩ := hp
  rcases cb_split hB ls F hc K (le_pb ls) with ⟨rfl, lb⟩ | ⟨p15, rfl, hRp15, K, ls⟩
  · exact ⟨fun c => absurd rfl c, fun c => ⟨h.2 c, lb _, fun z => absurd z (by decide)⟩⟩
  refine ⟨fun c => ?_, fun c => absurd c (by decide)⟩
  have h := h.1 c
  replace hv14 := hv14 rfl
  intro x16 ex16
  have h := h x16 ex16
  obtain ⟨o17, h⟩ := h
  refine ⟨o17, ?_⟩
  have ob_ := bb_ob ls.2.2.2.1 o17
  have nor : bo ≠ r := ob_ne ob_ hB.2.1 (by decide)
  have now : bo ≠ w := ob_ne ob_ hB.2.2.1 (by decide)
  have tk := tk_0 (o := bo) (X := [r, w, nm, nd]) F (by simp)
  have hbr : bo ≠ r := ob_ne ob_ hB.2.1 (by decide)
  obtain ⟨q, hq, hq8, hv9⟩ := hv14
  intro T18 eT18
  have h := h T18 eT18
  replace ls := ls_Ik hB ls eT18 ob_ (by decide)
  replace tk := tk_I tk eT18
  have k0 : fI T18 bo 0 = nI q := by rw [wI_at eT18, ex16, hv9]
  refine cm_X4_side (sp_X4_side h ls.1) h (fun x19 S20 hp h g21 b22 => ?_)
  have h := h g21 b22
  obtain ⟨-, F, hc, hv23⟩ := hp
  replace tk := tk_R tk F (by simp) nor
  rcases cb_split hB ls F hc K (le_side ls) with ⟨rfl, lb⟩ | ⟨p24, rfl, hRp24, K, ls⟩
  · exact ⟨fun c => absurd rfl c, fun c => ⟨h.2 c, lb _, fun z => absurd z (by decide)⟩⟩
  refine ⟨fun c => ?_, fun c => absurd c (by decide)⟩
  have h := h.1 c
  replace hv23 := hv23 rfl
  replace k0 := (congrFun (F.2.2.2.2.1 bo hbr).1 0).trans k0
  intro x25 ex25
  have h := h x25 ex25
  intro T26 eT26
  have h := h T26 eT26
  replace ls := ls_Ik hB ls eT26 ob_ (by decide)
  replace tk := tk_I tk eT26
  replace k0 := (wI_ne eT26 (by decide)).trans k0
  refine cm_X4_whole (sp_X4_whole h ls.1) h (fun x27 S28 hp h g29 b30 => ?_)
  have h := h g29 b30
  obtain ⟨-, F, hc, hv31⟩ := hp
  replace tk := tk_R tk F (by simp) nor
  rcases cb_split hB ls F hc K (le_whole ls) with ⟨rfl, lb⟩ | ⟨p32, rfl, hRp32, K, ls⟩
  · exact ⟨fun c => absurd rfl c, fun c => ⟨h.2 c, lb _, fun z => absurd z (by decide)⟩⟩
  refine ⟨fun c => ?_, fun c => absurd c (by decide)⟩
  have h := h.1 c
  replace hv31 := hv31 rfl
  replace k0 := (congrFun (F.2.2.2.2.1 bo hbr).1 0).trans k0
  intro x33 ex33
  have h := h x33 ex33
  intro T34 eT34
  have h := h T34 eT34
  replace ls := ls_Ik hB ls eT34 ob_ (by decide)
  replace tk := tk_I tk eT34
  replace k0 := (wI_ne eT34 (by decide)).trans k0
  have k3 : fI T34 bo 3 = (tV f n p24).toInt32 := by rw [wI_at eT34, ex33, hv31]
  intro x35 ex35
  have h := h x35 ex35
  have e33 : x35 = enc (lkr (aV A) (aI A) (tV f n p) (aM A) 0) := by rw [ex35, k0, hq]; rfl
  refine cm_X4_placeBut (sp_X4_placeBut h ls e33 (na_lt ls.2.1)) h (fun x36 S37 hp h g38 b39 => ?_)
  have h := h g38 b39
  obtain ⟨-, F, hc, hv40⟩ := hp
  replace tk := tk_R tk F (by simp) nor
  rcases cb_split hB ls F hc K (le_pb ls) with ⟨rfl, lb⟩ | ⟨p41, rfl, hRp41, K, ls⟩
  · exact ⟨fun c => absurd rfl c, fun c => ⟨h.2 c, lb _, fun z => absurd z (by decide)⟩⟩
  refine ⟨fun c => ?_, fun c => absurd c (by decide)⟩
  have h := h.1 c
  replace hv40 := hv40 rfl
  replace k0 := (congrFun (F.2.2.2.2.1 bo hbr).1 0).trans k0
  replace k3 := (congrFun (F.2.2.2.2.1 bo hbr).1 3).trans k3
  intro x42 ex42
  have h := h x42 ex42
  intro T43 eT43
  have h := h T43 eT43
  replace ls := ls_Ik hB ls eT43 ob_ (by decide)
  replace tk := tk_I tk eT43
  replace k0 := (wI_ne eT43 (by decide)).trans k0
  replace k3 := (wI_ne eT43 (by decide)).trans k3
  intro T44 eT44
  have h := h T44 eT44
  replace ls := ls_Ik hB ls eT44 ob_ (by decide)
  replace tk := tk_I tk eT44
  replace k0 := (wI_ne eT44 (by decide)).trans k0
  replace k3 := (wI_ne eT44 (by decide)).trans k3
  have q15 := (sPB_inl hRp15).1
  subst q15
  have q24 := sSide_inl hRp24
  subst q24
  have q32 := sWhole_inl hRp32
  subst q32
  have q41 := (sPB_inl hRp41).1
  subst q41
  obtain ⟨q4, hq4, -, hv49⟩ := hv40
  have fin : ∀ (g : Nat → Int32) (U : HS) (V : HS), TRK bo [r, w, nm, nd] S g U → (∀ b, b ≠ w → fI V b = fI U b) → (∀ j, j < 5 → g j = rdC f n p A j) → ObD 8 5 (aR A) 5 r w nm nd (rdC f n p A) B S V := by
    intro g U V tk hw hg
    refine ⟨a4, bo, by rw [← fB]; exact ea4, ?_, ob_, fun b hb hbo => (hw b (fun z => hb (by rw [z]; simp))).trans (tk.1 b hb hbo), fun j hj => ?_⟩
    · rw [← fB, ← nI_cl (p := aR A) (by omega), ← ex7.trans ls0.2.2.1.2.2.2.1]
      exact ebo
    · rw [hw bo now, tk.2]
      exact hg j hj
  refine cm_X4_is (sp_X4_is h ls.1.2.1) h (fun xa Sa hp h ga ba => ?_)
  have h := h ga ba
  obtain ⟨-, hS, hx⟩ := hp
  subst hS
  refine ⟨?_, ?_⟩
  · intro c46
    refine bq130 hB (h.1 c46) ls (K.trans (dc_n (an0 hx c46))) hlt (fun V hV => fin _ _ V tk hV (fun j hj => ?_))
    have n17 := an0 hx c46
    match j, hj with
    | 0, _ => simpa [va_up, rdC, e2, lkV_of hq] using ex16.trans hv9
    | 1, _ => simpa [va_up, rdC, e2, lkV_of hq4] using ex42.trans hv49
    | 2, _ => simpa [va_up, rdC, e2] using ex25.trans (sdV_of (k := 0) hv23)
    | 3, _ => simpa [va_up, rdC, e2] using ex33.trans hv31
    | 4, _ => exact (dc_n n17).symm
    | j + 5, hj => exact absurd hj (by omega)
  · intro c53
    have h := h.2 c53
    have K := (K.trans (dc_y (an1 hx c53))).trans (rb_id _)
    intro x54 ex54
    have h := h x54 ex54
    rw [k3] at ex54
    subst ex54
    refine cm_X4_wordAndWhole (sp_X4_wordAndWhole h ls.1) h (fun x36 S37 hp h g38 b39 => ?_)
    have h := h g38 b39
    obtain ⟨-, F, hc, hvL⟩ := hp
    replace tk := tk_R tk F (by simp) nor
    rcases cb_split hB ls F hc K (le_part ls) with ⟨rfl, lb⟩ | ⟨p5, rfl, hRp5, K, ls⟩
    · exact ⟨fun c => absurd rfl c, fun c => ⟨h.2 c, lb _, fun z => absurd z (by decide)⟩⟩
    refine ⟨fun c => ?_, fun c => absurd c (by decide)⟩
    have h := h.1 c
    intro x60 ex60
    have h := h x60 ex60
    intro S61 eS61
    have h := h S61 eS61
    replace tk := tk_I tk eS61
    refine bq130 hB h (ls_Ik hB ls eS61 ob_ (by decide)) K hlt (fun V hV => fin _ _ V tk hV (fun j hj => ?_))
    have n17 := an1 hx c53
    match j, hj with
    | 0, _ => simpa [va_up, rdC, e2, lkV_of hq] using ex16.trans hv9
    | 1, _ => simpa [va_up, rdC, e2, lkV_of hq4] using ex42.trans hv49
    | 2, _ => simpa [va_up, rdC, e2] using ex25.trans (sdV_of (k := 0) hv23)
    | 3, _ => simpa [va_up, rdC, e2] using ex33.trans hv31
    | 4, _ => exact (ex60.trans (hvL rfl)).trans (dc_y n17).symm
    | j + 5, hj => exact absurd hj (by omega)
end Ct1
/-! the walker line: what it writes -/
section Ct2
variable {f : Nat → Int32} {n a r w nm nd p : Nat} {A : AS} {B S T : HS} {Q : Int32 → HS → Prop}
theorem tk_self {o : Nat} {X : List Nat} {S0 : HS} {g : Nat → Int32} (t : TRK o X S0 g S) : TRK o X S0 (fI S o) S := ⟨t.1, rfl⟩
theorem tk_tr {o : Nat} {X : List Nat} {S0 : HS} {g g2 : Nat → Int32} (t : TRK o X S0 g S) (u : TRK o X S g2 T) : TRK o X S0 g2 T := ⟨fun b hb hbo => (u.1 b hb hbo).trans (t.1 b hb hbo), u.2⟩
theorem sKind_inl {p' : Nat} (h : sKind f n p = .inl p') : p' = kEn f n p := by
  unfold sKind at h
  unfold kEn
  by_cases h1 : isW f n p 18
  · rw [dc_y h1] at h ⊢
    exact sPart_inl h
  rw [dc_n h1] at h ⊢
  by_cases h2 : isW f n p 19
  · rw [dc_y h2] at h ⊢
    exact sPart_inl h
  rw [dc_n h2] at h ⊢
  by_cases h3 : isW f n p 20
  · rw [dc_y h3] at h ⊢
    exact sPart_inl h
  rw [dc_n h3] at h ⊢
  exact sWord_inl h
theorem sBody_inl {lh : Int32} {p' : Nat} (h : sBody f n p lh = .inl p') : p' = e2 f n (e2 f n (e2 f n p)) := by
  unfold sBody at h
  cases h1 : sPart f n p 22 1 9 with
  | inr e => rw [h1] at h; cases h
  | inl p1 =>
    rw [h1] at h
    have h : rb (sPart f n p1 23 1 9) (fun p => sPart f n p 24 lh.toInt64 9) = .inl p' := h
    cases h2 : sPart f n p1 23 1 9 with
    | inr e => rw [h2] at h; cases h
    | inl p2 =>
      rw [h2] at h
      have h : sPart f n p2 24 lh.toInt64 9 = .inl p' := h
      rw [sPart_inl h, sPart_inl h2, sPart_inl h1]
      rfl
def shR (g : Nat → Int32) (v1 v2 v3 bw : Int32) : Nat → Int32 := va_up (va_up (va_up g 2 (v1 * (v2 + bw))) 3 (v1 * (v3 - bw))) 4 ((v2 + bw) * (v3 - bw))
theorem sq_X6_shape {Q : HS → Prop} {v0 : Nat} {v1 v2 v3 bw : Int32} (h : P_X6_shape v0 v1 v2 v3 Q S) (hb : bw = if fI S v0 0 = 1 then fI S v0 1 else 0) : P_X6_shape v0 v1 v2 v3 (fun T => Q T ∧ Fr [2, 3, 4] [] v0 S T ∧ TRK v0 [] S (shR (fI S v0) v1 v2 v3 bw) T) S := by
  delta P_X6_shape P_X6_shape_0
  obtain ⟨o1, h⟩ := h
  refine ⟨o1, ?_⟩
  intro x2 ex2
  have h := h x2 ex2
  have fin : ∀ z : Int32, z = bw → P_X6_shape_16 Q v0 v1 v2 v3 z S → P_X6_shape_16 (fun T => Q T ∧ Fr [2, 3, 4] [] v0 S T ∧ TRK v0 [] S (shR (fI S v0) v1 v2 v3 bw) T) v0 v1 v2 v3 z S := by
    intro z hz h
    subst hz
    delta P_X6_shape_16
    obtain ⟨o4, h⟩ := h
    refine ⟨o4, ?_⟩
    intro x5 ex5
    have h := h x5 ex5
    intro S6 eS6
    have h := h S6 eS6
    intro x7 ex7
    have h := h x7 ex7
    intro S8 eS8
    have h := h S8 eS8
    intro x9 ex9
    have h := h x9 ex9
    intro S10 eS10
    have h := h S10 eS10
    have u := tk_I (tk_I (tk_I (tk_r0 v0 [] S) eS6) eS8) eS10
    rw [ex5, ex7, ex9] at u
    exact ⟨h, fr_wI (fr_wI (fr_wI (fr_rf _ _ _ _) eS6 (by decide)) eS8 (by decide)) eS10 (by decide), u⟩
  refine ⟨fun c3 => fin _ (by rw [hb, if_neg (by rw [← ex2]; exact c3)]) (h.1 c3), fun c11 => ?_⟩
  have h := h.2 c11
  intro x12 ex12
  have h := h x12 ex12
  exact fin _ (by rw [hb, if_pos (by rw [← ex2]; exact c11), ex12]) h
set_option maxHeartbeats 2000000 in
theorem sq_X4_kindOf {b : Nat} (hB : BFa a r w nm nd B) (ob_ : ob B b 6) (h : P_X4_kindOf r b Q S) (ls : LnS f n a r w nm nd B A p S) : P_X4_kindOf r b (fun x T => Q x T ∧ LnB f n a r w nm nd B (sKind f n p) A x T ∧ (x = 1 → fI T b 0 = nI (kdOf f n p) ∧ fI T b 1 = amOf f n p) ∧ TRK b [r, w, nm, nd] S (fI T b) T) S := by
  have tk := tk_r0 b [r, w, nm, nd] S
  have hbr := ob_ne ob_ hB.2.1 (by decide)
  delta P_X4_kindOf P_X4_kindOf_0
  obtain ⟨o1, h⟩ := h
  refine ⟨o1, ?_⟩
  intro S2 eS2
  have h := h S2 eS2
  have v9 : fI S2 r 9 = 0 := wI_at eS2
  have ls := ls_val hB ls eS2
  replace tk := tk_w tk eS2 (by simp) hbr
  refine cm_X4_is (sp_X4_is h ls.1.2.1) h (fun x3 S4 hp h g5 b6 => ?_)
  have h := h g5 b6
  obtain ⟨-, hS, hx0⟩ := hp
  subst hS
  refine Iff.mp and_comm ⟨?_, ?_⟩
  · intro c
    have h := h.2 c
    have y := an1 hx0 c
    obtain ⟨o48, h⟩ := h
    refine ⟨o48, ?_⟩
    intro S49 eS49
    have h := h S49 eS49
    have ls := ls_Ik hB ls eS49 ob_ (by decide)
    replace tk := tk_I tk eS49
    refine cm_X4_wordAndWhole (sp_X4_wordAndWhole h ls.1) h (fun x50 S51 hp h g52 b53 => ?_)
    have h := h g52 b53
    obtain ⟨-, F, hc, hv⟩ := hp
    replace tk := tk_R tk F (by simp) hbr
    intro x54 ex54
    have h := h x54 ex54
    intro S55 eS55
    have h := h S55 eS55
    refine ⟨h.1, h.2, ?_⟩
    have e1 : kdOf f n p = 1 := by unfold kdOf; rw [dc_y y]
    have e2 : amOf f n p = pVal f n p := by unfold amOf; rw [dc_y y]
    have e3 : sKind f n p = sPart f n p 18 1 8 := by unfold sKind; rw [dc_y y]
    rw [e1, e2]
    have ke := kd_end hB ob_ ls F hc (le_part ls) (wI_at eS49) hv ex54 eS55 e3
    exact ⟨ke.1, ke.2, tk_self (tk_I tk eS55)⟩
  · intro c
    have h := h.1 c
    have n0 := an0 hx0 c
    refine cm_X4_is (sp_X4_is h ls.1.2.1) h (fun x3 S4 hp h g5 b6 => ?_)
    have h := h g5 b6
    obtain ⟨-, hS, hx1⟩ := hp
    subst hS
    refine Iff.mp and_comm ⟨?_, ?_⟩
    · intro c
      have h := h.2 c
      have y := an1 hx1 c
      obtain ⟨o48, h⟩ := h
      refine ⟨o48, ?_⟩
      intro S49 eS49
      have h := h S49 eS49
      have ls := ls_Ik hB ls eS49 ob_ (by decide)
      replace tk := tk_I tk eS49
      refine cm_X4_wordAndWhole (sp_X4_wordAndWhole h ls.1) h (fun x50 S51 hp h g52 b53 => ?_)
      have h := h g52 b53
      obtain ⟨-, F, hc, hv⟩ := hp
      replace tk := tk_R tk F (by simp) hbr
      intro x54 ex54
      have h := h x54 ex54
      intro S55 eS55
      have h := h S55 eS55
      refine ⟨h.1, h.2, ?_⟩
      have e1 : kdOf f n p = 2 := by unfold kdOf; rw [dc_n n0, dc_y y]
      have e2 : amOf f n p = pVal f n p := by unfold amOf; rw [dc_n n0, dc_y y]
      have e3 : sKind f n p = sPart f n p 19 0 999 := by unfold sKind; rw [dc_n n0, dc_y y]
      rw [e1, e2]
      have ke := kd_end hB ob_ ls F hc (le_part ls) (wI_at eS49) hv ex54 eS55 e3
      exact ⟨ke.1, ke.2, tk_self (tk_I tk eS55)⟩
    · intro c
      have h := h.1 c
      have n1 := an0 hx1 c
      refine cm_X4_is (sp_X4_is h ls.1.2.1) h (fun x3 S4 hp h g5 b6 => ?_)
      have h := h g5 b6
      obtain ⟨-, hS, hx2⟩ := hp
      subst hS
      refine Iff.mp and_comm ⟨?_, ?_⟩
      · intro c
        have h := h.2 c
        have y := an1 hx2 c
        obtain ⟨o48, h⟩ := h
        refine ⟨o48, ?_⟩
        intro S49 eS49
        have h := h S49 eS49
        have ls := ls_Ik hB ls eS49 ob_ (by decide)
        replace tk := tk_I tk eS49
        refine cm_X4_wordAndWhole (sp_X4_wordAndWhole h ls.1) h (fun x50 S51 hp h g52 b53 => ?_)
        have h := h g52 b53
        obtain ⟨-, F, hc, hv⟩ := hp
        replace tk := tk_R tk F (by simp) hbr
        intro x54 ex54
        have h := h x54 ex54
        intro S55 eS55
        have h := h S55 eS55
        refine ⟨h.1, h.2, ?_⟩
        have e1 : kdOf f n p = 3 := by unfold kdOf; rw [dc_n n0, dc_n n1, dc_y y]
        have e2 : amOf f n p = pVal f n p := by unfold amOf; rw [dc_n n0, dc_n n1, dc_y y]
        have e3 : sKind f n p = sPart f n p 20 1 99 := by unfold sKind; rw [dc_n n0, dc_n n1, dc_y y]
        rw [e1, e2]
        have ke := kd_end hB ob_ ls F hc (le_part ls) (wI_at eS49) hv ex54 eS55 e3
        exact ⟨ke.1, ke.2, tk_self (tk_I tk eS55)⟩
      · intro c
        have h := h.1 c
        have n2 := an0 hx2 c
        obtain ⟨o18, h⟩ := h
        refine ⟨o18, ?_⟩
        intro S19 eS19
        have h := h S19 eS19
        have v9 : fI S19 r 9 = 0 := by rw [eS19]; exact (u2_ne _ _ (fun q => hbr q.1.symm)).trans v9
        have ls := ls_Ik hB ls eS19 ob_ (by decide)
        replace tk := tk_I tk eS19
        refine cm_X4_word (sp_X4_word h ls.1) (sp9_X4_word h ls.1) (fun x20 S21 hp h9 g22 b23 => ?_)
        have h := h9.1 g22 b23
        obtain ⟨-, F, hc⟩ := hp
        replace tk := tk_R tk F (by simp) hbr
        intro x24 ex24
        have h := h x24 ex24
        intro S25 eS25
        have h := h S25 eS25
        refine ⟨h.1, h.2, ?_⟩
        have e1 : kdOf f n p = 0 := by unfold kdOf; rw [dc_n n0, dc_n n1, dc_n n2]
        have e2 : amOf f n p = 0 := by unfold amOf; rw [dc_n n0, dc_n n1, dc_n n2]
        have e3 : sKind f n p = sWord f n p 21 := by unfold sKind; rw [dc_n n0, dc_n n1, dc_n n2]
        rw [e1, e2]
        have ke := kd_end hB ob_ ls F hc (le_word ls) (wI_at eS19) (fun _ => h9.2.trans v9) ex24 eS25 e3
        exact ⟨ke.1, ke.2, tk_self (tk_I tk eS25)⟩
set_option maxHeartbeats 2000000 in
theorem sq_X4_bodyOf {b : Nat} {kd : Nat} {am lh : Int32} (hB : BFa a r w nm nd B) (ob_ : ob B b 6) (h : P_X4_bodyOf r b Q S) (ls : LnS f n a r w nm nd B A p S) (k0 : fI S b 0 = nI kd) (k1 : fI S b 1 = am) (hkd : kd ≤ 3) (hlh : lh = if kd = 1 then am + 1 else 1) : P_X4_bodyOf r b (fun x T => Q x T ∧ LnB f n a r w nm nd B (sBody f n p lh) A x T ∧ (x = 1 → TRK b [r, w, nm, nd] S (shR (fI S b) (pVal f n p) (pVal f n (e2 f n p)) (pVal f n (e2 f n (e2 f n p))) (if kd = 1 then am else 0)) T)) S := by
  have hbr := ob_ne ob_ hB.2.1 (by decide)
  have tk := tk_r0 b [r, w, nm, nd] S
  have b0 := k0
  have b1 := k1
  have K : sBody f n p lh = rb _ _ := rfl
  delta P_X4_bodyOf P_X4_bodyOf_0
  obtain ⟨o1, h⟩ := h
  refine ⟨o1, ?_⟩
  refine cm_X4_wordAndWhole (sp_X4_wordAndWhole h ls.1) h (fun x2 S3 hp h g4 b5 => ?_)
  have h := h g4 b5
  obtain ⟨-, F, hc, hv6⟩ := hp
  replace tk := tk_R tk F (by simp) hbr
  rcases cb_split hB ls F hc K (le_part ls) with ⟨rfl, lb⟩ | ⟨p7, rfl, hRp7, K, ls⟩
  · exact ⟨fun c => absurd rfl c, fun c => ⟨h.2 c, lb _, fun z => absurd z (by decide)⟩⟩
  refine ⟨fun c => ?_, fun c => absurd c (by decide)⟩
  have h := h.1 c
  replace hv6 := hv6 rfl
  replace k0 := (congrFun (F.2.2.2.2.1 b hbr).1 0).trans k0
  replace k1 := (congrFun (F.2.2.2.2.1 b hbr).1 1).trans k1
  intro x8 ex8
  have h := h x8 ex8
  refine cm_X4_wordAndWhole (sp_X4_wordAndWhole h ls.1) h (fun x9 S10 hp h g11 b12 => ?_)
  have h := h g11 b12
  obtain ⟨-, F, hc, hv13⟩ := hp
  replace tk := tk_R tk F (by simp) hbr
  rcases cb_split hB ls F hc K (le_part ls) with ⟨rfl, lb⟩ | ⟨p14, rfl, hRp14, K, ls⟩
  · exact ⟨fun c => absurd rfl c, fun c => ⟨h.2 c, lb _, fun z => absurd z (by decide)⟩⟩
  refine ⟨fun c => ?_, fun c => absurd c (by decide)⟩
  have h := h.1 c
  replace hv13 := hv13 rfl
  replace k0 := (congrFun (F.2.2.2.2.1 b hbr).1 0).trans k0
  replace k1 := (congrFun (F.2.2.2.2.1 b hbr).1 1).trans k1
  intro x15 ex15
  have h := h x15 ex15
  obtain ⟨o16, h⟩ := h
  refine ⟨o16, ?_⟩
  intro x17 ex17
  have h := h x17 ex17
  have fin : ∀ (v2 v3 s0 : Int32), s0 = lh → v2 = pVal f n p → v3 = pVal f n p7 → ∀ (Sx : HS), TRK b [r, w, nm, nd] S (fI S b) Sx → LnS f n a r w nm nd B A p14 Sx → P_X4_bodyOf_58 Q r b v2 v3 s0 Sx → P_X4_bodyOf_58 (fun x T => Q x T ∧ LnB f n a r w nm nd B (sBody f n p lh) A x T ∧ (x = 1 → TRK b [r, w, nm, nd] S (shR (fI S b) (pVal f n p) (pVal f n (e2 f n p)) (pVal f n (e2 f n (e2 f n p))) (if kd = 1 then am else 0)) T)) r b v2 v3 s0 Sx := by
    intro v2 v3 s0 hs0 h2v h3v Sx tk ls h
    subst hs0
    have K := K.trans (rb_id _)
    delta P_X4_bodyOf_58
    obtain ⟨o17, h⟩ := h
    refine ⟨o17, ?_⟩
    refine cm_X4_wordAndWhole (sp_X4_wordAndWhole h ls.1) h (fun x18 S19 hp h g20 b21 => ?_)
    have h := h g20 b21
    obtain ⟨-, F, hc, hvL⟩ := hp
    replace tk := tk_R tk F (by simp) hbr
    rcases cb_split hB ls F hc K (le_part ls) with ⟨rfl, lb⟩ | ⟨p9, rfl, hRp9, K, ls⟩
    · exact ⟨fun c => absurd rfl c, fun c => ⟨h.2 c, lb _, fun z => absurd z (by decide)⟩⟩
    refine ⟨fun c => ?_, fun c => absurd c (by decide)⟩
    have h := h.1 c
    intro x23 ex23
    have h := h x23 ex23
    obtain ⟨o24, h⟩ := h
    refine ⟨o24, ?_⟩
    refine cm_X6_shape (sq_X6_shape (bw := if kd = 1 then am else 0) h ?_) h (fun S25 hp h g26 => ?_)
    · rw [tk.2, b0, b1]
      by_cases hk1 : kd = 1
      · rw [if_pos hk1, if_pos (by rw [hk1]; rfl)]
      · rw [if_neg hk1, if_neg (fun z => hk1 (nI_inj (by omega) (by omega) (z.trans rfl)))]
    have h := h g26
    refine ⟨h, lb_s K rfl (ls_Fr hB ls hp.2.1 ob_ (by decide)), fun _ => ?_⟩
    have q7 := sPart_inl hRp7
    subst q7
    have q14 := sPart_inl hRp14
    subst q14
    have u := hp.2.2
    rw [tk.2] at u
    subst h2v h3v
    have e9 : x23 = pVal f n (e2 f n (e2 f n p)) := ex23.trans (hvL rfl)
    rw [e9] at u
    exact ⟨fun c hc hcb => (u.1 c (by simp) hcb).trans (tk.1 c hc hcb), u.2⟩
  refine ⟨fun c16 => ?_, fun c28 => ?_⟩
  · exact fin _ _ _ (by rw [hlh, if_neg (fun z => c16 (by rw [ex17, k0, z]; rfl))]) (ex8.trans hv6) (ex15.trans hv13) _ tk ls (h.1 c16)
  · have h := h.2 c28
    intro x29 ex29
    have h := h x29 ex29
    refine fin _ _ _ ?_ (ex8.trans hv6) (ex15.trans hv13) _ tk ls h
    rw [hlh, if_pos (nI_inj (by omega) (by omega) (by rw [← k0, ← ex17, c28]; rfl)), ex29, k1]
set_option maxHeartbeats 4000000 in
theorem sq_X4_walkerLine (hB : BFa a r w nm nd B) (h : P_X4_walkerLine r Q S) (ls : LnS f n a r w nm nd B A p S) (hwk : ∀ x b i, fR B w 9 = some b → i < hN B b → fR B b i = some x → ob B x 6) (hlt : aW A < 4) (hm : aM A < 12) : P_X4_walkerLine r (fun x T => Q x T ∧ LnB f n a r w nm nd B (sWalker f n p A) (up4 (upN A (tV f n p) (8 + aW A))) x T ∧ (x = 1 → ObD 9 6 (aW A) 7 r w nm nd (wkC f n p) B S T)) S := by
  have ls0 := ls
  delta P_X4_walkerLine P_X4_walkerLine_0
  obtain ⟨o1, h⟩ := h
  refine ⟨o1, ?_⟩
  obtain ⟨a2, ea2, h⟩ := h
  refine ⟨a2, ea2, ?_⟩
  cases (ls_w hB ls).symm.trans ea2
  obtain ⟨o3, h⟩ := h
  refine ⟨o3, ?_⟩
  obtain ⟨a4, ea4, h⟩ := h
  refine ⟨a4, ea4, ?_⟩
  obtain ⟨a5, ea5, h⟩ := h
  refine ⟨a5, ea5, ?_⟩
  cases (ls_w hB ls).symm.trans ea5
  obtain ⟨o6, h⟩ := h
  refine ⟨o6, ?_⟩
  intro x7 ex7
  have h := h x7 ex7
  obtain ⟨o8, h⟩ := h
  refine ⟨o8, ?_⟩
  obtain ⟨o9, h⟩ := h
  refine ⟨o9, ?_⟩
  obtain ⟨bo, ebo, h⟩ := h
  refine ⟨bo, ebo, ?_⟩
  obtain ⟨a10, ea10, h⟩ := h
  refine ⟨a10, ea10, ?_⟩
  cases (ls_w hB ls).symm.trans ea10
  obtain ⟨o11, h⟩ := h
  refine ⟨o11, ?_⟩
  intro x12 ex12
  have h := h x12 ex12
  have fB := ls.2.2.2.1.2.2.2
  have ob_ : ob B bo 6 := hwk bo a4 _ (by rw [← fB]; exact ea4) (by rw [← ls.2.2.2.1.2.2.1]; exact Nat.not_le.mp (fun z => o9 (Or.inr z))) (by rw [← fB]; exact ebo)
  have hbr := ob_ne ob_ hB.2.1 (by decide)
  have hbm := ob_ne ob_ hB.2.2.2.1 (by decide)
  have hbd := ob_ne ob_ hB.2.2.2.2.1 (by decide)
  have now := ob_ne ob_ hB.2.2.1 (by decide)
  have tk := tk_r0 bo [r, w, nm, nd] S
  have K : sWalker f n p A = rb _ _ := rfl
  refine cm_X4_newName (sp_X4_newName h ls.1 ls.2.1 hm (idn := 8 + aW A) (by rw [ex12, ls.2.2.1.2.2.2.2.1]; exact nI_add 8 (aW A)) (by omega) (ob_ne hB.2.2.2.2.2 hB.2.2.2.1 (by decide)) (ob_ne hB.2.2.2.2.2 hB.2.2.2.2.1 (by decide))) h (fun x5 S6 hp h g7 b8 => ?_)
  have h := h g7 b8
  replace tk := tk_A tk hp.2.1 (by simp) (by simp) (by simp) hbr hbm hbd
  rcases new_split hB ls hp.2 K with ⟨rfl, lb⟩ | ⟨p1, rfl, q1, K, ls⟩
  · exact ⟨fun c => ⟨h.1 c, lb _, fun z => absurd z (by decide)⟩, fun c => absurd rfl c⟩
  refine ⟨fun c => absurd c (by decide), fun c => ?_⟩
  have h := h.2 c
  refine cm_X4_kindOf (sq_X4_kindOf hB ob_ h ls) h (fun x20 S21 hp h g22 b23 => ?_)
  have h := h g22 b23
  obtain ⟨-, lb, hk, tk1⟩ := hp
  replace tk := tk_tr tk tk1
  rcases lb_split lb K with ⟨rfl, lb2⟩ | ⟨p2, rfl, hRp2, K, ls⟩
  · exact ⟨fun c => ⟨h.1 c, lb2 _, fun z => absurd z (by decide)⟩, fun c => absurd rfl c⟩
  refine ⟨fun c => absurd c (by decide), fun c => ?_⟩
  have h := h.2 c
  obtain ⟨k0, k1⟩ := hk rfl
  refine cm_X4_bodyOf (sq_X4_bodyOf hB ob_ h ls k0 k1 (kdOf_le _ _ _) (lh := lhOf f n p1) rfl) h (fun x26 S27 hp h g28 b29 => ?_)
  have h := h g28 b29
  obtain ⟨-, lb, tk2⟩ := hp
  rcases lb_split lb K with ⟨rfl, lb2⟩ | ⟨p3, rfl, hRp3, K, ls⟩
  · exact ⟨fun c => absurd rfl c, fun c => ⟨h.2 c, lb2 _, fun z => absurd z (by decide)⟩⟩
  refine ⟨fun c => ?_, fun c => absurd c (by decide)⟩
  have h := h.1 c
  replace tk := tk_tr tk (tk2 rfl)
  refine cm_X4_wordAndWhole (sp_X4_wordAndWhole h ls.1) h (fun x101 S102 hp h g103 b104 => ?_)
  have h := h g103 b104
  obtain ⟨-, F, hc, hv105⟩ := hp
  replace tk := tk_R tk F (by simp) hbr
  rcases cb_split hB ls F hc K (le_part ls) with ⟨rfl, lb⟩ | ⟨p106, rfl, hRp106, K, ls⟩
  · exact ⟨fun c => absurd rfl c, fun c => ⟨h.2 c, lb _, fun z => absurd z (by decide)⟩⟩
  refine ⟨fun c => ?_, fun c => absurd c (by decide)⟩
  have h := h.1 c
  replace hv105 := hv105 rfl
  intro x107 ex107
  have h := h x107 ex107
  obtain ⟨o108, h⟩ := h
  refine ⟨o108, ?_⟩
  intro T109 eT109
  have h := h T109 eT109
  replace ls := ls_Ik hB ls eT109 ob_ (by decide)
  replace tk := tk_I tk eT109
  intro x110 ex110
  have h := h x110 ex110
  have k5 : x110 = pVal f n p3 := by rw [ex110, wI_at eT109, ex107, hv105]
  subst k5
  replace K := K.trans (rb_id _)
  refine cm_X4_wordAndWhole (sp_X4_wordAndWhole h ls.1) h (fun x111 S112 hp h g113 b114 => ?_)
  have h := h g113 b114
  obtain ⟨-, F, hc, hv115⟩ := hp
  replace tk := tk_R tk F (by simp) hbr
  rcases cb_split hB ls F hc K (le_part ls) with ⟨rfl, lb⟩ | ⟨p116, rfl, hRp116, K, ls⟩
  · exact ⟨fun c => absurd rfl c, fun c => ⟨h.2 c, lb _, fun z => absurd z (by decide)⟩⟩
  refine ⟨fun c => ?_, fun c => absurd c (by decide)⟩
  have h := h.1 c
  replace hv115 := hv115 rfl
  intro x117 ex117
  have h := h x117 ex117
  intro T118 eT118
  have h := h T118 eT118
  replace ls := ls_Ik hB ls eT118 ob_ (by decide)
  replace tk := tk_I tk eT118
  obtain ⟨a119, ea119, h⟩ := h
  refine ⟨a119, ea119, ?_⟩
  cases (ls_w hB ls).symm.trans ea119
  obtain ⟨o120, h⟩ := h
  refine ⟨o120, ?_⟩
  intro x121 ex121
  have h := h x121 ex121
  intro x122 ex122
  have h := h x122 ex122
  intro T123 eT123
  have h := h T123 eT123
  refine ⟨h, lb_s K rfl (ls_C hB ls eT123 (cn_4 ls.2.2.1 eT123 (inc_ ex121 ls.2.2.1.2.2.2.2.1 ex122)) (ab_4 ls.2.2.2.2 hlt) ⟨rfl, rfl, rfl⟩), fun _ => ?_⟩
  replace tk := tk_w tk eT123 (by simp) now
  have fB := ls0.2.2.2.1.2.2.2
  subst q1
  have q2 := sKind_inl hRp2
  subst q2
  have q3 := sBody_inl hRp3
  subst q3
  have q4 := sPart_inl hRp106
  subst q4
  refine ⟨a4, bo, by rw [← fB]; exact ea4, ?_, ob_, tk.1, ?_⟩
  · rw [← fB, ← nI_cl (p := aW A) (by omega), ← ex7.trans ls0.2.2.1.2.2.2.2.1]
    exact ebo
  · intro j hj
    rw [tk.2]
    match j, hj with
    | 0, _ => simpa [va_up, wkC, shR] using k0
    | 1, _ => simpa [va_up, wkC, shR] using k1
    | 2, _ => simp [va_up, wkC, shR, bowOf]
    | 3, _ => simp [va_up, wkC, shR, bowOf]
    | 4, _ => simp [va_up, wkC, shR, bowOf]
    | 5, _ => simpa [va_up, wkC, shR] using ex107.trans hv105
    | 6, _ => simpa [va_up, wkC, shR, e2] using ex117.trans hv115
    | j + 7, hj => exact absurd hj (by omega)
end Ct2
/-! the place and seen lines: what they write -/
section Ct3
variable {f : Nat → Int32} {n a r w nm nd p : Nat} {A : AS} {B S T : HS} {Q : Int32 → HS → Prop}
def dripOf (k : Nat) (v : Int32) : Int32 := if k = 1 then 0 else if k = 2 then v else -1
def Ot (X : List Nat) (S T : HS) : Prop := ∀ b, b ∉ X → fI T b = fI S b
theorem ot_rf (X : List Nat) (S : HS) : Ot X S S := fun _ _ => rfl
theorem ot_R {X : List Nat} {S0 : HS} (t : Ot X S0 S) (F : FrR r S T) (hr : r ∈ X) : Ot X S0 T := fun b hb => (F.2.2.2.2.1 b (fun z => hb (z ▸ hr))).1.trans (t b hb)
theorem ot_A {X : List Nat} {S0 : HS} (t : Ot X S0 S) (F : FrA r nm nd S T) (hr : r ∈ X) (hm : nm ∈ X) (hn : nd ∈ X) : Ot X S0 T := fun b hb => (F.2.2.2.2.1 b (fun z => hb (z ▸ hr)) (fun z => hb (z ▸ hm)) (fun z => hb (z ▸ hn))).1.trans (t b hb)
/-- a place's row -/
def PlD (r w nm nd k : Nat) (v : Int32) (B S T : HS) : Prop := ∃ d, fR B w 7 = some d ∧ ob B d 13 ∧ TRK d [r, w, nm, nd] S (va_up (fI S d) k v) T
theorem bq64 {v1 : Int32} {L : Res} {S0 : HS} (hB : BFa a r w nm nd B) (hd : DSt w nd B) (h : P_X4_placeLine_64 Q r v1 S) (ls : LnS f n a r w nm nd B A p S) (K : L = .inl p) (hlt : aP A < 8) (ot : Ot [r, w, nm, nd] S0 S) : P_X4_placeLine_64 (fun x T => Q x T ∧ LnB f n a r w nm nd B L (up2 A) x T ∧ (x = 1 → PlD r w nm nd (aP A) v1 B S0 T)) r v1 S := by
  have ls0 := ls
  delta P_X4_placeLine_64
  obtain ⟨o20, h⟩ := h
  refine ⟨o20, ?_⟩
  obtain ⟨a21, ea21, h⟩ := h
  refine ⟨a21, ea21, ?_⟩
  cases (ls_w hB ls).symm.trans ea21
  obtain ⟨o22, h⟩ := h
  refine ⟨o22, ?_⟩
  obtain ⟨a23, ea23, h⟩ := h
  refine ⟨a23, ea23, ?_⟩
  obtain ⟨a24, ea24, h⟩ := h
  refine ⟨a24, ea24, ?_⟩
  cases (ls_w hB ls).symm.trans ea24
  obtain ⟨o25, h⟩ := h
  refine ⟨o25, ?_⟩
  intro x26 ex26
  have h := h x26 ex26
  obtain ⟨o27, h⟩ := h
  refine ⟨o27, ?_⟩
  obtain ⟨o28, h⟩ := h
  refine ⟨o28, ?_⟩
  intro S29 eS29
  have h := h S29 eS29
  have ls := ls_13 hB hd ls eS29 (Or.inl rfl) ea23 o27
  obtain ⟨a30, ea30, h⟩ := h
  refine ⟨a30, ea30, ?_⟩
  cases (ls_w hB ls).symm.trans ea30
  obtain ⟨o31, h⟩ := h
  refine ⟨o31, ?_⟩
  intro x32 ex32
  have h := h x32 ex32
  intro x33 ex33
  have h := h x33 ex33
  intro S34 eS34
  have h := h S34 eS34
  refine ⟨h, lb_s K rfl (ls_C hB ls eS34 (cn_2 ls.2.2.1 eS34 (inc_ ex32 ls.2.2.1.2.2.1 ex33)) (ab_2 ls.2.2.2.2 hlt) ⟨rfl, rfl, rfl⟩), fun _ => ?_⟩
  have fB := ls0.2.2.2.1.2.2.2
  have oa := bb_ob ls0.2.2.2.1 o27
  have ea := ea23
  rw [fB] at ea
  have n1 : a23 ≠ r := ob_ne oa hB.2.1 (by decide)
  have n2 : a23 ≠ w := ob_ne oa hB.2.2.1 (by decide)
  have n3 : a23 ≠ nm := ob_ne oa hB.2.2.2.1 (by decide)
  have n4 : a23 ≠ nd := hd 7 a23 (Or.inl rfl) ea
  have e26 : x26.toNatClampNeg = aP A := by rw [ex26.trans ls0.2.2.1.2.2.1]; exact nI_cl (by omega)
  rw [e26] at eS29
  have tk : TRK a23 [r, w, nm, nd] S0 (fI S0 a23) S := ⟨fun b hb _ => ot b hb, ot a23 (by simp [n1, n2, n3, n4])⟩
  exact ⟨a23, ea, oa, tk_w (tk_I tk eS29) eS34 (by simp) n2⟩
set_option maxHeartbeats 2000000 in
theorem sq_X4_placeLine (hB : BFa a r w nm nd B) (hd : DSt w nd B) (h : P_X4_placeLine r Q S) (ls : LnS f n a r w nm nd B A p S) (hlt : aP A < 8) (hm : aM A < 12) : P_X4_placeLine r (fun x T => Q x T ∧ LnB f n a r w nm nd B (sPlace f n p A) (up2 (upN A (tV f n p) (aP A))) x T ∧ (x = 1 → PlD r w nm nd (aP A) (dripOf (plK f n p) (plV f n p)) B S T)) S := by
  have ot := ot_rf [r, w, nm, nd] S
  delta P_X4_placeLine P_X4_placeLine_0
  obtain ⟨o1, h⟩ := h
  refine ⟨o1, ?_⟩
  obtain ⟨a2, ea2, h⟩ := h
  refine ⟨a2, ea2, ?_⟩
  cases (ls_w hB ls).symm.trans ea2
  obtain ⟨o3, h⟩ := h
  refine ⟨o3, ?_⟩
  intro x4 ex4
  have h := h x4 ex4
  have K : sPlace f n p A = rb _ _ := rfl
  refine cm_X4_newName (sp_X4_newName h ls.1 ls.2.1 hm (ex4.trans ls.2.2.1.2.2.1) (by omega) (ob_ne hB.2.2.2.2.2 hB.2.2.2.1 (by decide)) (ob_ne hB.2.2.2.2.2 hB.2.2.2.2.1 (by decide))) h (fun x5 S6 hp h g7 b8 => ?_)
  have h := h g7 b8
  replace ot := ot_A ot hp.2.1 (by simp) (by simp) (by simp)
  rcases new_split hB ls hp.2 K with ⟨rfl, lb⟩ | ⟨p1, rfl, q1, K, ls⟩
  · exact ⟨fun c => absurd rfl c, fun c => ⟨h.2 c, lb _, fun z => absurd z (by decide)⟩⟩
  refine ⟨fun c => ?_, fun c => absurd c (by decide)⟩
  have h := h.1 c
  subst q1
  refine cm_X4_is (sp_X4_is h ls.1.2.1) h (fun x10 S11 hp h g12 b13 => ?_)
  have h := h g12 b13
  obtain ⟨-, hS, hx⟩ := hp
  subst hS
  refine ⟨?_, ?_⟩
  · intro c14
    have h := h.1 c14
    have K := K.trans (dc_n (an0 hx c14))
    refine cm_X4_is (sp_X4_is h ls.1.2.1) h (fun x15 S16 hp h g17 b18 => ?_)
    have h := h g17 b18
    obtain ⟨-, hS, hx2⟩ := hp
    subst hS
    refine ⟨?_, ?_⟩
    · intro c19
      have ev : dripOf (plK f n p) (plV f n p) = -1 := by
        unfold plK plV
        rw [dc_n (an0 hx c14), dc_n (an0 hx2 c19)]
        rfl
      rw [ev]
      exact bq64 hB hd (h.1 c19) ls (K.trans (dc_n (an0 hx2 c19))) hlt ot
    · intro c35
      have h := h.2 c35
      have K := (K.trans (dc_y (an1 hx2 c35))).trans (rb_id _)
      refine cm_X4_wordAndWhole (sp_X4_wordAndWhole h ls.1) h (fun x36 S37 hp h g38 b39 => ?_)
      have h := h g38 b39
      obtain ⟨-, F, hc, hvL⟩ := hp
      replace ot := ot_R ot F (by simp)
      rcases cb_split hB ls F hc K (le_part ls) with ⟨rfl, lb⟩ | ⟨p2, rfl, hRp2, K, ls⟩
      · exact ⟨fun c => absurd rfl c, fun c => ⟨h.2 c, lb _, fun z => absurd z (by decide)⟩⟩
      refine ⟨fun c => ?_, fun c => absurd c (by decide)⟩
      have h := h.1 c
      intro x41 ex41
      have h := h x41 ex41
      have ev : dripOf (plK f n p) (plV f n p) = x41 := by
        unfold plK plV
        rw [dc_n (an0 hx c14), dc_y (an1 hx2 c35), dc_n (an0 hx c14), dc_y (an1 hx2 c35), ex41, hvL rfl]
        rfl
      rw [ev]
      exact bq64 hB hd h ls K hlt ot
  · intro c58
    have h := h.2 c58
    have K := K.trans (dc_y (an1 hx c58))
    refine cm_X4_next (sp_X4_next h ls.1.1 (po_4 ls.1) (le1 ls) (po_0 ls.1)) h (fun S59 hp h g60 => ?_)
    have h := h g60
    have ev : dripOf (plK f n p) (plV f n p) = 0 := by
      unfold plK plV
      rw [dc_y (an1 hx c58)]
      rfl
    rw [ev]
    exact bq64 hB hd h (ls_R hB ls (frR_next hp.2.1) hp.2.2 (le1 ls)) K hlt (ot_R ot (frR_next hp.2.1) (by simp))
theorem nI_sub8 {q : Nat} (h : 8 ≤ q) (h2 : q < 200) : nI q - 8 = nI (q - 8) := by
  have e8 : (8 : Int32).toInt = 8 := by decide
  refine Int32.toInt_inj.mp ?_
  rw [Int32.toInt_sub, nI_i (by omega), nI_i (by omega), e8]
  rw [Int.bmod_eq_of_le (by omega) (by omega)]
  omega
theorem sq_X4_someWalker (h : P_X4_someWalker r Q S) (ls : LnS f n a r w nm nd B A p S) : P_X4_someWalker r (fun x T => Q x T ∧ FrR r S T ∧ CB f n r (sSW f n p A) x T ∧ (x = 1 → fI T r 9 = nI (lkV A (tV f n p) - 8))) S := by
  have po := ls.1
  have lt := na_lt (v := tV f n p) ls.2.1
  delta P_X4_someWalker P_X4_someWalker_0
  obtain ⟨o1, h⟩ := h
  refine ⟨o1, ?_⟩
  refine cm_X4_canBeName (sp_X4_canBeName h po.2.1) h (fun x2 S3 hp h g4 b5 => ?_)
  have h := h g4 b5
  obtain ⟨-, hS, hx⟩ := hp
  subst hS
  refine ⟨?_, ?_⟩
  · intro c6
    have h := h.1 c6
    have ok := an1 hx c6
    refine cm_X4_findName (sp_X4_findName h po.2.1 ls.2.1) h (fun x7 S8 hp h g9 => ?_)
    have h := h g9
    obtain ⟨-, hS, hx7⟩ := hp
    subst hS
    have i8 : (8 : Int32).toInt = 8 := by decide
    refine ⟨?_, ?_⟩
    · intro c10
      have c11 := le_i c10
      have h := h.1 c10
      cases hl : lkr (aV A) (aI A) (tV f n p) (aM A) 0 with
      | none =>
        rw [hx7, hl] at c11
        have : (enc none).toInt = -1 := by decide
        omega
      | some q =>
        have hq := lt q hl
        have i7 : x7.toInt = (q : Int) := by rw [hx7, hl]; exact nI_i (by omega)
        intro x11 ex11
        have h := h x11 ex11
        intro S12 eS12
        have h := h S12 eS12
        have g20 := frR_val eS12
        refine cm_X4_next (sp_X4_next h (ec_R po.1 g20) (by rw [wI_ne eS12 (by decide)]; exact po_4 po) (po_le po) (by rw [wI_ne eS12 (by decide)]; exact po_0 po)) h (fun S13 hp h g14 => ?_)
        have h := h g14
        refine ⟨h, fr_tr g20 (frR_next hp.2.1), ?_, fun _ => ?_⟩
        · rw [sSW_some ok hl, if_neg (by omega)]
          exact ⟨rfl, hp.2.2⟩
        · rw [hp.2.1.2.2.2.2.2.1 9 (by decide), wI_at eS12, ex11, hx7, hl, lkV_of hl]
          exact nI_sub8 (by omega) (by omega)
    · intro c15
      have c16 := nle_i c15
      have h := h.2 c15
      refine cm_X4_fail (sp_X4_fail h) h (fun x16 S17 hp h g18 b19 => ?_)
      have h := h g18 b19
      obtain ⟨q1, q2⟩ := fl_res (k := 2) po.2.1 rfl hp.2
      refine ⟨h.1, h.2, q1, ?_⟩
      cases hl : lkr (aV A) (aI A) (tV f n p) (aM A) 0 with
      | none =>
        have K : sSW f n p A = .inr (2, tSt f n p) := by
          unfold sSW
          rw [dc_y ok, hl]
        rw [K]; exact ⟨q2, fun z => absurd z (by rw [hp.2.1]; decide)⟩
      | some q =>
        have hq := lt q hl
        have i7 : x7.toInt = (q : Int) := by rw [hx7, hl]; exact nI_i (by omega)
        rw [sSW_some ok hl, if_pos (by omega)]
        exact ⟨q2, fun z => absurd z (by rw [hp.2.1]; decide)⟩
  · intro c21
    have h := h.2 c21
    refine cm_X4_fail (sp_X4_fail h) h (fun x22 S23 hp h g24 b25 => ?_)
    have h := h g24 b25
    obtain ⟨q1, q2⟩ := fl_res (k := 1) po.2.1 rfl hp.2
    refine ⟨h.1, h.2, q1, ?_⟩
    unfold sSW
    rw [dc_n (an0 hx c21)]
    exact ⟨q2, fun z => absurd z (by rw [hp.2.1]; decide)⟩
theorem sf_ix : ∀ s, s < 4 → ∀ i, i < 5 → ((nI s * (5 : Int32)) + nI i).toNatClampNeg = 5 * s + i := by decide
def SnT (f : Nat → Int32) (n r w nm nd sw sf s s0 : Nat) (who : Int32) (S0 : HS) (i : Nat) (U : HS) : Prop := (∀ b, b ∉ [r, w, nm, nd] → b ≠ sw → b ≠ sf → fI U b = fI S0 b) ∧ fI U sw = va_up (fI S0 sw) s who ∧ (∀ z, z < 5 * s → fI U sf z = fI S0 sf z) ∧ ∀ k, k < i → fI U sf (5 * s + k) = (tV f n (snP f n k s0)).toInt32
def SnW (B : HS) (w sw sf : Nat) : Prop := fR B w 10 = some sw ∧ fR B w 11 = some sf ∧ sw ≠ sf ∧ ob B sw 13 ∧ ob B sf 13
def snQ (f : Nat → Int32) (n s0 i p' : Nat) : Prop := (i = 0 → p' = s0) ∧ (0 < i → p' = tEn f n (snP f n (i - 1) s0))
theorem sn_step {sw sf s s0 i j : Nat} {who v : Int32} {S0 U V : HS} (hd : DSt w nd B) (hB : BFa a r w nm nd B) (hw : SnW B w sw sf) (h : SnT f n r w nm nd sw sf s s0 who S0 i S) (F : FrR r S T) (e : U = sI T sf (5 * s + i) v) (hv : v = (tV f n (snP f n i s0)).toInt32) : SnT f n r w nm nd sw sf s s0 who S0 (i + 1) U := by
  obtain ⟨w1, w2, w3, w4, w5⟩ := hw
  obtain ⟨h1, h2, h3, h4⟩ := h
  have n1 : sf ≠ r := ob_ne w5 hB.2.1 (by decide)
  have m1 : sw ≠ r := ob_ne w4 hB.2.1 (by decide)
  have rf := (F.2.2.2.2.1 sf n1).1
  have ru := row_I e
  rw [rf] at ru
  refine ⟨fun b hb hb1 hb2 => ?_, ?_, fun z hz => ?_, fun k hk => ?_⟩
  · rw [row_o e hb2, (F.2.2.2.2.1 b (fun z => hb (by rw [z]; simp))).1]
    exact h1 b hb hb1 hb2
  · rw [row_o e w3, (F.2.2.2.2.1 sw m1).1]
    exact h2
  · rw [ru, va_up_ne _ _ (by omega)]
    exact h3 z hz
  · rw [ru]
    by_cases q : k = i
    · rw [q, va_up_self]
      exact hv
    · rw [va_up_ne _ _ (by omega)]
      exact h4 k (by omega)
theorem sn_R {sw sf s s0 i : Nat} {who : Int32} {S0 : HS} (hB : BFa a r w nm nd B) (hw : SnW B w sw sf) (h : SnT f n r w nm nd sw sf s s0 who S0 i S) (F : FrR r S T) : SnT f n r w nm nd sw sf s s0 who S0 i T := by
  obtain ⟨w1, w2, w3, w4, w5⟩ := hw
  obtain ⟨h1, h2, h3, h4⟩ := h
  have n1 : sf ≠ r := ob_ne w5 hB.2.1 (by decide)
  have m1 : sw ≠ r := ob_ne w4 hB.2.1 (by decide)
  have rf := (F.2.2.2.2.1 sf n1).1
  refine ⟨fun b hb hb1 hb2 => ?_, ?_, fun z hz => ?_, fun k hk => ?_⟩
  · rw [(F.2.2.2.2.1 b (fun z => hb (by rw [z]; simp))).1]
    exact h1 b hb hb1 hb2
  · rw [(F.2.2.2.2.1 sw m1).1]
    exact h2
  · rw [rf]; exact h3 z hz
  · rw [rf]; exact h4 k hk
theorem bq47 {v1 : Int32} {sw sf s0 i : Nat} {who : Int32} {S0 : HS} {Z : HS → Prop} {L : Res} {g : Nat → Res} {X : Nat → Int32 → HS → Prop} {X' : Nat → Int32 → HS → Prop} (hB : BFa a r w nm nd B) (hd : DSt w nd B) (h : P_X4_seenLine_47 Q X r v1 S) (ls : LnS f n a r w nm nd B A p S) (K : L = rb (sWhole f n p 0 999) g) (hw : SnW B w sw sf) (hs4 : aS A < 4) (hi5 : i < 5) (hvi : v1 = nI i) (ps : p = snP f n i s0) (sn : SnT f n r w nm nd sw sf (aS A) s0 who S0 i S) (hX : ∀ (y : Int32) (p' : Nat) (U : HS), y = v1 + 1 → LnS f n a r w nm nd B A p' U → L = g p' → p' = tEn f n (snP f n i s0) → SnT f n r w nm nd sw sf (aS A) s0 who S0 (i + 1) U → X r y U → X' r y U) : P_X4_seenLine_47 (fun x T => Q x T ∧ LnB f n a r w nm nd B L (up5 A) x T ∧ (x = 1 → Z T)) X' r v1 S := by
  delta P_X4_seenLine_47
  obtain ⟨o10, h⟩ := h
  refine ⟨o10, ?_⟩
  refine cm_X4_whole (sp_X4_whole h ls.1) h (fun x11 S12 hp h g13 b14 => ?_)
  have h := h g13 b14
  obtain ⟨-, F, hc, hvL⟩ := hp
  rcases cb_split hB ls F hc K (le_whole ls) with ⟨rfl, lb⟩ | ⟨p1, rfl, hRp1, K, ls⟩
  · exact ⟨fun c => absurd rfl c, fun c => ⟨h.2 c, lb _, fun z => absurd z (by decide)⟩⟩
  refine ⟨fun c => ?_, fun c => absurd c (by decide)⟩
  have h := h.1 c
  obtain ⟨a16, ea16, h⟩ := h
  refine ⟨a16, ea16, ?_⟩
  cases (ls_w hB ls).symm.trans ea16
  obtain ⟨o17, h⟩ := h
  refine ⟨o17, ?_⟩
  obtain ⟨a18, ea18, h⟩ := h
  refine ⟨a18, ea18, ?_⟩
  obtain ⟨a19, ea19, h⟩ := h
  refine ⟨a19, ea19, ?_⟩
  cases (ls_w hB ls).symm.trans ea19
  obtain ⟨o20, h⟩ := h
  refine ⟨o20, ?_⟩
  intro x21 ex21
  have h := h x21 ex21
  intro x22 ex22
  have h := h x22 ex22
  obtain ⟨o23, h⟩ := h
  refine ⟨o23, ?_⟩
  obtain ⟨o24, h⟩ := h
  refine ⟨o24, ?_⟩
  intro S25 eS25
  have h := h S25 eS25
  intro x26 ex26
  have h := h x26 ex26
  have ls' := ls_13 hB hd ls eS25 (Or.inr (Or.inr rfl)) ea18 o23
  have esf : a18 = sf := by
    have z := ea18
    rw [ls.2.2.2.1.2.2.2, hw.2.1] at z
    cases z
    rfl
  subst esf
  have e21 : ((x21 * (5 : Int32)) + v1).toNatClampNeg = 5 * aS A + i := by rw [ex21.trans ls.2.2.1.2.2.2.2.2, hvi]; exact sf_ix _ hs4 _ hi5
  rw [e21] at eS25
  exact hX _ p1 _ ex26 ls' K (by rw [sWhole_inl hRp1, ps]) (sn_step (i := i) (j := 0) (V := S) hd hB hw sn F eS25 (by rw [ex22, hvL rfl, ps])) h
set_option maxHeartbeats 2000000 in
theorem lq30 {L : Res} {sw sf s0 : Nat} {who : Int32} {S0 : HS} {v0 : Nat} {v1 : Int32} (hB : BFa a r w nm nd B) (hd : DSt w nd B) (hlt : aS A < 4) (hw : SnW B w sw sf) (h : P_X4_seenLine_30 Q v0 v1 S) (hi : ∃ i p', r = v0 ∧ i ≤ 5 ∧ v1 = nI i ∧ LnS f n a r w nm nd B A p' S ∧ L = sFc f n (5 - i) i p' ∧ snQ f n s0 i p' ∧ SnT f n r w nm nd sw sf (aS A) s0 who S0 i S) : P_X4_seenLine_30 (fun x T => Q x T ∧ LnB f n a r w nm nd B L (up5 A) x T ∧ (x = 1 → SnT f n r w nm nd sw sf (aS A) s0 who S0 5 T)) v0 v1 S := by
  refine h (fun v0 v1 S => (∃ i p', r = v0 ∧ i ≤ 5 ∧ v1 = nI i ∧ LnS f n a r w nm nd B A p' S ∧ L = sFc f n (5 - i) i p' ∧ snQ f n s0 i p' ∧ SnT f n r w nm nd sw sf (aS A) s0 who S0 i S) → P_X4_seenLine_30 (fun x T => Q x T ∧ LnB f n a r w nm nd B L (up5 A) x T ∧ (x = 1 → SnT f n r w nm nd sw sf (aS A) s0 who S0 5 T)) v0 v1 S) ?_ hi
  intro v0 v1 S h hi
  obtain ⟨i, p', rfl, hi5, hv1, ls, K, ps, sn⟩ := hi
  have e5 : (5 : Int32).toInt = 5 := by decide
  have e0 : (0 : Int32).toInt = 0 := by decide
  have ei : v1.toInt = (i : Int) := by rw [hv1]; exact nI_i (by omega)
  refine fd_X4_seenLine_30 ?_
  delta B_X4_seenLine_30
  refine ⟨?_, ?_⟩
  · intro c1
    have := le_i c1
    have h := h.1 c1
    have hi : i = 5 := by omega
    rw [hi, Nat.sub_self] at K
    obtain ⟨o2, h⟩ := h
    refine ⟨o2, ?_⟩
    obtain ⟨a3, ea3, h⟩ := h
    refine ⟨a3, ea3, ?_⟩
    cases (ls_w hB ls).symm.trans ea3
    obtain ⟨o4, h⟩ := h
    refine ⟨o4, ?_⟩
    intro x5 ex5
    have h := h x5 ex5
    intro x6 ex6
    have h := h x6 ex6
    intro S7 eS7
    have h := h S7 eS7
    refine ⟨h, lb_s K rfl (ls_C hB ls eS7 (cn_5 ls.2.2.1 eS7 (inc_ ex5 ls.2.2.1.2.2.2.2.2 ex6)) (ab_5 ls.2.2.2.2 hlt) ⟨rfl, rfl, rfl⟩), fun _ => ?_⟩
    have nw1 : sw ≠ w := ob_ne hw.2.2.2.1 hB.2.2.1 (by decide)
    have nw2 : sf ≠ w := ob_ne hw.2.2.2.2 hB.2.2.1 (by decide)
    rw [hi] at sn
    exact ⟨fun b hb hb1 hb2 => (row_o eS7 (fun z => hb (by rw [z]; simp))).trans (sn.1 b hb hb1 hb2), (row_o eS7 nw1).trans sn.2.1, fun z hz => by rw [row_o eS7 nw2]; exact sn.2.2.1 z hz, fun k hk => by rw [row_o eS7 nw2]; exact sn.2.2.2 k hk⟩
  · intro c8
    have := nle_i c8
    have h := h.2 c8
    have hs : 5 - i = (4 - i) + 1 := by omega
    rw [hs] at K
    have nx : ∀ (y : Int32) (p' : Nat) (U : HS), y = v1 + 1 → LnS f n a r w nm nd B A p' U → L = sFc f n (4 - i) (i + 1) p' → p' = tEn f n (snP f n i s0) → SnT f n r w nm nd sw sf (aS A) s0 who S0 (i + 1) U → ((∃ i p', r = r ∧ i ≤ 5 ∧ y = nI i ∧ LnS f n a r w nm nd B A p' U ∧ L = sFc f n (5 - i) i p' ∧ snQ f n s0 i p' ∧ SnT f n r w nm nd sw sf (aS A) s0 who S0 i U) → P_X4_seenLine_30 (fun x T => Q x T ∧ LnB f n a r w nm nd B L (up5 A) x T ∧ (x = 1 → SnT f n r w nm nd sw sf (aS A) s0 who S0 5 T)) r y U) → P_X4_seenLine_30 (fun x T => Q x T ∧ LnB f n a r w nm nd B L (up5 A) x T ∧ (x = 1 → SnT f n r w nm nd sw sf (aS A) s0 who S0 5 T)) r y U := by
      intro y p' U ey ls K pq sn h
      exact h ⟨i + 1, p', rfl, by omega, by rw [ey, hv1]; exact nI_1 i, ls, by rw [show 5 - (i + 1) = 4 - i by omega]; exact K, ⟨fun z => absurd z (by omega), fun _ => by rw [pq, Nat.add_sub_cancel]⟩, sn⟩
    refine ⟨?_, ?_⟩
    · intro c9
      have := le_i c9
      have h := h.1 c9
      have hi : i = 0 := by omega
      refine bq47 hB hd h ls (g := fun p => sFc f n (4 - i) (i + 1) p) (rb_l (p := p') K ?_) hw hlt (by omega) hv1 (by rw [ps.1 hi, hi]; rfl) sn nx
      rw [if_pos hi]
    · intro c28
      have := nle_i c28
      have h := h.2 c28
      obtain ⟨o29, h⟩ := h
      refine ⟨o29, ?_⟩
      have K2 : L = rb (sSign f n p' 4) fun p => rb (sWhole f n p 0 999) fun p => sFc f n (4 - i) (i + 1) p := by
        rw [K]
        show rb (if i = 0 then .inl p' else sSign f n p' 4) _ = _
        rw [if_neg (by omega)]
      refine cm_X4_sign (sp_X4_sign h ls.1 (k := 4) rfl (by omega)) h (fun x30 S31 hp h g32 b33 => ?_)
      have h := h g32 b33
      obtain ⟨-, F, hc⟩ := hp
      rcases cb_split hB ls F hc K2 (le_sign ls) with ⟨rfl, lb⟩ | ⟨p1, rfl, hR, K3, ls⟩
      · exact ⟨fun c => ⟨h.1 c, lb _, fun z => absurd z (by decide)⟩, fun c => absurd rfl c⟩
      refine ⟨fun c => absurd c (by decide), fun c => ?_⟩
      have h := h.2 c
      refine bq47 hB hd h ls K3 hw hlt (by omega) hv1 ?_ (sn_R hB hw sn F) nx
      rw [sSign_inl hR, ps.2 (by omega)]
      obtain ⟨i0, hi0⟩ : ∃ i0, i = i0 + 1 := ⟨i - 1, by omega⟩
      subst hi0
      rfl
theorem sSW_inl {p' : Nat} (h : sSW f n p A = .inl p') : p' = tEn f n p := by
  unfold sSW at h
  by_cases hk : nmOk f n p
  · rw [dc_y hk] at h
    cases hl : lkr (aV A) (aI A) (tV f n p) (aM A) 0 with
    | none => rw [hl] at h; cases h
    | some q =>
      rw [hl] at h
      have h : (if q < 8 then (.inr (2, tSt f n p) : Res) else .inl (tEn f n p)) = .inl p' := h
      split at h
      · cases h
      · cases h; rfl
  · rw [dc_n hk] at h; cases h
theorem sq_X4_seenLine {sw sf : Nat} (hB : BFa a r w nm nd B) (hd : DSt w nd B) (hlt : aS A < 4) (hw : SnW B w sw sf) (h : P_X4_seenLine r Q S) (ls : LnS f n a r w nm nd B A p S) : P_X4_seenLine r (fun x T => Q x T ∧ LnB f n a r w nm nd B (sSeen f n p A) (up5 A) x T ∧ (x = 1 → SnT f n r w nm nd sw sf (aS A) (tEn f n p) (nI (lkV A (tV f n p) - 8)) S 5 T)) S := by
  have K : sSeen f n p A = rb _ _ := rfl
  delta P_X4_seenLine P_X4_seenLine_0
  obtain ⟨o1, h⟩ := h
  refine ⟨o1, ?_⟩
  refine cm_X4_someWalker (sq_X4_someWalker h ls) h (fun x2 S3 hp h g4 b5 => ?_)
  have h := h g4 b5
  obtain ⟨-, F, hc, hvW⟩ := hp
  rcases cb_split hB ls F hc K (le_sw ls) with ⟨rfl, lb⟩ | ⟨p1, rfl, hRp1, K, ls⟩
  · exact ⟨fun c => absurd rfl c, fun c => ⟨h.2 c, lb _, fun z => absurd z (by decide)⟩⟩
  refine ⟨fun c => ?_, fun c => absurd c (by decide)⟩
  have h := h.1 c
  obtain ⟨a7, ea7, h⟩ := h
  refine ⟨a7, ea7, ?_⟩
  cases (ls_w hB ls).symm.trans ea7
  obtain ⟨o8, h⟩ := h
  refine ⟨o8, ?_⟩
  obtain ⟨a9, ea9, h⟩ := h
  refine ⟨a9, ea9, ?_⟩
  obtain ⟨a10, ea10, h⟩ := h
  refine ⟨a10, ea10, ?_⟩
  cases (ls_w hB ls).symm.trans ea10
  obtain ⟨o11, h⟩ := h
  refine ⟨o11, ?_⟩
  intro x12 ex12
  have h := h x12 ex12
  intro x13 ex13
  have h := h x13 ex13
  obtain ⟨o14, h⟩ := h
  refine ⟨o14, ?_⟩
  obtain ⟨o15, h⟩ := h
  refine ⟨o15, ?_⟩
  intro S16 eS16
  have h := h S16 eS16
  have fB := ls.2.2.2.1.2.2.2
  have esw : a9 = sw := by
    have z := ea9
    rw [fB, hw.1] at z
    cases z
    rfl
  subst esw
  have n1 : a9 ≠ r := ob_ne hw.2.2.2.1 hB.2.1 (by decide)
  have n2 : sf ≠ r := ob_ne hw.2.2.2.2 hB.2.1 (by decide)
  have e12 : x12.toNatClampNeg = aS A := by rw [ex12.trans ls.2.2.1.2.2.2.2.2]; exact nI_cl (by omega)
  have eT := eS16
  rw [e12] at eT
  have q1 := sSW_inl hRp1
  subst q1
  have sn : SnT f n r w nm nd a9 sf (aS A) (tEn f n p) (nI (lkV A (tV f n p) - 8)) S 0 S16 := by
    refine ⟨fun b hb hb1 hb2 => ?_, ?_, fun z hz => ?_, fun k hk => absurd hk (by omega)⟩
    · rw [row_o eT hb1, (F.2.2.2.2.1 b (fun z => hb (by rw [z]; simp))).1]
    · rw [row_I eT, (F.2.2.2.2.1 a9 n1).1, ex13, hvW rfl]
    · rw [row_o eT (Ne.symm hw.2.2.1), (F.2.2.2.2.1 sf n2).1]
  exact lq30 hB hd hlt hw h ⟨0, tEn f n p, rfl, by omega, nI_0.symm, ls_13 hB hd ls eS16 (Or.inr (Or.inl rfl)) ea9 o14, K, ⟨fun _ => rfl, fun z => absurd z (by omega)⟩, sn⟩
end Ct3
end
section
/-! all that was told: kept from line to line -/
abbrev GC : Type := (Nat → Nat → Int32) × (Nat → Nat) × (Nat → Int32) × (Nat → Nat → Int32) × (Nat → Nat → Int32) × (Nat → Nat → Int32)
def gRn (G : GC) : Nat → Nat → Int32 := G.1
def gPk (G : GC) : Nat → Nat := G.2.1
def gPv (G : GC) : Nat → Int32 := G.2.2.1
def gRd (G : GC) : Nat → Nat → Int32 := G.2.2.2.1
def gWk (G : GC) : Nat → Nat → Int32 := G.2.2.2.2.1
def gSn (G : GC) : Nat → Nat → Int32 := G.2.2.2.2.2
def gu1 (G : GC) (k : Nat) (c : Nat → Int32) : GC := (va_up (gRn G) k c, G.2)
def gu2 (G : GC) (k q : Nat) (v : Int32) : GC := (G.1, va_up (gPk G) k q, va_up (gPv G) k v, G.2.2.2)
def gu3 (G : GC) (k : Nat) (c : Nat → Int32) : GC := (G.1, G.2.1, G.2.2.1, va_up (gRd G) k c, G.2.2.2.2)
def gu4 (G : GC) (k : Nat) (c : Nat → Int32) : GC := (G.1, G.2.1, G.2.2.1, G.2.2.2.1, va_up (gWk G) k c, G.2.2.2.2.2)
def gu5 (G : GC) (k : Nat) (c : Nat → Int32) : GC := (G.1, G.2.1, G.2.2.1, G.2.2.2.1, G.2.2.2.2.1, va_up (gSn G) k c)
noncomputable def gLn (f : Nat → Int32) (n p : Nat) (A : AS) (G : GC) : GC := dc (isW f n p 0) G (dc (isW f n p 2) (gu1 G (aHs A) (rnC f n (tEn f n p))) (dc (isW f n p 11) (gu2 G (aP A) (plK f n (tEn f n p)) (plV f n (tEn f n p))) (dc (isW f n p 12) (gu3 G (aR A) (rdC f n (tEn f n p) A)) (dc (isW f n p 13) (gu4 G (aW A) (wkC f n (tEn f n p))) (gu5 G (aS A) (snC f n (tEn f n p) A))))))
/-- behind a line, what was told in all -/
def gAft (f : Nat → Int32) (n : Nat) (G0 G1 : GC) (g : Nat → GC) (L : Res) : GC := match L with
  | .inr _ => G0
  | .inl p1 => if tS f n p1 = 0 then G1 else (match sSign f n p1 3 with
    | .inr _ => G0
    | .inl p2 => g p2)
noncomputable def gAll (f : Nat → Int32) (n : Nat) : Nat → Nat → AS → GC → GC
  | 0, _, _, G => G
  | k + 1, p, A, G => gAft f n G (gLn f n p A G) (fun p2 => gAll f n k p2 (aLn f n p A) (gLn f n p A G)) (sLn f n p A)
def ElC (fl N w cnt : Nat) (g : Nat → Nat → Int32) (B S : HS) : Prop := ∀ ra, fR B w fl = some ra → ∀ h, h < cnt → ∃ o, fR B ra h = some o ∧ ∀ j, j < N → fI S o j = g h j
def DrC (w : Nat) (A : AS) (G : GC) (B S : HS) : Prop := ∀ d, fR B w 7 = some d → ∀ i, i < aP A → fI S d i = dripOf (gPk G i) (gPv G i)
def SnCt (w : Nat) (A : AS) (G : GC) (B S : HS) : Prop := ∀ sw sf, fR B w 10 = some sw → fR B w 11 = some sf → ∀ i, i < aS A → fI S sw i = gSn G i 0 ∧ ∀ k, k < 5 → fI S sf (5 * i + k) = gSn G i (k + 1)
def CtB (w : Nat) (A : AS) (G : GC) (B S : HS) : Prop := ElC 6 5 w (aHs A) (gRn G) B S ∧ DrC w A G B S ∧ ElC 8 5 w (aR A) (gRd G) B S ∧ ElC 9 7 w (aW A) (gWk G) B S ∧ SnCt w A G B S
/-- the things of a world: there, of their kinds, each another -/
def WKd (w : Nat) (B : HS) : Prop := (∀ q ∈ ([(6, 3, 6), (8, 5, 12), (9, 6, 4)] : List (Nat × Nat × Nat)), ∃ ra, fR B w q.1 = some ra ∧ (∀ i o, i < q.2.2 → fR B ra i = some o → ob B o q.2.1) ∧ ∀ i j o, i < q.2.2 → j < q.2.2 → fR B ra i = some o → fR B ra j = some o → i = j) ∧ (∀ fl ∈ ([7, 10, 11] : List Nat), ∃ d, fR B w fl = some d ∧ ob B d 13) ∧ ∀ f1 f2 d, f1 ∈ ([7, 10, 11] : List Nat) → f2 ∈ ([7, 10, 11] : List Nat) → fR B w f1 = some d → fR B w f2 = some d → f1 = f2
section Ct4
variable {f : Nat → Int32} {n a r w nm nd p fl k N cnt M : Nat} {A : AS} {G : GC} {B S T : HS} {c : Nat → Int32} {g : Nat → Nat → Int32}
theorem wk_el (hW : WKd w B) {q : Nat × Nat × Nat} (hq : q ∈ ([(6, 3, 6), (8, 5, 12), (9, 6, 4)] : List (Nat × Nat × Nat))) {ra i o : Nat} (h1 : fR B w q.1 = some ra) (h2 : i < q.2.2) (h3 : fR B ra i = some o) : ob B o q.2.1 := by
  obtain ⟨ra', e, k, -⟩ := hW.1 q hq
  cases e.symm.trans h1
  exact k i o h2 h3
theorem wk_inj (hW : WKd w B) {q : Nat × Nat × Nat} (hq : q ∈ ([(6, 3, 6), (8, 5, 12), (9, 6, 4)] : List (Nat × Nat × Nat))) {ra i j o : Nat} (h1 : fR B w q.1 = some ra) (h2 : i < q.2.2) (h2' : j < q.2.2) (h3 : fR B ra i = some o) (h4 : fR B ra j = some o) : i = j := by
  obtain ⟨ra', e, -, k⟩ := hW.1 q hq
  cases e.symm.trans h1
  exact k i j o h2 h2' h3 h4
theorem wk_d (hW : WKd w B) {d : Nat} (hq : fl ∈ ([7, 10, 11] : List Nat)) (h1 : fR B w fl = some d) : ob B d 13 := by
  obtain ⟨d', e, k⟩ := hW.2.1 fl hq
  cases e.symm.trans h1
  exact k
/-- not one of the reader's own few -/
theorem nx4 (hB : BFa a r w nm nd B) {b q : Nat} (o : ob B b q) (hq : q = 3 ∨ q = 5 ∨ q = 6) : b ∉ [r, w, nm, nd] := by
  have n1 := ob_ne o hB.2.1 (by omega)
  have n2 := ob_ne o hB.2.2.1 (by omega)
  have n3 := ob_ne o hB.2.2.2.1 (by omega)
  have n4 := ob_ne o hB.2.2.2.2.1 (by omega)
  simp [n1, n2, n3, n4]
theorem nx4d (hB : BFa a r w nm nd B) (hd : DSt w nd B) (hW : WKd w B) {b : Nat} (hq : fl ∈ ([7, 10, 11] : List Nat)) (h1 : fR B w fl = some b) : b ∉ [r, w, nm, nd] := by
  have o := wk_d hW hq h1
  have n1 := ob_ne o hB.2.1 (by omega)
  have n2 := ob_ne o hB.2.2.1 (by omega)
  have n3 := ob_ne o hB.2.2.2.1 (by omega)
  have n4 := hd fl b (by simpa using hq) h1
  simp [n1, n2, n3, n4]
theorem el_keep (h : ElC fl N w cnt g B S) (hk : ∀ ra i o, fR B w fl = some ra → i < cnt → fR B ra i = some o → fI T o = fI S o) : ElC fl N w cnt g B T := by
  intro ra e i hi
  obtain ⟨o, h1, h2⟩ := h ra e i hi
  exact ⟨o, h1, fun j hj => by rw [hk ra i o e hi h1]; exact h2 j hj⟩
theorem el_add (hB : BFa a r w nm nd B) (hW : WKd w B) (hq : (fl, k, M) ∈ ([(6, 3, 6), (8, 5, 12), (9, 6, 4)] : List (Nat × Nat × Nat))) (hk : k = 3 ∨ k = 5 ∨ k = 6) (hc : cnt < M) (h : ElC fl N w cnt g B S) (D : ObD fl k cnt N r w nm nd c B S T) : ElC fl N w (cnt + 1) (va_up g cnt c) B T := by
  intro ra e i hi
  obtain ⟨ra', o, d1, d2, d3, d4, d5⟩ := D
  cases d1.symm.trans e
  by_cases hi2 : i = cnt
  · subst hi2
    exact ⟨o, d2, fun j hj => by rw [va_up_self]; exact d5 j hj⟩
  · obtain ⟨o', h1, h2⟩ := h ra e i (by omega)
    have ne : o' ≠ o := fun z => hi2 (wk_inj hW hq e (by show i < M; omega) hc h1 (z ▸ d2))
    have ok := wk_el hW hq e (by show i < M; omega) h1
    exact ⟨o', h1, fun j hj => by rw [va_up_ne _ _ hi2, d4 o' (nx4 hB ok hk) ne]; exact h2 j hj⟩
/-- another row of things than the one that is written -/
theorem el_oth {fl' k' M' : Nat} (hB : BFa a r w nm nd B) (hW : WKd w B) (hq : (fl', k', M') ∈ ([(6, 3, 6), (8, 5, 12), (9, 6, 4)] : List (Nat × Nat × Nat))) (hk : k' = 3 ∨ k' = 5 ∨ k' = 6) (hne : k' ≠ k) (hc : cnt ≤ M') (h : ElC fl' N w cnt g B S) {o : Nat} (d3 : ob B o k) (d4 : ∀ b, b ∉ [r, w, nm, nd] → b ≠ o → fI T b = fI S b) : ElC fl' N w cnt g B T :=
  el_keep h (fun ra i o' e hi h1 => by
    have ok := wk_el hW hq e (by show i < M'; omega) h1
    exact d4 o' (nx4 hB ok hk) (ob_ne ok d3 hne))
theorem dr_oth (hB : BFa a r w nm nd B) (hd : DSt w nd B) (hW : WKd w B) (h : DrC w A G B S) {o : Nat} (ne : ∀ d, fR B w 7 = some d → d ≠ o) (d4 : ∀ b, b ∉ [r, w, nm, nd] → b ≠ o → fI T b = fI S b) : DrC w A G B T := by
  intro d e i hi
  rw [d4 d (nx4d hB hd hW (by decide) e) (ne d e)]
  exact h d e i hi
theorem sn_oth (hB : BFa a r w nm nd B) (hd : DSt w nd B) (hW : WKd w B) (h : SnCt w A G B S) {o : Nat} (ne : ∀ fl ∈ ([10, 11] : List Nat), ∀ d, fR B w fl = some d → d ≠ o) (d4 : ∀ b, b ∉ [r, w, nm, nd] → b ≠ o → fI T b = fI S b) : SnCt w A G B T := by
  intro sw sf e1 e2 i hi
  rw [d4 sw (nx4d hB hd hW (by decide) e1) (ne 10 (by decide) sw e1), d4 sf (nx4d hB hd hW (by decide) e2) (ne 11 (by decide) sf e2)]
  exact h sw sf e1 e2 i hi
theorem ne_d13 (hW : WKd w B) {o : Nat} (o3 : ob B o k) (hk : k ≠ 13) : ∀ fl ∈ ([7, 10, 11] : List Nat), ∀ d, fR B w fl = some d → d ≠ o := fun fl hf d e => ob_ne (wk_d hW hf e) o3 (Ne.symm hk)
theorem ct_rain (hB : BFa a r w nm nd B) (hd : DSt w nd B) (hW : WKd w B) (ab : ABd A) (hc : aHs A < 6) (h : CtB w A G B S) (D : ObD 6 3 (aHs A) 5 r w nm nd c B S T) : CtB w (up1 A) (gu1 G (aHs A) c) B T := by
  obtain ⟨h1, h2, h3, h4, h5⟩ := h
  have D' := D
  obtain ⟨ra, o, d1, d2, d3, d4, d5⟩ := D'
  have ne := ne_d13 hW d3 (by decide)
  exact ⟨el_add hB hW (by decide) (by decide) hc h1 D, dr_oth hB hd hW h2 (ne 7 (by decide)) d4, el_oth hB hW (k' := 5) (M' := 12) (by decide) (by decide) (by decide) ab.2.2.2.1 h3 d3 d4, el_oth hB hW (k' := 6) (M' := 4) (by decide) (by decide) (by decide) ab.2.2.2.2.1 h4 d3 d4, sn_oth hB hd hW h5 (fun fl hf => ne fl (List.mem_cons_of_mem _ hf)) d4⟩
theorem ct_road (hB : BFa a r w nm nd B) (hd : DSt w nd B) (hW : WKd w B) (ab : ABd A) (hc : aR A < 12) (h : CtB w A G B S) (D : ObD 8 5 (aR A) 5 r w nm nd c B S T) : CtB w (up3 A) (gu3 G (aR A) c) B T := by
  obtain ⟨h1, h2, h3, h4, h5⟩ := h
  have D' := D
  obtain ⟨ra, o, d1, d2, d3, d4, d5⟩ := D'
  have ne := ne_d13 hW d3 (by decide)
  exact ⟨el_oth hB hW (k' := 3) (M' := 6) (by decide) (by decide) (by decide) ab.2.1 h1 d3 d4, dr_oth hB hd hW h2 (ne 7 (by decide)) d4, el_add hB hW (by decide) (by decide) hc h3 D, el_oth hB hW (k' := 6) (M' := 4) (by decide) (by decide) (by decide) ab.2.2.2.2.1 h4 d3 d4, sn_oth hB hd hW h5 (fun fl hf => ne fl (List.mem_cons_of_mem _ hf)) d4⟩
theorem ct_walk {v : Int64} {i : Nat} (hB : BFa a r w nm nd B) (hd : DSt w nd B) (hW : WKd w B) (ab : ABd A) (hc : aW A < 4) (h : CtB w A G B S) (D : ObD 9 6 (aW A) 7 r w nm nd c B S T) : CtB w (up4 (upN A v i)) (gu4 G (aW A) c) B T := by
  obtain ⟨h1, h2, h3, h4, h5⟩ := h
  have D' := D
  obtain ⟨ra, o, d1, d2, d3, d4, d5⟩ := D'
  have ne := ne_d13 hW d3 (by decide)
  exact ⟨el_oth hB hW (k' := 3) (M' := 6) (by decide) (by decide) (by decide) ab.2.1 h1 d3 d4, dr_oth hB hd hW h2 (ne 7 (by decide)) d4, el_oth hB hW (k' := 5) (M' := 12) (by decide) (by decide) (by decide) ab.2.2.2.1 h3 d3 d4, el_add hB hW (by decide) (by decide) hc h4 D, sn_oth hB hd hW h5 (fun fl hf => ne fl (List.mem_cons_of_mem _ hf)) d4⟩
theorem ct_place {v : Int64} {i q : Nat} {x : Int32} (hB : BFa a r w nm nd B) (hd : DSt w nd B) (hW : WKd w B) (ab : ABd A) (h : CtB w A G B S) (D : PlD r w nm nd (aP A) (dripOf q x) B S T) : CtB w (up2 (upN A v i)) (gu2 G (aP A) q x) B T := by
  obtain ⟨h1, h2, h3, h4, h5⟩ := h
  obtain ⟨d, d1, d3, d4, d5⟩ := D
  refine ⟨el_oth hB hW (k' := 3) (M' := 6) (by decide) (by decide) (by decide) ab.2.1 h1 d3 d4, ?_, el_oth hB hW (k' := 5) (M' := 12) (by decide) (by decide) (by decide) ab.2.2.2.1 h3 d3 d4, el_oth hB hW (k' := 6) (M' := 4) (by decide) (by decide) (by decide) ab.2.2.2.2.1 h4 d3 d4, sn_oth hB hd hW h5 (fun fl hf e he z => ?_) d4⟩
  · intro d' e i' hi
    cases d1.symm.trans e
    have hi : i' < aP A + 1 := hi
    rw [d5]
    show va_up (fI S d) (aP A) (dripOf q x) i' = dripOf (va_up (gPk G) (aP A) q i') (va_up (gPv G) (aP A) x i')
    by_cases z : i' = aP A
    · rw [z, va_up_self, va_up_self, va_up_self]
    · rw [va_up_ne _ _ z, va_up_ne _ _ z, va_up_ne _ _ z]
      exact h2 d e i' (by omega)
  · have := hW.2.2 fl 7 d (List.mem_cons_of_mem _ hf) (by decide) (z ▸ he) d1
    rw [this] at hf
    exact absurd hf (by decide)
theorem ct_seen {sw sf : Nat} (hB : BFa a r w nm nd B) (hd : DSt w nd B) (hW : WKd w B) (ab : ABd A) (hs : SnW B w sw sf) (h : CtB w A G B S) (D : SnT f n r w nm nd sw sf (aS A) (tEn f n p) (nI (lkV A (tV f n p) - 8)) S 5 T) : CtB w (up5 A) (gu5 G (aS A) (snC f n p A)) B T := by
  obtain ⟨h1, h2, h3, h4, h5⟩ := h
  obtain ⟨d1, d2, d3, d4⟩ := D
  obtain ⟨w1, w2, w3, w4, w5⟩ := hs
  have e6 : ∀ ra i o, fR B w 6 = some ra → i < aHs A → fR B ra i = some o → fI T o = fI S o := fun ra i o e hi he => by
    have ok := wk_el hW (q := (6, 3, 6)) (by decide) e (by show i < 6; exact Nat.lt_of_lt_of_le hi ab.2.1) he
    exact d1 o (nx4 hB ok (by decide)) (ob_ne ok w4 (by decide)) (ob_ne ok w5 (by decide))
  have e8 : ∀ ra i o, fR B w 8 = some ra → i < aR A → fR B ra i = some o → fI T o = fI S o := fun ra i o e hi he => by
    have ok := wk_el hW (q := (8, 5, 12)) (by decide) e (by show i < 12; exact Nat.lt_of_lt_of_le hi ab.2.2.2.1) he
    exact d1 o (nx4 hB ok (by decide)) (ob_ne ok w4 (by decide)) (ob_ne ok w5 (by decide))
  have e9 : ∀ ra i o, fR B w 9 = some ra → i < aW A → fR B ra i = some o → fI T o = fI S o := fun ra i o e hi he => by
    have ok := wk_el hW (q := (9, 6, 4)) (by decide) e (by show i < 4; exact Nat.lt_of_lt_of_le hi ab.2.2.2.2.1) he
    exact d1 o (nx4 hB ok (by decide)) (ob_ne ok w4 (by decide)) (ob_ne ok w5 (by decide))
  refine ⟨el_keep h1 e6, ?_, el_keep h3 e8, el_keep h4 e9, ?_⟩
  · intro d e i hi
    have n1 : d ≠ sw := fun z => absurd (hW.2.2 7 10 d (by decide) (by decide) e (z ▸ w1)) (by decide)
    have n2 : d ≠ sf := fun z => absurd (hW.2.2 7 11 d (by decide) (by decide) e (z ▸ w2)) (by decide)
    rw [d1 d (nx4d hB hd hW (by decide) e) n1 n2]
    exact h2 d e i hi
  · intro sw' sf' e1 e2 i hi
    cases w1.symm.trans e1
    cases w2.symm.trans e2
    have hi : i < aS A + 1 := hi
    show fI T sw i = va_up (gSn G) (aS A) (snC f n p A) i 0 ∧ ∀ k, k < 5 → fI T sf (5 * i + k) = va_up (gSn G) (aS A) (snC f n p A) i (k + 1)
    by_cases z : i = aS A
    · rw [z, va_up_self, d2, va_up_self]
      refine ⟨rfl, fun k hk => ?_⟩
      rw [d4 k hk]
      unfold snC
      rw [if_neg (by omega), Nat.add_sub_cancel]
    · rw [va_up_ne _ _ z, d2, va_up_ne _ _ z]
      refine ⟨(h5 sw sf e1 e2 i (by omega)).1, fun k hk => ?_⟩
      rw [d3 _ (by omega)]
      exact (h5 sw sf e1 e2 i (by omega)).2 k hk
theorem ct_keep (ab : ABd A) (hB : BFa a r w nm nd B) (hd : DSt w nd B) (hW : WKd w B) (h : CtB w A G B S) (d4 : ∀ b, b ∉ [r, w, nm, nd] → fI T b = fI S b) : CtB w A G B T := by
  obtain ⟨h1, h2, h3, h4, h5⟩ := h
  refine ⟨el_keep h1 (fun ra i o e hi he => d4 o (nx4 hB (wk_el hW (q := (6, 3, 6)) (by decide) e (by show i < 6; exact Nat.lt_of_lt_of_le hi ab.2.1) he) (by decide))), ?_, el_keep h3 (fun ra i o e hi he => d4 o (nx4 hB (wk_el hW (q := (8, 5, 12)) (by decide) e (by show i < 12; exact Nat.lt_of_lt_of_le hi ab.2.2.2.1) he) (by decide))), el_keep h4 (fun ra i o e hi he => d4 o (nx4 hB (wk_el hW (q := (9, 6, 4)) (by decide) e (by show i < 4; exact Nat.lt_of_lt_of_le hi ab.2.2.2.2.1) he) (by decide))), ?_⟩
  · intro d e i hi
    rw [d4 d (nx4d hB hd hW (by decide) e)]
    exact h2 d e i hi
  · intro sw sf e1 e2 i hi
    rw [d4 sw (nx4d hB hd hW (by decide) e1), d4 sf (nx4d hB hd hW (by decide) e2)]
    exact h5 sw sf e1 e2 i hi
end Ct4
/-! the whole text, with all that was told -/
section Ct5
variable {f : Nat → Int32} {n a r w nm nd p : Nat} {A : AS} {G : GC} {B S T : HS} {Q : Int32 → HS → Prop}
def RdC (f : Nat → Int32) (n a r w nm nd : Nat) (B : HS) (R : AS ⊕ (Nat × Nat)) (RG : GC) (x : Int32) (T : HS) : Prop := RdB f n a r w nm nd B R x T ∧ ∀ A, R = .inl A → CtB w A RG B T
theorem rdn {R : AS ⊕ (Nat × Nat)} {e : Nat × Nat} {P : AS → Prop} (K : R = .inr e) : ∀ A, R = .inl A → P A := by
  intro A z
  rw [K] at z
  cases z
theorem bq280 {RG : GC} {R : AS ⊕ (Nat × Nat)} (h : P_X4_read_280 Q r S) (ls : LnS f n a r w nm nd B A p S) (K : R = .inr (6, tSt f n p)) : P_X4_read_280 (fun x T => Q x T ∧ RdC f n a r w nm nd B R RG x T) r S := by
  delta P_X4_read_280
  obtain ⟨o74, h⟩ := h
  refine ⟨o74, ?_⟩
  refine cm_X4_fail (sp_X4_fail h) h (fun x75 S76 hp h g77 b78 => ?_)
  have h := h g77 b78
  obtain ⟨-, hx, F, f0, f1⟩ := hp
  refine ⟨fun c => ⟨h.1 c, ⟨rd_f K rfl ⟨by rw [f0]; rfl, by rw [f1]; exact ls.1.2.1.2.1⟩, rdn K⟩⟩, fun c => absurd hx c⟩
set_option maxHeartbeats 2000000 in
theorem bq248 {RG G0 G1 : GC} {k : Nat} {v3 v4 : Int32} {L : Res} {A1 : AS} {R : AS ⊕ (Nat × Nat)} {X X' : Nat → Int32 → HS → Prop} (hB : BFa a r w nm nd B) (h : P_X4_read_248 Q X r v3 v4 S) (lb : LnB f n a r w nm nd B L A1 v4 S) (K : R = aft f n A1 (fun p2 => sAll f n k p2 A1) L) (hd : DSt w nd B) (hW : WKd w B) (ct : v4 = 1 → CtB w A1 G1 B S) (KG : RG = gAft f n G0 G1 (fun p2 => gAll f n k p2 A1 G1) L) (hX : ∀ (p1 p2 : Nat) (y : Int32) (U : HS), L = .inl p1 → sSign f n p1 3 = .inl p2 → y = v3 + 1 → LnS f n a r w nm nd B A1 p2 U → R = sAll f n k p2 A1 → CtB w A1 G1 B U → RG = gAll f n k p2 A1 G1 → X r y U → X' r y U) : P_X4_read_248 (fun x T => Q x T ∧ RdC f n a r w nm nd B R RG x T) X' r v3 v4 S := by
  have hs0 : ∀ q, tS f n q < 100000 := fun q => by have := sS_le f n q; omega
  have e0 : (0 : Int32).toInt = 0 := by decide
  delta P_X4_read_248
  cases L with
  | inr e =>
    have hv : v4 = 0 := lb.1
    refine ⟨fun c => ?_, fun c => absurd hv c⟩
    have h := h.1 c
    delta P_X4_read_295
    exact ⟨fun c => ⟨h.1 c, ⟨rd_f K rfl lb.2, rdn K⟩⟩, fun c => absurd hv c⟩
  | inl p1 =>
    have hv : v4 = 1 := lb.1
    have ls := lb.2
    replace ct := ct hv
    refine ⟨fun c => absurd (c.symm.trans hv) (by decide), fun c => ?_⟩
    have h := h.2 c
    obtain ⟨o56, h⟩ := h
    refine ⟨o56, ?_⟩
    intro x57 ex57
    have h := h x57 ex57
    refine ⟨?_, ?_⟩
    · intro c58
      have h := h.1 c58
      have hn : ¬ tS f n p1 = 0 := fun z => c58 (by rw [ex57, ls.1.2.1.1, z]; rfl)
      have K : R = match sSign f n p1 3 with
        | .inr e => .inr e
        | .inl p2 => sAll f n k p2 A1 := by
        rw [K]
        show (if tS f n p1 = 0 then _ else _) = _
        rw [if_neg hn]
        rfl
      delta P_X4_read_295
      refine ⟨fun c => absurd (c.symm.trans hv) (by decide), fun c => ?_⟩
      have h := h.2 c
      obtain ⟨o61, h⟩ := h
      refine ⟨o61, ?_⟩
      refine cm_X4_sign (sp_X4_sign h ls.1 (k := 3) rfl (by omega)) h (fun x62 S63 hp h g64 b65 => ?_)
      have h := h g64 b65
      obtain ⟨-, F, hc⟩ := hp
      rcases cb_split hB ls F hc (rb_id _) (le_sign ls) with ⟨rfl, lb⟩ | ⟨p2, rfl, hR, -, ls⟩
      · refine ⟨fun c => absurd rfl c, fun c => ⟨h.2 c, ?_⟩⟩
        have lb := lb A1
        cases hR : sSign f n p1 3 with
        | inl p2 => rw [hR] at lb; exact absurd lb.1 (by decide)
        | inr e =>
          rw [hR] at lb K
          exact ⟨rd_f K rfl lb.2, rdn K⟩
      · refine ⟨fun c => ?_, fun c => absurd c (by decide)⟩
        have h := h.1 c
        intro x67 ex67
        have h := h x67 ex67
        refine hX p1 p2 _ _ rfl hR ex67 ls (by rw [K, hR]) (ct_keep ls.2.2.2.2 hB hd hW ct (fun b hb => (F.2.2.2.2.1 b (fun z => hb (by rw [z]; simp))).1)) ?_ h
        rw [KG]
        show (if tS f n p1 = 0 then G1 else _) = _
        rw [if_neg hn, hR]
    · intro c69
      have h := h.2 c69
      have hn : tS f n p1 = 0 := nI_inj (hs0 _) (by omega) (by rw [← ls.1.2.1.1, ← ex57, c69]; rfl)
      have K : R = if 0 < aP A1 ∧ 0 < aW A1 then .inl A1 else .inr (6, tSt f n p1) := by
        rw [K]
        show (if tS f n p1 = 0 then _ else _) = _
        rw [if_pos hn]
      have hab := ls.2.2.2.2
      obtain ⟨a70, ea70, h⟩ := h
      refine ⟨a70, ea70, ?_⟩
      cases (ls_w hB ls).symm.trans ea70
      obtain ⟨o71, h⟩ := h
      refine ⟨o71, ?_⟩
      intro x72 ex72
      have h := h x72 ex72
      have i72 : x72.toInt = (aP A1 : Int) := by rw [ex72, ls.2.2.1.2.2.1]; exact nI_i (by have := hab.2.2.1; omega)
      refine ⟨?_, ?_⟩
      · intro c73
        have := le_i c73
        exact bq280 (h.1 c73) ls (by rw [K, if_neg (by omega)])
      · intro c81
        have := nle_i c81
        have h := h.2 c81
        obtain ⟨a82, ea82, h⟩ := h
        refine ⟨a82, ea82, ?_⟩
        cases (ls_w hB ls).symm.trans ea82
        obtain ⟨o83, h⟩ := h
        refine ⟨o83, ?_⟩
        intro x84 ex84
        have h := h x84 ex84
        have i84 : x84.toInt = (aW A1 : Int) := by rw [ex84, ls.2.2.1.2.2.2.2.1]; exact nI_i (by have := hab.2.2.2.2.1; omega)
        refine ⟨?_, ?_⟩
        · intro c85
          have := lt_i c85
          refine ⟨h.1 c85, ?_⟩
          rw [K, if_pos (by omega)]
          refine ⟨⟨rfl, p1, ls⟩, fun A2 z => ?_⟩
          cases z
          have : RG = G1 := by
            rw [KG]
            show (if tS f n p1 = 0 then G1 else _) = _
            rw [if_pos hn]
          rw [this]
          exact ct
        · intro c86
          have := nlt_i c86
          exact bq280 (h.2 c86) ls (by rw [K, if_neg (by omega)])
theorem lb_x1 {L : Res} {x : Int32} (lb : LnB f n a r w nm nd B L A x T) (c : ¬ x = 0) : x = 1 := by
  cases L with
  | inl p => exact lb.1
  | inr e => exact absurd lb.1 c
def Inq8 (f : Nat → Int32) (n a r w nm nd : Nat) (B : HS) (R : AS ⊕ (Nat × Nat)) (RG : GC) (v0 : Nat) (v3 : Int32) (S : HS) : Prop := ∃ (i p : Nat) (A : AS) (G : GC), r = v0 ∧ v3 = nI i ∧ i ≤ p ∧ LnS f n a r w nm nd B A p S ∧ aM A = aP A + aW A ∧ R = sAll f n (1000 - i) p A ∧ CtB w A G B S ∧ RG = gAll f n (1000 - i) p A G
theorem wl_X4_worldLine (h : P_X4_worldLine r Q S) (hw : fR S r 5 = some w) : P_X4_worldLine r (fun x T => Q x T ∧ ∀ b, b ≠ r → b ≠ w → fI T b = fI S b) S := by
  delta P_X4_worldLine P_X4_worldLine_0
  obtain ⟨o1, h⟩ := h
  refine ⟨o1, ?_⟩
  obtain ⟨a2, ea2, h⟩ := h
  refine ⟨a2, ea2, ?_⟩
  obtain ⟨o3, h⟩ := h
  refine ⟨o3, ?_⟩
  refine cm_X8_isTold (kz_X8_isTold h) h (fun x4 S5 hp h g6 b7 => ?_)
  have h := h g6 b7
  refine ⟨?_, ?_⟩
  · intro c8
    have h := h.1 c8
    refine cm_X4_next (kv_X4_next h) h (fun S9 hq h g10 => ?_)
    have h := h g10
    refine cm_X4_wordAndWhole (kv_X4_wordAndWhole h) h (fun x11 S12 hr h g13 b14 => ?_)
    have h := h g13 b14
    have fr : fR S12 = fR S := hr.2.1.trans (hq.2.1.trans hp.2.1)
    have fi : ∀ b, b ≠ r → fI S12 b = fI S b := fun b hb => (hr.2.2 b hb).trans ((hq.2.2 b hb).trans (congrFun hp.2.2 b))
    refine ⟨?_, ?_⟩
    · intro c15
      have h := h.1 c15
      obtain ⟨a16, ea16, h⟩ := h
      refine ⟨a16, ea16, ?_⟩
      have z := ea16
      rw [fr] at z
      cases hw.symm.trans z
      intro x17 ex17
      have h := h x17 ex17
      obtain ⟨o18, h⟩ := h
      refine ⟨o18, ?_⟩
      intro S19 eS19
      have h := h S19 eS19
      exact ⟨h, fun b h1 h2 => (row_o eS19 h2).trans (fi b h1)⟩
    · intro c20
      exact ⟨h.2 c20, fun b h1 _ => fi b h1⟩
  · intro c21
    have h := h.2 c21
    refine cm_X4_fail (kv_X4_fail h) h (fun x22 S23 hq h g24 b25 => ?_)
    have h := h g24 b25
    exact ⟨h.1, h.2, fun b h1 _ => (hq.2.2 b h1).trans (congrFun hp.2.2 b)⟩
theorem sq_X4_worldLine (hB : BFa a r w nm nd B) (h : P_X4_worldLine r Q S) (ls : LnS f n a r w nm nd B A p S) : P_X4_worldLine r (fun x T => Q x T ∧ LnB f n a r w nm nd B (sWorld f n p A) (up0 A (tV f n (tEn f n (tEn f n p))).toInt32.toNatClampNeg) x T ∧ ∀ b, b ∉ [r, w, nm, nd] → fI T b = fI S b) S :=
  cm_X4_worldLine (sp_X4_worldLine hB h ls) (wl_X4_worldLine h (ls_w hB ls)) (fun x T h1 h2 => ⟨h1.1, h1.2, fun b hb => h2.2 b (fun z => hb (by rw [z]; simp)) (fun z => hb (by rw [z]; simp))⟩)
set_option maxHeartbeats 8000000 in
theorem lqR8 {RG : GC} {R : AS ⊕ (Nat × Nat)} {v0 : Nat} {v3 : Int32} (hB : BFa a r w nm nd B) (hd : DSt w nd B) (hW : WKd w B) (hwk : ∀ x b i, fR B w 9 = some b → i < hN B b → fR B b i = some x → ob B x 6) (h : P_X4_read_8 Q v0 v3 S) (hi : Inq8 f n a r w nm nd B R RG v0 v3 S) : P_X4_read_8 (fun x T => Q x T ∧ RdC f n a r w nm nd B R RG x T) v0 v3 S := by
  refine h (fun v0 v3 S => Inq8 f n a r w nm nd B R RG v0 v3 S → P_X4_read_8 (fun x T => Q x T ∧ RdC f n a r w nm nd B R RG x T) v0 v3 S) ?_ hi
  intro v0 v3 S h hi
  obtain ⟨i, p, A, G, rfl, hv3, hip, ls, hEq, K, ct, KG⟩ := hi
  have ab := ls.2.2.2.2
  have hp9 := ls.1.2.2
  have hab := ls.2.2.2.2
  obtain ⟨hb0, hb1, hb2, hb3, hb4, hb5⟩ := hab
  have e9 : (900 : Int32).toInt = 900 := by decide
  have ei : v3.toInt = (i : Int) := by rw [hv3]; exact nI_i (by omega)
  have hk : 1000 - i = (999 - i) + 1 := by omega
  rw [hk] at K KG
  have K : R = aft f n (aLn f n p A) (fun p2 => sAll f n (999 - i) p2 (aLn f n p A)) (sLn f n p A) := K
  have KG : RG = gAft f n G (gLn f n p A G) (fun p2 => gAll f n (999 - i) p2 (aLn f n p A) (gLn f n p A G)) (sLn f n p A) := KG
  have nx : ∀ (p1 p2 : Nat) (y : Int32) (U : HS), sLn f n p A = .inl p1 → sSign f n p1 3 = .inl p2 → y = v3 + 1 → LnS f n a r w nm nd B (aLn f n p A) p2 U → R = sAll f n (999 - i) p2 (aLn f n p A) → CtB w (aLn f n p A) (gLn f n p A G) B U → RG = gAll f n (999 - i) p2 (aLn f n p A) (gLn f n p A G) → (Inq8 f n a r w nm nd B R RG r y U → P_X4_read_8 (fun x T => Q x T ∧ RdC f n a r w nm nd B R RG x T) r y U) → P_X4_read_8 (fun x T => Q x T ∧ RdC f n a r w nm nd B R RG x T) r y U := by
    intro p1 p2 y U hL hS ey ls K ct KG h
    have g1 := ge_ln p1 hL
    have g2 : p1 < p2 := by
      rw [sSign_inl hS]
      refine tEn_sg (k := 3) ?_ (Or.inl rfl)
      unfold sSign at hS
      split at hS
      · assumption
      · cases hS
    exact h ⟨i + 1, p2, aLn f n p A, gLn f n p A G, rfl, by rw [ey, hv3]; exact nI_1 i, by omega, ls, eq_ln hEq, by rw [show 1000 - (i + 1) = 999 - i by omega]; exact K, ct, by rw [show 1000 - (i + 1) = 999 - i by omega]; exact KG⟩
  have go : ∀ (x : Int32) (U : HS), LnB f n a r w nm nd B (sLn f n p A) (aLn f n p A) x U → (x = 1 → CtB w (aLn f n p A) (gLn f n p A G) B U) → P_X4_read_248 Q (fun v0 v3 S => Inq8 f n a r w nm nd B R RG v0 v3 S → P_X4_read_8 (fun x T => Q x T ∧ RdC f n a r w nm nd B R RG x T) v0 v3 S) r v3 x U → P_X4_read_248 (fun x T => Q x T ∧ RdC f n a r w nm nd B R RG x T) (P_X4_read_8 (fun x T => Q x T ∧ RdC f n a r w nm nd B R RG x T)) r v3 x U := fun x U lb ct h => bq248 hB h lb K hd hW ct KG nx
  refine fd_X4_read_8 ?_
  delta B_X4_read_8
  refine ⟨?_, ?_⟩
  · intro c1
    have := lt_i c1
    omega
  intro c8
  have h := h.2 c8
  obtain ⟨o9, h⟩ := h
  refine ⟨o9, ?_⟩
  refine cm_X4_is (sp_X4_is h ls.1.2.1) h (fun x3 S4 hp h g5 b6 => ?_)
  have h := h g5 b6
  obtain ⟨-, hS, hx0⟩ := hp
  subst hS
  refine Iff.mp and_comm ⟨?_, ?_⟩
  · intro c
    have h := h.2 c
    have y := an1 hx0 c
    have eA : aLn f n p A = up0 A (tV f n (tEn f n (tEn f n p))).toInt32.toNatClampNeg := by unfold aLn; rw [dc_y y]
    have eL : sLn f n p A = sWorld f n p A := by unfold sLn; rw [dc_y y]
    refine cm_X4_worldLine (sq_X4_worldLine hB h ls) h (fun x84 S82 hp h g b => ?_)
    have h := h g b
    have eG : gLn f n p A G = G := by unfold gLn; rw [dc_y y]
    exact go _ _ (by rw [eL, eA]; exact hp.2.1) (fun z => by rw [eA, eG]; exact ct_keep (A := A) ab hB hd hW ct hp.2.2) h
  · intro c
    have h := h.1 c
    have n0 := an0 hx0 c
    refine cm_X4_is (sp_X4_is h ls.1.2.1) h (fun x3 S4 hp h g5 b6 => ?_)
    have h := h g5 b6
    obtain ⟨-, hS, hx1⟩ := hp
    subst hS
    refine Iff.mp and_comm ⟨?_, ?_⟩
    · intro c
      have h := h.2 c
      have y := an1 hx1 c
      have eA : aLn f n p A = up1 A := by unfold aLn; rw [dc_n n0, dc_y y]
      have eL : sLn f n p A = rb (sRoom f n p (aH A) (aHs A) 6) fun p => sRain f n p := by unfold sLn; rw [dc_n n0, dc_y y]
      obtain ⟨a32, ea32, h⟩ := h
      refine ⟨a32, ea32, ?_⟩
      cases (ls_w hB ls).symm.trans ea32
      obtain ⟨o33, h⟩ := h
      refine ⟨o33, ?_⟩
      intro x33 ex33
      have h := h x33 ex33
      refine cm_X4_hasRoom (sp_X4_hasRoom hB h ls (count := aHs A) (room := 6) (ex33.trans ls.2.2.1.2.1) rfl (by omega) (by omega)) (kv_X4_hasRoom h) (fun x36 S34 hp hkv g b => ?_)
      have h := hkv.1
      have ct := ct_keep ab hB hd hW ct (fun b hb => hkv.2.2 b (fun z => hb (by rw [z]; simp)))
      have h := h g b
      have lb1 := hp.2
      rcases lb_split lb1 eL with ⟨hz, lb2⟩ | ⟨p1, hz, hR, eL2, ls⟩
      · refine ⟨fun c => ?_, fun c => absurd hz c⟩
        exact go 0 _ (lb2 _) (fun z => absurd z (by decide)) (h.1 c)
      obtain ⟨ep, hlt, hh⟩ := sRoom_inl hR
      refine ⟨fun c => absurd (c.symm.trans hz) (by decide), fun c => ?_⟩
      have h := h.2 c
      refine cm_X4_rainLine (sq_X4_rainLine hB h ls hlt) h (fun x40 S38 hp h g b => ?_)
      have h := h g b
      have lb3 : LnB f n a r w nm nd B (sLn f n p A) (aLn f n p A) x40 S38 := by rw [eL2, eA]; exact hp.2.1
      have eG : gLn f n p A G = gu1 G (aHs A) (rnC f n (tEn f n p)) := by unfold gLn; rw [dc_n n0, dc_y y]
      have ct3 : x40 = 1 → CtB w (aLn f n p A) (gLn f n p A G) B S38 := fun z => by
        rw [eA, eG]
        subst ep
        exact ct_rain hB hd hW ab hlt ct (hp.2.2 z)
      exact ⟨fun c => go 0 _ (lb_zero lb3 c) (fun z => absurd z (by decide)) (h.1 c), fun c => go 1 _ (lb_one lb3 c) (fun _ => ct3 (lb_x1 lb3 c)) (h.2 c)⟩
    · intro c
      have h := h.1 c
      have n1 := an0 hx1 c
      refine cm_X4_is (sp_X4_is h ls.1.2.1) h (fun x3 S4 hp h g5 b6 => ?_)
      have h := h g5 b6
      obtain ⟨-, hS, hx2⟩ := hp
      subst hS
      refine Iff.mp and_comm ⟨?_, ?_⟩
      · intro c
        have h := h.2 c
        have y := an1 hx2 c
        have eA : aLn f n p A = up2 (upN A (tV f n (tEn f n p)) (aP A)) := by unfold aLn; rw [dc_n n0, dc_n n1, dc_y y]
        have eL : sLn f n p A = rb (sRoom f n p (aH A) (aP A) 8) fun p => sPlace f n p A := by unfold sLn; rw [dc_n n0, dc_n n1, dc_y y]
        obtain ⟨a32, ea32, h⟩ := h
        refine ⟨a32, ea32, ?_⟩
        cases (ls_w hB ls).symm.trans ea32
        obtain ⟨o33, h⟩ := h
        refine ⟨o33, ?_⟩
        intro x33 ex33
        have h := h x33 ex33
        refine cm_X4_hasRoom (sp_X4_hasRoom hB h ls (count := aP A) (room := 8) (ex33.trans ls.2.2.1.2.2.1) rfl (by omega) (by omega)) (kv_X4_hasRoom h) (fun x36 S34 hp hkv g b => ?_)
        have h := hkv.1
        have ct := ct_keep ab hB hd hW ct (fun b hb => hkv.2.2 b (fun z => hb (by rw [z]; simp)))
        have h := h g b
        have lb1 := hp.2
        rcases lb_split lb1 eL with ⟨hz, lb2⟩ | ⟨p1, hz, hR, eL2, ls⟩
        · refine ⟨fun c => ?_, fun c => absurd hz c⟩
          exact go 0 _ (lb2 _) (fun z => absurd z (by decide)) (h.1 c)
        obtain ⟨ep, hlt, hh⟩ := sRoom_inl hR
        refine ⟨fun c => absurd (c.symm.trans hz) (by decide), fun c => ?_⟩
        have h := h.2 c
        refine cm_X4_placeLine (sq_X4_placeLine hB hd h ls hlt (by omega)) h (fun x40 S38 hp h g b => ?_)
        have h := h g b
        have lb3 : LnB f n a r w nm nd B (sLn f n p A) (aLn f n p A) x40 S38 := by rw [eL2, eA, ← ep]; exact hp.2.1
        have eG : gLn f n p A G = gu2 G (aP A) (plK f n (tEn f n p)) (plV f n (tEn f n p)) := by unfold gLn; rw [dc_n n0, dc_n n1, dc_y y]
        have ct3 : x40 = 1 → CtB w (aLn f n p A) (gLn f n p A G) B S38 := fun z => by
          rw [eA, eG]
          subst ep
          exact ct_place hB hd hW ab ct (hp.2.2 z)
        exact ⟨fun c => go 0 _ (lb_zero lb3 c) (fun z => absurd z (by decide)) (h.1 c), fun c => go 1 _ (lb_one lb3 c) (fun _ => ct3 (lb_x1 lb3 c)) (h.2 c)⟩
      · intro c
        have h := h.1 c
        have n2 := an0 hx2 c
        refine cm_X4_is (sp_X4_is h ls.1.2.1) h (fun x3 S4 hp h g5 b6 => ?_)
        have h := h g5 b6
        obtain ⟨-, hS, hx3⟩ := hp
        subst hS
        refine Iff.mp and_comm ⟨?_, ?_⟩
        · intro c
          have h := h.2 c
          have y := an1 hx3 c
          have eA : aLn f n p A = up3 A := by unfold aLn; rw [dc_n n0, dc_n n1, dc_n n2, dc_y y]
          have eL : sLn f n p A = rb (sRoom f n p (aH A) (aR A) 12) fun p => sRoad f n p A := by unfold sLn; rw [dc_n n0, dc_n n1, dc_n n2, dc_y y]
          obtain ⟨a32, ea32, h⟩ := h
          refine ⟨a32, ea32, ?_⟩
          cases (ls_w hB ls).symm.trans ea32
          obtain ⟨o33, h⟩ := h
          refine ⟨o33, ?_⟩
          intro x33 ex33
          have h := h x33 ex33
          refine cm_X4_hasRoom (sp_X4_hasRoom hB h ls (count := aR A) (room := 12) (ex33.trans ls.2.2.1.2.2.2.1) rfl (by omega) (by omega)) (kv_X4_hasRoom h) (fun x36 S34 hp hkv g b => ?_)
          have h := hkv.1
          have ct := ct_keep ab hB hd hW ct (fun b hb => hkv.2.2 b (fun z => hb (by rw [z]; simp)))
          have h := h g b
          have lb1 := hp.2
          rcases lb_split lb1 eL with ⟨hz, lb2⟩ | ⟨p1, hz, hR, eL2, ls⟩
          · refine ⟨fun c => ?_, fun c => absurd hz c⟩
            exact go 0 _ (lb2 _) (fun z => absurd z (by decide)) (h.1 c)
          obtain ⟨ep, hlt, hh⟩ := sRoom_inl hR
          refine ⟨fun c => absurd (c.symm.trans hz) (by decide), fun c => ?_⟩
          have h := h.2 c
          refine cm_X4_roadLine (sq_X4_roadLine hB h ls hlt) h (fun x40 S38 hp h g b => ?_)
          have h := h g b
          have lb3 : LnB f n a r w nm nd B (sLn f n p A) (aLn f n p A) x40 S38 := by rw [eL2, eA]; exact hp.2.1
          have eG : gLn f n p A G = gu3 G (aR A) (rdC f n (tEn f n p) A) := by unfold gLn; rw [dc_n n0, dc_n n1, dc_n n2, dc_y y]
          have ct3 : x40 = 1 → CtB w (aLn f n p A) (gLn f n p A G) B S38 := fun z => by
            rw [eA, eG]
            subst ep
            exact ct_road hB hd hW ab hlt ct (hp.2.2 z)
          exact ⟨fun c => go 0 _ (lb_zero lb3 c) (fun z => absurd z (by decide)) (h.1 c), fun c => go 1 _ (lb_one lb3 c) (fun _ => ct3 (lb_x1 lb3 c)) (h.2 c)⟩
        · intro c
          have h := h.1 c
          have n3 := an0 hx3 c
          refine cm_X4_is (sp_X4_is h ls.1.2.1) h (fun x3 S4 hp h g5 b6 => ?_)
          have h := h g5 b6
          obtain ⟨-, hS, hx4⟩ := hp
          subst hS
          refine Iff.mp and_comm ⟨?_, ?_⟩
          · intro c
            have h := h.2 c
            have y := an1 hx4 c
            have eA : aLn f n p A = up4 (upN A (tV f n (tEn f n p)) (8 + aW A)) := by unfold aLn; rw [dc_n n0, dc_n n1, dc_n n2, dc_n n3, dc_y y]
            have eL : sLn f n p A = rb (sRoom f n p (aH A) (aW A) 4) fun p => sWalker f n p A := by unfold sLn; rw [dc_n n0, dc_n n1, dc_n n2, dc_n n3, dc_y y]
            obtain ⟨a32, ea32, h⟩ := h
            refine ⟨a32, ea32, ?_⟩
            cases (ls_w hB ls).symm.trans ea32
            obtain ⟨o33, h⟩ := h
            refine ⟨o33, ?_⟩
            intro x33 ex33
            have h := h x33 ex33
            refine cm_X4_hasRoom (sp_X4_hasRoom hB h ls (count := aW A) (room := 4) (ex33.trans ls.2.2.1.2.2.2.2.1) rfl (by omega) (by omega)) (kv_X4_hasRoom h) (fun x36 S34 hp hkv g b => ?_)
            have h := hkv.1
            have ct := ct_keep ab hB hd hW ct (fun b hb => hkv.2.2 b (fun z => hb (by rw [z]; simp)))
            have h := h g b
            have lb1 := hp.2
            rcases lb_split lb1 eL with ⟨hz, lb2⟩ | ⟨p1, hz, hR, eL2, ls⟩
            · refine ⟨fun c => ?_, fun c => absurd hz c⟩
              exact go 0 _ (lb2 _) (fun z => absurd z (by decide)) (h.1 c)
            obtain ⟨ep, hlt, hh⟩ := sRoom_inl hR
            refine ⟨fun c => absurd (c.symm.trans hz) (by decide), fun c => ?_⟩
            have h := h.2 c
            refine cm_X4_walkerLine (sq_X4_walkerLine hB h ls hwk hlt (by omega)) h (fun x40 S38 hp h g b => ?_)
            have h := h g b
            have lb3 : LnB f n a r w nm nd B (sLn f n p A) (aLn f n p A) x40 S38 := by rw [eL2, eA, ← ep]; exact hp.2.1
            have eG : gLn f n p A G = gu4 G (aW A) (wkC f n (tEn f n p)) := by unfold gLn; rw [dc_n n0, dc_n n1, dc_n n2, dc_n n3, dc_y y]
            have ct3 : x40 = 1 → CtB w (aLn f n p A) (gLn f n p A G) B S38 := fun z => by
              rw [eA, eG]
              subst ep
              exact ct_walk hB hd hW ab hlt ct (hp.2.2 z)
            exact ⟨fun c => go 0 _ (lb_zero lb3 c) (fun z => absurd z (by decide)) (h.1 c), fun c => go 1 _ (lb_one lb3 c) (fun _ => ct3 (lb_x1 lb3 c)) (h.2 c)⟩
          · intro c
            have h := h.1 c
            have n4 := an0 hx4 c
            refine cm_X4_is (sp_X4_is h ls.1.2.1) h (fun x3 S4 hp h g5 b6 => ?_)
            have h := h g5 b6
            obtain ⟨-, hS, hx5⟩ := hp
            subst hS
            refine Iff.mp and_comm ⟨?_, ?_⟩
            · intro c
              have h := h.2 c
              have y := an1 hx5 c
              have eA : aLn f n p A = up5 A := by unfold aLn; rw [dc_n n0, dc_n n1, dc_n n2, dc_n n3, dc_n n4]
              have eL : sLn f n p A = rb (sRoom f n p (aH A) (aS A) 4) fun p => sSeen f n p A := by unfold sLn; rw [dc_n n0, dc_n n1, dc_n n2, dc_n n3, dc_n n4, dc_y y]
              obtain ⟨a32, ea32, h⟩ := h
              refine ⟨a32, ea32, ?_⟩
              cases (ls_w hB ls).symm.trans ea32
              obtain ⟨o33, h⟩ := h
              refine ⟨o33, ?_⟩
              intro x33 ex33
              have h := h x33 ex33
              refine cm_X4_hasRoom (sp_X4_hasRoom hB h ls (count := aS A) (room := 4) (ex33.trans ls.2.2.1.2.2.2.2.2) rfl (by omega) (by omega)) (kv_X4_hasRoom h) (fun x36 S34 hp hkv g b => ?_)
              have h := hkv.1
              have ct := ct_keep ab hB hd hW ct (fun b hb => hkv.2.2 b (fun z => hb (by rw [z]; simp)))
              have h := h g b
              have lb1 := hp.2
              rcases lb_split lb1 eL with ⟨hz, lb2⟩ | ⟨p1, hz, hR, eL2, ls⟩
              · refine ⟨fun c => ?_, fun c => absurd hz c⟩
                exact go 0 _ (lb2 _) (fun z => absurd z (by decide)) (h.1 c)
              obtain ⟨ep, hlt, hh⟩ := sRoom_inl hR
              refine ⟨fun c => absurd (c.symm.trans hz) (by decide), fun c => ?_⟩
              have h := h.2 c
              obtain ⟨sw, hsw1, hsw2⟩ := hW.2.1 10 (by decide)
              obtain ⟨sf, hsf1, hsf2⟩ := hW.2.1 11 (by decide)
              have hs : SnW B w sw sf := ⟨hsw1, hsf1, fun z => absurd (hW.2.2 10 11 sw (by decide) (by decide) hsw1 (z ▸ hsf1)) (by decide), hsw2, hsf2⟩
              refine cm_X4_seenLine (sq_X4_seenLine hB hd hlt hs h ls) h (fun x40 S38 hp h g b => ?_)
              have h := h g b
              have lb3 : LnB f n a r w nm nd B (sLn f n p A) (aLn f n p A) x40 S38 := by rw [eL2, eA]; exact hp.2.1
              have eG : gLn f n p A G = gu5 G (aS A) (snC f n (tEn f n p) A) := by unfold gLn; rw [dc_n n0, dc_n n1, dc_n n2, dc_n n3, dc_n n4]
              have ct3 : x40 = 1 → CtB w (aLn f n p A) (gLn f n p A G) B S38 := fun z => by
                rw [eA, eG]
                subst ep
                exact ct_seen hB hd hW ab hs ct (hp.2.2 z)
              exact ⟨fun c => go 0 _ (lb_zero lb3 c) (fun z => absurd z (by decide)) (h.1 c), fun c => go 1 _ (lb_one lb3 c) (fun _ => ct3 (lb_x1 lb3 c)) (h.2 c)⟩
            · intro c
              have h := h.1 c
              have n5 := an0 hx5 c
              have eL : sLn f n p A = .inr (1, tSt f n p) := by unfold sLn; rw [dc_n n0, dc_n n1, dc_n n2, dc_n n3, dc_n n4, dc_n n5]
              refine cm_X4_fail (sp_X4_fail h) h (fun x31 S29 hp h g b => ?_)
              have h := h g b
              exact go _ _ (lb_fl (k := 1) ls eL rfl hp.2) (fun z => absurd (hp.2.1.symm.trans z) (by decide)) h
end Ct5
/-! world(n) of the class, with all that was told -/
def G00 : GC := (fun _ _ => 0, fun _ => 0, fun _ => 0, fun _ _ => 0, fun _ _ => 0, fun _ _ => 0)
section Ct6
variable {f : Nat → Int32} {n a r w nm nd c : Nat} {S T : HS} {Q : Int32 → HS → Prop}
theorem ot_X4_open {Q : HS → Prop} {v2 : Int32} (h : P_X4_open r a v2 Q S) (hw : fR S r 5 = some w) : P_X4_open r a v2 (fun T => Q T ∧ fR T = fR (sR S r 2 (some a)) ∧ ∀ b, b ≠ r → b ≠ w → fI T b = fI S b) S := by
  delta P_X4_open P_X4_open_0
  obtain ⟨p1, h⟩ := h
  refine ⟨p1, ?_⟩
  intro S2 e2
  have h := h S2 e2
  obtain ⟨p3, h⟩ := h
  refine ⟨p3, ?_⟩
  intro x4 ex4
  have h := h x4 ex4
  intro S5 e5
  have h := h S5 e5
  intro S6 e6
  have h := h S6 e6
  intro S7 e7
  have h := h S7 e7
  intro S8 e8
  have h := h S8 e8
  intro S9 e9
  have h := h S9 e9
  obtain ⟨a10, ea10, h⟩ := h
  refine ⟨a10, ea10, ?_⟩
  obtain ⟨p11, h⟩ := h
  refine ⟨p11, ?_⟩
  have F9 : Fr [0, 1, 3, 4, 10] [] r S2 S9 := fr_wI (fr_wI (fr_wI (fr_wI (fr_wI (fr_rf _ _ _ _) e5 (by decide)) e6 (by decide)) e7 (by decide)) e8 (by decide)) e9 (by decide)
  have ew : a10 = w := by
    have z := ea10
    rw [F9.2.2.2.1, e2] at z
    have z2 : fR S r 5 = some a10 := (u2_ne (fR S) (b := r) (i := 5) (some a) (fun q => absurd q.2 (by decide))).symm.trans z
    cases hw.symm.trans z2
    rfl
  subst ew
  refine cm_X8_clear (kv_X8_clear h) h (fun S12 hp h g13 => ?_)
  have h := h g13
  refine cm_X4_next (kv_X4_next h) h (fun S14 hq h g15 => ?_)
  have h := h g15
  refine ⟨h, ?_, fun b hb hw => ?_⟩
  · rw [hq.2.1, hp.2.1, F9.2.2.2.1, e2]
  · rw [hq.2.2 b hb, hp.2.2 b hw, (F9.2.2.2.2.1 b hb).1, e2]
    rfl
def WKr (w : Nat) (B : HS) : Prop := ∀ fl ∈ ([6, 8, 9] : List Nat), ∀ ra, fR B w fl = some ra → 17 ≤ hK B ra ∧ ra ∈ hL B
/-- the things of a world stay what they are, if no joint of theirs is moved -/
theorem wk_mv (hW : WKd w S) (hr : WKr w S) (g : Gr S T) (h1 : ∀ j, fR T w j = fR S w j) (h2 : ∀ ra, ra ∈ hL S → 17 ≤ hK S ra → ∀ i, fR T ra i = fR S ra i) : WKd w T ∧ WKr w T := by
  refine ⟨⟨fun q hq => ?_, fun fl hf => ?_, fun f1 f2 d a1 a2 e1 e2 => ?_⟩, fun fl hf ra e => ?_⟩
  · obtain ⟨ra, e, k1, k2⟩ := hW.1 q hq
    have hf : q.1 ∈ ([6, 8, 9] : List Nat) := by
      simp only [List.mem_cons, List.not_mem_nil, or_false] at hq
      rcases hq with rfl | rfl | rfl <;> decide
    have hh := hr q.1 hf ra e
    refine ⟨ra, (h1 q.1).trans e, fun i o hi ho => ?_, fun i j o hi hj ho ho2 => ?_⟩
    · rw [h2 ra hh.2 hh.1] at ho
      exact gr_ob g (k1 i o hi ho)
    · rw [h2 ra hh.2 hh.1] at ho ho2
      exact k2 i j o hi hj ho ho2
  · obtain ⟨d, e, k⟩ := hW.2.1 fl hf
    exact ⟨d, (h1 fl).trans e, gr_ob g k⟩
  · rw [h1] at e1 e2
    exact hW.2.2 f1 f2 d a1 a2 e1 e2
  · rw [h1] at e
    have hh := hr fl hf ra e
    exact ⟨by rw [(g ra hh.2).2.1]; exact hh.1, (g ra hh.2).1⟩
theorem sq_X4_read {v2 : Int32} (h : P_X4_read r a v2 Q S) (hv : v2 = nI n) (hr : Rdy f n a r w nm nd S) (hd : DSt w nd S) (hW : WKd w S) (hWr : WKr w S) (hwk : ∀ x b i, fR S w 9 = some b → i < hN S b → fR S b i = some x → ob S x 6) (hw9 : ∀ b, fR S w 9 = some b → b ≠ r) : P_X4_read r a v2 (fun x T => Q x T ∧ RdC f n a r w nm nd (sR S r 2 (some a)) (sAll f n 1000 0 A00) (gAll f n 1000 0 A00 G00) x T ∧ KO_C r (sR S r 2 (some a)) T) S := by
  have hr0 := hr
  obtain ⟨r1, r2, r3, r4, r5, r6, o1, o2, o3, o4, o5⟩ := hr0
  have nwr : w ≠ r := ob_ne o2 o1 (by decide)
  have hne : ∀ b j, b ≠ r → fR (sR S r 2 (some a)) b j = fR S b j := fun b j hb => u2_ne _ _ (fun q => hb q.1)
  have hB : BFa a r w nm nd (sR S r 2 (some a)) := ⟨(u2_ne _ _ (fun q => absurd q.2 (by decide))).trans r6, o1, o2, o3, o4, o5⟩
  have hd' : DSt w nd (sR S r 2 (some a)) := fun j b hj hb => hd j b hj (by rw [← hne w j nwr]; exact hb)
  have hwk' : ∀ x b i, fR (sR S r 2 (some a)) w 9 = some b → i < hN (sR S r 2 (some a)) b → fR (sR S r 2 (some a)) b i = some x → ob (sR S r 2 (some a)) x 6 := by
    intro x b i hb hi hx
    rw [hne w 9 nwr] at hb
    exact hwk x b i hb hi (by rw [← hne b i (hw9 b hb)]; exact hx)
  delta P_X4_read P_X4_read_0
  obtain ⟨p1, h⟩ := h
  refine ⟨p1, ?_⟩
  refine cm_X4_open (sp_X4_open h hv hr) (ot_X4_open h r6) (fun S2 hp ho g3 => ?_)
  have h := ho.1
  have h := h g3
  have hW' : WKd w (sR S r 2 (some a)) := (wk_mv hW hWr (T := sR S r 2 (some a)) (gr_rf S) (fun j => hne w j nwr) (fun ra h1 h2 i => hne ra i (fun z => by
    rw [z, o1.2] at h2
    omega))).1
  have wB : fR (sR S r 2 (some a)) r 5 = some w := hB.1
  have K0 : KO_C r (sR S r 2 (some a)) S2 := ⟨ho.2.1, fun b hb => ho.2.2 b (fun z => hb (z ▸ owc_r)) (fun z => hb (z ▸ owc_w wB))⟩
  have q1 := lqR8 (RG := gAll f n 1000 0 A00 G00) hB hd' hW' hwk' h ⟨0, 0, A00, G00, rfl, nI_0.symm, Nat.le_refl 0, hp.2, rfl, rfl, ⟨fun _ _ h hh => absurd hh (Nat.not_lt_zero h), fun _ _ h hh => absurd hh (Nat.not_lt_zero h), fun _ _ h hh => absurd hh (Nat.not_lt_zero h), fun _ _ h hh => absurd hh (Nat.not_lt_zero h), fun _ _ _ _ h hh => absurd hh (Nat.not_lt_zero h)⟩, rfl⟩
  have q2 := ko_X4_read_8 h K0
  exact cm_X4_read_8 q1 q2 (fun x T h1 h2 => ⟨h1.1, h1.2, h2.2⟩)
/-- what world(n) comes to, with all that was told -/
def WcX (f : Nat → Int32) (n a r w c : Nat) (S : HS) (R : AS ⊕ (Nat × Nat)) (RG : GC) (x : Int32) (T : HS) : Prop := WcB R c x T ∧ match R with
  | .inl A => (∃ U, CtB w A RG (sR S r 2 (some a)) U ∧ Cnt w A U ∧ ABd A ∧ ∀ b k, ob S b k → k ≠ 9 → k ≠ 7 → k ≠ 0 → fI T b = fI U b) ∧ (∀ x j, x ≠ c → x ≠ r → fR T x j = fR S x j) ∧ fR T c 2 = some w ∧ (∀ j, j ≠ 2 → fR T c j = fR S c j) ∧ fR T r 5 = fR S c 2 ∧ ∀ j, j ≠ 2 → j ≠ 5 → fR T r j = fR S r j
  | .inr _ => (∀ b, b ≠ c → ¬ OwS_C r (sR S r 2 (some a)) b → fI T b = fI S b) ∧ ∀ x j, ¬ (x = r ∧ j = 2) → fR T x j = fR S x j
set_option maxHeartbeats 4000000 in
theorem sq_X9_world_ok {v1 : Int32} (hI : IV S) (oc : ob S c 9) (h : P_X9_world c v1 Q S) (hv : v1 = nI n) (ha : fR S c 0 = some a) (hrr : fR S c 3 = some r) (hr : Rdy f n a r w nm nd S) (hd : DSt w nd S) (hW : WKd w S) (hWr : WKr w S) (hwk : ∀ x b i, fR S w 9 = some b → i < hN S b → fR S b i = some x → ob S x 6) (hw9 : ∀ b, fR S w 9 = some b → b ≠ r) (hle : v1 ≤ fI S c 1) : P_X9_world c v1 (fun x T => Q x T ∧ WcX f n a r w c S (sAll f n 1000 0 A00) (gAll f n 1000 0 A00 G00) x T) S := by
  have hr0 := hr
  obtain ⟨r1, r2, r3, r4, r5, r6, o1, o2, o3, o4, o5⟩ := hr0
  have nrc : r ≠ c := ob_ne o1 oc (by decide)
  have nwc : w ≠ c := ob_ne o2 oc (by decide)
  have iv : v1.toInt = (n : Int) := by rw [hv]; exact nI_i (by omega)
  have e0 : (0 : Int32).toInt = 0 := by decide
  have h0 : ¬ v1 < 0 := fun z => by have := lt_i z; omega
  delta P_X9_world P_X9_world_0
  refine ⟨fun c1 => absurd c1 h0, fun c6 => ?_⟩
  have h := h.2 c6
  obtain ⟨o7, h⟩ := h
  refine ⟨o7, ?_⟩
  intro x8 ex8
  have h := h x8 ex8
  refine ⟨fun c9 => ?_, fun c52 => absurd (by rw [ex8]; exact hle) c52⟩
  have h := h.1 c9
  obtain ⟨a10, ea10, h⟩ := h
  refine ⟨a10, ea10, ?_⟩
  cases hrr.symm.trans ea10
  obtain ⟨a11, ea11, h⟩ := h
  refine ⟨a11, ea11, ?_⟩
  cases ha.symm.trans ea11
  obtain ⟨o12, h⟩ := h
  refine ⟨o12, ?_⟩
  refine cm_X4_read (sq_X4_read h hv hr hd hW hWr hwk hw9) (m_X4_read (Q := fun _ T => FRI [(3, 0), (3, 1), (3, 2), (3, 3), (3, 4), (4, 0), (4, 1), (4, 3), (4, 4), (4, 6), (4, 7), (4, 9), (4, 10), (5, 0), (5, 1), (5, 2), (5, 3), (5, 4), (6, 0), (6, 1), (6, 2), (6, 3), (6, 4), (6, 5), (6, 6), (8, 0), (8, 1), (8, 2), (8, 3), (8, 4), (8, 5)] [(4, 2)] S T) hI o1 o5 r2 (Int32.not_lt.mp h0) (fun _ _ _ _ z _ => z)) (fun x13 S14 hp F g15 b16 => ?_)
  have h := hp.1 g15 b16
  have KO := hp.2.2
  have ctA := hp.2.1.2
  have hp := hp.2.1.1
  have R14 : fR S14 c 3 = some r := by rw [frr_at F (by decide) (by decide) oc]; exact hrr
  intro S17 e17
  have h := h S17 e17
  obtain ⟨a18, ea18, h⟩ := h
  refine ⟨a18, ea18, ?_⟩
  have t18 : fR S17 c 3 = some r := by rw [e17]; exact R14
  cases t18.symm.trans ea18
  obtain ⟨o19, h⟩ := h
  refine ⟨o19, ?_⟩
  intro x20 ex20
  have h := h x20 ex20
  have k20 : x20 = fI S14 r 0 := by rw [ex20, e17]; exact u2_ne _ _ (fun q => nrc q.1)
  intro S21 e21
  have h := h S21 e21
  obtain ⟨a22, ea22, h⟩ := h
  refine ⟨a22, ea22, ?_⟩
  have t22 : fR S21 c 3 = some r := by rw [e21]; exact t18
  cases t22.symm.trans ea22
  obtain ⟨o23, h⟩ := h
  refine ⟨o23, ?_⟩
  intro x24 ex24
  have h := h x24 ex24
  have k24 : x24 = fI S14 r 1 := by
    rw [ex24, e21]
    show u2 (fI S17) c 7 x20 r 1 = _
    rw [u2_ne _ _ (fun q => nrc q.1), e17]
    exact u2_ne _ _ (fun q => nrc q.1)
  intro S25 e25
  have h := h S25 e25
  have c7 : fI S25 c 7 = fI S14 r 0 := by rw [wI_ne e25 (by decide), wI_at e21, k20]
  have c8 : fI S25 c 8 = fI S14 r 1 := by rw [wI_at e25, k24]
  cases hR : sAll f n 1000 0 A00 with
  | inr e =>
    rw [hR] at hp
    have hx : x13 = 0 := hp.1
    refine ⟨fun z => absurd hx z, fun z => ?_⟩
    have h := h.2 z
    refine cm_X9_refuse (sp_X9_refuse h) h (fun x49 S50 hq h g51 => ?_)
    refine ⟨h g51, ⟨hq.2.1, ?_, ?_, ?_⟩, fun b hb ho => ?_, fun x j hx => ?_⟩
    · rw [wI_ne hq.2.2 (by decide), c7]; exact hp.2.1
    · rw [wI_ne hq.2.2 (by decide), c8]; exact hp.2.2
    · exact wI_at hq.2.2
    · rw [row_o hq.2.2 hb, row_o e25 hb, row_o e21 hb, row_o e17 hb]
      exact KO.2 b ho
    · have z : fR S50 = fR S14 := by rw [hq.2.2, e25, e21, e17]; rfl
      rw [z, KO.1]
      exact u2_ne _ _ hx
  | inl A =>
    rw [hR] at hp
    obtain ⟨hx, p, ls⟩ := hp
    refine ⟨fun z => ?_, fun z => absurd (hx.symm.trans z) (by decide)⟩
    have h := h.1 z
    obtain ⟨a27, ea27, h⟩ := h
    refine ⟨a27, ea27, ?_⟩
    have t27 : fR S25 c 3 = some r := by rw [e25]; exact t22
    cases t27.symm.trans ea27
    obtain ⟨a28, ea28, h⟩ := h
    refine ⟨a28, ea28, ?_⟩
    obtain ⟨o29, h⟩ := h
    refine ⟨o29, ?_⟩
    have w14 := gr_ob g15 o2
    have c14 := gr_ob g15 oc
    have w25 := ob_I e25 (ob_I e21 (ob_I e17 w14))
    have cc25 := ob_I e25 (ob_I e21 (ob_I e17 c14))
    have wr : fR S25 r 5 = some w := by
      have : fR S14 r 5 = some w := by
        rw [ls.2.2.2.1.2.2.2]
        exact (u2_ne _ _ (fun q => absurd q.2 (by decide))).trans r6
      rw [e25, e21, e17]; exact this
    have w4 : fI S25 w 4 = nI (aW A) := by
      rw [e25]
      show u2 (fI S21) c 8 x24 w 4 = _
      rw [u2_ne _ _ (fun q => nwc q.1), e21]
      show u2 (fI S17) c 7 x20 w 4 = _
      rw [u2_ne _ _ (fun q => nwc q.1), e17]
      exact (u2_ne _ _ (fun q => nwc q.1)).trans ls.2.2.1.2.2.2.2.1
    refine cm_X4_exchange (sp_X4_exchange h) h (fun a30 S31 hq h g32 => ?_)
    have h := h g32
    obtain ⟨-, q1, e31⟩ := hq
    cases wr.symm.trans q1
    intro S33 e33
    have h := h S33 e33
    have w33 := ob_R e33 (ob_R e31 w25)
    have c33 := ob_R e33 (ob_R e31 cc25)
    have i33 : fI S33 = fI S25 := by rw [e33, e31]; rfl
    obtain ⟨a34, ea34, h⟩ := h
    refine ⟨a34, ea34, ?_⟩
    obtain ⟨o35, h⟩ := h
    refine ⟨o35, ?_⟩
    refine cm_X7_forget (sp_X7_forget h) h (fun S36 hq h g37 => ?_)
    have h := h g37
    have e36 := hq.2
    have n34w : w ≠ a34 := ob_ne w33 o35 (by decide)
    have n34c : c ≠ a34 := ob_ne c33 o35 (by decide)
    have w36 := ob_I e36 w33
    have c36 := ob_I e36 c33
    obtain ⟨a38, ea38, h⟩ := h
    refine ⟨a38, ea38, ?_⟩
    obtain ⟨o39, h⟩ := h
    refine ⟨o39, ?_⟩
    refine cm_X0_end (sp_X0_end h) h (fun S40 hq h g41 => ?_)
    have h := h g41
    have F40 := hq.2.1
    have n38w : w ≠ a38 := ob_ne w36 o39 (by decide)
    have n38c : c ≠ a38 := ob_ne c36 o39 (by decide)
    have rowW : fI S40 w = fI S25 w := by rw [(F40.2.2.2.2.1 w n38w).1, e36]; exact (u2_row _ _ n34w).trans (by rw [i33])
    have rowC : fI S40 c = fI S25 c := by rw [(F40.2.2.2.2.1 c n38c).1, e36]; exact (u2_row _ _ n34c).trans (by rw [i33])
    obtain ⟨a42, ea42, h⟩ := h
    refine ⟨a42, ea42, ?_⟩
    have t42 : fR S40 c 2 = some w := by
      rw [F40.2.2.2.1, e36]
      show fR S33 c 2 = _
      rw [e33]; exact u2_self _ _ _ _
    cases t42.symm.trans ea42
    obtain ⟨o43, h⟩ := h
    refine ⟨o43, ?_⟩
    intro x44 ex44
    have h := h x44 ex44
    refine cm_X9_grant (sp_X9_grant h) h (fun x45 S46 hq h g47 => ?_)
    have rT : fR S46 = u2 (u2 (fR (sR S r 2 (some a))) r 5 (some a28)) c 2 (some w) := by
      have z1 : fR S46 = fR S40 := by rw [hq.2.2]; rfl
      have z2 : fR S36 = fR S33 := by rw [e36]; rfl
      have z3 : fR S25 = fR S14 := by rw [e25, e21, e17]; rfl
      rw [z1, F40.2.2.2.1, z2, e33, e31]
      show u2 (u2 (fR S25) r 5 (some a28)) c 2 (some w) = _
      rw [z3, KO.1]
    refine ⟨h g47, ⟨?_, ?_, ?_⟩, ⟨S14, ctA A hR, ls.2.2.1, ls.2.2.2.2, fun b k ob_ k9 k7 k0 => ?_⟩, fun x j hx hx2 => ?_, ?_, fun j hj => ?_, ?_, fun j h2 h5 => ?_⟩
    · rw [hq.2.1, ex44, rowW]; exact w4
    · rw [wI_ne hq.2.2 (by decide), rowC, c7]; exact ls.1.2.1.2.2.2.2
    · exact wI_at hq.2.2
    · have b14 := gr_ob g15 ob_
      have bc : b ≠ c := ob_ne b14 c14 k9
      have b25 := ob_I e25 (ob_I e21 (ob_I e17 b14))
      have b33 := ob_R e33 (ob_R e31 b25)
      have b34 : b ≠ a34 := ob_ne b33 o35 k7
      have b38 : b ≠ a38 := ob_ne (ob_I e36 b33) o39 k0
      rw [row_o hq.2.2 bc, (F40.2.2.2.2.1 b b38).1, row_o e36 b34, i33, row_o e25 bc, row_o e21 bc, row_o e17 bc]
    · rw [rT]
      rw [u2_ne _ _ (fun q => hx q.1), u2_ne _ _ (fun q => hx2 q.1)]
      exact u2_ne _ _ (fun q => hx2 q.1)
    · rw [rT]
      exact u2_self _ _ _ _
    · rw [rT]
      rw [u2_ne _ _ (fun q => hj q.2), u2_ne _ _ (fun q => nrc q.1.symm)]
      exact u2_ne _ _ (fun q => nrc q.1.symm)
    · rw [rT]
      rw [u2_ne _ _ (fun q => nrc q.1), u2_self]
      have z : fR S25 c 2 = fR S c 2 := by
        have : fR S25 = fR S14 := by rw [e25, e21, e17]; rfl
        rw [this, KO.1]
        exact u2_ne _ _ (fun q => nrc q.1.symm)
      rw [← z, ea28]
    · rw [rT]
      rw [u2_ne _ _ (fun q => nrc q.1), u2_ne _ _ (fun q => h5 q.2)]
      exact u2_ne _ _ (fun q => h2 q.2)
end Ct6
end
section
/-! what the reference's lines write -/
def LTm (rd : Nat) (S0 S : HS) (k : Nat) (V : Nat → Option Int32) : Prop := fR S = fR S0 ∧ ∀ i b, 7 ≤ i → i ≤ 27 → fR S0 rd i = some b → fI S b = match V i with
  | some v => va_up (fI S0 b) k v
  | none => fI S0 b
def DMr (m rd : Nat) (S : HS) : Prop := (∀ i b, 7 ≤ i → i ≤ 30 → fR S rd i = some b → b ≠ m ∧ b ≠ rd) ∧ ∀ i j b, 7 ≤ i → i ≤ 30 → 7 ≤ j → j ≤ 30 → fR S rd i = some b → fR S rd j = some b → i = j
section Ct7
variable {f : Nat → Int32} {n a m rd nm ns nk p k i b j : Nat} {A A' : AS} {σ τ : Res} {S0 S T : HS} {V : Nat → Option Int32} {v : Int32}
theorem ltm_0 (rd k : Nat) (S : HS) : LTm rd S S k (fun _ => none) := ⟨rfl, fun _ _ _ _ _ => rfl⟩
theorem ltm_F (D : DMr m rd S0) (h : LTm rd S0 S k V) (F : FM m S T) : LTm rd S0 T k V := ⟨F.2.2.2.1.trans h.1, fun i b h1 h2 e => (F.2.2.2.2.1 b (D.1 i b h1 (by omega) e).1).1.trans (h.2 i b h1 h2 e)⟩
theorem ltm_C (D : DMr m rd S0) (h : LTm rd S0 S k V) (e : T = sI S rd j v) : LTm rd S0 T k V := ⟨by rw [e]; exact h.1, fun i b h1 h2 e' => (row_o e (D.1 i b h1 (by omega) e').2).trans (h.2 i b h1 h2 e')⟩
theorem ltm_I (D : DMr m rd S0) (h : LTm rd S0 S k V) (hb : fR S rd i = some b) (e : T = sI S b j v) (hj : j = k) (h7 : 7 ≤ i ∧ i ≤ 27) (hv : V i = none) : LTm rd S0 T k (va_up V i (some v)) := by
  subst hj
  rw [h.1] at hb
  refine ⟨by rw [e]; exact h.1, fun i' b' h1 h2 e' => ?_⟩
  by_cases hi : i' = i
  · subst hi
    cases hb.symm.trans e'
    rw [row_I e, h.2 i' b h1 h2 hb, hv, va_up_self]
  · have hne : b' ≠ b := fun z => hi (D.2 i' i b' h1 (by omega) h7.1 (by omega) e' (z ▸ hb))
    rw [row_o e hne, h.2 i' b' h1 h2 e', va_up_ne _ _ hi]
theorem lm_no {L : Res} (M : MS f n a m τ T) (e : τ = L) (c : fI T m 9 = 5) : ∀ q, ¬ L = .inl q := fun p hp => by
  obtain ⟨q, hq⟩ := (ms_9 M).2.2.2.2.mp c
  rw [← e, hq] at hp
  cases hp
theorem i32_of {x : Int32} {t : Int64} (h : x.toInt64 = t) : x = t.toInt32 := by rw [← h, Int32.toInt32_toInt64]
def vN (s N : Nat) (c : Nat → Int32) (i : Nat) : Option Int32 := if s ≤ i ∧ i < s + N then some (c (i - s)) else none
theorem vN_0 (s : Nat) (c : Nat → Int32) : (fun _ => none) = vN s 0 c := by
  funext i
  unfold vN
  rw [if_neg (by omega)]
theorem vN_S {s N : Nat} {c : Nat → Int32} {x : Int32} (hx : x = c N) : va_up (vN s N c) (s + N) (some x) = vN s (N + 1) c := by
  funext i
  by_cases h : i = s + N
  · rw [h, va_up_self]
    unfold vN
    rw [if_pos (by omega), Nat.add_sub_cancel_left, hx]
  · rw [va_up_ne _ _ h]
    unfold vN
    by_cases h2 : s ≤ i ∧ i < s + N
    · rw [if_pos h2, if_pos (by omega)]
    · rw [if_neg h2, if_neg (by omega)]
end Ct7
/-! the reference's rain and road lines: what they write -/
section Ct8
variable {f : Nat → Int32} {n a rd nm ns nk p : Nat} {A : AS} {σ : Res} {Q : Int32 → HS → Prop} {QU : HS → Prop} {S T : HS} {v0 : Nat}
theorem vN_none {s N i : Nat} {c : Nat → Int32} (h : ¬ (s ≤ i ∧ i < s + N)) : vN s N c i = none := if_neg h
theorem sq_X11_readRain (h : P_X11_readRain v0 QU S) (M : MS f n a v0 (.inl p) S) (W : RMw v0 rd nm ns nk A S) (dm : DMr v0 rd S) (hg : ∀ q, (.inl p : Res) = .inl q → tS f n q ≠ 6) : P_X11_readRain v0 (fun T => QU T ∧ LBm f n a v0 rd nm ns nk (rb (sRoom f n p (aH A) (aHs A) 6) fun p => sRain f n p) (up1 A) T ∧ ∀ q, (rb (sRoom f n p (aH A) (aHs A) 6) fun p => sRain f n p) = .inl q → LTm rd S T (aHs A) (vN 7 5 (rnC f n (tEn f n p)))) S := by
  have lt := ltm_0 rd (aHs A) S
  rw [vN_0 7 (rnC f n (tEn f n p))] at lt
  delta P_X11_readRain P_X11_readRain_0
  obtain ⟨oq1, h⟩ := h
  refine ⟨oq1, ?_⟩
  obtain ⟨aq2, eaq2, h⟩ := h
  refine ⟨aq2, eaq2, ?_⟩
  cases W.1.symm.trans eaq2
  obtain ⟨oq3, h⟩ := h
  refine ⟨oq3, ?_⟩
  intro xq4 exq4
  have h := h xq4 exq4
  refine cm_X11_begins (sp_X11_begins (c := aHs A) (k := 6) h M W hg (exq4.trans W.2.2.1.2.1) rfl W.2.2.2.2.1.2.1 (by decide) (fun z => by have := W.2.2.2.2.2 z; omega)) h (fun Sq5 hp h gq6 => ?_)
  have h := h gq6
  obtain ⟨-, M, G⟩ := hp
  have W := rm_F W G
  replace lt := ltm_F dm lt G
  refine cm_X11_readPart (sp_X11_readPart (w := 3) h M (by decide)) h (fun xq7 Sq8 hp h gq9 => ?_)
  have h := h gq9
  obtain ⟨-, M, G, Vxq7⟩ := hp
  have W := rm_F W G
  replace lt := ltm_F dm lt G
  refine cm_X11_readPart (sp_X11_readPart (w := 4) h M (by decide)) h (fun xq10 Sq11 hp h gq12 => ?_)
  have h := h gq12
  obtain ⟨-, M, G, Vxq10⟩ := hp
  have W := rm_F W G
  replace lt := ltm_F dm lt G
  refine cm_X11_needs (sp_X11_needs (w := 5) h M (by decide)) h (fun Sq13 hp h gq14 => ?_)
  have h := h gq14
  obtain ⟨-, M, G⟩ := hp
  have W := rm_F W G
  replace lt := ltm_F dm lt G
  refine cm_X11_readSide (sp_X11_readSide h M) h (fun xq15 Sq16 hp h gq17 => ?_)
  have h := h gq17
  obtain ⟨-, M, G, Vxq15⟩ := hp
  have W := rm_F W G
  replace lt := ltm_F dm lt G
  refine cm_X11_readWhole (sp_X11_readWhole h M) h (fun xq18 Sq19 hp h gq20 => ?_)
  have h := h gq20
  obtain ⟨-, M, G, Vxq18⟩ := hp
  have W := rm_F W G
  replace lt := ltm_F dm lt G
  refine cm_X11_readPart (sp_X11_readPart (w := 10) h M (by decide)) h (fun xq21 Sq22 hp h gq23 => ?_)
  have h := h gq23
  obtain ⟨-, M, G, Vxq21⟩ := hp
  have W := rm_F W G
  replace lt := ltm_F dm lt G
  intro xq24 exq24
  have h := h xq24 exq24
  refine ⟨?_, ?_⟩
  · intro cq25
    obtain ⟨q, hq⟩ := ms_ok M (fun z => cq25 (exq24.trans z))
    simp only [rb_rb] at hq
    obtain ⟨p1, hp1, hq1⟩ := rb_inl (R := sRoom f n p (aH A) (aHs A) 6) hq
    obtain ⟨p2, hp2, hq2⟩ := rb_inl hq1
    obtain ⟨p3, hp3, hq3⟩ := rb_inl hq2
    obtain ⟨p4, hp4, hq4⟩ := rb_inl hq3
    obtain ⟨p5, hp5, hq5⟩ := rb_inl hq4
    obtain ⟨p6, hp6, hq6⟩ := rb_inl hq5
    have y0 := Vxq7 p1 p2 hp1 hp2
    have y1 := Vxq10 p2 p3 (by simp only [rb, hp1, hp2]) hp3
    have y2 := sdV_of (k := 0) (Vxq15 p4 p5 (by simp only [rb, hp1, hp2, hp3, hp4]) hp5)
    have y3 := i32_of (Vxq18 p5 p6 (by simp only [rb, hp1, hp2, hp3, hp4, hp5]) hp6)
    have y4 := Vxq21 p6 q (by simp only [rb, hp1, hp2, hp3, hp4, hp5, hp6]) hq6
    have z1 := (sRoom_inl hp1).1
    subst z1
    have z2 := sPart_inl hp2
    subst z2
    have z3 := sPart_inl hp3
    subst z3
    have z4 := sWord_inl hp4
    subst z4
    have z5 := sSide_inl hp5
    subst z5
    have z6 := sWhole_inl hp6
    subst z6
    have rk := room_ok hp1
    have h := h.1 cq25
    obtain ⟨aq26, eaq26, h⟩ := h
    refine ⟨aq26, eaq26, ?_⟩
    cases W.1.symm.trans eaq26
    obtain ⟨oq27, h⟩ := h
    refine ⟨oq27, ?_⟩
    obtain ⟨aq28, eaq28, h⟩ := h
    refine ⟨aq28, eaq28, ?_⟩
    obtain ⟨aq29, eaq29, h⟩ := h
    refine ⟨aq29, eaq29, ?_⟩
    cases W.1.symm.trans eaq29
    obtain ⟨oq30, h⟩ := h
    refine ⟨oq30, ?_⟩
    intro xq31 exq31
    have h := h xq31 exq31
    obtain ⟨oq32, h⟩ := h
    refine ⟨oq32, ?_⟩
    obtain ⟨oq33, h⟩ := h
    refine ⟨oq33, ?_⟩
    intro Sq34 eSq34
    have h := h Sq34 eSq34
    replace lt := ltm_I dm lt eaq28 eSq34 (by rw [exq31.trans W.2.2.1.2.1]; exact nI_cl (by have := rk.2; omega)) (by decide) (vN_none (by omega))
    rw [vN_S (s := 7) (N := 0) (c := rnC f n (tEn f n p)) (by simpa [rnC, e2] using y0)] at lt
    obtain ⟨M, W⟩ := wr_I M W eaq28 oq32 eSq34 (by decide) (by decide)
    obtain ⟨aq35, eaq35, h⟩ := h
    refine ⟨aq35, eaq35, ?_⟩
    cases W.1.symm.trans eaq35
    obtain ⟨oq36, h⟩ := h
    refine ⟨oq36, ?_⟩
    obtain ⟨aq37, eaq37, h⟩ := h
    refine ⟨aq37, eaq37, ?_⟩
    obtain ⟨aq38, eaq38, h⟩ := h
    refine ⟨aq38, eaq38, ?_⟩
    cases W.1.symm.trans eaq38
    obtain ⟨oq39, h⟩ := h
    refine ⟨oq39, ?_⟩
    intro xq40 exq40
    have h := h xq40 exq40
    obtain ⟨oq41, h⟩ := h
    refine ⟨oq41, ?_⟩
    obtain ⟨oq42, h⟩ := h
    refine ⟨oq42, ?_⟩
    intro Sq43 eSq43
    have h := h Sq43 eSq43
    replace lt := ltm_I dm lt eaq37 eSq43 (by rw [exq40.trans W.2.2.1.2.1]; exact nI_cl (by have := rk.2; omega)) (by decide) (vN_none (by omega))
    rw [vN_S (s := 7) (N := 1) (c := rnC f n (tEn f n p)) (by simpa [rnC, e2] using y1)] at lt
    obtain ⟨M, W⟩ := wr_I M W eaq37 oq41 eSq43 (by decide) (by decide)
    obtain ⟨aq44, eaq44, h⟩ := h
    refine ⟨aq44, eaq44, ?_⟩
    cases W.1.symm.trans eaq44
    obtain ⟨oq45, h⟩ := h
    refine ⟨oq45, ?_⟩
    obtain ⟨aq46, eaq46, h⟩ := h
    refine ⟨aq46, eaq46, ?_⟩
    obtain ⟨aq47, eaq47, h⟩ := h
    refine ⟨aq47, eaq47, ?_⟩
    cases W.1.symm.trans eaq47
    obtain ⟨oq48, h⟩ := h
    refine ⟨oq48, ?_⟩
    intro xq49 exq49
    have h := h xq49 exq49
    obtain ⟨oq50, h⟩ := h
    refine ⟨oq50, ?_⟩
    obtain ⟨oq51, h⟩ := h
    refine ⟨oq51, ?_⟩
    intro Sq52 eSq52
    have h := h Sq52 eSq52
    replace lt := ltm_I dm lt eaq46 eSq52 (by rw [exq49.trans W.2.2.1.2.1]; exact nI_cl (by have := rk.2; omega)) (by decide) (vN_none (by omega))
    rw [vN_S (s := 7) (N := 2) (c := rnC f n (tEn f n p)) (by simpa [rnC, e2] using y2)] at lt
    obtain ⟨M, W⟩ := wr_I M W eaq46 oq50 eSq52 (by decide) (by decide)
    obtain ⟨aq53, eaq53, h⟩ := h
    refine ⟨aq53, eaq53, ?_⟩
    cases W.1.symm.trans eaq53
    obtain ⟨oq54, h⟩ := h
    refine ⟨oq54, ?_⟩
    obtain ⟨aq55, eaq55, h⟩ := h
    refine ⟨aq55, eaq55, ?_⟩
    obtain ⟨aq56, eaq56, h⟩ := h
    refine ⟨aq56, eaq56, ?_⟩
    cases W.1.symm.trans eaq56
    obtain ⟨oq57, h⟩ := h
    refine ⟨oq57, ?_⟩
    intro xq58 exq58
    have h := h xq58 exq58
    obtain ⟨oq59, h⟩ := h
    refine ⟨oq59, ?_⟩
    obtain ⟨oq60, h⟩ := h
    refine ⟨oq60, ?_⟩
    intro Sq61 eSq61
    have h := h Sq61 eSq61
    replace lt := ltm_I dm lt eaq55 eSq61 (by rw [exq58.trans W.2.2.1.2.1]; exact nI_cl (by have := rk.2; omega)) (by decide) (vN_none (by omega))
    rw [vN_S (s := 7) (N := 3) (c := rnC f n (tEn f n p)) (by simpa [rnC, e2] using y3)] at lt
    obtain ⟨M, W⟩ := wr_I M W eaq55 oq59 eSq61 (by decide) (by decide)
    obtain ⟨aq62, eaq62, h⟩ := h
    refine ⟨aq62, eaq62, ?_⟩
    cases W.1.symm.trans eaq62
    obtain ⟨oq63, h⟩ := h
    refine ⟨oq63, ?_⟩
    obtain ⟨aq64, eaq64, h⟩ := h
    refine ⟨aq64, eaq64, ?_⟩
    obtain ⟨aq65, eaq65, h⟩ := h
    refine ⟨aq65, eaq65, ?_⟩
    cases W.1.symm.trans eaq65
    obtain ⟨oq66, h⟩ := h
    refine ⟨oq66, ?_⟩
    intro xq67 exq67
    have h := h xq67 exq67
    obtain ⟨oq68, h⟩ := h
    refine ⟨oq68, ?_⟩
    obtain ⟨oq69, h⟩ := h
    refine ⟨oq69, ?_⟩
    intro Sq70 eSq70
    have h := h Sq70 eSq70
    replace lt := ltm_I dm lt eaq64 eSq70 (by rw [exq67.trans W.2.2.1.2.1]; exact nI_cl (by have := rk.2; omega)) (by decide) (vN_none (by omega))
    rw [vN_S (s := 7) (N := 4) (c := rnC f n (tEn f n p)) (by simpa [rnC, e2] using y4)] at lt
    obtain ⟨M, W⟩ := wr_I M W eaq64 oq68 eSq70 (by decide) (by decide)
    obtain ⟨aq71, eaq71, h⟩ := h
    refine ⟨aq71, eaq71, ?_⟩
    cases W.1.symm.trans eaq71
    obtain ⟨oq72, h⟩ := h
    refine ⟨oq72, ?_⟩
    intro xq73 exq73
    have h := h xq73 exq73
    intro xq74 exq74
    have h := h xq74 exq74
    intro Sq75 eSq75
    have h := h Sq75 eSq75
    have eL := eSq75
    obtain ⟨M, W⟩ := wr_C (A' := up1 A) M W eL (by decide) (cn_1 W.2.2.1 eL (inc_ exq73 W.2.2.1.2.1 exq74)) rfl (ab_1 W.2.2.2.2.1 rk.2) (zc_h rk.1)
    replace lt := ltm_C dm lt eL
    exact ⟨h, lm_ok M (by simp only [rb_rb, sRain, l64_0, l64_1, l64_5, l64_8, l64_9, l64_60, l64_99, l64_100, l64_999]; rfl) W, fun _ _ => lt⟩
  · intro cq76
    have h := h.2 cq76
    exact ⟨h, lm_ov M (by simp only [rb_rb, sRain, l64_0, l64_1, l64_5, l64_8, l64_9, l64_60, l64_99, l64_100, l64_999]; rfl) (exq24.symm.trans cq76), fun q hq => absurd hq (lm_no M (by simp only [rb_rb, sRain, l64_0, l64_1, l64_5, l64_8, l64_9, l64_60, l64_99, l64_100, l64_999]; rfl) (exq24.symm.trans cq76) q)⟩
end Ct8
/-! the road line of the reference: what it writes -/
section Ct9
variable {f : Nat → Int32} {n a rd nm ns nk p : Nat} {A : AS} {σ : Res} {Q : Int32 → HS → Prop} {QU : HS → Prop} {S T : HS} {v0 : Nat}
set_option maxHeartbeats 1000000 in
theorem sq_X11_readRoad (h : P_X11_readRoad v0 QU S) (M : MS f n a v0 (.inl p) S) (W : RMw v0 rd nm ns nk A S) (dm : DMr v0 rd S) (hg : ∀ q, (.inl p : Res) = .inl q → tS f n q ≠ 6) : P_X11_readRoad v0 (fun T => QU T ∧ LBm f n a v0 rd nm ns nk (rb (sRoom f n p (aH A) (aR A) 12) fun p => sRoad f n p A) (up3 A) T ∧ ∀ q, (rb (sRoom f n p (aH A) (aR A) 12) fun p => sRoad f n p A) = .inl q → LTm rd S T (aR A) (vN 13 5 (rdC f n (tEn f n p) A))) S := by
  have lt := ltm_0 rd (aR A) S
  rw [vN_0 13 (rdC f n (tEn f n p) A)] at lt
  delta P_X11_readRoad P_X11_readRoad_0
  obtain ⟨oq1, h⟩ := h
  refine ⟨oq1, ?_⟩
  obtain ⟨aq2, eaq2, h⟩ := h
  refine ⟨aq2, eaq2, ?_⟩
  cases W.1.symm.trans eaq2
  obtain ⟨oq3, h⟩ := h
  refine ⟨oq3, ?_⟩
  intro xq4 exq4
  have h := h xq4 exq4
  refine cm_X11_begins (sp_X11_begins (c := aR A) (k := 12) h M W hg (exq4.trans W.2.2.1.2.2.2.1) rfl W.2.2.2.2.1.2.2.2.1 (by decide) (fun z => by have := W.2.2.2.2.2 z; omega)) h (fun Sq5 hp h gq6 => ?_)
  have h := h gq6
  obtain ⟨-, M, G⟩ := hp
  have W := rm_F W G
  replace lt := ltm_F dm lt G
  refine cm_X11_known (sp_X11_known h M W) h (fun xq7 Sq8 hp h gq9 => ?_)
  have h := h gq9
  obtain ⟨-, M, G, Vxq7⟩ := hp
  have W := rm_F W G
  replace lt := ltm_F dm lt G
  refine cm_X11_goesOn (sp_X11_goesOn h M gs_k) h (fun Sq10 hp h gq11 => ?_)
  have h := h gq11
  obtain ⟨-, M, G⟩ := hp
  have W := rm_F W G
  replace lt := ltm_F dm lt G
  refine cm_X11_readSide (sp_X11_readSide h M) h (fun xq12 Sq13 hp h gq14 => ?_)
  have h := h gq14
  obtain ⟨-, M, G, Vxq12⟩ := hp
  have W := rm_F W G
  replace lt := ltm_F dm lt G
  refine cm_X11_readWhole (sp_X11_readWhole h M) h (fun xq15 Sq16 hp h gq17 => ?_)
  have h := h gq17
  obtain ⟨-, M, G, Vxq15⟩ := hp
  have W := rm_F W G
  replace lt := ltm_F dm lt G
  refine cm_X11_known (sp_X11_known h M W) h (fun xq18 Sq19 hp h gq20 => ?_)
  have h := h gq20
  obtain ⟨-, M, G, Vxq18⟩ := hp
  have W := rm_F W G
  replace lt := ltm_F dm lt G
  intro xq21 exq21
  have h := h xq21 exq21
  refine ⟨?_, ?_⟩
  · intro cq22
    obtain ⟨e0, he0⟩ := (ms_9 M).2.2.2.2.mp (exq21.symm.trans cq22)
    have M := ms_eq M he0
    have HL : (rb (sRoom f n p (aH A) (aR A) 12) fun p => sRoad f n p A) = .inr e0 := road_A (R := sRoom f n p (aH A) (aR A) 12) he0
    have h := h.1 cq22
    delta P_X11_readRoad_62
    obtain ⟨oq23, h⟩ := h
    refine ⟨oq23, ?_⟩
    refine cm_X11_goesOn (sp_X11_goesOn h M (fun q z => by cases z)) h (fun Sq24 hp h gq25 => ?_)
    have h := h gq25
    obtain ⟨-, M, G⟩ := hp
    have W := rm_F W G
    replace lt := ltm_F dm lt G
    have M : MS f n a v0 (.inr e0) _ := M
    refine cm_X11_eatsWord (sp_X11_eatsWord (w := 17) h M (by decide)) h (fun xq26 Sq27 hp h gq28 bq29 => ?_)
    have h := h gq28 bq29
    obtain ⟨-, M, G, Vxq26⟩ := hp
    have W := rm_F W G
    replace lt := ltm_F dm lt G
    refine ⟨?_, ?_⟩
    · intro cq30
      have Ncq30 := an0 Vxq26 cq30
      have M := ms_eq M (rb_idd (fun p hp => (dc_n (hw_np Ncq30 hp)).symm)).symm
      have M : MS f n a v0 (.inr e0) _ := M
      have h := h.1 cq30
      delta P_X11_readRoad_85
      obtain ⟨oq31, h⟩ := h
      refine ⟨oq31, ?_⟩
      intro xq32 exq32
      have h := h xq32 exq32
      refine ⟨?_, ?_⟩
      · intro cq33
        exact absurd (exq32.trans M.2.1.1) cq33
      · intro cq72
        have h := h.2 cq72
        exact ⟨h, lm_ov M HL.symm (exq32.symm.trans cq72), fun q hq => absurd hq (lm_no M HL.symm (exq32.symm.trans cq72) q)⟩
    · intro cq73
      have Ncq73 := an1 Vxq26 cq73
      exact Ncq73.elim
  · intro cq119
    obtain ⟨p5, h5⟩ := ms_ok M (fun z => cq119 (exq21.trans z))
    obtain ⟨p1, k1, p2, k2, r1, r2, r3, r4, r5, r6, r7, r8, r9, r10⟩ := road_B (R := sRoom f n p (aH A) (aR A) 12) h5
    have HL0 := road_2 r1 r2 r3 r5 r6 r7 r8
    have M := ms_eq M h5
    have rk := room_ok r1
    have t0 : rb (rb (.inl p : Res) (fun p => sRoom f n p (aH A) (aR A) 12)) (fun p => sKn f n p A 0) = .inl p1 := by
      show rb (sRoom f n p (aH A) (aR A) 12) _ = _
      rw [r1]; exact r2
    have t2 : rb (rb (rb (rb (.inl p : Res) (fun p => sRoom f n p (aH A) (aR A) 12)) (fun p => sKn f n p A 0)) (fun p => .inl (tEn f n p))) (fun p => sSide f n p) = .inl p2 := by
      rw [t0]; exact r5
    have t3 : rb (rb (rb (rb (rb (.inl p : Res) (fun p => sRoom f n p (aH A) (aR A) 12)) (fun p => sKn f n p A 0)) (fun p => .inl (tEn f n p))) (fun p => sSide f n p)) (fun p => sWhole f n p (1 : Int32).toInt64 (60 : Int32).toInt64) = .inl p5 := by
      rw [t2]; exact r6
    obtain ⟨j1, z1, y1⟩ := Vxq7 p1 p1 r1 r2
    cases r3.symm.trans z1
    obtain ⟨j2, z2, y2⟩ := Vxq18 p5 p5 t3 r7
    cases r8.symm.trans z2
    rw [if_pos r4] at y1
    rw [if_pos r9] at y2
    have y3 : xq15.toInt64 = tV f n p2 := Vxq15 p2 p5 t2 r6
    have y4 : (tV f n p2).toInt32.toInt64 = xq15.toInt64 := by rw [← y3, Int32.toInt32_toInt64]
    have q1 := (sRoom_inl r1).1
    have q2 := sSide_inl r5
    have q5 := sWhole_inl r6
    have w0 : xq7 = rdC f n (tEn f n p) A 0 := by
      rw [y1]
      simp [rdC, ← q1, lkV_of r3]
    have w1 : xq18 = rdC f n (tEn f n p) A 1 := by
      rw [y2]
      simp [rdC, e2, ← q1, ← q2, ← q5, lkV_of r8]
    have w2 : xq12 = rdC f n (tEn f n p) A 2 := by
      have z := sdV_of (k := 0) (Vxq12 (tEn f n p1) p2 (by rw [t0]; rfl) r5)
      rw [z, q1]
      simp [rdC]
    have w3 : xq15 = rdC f n (tEn f n p) A 3 := by
      rw [i32_of y3]
      simp [rdC, e2, ← q1, ← q2]
    have h := h.2 cq119
    refine ⟨?_, ?_⟩
    · intro cq120
      have kn : ¬ k2 = k1 := fun z => cq120 (by rw [y1, y2, z])
      rw [dc_n kn] at HL0
      have h := h.1 cq120
      delta P_X11_readRoad_62
      obtain ⟨oq121, h⟩ := h
      refine ⟨oq121, ?_⟩
      refine cm_X11_goesOn (sp_X11_goesOn h M (fun q z => by cases z; rw [r10.1]; decide)) h (fun Sq122 hp h gq123 => ?_)
      have h := h gq123
      obtain ⟨-, M, G⟩ := hp
      have W := rm_F W G
      replace lt := ltm_F dm lt G
      have M : MS f n a v0 (.inl (tEn f n p5)) _ := M
      refine cm_X11_eatsWord (sp_X11_eatsWord (w := 17) h M (by decide)) h (fun xq124 Sq125 hp h gq126 bq127 => ?_)
      have h := h gq126 bq127
      obtain ⟨-, M, G, Vxq124⟩ := hp
      have W := rm_F W G
      replace lt := ltm_F dm lt G
      refine ⟨?_, ?_⟩
      · intro cq128
        have Ncq128 := an0 Vxq124 cq128
        have M := ms_eq M (rb_idd (fun p hp => (dc_n (hw_np Ncq128 hp)).symm)).symm
        have Ncq128 : ¬ isW f n (tEn f n p5) 17 := Ncq128
        have h := h.1 cq128
        delta P_X11_readRoad_85
        obtain ⟨oq129, h⟩ := h
        refine ⟨oq129, ?_⟩
        intro xq130 exq130
        have h := h xq130 exq130
        refine ⟨?_, ?_⟩
        · intro cq131
          have EQ : (.inl (tEn f n p5) : Res) = (rb (sRoom f n p (aH A) (aR A) 12) fun p => sRoad f n p A) := by
            rw [HL0]
            show (.inl (tEn f n p5) : Res) = dc (isW f n (tEn f n p5) 17) _ _
            rw [dc_n Ncq128]
          have M := ms_eq M EQ
          have w4 : (0 : Int32) = rdC f n (tEn f n p) A 4 := by
            simp only [rdC, e2]
            rw [← q1, ← q2, ← q5, dc_n Ncq128]
            rfl
          have h := h.1 cq131
          obtain ⟨aq132, eaq132, h⟩ := h
          refine ⟨aq132, eaq132, ?_⟩
          cases W.1.symm.trans eaq132
          obtain ⟨oq133, h⟩ := h
          refine ⟨oq133, ?_⟩
          intro xq134 exq134
          have h := h xq134 exq134
          have kx : xq134.toNatClampNeg = aR A := by rw [exq134.trans W.2.2.1.2.2.2.1]; exact nI_cl (by have := rk.2; omega)
          obtain ⟨aq135, eaq135, h⟩ := h
          refine ⟨aq135, eaq135, ?_⟩
          cases W.1.symm.trans eaq135
          obtain ⟨oq136, h⟩ := h
          refine ⟨oq136, ?_⟩
          obtain ⟨aq137, eaq137, h⟩ := h
          refine ⟨aq137, eaq137, ?_⟩
          obtain ⟨oq138, h⟩ := h
          refine ⟨oq138, ?_⟩
          obtain ⟨oq139, h⟩ := h
          refine ⟨oq139, ?_⟩
          intro Sq140 eSq140
          have h := h Sq140 eSq140
          replace lt := ltm_I dm lt eaq137 eSq140 kx (by decide) (vN_none (by omega))
          rw [vN_S (s := 13) (N := 0) (c := rdC f n (tEn f n p) A) w0] at lt
          obtain ⟨M, W⟩ := wr_I M W eaq137 oq138 eSq140 (by decide) (by decide)
          obtain ⟨aq141, eaq141, h⟩ := h
          refine ⟨aq141, eaq141, ?_⟩
          cases W.1.symm.trans eaq141
          obtain ⟨oq142, h⟩ := h
          refine ⟨oq142, ?_⟩
          obtain ⟨aq143, eaq143, h⟩ := h
          refine ⟨aq143, eaq143, ?_⟩
          obtain ⟨oq144, h⟩ := h
          refine ⟨oq144, ?_⟩
          obtain ⟨oq145, h⟩ := h
          refine ⟨oq145, ?_⟩
          intro Sq146 eSq146
          have h := h Sq146 eSq146
          replace lt := ltm_I dm lt eaq143 eSq146 kx (by decide) (vN_none (by omega))
          rw [vN_S (s := 13) (N := 1) (c := rdC f n (tEn f n p) A) w1] at lt
          obtain ⟨M, W⟩ := wr_I M W eaq143 oq144 eSq146 (by decide) (by decide)
          obtain ⟨aq147, eaq147, h⟩ := h
          refine ⟨aq147, eaq147, ?_⟩
          cases W.1.symm.trans eaq147
          obtain ⟨oq148, h⟩ := h
          refine ⟨oq148, ?_⟩
          obtain ⟨aq149, eaq149, h⟩ := h
          refine ⟨aq149, eaq149, ?_⟩
          obtain ⟨oq150, h⟩ := h
          refine ⟨oq150, ?_⟩
          obtain ⟨oq151, h⟩ := h
          refine ⟨oq151, ?_⟩
          intro Sq152 eSq152
          have h := h Sq152 eSq152
          replace lt := ltm_I dm lt eaq149 eSq152 kx (by decide) (vN_none (by omega))
          rw [vN_S (s := 13) (N := 2) (c := rdC f n (tEn f n p) A) w2] at lt
          obtain ⟨M, W⟩ := wr_I M W eaq149 oq150 eSq152 (by decide) (by decide)
          obtain ⟨aq153, eaq153, h⟩ := h
          refine ⟨aq153, eaq153, ?_⟩
          cases W.1.symm.trans eaq153
          obtain ⟨oq154, h⟩ := h
          refine ⟨oq154, ?_⟩
          obtain ⟨aq155, eaq155, h⟩ := h
          refine ⟨aq155, eaq155, ?_⟩
          obtain ⟨oq156, h⟩ := h
          refine ⟨oq156, ?_⟩
          obtain ⟨oq157, h⟩ := h
          refine ⟨oq157, ?_⟩
          intro Sq158 eSq158
          have h := h Sq158 eSq158
          replace lt := ltm_I dm lt eaq155 eSq158 kx (by decide) (vN_none (by omega))
          rw [vN_S (s := 13) (N := 3) (c := rdC f n (tEn f n p) A) w3] at lt
          obtain ⟨M, W⟩ := wr_I M W eaq155 oq156 eSq158 (by decide) (by decide)
          obtain ⟨aq159, eaq159, h⟩ := h
          refine ⟨aq159, eaq159, ?_⟩
          cases W.1.symm.trans eaq159
          obtain ⟨oq160, h⟩ := h
          refine ⟨oq160, ?_⟩
          obtain ⟨aq161, eaq161, h⟩ := h
          refine ⟨aq161, eaq161, ?_⟩
          obtain ⟨oq162, h⟩ := h
          refine ⟨oq162, ?_⟩
          obtain ⟨oq163, h⟩ := h
          refine ⟨oq163, ?_⟩
          intro Sq164 eSq164
          have h := h Sq164 eSq164
          replace lt := ltm_I dm lt eaq161 eSq164 kx (by decide) (vN_none (by omega))
          rw [vN_S (s := 13) (N := 4) (c := rdC f n (tEn f n p) A) w4] at lt
          obtain ⟨M, W⟩ := wr_I M W eaq161 oq162 eSq164 (by decide) (by decide)
          obtain ⟨aq165, eaq165, h⟩ := h
          refine ⟨aq165, eaq165, ?_⟩
          cases W.1.symm.trans eaq165
          obtain ⟨oq166, h⟩ := h
          refine ⟨oq166, ?_⟩
          intro xq167 exq167
          have h := h xq167 exq167
          intro xq168 exq168
          have h := h xq168 exq168
          intro Sq169 eSq169
          have h := h Sq169 eSq169
          have eL := eSq169
          obtain ⟨M, W⟩ := wr_C (A' := up3 A) M W eL (by decide) (cn_3 W.2.2.1 eL (inc_ exq167 W.2.2.1.2.2.2.1 exq168)) rfl (ab_3 W.2.2.2.2.1 rk.2) (zc_h rk.1)
          replace lt := ltm_C dm lt eL
          exact ⟨h, lm_ok M rfl W, fun _ _ => lt⟩
        · intro cq170
          have EQ : (.inl (tEn f n p5) : Res) = (rb (sRoom f n p (aH A) (aR A) 12) fun p => sRoad f n p A) := by
            rw [HL0]
            show (.inl (tEn f n p5) : Res) = dc (isW f n (tEn f n p5) 17) _ _
            rw [dc_n Ncq128]
          have h := h.2 cq170
          exact ⟨h, lm_ov M EQ (exq130.symm.trans cq170), fun q hq => absurd hq (lm_no M EQ (exq130.symm.trans cq170) q)⟩
      · intro cq171
        have Ncq171 := an1 Vxq124 cq171
        have Ncq171 : isW f n (tEn f n p5) 17 := Ncq171
        have h := h.2 cq171
        refine cm_X11_readWhole (sp_X11_readWhole h M) h (fun xq172 Sq173 hp h gq174 => ?_)
        have h := h gq174
        obtain ⟨-, M, G, Vxq172⟩ := hp
        have W := rm_F W G
        replace lt := ltm_F dm lt G
        delta P_X11_readRoad_85
        obtain ⟨oq175, h⟩ := h
        refine ⟨oq175, ?_⟩
        intro xq176 exq176
        have h := h xq176 exq176
        refine ⟨?_, ?_⟩
        · intro cq177
          have EQ : rb (rb (.inl (tEn f n p5) : Res) (fun p => dc (isW f n p 17) (.inl (tEn f n p)) (.inl p))) (fun p => sWhole f n p (0 : Int32).toInt64 xq15.toInt64) = (rb (sRoom f n p (aH A) (aR A) 12) fun p => sRoad f n p A) := by
            rw [HL0]
            show rb (rb (.inl (tEn f n p5)) _) _ = dc (isW f n (tEn f n p5) 17) _ _
            rw [dc_y Ncq171]
            show rb (dc (isW f n (tEn f n p5) 17) _ _) _ = _
            rw [dc_y Ncq171]
            unfold sPart sWord
            rw [if_pos Ncq171, y4]
            rfl
          obtain ⟨q9, hq9⟩ := ms_ok M (fun z => cq177 (exq176.trans z))
          obtain ⟨p8, h8, h9⟩ := rb_inl hq9
          have w4 : xq172 = rdC f n (tEn f n p) A 4 := by
            rw [i32_of (Vxq172 p8 q9 h8 h9)]
            have h8 : dc (isW f n (tEn f n p5) 17) (.inl (tEn f n (tEn f n p5))) (.inl (tEn f n p5)) = (.inl p8 : Res) := h8
            rw [dc_y Ncq171] at h8
            cases h8
            simp only [rdC, e2]
            rw [← q1, ← q2, ← q5, dc_y Ncq171]
            rfl
          have M := ms_eq M EQ
          have h := h.1 cq177
          obtain ⟨aq178, eaq178, h⟩ := h
          refine ⟨aq178, eaq178, ?_⟩
          cases W.1.symm.trans eaq178
          obtain ⟨oq179, h⟩ := h
          refine ⟨oq179, ?_⟩
          intro xq180 exq180
          have h := h xq180 exq180
          have kx : xq180.toNatClampNeg = aR A := by rw [exq180.trans W.2.2.1.2.2.2.1]; exact nI_cl (by have := rk.2; omega)
          obtain ⟨aq181, eaq181, h⟩ := h
          refine ⟨aq181, eaq181, ?_⟩
          cases W.1.symm.trans eaq181
          obtain ⟨oq182, h⟩ := h
          refine ⟨oq182, ?_⟩
          obtain ⟨aq183, eaq183, h⟩ := h
          refine ⟨aq183, eaq183, ?_⟩
          obtain ⟨oq184, h⟩ := h
          refine ⟨oq184, ?_⟩
          obtain ⟨oq185, h⟩ := h
          refine ⟨oq185, ?_⟩
          intro Sq186 eSq186
          have h := h Sq186 eSq186
          replace lt := ltm_I dm lt eaq183 eSq186 kx (by decide) (vN_none (by omega))
          rw [vN_S (s := 13) (N := 0) (c := rdC f n (tEn f n p) A) w0] at lt
          obtain ⟨M, W⟩ := wr_I M W eaq183 oq184 eSq186 (by decide) (by decide)
          obtain ⟨aq187, eaq187, h⟩ := h
          refine ⟨aq187, eaq187, ?_⟩
          cases W.1.symm.trans eaq187
          obtain ⟨oq188, h⟩ := h
          refine ⟨oq188, ?_⟩
          obtain ⟨aq189, eaq189, h⟩ := h
          refine ⟨aq189, eaq189, ?_⟩
          obtain ⟨oq190, h⟩ := h
          refine ⟨oq190, ?_⟩
          obtain ⟨oq191, h⟩ := h
          refine ⟨oq191, ?_⟩
          intro Sq192 eSq192
          have h := h Sq192 eSq192
          replace lt := ltm_I dm lt eaq189 eSq192 kx (by decide) (vN_none (by omega))
          rw [vN_S (s := 13) (N := 1) (c := rdC f n (tEn f n p) A) w1] at lt
          obtain ⟨M, W⟩ := wr_I M W eaq189 oq190 eSq192 (by decide) (by decide)
          obtain ⟨aq193, eaq193, h⟩ := h
          refine ⟨aq193, eaq193, ?_⟩
          cases W.1.symm.trans eaq193
          obtain ⟨oq194, h⟩ := h
          refine ⟨oq194, ?_⟩
          obtain ⟨aq195, eaq195, h⟩ := h
          refine ⟨aq195, eaq195, ?_⟩
          obtain ⟨oq196, h⟩ := h
          refine ⟨oq196, ?_⟩
          obtain ⟨oq197, h⟩ := h
          refine ⟨oq197, ?_⟩
          intro Sq198 eSq198
          have h := h Sq198 eSq198
          replace lt := ltm_I dm lt eaq195 eSq198 kx (by decide) (vN_none (by omega))
          rw [vN_S (s := 13) (N := 2) (c := rdC f n (tEn f n p) A) w2] at lt
          obtain ⟨M, W⟩ := wr_I M W eaq195 oq196 eSq198 (by decide) (by decide)
          obtain ⟨aq199, eaq199, h⟩ := h
          refine ⟨aq199, eaq199, ?_⟩
          cases W.1.symm.trans eaq199
          obtain ⟨oq200, h⟩ := h
          refine ⟨oq200, ?_⟩
          obtain ⟨aq201, eaq201, h⟩ := h
          refine ⟨aq201, eaq201, ?_⟩
          obtain ⟨oq202, h⟩ := h
          refine ⟨oq202, ?_⟩
          obtain ⟨oq203, h⟩ := h
          refine ⟨oq203, ?_⟩
          intro Sq204 eSq204
          have h := h Sq204 eSq204
          replace lt := ltm_I dm lt eaq201 eSq204 kx (by decide) (vN_none (by omega))
          rw [vN_S (s := 13) (N := 3) (c := rdC f n (tEn f n p) A) w3] at lt
          obtain ⟨M, W⟩ := wr_I M W eaq201 oq202 eSq204 (by decide) (by decide)
          obtain ⟨aq205, eaq205, h⟩ := h
          refine ⟨aq205, eaq205, ?_⟩
          cases W.1.symm.trans eaq205
          obtain ⟨oq206, h⟩ := h
          refine ⟨oq206, ?_⟩
          obtain ⟨aq207, eaq207, h⟩ := h
          refine ⟨aq207, eaq207, ?_⟩
          obtain ⟨oq208, h⟩ := h
          refine ⟨oq208, ?_⟩
          obtain ⟨oq209, h⟩ := h
          refine ⟨oq209, ?_⟩
          intro Sq210 eSq210
          have h := h Sq210 eSq210
          replace lt := ltm_I dm lt eaq207 eSq210 kx (by decide) (vN_none (by omega))
          rw [vN_S (s := 13) (N := 4) (c := rdC f n (tEn f n p) A) w4] at lt
          obtain ⟨M, W⟩ := wr_I M W eaq207 oq208 eSq210 (by decide) (by decide)
          obtain ⟨aq211, eaq211, h⟩ := h
          refine ⟨aq211, eaq211, ?_⟩
          cases W.1.symm.trans eaq211
          obtain ⟨oq212, h⟩ := h
          refine ⟨oq212, ?_⟩
          intro xq213 exq213
          have h := h xq213 exq213
          intro xq214 exq214
          have h := h xq214 exq214
          intro Sq215 eSq215
          have h := h Sq215 eSq215
          have eL := eSq215
          obtain ⟨M, W⟩ := wr_C (A' := up3 A) M W eL (by decide) (cn_3 W.2.2.1 eL (inc_ exq213 W.2.2.1.2.2.2.1 exq214)) rfl (ab_3 W.2.2.2.2.1 rk.2) (zc_h rk.1)
          replace lt := ltm_C dm lt eL
          exact ⟨h, lm_ok M rfl W, fun _ _ => lt⟩
        · intro cq216
          have EQ : rb (rb (.inl (tEn f n p5) : Res) (fun p => dc (isW f n p 17) (.inl (tEn f n p)) (.inl p))) (fun p => sWhole f n p (0 : Int32).toInt64 xq15.toInt64) = (rb (sRoom f n p (aH A) (aR A) 12) fun p => sRoad f n p A) := by
            rw [HL0]
            show rb (rb (.inl (tEn f n p5)) _) _ = dc (isW f n (tEn f n p5) 17) _ _
            rw [dc_y Ncq171]
            show rb (dc (isW f n (tEn f n p5) 17) _ _) _ = _
            rw [dc_y Ncq171]
            unfold sPart sWord
            rw [if_pos Ncq171, y4]
            rfl
          have h := h.2 cq216
          exact ⟨h, lm_ov M EQ (exq176.symm.trans cq216), fun q hq => absurd hq (lm_no M EQ (exq176.symm.trans cq216) q)⟩
    · intro cq217
      have ky : k2 = k1 := nI_inj (by omega) (by omega) (by rw [← y1, ← y2, cq217])
      rw [dc_y ky] at HL0
      have HL : (rb (sRoom f n p (aH A) (aR A) 12) fun p => sRoad f n p A) = .inr (3, tSt f n p5) := HL0
      have h := h.2 cq217
      refine cm_X11_flaw (sp_X11_flaw (k := 3) h M rfl) h (fun Sq218 hp h gq219 => ?_)
      have h := h gq219
      obtain ⟨-, M, G⟩ := hp
      have W := rm_F W G
      replace lt := ltm_F dm lt G
      have M : MS f n a v0 (.inr (3, tSt f n p5)) _ := M
      delta P_X11_readRoad_62
      obtain ⟨oq220, h⟩ := h
      refine ⟨oq220, ?_⟩
      refine cm_X11_goesOn (sp_X11_goesOn h M (fun q z => by cases z)) h (fun Sq221 hp h gq222 => ?_)
      have h := h gq222
      obtain ⟨-, M, G⟩ := hp
      have W := rm_F W G
      replace lt := ltm_F dm lt G
      have M : MS f n a v0 (.inr (3, tSt f n p5)) _ := M
      refine cm_X11_eatsWord (sp_X11_eatsWord (w := 17) h M (by decide)) h (fun xq223 Sq224 hp h gq225 bq226 => ?_)
      have h := h gq225 bq226
      obtain ⟨-, M, G, Vxq223⟩ := hp
      have W := rm_F W G
      replace lt := ltm_F dm lt G
      refine ⟨?_, ?_⟩
      · intro cq227
        have Ncq227 := an0 Vxq223 cq227
        have M := ms_eq M (rb_idd (fun p hp => (dc_n (hw_np Ncq227 hp)).symm)).symm
        have M : MS f n a v0 (.inr (3, tSt f n p5)) _ := M
        have h := h.1 cq227
        delta P_X11_readRoad_85
        obtain ⟨oq228, h⟩ := h
        refine ⟨oq228, ?_⟩
        intro xq229 exq229
        have h := h xq229 exq229
        refine ⟨?_, ?_⟩
        · intro cq230
          exact absurd (exq229.trans M.2.1.1) cq230
        · intro cq269
          have h := h.2 cq269
          exact ⟨h, lm_ov M HL.symm (exq229.symm.trans cq269), fun q hq => absurd hq (lm_no M HL.symm (exq229.symm.trans cq269) q)⟩
      · intro cq270
        have Ncq270 := an1 Vxq223 cq270
        exact Ncq270.elim
end Ct9
/-! the place line of the reference: what it writes -/
section Ct10
variable {f : Nat → Int32} {n a rd nm ns nk p : Nat} {A : AS} {σ : Res} {Q : Int32 → HS → Prop} {QU : HS → Prop} {S T : HS} {v0 : Nat}
theorem ltm_N {m k : Nat} {V : Nat → Option Int32} {S0 : HS} (D : DMr m rd S0) (h : LTm rd S0 S k V) (e1 : fR T = fR S) (e2 : ∀ b, b ≠ ns → b ≠ nk → b ≠ rd → fI T b = fI S b) (h29 : fR S rd 29 = some ns) (h30 : fR S rd 30 = some nk) : LTm rd S0 T k V := by
  rw [h.1] at h29 h30
  refine ⟨e1.trans h.1, fun i b h1 h2 e => ?_⟩
  rw [e2 b (fun z => absurd (D.2 i 29 b h1 (by omega) (by decide) (by decide) e (z ▸ h29)) (by omega)) (fun z => absurd (D.2 i 30 b h1 (by omega) (by decide) (by decide) e (z ▸ h30)) (by omega)) (D.1 i b h1 (by omega) e).2]
  exact h.2 i b h1 h2 e
def innOf (k : Nat) : Int32 := if k = 1 then 1 else 0
def treeOf (k : Nat) (v : Int32) : Int32 := if k = 2 then v else -2
def pV (k : Nat) (v : Int32) : Nat → Option Int32 := va_up (va_up (fun _ => none) 18 (some (innOf k))) 12 (some (treeOf k v))
theorem jj {a j : Nat} {v : Int64} (e : T = sJ S a j v) {b : Nat} : fI T b = fI S b := by rw [e]; rfl
theorem fr_X11_names {v1 : Int64} {v3 v4 : Int32} (h : P_X11_names v0 v1 v3 v4 QU S) (hrd : fR S v0 4 = some rd) (h29 : fR S rd 29 = some ns) (h30 : fR S rd 30 = some nk) : P_X11_names v0 v1 v3 v4 (fun T => QU T ∧ fR T = fR S ∧ ∀ b, b ≠ ns → b ≠ nk → b ≠ rd → fI T b = fI S b) S := by
  delta P_X11_names P_X11_names_0
  obtain ⟨o1, h⟩ := h
  refine ⟨o1, ?_⟩
  obtain ⟨a2, ea2, h⟩ := h
  refine ⟨a2, ea2, ?_⟩
  cases hrd.symm.trans ea2
  obtain ⟨o3, h⟩ := h
  refine ⟨o3, ?_⟩
  obtain ⟨a4, ea4, h⟩ := h
  refine ⟨a4, ea4, ?_⟩
  obtain ⟨a5, ea5, h⟩ := h
  refine ⟨a5, ea5, ?_⟩
  cases hrd.symm.trans ea5
  obtain ⟨o6, h⟩ := h
  refine ⟨o6, ?_⟩
  intro x7 ex7
  have h := h x7 ex7
  obtain ⟨o8, h⟩ := h
  refine ⟨o8, ?_⟩
  obtain ⟨o9, h⟩ := h
  refine ⟨o9, ?_⟩
  intro S10 eS10
  have h := h S10 eS10
  have R1 : fR S10 = fR S := by rw [eS10]; exact rfl
  obtain ⟨a11, ea11, h⟩ := h
  refine ⟨a11, ea11, ?_⟩
  rw [R1] at ea11
  cases hrd.symm.trans ea11
  obtain ⟨o12, h⟩ := h
  refine ⟨o12, ?_⟩
  obtain ⟨a13, ea13, h⟩ := h
  refine ⟨a13, ea13, ?_⟩
  rw [R1] at ea13
  cases h29.symm.trans ea13
  obtain ⟨a14, ea14, h⟩ := h
  refine ⟨a14, ea14, ?_⟩
  rw [R1] at ea14
  cases hrd.symm.trans ea14
  obtain ⟨o15, h⟩ := h
  refine ⟨o15, ?_⟩
  intro x16 ex16
  have h := h x16 ex16
  obtain ⟨o17, h⟩ := h
  refine ⟨o17, ?_⟩
  obtain ⟨o18, h⟩ := h
  refine ⟨o18, ?_⟩
  intro S19 eS19
  have h := h S19 eS19
  have R2 : fR S19 = fR S := by rw [eS19]; exact R1
  obtain ⟨a20, ea20, h⟩ := h
  refine ⟨a20, ea20, ?_⟩
  rw [R2] at ea20
  cases hrd.symm.trans ea20
  obtain ⟨o21, h⟩ := h
  refine ⟨o21, ?_⟩
  obtain ⟨a22, ea22, h⟩ := h
  refine ⟨a22, ea22, ?_⟩
  rw [R2] at ea22
  cases h30.symm.trans ea22
  obtain ⟨a23, ea23, h⟩ := h
  refine ⟨a23, ea23, ?_⟩
  rw [R2] at ea23
  cases hrd.symm.trans ea23
  obtain ⟨o24, h⟩ := h
  refine ⟨o24, ?_⟩
  intro x25 ex25
  have h := h x25 ex25
  obtain ⟨o26, h⟩ := h
  refine ⟨o26, ?_⟩
  obtain ⟨o27, h⟩ := h
  refine ⟨o27, ?_⟩
  intro S28 eS28
  have h := h S28 eS28
  have R3 : fR S28 = fR S := by rw [eS28]; exact R2
  obtain ⟨a29, ea29, h⟩ := h
  refine ⟨a29, ea29, ?_⟩
  rw [R3] at ea29
  cases hrd.symm.trans ea29
  obtain ⟨o30, h⟩ := h
  refine ⟨o30, ?_⟩
  intro x31 ex31
  have h := h x31 ex31
  intro x32 ex32
  have h := h x32 ex32
  intro S33 eS33
  have h := h S33 eS33
  have R4 : fR S33 = fR S := by rw [eS33]; exact R3
  exact ⟨h, R4, fun b hb1 hb2 hb3 => by rw [row_o eS33 hb3, row_o eS28 hb2, row_o eS19 hb1, jj eS10]⟩
theorem sq_X11_readPlace (h : P_X11_readPlace v0 QU S) (M : MS f n a v0 (.inl p) S) (W : RMw v0 rd nm ns nk A S) (dm : DMr v0 rd S) (hg : ∀ q, (.inl p : Res) = .inl q → tS f n q ≠ 6) (hAM : aM A = aP A + aW A) : P_X11_readPlace v0 (fun T => QU T ∧ LBm f n a v0 rd nm ns nk (rb (sRoom f n p (aH A) (aP A) 8) fun p => sPlace f n p A) (up2 (upN A (tV f n (tEn f n p)) (aP A))) T ∧ ∀ q, (rb (sRoom f n p (aH A) (aP A) 8) fun p => sPlace f n p A) = .inl q → LTm rd S T (aP A) (pV (plK f n (tEn f n p)) (plV f n (tEn f n p)))) S := by
  have lt := ltm_0 rd (aP A) S
  delta P_X11_readPlace P_X11_readPlace_0
  obtain ⟨oq1, h⟩ := h
  refine ⟨oq1, ?_⟩
  obtain ⟨aq2, eaq2, h⟩ := h
  refine ⟨aq2, eaq2, ?_⟩
  cases W.1.symm.trans eaq2
  obtain ⟨oq3, h⟩ := h
  refine ⟨oq3, ?_⟩
  intro xq4 exq4
  have h := h xq4 exq4
  refine cm_X11_begins (sp_X11_begins (c := aP A) (k := 8) h M W hg (exq4.trans W.2.2.1.2.2.1) rfl W.2.2.2.2.1.2.2.1 (by decide) (fun z => by have := W.2.2.2.2.2 z; omega)) h (fun Sq5 hp h gq6 => ?_)
  have h := h gq6
  obtain ⟨-, M, G⟩ := hp
  have W := rm_F W G
  replace lt := ltm_F dm lt G
  refine cm_X11_readFresh (sp_X11_readFresh h M W) h (fun xq7 Sq8 hp h gq9 => ?_)
  have h := h gq9
  obtain ⟨-, M, G, Vxq7⟩ := hp
  have W := rm_F W G
  replace lt := ltm_F dm lt G
  refine cm_X11_eatsWord (sp_X11_eatsWord (w := 15) h M (by decide)) h (fun xq10 Sq11 hp h gq12 bq13 => ?_)
  have h := h gq12 bq13
  obtain ⟨-, M, G, Vxq10⟩ := hp
  have W := rm_F W G
  replace lt := ltm_F dm lt G
  refine ⟨?_, ?_⟩
  · intro cq14
    have Ncq14 := an1 Vxq10 cq14
    have h := h.1 cq14
    delta P_X11_readPlace_48
    delta P_X11_readPlace_50
    obtain ⟨oq15, h⟩ := h
    refine ⟨oq15, ?_⟩
    intro xq16 exq16
    have h := h xq16 exq16
    refine ⟨?_, ?_⟩
    · intro cq17
      obtain ⟨q, hq⟩ := ms_ok M (fun z => cq17 (exq16.trans z))
      have M := ms_eq (τ := rb (sRoom f n p (aH A) (aP A) 8) fun p => sPlace f n p A) M ((rb_cg (k := fun p => dc (isW f n p 15) (.inl (tEn f n p)) (dc (isW f n p 16) (sPart f n p 16 0 9) (.inl p))) (fun q hq => by rw [dc_y (hw_p Ncq14 hq), dc_y (hw_p Ncq14 hq)])).trans (by simp only [rb_rb, sPlace]; rfl))
      have hq : (rb (sRoom f n p (aH A) (aP A) 8) fun p => sPlace f n p A) = .inl q := Eq.trans (Eq.symm ((rb_cg (k := fun p => dc (isW f n p 15) (.inl (tEn f n p)) (dc (isW f n p 16) (sPart f n p 16 0 9) (.inl p))) (fun q hq => by rw [dc_y (hw_p Ncq14 hq), dc_y (hw_p Ncq14 hq)])).trans (by simp only [rb_rb, sPlace]; rfl))) hq
      obtain ⟨p1, hp1, hq1⟩ := rb_inl hq
      unfold sPlace at hq1
      obtain ⟨p2, hp2, -⟩ := rb_inl hq1
      have z1 := room_e hp1
      have z2 := (sNew_inl hp2).1
      have z3 : rb (rb (.inl p : Res) (fun p => sRoom f n p (aH A) (aP A) 8)) (fun p => sNew f n p (aM A) (aV A) (aI A)) = .inl p2 := by
        show rb (sRoom f n p (aH A) (aP A) 8) _ = _
        rw [hp1]
        exact hp2
      have k15 : isW f n (tEn f n (tEn f n p)) 15 := by
        have z := hw_p Ncq14 z3
        rw [z2, z1] at z
        exact z
      have eK : plK f n (tEn f n p) = 1 := by unfold plK; rw [dc_y k15]
      have wI : vp_nar .boolean xq10 = innOf (plK f n (tEn f n p)) := by
        rw [eK]
        rcases Vxq10 with ⟨-, y⟩ | ⟨y, -⟩
        · rw [y]; rfl
        · exact absurd Ncq14 y
      have wT : (-2 : Int32) = treeOf (plK f n (tEn f n p)) (plV f n (tEn f n p)) := by rw [eK]; rfl
      have rk := room_ok hp1
      have hv := Vxq7 p1 p2 hp1 hp2
      rw [room_e hp1] at hv
      have h := h.1 cq17
      obtain ⟨aq18, eaq18, h⟩ := h
      refine ⟨aq18, eaq18, ?_⟩
      cases W.1.symm.trans eaq18
      obtain ⟨oq19, h⟩ := h
      refine ⟨oq19, ?_⟩
      intro xq20 exq20
      have h := h xq20 exq20
      have h29 := W.2.1.2.1
      have h30 := W.2.1.2.2.1
      refine cm_X11_names (sp_X11_names (idn := aP A) h M W (by have := W.2.2.2.2.1; have := rk.2; have := W.2.2.2.2.1.2.2.2.2.1; omega) (by rw [if_pos rk.2]) (by rw [if_pos rk.2, exq20]; exact W.2.2.1.2.2.1) (by have := rk.2; omega)) (fr_X11_names h W.1 h29 h30) (fun Sq21 hp hf gq22 => ?_)
      have h := hf.1
      replace lt := ltm_N dm lt hf.2.1 hf.2.2 h29 h30
      have h := h gq22
      obtain ⟨-, M, W⟩ := hp
      rw [hv] at W
      obtain ⟨aq23, eaq23, h⟩ := h
      refine ⟨aq23, eaq23, ?_⟩
      cases W.1.symm.trans eaq23
      obtain ⟨oq24, h⟩ := h
      refine ⟨oq24, ?_⟩
      obtain ⟨aq25, eaq25, h⟩ := h
      refine ⟨aq25, eaq25, ?_⟩
      obtain ⟨aq26, eaq26, h⟩ := h
      refine ⟨aq26, eaq26, ?_⟩
      cases W.1.symm.trans eaq26
      obtain ⟨oq27, h⟩ := h
      refine ⟨oq27, ?_⟩
      intro xq28 exq28
      have h := h xq28 exq28
      obtain ⟨oq29, h⟩ := h
      refine ⟨oq29, ?_⟩
      obtain ⟨oq30, h⟩ := h
      refine ⟨oq30, ?_⟩
      intro Sq31 eSq31
      have h := h Sq31 eSq31
      replace lt := ltm_I dm lt eaq25 eSq31 (by rw [exq28.trans W.2.2.1.2.2.1]; exact nI_cl (p := aP A) (by have := rk.2; omega)) (by decide) rfl
      rw [wI] at lt
      obtain ⟨M, W⟩ := wr_I M W eaq25 oq29 eSq31 (by decide) (by decide)
      obtain ⟨aq32, eaq32, h⟩ := h
      refine ⟨aq32, eaq32, ?_⟩
      cases W.1.symm.trans eaq32
      obtain ⟨oq33, h⟩ := h
      refine ⟨oq33, ?_⟩
      obtain ⟨aq34, eaq34, h⟩ := h
      refine ⟨aq34, eaq34, ?_⟩
      obtain ⟨aq35, eaq35, h⟩ := h
      refine ⟨aq35, eaq35, ?_⟩
      cases W.1.symm.trans eaq35
      obtain ⟨oq36, h⟩ := h
      refine ⟨oq36, ?_⟩
      intro xq37 exq37
      have h := h xq37 exq37
      obtain ⟨oq38, h⟩ := h
      refine ⟨oq38, ?_⟩
      obtain ⟨oq39, h⟩ := h
      refine ⟨oq39, ?_⟩
      intro Sq40 eSq40
      have h := h Sq40 eSq40
      replace lt := ltm_I dm lt eaq34 eSq40 (by rw [exq37.trans W.2.2.1.2.2.1]; exact nI_cl (p := aP A) (by have := rk.2; omega)) (by decide) rfl
      rw [wT] at lt
      obtain ⟨M, W⟩ := wr_I M W eaq34 oq38 eSq40 (by decide) (by decide)
      obtain ⟨aq41, eaq41, h⟩ := h
      refine ⟨aq41, eaq41, ?_⟩
      cases W.1.symm.trans eaq41
      obtain ⟨oq42, h⟩ := h
      refine ⟨oq42, ?_⟩
      intro xq43 exq43
      have h := h xq43 exq43
      intro xq44 exq44
      have h := h xq44 exq44
      intro Sq45 eSq45
      have h := h Sq45 eSq45
      have eL := eSq45
      obtain ⟨M, W⟩ := wr_C (A' := up2 (upN A (tV f n (tEn f n p)) (aP A))) M W eL (by decide) (cn_2 W.2.2.1 eL (inc_ exq43 W.2.2.1.2.2.1 exq44)) rfl (ab_2 W.2.2.2.2.1 rk.2) (zc_h rk.1)
      replace lt := ltm_C dm lt eL
      exact ⟨h, lm_ok M rfl W, fun _ _ => lt⟩
    · intro cq46
      exact ⟨h.2 cq46, lm_ov M ((rb_cg (k := fun p => dc (isW f n p 15) (.inl (tEn f n p)) (dc (isW f n p 16) (sPart f n p 16 0 9) (.inl p))) (fun q hq => by rw [dc_y (hw_p Ncq14 hq), dc_y (hw_p Ncq14 hq)])).trans (by simp only [rb_rb, sPlace]; rfl)) (exq16.symm.trans cq46), fun q hq => absurd hq (lm_no M ((rb_cg (k := fun p => dc (isW f n p 15) (.inl (tEn f n p)) (dc (isW f n p 16) (sPart f n p 16 0 9) (.inl p))) (fun q hq => by rw [dc_y (hw_p Ncq14 hq), dc_y (hw_p Ncq14 hq)])).trans (by simp only [rb_rb, sPlace]; rfl)) (exq16.symm.trans cq46) q)⟩
  · intro cq47
    have Ncq47 := an0 Vxq10 cq47
    have M := ms_eq M (rb_idd (fun p hp => (dc_n (hw_np Ncq47 hp)).symm)).symm
    have h := h.2 cq47
    refine cm_X11_eatsWord (sp_X11_eatsWord (w := 16) h M (by decide)) h (fun xq48 Sq49 hp h gq50 bq51 => ?_)
    have h := h gq50 bq51
    obtain ⟨-, M, G, Vxq48⟩ := hp
    have W := rm_F W G
    replace lt := ltm_F dm lt G
    refine ⟨?_, ?_⟩
    · intro cq52
      have Ncq52 := an0 Vxq48 cq52
      have M := ms_eq M (rb_idd (fun p hp => (dc_n (hw_np Ncq52 hp)).symm)).symm
      have h := h.1 cq52
      delta P_X11_readPlace_48
      delta P_X11_readPlace_50
      obtain ⟨oq53, h⟩ := h
      refine ⟨oq53, ?_⟩
      intro xq54 exq54
      have h := h xq54 exq54
      refine ⟨?_, ?_⟩
      · intro cq55
        obtain ⟨q, hq⟩ := ms_ok M (fun z => cq55 (exq54.trans z))
        have M := ms_eq (τ := rb (sRoom f n p (aH A) (aP A) 8) fun p => sPlace f n p A) M ((rb_idd (k := fun p => dc (isW f n p 15) (.inl (tEn f n p)) (dc (isW f n p 16) (sPart f n p 16 0 9) (.inl p))) (fun q hq => by rw [dc_n (hw_np Ncq47 hq), dc_n (hw_np Ncq52 hq)])).trans (by simp only [rb_rb, sPlace]; rfl))
        have hq : (rb (sRoom f n p (aH A) (aP A) 8) fun p => sPlace f n p A) = .inl q := Eq.trans (Eq.symm ((rb_idd (k := fun p => dc (isW f n p 15) (.inl (tEn f n p)) (dc (isW f n p 16) (sPart f n p 16 0 9) (.inl p))) (fun q hq => by rw [dc_n (hw_np Ncq47 hq), dc_n (hw_np Ncq52 hq)])).trans (by simp only [rb_rb, sPlace]; rfl))) hq
        obtain ⟨p1, hp1, hq1⟩ := rb_inl hq
        unfold sPlace at hq1
        obtain ⟨p2, hp2, -⟩ := rb_inl hq1
        have z1 := room_e hp1
        have z2 := (sNew_inl hp2).1
        have z3 : rb (rb (.inl p : Res) (fun p => sRoom f n p (aH A) (aP A) 8)) (fun p => sNew f n p (aM A) (aV A) (aI A)) = .inl p2 := by
          show rb (sRoom f n p (aH A) (aP A) 8) _ = _
          rw [hp1]
          exact hp2
        have k15 : ¬ isW f n (tEn f n (tEn f n p)) 15 := by
          have z := hw_np Ncq47 z3
          rw [z2, z1] at z
          exact z
        have k16 : ¬ isW f n (tEn f n (tEn f n p)) 16 := by
          have z := hw_np Ncq52 z3
          rw [z2, z1] at z
          exact z
        have eK : plK f n (tEn f n p) = 0 := by unfold plK; rw [dc_n k15, dc_n k16]
        have wI : vp_nar .boolean xq10 = innOf (plK f n (tEn f n p)) := by
          rw [eK]
          rcases Vxq10 with ⟨y, -⟩ | ⟨-, y⟩
          · exact absurd y Ncq47
          · rw [y]; rfl
        have wT : (-2 : Int32) = treeOf (plK f n (tEn f n p)) (plV f n (tEn f n p)) := by rw [eK]; rfl
        have rk := room_ok hp1
        have hv := Vxq7 p1 p2 hp1 hp2
        rw [room_e hp1] at hv
        have h := h.1 cq55
        obtain ⟨aq56, eaq56, h⟩ := h
        refine ⟨aq56, eaq56, ?_⟩
        cases W.1.symm.trans eaq56
        obtain ⟨oq57, h⟩ := h
        refine ⟨oq57, ?_⟩
        intro xq58 exq58
        have h := h xq58 exq58
        have h29 := W.2.1.2.1
        have h30 := W.2.1.2.2.1
        refine cm_X11_names (sp_X11_names (idn := aP A) h M W (by have := W.2.2.2.2.1; have := rk.2; have := W.2.2.2.2.1.2.2.2.2.1; omega) (by rw [if_pos rk.2]) (by rw [if_pos rk.2, exq58]; exact W.2.2.1.2.2.1) (by have := rk.2; omega)) (fr_X11_names h W.1 h29 h30) (fun Sq59 hp hf gq60 => ?_)
        have h := hf.1
        replace lt := ltm_N dm lt hf.2.1 hf.2.2 h29 h30
        have h := h gq60
        obtain ⟨-, M, W⟩ := hp
        rw [hv] at W
        obtain ⟨aq61, eaq61, h⟩ := h
        refine ⟨aq61, eaq61, ?_⟩
        cases W.1.symm.trans eaq61
        obtain ⟨oq62, h⟩ := h
        refine ⟨oq62, ?_⟩
        obtain ⟨aq63, eaq63, h⟩ := h
        refine ⟨aq63, eaq63, ?_⟩
        obtain ⟨aq64, eaq64, h⟩ := h
        refine ⟨aq64, eaq64, ?_⟩
        cases W.1.symm.trans eaq64
        obtain ⟨oq65, h⟩ := h
        refine ⟨oq65, ?_⟩
        intro xq66 exq66
        have h := h xq66 exq66
        obtain ⟨oq67, h⟩ := h
        refine ⟨oq67, ?_⟩
        obtain ⟨oq68, h⟩ := h
        refine ⟨oq68, ?_⟩
        intro Sq69 eSq69
        have h := h Sq69 eSq69
        replace lt := ltm_I dm lt eaq63 eSq69 (by rw [exq66.trans W.2.2.1.2.2.1]; exact nI_cl (p := aP A) (by have := rk.2; omega)) (by decide) rfl
        rw [wI] at lt
        obtain ⟨M, W⟩ := wr_I M W eaq63 oq67 eSq69 (by decide) (by decide)
        obtain ⟨aq70, eaq70, h⟩ := h
        refine ⟨aq70, eaq70, ?_⟩
        cases W.1.symm.trans eaq70
        obtain ⟨oq71, h⟩ := h
        refine ⟨oq71, ?_⟩
        obtain ⟨aq72, eaq72, h⟩ := h
        refine ⟨aq72, eaq72, ?_⟩
        obtain ⟨aq73, eaq73, h⟩ := h
        refine ⟨aq73, eaq73, ?_⟩
        cases W.1.symm.trans eaq73
        obtain ⟨oq74, h⟩ := h
        refine ⟨oq74, ?_⟩
        intro xq75 exq75
        have h := h xq75 exq75
        obtain ⟨oq76, h⟩ := h
        refine ⟨oq76, ?_⟩
        obtain ⟨oq77, h⟩ := h
        refine ⟨oq77, ?_⟩
        intro Sq78 eSq78
        have h := h Sq78 eSq78
        replace lt := ltm_I dm lt eaq72 eSq78 (by rw [exq75.trans W.2.2.1.2.2.1]; exact nI_cl (p := aP A) (by have := rk.2; omega)) (by decide) rfl
        rw [wT] at lt
        obtain ⟨M, W⟩ := wr_I M W eaq72 oq76 eSq78 (by decide) (by decide)
        obtain ⟨aq79, eaq79, h⟩ := h
        refine ⟨aq79, eaq79, ?_⟩
        cases W.1.symm.trans eaq79
        obtain ⟨oq80, h⟩ := h
        refine ⟨oq80, ?_⟩
        intro xq81 exq81
        have h := h xq81 exq81
        intro xq82 exq82
        have h := h xq82 exq82
        intro Sq83 eSq83
        have h := h Sq83 eSq83
        have eL := eSq83
        obtain ⟨M, W⟩ := wr_C (A' := up2 (upN A (tV f n (tEn f n p)) (aP A))) M W eL (by decide) (cn_2 W.2.2.1 eL (inc_ exq81 W.2.2.1.2.2.1 exq82)) rfl (ab_2 W.2.2.2.2.1 rk.2) (zc_h rk.1)
        replace lt := ltm_C dm lt eL
        exact ⟨h, lm_ok M rfl W, fun _ _ => lt⟩
      · intro cq84
        exact ⟨h.2 cq84, lm_ov M ((rb_idd (k := fun p => dc (isW f n p 15) (.inl (tEn f n p)) (dc (isW f n p 16) (sPart f n p 16 0 9) (.inl p))) (fun q hq => by rw [dc_n (hw_np Ncq47 hq), dc_n (hw_np Ncq52 hq)])).trans (by simp only [rb_rb, sPlace]; rfl)) (exq54.symm.trans cq84), fun q hq => absurd hq (lm_no M ((rb_idd (k := fun p => dc (isW f n p 15) (.inl (tEn f n p)) (dc (isW f n p 16) (sPart f n p 16 0 9) (.inl p))) (fun q hq => by rw [dc_n (hw_np Ncq47 hq), dc_n (hw_np Ncq52 hq)])).trans (by simp only [rb_rb, sPlace]; rfl)) (exq54.symm.trans cq84) q)⟩
    · intro cq85
      have Ncq85 := an1 Vxq48 cq85
      have h := h.2 cq85
      refine cm_X11_readWhole (sp_X11_readWhole h M) h (fun xq86 Sq87 hp h gq88 => ?_)
      have h := h gq88
      obtain ⟨-, M, G, Vxq86⟩ := hp
      have W := rm_F W G
      replace lt := ltm_F dm lt G
      delta P_X11_readPlace_50
      obtain ⟨oq89, h⟩ := h
      refine ⟨oq89, ?_⟩
      intro xq90 exq90
      have h := h xq90 exq90
      refine ⟨?_, ?_⟩
      · intro cq91
        obtain ⟨q, hq⟩ := ms_ok M (fun z => cq91 (exq90.trans z))
        have hq0 := hq
        have M := ms_eq (τ := rb (sRoom f n p (aH A) (aP A) 8) fun p => sPlace f n p A) M ((rb_rb.trans (rb_cg (k := fun p => dc (isW f n p 15) (.inl (tEn f n p)) (dc (isW f n p 16) (sPart f n p 16 0 9) (.inl p))) (fun q hq => by rw [dc_y (hw_p Ncq85 hq), dc_n (hw_np Ncq47 hq), dc_y (hw_p Ncq85 hq)]; unfold sPart sWord; rw [if_pos (hw_p Ncq85 hq)]; rfl))).trans (by simp only [rb_rb, sPlace]; rfl))
        have hq : (rb (sRoom f n p (aH A) (aP A) 8) fun p => sPlace f n p A) = .inl q := Eq.trans (Eq.symm ((rb_rb.trans (rb_cg (k := fun p => dc (isW f n p 15) (.inl (tEn f n p)) (dc (isW f n p 16) (sPart f n p 16 0 9) (.inl p))) (fun q hq => by rw [dc_y (hw_p Ncq85 hq), dc_n (hw_np Ncq47 hq), dc_y (hw_p Ncq85 hq)]; unfold sPart sWord; rw [if_pos (hw_p Ncq85 hq)]; rfl))).trans (by simp only [rb_rb, sPlace]; rfl))) hq
        obtain ⟨p1, hp1, hq1⟩ := rb_inl hq
        unfold sPlace at hq1
        obtain ⟨p2, hp2, -⟩ := rb_inl hq1
        have z1 := room_e hp1
        have z2 := (sNew_inl hp2).1
        have z3 : rb (rb (.inl p : Res) (fun p => sRoom f n p (aH A) (aP A) 8)) (fun p => sNew f n p (aM A) (aV A) (aI A)) = .inl p2 := by
          show rb (sRoom f n p (aH A) (aP A) 8) _ = _
          rw [hp1]
          exact hp2
        have k15 : ¬ isW f n (tEn f n (tEn f n p)) 15 := by
          have z := hw_np Ncq47 z3
          rw [z2, z1] at z
          exact z
        have k16 : isW f n (tEn f n (tEn f n p)) 16 := by
          have z := hw_p Ncq85 z3
          rw [z2, z1] at z
          exact z
        have eK : plK f n (tEn f n p) = 2 := by unfold plK; rw [dc_n k15, dc_y k16]
        have eV : plV f n (tEn f n p) = pVal f n (tEn f n (tEn f n p)) := by unfold plV; rw [dc_n k15, dc_y k16]
        have wI : vp_nar .boolean xq10 = innOf (plK f n (tEn f n p)) := by
          rw [eK]
          rcases Vxq10 with ⟨y, -⟩ | ⟨-, y⟩
          · exact absurd y Ncq47
          · rw [y]; rfl
        have wT : xq86 = treeOf (plK f n (tEn f n p)) (plV f n (tEn f n p)) := by
          obtain ⟨p8, h8, h9⟩ := rb_inl hq0
          rw [i32_of (Vxq86 p8 q h8 h9), eK, eV]
          have h8 : rb (rb (rb (.inl p : Res) (fun p => sRoom f n p (aH A) (aP A) 8)) (fun p => sNew f n p (aM A) (aV A) (aI A))) (fun p => dc (isW f n p 16) (.inl (tEn f n p)) (.inl p)) = (.inl p8 : Res) := h8
          rw [z3] at h8
          have h8 : dc (isW f n p2 16) (.inl (tEn f n p2)) (.inl p2) = (.inl p8 : Res) := h8
          rw [z2, z1, dc_y k16] at h8
          cases h8
          rfl
        have rk := room_ok hp1
        have hv := Vxq7 p1 p2 hp1 hp2
        rw [room_e hp1] at hv
        have h := h.1 cq91
        obtain ⟨aq92, eaq92, h⟩ := h
        refine ⟨aq92, eaq92, ?_⟩
        cases W.1.symm.trans eaq92
        obtain ⟨oq93, h⟩ := h
        refine ⟨oq93, ?_⟩
        intro xq94 exq94
        have h := h xq94 exq94
        have h29 := W.2.1.2.1
        have h30 := W.2.1.2.2.1
        refine cm_X11_names (sp_X11_names (idn := aP A) h M W (by have := W.2.2.2.2.1; have := rk.2; have := W.2.2.2.2.1.2.2.2.2.1; omega) (by rw [if_pos rk.2]) (by rw [if_pos rk.2, exq94]; exact W.2.2.1.2.2.1) (by have := rk.2; omega)) (fr_X11_names h W.1 h29 h30) (fun Sq95 hp hf gq96 => ?_)
        have h := hf.1
        replace lt := ltm_N dm lt hf.2.1 hf.2.2 h29 h30
        have h := h gq96
        obtain ⟨-, M, W⟩ := hp
        rw [hv] at W
        obtain ⟨aq97, eaq97, h⟩ := h
        refine ⟨aq97, eaq97, ?_⟩
        cases W.1.symm.trans eaq97
        obtain ⟨oq98, h⟩ := h
        refine ⟨oq98, ?_⟩
        obtain ⟨aq99, eaq99, h⟩ := h
        refine ⟨aq99, eaq99, ?_⟩
        obtain ⟨aq100, eaq100, h⟩ := h
        refine ⟨aq100, eaq100, ?_⟩
        cases W.1.symm.trans eaq100
        obtain ⟨oq101, h⟩ := h
        refine ⟨oq101, ?_⟩
        intro xq102 exq102
        have h := h xq102 exq102
        obtain ⟨oq103, h⟩ := h
        refine ⟨oq103, ?_⟩
        obtain ⟨oq104, h⟩ := h
        refine ⟨oq104, ?_⟩
        intro Sq105 eSq105
        have h := h Sq105 eSq105
        replace lt := ltm_I dm lt eaq99 eSq105 (by rw [exq102.trans W.2.2.1.2.2.1]; exact nI_cl (p := aP A) (by have := rk.2; omega)) (by decide) rfl
        rw [wI] at lt
        obtain ⟨M, W⟩ := wr_I M W eaq99 oq103 eSq105 (by decide) (by decide)
        obtain ⟨aq106, eaq106, h⟩ := h
        refine ⟨aq106, eaq106, ?_⟩
        cases W.1.symm.trans eaq106
        obtain ⟨oq107, h⟩ := h
        refine ⟨oq107, ?_⟩
        obtain ⟨aq108, eaq108, h⟩ := h
        refine ⟨aq108, eaq108, ?_⟩
        obtain ⟨aq109, eaq109, h⟩ := h
        refine ⟨aq109, eaq109, ?_⟩
        cases W.1.symm.trans eaq109
        obtain ⟨oq110, h⟩ := h
        refine ⟨oq110, ?_⟩
        intro xq111 exq111
        have h := h xq111 exq111
        obtain ⟨oq112, h⟩ := h
        refine ⟨oq112, ?_⟩
        obtain ⟨oq113, h⟩ := h
        refine ⟨oq113, ?_⟩
        intro Sq114 eSq114
        have h := h Sq114 eSq114
        replace lt := ltm_I dm lt eaq108 eSq114 (by rw [exq111.trans W.2.2.1.2.2.1]; exact nI_cl (p := aP A) (by have := rk.2; omega)) (by decide) rfl
        rw [wT] at lt
        obtain ⟨M, W⟩ := wr_I M W eaq108 oq112 eSq114 (by decide) (by decide)
        obtain ⟨aq115, eaq115, h⟩ := h
        refine ⟨aq115, eaq115, ?_⟩
        cases W.1.symm.trans eaq115
        obtain ⟨oq116, h⟩ := h
        refine ⟨oq116, ?_⟩
        intro xq117 exq117
        have h := h xq117 exq117
        intro xq118 exq118
        have h := h xq118 exq118
        intro Sq119 eSq119
        have h := h Sq119 eSq119
        have eL := eSq119
        obtain ⟨M, W⟩ := wr_C (A' := up2 (upN A (tV f n (tEn f n p)) (aP A))) M W eL (by decide) (cn_2 W.2.2.1 eL (inc_ exq117 W.2.2.1.2.2.1 exq118)) rfl (ab_2 W.2.2.2.2.1 rk.2) (zc_h rk.1)
        replace lt := ltm_C dm lt eL
        exact ⟨h, lm_ok M rfl W, fun _ _ => lt⟩
      · intro cq120
        exact ⟨h.2 cq120, lm_ov M ((rb_rb.trans (rb_cg (k := fun p => dc (isW f n p 15) (.inl (tEn f n p)) (dc (isW f n p 16) (sPart f n p 16 0 9) (.inl p))) (fun q hq => by rw [dc_y (hw_p Ncq85 hq), dc_n (hw_np Ncq47 hq), dc_y (hw_p Ncq85 hq)]; unfold sPart sWord; rw [if_pos (hw_p Ncq85 hq)]; rfl))).trans (by simp only [rb_rb, sPlace]; rfl)) (exq90.symm.trans cq120), fun q hq => absurd hq (lm_no M ((rb_rb.trans (rb_cg (k := fun p => dc (isW f n p 15) (.inl (tEn f n p)) (dc (isW f n p 16) (sPart f n p 16 0 9) (.inl p))) (fun q hq => by rw [dc_y (hw_p Ncq85 hq), dc_n (hw_np Ncq47 hq), dc_y (hw_p Ncq85 hq)]; unfold sPart sWord; rw [if_pos (hw_p Ncq85 hq)]; rfl))).trans (by simp only [rb_rb, sPlace]; rfl)) (exq90.symm.trans cq120) q)⟩
end Ct10
/-! the walker line of the reference: what it writes -/
section Ct11
variable {f : Nat → Int32} {n a rd nm ns nk p : Nat} {A : AS} {σ : Res} {Q : Int32 → HS → Prop} {QU : HS → Prop} {S T : HS} {v0 : Nat}
noncomputable def wkR (f : Nat → Int32) (n q : Nat) (v3 v4 s0 : Int32) (j : Nat) : Int32 :=
  if j = 0 then v3 else if j = 1 then v4
  else if j = 2 then pVal f n q * (pVal f n (e2 f n q) + s0)
  else if j = 3 then pVal f n q * (pVal f n (e2 f n (e2 f n q)) - s0)
  else if j = 4 then (pVal f n (e2 f n q) + s0) * (pVal f n (e2 f n (e2 f n q)) - s0)
  else if j = 5 then pVal f n (e2 f n (e2 f n (e2 f n q))) else pVal f n (e2 f n (e2 f n (e2 f n (e2 f n q))))
theorem wkR_C {P q : Nat} {v3 v4 s0 : Int32} (hk : v3 = nI (kdOf f n (tEn f n P))) (ha : v4 = amOf f n (tEn f n P)) (hb : s0 = bowOf f n (tEn f n P)) (hp : q = kEn f n (tEn f n P)) : wkR f n q v3 v4 s0 = wkC f n P := by
  rw [hk, ha, hb, hp]
  rfl
theorem ko_0 {q : Nat} (h : isW f n q 21) : kdOf f n q = 0 ∧ amOf f n q = 0 ∧ bowOf f n q = 0 ∧ kEn f n q = tEn f n q := by
  unfold bowOf amOf kdOf kEn
  rw [dc_n (wk_no h cds.1), dc_n (wk_no h cds.2.1), dc_n (wk_no h cds.2.2.1), dc_n (wk_no h cds.1), dc_n (wk_no h cds.2.1), dc_n (wk_no h cds.2.2.1), dc_n (wk_no h cds.1), dc_n (wk_no h cds.2.1), dc_n (wk_no h cds.2.2.1)]
  exact ⟨rfl, rfl, rfl, rfl⟩
theorem ko_1 {q : Nat} (h : isW f n q 18) : kdOf f n q = 1 ∧ amOf f n q = pVal f n q ∧ bowOf f n q = pVal f n q ∧ kEn f n q = e2 f n q := by
  unfold bowOf amOf kdOf kEn
  rw [dc_y h, dc_y h, dc_y h]
  exact ⟨rfl, rfl, rfl, rfl⟩
theorem ko_2 {q : Nat} (h : isW f n q 19) : kdOf f n q = 2 ∧ amOf f n q = pVal f n q ∧ bowOf f n q = 0 ∧ kEn f n q = e2 f n q := by
  unfold bowOf amOf kdOf kEn
  rw [dc_n (wk_no h cds.2.2.2.2.2.2.1), dc_y h, dc_n (wk_no h cds.2.2.2.2.2.2.1), dc_y h, dc_n (wk_no h cds.2.2.2.2.2.2.1), dc_y h]
  exact ⟨rfl, rfl, rfl, rfl⟩
theorem ko_3 {q : Nat} (h : isW f n q 20) : kdOf f n q = 3 ∧ amOf f n q = pVal f n q ∧ bowOf f n q = 0 ∧ kEn f n q = e2 f n q := by
  unfold bowOf amOf kdOf kEn
  rw [dc_n (wk_no h cds.2.2.2.2.2.2.2.1), dc_n (wk_no h cds.2.2.2.2.2.2.2.2), dc_y h, dc_n (wk_no h cds.2.2.2.2.2.2.2.1), dc_n (wk_no h cds.2.2.2.2.2.2.2.2), dc_y h, dc_n (wk_no h cds.2.2.2.2.2.2.2.1), dc_n (wk_no h cds.2.2.2.2.2.2.2.2), dc_y h]
  exact ⟨rfl, rfl, rfl, rfl⟩
set_option maxHeartbeats 1000000 in
theorem wq149 {S0 : HS} {Z : HS → Prop} {R L : Res} {v1 vn : Int64} {v3 v4 s0 : Int32} (h : P_X11_readWalker_149 QU v0 v1 v3 v4 s0 S) (M : MS f n a v0 R S) (W : RMw v0 rd nm ns nk A S) (hAM : aM A = aP A + aW A) (hR : ∀ q, R = .inl q → v1 = vn ∧ aW A < 4 ∧ aH A ≠ 0) (dm : DMr v0 rd S0) (lt : LTm rd S0 S (aW A) (fun _ => none)) (hz : ∀ q T, R = .inl q → LTm rd S0 T (aW A) (vN 19 7 (wkR f n q v3 v4 s0)) → Z T) (HL : rb R (fun p => sTail f n (s0 + 1) p) = L) : P_X11_readWalker_149 (fun T => QU T ∧ LBm f n a v0 rd nm ns nk L (up4 (upN A vn (8 + aW A))) T ∧ ∀ q, L = .inl q → Z T) v0 v1 v3 v4 s0 S := by
  delta P_X11_readWalker_149
  obtain ⟨oq1, h⟩ := h
  refine ⟨oq1, ?_⟩
  refine cm_X11_readPart (sp_X11_readPart (w := 22) h M (by decide)) h (fun xq2 Sq3 hp h gq4 => ?_)
  have h := h gq4
  obtain ⟨-, M, G, Vxq2⟩ := hp
  have W := rm_F W G
  replace lt := ltm_F dm lt G
  refine cm_X11_readPart (sp_X11_readPart (w := 23) h M (by decide)) h (fun xq5 Sq6 hp h gq7 => ?_)
  have h := h gq7
  obtain ⟨-, M, G, Vxq5⟩ := hp
  have W := rm_F W G
  replace lt := ltm_F dm lt G
  refine cm_X11_readPart (sp_X11_readPart (w := 24) h M (by decide)) h (fun xq8 Sq9 hp h gq10 => ?_)
  have h := h gq10
  obtain ⟨-, M, G, Vxq8⟩ := hp
  have W := rm_F W G
  replace lt := ltm_F dm lt G
  refine cm_X11_readPart (sp_X11_readPart (w := 25) h M (by decide)) h (fun xq11 Sq12 hp h gq13 => ?_)
  have h := h gq13
  obtain ⟨-, M, G, Vxq11⟩ := hp
  have W := rm_F W G
  replace lt := ltm_F dm lt G
  refine cm_X11_readPart (sp_X11_readPart (w := 26) h M (by decide)) h (fun xq14 Sq15 hp h gq16 => ?_)
  have h := h gq16
  obtain ⟨-, M, G, Vxq14⟩ := hp
  have W := rm_F W G
  replace lt := ltm_F dm lt G
  intro xq17 exq17
  have h := h xq17 exq17
  refine ⟨?_, ?_⟩
  · intro cq18
    obtain ⟨qa, hqa⟩ := ms_ok M (fun z => cq18 (exq17.trans z))
    obtain ⟨p4, h4, g5⟩ := rb_inl hqa
    obtain ⟨p3, h3, g4⟩ := rb_inl h4
    obtain ⟨p2, h2, g3⟩ := rb_inl h3
    obtain ⟨p1, h1, g2⟩ := rb_inl h2
    obtain ⟨p0, h0, g1⟩ := rb_inl h1
    have y0 := Vxq2 p0 p1 h0 g1
    have y1 := Vxq5 p1 p2 h1 g2
    have y2 := Vxq8 p2 p3 h2 g3
    have y3 := Vxq11 p3 p4 h3 g4
    have y4 := Vxq14 p4 qa h4 g5
    rw [sPart_inl g1] at y1
    rw [sPart_inl g2, sPart_inl g1] at y2
    rw [sPart_inl g3, sPart_inl g2, sPart_inl g1] at y3
    rw [sPart_inl g4, sPart_inl g3, sPart_inl g2, sPart_inl g1] at y4
    rw [vN_0 19 (wkR f n p0 v3 v4 s0)] at lt
    have M := ms_eq (τ := L) M (by
      rw [← HL]
      refine rb_rb.trans (Eq.trans (rb_cg (fun p3 hp3 => rb_cg (k := fun p4 => sPart f n p4 26 (pVal f n p3).toInt64 9) (fun p4 hp4 => by rw [Vxq11 p3 p4 hp3 hp4, l64_9]))) ?_)
      simp only [rb_rb, sTail, sBody, l64_0, l64_1, l64_5, l64_8, l64_9, l64_60, l64_99, l64_100, l64_999])
    obtain ⟨q, hq⟩ := ms_ok M (fun z => cq18 (exq17.trans z))
    obtain ⟨q0, hq0, -⟩ := rb_inl (HL.trans hq)
    obtain ⟨hv, hw4, hH⟩ := hR q0 hq0
    have h := h.1 cq18
    obtain ⟨aq19, eaq19, h⟩ := h
    refine ⟨aq19, eaq19, ?_⟩
    cases W.1.symm.trans eaq19
    obtain ⟨oq20, h⟩ := h
    refine ⟨oq20, ?_⟩
    intro xq21 exq21
    have h := h xq21 exq21
    have kx : xq21.toNatClampNeg = aW A := by rw [exq21.trans W.2.2.1.2.2.2.2.1]; exact nI_cl (by omega)
    have h29 := W.2.1.2.1
    have h30 := W.2.1.2.2.1
    refine cm_X11_names (sp_X11_names (idn := 8 + aW A) h M W (by have := W.2.2.2.2.1.2.2.1; omega) (by rw [if_neg (by omega)]) (by rw [if_neg (by omega), exq21, Nat.add_sub_cancel_left]; exact W.2.2.1.2.2.2.2.1) (by omega)) (fr_X11_names h W.1 h29 h30) (fun Sq22 hp hf gq23 => ?_)
    have h := hf.1
    replace lt := ltm_N dm lt hf.2.1 hf.2.2 h29 h30
    have h := h gq23
    obtain ⟨-, M, W⟩ := hp
    rw [hv] at W
    obtain ⟨aq24, eaq24, h⟩ := h
    refine ⟨aq24, eaq24, ?_⟩
    cases W.1.symm.trans eaq24
    obtain ⟨oq25, h⟩ := h
    refine ⟨oq25, ?_⟩
    obtain ⟨aq26, eaq26, h⟩ := h
    refine ⟨aq26, eaq26, ?_⟩
    obtain ⟨oq27, h⟩ := h
    refine ⟨oq27, ?_⟩
    obtain ⟨oq28, h⟩ := h
    refine ⟨oq28, ?_⟩
    intro Sq29 eSq29
    have h := h Sq29 eSq29
    replace lt := ltm_I dm lt eaq26 eSq29 kx (by decide) (vN_none (by omega))
    rw [vN_S (s := 19) (N := 0) (c := wkR f n p0 v3 v4 s0) (by simp [wkR])] at lt
    obtain ⟨M, W⟩ := wr_I M W eaq26 oq27 eSq29 (by decide) (by decide)
    obtain ⟨aq30, eaq30, h⟩ := h
    refine ⟨aq30, eaq30, ?_⟩
    cases W.1.symm.trans eaq30
    obtain ⟨oq31, h⟩ := h
    refine ⟨oq31, ?_⟩
    obtain ⟨aq32, eaq32, h⟩ := h
    refine ⟨aq32, eaq32, ?_⟩
    obtain ⟨oq33, h⟩ := h
    refine ⟨oq33, ?_⟩
    obtain ⟨oq34, h⟩ := h
    refine ⟨oq34, ?_⟩
    intro Sq35 eSq35
    have h := h Sq35 eSq35
    replace lt := ltm_I dm lt eaq32 eSq35 kx (by decide) (vN_none (by omega))
    rw [vN_S (s := 19) (N := 1) (c := wkR f n p0 v3 v4 s0) (by simp [wkR])] at lt
    obtain ⟨M, W⟩ := wr_I M W eaq32 oq33 eSq35 (by decide) (by decide)
    obtain ⟨aq36, eaq36, h⟩ := h
    refine ⟨aq36, eaq36, ?_⟩
    cases W.1.symm.trans eaq36
    obtain ⟨oq37, h⟩ := h
    refine ⟨oq37, ?_⟩
    obtain ⟨aq38, eaq38, h⟩ := h
    refine ⟨aq38, eaq38, ?_⟩
    obtain ⟨oq39, h⟩ := h
    refine ⟨oq39, ?_⟩
    intro xq40 exq40
    have h := h xq40 exq40
    obtain ⟨oq41, h⟩ := h
    refine ⟨oq41, ?_⟩
    intro Sq42 eSq42
    have h := h Sq42 eSq42
    replace lt := ltm_I dm lt eaq38 eSq42 kx (by decide) (vN_none (by omega))
    rw [vN_S (s := 19) (N := 2) (c := wkR f n p0 v3 v4 s0) (by rw [exq40, y0, y1]; rfl)] at lt
    obtain ⟨M, W⟩ := wr_I M W eaq38 oq39 eSq42 (by decide) (by decide)
    obtain ⟨aq43, eaq43, h⟩ := h
    refine ⟨aq43, eaq43, ?_⟩
    cases W.1.symm.trans eaq43
    obtain ⟨oq44, h⟩ := h
    refine ⟨oq44, ?_⟩
    obtain ⟨aq45, eaq45, h⟩ := h
    refine ⟨aq45, eaq45, ?_⟩
    obtain ⟨oq46, h⟩ := h
    refine ⟨oq46, ?_⟩
    intro xq47 exq47
    have h := h xq47 exq47
    obtain ⟨oq48, h⟩ := h
    refine ⟨oq48, ?_⟩
    intro Sq49 eSq49
    have h := h Sq49 eSq49
    replace lt := ltm_I dm lt eaq45 eSq49 kx (by decide) (vN_none (by omega))
    rw [vN_S (s := 19) (N := 3) (c := wkR f n p0 v3 v4 s0) (by rw [exq47, y0, y2]; rfl)] at lt
    obtain ⟨M, W⟩ := wr_I M W eaq45 oq46 eSq49 (by decide) (by decide)
    obtain ⟨aq50, eaq50, h⟩ := h
    refine ⟨aq50, eaq50, ?_⟩
    cases W.1.symm.trans eaq50
    obtain ⟨oq51, h⟩ := h
    refine ⟨oq51, ?_⟩
    obtain ⟨aq52, eaq52, h⟩ := h
    refine ⟨aq52, eaq52, ?_⟩
    obtain ⟨oq53, h⟩ := h
    refine ⟨oq53, ?_⟩
    intro xq54 exq54
    have h := h xq54 exq54
    obtain ⟨oq55, h⟩ := h
    refine ⟨oq55, ?_⟩
    intro Sq56 eSq56
    have h := h Sq56 eSq56
    replace lt := ltm_I dm lt eaq52 eSq56 kx (by decide) (vN_none (by omega))
    rw [vN_S (s := 19) (N := 4) (c := wkR f n p0 v3 v4 s0) (by rw [exq54, y1, y2]; rfl)] at lt
    obtain ⟨M, W⟩ := wr_I M W eaq52 oq53 eSq56 (by decide) (by decide)
    obtain ⟨aq57, eaq57, h⟩ := h
    refine ⟨aq57, eaq57, ?_⟩
    cases W.1.symm.trans eaq57
    obtain ⟨oq58, h⟩ := h
    refine ⟨oq58, ?_⟩
    obtain ⟨aq59, eaq59, h⟩ := h
    refine ⟨aq59, eaq59, ?_⟩
    obtain ⟨oq60, h⟩ := h
    refine ⟨oq60, ?_⟩
    obtain ⟨oq61, h⟩ := h
    refine ⟨oq61, ?_⟩
    intro Sq62 eSq62
    have h := h Sq62 eSq62
    replace lt := ltm_I dm lt eaq59 eSq62 kx (by decide) (vN_none (by omega))
    rw [vN_S (s := 19) (N := 5) (c := wkR f n p0 v3 v4 s0) (by rw [y3]; rfl)] at lt
    obtain ⟨M, W⟩ := wr_I M W eaq59 oq60 eSq62 (by decide) (by decide)
    obtain ⟨aq63, eaq63, h⟩ := h
    refine ⟨aq63, eaq63, ?_⟩
    cases W.1.symm.trans eaq63
    obtain ⟨oq64, h⟩ := h
    refine ⟨oq64, ?_⟩
    obtain ⟨aq65, eaq65, h⟩ := h
    refine ⟨aq65, eaq65, ?_⟩
    obtain ⟨oq66, h⟩ := h
    refine ⟨oq66, ?_⟩
    obtain ⟨oq67, h⟩ := h
    refine ⟨oq67, ?_⟩
    intro Sq68 eSq68
    have h := h Sq68 eSq68
    replace lt := ltm_I dm lt eaq65 eSq68 kx (by decide) (vN_none (by omega))
    rw [vN_S (s := 19) (N := 6) (c := wkR f n p0 v3 v4 s0) (by rw [y4]; rfl)] at lt
    obtain ⟨M, W⟩ := wr_I M W eaq65 oq66 eSq68 (by decide) (by decide)
    obtain ⟨aq69, eaq69, h⟩ := h
    refine ⟨aq69, eaq69, ?_⟩
    cases W.1.symm.trans eaq69
    obtain ⟨oq70, h⟩ := h
    refine ⟨oq70, ?_⟩
    intro xq71 exq71
    have h := h xq71 exq71
    intro xq72 exq72
    have h := h xq72 exq72
    intro Sq73 eSq73
    have h := h Sq73 eSq73
    have eL := eSq73
    obtain ⟨M, W⟩ := wr_C (A' := up4 (upN A vn (8 + aW A))) M W eL (by decide) (cn_4 W.2.2.1 eL (inc_ exq71 W.2.2.1.2.2.2.2.1 exq72)) rfl (ab_4 W.2.2.2.2.1 hw4) (zc_h hH)
    replace lt := ltm_C dm lt eL
    exact ⟨h, lm_ok M rfl W, fun _ _ => hz p0 _ h0 lt⟩
  · intro cq74
    have M := ms_eq (τ := L) M (by
      rw [← HL]
      refine rb_rb.trans (Eq.trans (rb_cg (fun p3 hp3 => rb_cg (k := fun p4 => sPart f n p4 26 (pVal f n p3).toInt64 9) (fun p4 hp4 => by rw [Vxq11 p3 p4 hp3 hp4, l64_9]))) ?_)
      simp only [rb_rb, sTail, sBody, l64_0, l64_1, l64_5, l64_8, l64_9, l64_60, l64_99, l64_100, l64_999])
    have h := h.2 cq74
    exact ⟨h, lm_ov M rfl (exq17.symm.trans cq74), fun q hq => absurd hq (lm_no M rfl (exq17.symm.trans cq74) q)⟩
set_option maxHeartbeats 1000000 in
theorem sq_X11_readWalker (h : P_X11_readWalker v0 QU S) (M : MS f n a v0 (.inl p) S) (W : RMw v0 rd nm ns nk A S) (dm : DMr v0 rd S) (hg : ∀ q, (.inl p : Res) = .inl q → tS f n q ≠ 6) (hAM : aM A = aP A + aW A) : P_X11_readWalker v0 (fun T => QU T ∧ LBm f n a v0 rd nm ns nk (rb (sRoom f n p (aH A) (aW A) 4) fun p => sWalker f n p A) (up4 (upN A (tV f n (tEn f n p)) (8 + aW A))) T ∧ ∀ q, (rb (sRoom f n p (aH A) (aW A) 4) fun p => sWalker f n p A) = .inl q → LTm rd S T (aW A) (vN 19 7 (wkC f n (tEn f n p)))) S := by
  have lt := ltm_0 rd (aW A) S
  delta P_X11_readWalker P_X11_readWalker_0
  obtain ⟨oq1, h⟩ := h
  refine ⟨oq1, ?_⟩
  obtain ⟨aq2, eaq2, h⟩ := h
  refine ⟨aq2, eaq2, ?_⟩
  cases W.1.symm.trans eaq2
  obtain ⟨oq3, h⟩ := h
  refine ⟨oq3, ?_⟩
  intro xq4 exq4
  have h := h xq4 exq4
  refine cm_X11_begins (sp_X11_begins (c := aW A) (k := 4) h M W hg (exq4.trans W.2.2.1.2.2.2.2.1) rfl W.2.2.2.2.1.2.2.2.2.1 (by decide) (fun z => by have := W.2.2.2.2.2 z; omega)) h (fun Sq5 hp h gq6 => ?_)
  have h := h gq6
  obtain ⟨-, M, G⟩ := hp
  have W := rm_F W G
  replace lt := ltm_F dm lt G
  refine cm_X11_readFresh (sp_X11_readFresh h M W) h (fun xq7 Sq8 hp h gq9 => ?_)
  have h := h gq9
  obtain ⟨-, M, G, Vxq7⟩ := hp
  have W := rm_F W G
  replace lt := ltm_F dm lt G
  refine cm_X11_isWord (sp_X11_isWord (w := 21) h M (by decide)) h (fun xq10 Sq11 hp h gq12 bq13 => ?_)
  have h := h gq12 bq13
  obtain ⟨-, hS, Axq10⟩ := hp
  subst hS
  refine ⟨?_, ?_⟩
  · intro cq14
    have Ncq14 := an0 Axq10 cq14
    have h := h.1 cq14
    refine cm_X11_isWord (sp_X11_isWord (w := 18) h M (by decide)) h (fun xq15 Sq16 hp h gq17 bq18 => ?_)
    have h := h gq17 bq18
    obtain ⟨-, hS, Axq15⟩ := hp
    subst hS
    refine ⟨?_, ?_⟩
    · intro cq19
      have Ncq19 := an0 Axq15 cq19
      have h := h.1 cq19
      refine cm_X11_isWord (sp_X11_isWord (w := 19) h M (by decide)) h (fun xq20 Sq21 hp h gq22 bq23 => ?_)
      have h := h gq22 bq23
      obtain ⟨-, hS, Axq20⟩ := hp
      subst hS
      refine ⟨?_, ?_⟩
      · intro cq24
        have Ncq24 := an0 Axq20 cq24
        have h := h.1 cq24
        refine cm_X11_isWord (sp_X11_isWord (w := 20) h M (by decide)) h (fun xq25 Sq26 hp h gq27 bq28 => ?_)
        have h := h gq27 bq28
        obtain ⟨-, hS, Axq25⟩ := hp
        subst hS
        refine ⟨?_, ?_⟩
        · intro cq29
          have Ncq29 := an0 Axq25 cq29
          have h := h.1 cq29
          delta P_X11_readWalker_74
          refine ⟨?_, ?_⟩
          · intro cq30
            exact absurd rfl cq30
          · intro cq57
            have h := h.2 cq57
            obtain ⟨oq58, h⟩ := h
            refine ⟨oq58, ?_⟩
            refine cm_X11_flaw (sp_X11_flaw (k := 1) h M rfl) h (fun Sq59 hp h gq60 => ?_)
            have h := h gq60
            obtain ⟨-, M, G⟩ := hp
            have W := rm_F W G
            replace lt := ltm_F dm lt G
            delta P_X11_readWalker_85
            obtain ⟨oq61, h⟩ := h
            refine ⟨oq61, ?_⟩
            refine cm_X11_goesOn (sp_X11_goesOn h M gs_f) h (fun Sq62 hp h gq63 => ?_)
            have h := h gq63
            obtain ⟨-, M, G⟩ := hp
            have W := rm_F W G
            replace lt := ltm_F dm lt G
            refine ⟨?_, ?_⟩
            · intro cq64
              have h := h.1 cq64
              refine ⟨?_, ?_⟩
              · intro cq65
                have h := h.1 cq65
                refine ⟨?_, ?_⟩
                · intro cq66
                  have h := h.1 cq66
                  delta P_X11_readWalker_136
                  refine ⟨?_, ?_⟩
                  · intro cq67
                    have h := h.1 cq67
                    refine wq149 (S0 := S) (Z := fun T => LTm rd S T (aW A) (vN 19 7 (wkC f n (tEn f n p)))) h M W hAM (wk_r Vxq7 rb_rb) dm lt (fun q T hR lt' => ?_) (Eq.trans (Eq.trans (by rw [rb_rb (R := rb (rb (.inl p) _) _)]; rfl) (wk_eq (fun q hq => (kd_n (hw_np Ncq14 hq) (hw_np Ncq19 hq) (hw_np Ncq24 hq) (hw_np Ncq29 hq)).symm) (fun q q1 hq hk => vac (p := q) (kd_n (hw_np Ncq14 hq) (hw_np Ncq19 hq) (hw_np Ncq24 hq) (hw_np Ncq29 hq)) hk))) (by simp only [rb_rb, sWalker, sTail]; rfl))
                    obtain ⟨p3, h3, g3⟩ := rb_inl hR
                    obtain ⟨p2, h2, g2⟩ := rb_inl h3
                    cases g2
                  · intro cq68
                    exact absurd cq68 (by decide)
                · intro cq69
                  exact absurd cq69 (by decide)
              · intro cq75
                exact absurd cq75 (by decide)
            · intro cq81
              exact absurd cq81 (by decide)
        · intro cq87
          have Ncq87 := an1 Axq25 cq87
          have h := h.2 cq87
          delta P_X11_readWalker_74
          refine ⟨?_, ?_⟩
          · intro cq88
            have h := h.1 cq88
            delta P_X11_readWalker_85
            obtain ⟨oq89, h⟩ := h
            refine ⟨oq89, ?_⟩
            refine cm_X11_goesOn (sp_X11_goesOn h M (gs_w Ncq87)) h (fun Sq90 hp h gq91 => ?_)
            have h := h gq91
            obtain ⟨-, M, G⟩ := hp
            have W := rm_F W G
            replace lt := ltm_F dm lt G
            refine ⟨?_, ?_⟩
            · intro cq92
              have h := h.1 cq92
              refine ⟨?_, ?_⟩
              · intro cq93
                have h := h.1 cq93
                refine ⟨?_, ?_⟩
                · intro cq94
                  exact absurd rfl cq94
                · intro cq97
                  have h := h.2 cq97
                  refine cm_X11_readWhole (sp_X11_readWhole h M) h (fun xq98 Sq99 hp h gq100 => ?_)
                  have h := h gq100
                  obtain ⟨-, M, G, Vxq98⟩ := hp
                  have W := rm_F W G
                  replace lt := ltm_F dm lt G
                  delta P_X11_readWalker_136
                  refine ⟨?_, ?_⟩
                  · intro cq101
                    have h := h.1 cq101
                    refine wq149 (S0 := S) (Z := fun T => LTm rd S T (aW A) (vN 19 7 (wkC f n (tEn f n p)))) h M W hAM (wk_r Vxq7 rb_rb) dm lt (fun q T hR lt' => ?_) (Eq.trans (Eq.trans (by rw [rb_rb (R := rb (rb (.inl p) _) _)]; rfl) (wk_eq (fun q hq => (kd_3 (hw_p Ncq87 hq)).1.symm) (fun q q1 hq hk => (kd_3 (hw_p Ncq87 hq)).2.symm))) (by simp only [rb_rb, sWalker, sTail]; rfl))
                    obtain ⟨p3, h3, g3⟩ := rb_inl hR
                    obtain ⟨p2, h2, g2⟩ := rb_inl h3
                    cases g2
                    obtain ⟨p1, h1, g1⟩ := rb_inl h2
                    have z1 : p1 = tEn f n p := room_e h1
                    have z2 := (sNew_inl g1).1
                    have iw := hw_p Ncq87 h2
                    have y := i32_of (Vxq98 _ q h3 g3)
                    have z3 := sWhole_inl g3
                    rw [z2, z1] at iw y z3
                    rw [wkR_C (P := tEn f n p) (by rw [(ko_3 iw).1]; rfl) (by rw [(ko_3 iw).2.1]; exact y) (by rw [(ko_3 iw).2.2.1]) (by rw [(ko_3 iw).2.2.2]; exact z3)] at lt'
                    exact lt'
                  · intro cq102
                    exact absurd cq102 (by decide)
              · intro cq103
                exact absurd cq103 (by decide)
            · intro cq109
              exact absurd cq109 (by decide)
          · intro cq115
            exact absurd cq115 (by decide)
      · intro cq145
        have Ncq145 := an1 Axq20 cq145
        have h := h.2 cq145
        delta P_X11_readWalker_74
        refine ⟨?_, ?_⟩
        · intro cq146
          have h := h.1 cq146
          delta P_X11_readWalker_85
          obtain ⟨oq147, h⟩ := h
          refine ⟨oq147, ?_⟩
          refine cm_X11_goesOn (sp_X11_goesOn h M (gs_w Ncq145)) h (fun Sq148 hp h gq149 => ?_)
          have h := h gq149
          obtain ⟨-, M, G⟩ := hp
          have W := rm_F W G
          replace lt := ltm_F dm lt G
          refine ⟨?_, ?_⟩
          · intro cq150
            have h := h.1 cq150
            refine ⟨?_, ?_⟩
            · intro cq151
              exact absurd rfl cq151
            · intro cq161
              have h := h.2 cq161
              refine cm_X11_readWhole (sp_X11_readWhole h M) h (fun xq162 Sq163 hp h gq164 => ?_)
              have h := h gq164
              obtain ⟨-, M, G, Vxq162⟩ := hp
              have W := rm_F W G
              replace lt := ltm_F dm lt G
              delta P_X11_readWalker_136
              refine ⟨?_, ?_⟩
              · intro cq165
                have h := h.1 cq165
                refine wq149 (S0 := S) (Z := fun T => LTm rd S T (aW A) (vN 19 7 (wkC f n (tEn f n p)))) h M W hAM (wk_r Vxq7 rb_rb) dm lt (fun q T hR lt' => ?_) (Eq.trans (Eq.trans (by rw [rb_rb (R := rb (rb (.inl p) _) _)]; rfl) (wk_eq (fun q hq => (kd_2 (hw_p Ncq145 hq)).1.symm) (fun q q1 hq hk => (kd_2 (hw_p Ncq145 hq)).2.symm))) (by simp only [rb_rb, sWalker, sTail]; rfl))
                obtain ⟨p3, h3, g3⟩ := rb_inl hR
                obtain ⟨p2, h2, g2⟩ := rb_inl h3
                cases g2
                obtain ⟨p1, h1, g1⟩ := rb_inl h2
                have z1 : p1 = tEn f n p := room_e h1
                have z2 := (sNew_inl g1).1
                have iw := hw_p Ncq145 h2
                have y := i32_of (Vxq162 _ q h3 g3)
                have z3 := sWhole_inl g3
                rw [z2, z1] at iw y z3
                rw [wkR_C (P := tEn f n p) (by rw [(ko_2 iw).1]; rfl) (by rw [(ko_2 iw).2.1]; exact y) (by rw [(ko_2 iw).2.2.1]) (by rw [(ko_2 iw).2.2.2]; exact z3)] at lt'
                exact lt'
              · intro cq166
                exact absurd cq166 (by decide)
          · intro cq167
            exact absurd cq167 (by decide)
        · intro cq173
          exact absurd cq173 (by decide)
    · intro cq203
      have Ncq203 := an1 Axq15 cq203
      have h := h.2 cq203
      delta P_X11_readWalker_74
      refine ⟨?_, ?_⟩
      · intro cq204
        have h := h.1 cq204
        delta P_X11_readWalker_85
        obtain ⟨oq205, h⟩ := h
        refine ⟨oq205, ?_⟩
        refine cm_X11_goesOn (sp_X11_goesOn h M (gs_w Ncq203)) h (fun Sq206 hp h gq207 => ?_)
        have h := h gq207
        obtain ⟨-, M, G⟩ := hp
        have W := rm_F W G
        replace lt := ltm_F dm lt G
        refine ⟨?_, ?_⟩
        · intro cq208
          exact absurd rfl cq208
        · intro cq225
          have h := h.2 cq225
          refine cm_X11_readWhole (sp_X11_readWhole h M) h (fun xq226 Sq227 hp h gq228 => ?_)
          have h := h gq228
          obtain ⟨-, M, G, Vxq226⟩ := hp
          have W := rm_F W G
          replace lt := ltm_F dm lt G
          delta P_X11_readWalker_136
          refine ⟨?_, ?_⟩
          · intro cq229
            exact absurd rfl cq229
          · intro cq230
            have h := h.2 cq230
            refine wq149 (S0 := S) (Z := fun T => LTm rd S T (aW A) (vN 19 7 (wkC f n (tEn f n p)))) h M W hAM (wk_r Vxq7 rb_rb) dm lt (fun q T hR lt' => ?_) (Eq.trans (Eq.trans (by rw [rb_rb (R := rb (rb (.inl p) _) _)]; rfl) (wk_eq (fun q hq => (kd_1 (hw_p Ncq203 hq)).1.symm) (fun q q1 hq hk => (by rw [(kd_1 (hw_p Ncq203 hq)).2]; unfold pVal; rw [← Vxq226 (tEn f n q) q1 (by rw [hq]; rfl) ((kd_1 (hw_p Ncq203 hq)).1.symm.trans hk), Int32.toInt32_toInt64])))) (by simp only [rb_rb, sWalker, sTail]; rfl))
            obtain ⟨p3, h3, g3⟩ := rb_inl hR
            obtain ⟨p2, h2, g2⟩ := rb_inl h3
            cases g2
            obtain ⟨p1, h1, g1⟩ := rb_inl h2
            have z1 : p1 = tEn f n p := room_e h1
            have z2 := (sNew_inl g1).1
            have iw := hw_p Ncq203 h2
            have y := i32_of (Vxq226 _ q h3 g3)
            have z3 := sWhole_inl g3
            rw [z2, z1] at iw y z3
            rw [wkR_C (P := tEn f n p) (by rw [(ko_1 iw).1]; rfl) (by rw [(ko_1 iw).2.1]; exact y) (by rw [(ko_1 iw).2.2.1]; exact y) (by rw [(ko_1 iw).2.2.2]; exact z3)] at lt'
            exact lt'
      · intro cq231
        exact absurd cq231 (by decide)
  · intro cq261
    have Ncq261 := an1 Axq10 cq261
    have h := h.2 cq261
    delta P_X11_readWalker_74
    refine ⟨?_, ?_⟩
    · intro cq262
      have h := h.1 cq262
      delta P_X11_readWalker_85
      obtain ⟨oq263, h⟩ := h
      refine ⟨oq263, ?_⟩
      refine cm_X11_goesOn (sp_X11_goesOn h M (gs_w Ncq261)) h (fun Sq264 hp h gq265 => ?_)
      have h := h gq265
      obtain ⟨-, M, G⟩ := hp
      have W := rm_F W G
      replace lt := ltm_F dm lt G
      refine ⟨?_, ?_⟩
      · intro cq266
        have h := h.1 cq266
        refine ⟨?_, ?_⟩
        · intro cq267
          have h := h.1 cq267
          refine ⟨?_, ?_⟩
          · intro cq268
            have h := h.1 cq268
            delta P_X11_readWalker_136
            refine ⟨?_, ?_⟩
            · intro cq269
              have h := h.1 cq269
              refine wq149 (S0 := S) (Z := fun T => LTm rd S T (aW A) (vN 19 7 (wkC f n (tEn f n p)))) h M W hAM (wk_r Vxq7 rfl) dm lt (fun q T hR lt' => ?_) (Eq.trans (wk_eq (fun q hq => (kd_0 (hw_p Ncq261 hq)).1.symm) (fun q q1 hq hk => (kd_0 (hw_p Ncq261 hq)).2.symm)) (by simp only [rb_rb, sWalker, sTail]; rfl))
              obtain ⟨p2, h2, g2⟩ := rb_inl hR
              cases g2
              obtain ⟨p1, h1, g1⟩ := rb_inl h2
              have z1 : p1 = tEn f n p := room_e h1
              have z2 := (sNew_inl g1).1
              have iw := hw_p Ncq261 h2
              rw [z2, z1] at iw lt'
              rw [wkR_C (P := tEn f n p) (by rw [(ko_0 iw).1]; rfl) (by rw [(ko_0 iw).2.1]) (by rw [(ko_0 iw).2.2.1]) (by rw [(ko_0 iw).2.2.2])] at lt'
              exact lt'
            · intro cq270
              exact absurd cq270 (by decide)
          · intro cq271
            exact absurd cq271 (by decide)
        · intro cq277
          exact absurd cq277 (by decide)
      · intro cq283
        exact absurd cq283 (by decide)
    · intro cq289
      exact absurd cq289 (by decide)
end Ct11
/-! the seen line of the reference: what it writes -/
section Ct12
variable {f : Nat → Int32} {n a rd nm ns nk p : Nat} {A : AS} {σ : Res} {Q : Int32 → HS → Prop} {QU : HS → Prop} {S T : HS} {v0 : Nat}
theorem sf_iy : ∀ s, s < 4 → ∀ i, i < 5 → (((5 : Int32) * nI s) + nI i).toNatClampNeg = 5 * s + i := by decide
def SnM (f : Nat → Int32) (n rd s s0 : Nat) (S0 : HS) (i : Nat) (U : HS) : Prop := fR U = fR S0 ∧ (∀ i b, 7 ≤ i → i ≤ 27 → i ≠ 27 → fR S0 rd i = some b → fI U b = fI S0 b) ∧ ∀ b, fR S0 rd 27 = some b → (∀ z, z < 5 * s → fI U b z = fI S0 b z) ∧ ∀ k, k < i → fI U b (5 * s + k) = (tV f n (snP f n k s0)).toInt32
def SnF (f : Nat → Int32) (n rd s s0 : Nat) (who : Int32) (S0 T : HS) : Prop := fR T = fR S0 ∧ (∀ i b, 7 ≤ i → i ≤ 27 → i ≠ 26 → i ≠ 27 → fR S0 rd i = some b → fI T b = fI S0 b) ∧ (∀ b, fR S0 rd 26 = some b → fI T b = va_up (fI S0 b) s who) ∧ ∀ b, fR S0 rd 27 = some b → (∀ z, z < 5 * s → fI T b z = fI S0 b z) ∧ ∀ k, k < 5 → fI T b (5 * s + k) = (tV f n (snP f n k s0)).toInt32
theorem sm_F {m s s0 i : Nat} {S0 : HS} (D : DMr m rd S0) (h : SnM f n rd s s0 S0 i S) (F : FM m S T) : SnM f n rd s s0 S0 i T := by
  refine ⟨F.2.2.2.1.trans h.1, fun i b h1 h2 h3 e => (F.2.2.2.2.1 b (D.1 i b h1 (by omega) e).1).1.trans (h.2.1 i b h1 h2 h3 e), fun b e => ?_⟩
  rw [(F.2.2.2.2.1 b (D.1 27 b (by decide) (by decide) e).1).1]
  exact h.2.2 b e
theorem sm_S {m s s0 i b j : Nat} {v : Int32} {S0 : HS} (D : DMr m rd S0) (h : SnM f n rd s s0 S0 i S) (hb : fR S rd 27 = some b) (e : T = sI S b j v) (hj : j = 5 * s + i) (hv : v = (tV f n (snP f n i s0)).toInt32) : SnM f n rd s s0 S0 (i + 1) T := by
  rw [h.1] at hb
  have ru := row_I e
  refine ⟨by rw [e]; exact h.1, fun i' b' h1 h2 h3 e' => ?_, fun b' e' => ?_⟩
  · have hne : b' ≠ b := fun z => h3 (D.2 i' 27 b' h1 (by omega) (by decide) (by decide) e' (z ▸ hb))
    rw [row_o e hne]
    exact h.2.1 i' b' h1 h2 h3 e'
  · cases hb.symm.trans e'
    rw [ru]
    refine ⟨fun z hz => ?_, fun k hk => ?_⟩
    · rw [va_up_ne _ _ (by omega)]
      exact (h.2.2 b hb).1 z hz
    · by_cases q : k = i
      · rw [q, hj, va_up_self]
        exact hv
      · rw [va_up_ne _ _ (by omega)]
        exact (h.2.2 b hb).2 k (by omega)
theorem sm_E {m s s0 b j c : Nat} {who v : Int32} {S0 U : HS} (D : DMr m rd S0) (h : SnM f n rd s s0 S0 5 S) (hb : fR S rd 26 = some b) (e : T = sI S b j who) (hj : j = s) (e2 : U = sI T rd c v) : SnF f n rd s s0 who S0 U := by
  rw [h.1] at hb
  subst hj
  refine ⟨by rw [e2, e]; exact h.1, fun i' b' h1 h2 h3 h4 e' => ?_, fun b' e' => ?_, fun b' e' => ?_⟩
  · have hne : b' ≠ b := fun z => h3 (D.2 i' 26 b' h1 (by omega) (by decide) (by decide) e' (z ▸ hb))
    rw [row_o e2 (D.1 i' b' h1 (by omega) e').2, row_o e hne]
    exact h.2.1 i' b' h1 h2 h4 e'
  · cases hb.symm.trans e'
    rw [row_o e2 (D.1 26 b (by decide) (by decide) hb).2, row_I e, h.2.1 26 b (by decide) (by decide) (by decide) hb]
  · have hne : b' ≠ b := fun z => absurd (D.2 27 26 b' (by decide) (by decide) (by decide) (by decide) e' (z ▸ hb)) (by decide)
    rw [row_o e2 (D.1 27 b' (by decide) (by decide) e').2, row_o e hne]
    exact h.2.2 b' e'
def InqSn (f : Nat → Int32) (n a r rd nm ns nk : Nat) (A : AS) (L : Res) (S0 : HS) (P : Nat) (v0 : Nat) (v1 v2 : Int32) (S : HS) : Prop := ∃ (i : Nat) (R : Res), r = v0 ∧ v2 = nI i ∧ i ≤ 5 ∧ MS f n a r R S ∧ RMw r rd nm ns nk A S ∧ L = rb R (fun p => sFc f n (5 - i) i p) ∧ (∀ q, R = .inl q → aS A < 4 ∧ aH A ≠ 0) ∧ (0 < i → ∃ q, R = .inl q) ∧ (∀ q, R = .inl q → v1 = nI (lkV A (tV f n P) - 8) ∧ snQ f n (tEn f n P) i q) ∧ SnM f n rd (aS A) (tEn f n P) S0 i S
set_option maxHeartbeats 1000000 in
theorem lqSn {S0 : HS} {P : Nat} {r : Nat} {L : Res} {v0 : Nat} {v1 v2 : Int32} (h : P_X11_readSeen_24 QU v0 v1 v2 S) (dm : DMr r rd S0) (hi : InqSn f n a r rd nm ns nk A L S0 P v0 v1 v2 S) : P_X11_readSeen_24 (fun T => QU T ∧ LBm f n a r rd nm ns nk L (up5 A) T ∧ ∀ q, L = .inl q → SnF f n rd (aS A) (tEn f n P) (nI (lkV A (tV f n P) - 8)) S0 T) v0 v1 v2 S := by
  refine h (fun v0 v1 v2 S => InqSn f n a r rd nm ns nk A L S0 P v0 v1 v2 S → P_X11_readSeen_24 (fun T => QU T ∧ LBm f n a r rd nm ns nk L (up5 A) T ∧ ∀ q, L = .inl q → SnF f n rd (aS A) (tEn f n P) (nI (lkV A (tV f n P) - 8)) S0 T) v0 v1 v2 S) ?_ hi
  intro v0 v1 v2 S h hi
  obtain ⟨i, R, rfl, hv2, hi5, M, W, HL, hR, hin, hps, sm⟩ := hi
  have e5 : (5 : Int32).toInt = 5 := by decide
  have e0 : (0 : Int32).toInt = 0 := by decide
  have ei : v2.toInt = (i : Int) := by rw [hv2]; exact nI_i (by omega)
  refine fd_X11_readSeen_24 ?_
  delta B_X11_readSeen_24
  refine ⟨?_, ?_⟩
  · intro cq1
    have z := le_i cq1
    have i5 : i = 5 := by omega
    obtain ⟨q, hq⟩ := hin (by omega)
    have rk := hR q hq
    have M := ms_eq (τ := L) M (by rw [HL, hq, i5]; rfl)
    have h := h.1 cq1
    obtain ⟨oq2, h⟩ := h
    refine ⟨oq2, ?_⟩
    obtain ⟨aq3, eaq3, h⟩ := h
    refine ⟨aq3, eaq3, ?_⟩
    cases W.1.symm.trans eaq3
    obtain ⟨oq4, h⟩ := h
    refine ⟨oq4, ?_⟩
    obtain ⟨aq5, eaq5, h⟩ := h
    refine ⟨aq5, eaq5, ?_⟩
    obtain ⟨aq6, eaq6, h⟩ := h
    refine ⟨aq6, eaq6, ?_⟩
    cases W.1.symm.trans eaq6
    obtain ⟨oq7, h⟩ := h
    refine ⟨oq7, ?_⟩
    intro xq8 exq8
    have h := h xq8 exq8
    obtain ⟨oq9, h⟩ := h
    refine ⟨oq9, ?_⟩
    obtain ⟨oq10, h⟩ := h
    refine ⟨oq10, ?_⟩
    intro Sq11 eSq11
    have h := h Sq11 eSq11
    have e26 := eSq11
    have b26 := eaq5
    have k26 : xq8.toNatClampNeg = aS A := by rw [exq8.trans W.2.2.1.2.2.2.2.2]; exact nI_cl (by have := rk.1; omega)
    obtain ⟨M, W⟩ := wr_I M W eaq5 oq9 eSq11 (by decide) (by decide)
    obtain ⟨aq12, eaq12, h⟩ := h
    refine ⟨aq12, eaq12, ?_⟩
    cases W.1.symm.trans eaq12
    obtain ⟨oq13, h⟩ := h
    refine ⟨oq13, ?_⟩
    intro xq14 exq14
    have h := h xq14 exq14
    intro xq15 exq15
    have h := h xq15 exq15
    intro Sq16 eSq16
    have h := h Sq16 eSq16
    have eL := eSq16
    obtain ⟨M, W⟩ := wr_C (A' := up5 A) M W eL (by decide) (cn_5 W.2.2.1 eL (inc_ exq14 W.2.2.1.2.2.2.2.2 exq15)) rfl (ab_5 W.2.2.2.2.1 rk.1) (zc_h rk.2)
    exact ⟨h, lm_ok M rfl W, fun _ _ => by
      have w1 := (hps q hq).1
      rw [i5] at sm
      rw [w1] at e26
      exact sm_E dm sm b26 e26 k26 eL⟩
  · intro cq17
    have z5 := nle_i cq17
    have i4 : i < 5 := by omega
    rw [seen_step i4] at HL
    have h := h.2 cq17
    refine ⟨?_, ?_⟩
    · intro cq18
      have z := le_i cq18
      have i0 : i = 0 := by omega
      have M := ms_eq (τ := rb R (fun p => if i = 0 then (.inl p : Res) else sSign f n p 4)) M (rb_idd (fun p hp => by rw [if_pos i0]))
      have h := h.1 cq18
      delta P_X11_readSeen_47
      obtain ⟨oq19, h⟩ := h
      refine ⟨oq19, ?_⟩
      refine cm_X11_readWhole (sp_X11_readWhole h M) h (fun xq20 Sq21 hp h gq22 => ?_)
      have h := h gq22
      obtain ⟨-, M, G, Vxq20⟩ := hp
      have W := rm_F W G
      replace sm := sm_F dm sm G
      intro xq23 exq23
      have h := h xq23 exq23
      refine ⟨?_, ?_⟩
      · intro cq24
        obtain ⟨q, hq⟩ := ms_ok M (fun z => cq24 (exq23.trans z))
        have hR2 : aS A < 4 ∧ aH A ≠ 0 := by
          obtain ⟨q1, h1, -⟩ := rb_inl hq
          obtain ⟨q2, h2, -⟩ := rb_inl h1
          exact hR q2 h2
        have h := h.1 cq24
        obtain ⟨aq25, eaq25, h⟩ := h
        refine ⟨aq25, eaq25, ?_⟩
        cases W.1.symm.trans eaq25
        obtain ⟨oq26, h⟩ := h
        refine ⟨oq26, ?_⟩
        obtain ⟨aq27, eaq27, h⟩ := h
        refine ⟨aq27, eaq27, ?_⟩
        obtain ⟨aq28, eaq28, h⟩ := h
        refine ⟨aq28, eaq28, ?_⟩
        cases W.1.symm.trans eaq28
        obtain ⟨oq29, h⟩ := h
        refine ⟨oq29, ?_⟩
        intro xq30 exq30
        have h := h xq30 exq30
        obtain ⟨oq31, h⟩ := h
        refine ⟨oq31, ?_⟩
        obtain ⟨oq32, h⟩ := h
        refine ⟨oq32, ?_⟩
        intro Sq33 eSq33
        have h := h Sq33 eSq33
        have k27 : (((5 : Int32) * xq30) + v2).toNatClampNeg = 5 * aS A + i := by rw [exq30.trans W.2.2.1.2.2.2.2.2, hv2]; exact sf_iy _ hR2.1 _ i4
        obtain ⟨q1, h1, g1⟩ := rb_inl hq
        obtain ⟨q2, h2, g2⟩ := rb_inl h1
        have ps := (hps q2 h2).2
        have eq1 : q1 = snP f n i (tEn f n P) := by
          by_cases z0 : i = 0
          · rw [if_pos z0] at g2
            cases g2
            rw [ps.1 z0, z0]
            rfl
          · rw [if_neg z0] at g2
            rw [sSign_inl g2, ps.2 (by omega)]
            obtain ⟨i0, hi0⟩ : ∃ i0, i = i0 + 1 := ⟨i - 1, by omega⟩
            subst hi0
            rfl
        replace sm := sm_S dm sm eaq27 eSq33 k27 (by rw [i32_of (Vxq20 q1 q h1 g1), eq1])
        obtain ⟨M, W⟩ := wr_I M W eaq27 oq31 eSq33 (by decide) (by decide)
        intro xq34 exq34
        have h := h xq34 exq34
        exact h ⟨i + 1, _, rfl, by rw [exq34, hv2]; exact nI_1 i, by omega, M, W, by rw [HL, show 5 - (i + 1) = 4 - i by omega], fun _ _ => hR2, fun _ => ⟨q, hq⟩, fun q' hq' => ⟨(hps q2 h2).1, ⟨fun z => absurd z (by omega), fun _ => by cases hq.symm.trans hq'; rw [sWhole_inl g1, eq1, Nat.add_sub_cancel]⟩⟩, sm⟩
      · intro cq35
        obtain ⟨e, he⟩ := (ms_9 M).2.2.2.2.mp (exq23.symm.trans cq35)
        have h := h.2 cq35
        exact ⟨h, lm_ov M (by rw [HL, he]; rfl) (exq23.symm.trans cq35), fun q hq => absurd hq (lm_no M (by rw [HL, he]; rfl) (exq23.symm.trans cq35) q)⟩
    · intro cq36
      have z := nle_i cq36
      have i0 : ¬ i = 0 := by omega
      have h := h.2 cq36
      obtain ⟨oq37, h⟩ := h
      refine ⟨oq37, ?_⟩
      refine cm_X11_eatsSign (sp_X11_eatsSign (k := 4) h M (Or.inr ⟨rfl, rfl⟩)) h (fun xq38 Sq39 hp h gq40 bq41 => ?_)
      have h := h gq40 bq41
      obtain ⟨-, M, G, Vxq38⟩ := hp
      have W := rm_F W G
      replace sm := sm_F dm sm G
      refine ⟨?_, ?_⟩
      · intro cq42
        have N := an1 Vxq38 cq42
        have M := ms_eq (τ := rb R (fun p => if i = 0 then (.inl p : Res) else sSign f n p 4)) M (rb_cg (fun p hp => by rw [dc_y (hs_p N hp), if_neg i0]; unfold sSign; rw [if_pos (hs_p N hp)]))
        have h := h.1 cq42
        delta P_X11_readSeen_47
        obtain ⟨oq43, h⟩ := h
        refine ⟨oq43, ?_⟩
        refine cm_X11_readWhole (sp_X11_readWhole h M) h (fun xq44 Sq45 hp h gq46 => ?_)
        have h := h gq46
        obtain ⟨-, M, G, Vxq44⟩ := hp
        have W := rm_F W G
        replace sm := sm_F dm sm G
        intro xq47 exq47
        have h := h xq47 exq47
        refine ⟨?_, ?_⟩
        · intro cq48
          obtain ⟨q, hq⟩ := ms_ok M (fun z => cq48 (exq47.trans z))
          have hR2 : aS A < 4 ∧ aH A ≠ 0 := by
            obtain ⟨q1, h1, -⟩ := rb_inl hq
            obtain ⟨q2, h2, -⟩ := rb_inl h1
            exact hR q2 h2
          have h := h.1 cq48
          obtain ⟨aq49, eaq49, h⟩ := h
          refine ⟨aq49, eaq49, ?_⟩
          cases W.1.symm.trans eaq49
          obtain ⟨oq50, h⟩ := h
          refine ⟨oq50, ?_⟩
          obtain ⟨aq51, eaq51, h⟩ := h
          refine ⟨aq51, eaq51, ?_⟩
          obtain ⟨aq52, eaq52, h⟩ := h
          refine ⟨aq52, eaq52, ?_⟩
          cases W.1.symm.trans eaq52
          obtain ⟨oq53, h⟩ := h
          refine ⟨oq53, ?_⟩
          intro xq54 exq54
          have h := h xq54 exq54
          obtain ⟨oq55, h⟩ := h
          refine ⟨oq55, ?_⟩
          obtain ⟨oq56, h⟩ := h
          refine ⟨oq56, ?_⟩
          intro Sq57 eSq57
          have h := h Sq57 eSq57
          have k27 : (((5 : Int32) * xq54) + v2).toNatClampNeg = 5 * aS A + i := by rw [exq54.trans W.2.2.1.2.2.2.2.2, hv2]; exact sf_iy _ hR2.1 _ i4
          obtain ⟨q1, h1, g1⟩ := rb_inl hq
          obtain ⟨q2, h2, g2⟩ := rb_inl h1
          have ps := (hps q2 h2).2
          have eq1 : q1 = snP f n i (tEn f n P) := by
            by_cases z0 : i = 0
            · rw [if_pos z0] at g2
              cases g2
              rw [ps.1 z0, z0]
              rfl
            · rw [if_neg z0] at g2
              rw [sSign_inl g2, ps.2 (by omega)]
              obtain ⟨i0, hi0⟩ : ∃ i0, i = i0 + 1 := ⟨i - 1, by omega⟩
              subst hi0
              rfl
          replace sm := sm_S dm sm eaq51 eSq57 k27 (by rw [i32_of (Vxq44 q1 q h1 g1), eq1])
          obtain ⟨M, W⟩ := wr_I M W eaq51 oq55 eSq57 (by decide) (by decide)
          intro xq58 exq58
          have h := h xq58 exq58
          exact h ⟨i + 1, _, rfl, by rw [exq58, hv2]; exact nI_1 i, by omega, M, W, by rw [HL, show 5 - (i + 1) = 4 - i by omega], fun _ _ => hR2, fun _ => ⟨q, hq⟩, fun q' hq' => ⟨(hps q2 h2).1, ⟨fun z => absurd z (by omega), fun _ => by cases hq.symm.trans hq'; rw [sWhole_inl g1, eq1, Nat.add_sub_cancel]⟩⟩, sm⟩
        · intro cq59
          obtain ⟨e, he⟩ := (ms_9 M).2.2.2.2.mp (exq47.symm.trans cq59)
          have h := h.2 cq59
          exact ⟨h, lm_ov M (by rw [HL, he]; rfl) (exq47.symm.trans cq59), fun q hq => absurd hq (lm_no M (by rw [HL, he]; rfl) (exq47.symm.trans cq59) q)⟩
      · intro cq60
        have N := an0 Vxq38 cq60
        have M := ms_eq M (rb_idd (fun p hp => (dc_n (hs_np N hp)).symm)).symm
        have h := h.2 cq60
        refine cm_X11_flaw (sp_X11_flaw (k := 1) h M rfl) h (fun Sq61 hp h gq62 => ?_)
        have h := h gq62
        obtain ⟨-, M, G⟩ := hp
        have W := rm_F W G
        replace sm := sm_F dm sm G
        have M := ms_eq (τ := rb R (fun p => if i = 0 then (.inl p : Res) else sSign f n p 4)) M (rb_cg (fun p hp => by rw [if_neg i0]; unfold sSign; rw [if_neg (hs_np N hp)]))
        delta P_X11_readSeen_47
        obtain ⟨oq63, h⟩ := h
        refine ⟨oq63, ?_⟩
        refine cm_X11_readWhole (sp_X11_readWhole h M) h (fun xq64 Sq65 hp h gq66 => ?_)
        have h := h gq66
        obtain ⟨-, M, G, Vxq64⟩ := hp
        have W := rm_F W G
        replace sm := sm_F dm sm G
        intro xq67 exq67
        have h := h xq67 exq67
        refine ⟨?_, ?_⟩
        · intro cq68
          obtain ⟨q, hq⟩ := ms_ok M (fun z => cq68 (exq67.trans z))
          have hR2 : aS A < 4 ∧ aH A ≠ 0 := by
            obtain ⟨q1, h1, -⟩ := rb_inl hq
            obtain ⟨q2, h2, -⟩ := rb_inl h1
            exact hR q2 h2
          have h := h.1 cq68
          obtain ⟨aq69, eaq69, h⟩ := h
          refine ⟨aq69, eaq69, ?_⟩
          cases W.1.symm.trans eaq69
          obtain ⟨oq70, h⟩ := h
          refine ⟨oq70, ?_⟩
          obtain ⟨aq71, eaq71, h⟩ := h
          refine ⟨aq71, eaq71, ?_⟩
          obtain ⟨aq72, eaq72, h⟩ := h
          refine ⟨aq72, eaq72, ?_⟩
          cases W.1.symm.trans eaq72
          obtain ⟨oq73, h⟩ := h
          refine ⟨oq73, ?_⟩
          intro xq74 exq74
          have h := h xq74 exq74
          obtain ⟨oq75, h⟩ := h
          refine ⟨oq75, ?_⟩
          obtain ⟨oq76, h⟩ := h
          refine ⟨oq76, ?_⟩
          intro Sq77 eSq77
          have h := h Sq77 eSq77
          have k27 : (((5 : Int32) * xq74) + v2).toNatClampNeg = 5 * aS A + i := by rw [exq74.trans W.2.2.1.2.2.2.2.2, hv2]; exact sf_iy _ hR2.1 _ i4
          obtain ⟨q1, h1, g1⟩ := rb_inl hq
          obtain ⟨q2, h2, g2⟩ := rb_inl h1
          have ps := (hps q2 h2).2
          have eq1 : q1 = snP f n i (tEn f n P) := by
            by_cases z0 : i = 0
            · rw [if_pos z0] at g2
              cases g2
              rw [ps.1 z0, z0]
              rfl
            · rw [if_neg z0] at g2
              rw [sSign_inl g2, ps.2 (by omega)]
              obtain ⟨i0, hi0⟩ : ∃ i0, i = i0 + 1 := ⟨i - 1, by omega⟩
              subst hi0
              rfl
          replace sm := sm_S dm sm eaq71 eSq77 k27 (by rw [i32_of (Vxq64 q1 q h1 g1), eq1])
          obtain ⟨M, W⟩ := wr_I M W eaq71 oq75 eSq77 (by decide) (by decide)
          intro xq78 exq78
          have h := h xq78 exq78
          exact h ⟨i + 1, _, rfl, by rw [exq78, hv2]; exact nI_1 i, by omega, M, W, by rw [HL, show 5 - (i + 1) = 4 - i by omega], fun _ _ => hR2, fun _ => ⟨q, hq⟩, fun q' hq' => ⟨(hps q2 h2).1, ⟨fun z => absurd z (by omega), fun _ => by cases hq.symm.trans hq'; rw [sWhole_inl g1, eq1, Nat.add_sub_cancel]⟩⟩, sm⟩
        · intro cq79
          obtain ⟨e, he⟩ := (ms_9 M).2.2.2.2.mp (exq67.symm.trans cq79)
          have h := h.2 cq79
          exact ⟨h, lm_ov M (by rw [HL, he]; rfl) (exq67.symm.trans cq79), fun q hq => absurd hq (lm_no M (by rw [HL, he]; rfl) (exq67.symm.trans cq79) q)⟩
set_option maxHeartbeats 1000000 in
theorem sq_X11_readSeen (h : P_X11_readSeen v0 QU S) (M : MS f n a v0 (.inl p) S) (W : RMw v0 rd nm ns nk A S) (dm : DMr v0 rd S) (hg : ∀ q, (.inl p : Res) = .inl q → tS f n q ≠ 6) : P_X11_readSeen v0 (fun T => QU T ∧ LBm f n a v0 rd nm ns nk (rb (sRoom f n p (aH A) (aS A) 4) fun p => sSeen f n p A) (up5 A) T ∧ ∀ q, (rb (sRoom f n p (aH A) (aS A) 4) fun p => sSeen f n p A) = .inl q → SnF f n rd (aS A) (tEn f n (tEn f n p)) (nI (lkV A (tV f n (tEn f n p)) - 8)) S T) S := by
  have sm : SnM f n rd (aS A) (tEn f n (tEn f n p)) S 0 S := ⟨rfl, fun _ _ _ _ _ _ => rfl, fun _ _ => ⟨fun _ _ => rfl, fun k hk => absurd hk (Nat.not_lt_zero k)⟩⟩
  delta P_X11_readSeen P_X11_readSeen_0
  obtain ⟨oq1, h⟩ := h
  refine ⟨oq1, ?_⟩
  obtain ⟨aq2, eaq2, h⟩ := h
  refine ⟨aq2, eaq2, ?_⟩
  cases W.1.symm.trans eaq2
  obtain ⟨oq3, h⟩ := h
  refine ⟨oq3, ?_⟩
  intro xq4 exq4
  have h := h xq4 exq4
  refine cm_X11_begins (sp_X11_begins (c := aS A) (k := 4) h M W hg (exq4.trans W.2.2.1.2.2.2.2.2) rfl W.2.2.2.2.1.2.2.2.2.2 (by decide) (fun z => by have := W.2.2.2.2.2 z; omega)) h (fun Sq5 hp h gq6 => ?_)
  have h := h gq6
  obtain ⟨-, M, G⟩ := hp
  have W := rm_F W G
  replace sm := sm_F dm sm G
  refine cm_X11_known (sp_X11_known h M W) h (fun xq7 Sq8 hp h gq9 => ?_)
  have h := h gq9
  obtain ⟨-, M, G, Vxq7⟩ := hp
  have W := rm_F W G
  replace sm := sm_F dm sm G
  refine cm_X11_goesOn (sp_X11_goesOn h M gs_k) h (fun Sq10 hp h gq11 => ?_)
  have h := h gq11
  obtain ⟨-, M, G⟩ := hp
  have W := rm_F W G
  replace sm := sm_F dm sm G
  refine lqSn (S0 := S) (P := tEn f n p) h dm ⟨0, _, rfl, nI_0.symm, by omega, M, W, ?_, fun q hq => ?_, fun z => absurd z (by omega), fun q hq => ?_, sm⟩
  · refine Eq.symm ?_
    show rb (rb (rb (sRoom f n p (aH A) (aS A) 4) (fun p => sKn f n p A 1)) (fun p => .inl (tEn f n p))) (fun p => sFc f n 5 0 p) = _
    rw [rb_rb (R := rb (sRoom f n p (aH A) (aS A) 4) _), rb_rb]
    refine rb_cg (fun q hq => ?_)
    unfold sSeen
    rw [ssw_kn, rb_rb]
  · obtain ⟨q1, h1, -⟩ := rb_inl hq
    obtain ⟨q2, h2, -⟩ := rb_inl h1
    have rk := room_ok (show sRoom f n p (aH A) (aS A) 4 = .inl q2 from h2)
    exact ⟨rk.2, rk.1⟩
  · obtain ⟨q1, h1, g1⟩ := rb_inl hq
    cases g1
    obtain ⟨q2, h2, g2⟩ := rb_inl h1
    have z2 : q2 = tEn f n p := room_e h2
    obtain ⟨e3, -, k, hk, hk8⟩ := kn_inl g2
    obtain ⟨k', hk', ek⟩ := Vxq7 q2 q1 h2 g2
    cases hk.symm.trans hk'
    rw [if_neg (k_ge8 hk8)] at ek
    rw [z2] at hk
    exact ⟨by rw [ek, lkV_of hk], ⟨fun _ => by rw [e3, z2], fun z => absurd z (by omega)⟩⟩
end Ct12
end
section
/-! the whole text in the reference, with all that was told -/
def cntM (A : AS) (i : Nat) : Nat := if i ≤ 11 then aHs A else if i = 12 ∨ i = 18 then aP A else if i ≤ 17 then aR A else if i ≤ 25 then aW A else if i = 26 then aS A else 5 * aS A
def valM (G : GC) (i h : Nat) : Int32 := if i ≤ 11 then gRn G h (i - 7) else if i = 12 then treeOf (gPk G h) (gPv G h) else if i = 18 then innOf (gPk G h) else if i ≤ 17 then gRd G h (i - 13) else if i ≤ 25 then gWk G h (i - 19) else if i = 26 then gSn G h 0 else gSn G (h / 5) (h % 5 + 1)
def CtM (rd : Nat) (A : AS) (G : GC) (S : HS) : Prop := ∀ i b, 7 ≤ i → i ≤ 27 → fR S rd i = some b → ∀ h, h < cntM A i → fI S b h = valM G i h
section Ct13
variable {f : Nat → Int32} {n a rd nm ns nk p : Nat} {A : AS} {σ : Res} {Q : Int32 → HS → Prop} {QU : HS → Prop} {S T : HS} {v0 : Nat}
theorem dm_mv {m : Nat} (h : fR T = fR S) (D : DMr m rd S) : DMr m rd T := by
  unfold DMr
  rw [h]
  exact D
theorem ctm_F {m : Nat} {G : GC} (D : DMr m rd S) (h : CtM rd A G S) (F : FM m S T) : CtM rd A G T := by
  intro i b h1 h2 e z hz
  rw [F.2.2.2.1] at e
  rw [(F.2.2.2.2.1 b (D.1 i b h1 (by omega) e).1).1]
  exact h i b h1 h2 e z hz
theorem ctm_up {A' : AS} {G G' : GC} {k : Nat} {V : Nat → Option Int32} (ct : CtM rd A G S) (lt : LTm rd S T k V) (hn : ∀ i, 7 ≤ i → i ≤ 27 → V i = none → cntM A' i = cntM A i ∧ ∀ h, valM G' i h = valM G i h) (hs : ∀ i v, 7 ≤ i → i ≤ 27 → V i = some v → cntM A i = k ∧ cntM A' i = k + 1 ∧ valM G' i k = v ∧ ∀ h, h < k → valM G' i h = valM G i h) : CtM rd A' G' T := by
  intro i b h1 h2 e z hz
  rw [lt.1] at e
  rw [lt.2 i b h1 h2 e]
  cases hV : V i with
  | none =>
    obtain ⟨q1, q2⟩ := hn i h1 h2 hV
    rw [q2]
    exact ct i b h1 h2 e z (by omega)
  | some v =>
    obtain ⟨q1, q2, q3, q4⟩ := hs i v h1 h2 hV
    show va_up (fI S b) k v z = _
    by_cases zk : z = k
    · rw [zk, va_up_self, q3]
    · rw [va_up_ne _ _ zk, q4 z (by omega)]
      exact ct i b h1 h2 e z (by omega)
theorem vN_some {s N i : Nat} {c : Nat → Int32} {v : Int32} (h : vN s N c i = some v) : (s ≤ i ∧ i < s + N) ∧ v = c (i - s) := by
  unfold vN at h
  by_cases q : s ≤ i ∧ i < s + N
  · rw [if_pos q] at h
    cases h
    exact ⟨q, rfl⟩
  · rw [if_neg q] at h
    cases h
theorem vN_no {s N i : Nat} {c : Nat → Int32} (h : vN s N c i = none) : ¬ (s ≤ i ∧ i < s + N) := fun q => by
  unfold vN at h
  rw [if_pos q] at h
  cases h
theorem ctm_rain {G : GC} {c : Nat → Int32} (ct : CtM rd A G S) (lt : LTm rd S T (aHs A) (vN 7 5 c)) : CtM rd (up1 A) (gu1 G (aHs A) c) T := by
  refine ctm_up ct lt (fun i h1 h2 hV => ?_) (fun i v h1 h2 hV => ?_)
  · have q := vN_no hV
    have q : ¬ i ≤ 11 := by omega
    exact ⟨by simp only [cntM, if_neg q]; rfl, fun h => by simp only [valM, if_neg q]; rfl⟩
  · obtain ⟨q, rfl⟩ := vN_some hV
    have q : i ≤ 11 := by omega
    simp only [cntM, valM, if_pos q]
    refine ⟨trivial, rfl, ?_, fun h hh => ?_⟩
    · show va_up (gRn G) (aHs A) c (aHs A) (i - 7) = _
      rw [va_up_self]
    · show va_up (gRn G) (aHs A) c h (i - 7) = _
      rw [va_up_ne _ _ (by omega)]
theorem ctm_road {G : GC} {c : Nat → Int32} (ct : CtM rd A G S) (lt : LTm rd S T (aR A) (vN 13 5 c)) : CtM rd (up3 A) (gu3 G (aR A) c) T := by
  refine ctm_up ct lt (fun i h1 h2 hV => ?_) (fun i v h1 h2 hV => ?_)
  · have q := vN_no hV
    simp only [cntM, valM]
    by_cases a1 : i ≤ 11
    · simp only [if_pos a1]
      exact ⟨rfl, fun _ => rfl⟩
    · by_cases a2 : i = 12
      · subst a2
        exact ⟨rfl, fun _ => rfl⟩
      · have a3 : ¬ i ≤ 17 := by omega
        simp only [if_neg a1, if_neg a2, if_neg a3]
        exact ⟨rfl, fun _ => rfl⟩
  · obtain ⟨q, rfl⟩ := vN_some hV
    have q1 : ¬ i ≤ 11 := by omega
    have q2 : ¬ (i = 12 ∨ i = 18) := by omega
    have q3 : i ≤ 17 := by omega
    have q4 : ¬ i = 12 := by omega
    have q5 : ¬ i = 18 := by omega
    simp only [cntM, valM, if_neg q1, if_neg q2, if_pos q3, if_neg q4, if_neg q5]
    refine ⟨trivial, rfl, ?_, fun h hh => ?_⟩
    · show va_up (gRd G) (aR A) c (aR A) (i - 13) = _
      rw [va_up_self]
    · show va_up (gRd G) (aR A) c h (i - 13) = _
      rw [va_up_ne _ _ (by omega)]
theorem ctm_walk {G : GC} {c : Nat → Int32} {w : Int64} {u : Nat} (ct : CtM rd A G S) (lt : LTm rd S T (aW A) (vN 19 7 c)) : CtM rd (up4 (upN A w u)) (gu4 G (aW A) c) T := by
  refine ctm_up ct lt (fun i h1 h2 hV => ?_) (fun i v h1 h2 hV => ?_)
  · have q := vN_no hV
    simp only [cntM, valM]
    by_cases a1 : i ≤ 25
    · have a2 : i ≤ 18 := by omega
      by_cases b1 : i ≤ 11
      · simp only [if_pos b1]; exact ⟨rfl, fun _ => rfl⟩
      · by_cases b2 : i = 12
        · subst b2; exact ⟨rfl, fun _ => rfl⟩
        · by_cases b3 : i = 18
          · subst b3; exact ⟨rfl, fun _ => rfl⟩
          · have b4 : i ≤ 17 := by omega
            simp only [if_neg b1, if_neg b2, if_neg b3, if_pos b4]
            exact ⟨rfl, fun _ => rfl⟩
    · have b1 : ¬ i ≤ 11 := by omega
      have b2 : ¬ i = 12 := by omega
      have b3 : ¬ i = 18 := by omega
      have b4 : ¬ i ≤ 17 := by omega
      simp only [if_neg a1, if_neg b1, if_neg b2, if_neg b3, if_neg b4]
      exact ⟨rfl, fun _ => rfl⟩
  · obtain ⟨q, rfl⟩ := vN_some hV
    have q1 : ¬ i ≤ 11 := by omega
    have q2 : ¬ (i = 12 ∨ i = 18) := by omega
    have q3 : ¬ i ≤ 17 := by omega
    have q4 : ¬ i = 12 := by omega
    have q5 : ¬ i = 18 := by omega
    have q6 : i ≤ 25 := by omega
    simp only [cntM, valM, if_neg q1, if_neg q2, if_neg q3, if_neg q4, if_neg q5, if_pos q6]
    refine ⟨trivial, rfl, ?_, fun h hh => ?_⟩
    · show va_up (gWk G) (aW A) c (aW A) (i - 19) = _
      rw [va_up_self]
    · show va_up (gWk G) (aW A) c h (i - 19) = _
      rw [va_up_ne _ _ (by omega)]
theorem ctm_place {G : GC} {k : Nat} {x : Int32} {w : Int64} {u : Nat} (ct : CtM rd A G S) (lt : LTm rd S T (aP A) (pV k x)) : CtM rd (up2 (upN A w u)) (gu2 G (aP A) k x) T := by
  refine ctm_up ct lt (fun i h1 h2 hV => ?_) (fun i v h1 h2 hV => ?_)
  · have q : i ≠ 12 ∧ i ≠ 18 := by
      refine ⟨fun z => ?_, fun z => ?_⟩
      · rw [z] at hV
        unfold pV at hV
        rw [va_up_self] at hV
        cases hV
      · rw [z] at hV
        unfold pV at hV
        rw [va_up_ne _ _ (by decide), va_up_self] at hV
        cases hV
    simp only [cntM, valM, if_neg q.1, if_neg q.2, if_neg (fun z : i = 12 ∨ i = 18 => z.elim q.1 q.2)]
    exact ⟨rfl, fun _ => rfl⟩
  · by_cases a1 : i = 12
    · subst a1
      unfold pV at hV
      rw [va_up_self] at hV
      cases hV
      refine ⟨rfl, rfl, ?_, fun h hh => ?_⟩
      · show treeOf (va_up (gPk G) (aP A) k (aP A)) (va_up (gPv G) (aP A) x (aP A)) = _
        rw [va_up_self, va_up_self]
      · show treeOf (va_up (gPk G) (aP A) k h) (va_up (gPv G) (aP A) x h) = _
        rw [va_up_ne _ _ (by omega), va_up_ne _ _ (by omega)]
        rfl
    · by_cases a2 : i = 18
      · subst a2
        unfold pV at hV
        rw [va_up_ne _ _ (by decide), va_up_self] at hV
        cases hV
        refine ⟨rfl, rfl, ?_, fun h hh => ?_⟩
        · show innOf (va_up (gPk G) (aP A) k (aP A)) = _
          rw [va_up_self]
        · show innOf (va_up (gPk G) (aP A) k h) = _
          rw [va_up_ne _ _ (by omega)]
          rfl
      · unfold pV at hV
        rw [va_up_ne _ _ a1, va_up_ne _ _ a2] at hV
        cases hV
theorem ctm_seen {G : GC} {P : Nat} (ct : CtM rd A G S) (sf : SnF f n rd (aS A) (tEn f n P) (nI (lkV A (tV f n P) - 8)) S T) : CtM rd (up5 A) (gu5 G (aS A) (snC f n P A)) T := by
  obtain ⟨s1, s2, s3, s4⟩ := sf
  intro i b h1 h2 e z hz
  rw [s1] at e
  by_cases a1 : i = 26
  · subst a1
    rw [s3 b e]
    have hz : z < aS A + 1 := hz
    show _ = va_up (gSn G) (aS A) (snC f n P A) z 0
    by_cases zk : z = aS A
    · rw [zk, va_up_self, va_up_self]
      rfl
    · rw [va_up_ne _ _ zk, va_up_ne _ _ zk]
      exact ct 26 b h1 h2 e z (show z < aS A by omega)
  · by_cases a2 : i = 27
    · subst a2
      have hz : z < 5 * (aS A + 1) := hz
      show _ = va_up (gSn G) (aS A) (snC f n P A) (z / 5) (z % 5 + 1)
      by_cases zk : z < 5 * aS A
      · rw [(s4 b e).1 z zk, va_up_ne _ _ (by omega)]
        exact ct 27 b h1 h2 e z zk
      · have e1 : z / 5 = aS A := by omega
        have e2 : z = 5 * aS A + z % 5 := by omega
        rw [e1, va_up_self]
        have q := (s4 b e).2 (z % 5) (by omega)
        rw [← e2] at q
        rw [q]
        unfold snC
        rw [if_neg (by omega), Nat.add_sub_cancel]
    · rw [s2 i b h1 h2 a1 a2 e]
      have c1 : cntM (up5 A) i = cntM A i := by
        simp only [cntM, if_neg a1]
        by_cases b1 : i ≤ 25
        · simp only [if_pos b1]; rfl
        · exfalso; omega
      rw [c1] at hz
      have c2 : valM (gu5 G (aS A) (snC f n P A)) i z = valM G i z := by
        simp only [valM, if_neg a1]
        by_cases b1 : i ≤ 25
        · simp only [if_pos b1]; rfl
        · exfalso; omega
      rw [c2]
      exact ct i b h1 h2 e z hz
theorem ctm_none {G : GC} {k : Nat} {h' : Nat} (ct : CtM rd A G S) (lt : LTm rd S T k (fun _ => none)) : CtM rd (up0 A h') G T := ctm_up ct lt (fun _ _ _ _ => ⟨rfl, fun _ => rfl⟩) (fun _ _ _ _ hV => by cases hV)
theorem sq_X11_readWorld (h : P_X11_readWorld v0 QU S) (M : MS f n a v0 (.inl p) S) (W : RMw v0 rd nm ns nk A S) (dm : DMr v0 rd S) (hg : ∀ q, (.inl p : Res) = .inl q → tS f n q ≠ 6) : P_X11_readWorld v0 (fun T => QU T ∧ LBm f n a v0 rd nm ns nk (sWorld f n p A) (up0 A (tV f n (tEn f n (tEn f n p))).toInt32.toNatClampNeg) T ∧ ∀ q, sWorld f n p A = .inl q → LTm rd S T 0 (fun _ => none)) S := by
  have lt := ltm_0 rd 0 S
  delta P_X11_readWorld P_X11_readWorld_0
  obtain ⟨oq1, h⟩ := h
  refine ⟨oq1, ?_⟩
  obtain ⟨aq2, eaq2, h⟩ := h
  refine ⟨aq2, eaq2, ?_⟩
  cases W.1.symm.trans eaq2
  obtain ⟨oq3, h⟩ := h
  refine ⟨oq3, ?_⟩
  intro xq4 exq4
  have h := h xq4 exq4
  refine ⟨?_, ?_⟩
  · intro cq5
    have h0 : aH A = 0 := by
      have z := le_i cq5
      rw [exq4, W.2.2.1.1, nI_i (by have := W.2.2.2.2.1.1; omega)] at z
      have e0 : (0 : Int32).toInt = 0 := by decide
      omega
    have h := h.1 cq5
    delta P_X11_readWorld_15
    obtain ⟨oq6, h⟩ := h
    refine ⟨oq6, ?_⟩
    refine cm_X11_goesOn (sp_X11_goesOn h M hg) h (fun Sq7 hp h gq8 => ?_)
    have h := h gq8
    obtain ⟨-, M, G⟩ := hp
    have W := rm_F W G
    replace lt := ltm_F dm lt G
    refine cm_X11_readPart (sp_X11_readPart (w := 1) h M (by decide)) h (fun xq9 Sq10 hp h gq11 => ?_)
    have h := h gq11
    obtain ⟨-, M, G, Vxq9⟩ := hp
    have W := rm_F W G
    replace lt := ltm_F dm lt G
    intro xq12 exq12
    have h := h xq12 exq12
    refine ⟨?_, ?_⟩
    · intro cq13
      have h := h.1 cq13
      exact ⟨h, lm_ov M (by unfold sWorld; rw [if_pos h0]; rfl) (exq12.symm.trans cq13), fun q hq => absurd hq (lm_no M (by unfold sWorld; rw [if_pos h0]; rfl) (exq12.symm.trans cq13) q)⟩
    · intro cq14
      obtain ⟨q, hq⟩ := ms_ok M (fun z => cq14 (exq12.trans z))
      have h := h.2 cq14
      obtain ⟨aq15, eaq15, h⟩ := h
      refine ⟨aq15, eaq15, ?_⟩
      cases W.1.symm.trans eaq15
      obtain ⟨oq16, h⟩ := h
      refine ⟨oq16, ?_⟩
      intro Sq17 eSq17
      have h := h Sq17 eSq17
      have eL := eSq17
      have hR : sPart f n (tEn f n p) 1 5 60 = .inl q := hq
      have hr : (5 : Int64) ≤ tV f n (tEn f n (tEn f n p)) ∧ tV f n (tEn f n (tEn f n p)) ≤ 60 := part_in hR
      have hk := i64_le (k := 60) (by have := hr.1; exact Int64.le_trans (by decide) this) hr.2
      have hv : xq9 = (tV f n (tEn f n (tEn f n p))).toInt32 := Vxq9 (tEn f n p) q rfl hR
      obtain ⟨M, W⟩ := wr_C (A' := up0 A (tV f n (tEn f n (tEn f n p))).toInt32.toNatClampNeg) M W eL (by decide) (cn_0 W.2.2.1 eL (by rw [hv]; exact hk.2)) rfl ⟨hk.1, W.2.2.2.2.1.2⟩ (fun _ => W.2.2.2.2.2 h0)
      replace lt := ltm_C dm lt eL
      exact ⟨h, lm_ok M (by unfold sWorld; rw [if_pos h0]; rfl) W, fun _ _ => lt⟩
  · intro cq18
    have h0 : ¬ aH A = 0 := by
      have z := nle_i cq18
      rw [exq4, W.2.2.1.1, nI_i (by have := W.2.2.2.2.1.1; omega)] at z
      have e0 : (0 : Int32).toInt = 0 := by decide
      omega
    have h := h.2 cq18
    refine cm_X11_flaw (sp_X11_flaw (k := 3) h M rfl) h (fun Sq19 hp h gq20 => ?_)
    have h := h gq20
    obtain ⟨-, M, G⟩ := hp
    have W := rm_F W G
    replace lt := ltm_F dm lt G
    delta P_X11_readWorld_15
    obtain ⟨oq21, h⟩ := h
    refine ⟨oq21, ?_⟩
    refine cm_X11_goesOn (sp_X11_goesOn h M gs_f) h (fun Sq22 hp h gq23 => ?_)
    have h := h gq23
    obtain ⟨-, M, G⟩ := hp
    have W := rm_F W G
    replace lt := ltm_F dm lt G
    refine cm_X11_readPart (sp_X11_readPart (w := 1) h M (by decide)) h (fun xq24 Sq25 hp h gq26 => ?_)
    have h := h gq26
    obtain ⟨-, M, G, Vxq24⟩ := hp
    have W := rm_F W G
    replace lt := ltm_F dm lt G
    intro xq27 exq27
    have h := h xq27 exq27
    refine ⟨?_, ?_⟩
    · intro cq28
      have h := h.1 cq28
      exact ⟨h, lm_ov M (by unfold sWorld; rw [if_neg h0]; rfl) (exq27.symm.trans cq28), fun q hq => absurd hq (lm_no M (by unfold sWorld; rw [if_neg h0]; rfl) (exq27.symm.trans cq28) q)⟩
    · intro cq29
      exact absurd (exq27.trans (ov_f (σ := .inl p) (k := fun p => (3, tSt f n p)) M)) cq29
set_option maxHeartbeats 1000000 in
theorem sq_X11_readLine {G : GC} (h : P_X11_readLine v0 QU S) (M : MS f n a v0 (.inl p) S) (W : RMw v0 rd nm ns nk A S) (hAM : aM A = aP A + aW A) (dm : DMr v0 rd S) (ct : CtM rd A G S) : P_X11_readLine v0 (fun T => QU T ∧ LBm f n a v0 rd nm ns nk (sLn f n p A) (aLn f n p A) T ∧ ∀ q, sLn f n p A = .inl q → CtM rd (aLn f n p A) (gLn f n p A G) T) S := by
  delta P_X11_readLine P_X11_readLine_0
  obtain ⟨oq1, h⟩ := h
  refine ⟨oq1, ?_⟩
  refine cm_X11_isWord (sp_X11_isWord (w := 0) h M (by decide)) h (fun xq2 Sq3 hp h gq4 bq5 => ?_)
  have h := h gq4 bq5
  obtain ⟨-, hS, Axq2⟩ := hp
  subst hS
  refine ⟨?_, ?_⟩
  · intro cq6
    have Ncq6 : ¬ isW f n p 0 := an0 Axq2 cq6
    have h := h.1 cq6
    refine cm_X11_isWord (sp_X11_isWord (w := 2) h M (by decide)) h (fun xq7 Sq8 hp h gq9 bq10 => ?_)
    have h := h gq9 bq10
    obtain ⟨-, hS, Axq7⟩ := hp
    subst hS
    refine ⟨?_, ?_⟩
    · intro cq11
      have Ncq11 : ¬ isW f n p 2 := an0 Axq7 cq11
      have h := h.1 cq11
      refine cm_X11_isWord (sp_X11_isWord (w := 11) h M (by decide)) h (fun xq12 Sq13 hp h gq14 bq15 => ?_)
      have h := h gq14 bq15
      obtain ⟨-, hS, Axq12⟩ := hp
      subst hS
      refine ⟨?_, ?_⟩
      · intro cq16
        have Ncq16 : ¬ isW f n p 11 := an0 Axq12 cq16
        have h := h.1 cq16
        refine cm_X11_isWord (sp_X11_isWord (w := 12) h M (by decide)) h (fun xq17 Sq18 hp h gq19 bq20 => ?_)
        have h := h gq19 bq20
        obtain ⟨-, hS, Axq17⟩ := hp
        subst hS
        refine ⟨?_, ?_⟩
        · intro cq21
          have Ncq21 : ¬ isW f n p 12 := an0 Axq17 cq21
          have h := h.1 cq21
          refine cm_X11_isWord (sp_X11_isWord (w := 13) h M (by decide)) h (fun xq22 Sq23 hp h gq24 bq25 => ?_)
          have h := h gq24 bq25
          obtain ⟨-, hS, Axq22⟩ := hp
          subst hS
          refine ⟨?_, ?_⟩
          · intro cq26
            have Ncq26 : ¬ isW f n p 13 := an0 Axq22 cq26
            have h := h.1 cq26
            refine cm_X11_isWord (sp_X11_isWord (w := 14) h M (by decide)) h (fun xq27 Sq28 hp h gq29 bq30 => ?_)
            have h := h gq29 bq30
            obtain ⟨-, hS, Axq27⟩ := hp
            subst hS
            refine ⟨?_, ?_⟩
            · intro cq31
              have Ncq31 : ¬ isW f n p 14 := an0 Axq27 cq31
              have h := h.1 cq31
              refine cm_X11_flaw (sp_X11_flaw (k := 1) h M rfl) h (fun Sq32 hp h gq33 => ?_)
              have h := h gq33
              obtain ⟨-, M, G⟩ := hp
              have W := rm_F W G
              exact ⟨h, ⟨ms_eq M (by unfold sLn; rw [dc_n Ncq6, dc_n Ncq11, dc_n Ncq16, dc_n Ncq21, dc_n Ncq26, dc_n Ncq31]; rfl), fun q hq => by
                unfold sLn at hq
                rw [dc_n Ncq6, dc_n Ncq11, dc_n Ncq16, dc_n Ncq21, dc_n Ncq26, dc_n Ncq31] at hq
                cases hq⟩, fun q hq => by
                unfold sLn at hq
                rw [dc_n Ncq6, dc_n Ncq11, dc_n Ncq16, dc_n Ncq21, dc_n Ncq26, dc_n Ncq31] at hq
                cases hq⟩
            · intro cq34
              have Ncq34 : isW f n p 14 := an1 Axq27 cq34
              have h := h.2 cq34
              refine cm_X11_readSeen (sq_X11_readSeen h M W dm (gs_w (w := 14) Ncq34)) h (fun Sq35 hp h gq36 => ?_)
              have h := h gq36
              obtain ⟨-, LB, lt⟩ := hp
              refine ⟨h, ?_, ?_⟩
              · unfold sLn aLn
                rw [dc_n Ncq6, dc_n Ncq11, dc_n Ncq16, dc_n Ncq21, dc_n Ncq26, dc_y Ncq34, dc_n Ncq6, dc_n Ncq11, dc_n Ncq16, dc_n Ncq21, dc_n Ncq26]
                exact LB
              · intro q hq
                unfold sLn at hq
                rw [dc_n Ncq6, dc_n Ncq11, dc_n Ncq16, dc_n Ncq21, dc_n Ncq26, dc_y Ncq34] at hq
                unfold aLn gLn
                rw [dc_n Ncq6, dc_n Ncq11, dc_n Ncq16, dc_n Ncq21, dc_n Ncq26, dc_n Ncq6, dc_n Ncq11, dc_n Ncq16, dc_n Ncq21, dc_n Ncq26]
                exact ctm_seen ct (lt q hq)
          · intro cq37
            have Ncq37 : isW f n p 13 := an1 Axq22 cq37
            have h := h.2 cq37
            refine cm_X11_readWalker (sq_X11_readWalker h M W dm (gs_w (w := 13) Ncq37) hAM) h (fun Sq38 hp h gq39 => ?_)
            have h := h gq39
            obtain ⟨-, LB, lt⟩ := hp
            refine ⟨h, ?_, ?_⟩
            · unfold sLn aLn
              rw [dc_n Ncq6, dc_n Ncq11, dc_n Ncq16, dc_n Ncq21, dc_y Ncq37, dc_n Ncq6, dc_n Ncq11, dc_n Ncq16, dc_n Ncq21, dc_y Ncq37]
              exact LB
            · intro q hq
              unfold sLn at hq
              rw [dc_n Ncq6, dc_n Ncq11, dc_n Ncq16, dc_n Ncq21, dc_y Ncq37] at hq
              unfold aLn gLn
              rw [dc_n Ncq6, dc_n Ncq11, dc_n Ncq16, dc_n Ncq21, dc_y Ncq37, dc_n Ncq6, dc_n Ncq11, dc_n Ncq16, dc_n Ncq21, dc_y Ncq37]
              exact ctm_walk ct (lt q hq)
        · intro cq40
          have Ncq40 : isW f n p 12 := an1 Axq17 cq40
          have h := h.2 cq40
          refine cm_X11_readRoad (sq_X11_readRoad h M W dm (gs_w (w := 12) Ncq40)) h (fun Sq41 hp h gq42 => ?_)
          have h := h gq42
          obtain ⟨-, LB, lt⟩ := hp
          refine ⟨h, ?_, ?_⟩
          · unfold sLn aLn
            rw [dc_n Ncq6, dc_n Ncq11, dc_n Ncq16, dc_y Ncq40, dc_n Ncq6, dc_n Ncq11, dc_n Ncq16, dc_y Ncq40]
            exact LB
          · intro q hq
            unfold sLn at hq
            rw [dc_n Ncq6, dc_n Ncq11, dc_n Ncq16, dc_y Ncq40] at hq
            unfold aLn gLn
            rw [dc_n Ncq6, dc_n Ncq11, dc_n Ncq16, dc_y Ncq40, dc_n Ncq6, dc_n Ncq11, dc_n Ncq16, dc_y Ncq40]
            exact ctm_road ct (lt q hq)
      · intro cq43
        have Ncq43 : isW f n p 11 := an1 Axq12 cq43
        have h := h.2 cq43
        refine cm_X11_readPlace (sq_X11_readPlace h M W dm (gs_w (w := 11) Ncq43) hAM) h (fun Sq44 hp h gq45 => ?_)
        have h := h gq45
        obtain ⟨-, LB, lt⟩ := hp
        refine ⟨h, ?_, ?_⟩
        · unfold sLn aLn
          rw [dc_n Ncq6, dc_n Ncq11, dc_y Ncq43, dc_n Ncq6, dc_n Ncq11, dc_y Ncq43]
          exact LB
        · intro q hq
          unfold sLn at hq
          rw [dc_n Ncq6, dc_n Ncq11, dc_y Ncq43] at hq
          unfold aLn gLn
          rw [dc_n Ncq6, dc_n Ncq11, dc_y Ncq43, dc_n Ncq6, dc_n Ncq11, dc_y Ncq43]
          exact ctm_place ct (lt q hq)
    · intro cq46
      have Ncq46 : isW f n p 2 := an1 Axq7 cq46
      have h := h.2 cq46
      refine cm_X11_readRain (sq_X11_readRain h M W dm (gs_w (w := 2) Ncq46)) h (fun Sq47 hp h gq48 => ?_)
      have h := h gq48
      obtain ⟨-, LB, lt⟩ := hp
      refine ⟨h, ?_, ?_⟩
      · unfold sLn aLn
        rw [dc_n Ncq6, dc_y Ncq46, dc_n Ncq6, dc_y Ncq46]
        exact LB
      · intro q hq
        unfold sLn at hq
        rw [dc_n Ncq6, dc_y Ncq46] at hq
        unfold aLn gLn
        rw [dc_n Ncq6, dc_y Ncq46, dc_n Ncq6, dc_y Ncq46]
        exact ctm_rain ct (lt q hq)
  · intro cq49
    have Ncq49 : isW f n p 0 := an1 Axq2 cq49
    have h := h.2 cq49
    refine cm_X11_readWorld (sq_X11_readWorld h M W dm (gs_w (w := 0) Ncq49)) h (fun Sq50 hp h gq51 => ?_)
    have h := h gq51
    obtain ⟨-, LB, lt⟩ := hp
    refine ⟨h, ?_, ?_⟩
    · unfold sLn aLn
      rw [dc_y Ncq49, dc_y Ncq49]
      exact LB
    · intro q hq
      unfold sLn at hq
      rw [dc_y Ncq49] at hq
      unfold aLn gLn
      rw [dc_y Ncq49, dc_y Ncq49]
      exact ctm_none ct (lt q hq)
end Ct13
/-! world(n) of the reference, with all that was told -/
section Ct14
variable {f : Nat → Int32} {n a rd nm ns nk p : Nat} {A : AS} {σ : Res} {Q : Int32 → HS → Prop} {QU : HS → Prop} {S T : HS} {v0 : Nat}
def RAq (f : Nat → Int32) (n a m rd nm ns nk : Nat) (R : AS ⊕ (Nat × Nat)) (RG : GC) (T : HS) : Prop := RAm f n a m rd nm ns nk R T ∧ ∀ A, R = .inl A → CtM rd A RG T
def InqRA (f : Nat → Int32) (n a r rd nm ns nk : Nat) (R : AS ⊕ (Nat × Nat)) (RG : GC) (v0 : Nat) (v1 : Int32) (S : HS) : Prop := r = v0 ∧ DMr r rd S ∧ ((v1 = 1 ∧ ∃ (i p : Nat) (A : AS), i ≤ p ∧ MS f n a r (.inl p) S ∧ RMw r rd nm ns nk A S ∧ aM A = aP A + aW A ∧ R = sAll f n (1000 - i) p A ∧ ∃ G, CtM rd A G S ∧ RG = gAll f n (1000 - i) p A G) ∨ (v1 = 0 ∧ ∃ (L : Res) (A : AS) (g : Nat → AS ⊕ (Nat × Nat)), MS f n a r L S ∧ (∀ q, L = .inl q → RMw r rd nm ns nk A S ∧ aH A ≠ 0) ∧ R = aft f n A g L ∧ ¬ hasS f n L 3 ∧ ∃ G0 G1 gg, (∀ q, L = .inl q → CtM rd A G1 S) ∧ RG = gAft f n G0 G1 gg L))
theorem ra_n {R : AS ⊕ (Nat × Nat)} {m : Nat} {e : Nat × Nat} {P : AS → Prop} (h : RAm f n a m rd nm ns nk R T) (M : MS f n a m (.inr e) T) : ∀ A, R = .inl A → P A := by
  intro A z
  rw [z] at h
  obtain ⟨⟨q, M2⟩, -⟩ := h
  have h5 : fI T m 9 = 5 := M.2.1.1
  obtain ⟨q', hq'⟩ := (ms_9 M2).2.2.2.2.mp h5
  cases hq'
theorem ra_n1 {R : AS ⊕ (Nat × Nat)} {L : Res} {g : Nat → AS ⊕ (Nat × Nat)} {P : AS → Prop} (K : R = aft f n A g L) (h0 : ¬ hasS f n L 0) (h3 : ¬ hasS f n L 3) : ∀ A, R = .inl A → P A := by
  intro A' z
  cases L with
  | inr e =>
    rw [K] at z
    cases z
  | inl q =>
    have h0 : ¬ tS f n q = 0 := h0
    have h3 : ¬ tS f n q = 3 := h3
    have K : R = (if tS f n q = 0 then (if 0 < aP A ∧ 0 < aW A then .inl A else .inr (6, tSt f n q)) else (match sSign f n q 3 with
      | .inr e => .inr e
      | .inl p2 => g p2)) := K
    rw [if_neg h0] at K
    have : sSign f n q 3 = .inr (1, tSt f n q) := by
      unfold sSign
      rw [if_neg h3]
    rw [this] at K
    rw [K] at z
    cases z
set_option maxHeartbeats 1000000 in
theorem lqRA {RG : GC} {r : Nat} {R : AS ⊕ (Nat × Nat)} {v0 : Nat} {v1 : Int32} (h : P_X11_readAll_2 QU v0 v1 S) (hi : InqRA f n a r rd nm ns nk R RG v0 v1 S) : P_X11_readAll_2 (fun T => QU T ∧ RAq f n a r rd nm ns nk R RG T) v0 v1 S := by
  refine h (fun v0 v1 S => InqRA f n a r rd nm ns nk R RG v0 v1 S → P_X11_readAll_2 (fun T => QU T ∧ RAq f n a r rd nm ns nk R RG T) v0 v1 S) ?_ hi
  intro v0 v1 S h hi
  obtain ⟨rfl, dm, hi⟩ := hi
  refine fd_X11_readAll_2 ?_
  delta B_X11_readAll_2
  refine ⟨?_, ?_⟩
  · intro cq1
    rcases hi with ⟨z, -⟩ | ⟨-, L, A, g, M, hW, K, h3, G0, G1, gg, ctL, KG⟩
    · exact absurd (z.symm.trans cq1) (by decide)
    have h := h.1 cq1
    obtain ⟨oq2, h⟩ := h
    refine ⟨oq2, ?_⟩
    intro xq3 exq3
    have h := h xq3 exq3
    refine ⟨?_, ?_⟩
    · intro cq4
      have k0 := (ms_9 M).2.2.1.mp (exq3.symm.trans cq4)
      obtain ⟨q, hq⟩ : ∃ q, L = .inl q := by
        cases L with
        | inl q => exact ⟨q, rfl⟩
        | inr e => exact k0.elim
      obtain ⟨W, hH⟩ := hW q hq
      have hb := W.2.2.2.2.1
      subst hq
      have k0 : tS f n q = 0 := k0
      have h := h.1 cq4
      delta P_X11_readAll_33
      obtain ⟨oq5, h⟩ := h
      refine ⟨oq5, ?_⟩
      obtain ⟨aq6, eaq6, h⟩ := h
      refine ⟨aq6, eaq6, ?_⟩
      cases W.1.symm.trans eaq6
      obtain ⟨oq7, h⟩ := h
      refine ⟨oq7, ?_⟩
      intro xq8 exq8
      have h := h xq8 exq8
      refine ⟨?_, ?_⟩
      · intro cq9
        have Cxq8 := (c_nz (exq8.trans W.2.2.1.1) (by have := hb.1; omega)).1 cq9
        exact absurd Cxq8 hH
      · intro cq13
        have Cxq8 := (c_nz (exq8.trans W.2.2.1.1) (by have := hb.1; omega)).2 cq13
        have h := h.2 cq13
        obtain ⟨aq14, eaq14, h⟩ := h
        refine ⟨aq14, eaq14, ?_⟩
        cases W.1.symm.trans eaq14
        obtain ⟨oq15, h⟩ := h
        refine ⟨oq15, ?_⟩
        intro xq16 exq16
        have h := h xq16 exq16
        refine ⟨?_, ?_⟩
        · intro cq17
          have Cxq16 := (c_nz (exq16.trans W.2.2.1.2.2.1) (by have := hb.2.2.1; omega)).1 cq17
          have h := h.1 cq17
          delta P_X11_readAll_63
          obtain ⟨oq18, h⟩ := h
          refine ⟨oq18, ?_⟩
          refine cm_X11_flaw (sp_X11_flaw (k := 6) h M rfl) h (fun Sq19 hp h gq20 => ?_)
          have h := h gq20
          obtain ⟨-, M, G⟩ := hp
          exact ⟨h, ra_6 K k0 (by omega) M, ra_n (ra_6 (rd := rd) (nm := nm) (ns := ns) (nk := nk) K k0 (by omega) M) M⟩
        · intro cq21
          have Cxq16 := (c_nz (exq16.trans W.2.2.1.2.2.1) (by have := hb.2.2.1; omega)).2 cq21
          have h := h.2 cq21
          obtain ⟨aq22, eaq22, h⟩ := h
          refine ⟨aq22, eaq22, ?_⟩
          cases W.1.symm.trans eaq22
          obtain ⟨oq23, h⟩ := h
          refine ⟨oq23, ?_⟩
          intro xq24 exq24
          have h := h xq24 exq24
          refine ⟨?_, ?_⟩
          · intro cq25
            have Cxq24 := (c_nz (exq24.trans W.2.2.1.2.2.2.2.1) (by have := hb.2.2.2.2.1; omega)).2 cq25
            have h := h.1 cq25
            refine ⟨h, ra_y K k0 (by omega) M W, fun A2 z => ?_⟩
            have K2 : R = .inl A := by
              rw [K]
              show (if tS f n q = 0 then (if 0 < aP A ∧ 0 < aW A then _ else _) else _) = _
              rw [if_pos k0, if_pos (by omega)]
            cases K2.symm.trans z
            have : RG = G1 := by
              rw [KG]
              show (if tS f n q = 0 then G1 else _) = _
              rw [if_pos k0]
            rw [this]
            exact ctL q rfl
          · intro cq26
            have Cxq24 := (c_nz (exq24.trans W.2.2.1.2.2.2.2.1) (by have := hb.2.2.2.2.1; omega)).1 cq26
            have h := h.2 cq26
            delta P_X11_readAll_63
            obtain ⟨oq27, h⟩ := h
            refine ⟨oq27, ?_⟩
            refine cm_X11_flaw (sp_X11_flaw (k := 6) h M rfl) h (fun Sq28 hp h gq29 => ?_)
            have h := h gq29
            obtain ⟨-, M, G⟩ := hp
            exact ⟨h, ra_6 K k0 (by omega) M, ra_n (ra_6 (rd := rd) (nm := nm) (ns := ns) (nk := nk) K k0 (by omega) M) M⟩
    · intro cq30
      have k0 : ¬ hasS f n L 0 := fun z => cq30 (exq3.trans ((ms_9 M).2.2.1.mpr z))
      have h := h.2 cq30
      refine cm_X11_flaw (sp_X11_flaw (k := 1) h M rfl) h (fun Sq31 hp h gq32 => ?_)
      have h := h gq32
      obtain ⟨-, M, G⟩ := hp
      delta P_X11_readAll_33
      obtain ⟨oq33, h⟩ := h
      refine ⟨oq33, ?_⟩
      obtain ⟨aq34, eaq34, h⟩ := h
      refine ⟨aq34, eaq34, ?_⟩
      obtain ⟨oq35, h⟩ := h
      refine ⟨oq35, ?_⟩
      intro xq36 exq36
      have h := h xq36 exq36
      refine ⟨?_, ?_⟩
      · intro cq37
        have h := h.1 cq37
        delta P_X11_readAll_63
        obtain ⟨oq38, h⟩ := h
        refine ⟨oq38, ?_⟩
        refine cm_X11_flaw (sp_X11_flaw (k := 6) h M rfl) h (fun Sq39 hp h gq40 => ?_)
        have h := h gq40
        obtain ⟨-, M, G⟩ := hp
        exact ⟨h, ra_1 (e := (0, 0)) K k0 h3 (ms_eq M rb_rb), ra_n1 K k0 h3⟩
      · intro cq41
        have h := h.2 cq41
        obtain ⟨aq42, eaq42, h⟩ := h
        refine ⟨aq42, eaq42, ?_⟩
        obtain ⟨oq43, h⟩ := h
        refine ⟨oq43, ?_⟩
        intro xq44 exq44
        have h := h xq44 exq44
        refine ⟨?_, ?_⟩
        · intro cq45
          have h := h.1 cq45
          delta P_X11_readAll_63
          obtain ⟨oq46, h⟩ := h
          refine ⟨oq46, ?_⟩
          refine cm_X11_flaw (sp_X11_flaw (k := 6) h M rfl) h (fun Sq47 hp h gq48 => ?_)
          have h := h gq48
          obtain ⟨-, M, G⟩ := hp
          exact ⟨h, ra_1 (e := (0, 0)) K k0 h3 (ms_eq M rb_rb), ra_n1 K k0 h3⟩
        · intro cq49
          have h := h.2 cq49
          obtain ⟨aq50, eaq50, h⟩ := h
          refine ⟨aq50, eaq50, ?_⟩
          obtain ⟨oq51, h⟩ := h
          refine ⟨oq51, ?_⟩
          intro xq52 exq52
          have h := h xq52 exq52
          refine ⟨?_, ?_⟩
          · intro cq53
            have h := h.1 cq53
            exact ⟨h, ra_1 (e := (0, 0)) K k0 h3 M, ra_n1 K k0 h3⟩
          · intro cq54
            have h := h.2 cq54
            delta P_X11_readAll_63
            obtain ⟨oq55, h⟩ := h
            refine ⟨oq55, ?_⟩
            refine cm_X11_flaw (sp_X11_flaw (k := 6) h M rfl) h (fun Sq56 hp h gq57 => ?_)
            have h := h gq57
            obtain ⟨-, M, G⟩ := hp
            exact ⟨h, ra_1 (e := (0, 0)) K k0 h3 (ms_eq M rb_rb), ra_n1 K k0 h3⟩
  · intro cq58
    rcases hi.symm with ⟨z, -⟩ | ⟨-, i, p, A, hip, M, W, hAM, K, Gc, ct, KG⟩
    · exact absurd z cq58
    have h := h.2 cq58
    obtain ⟨oq59, h⟩ := h
    refine ⟨oq59, ?_⟩
    have M9 := M
    refine cm_X11_readLine (sq_X11_readLine h M W hAM dm ct) (ko_X11_readLine h) (fun Sq60 hp hk gq61 => ?_)
    have h := hk.1
    have dm := dm_mv hk.2.1 dm
    have h := h gq61
    obtain ⟨-, LB, ct⟩ := hp
    have M := LB.1
    have hp9 : p ≤ 900 := M9.2.2 p rfl
    have K : R = aft f n (aLn f n p A) (fun p2 => sAll f n (999 - i) p2 (aLn f n p A)) (sLn f n p A) := by
      rw [K, show 1000 - i = (999 - i) + 1 by omega]
      rfl
    have KG : RG = gAft f n Gc (gLn f n p A Gc) (fun p2 => gAll f n (999 - i) p2 (aLn f n p A) (gLn f n p A Gc)) (sLn f n p A) := by
      rw [KG, show 1000 - i = (999 - i) + 1 by omega]
      rfl
    refine cm_X11_eatsSign (sp_X11_eatsSign (k := 3) h M (Or.inl ⟨rfl, rfl⟩)) h (fun xq62 Sq63 hp h gq64 bq65 => ?_)
    have h := h gq64 bq65
    obtain ⟨-, M, G, Vxq62⟩ := hp
    rcases Vxq62 with ⟨k3, hx⟩ | ⟨k3, hx⟩
    · obtain ⟨p1, hL⟩ : ∃ q, sLn f n p A = .inl q := by
        cases hL : sLn f n p A with
        | inl q => exact ⟨q, rfl⟩
        | inr e => rw [hL] at k3; exact k3.elim
      have W := rm_F (LB.2 p1 hL) G
      have g1 := ge_ln p1 hL
      have ct := ctm_F dm (ct p1 hL) G
      rw [hL] at M K k3 KG
      have k3 : tS f n p1 = 3 := k3
      rw [aft_3 k3] at K
      have M : MS f n a r (.inl (tEn f n p1)) _ := ms_eq M (dc_y k3)
      have g2 := tEn_sg (k := 3) k3 (Or.inl rfl)
      refine h ⟨rfl, dm_mv G.2.2.2.1 dm, Or.inl ⟨hx, i + 1, tEn f n p1, aLn f n p A, by omega, M, W, eq_ln hAM, by rw [K, show 1000 - (i + 1) = 999 - i by omega], gLn f n p A Gc, ct, ?_⟩⟩
      rw [KG, show 1000 - (i + 1) = 999 - i by omega]
      show (if tS f n p1 = 0 then _ else (match sSign f n p1 3 with | .inr e => Gc | .inl p2 => gAll f n (999 - i) p2 (aLn f n p A) (gLn f n p A Gc))) = _
      rw [if_neg (by omega)]
      have : sSign f n p1 3 = .inl (tEn f n p1) := by
        unfold sSign
        rw [if_pos k3]
      rw [this]
    · have M := ms_eq M (rb_idd (fun p hp => (dc_n (hs_np k3 hp)).symm)).symm
      exact h ⟨rfl, dm_mv G.2.2.2.1 dm, Or.inr ⟨hx, _, _, _, M, fun q hq => ⟨rm_F (LB.2 q hq) G, hour_ln hq⟩, K, k3, _, _, _, fun q hq => ctm_F dm (ct q hq) G, KG⟩⟩
theorem sq_X11_readAll {G : GC} (h : P_X11_readAll v0 QU S) (M : MS f n a v0 (.inl p) S) (W : RMw v0 rd nm ns nk A S) (hAM : aM A = aP A + aW A) (dm : DMr v0 rd S) (ct : CtM rd A G S) : P_X11_readAll v0 (fun T => QU T ∧ RAq f n a v0 rd nm ns nk (sAll f n 1000 p A) (gAll f n 1000 p A G) T ∧ KO_M v0 S T) S := by
  refine cm_X11_readAll ?_ (ko_X11_readAll h) (fun T h1 h2 => ⟨h2.1, h1, h2.2⟩)
  have hh : P_X11_readAll v0 (fun T => QU T ∧ RAq f n a v0 rd nm ns nk (sAll f n 1000 p A) (gAll f n 1000 p A G) T) S := by
    delta P_X11_readAll P_X11_readAll_0
    exact lqRA h ⟨rfl, dm, Or.inl ⟨rfl, 0, p, A, by omega, M, W, hAM, rfl, G, ct, rfl⟩⟩
  exact cm_X11_readAll hh hh (fun T h1 _ => h1.2)
end Ct14
end
section
/-! which runs make nothing new -/
def KH (S T : HS) : Prop := hL T = hL S ∧ hK T = hK S
section KHs
variable {S T U : HS} {a j : Nat}
theorem kh_rf (S : HS) : KH S S := ⟨rfl, rfl⟩
theorem kh_tr (h : KH S T) (g : KH T U) : KH S U := ⟨g.1.trans h.1, g.2.trans h.2⟩
theorem kh_I {v : Int32} (h : KH S T) (e : U = sI T a j v) : KH S U := by
  rw [e]
  exact h
theorem kh_J {v : Int64} (h : KH S T) (e : U = sJ T a j v) : KH S U := by
  rw [e]
  exact h
theorem kh_R {v : Option Nat} (h : KH S T) (e : U = sR T a j v) : KH S U := by
  rw [e]
  exact h
end KHs
set_option maxRecDepth 20000 in
set_option maxHeartbeats 1000000 in
theorem kh_X0_end_0 {Q : HS → Prop} {v0 : Nat} {S0 S : HS} (h : P_X0_end_0 Q v0 S) (K : KH S0 S) : P_X0_end_0 (fun T => Q T ∧ KH S0 T) v0 S := by
  delta P_X0_end_0 at h ⊢
  obtain ⟨c1, h⟩ := h
  refine ⟨c1, ?_⟩
  intro x3 e2
  have h := h x3 e2
  have K := kh_I K e2
  intro x5 e4
  have h := h x5 e4
  have K := kh_I K e4
  intro x7 e6
  have h := h x7 e6
  have K := kh_I K e6
  exact ⟨h, K⟩
theorem kh_X0_end {Q : HS → Prop} {v0 : Nat} {S : HS} (h : P_X0_end v0 Q S) : P_X0_end v0 (fun T => Q T ∧ KH S T) S := kh_X0_end_0 h (kh_rf S)
set_option maxRecDepth 20000 in
set_option maxHeartbeats 1000000 in
theorem khB_X10_find_2 {Q : Int32 → HS → Prop} {X2 X2_2 : Nat → Int64 → Int32 → HS → Prop} {v0 : Nat} {v1 : Int64} {v3 : Int32} {S0 S : HS} (h : B_X10_find_2 Q X2 v0 v1 v3 S) (K : KH S0 S) (hX2 : ∀ (u0 : Nat) (u1 : Int64) (u2 : Int32) (u3 : HS), X2 u0 u1 u2 u3 → KH S0 u3 → X2_2 u0 u1 u2 u3) : B_X10_find_2 (fun r T => Q r T ∧ KH S0 T) X2_2 v0 v1 v3 S := by
  delta B_X10_find_2 at h ⊢
  obtain ⟨c1, h⟩ := h
  refine ⟨c1, ?_⟩
  intro x3 e2
  have h := h x3 e2
  refine ⟨?_, ?_⟩
  · intro c4
    have h := h.1 c4
    exact ⟨h, K⟩
  · intro c5
    have h := h.2 c5
    obtain ⟨b6, e7, h⟩ := h
    refine ⟨b6, e7, ?_⟩
    obtain ⟨c8, h⟩ := h
    refine ⟨c8, ?_⟩
    obtain ⟨c9, h⟩ := h
    refine ⟨c9, ?_⟩
    intro x11 e10
    have h := h x11 e10
    refine ⟨?_, ?_⟩
    · intro c12
      have h := h.1 c12
      intro x14 e13
      have h := h x14 e13
      exact hX2 _ _ _ _ h K
    · intro c15
      have h := h.2 c15
      exact ⟨h, K⟩
theorem kh_X10_find_2 {Q : Int32 → HS → Prop} {v0 : Nat} {v1 : Int64} {v3 : Int32} {S0 S : HS} (h : P_X10_find_2 Q v0 v1 v3 S) (K : KH S0 S) : P_X10_find_2 (fun r T => Q r T ∧ KH S0 T) v0 v1 v3 S := h (fun v0 v1 v3 S => KH S0 S → P_X10_find_2 (fun r T => Q r T ∧ KH S0 T) v0 v1 v3 S) (fun v0 v1 v3 S hB K => fd_X10_find_2 (khB_X10_find_2 hB K (fun _ _ _ _ hx K => hx K))) K
set_option maxRecDepth 20000 in
set_option maxHeartbeats 1000000 in
theorem kh_X10_find_0 {Q : Int32 → HS → Prop} {v0 : Nat} {v1 : Int64} {S0 S : HS} (h : P_X10_find_0 Q v0 v1 S) (K : KH S0 S) : P_X10_find_0 (fun r T => Q r T ∧ KH S0 T) v0 v1 S := by
  delta P_X10_find_0 at h ⊢
  exact kh_X10_find_2 h K
theorem kh_X10_find {Q : Int32 → HS → Prop} {v0 : Nat} {v1 : Int64} {S : HS} (h : P_X10_find v0 v1 Q S) : P_X10_find v0 v1 (fun r T => Q r T ∧ KH S T) S := kh_X10_find_0 h (kh_rf S)
set_option maxRecDepth 20000 in
set_option maxHeartbeats 1000000 in
theorem kh_X11_in_0 {Q : Int32 → HS → Prop} {v0 : Int32} {v1 : Int32} {v2 : Int32} {S0 S : HS} (h : P_X11_in_0 Q v0 v1 v2 S) (K : KH S0 S) : P_X11_in_0 (fun r T => Q r T ∧ KH S0 T) v0 v1 v2 S := by
  delta P_X11_in_0 at h ⊢
  refine ⟨?_, ?_⟩
  · intro c1
    have h := h.1 c1
    exact ⟨h, K⟩
  · intro c2
    have h := h.2 c2
    refine ⟨?_, ?_⟩
    · intro c3
      have h := h.1 c3
      exact ⟨h, K⟩
    · intro c4
      have h := h.2 c4
      exact ⟨h, K⟩
theorem kh_X11_in {Q : Int32 → HS → Prop} {v0 : Int32} {v1 : Int32} {v2 : Int32} {S : HS} (h : P_X11_in v0 v1 v2 Q S) : P_X11_in v0 v1 v2 (fun r T => Q r T ∧ KH S T) S := kh_X11_in_0 h (kh_rf S)
set_option maxRecDepth 20000 in
set_option maxHeartbeats 1000000 in
theorem kh_X11_flaw_0 {Q : HS → Prop} {v0 : Nat} {v1 : Int32} {S0 S : HS} (h : P_X11_flaw_0 Q v0 v1 S) (K : KH S0 S) : P_X11_flaw_0 (fun T => Q T ∧ KH S0 T) v0 v1 S := by
  delta P_X11_flaw_0 at h ⊢
  obtain ⟨c1, h⟩ := h
  refine ⟨c1, ?_⟩
  intro x3 e2
  have h := h x3 e2
  refine ⟨?_, ?_⟩
  · intro c4
    have h := h.1 c4
    intro x6 e5
    have h := h x6 e5
    have K := kh_I K e5
    intro x8 e7
    have h := h x8 e7
    intro x10 e9
    have h := h x10 e9
    have K := kh_I K e9
    intro x12 e11
    have h := h x12 e11
    have K := kh_I K e11
    exact ⟨h, K⟩
  · intro c13
    have h := h.2 c13
    exact ⟨h, K⟩
theorem kh_X11_flaw {Q : HS → Prop} {v0 : Nat} {v1 : Int32} {S : HS} (h : P_X11_flaw v0 v1 Q S) : P_X11_flaw v0 v1 (fun T => Q T ∧ KH S T) S := kh_X11_flaw_0 h (kh_rf S)
set_option maxRecDepth 20000 in
set_option maxHeartbeats 1000000 in
theorem kh_X11_byteAt_0 {Q : Int32 → HS → Prop} {v0 : Nat} {v1 : Int32} {S0 S : HS} (h : P_X11_byteAt_0 Q v0 v1 S) (K : KH S0 S) : P_X11_byteAt_0 (fun r T => Q r T ∧ KH S0 T) v0 v1 S := by
  delta P_X11_byteAt_0 at h ⊢
  obtain ⟨c1, h⟩ := h
  refine ⟨c1, ?_⟩
  intro x3 e2
  have h := h x3 e2
  refine ⟨?_, ?_⟩
  · intro c4
    have h := h.1 c4
    exact ⟨h, K⟩
  · intro c5
    have h := h.2 c5
    obtain ⟨b6, e7, h⟩ := h
    refine ⟨b6, e7, ?_⟩
    obtain ⟨c8, h⟩ := h
    refine ⟨c8, ?_⟩
    obtain ⟨c9, h⟩ := h
    refine ⟨c9, ?_⟩
    intro x11 e10
    have h := h x11 e10
    exact ⟨h, K⟩
theorem kh_X11_byteAt {Q : Int32 → HS → Prop} {v0 : Nat} {v1 : Int32} {S : HS} (h : P_X11_byteAt v0 v1 Q S) : P_X11_byteAt v0 v1 (fun r T => Q r T ∧ KH S T) S := kh_X11_byteAt_0 h (kh_rf S)
set_option maxRecDepth 20000 in
set_option maxHeartbeats 1000000 in
theorem kh_X11_isDigit_0 {Q : Int32 → HS → Prop} {v0 : Int32} {S0 S : HS} (h : P_X11_isDigit_0 Q v0 S) (K : KH S0 S) : P_X11_isDigit_0 (fun r T => Q r T ∧ KH S0 T) v0 S := by
  delta P_X11_isDigit_0 at h ⊢
  refine ⟨?_, ?_⟩
  · intro c1
    have h := h.1 c1
    exact ⟨h, K⟩
  · intro c2
    have h := h.2 c2
    refine ⟨?_, ?_⟩
    · intro c3
      have h := h.1 c3
      exact ⟨h, K⟩
    · intro c4
      have h := h.2 c4
      exact ⟨h, K⟩
theorem kh_X11_isDigit {Q : Int32 → HS → Prop} {v0 : Int32} {S : HS} (h : P_X11_isDigit v0 Q S) : P_X11_isDigit v0 (fun r T => Q r T ∧ KH S T) S := kh_X11_isDigit_0 h (kh_rf S)
set_option maxRecDepth 20000 in
set_option maxHeartbeats 1000000 in
theorem kh_X11_isLetter_0 {Q : Int32 → HS → Prop} {v0 : Int32} {S0 S : HS} (h : P_X11_isLetter_0 Q v0 S) (K : KH S0 S) : P_X11_isLetter_0 (fun r T => Q r T ∧ KH S0 T) v0 S := by
  delta P_X11_isLetter_0 at h ⊢
  refine ⟨?_, ?_⟩
  · intro c1
    have h := h.1 c1
    exact ⟨h, K⟩
  · intro c2
    have h := h.2 c2
    refine ⟨?_, ?_⟩
    · intro c3
      have h := h.1 c3
      exact ⟨h, K⟩
    · intro c4
      have h := h.2 c4
      exact ⟨h, K⟩
theorem kh_X11_isLetter {Q : Int32 → HS → Prop} {v0 : Int32} {S : HS} (h : P_X11_isLetter v0 Q S) : P_X11_isLetter v0 (fun r T => Q r T ∧ KH S T) S := kh_X11_isLetter_0 h (kh_rf S)
set_option maxRecDepth 20000 in
set_option maxHeartbeats 1000000 in
theorem kh_X11_goesOn_136 {Q : HS → Prop} {X89 X89_2 : Nat → Int32 → HS → Prop} {v0 : Nat} {v2 : Int32} {S0 S : HS} (h : P_X11_goesOn_136 Q X89 v0 v2 S) (K : KH S0 S) (hX89 : ∀ (u0 : Nat) (u1 : Int32) (u2 : HS), X89 u0 u1 u2 → KH S0 u2 → X89_2 u0 u1 u2) : P_X11_goesOn_136 (fun T => Q T ∧ KH S0 T) X89_2 v0 v2 S := by
  delta P_X11_goesOn_136 at h ⊢
  intro x2 e1
  have h := h x2 e1
  obtain ⟨c3, h⟩ := h
  refine ⟨c3, ?_⟩
  intro x5 e4
  have h := h x5 e4
  intro x7 e6
  have h := h x7 e6
  intro x9 e8
  have h := h x9 e8
  have K := kh_I K e8
  exact hX89 _ _ _ h K
set_option maxRecDepth 20000 in
set_option maxHeartbeats 1000000 in
theorem khB_X11_goesOn_89 {Q : HS → Prop} {X89 X89_2 : Nat → Int32 → HS → Prop} {v0 : Nat} {v2 : Int32} {S0 S : HS} (h : B_X11_goesOn_89 Q X89 v0 v2 S) (K : KH S0 S) (hX89 : ∀ (u0 : Nat) (u1 : Int32) (u2 : HS), X89 u0 u1 u2 → KH S0 u2 → X89_2 u0 u1 u2) : B_X11_goesOn_89 (fun T => Q T ∧ KH S0 T) X89_2 v0 v2 S := by
  delta B_X11_goesOn_89 at h ⊢
  obtain ⟨c1, h⟩ := h
  refine ⟨c1, ?_⟩
  intro x3 e2
  have h := h x3 e2
  refine cm_X11_byteAt (kh_X11_byteAt h) h (fun x4 x5 hp h g6 => ?_)
  have h := h g6
  have K := kh_tr K hp.2
  refine cm_X11_isLetter (kh_X11_isLetter h) h (fun x7 x8 hp h g9 g10 => ?_)
  have h := h g9 g10
  have K := kh_tr K hp.2
  refine ⟨?_, ?_⟩
  · intro c11
    have h := h.1 c11
    refine ⟨?_, ?_⟩
    · intro c12
      have h := h.1 c12
      exact ⟨h, K⟩
    · intro c13
      have h := h.2 c13
      intro x15 e14
      have h := h x15 e14
      have K := kh_I K e14
      exact ⟨h, K⟩
  · intro c16
    have h := h.2 c16
    refine ⟨?_, ?_⟩
    · intro c17
      have h := h.1 c17
      exact kh_X11_goesOn_136 h K hX89
    · intro c18
      have h := h.2 c18
      intro x20 e19
      have h := h x20 e19
      intro x22 e21
      have h := h x22 e21
      refine cm_X11_byteAt (kh_X11_byteAt h) h (fun x23 x24 hp h g25 => ?_)
      have h := h g25
      have K := kh_tr K hp.2
      intro x27 e26
      have h := h x27 e26
      intro x29 e28
      have h := h x29 e28
      have K := kh_J K e28
      exact kh_X11_goesOn_136 h K hX89
theorem kh_X11_goesOn_89 {Q : HS → Prop} {v0 : Nat} {v2 : Int32} {S0 S : HS} (h : P_X11_goesOn_89 Q v0 v2 S) (K : KH S0 S) : P_X11_goesOn_89 (fun T => Q T ∧ KH S0 T) v0 v2 S := h (fun v0 v2 S => KH S0 S → P_X11_goesOn_89 (fun T => Q T ∧ KH S0 T) v0 v2 S) (fun v0 v2 S hB K => fd_X11_goesOn_89 (khB_X11_goesOn_89 hB K (fun _ _ _ hx K => hx K))) K
set_option maxRecDepth 20000 in
set_option maxHeartbeats 1000000 in
theorem kh_X11_goesOn_220 {Q : HS → Prop} {X178 X178_2 : Nat → Int32 → HS → Prop} {v0 : Nat} {v2 : Int32} {S0 S : HS} (h : P_X11_goesOn_220 Q X178 v0 v2 S) (K : KH S0 S) (hX178 : ∀ (u0 : Nat) (u1 : Int32) (u2 : HS), X178 u0 u1 u2 → KH S0 u2 → X178_2 u0 u1 u2) : P_X11_goesOn_220 (fun T => Q T ∧ KH S0 T) X178_2 v0 v2 S := by
  delta P_X11_goesOn_220 at h ⊢
  intro x2 e1
  have h := h x2 e1
  obtain ⟨c3, h⟩ := h
  refine ⟨c3, ?_⟩
  intro x5 e4
  have h := h x5 e4
  intro x7 e6
  have h := h x7 e6
  intro x9 e8
  have h := h x9 e8
  have K := kh_I K e8
  exact hX178 _ _ _ h K
set_option maxRecDepth 20000 in
set_option maxHeartbeats 1000000 in
theorem khB_X11_goesOn_178 {Q : HS → Prop} {X178 X178_2 : Nat → Int32 → HS → Prop} {v0 : Nat} {v2 : Int32} {S0 S : HS} (h : B_X11_goesOn_178 Q X178 v0 v2 S) (K : KH S0 S) (hX178 : ∀ (u0 : Nat) (u1 : Int32) (u2 : HS), X178 u0 u1 u2 → KH S0 u2 → X178_2 u0 u1 u2) : B_X11_goesOn_178 (fun T => Q T ∧ KH S0 T) X178_2 v0 v2 S := by
  delta B_X11_goesOn_178 at h ⊢
  obtain ⟨c1, h⟩ := h
  refine ⟨c1, ?_⟩
  intro x3 e2
  have h := h x3 e2
  refine cm_X11_byteAt (kh_X11_byteAt h) h (fun x4 x5 hp h g6 => ?_)
  have h := h g6
  have K := kh_tr K hp.2
  refine cm_X11_isDigit (kh_X11_isDigit h) h (fun x7 x8 hp h g9 g10 => ?_)
  have h := h g9 g10
  have K := kh_tr K hp.2
  refine ⟨?_, ?_⟩
  · intro c11
    have h := h.1 c11
    refine ⟨?_, ?_⟩
    · intro c12
      have h := h.1 c12
      exact ⟨h, K⟩
    · intro c13
      have h := h.2 c13
      intro x15 e14
      have h := h x15 e14
      have K := kh_I K e14
      exact ⟨h, K⟩
  · intro c16
    have h := h.2 c16
    refine ⟨?_, ?_⟩
    · intro c17
      have h := h.1 c17
      exact kh_X11_goesOn_220 h K hX178
    · intro c18
      have h := h.2 c18
      intro x20 e19
      have h := h x20 e19
      intro x22 e21
      have h := h x22 e21
      refine cm_X11_byteAt (kh_X11_byteAt h) h (fun x23 x24 hp h g25 => ?_)
      have h := h g25
      have K := kh_tr K hp.2
      intro x27 e26
      have h := h x27 e26
      intro x29 e28
      have h := h x29 e28
      have K := kh_I K e28
      exact kh_X11_goesOn_220 h K hX178
theorem kh_X11_goesOn_178 {Q : HS → Prop} {v0 : Nat} {v2 : Int32} {S0 S : HS} (h : P_X11_goesOn_178 Q v0 v2 S) (K : KH S0 S) : P_X11_goesOn_178 (fun T => Q T ∧ KH S0 T) v0 v2 S := h (fun v0 v2 S => KH S0 S → P_X11_goesOn_178 (fun T => Q T ∧ KH S0 T) v0 v2 S) (fun v0 v2 S hB K => fd_X11_goesOn_178 (khB_X11_goesOn_178 hB K (fun _ _ _ hx K => hx K))) K
set_option maxRecDepth 20000 in
set_option maxHeartbeats 1000000 in
theorem kh_X11_goesOn_261 {Q : HS → Prop} {v0 : Nat} {v1 : Int32} {S0 S : HS} (h : P_X11_goesOn_261 Q v0 v1 S) (K : KH S0 S) : P_X11_goesOn_261 (fun T => Q T ∧ KH S0 T) v0 v1 S := by
  delta P_X11_goesOn_261 at h ⊢
  obtain ⟨c1, h⟩ := h
  refine ⟨c1, ?_⟩
  intro x3 e2
  have h := h x3 e2
  have K := kh_I K e2
  intro x5 e4
  have h := h x5 e4
  have K := kh_I K e4
  intro x7 e6
  have h := h x7 e6
  intro x9 e8
  have h := h x9 e8
  intro x11 e10
  have h := h x11 e10
  have K := kh_I K e10
  exact ⟨h, K⟩
set_option maxRecDepth 20000 in
set_option maxHeartbeats 1000000 in
theorem khB_X11_goesOn_9 {Q : HS → Prop} {X9 X9_2 : Nat → HS → Prop} {v0 : Nat} {S0 S : HS} (h : B_X11_goesOn_9 Q X9 v0 S) (K : KH S0 S) (hX9 : ∀ (u0 : Nat) (u1 : HS), X9 u0 u1 → KH S0 u1 → X9_2 u0 u1) : B_X11_goesOn_9 (fun T => Q T ∧ KH S0 T) X9_2 v0 S := by
  delta B_X11_goesOn_9 at h ⊢
  obtain ⟨c1, h⟩ := h
  refine ⟨c1, ?_⟩
  intro x3 e2
  have h := h x3 e2
  refine cm_X11_byteAt (kh_X11_byteAt h) h (fun x4 x5 hp h g6 => ?_)
  have h := h g6
  have K := kh_tr K hp.2
  refine ⟨?_, ?_⟩
  · intro c7
    have h := h.1 c7
    intro x9 e8
    have h := h x9 e8
    intro x11 e10
    have h := h x11 e10
    have K := kh_I K e10
    intro x13 e12
    have h := h x13 e12
    have K := kh_I K e12
    intro x15 e14
    have h := h x15 e14
    have K := kh_I K e14
    intro x17 e16
    have h := h x17 e16
    refine cm_X11_byteAt (kh_X11_byteAt h) h (fun x18 x19 hp h g20 => ?_)
    have h := h g20
    have K := kh_tr K hp.2
    refine ⟨?_, ?_⟩
    · intro c21
      have h := h.1 c21
      refine cm_X11_isLetter (kh_X11_isLetter h) h (fun x22 x23 hp h g24 g25 => ?_)
      have h := h g24 g25
      have K := kh_tr K hp.2
      refine ⟨?_, ?_⟩
      · intro c26
        have h := h.1 c26
        refine cm_X11_isDigit (kh_X11_isDigit h) h (fun x27 x28 hp h g29 g30 => ?_)
        have h := h g29 g30
        have K := kh_tr K hp.2
        refine ⟨?_, ?_⟩
        · intro c31
          have h := h.1 c31
          refine ⟨?_, ?_⟩
          · intro c32
            have h := h.1 c32
            exact kh_X11_goesOn_261 h K
          · intro c33
            have h := h.2 c33
            refine ⟨?_, ?_⟩
            · intro c34
              have h := h.1 c34
              exact ⟨h, K⟩
            · intro c35
              have h := h.2 c35
              exact kh_X11_goesOn_261 h K
        · intro c36
          have h := h.2 c36
          intro x38 e37
          have h := h x38 e37
          have K := kh_I K e37
          exact kh_X11_goesOn_178 h K
      · intro c39
        have h := h.2 c39
        intro x41 e40
        have h := h x41 e40
        have K := kh_J K e40
        exact kh_X11_goesOn_89 h K
    · intro c42
      have h := h.2 c42
      intro x44 e43
      have h := h x44 e43
      have K := kh_I K e43
      exact ⟨h, K⟩
  · intro c45
    have h := h.2 c45
    intro x47 e46
    have h := h x47 e46
    intro x49 e48
    have h := h x49 e48
    intro x51 e50
    have h := h x51 e50
    have K := kh_I K e50
    exact hX9 _ _ h K
theorem kh_X11_goesOn_9 {Q : HS → Prop} {v0 : Nat} {S0 S : HS} (h : P_X11_goesOn_9 Q v0 S) (K : KH S0 S) : P_X11_goesOn_9 (fun T => Q T ∧ KH S0 T) v0 S := h (fun v0 S => KH S0 S → P_X11_goesOn_9 (fun T => Q T ∧ KH S0 T) v0 S) (fun v0 S hB K => fd_X11_goesOn_9 (khB_X11_goesOn_9 hB K (fun _ _ hx K => hx K))) K
set_option maxRecDepth 20000 in
set_option maxHeartbeats 1000000 in
theorem kh_X11_goesOn_0 {Q : HS → Prop} {v0 : Nat} {S0 S : HS} (h : P_X11_goesOn_0 Q v0 S) (K : KH S0 S) : P_X11_goesOn_0 (fun T => Q T ∧ KH S0 T) v0 S := by
  delta P_X11_goesOn_0 at h ⊢
  obtain ⟨c1, h⟩ := h
  refine ⟨c1, ?_⟩
  intro x3 e2
  have h := h x3 e2
  refine ⟨?_, ?_⟩
  · intro c4
    have h := h.1 c4
    exact kh_X11_goesOn_9 h K
  · intro c5
    have h := h.2 c5
    exact ⟨h, K⟩
theorem kh_X11_goesOn {Q : HS → Prop} {v0 : Nat} {S : HS} (h : P_X11_goesOn v0 Q S) : P_X11_goesOn v0 (fun T => Q T ∧ KH S T) S := kh_X11_goesOn_0 h (kh_rf S)
set_option maxRecDepth 20000 in
set_option maxHeartbeats 1000000 in
theorem kh_X11_begins_26 {Q : HS → Prop} {v0 : Nat} {S0 S : HS} (h : P_X11_begins_26 Q v0 S) (K : KH S0 S) : P_X11_begins_26 (fun T => Q T ∧ KH S0 T) v0 S := by
  delta P_X11_begins_26 at h ⊢
  obtain ⟨c1, h⟩ := h
  refine ⟨c1, ?_⟩
  refine cm_X11_goesOn (kh_X11_goesOn h) h (fun x2 hp h g3 => ?_)
  have h := h g3
  have K := kh_tr K hp.2
  exact ⟨h, K⟩
set_option maxRecDepth 20000 in
set_option maxHeartbeats 1000000 in
theorem kh_X11_begins_10 {Q : HS → Prop} {v0 : Nat} {S0 S : HS} (h : P_X11_begins_10 Q v0 S) (K : KH S0 S) : P_X11_begins_10 (fun T => Q T ∧ KH S0 T) v0 S := by
  delta P_X11_begins_10 at h ⊢
  obtain ⟨c1, h⟩ := h
  refine ⟨c1, ?_⟩
  obtain ⟨b2, e3, h⟩ := h
  refine ⟨b2, e3, ?_⟩
  obtain ⟨c4, h⟩ := h
  refine ⟨c4, ?_⟩
  intro x6 e5
  have h := h x6 e5
  refine ⟨?_, ?_⟩
  · intro c7
    have h := h.1 c7
    exact kh_X11_begins_26 h K
  · intro c8
    have h := h.2 c8
    refine cm_X11_flaw (kh_X11_flaw h) h (fun x9 hp h g10 => ?_)
    have h := h g10
    have K := kh_tr K hp.2
    exact kh_X11_begins_26 h K
set_option maxRecDepth 20000 in
set_option maxHeartbeats 1000000 in
theorem kh_X11_begins_0 {Q : HS → Prop} {v0 : Nat} {v1 : Int32} {v2 : Int32} {S0 S : HS} (h : P_X11_begins_0 Q v0 v1 v2 S) (K : KH S0 S) : P_X11_begins_0 (fun T => Q T ∧ KH S0 T) v0 v1 v2 S := by
  delta P_X11_begins_0 at h ⊢
  refine ⟨?_, ?_⟩
  · intro c1
    have h := h.1 c1
    exact kh_X11_begins_10 h K
  · intro c2
    have h := h.2 c2
    obtain ⟨c3, h⟩ := h
    refine ⟨c3, ?_⟩
    refine cm_X11_flaw (kh_X11_flaw h) h (fun x4 hp h g5 => ?_)
    have h := h g5
    have K := kh_tr K hp.2
    exact kh_X11_begins_10 h K
theorem kh_X11_begins {Q : HS → Prop} {v0 : Nat} {v1 : Int32} {v2 : Int32} {S : HS} (h : P_X11_begins v0 v1 v2 Q S) : P_X11_begins v0 v1 v2 (fun T => Q T ∧ KH S T) S := kh_X11_begins_0 h (kh_rf S)
set_option maxRecDepth 20000 in
set_option maxHeartbeats 1000000 in
theorem kh_X11_eatsSign_21 {Q : Int32 → HS → Prop} {v0 : Nat} {s0 : Int32} {S0 S : HS} (h : P_X11_eatsSign_21 Q v0 s0 S) (K : KH S0 S) : P_X11_eatsSign_21 (fun r T => Q r T ∧ KH S0 T) v0 s0 S := by
  delta P_X11_eatsSign_21 at h ⊢
  refine ⟨?_, ?_⟩
  · intro c1
    have h := h.1 c1
    obtain ⟨c2, h⟩ := h
    refine ⟨c2, ?_⟩
    exact ⟨h, K⟩
  · intro c3
    have h := h.2 c3
    obtain ⟨c4, h⟩ := h
    refine ⟨c4, ?_⟩
    refine cm_X11_goesOn (kh_X11_goesOn h) h (fun x5 hp h g6 => ?_)
    have h := h g6
    have K := kh_tr K hp.2
    obtain ⟨c7, h⟩ := h
    refine ⟨c7, ?_⟩
    exact ⟨h, K⟩
set_option maxRecDepth 20000 in
set_option maxHeartbeats 1000000 in
theorem kh_X11_eatsSign_20 {Q : Int32 → HS → Prop} {v0 : Nat} {S0 S : HS} (h : P_X11_eatsSign_20 Q v0 S) (K : KH S0 S) : P_X11_eatsSign_20 (fun r T => Q r T ∧ KH S0 T) v0 S := by
  delta P_X11_eatsSign_20 at h ⊢
  exact kh_X11_eatsSign_21 h K
set_option maxRecDepth 20000 in
set_option maxHeartbeats 1000000 in
theorem kh_X11_eatsSign_0 {Q : Int32 → HS → Prop} {v0 : Nat} {v1 : Int32} {S0 S : HS} (h : P_X11_eatsSign_0 Q v0 v1 S) (K : KH S0 S) : P_X11_eatsSign_0 (fun r T => Q r T ∧ KH S0 T) v0 v1 S := by
  delta P_X11_eatsSign_0 at h ⊢
  obtain ⟨c1, h⟩ := h
  refine ⟨c1, ?_⟩
  intro x3 e2
  have h := h x3 e2
  refine ⟨?_, ?_⟩
  · intro c4
    have h := h.1 c4
    exact kh_X11_eatsSign_20 h K
  · intro c5
    have h := h.2 c5
    intro x7 e6
    have h := h x7 e6
    refine ⟨?_, ?_⟩
    · intro c8
      have h := h.1 c8
      exact kh_X11_eatsSign_20 h K
    · intro c9
      have h := h.2 c9
      exact kh_X11_eatsSign_21 h K
theorem kh_X11_eatsSign {Q : Int32 → HS → Prop} {v0 : Nat} {v1 : Int32} {S : HS} (h : P_X11_eatsSign v0 v1 Q S) : P_X11_eatsSign v0 v1 (fun r T => Q r T ∧ KH S T) S := kh_X11_eatsSign_0 h (kh_rf S)
set_option maxRecDepth 20000 in
set_option maxHeartbeats 1000000 in
theorem khB_X11_wordOf_4 {Q : Int64 → HS → Prop} {X4 X4_2 : Nat → Int64 → Int32 → HS → Prop} {v0 : Nat} {v1 : Int64} {v3 : Int32} {S0 S : HS} (h : B_X11_wordOf_4 Q X4 v0 v1 v3 S) (K : KH S0 S) (hX4 : ∀ (u0 : Nat) (u1 : Int64) (u2 : Int32) (u3 : HS), X4 u0 u1 u2 u3 → KH S0 u3 → X4_2 u0 u1 u2 u3) : B_X11_wordOf_4 (fun r T => Q r T ∧ KH S0 T) X4_2 v0 v1 v3 S := by
  delta B_X11_wordOf_4 at h ⊢
  obtain ⟨c1, h⟩ := h
  refine ⟨c1, ?_⟩
  intro x3 e2
  have h := h x3 e2
  refine ⟨?_, ?_⟩
  · intro c4
    have h := h.1 c4
    exact ⟨h, K⟩
  · intro c5
    have h := h.2 c5
    obtain ⟨c6, h⟩ := h
    refine ⟨c6, ?_⟩
    obtain ⟨c7, h⟩ := h
    refine ⟨c7, ?_⟩
    intro x9 e8
    have h := h x9 e8
    intro x11 e10
    have h := h x11 e10
    intro x13 e12
    have h := h x13 e12
    exact hX4 _ _ _ _ h K
theorem kh_X11_wordOf_4 {Q : Int64 → HS → Prop} {v0 : Nat} {v1 : Int64} {v3 : Int32} {S0 S : HS} (h : P_X11_wordOf_4 Q v0 v1 v3 S) (K : KH S0 S) : P_X11_wordOf_4 (fun r T => Q r T ∧ KH S0 T) v0 v1 v3 S := h (fun v0 v1 v3 S => KH S0 S → P_X11_wordOf_4 (fun r T => Q r T ∧ KH S0 T) v0 v1 v3 S) (fun v0 v1 v3 S hB K => fd_X11_wordOf_4 (khB_X11_wordOf_4 hB K (fun _ _ _ _ hx K => hx K))) K
set_option maxRecDepth 20000 in
set_option maxHeartbeats 1000000 in
theorem kh_X11_wordOf_0 {Q : Int64 → HS → Prop} {v0 : Nat} {S0 S : HS} (h : P_X11_wordOf_0 Q v0 S) (K : KH S0 S) : P_X11_wordOf_0 (fun r T => Q r T ∧ KH S0 T) v0 S := by
  delta P_X11_wordOf_0 at h ⊢
  exact kh_X11_wordOf_4 h K
theorem kh_X11_wordOf {Q : Int64 → HS → Prop} {v0 : Nat} {S : HS} (h : P_X11_wordOf v0 Q S) : P_X11_wordOf v0 (fun r T => Q r T ∧ KH S T) S := kh_X11_wordOf_0 h (kh_rf S)
set_option maxRecDepth 20000 in
set_option maxHeartbeats 1000000 in
theorem kh_X11_isWord_0 {Q : Int32 → HS → Prop} {v0 : Nat} {v1 : Nat} {S0 S : HS} (h : P_X11_isWord_0 Q v0 v1 S) (K : KH S0 S) : P_X11_isWord_0 (fun r T => Q r T ∧ KH S0 T) v0 v1 S := by
  delta P_X11_isWord_0 at h ⊢
  obtain ⟨c1, h⟩ := h
  refine ⟨c1, ?_⟩
  intro x3 e2
  have h := h x3 e2
  refine ⟨?_, ?_⟩
  · intro c4
    have h := h.1 c4
    exact ⟨h, K⟩
  · intro c5
    have h := h.2 c5
    intro x7 e6
    have h := h x7 e6
    refine cm_X11_wordOf (kh_X11_wordOf h) h (fun x8 x9 hp h g10 => ?_)
    have h := h g10
    have K := kh_tr K hp.2
    refine ⟨?_, ?_⟩
    · intro c11
      have h := h.1 c11
      exact ⟨h, K⟩
    · intro c12
      have h := h.2 c12
      exact ⟨h, K⟩
theorem kh_X11_isWord {Q : Int32 → HS → Prop} {v0 : Nat} {v1 : Nat} {S : HS} (h : P_X11_isWord v0 v1 Q S) : P_X11_isWord v0 v1 (fun r T => Q r T ∧ KH S T) S := kh_X11_isWord_0 h (kh_rf S)
set_option maxRecDepth 20000 in
set_option maxHeartbeats 1000000 in
theorem kh_X11_eatsWord_0 {Q : Int32 → HS → Prop} {v0 : Nat} {v1 : Nat} {S0 S : HS} (h : P_X11_eatsWord_0 Q v0 v1 S) (K : KH S0 S) : P_X11_eatsWord_0 (fun r T => Q r T ∧ KH S0 T) v0 v1 S := by
  delta P_X11_eatsWord_0 at h ⊢
  obtain ⟨c1, h⟩ := h
  refine ⟨c1, ?_⟩
  refine cm_X11_isWord (kh_X11_isWord h) h (fun x2 x3 hp h g4 g5 => ?_)
  have h := h g4 g5
  have K := kh_tr K hp.2
  refine ⟨?_, ?_⟩
  · intro c6
    have h := h.1 c6
    obtain ⟨c7, h⟩ := h
    refine ⟨c7, ?_⟩
    exact ⟨h, K⟩
  · intro c8
    have h := h.2 c8
    refine cm_X11_goesOn (kh_X11_goesOn h) h (fun x9 hp h g10 => ?_)
    have h := h g10
    have K := kh_tr K hp.2
    obtain ⟨c11, h⟩ := h
    refine ⟨c11, ?_⟩
    exact ⟨h, K⟩
theorem kh_X11_eatsWord {Q : Int32 → HS → Prop} {v0 : Nat} {v1 : Nat} {S : HS} (h : P_X11_eatsWord v0 v1 Q S) : P_X11_eatsWord v0 v1 (fun r T => Q r T ∧ KH S T) S := kh_X11_eatsWord_0 h (kh_rf S)
set_option maxRecDepth 20000 in
set_option maxHeartbeats 1000000 in
theorem kh_X11_isName_0 {Q : Int32 → HS → Prop} {v0 : Nat} {S0 S : HS} (h : P_X11_isName_0 Q v0 S) (K : KH S0 S) : P_X11_isName_0 (fun r T => Q r T ∧ KH S0 T) v0 S := by
  delta P_X11_isName_0 at h ⊢
  obtain ⟨c1, h⟩ := h
  refine ⟨c1, ?_⟩
  intro x3 e2
  have h := h x3 e2
  refine ⟨?_, ?_⟩
  · intro c4
    have h := h.1 c4
    exact ⟨h, K⟩
  · intro c5
    have h := h.2 c5
    refine cm_X11_isWord (kh_X11_isWord h) h (fun x6 x7 hp h g8 g9 => ?_)
    have h := h g8 g9
    have K := kh_tr K hp.2
    refine ⟨?_, ?_⟩
    · intro c10
      have h := h.1 c10
      exact ⟨h, K⟩
    · intro c11
      have h := h.2 c11
      refine cm_X11_isWord (kh_X11_isWord h) h (fun x12 x13 hp h g14 g15 => ?_)
      have h := h g14 g15
      have K := kh_tr K hp.2
      refine ⟨?_, ?_⟩
      · intro c16
        have h := h.1 c16
        exact ⟨h, K⟩
      · intro c17
        have h := h.2 c17
        refine cm_X11_isWord (kh_X11_isWord h) h (fun x18 x19 hp h g20 g21 => ?_)
        have h := h g20 g21
        have K := kh_tr K hp.2
        refine ⟨?_, ?_⟩
        · intro c22
          have h := h.1 c22
          exact ⟨h, K⟩
        · intro c23
          have h := h.2 c23
          refine cm_X11_isWord (kh_X11_isWord h) h (fun x24 x25 hp h g26 g27 => ?_)
          have h := h g26 g27
          have K := kh_tr K hp.2
          refine ⟨?_, ?_⟩
          · intro c28
            have h := h.1 c28
            refine cm_X11_isWord (kh_X11_isWord h) h (fun x29 x30 hp h g31 g32 => ?_)
            have h := h g31 g32
            have K := kh_tr K hp.2
            refine ⟨?_, ?_⟩
            · intro c33
              have h := h.1 c33
              exact ⟨h, K⟩
            · intro c34
              have h := h.2 c34
              refine cm_X11_isWord (kh_X11_isWord h) h (fun x35 x36 hp h g37 g38 => ?_)
              have h := h g37 g38
              have K := kh_tr K hp.2
              refine ⟨?_, ?_⟩
              · intro c39
                have h := h.1 c39
                exact ⟨h, K⟩
              · intro c40
                have h := h.2 c40
                refine cm_X11_isWord (kh_X11_isWord h) h (fun x41 x42 hp h g43 g44 => ?_)
                have h := h g43 g44
                have K := kh_tr K hp.2
                refine ⟨?_, ?_⟩
                · intro c45
                  have h := h.1 c45
                  exact ⟨h, K⟩
                · intro c46
                  have h := h.2 c46
                  refine cm_X11_isWord (kh_X11_isWord h) h (fun x47 x48 hp h g49 g50 => ?_)
                  have h := h g49 g50
                  have K := kh_tr K hp.2
                  refine ⟨?_, ?_⟩
                  · intro c51
                    have h := h.1 c51
                    exact ⟨h, K⟩
                  · intro c52
                    have h := h.2 c52
                    refine cm_X11_isWord (kh_X11_isWord h) h (fun x53 x54 hp h g55 g56 => ?_)
                    have h := h g55 g56
                    have K := kh_tr K hp.2
                    refine ⟨?_, ?_⟩
                    · intro c57
                      have h := h.1 c57
                      exact ⟨h, K⟩
                    · intro c58
                      have h := h.2 c58
                      exact ⟨h, K⟩
          · intro c59
            have h := h.2 c59
            exact ⟨h, K⟩
theorem kh_X11_isName {Q : Int32 → HS → Prop} {v0 : Nat} {S : HS} (h : P_X11_isName v0 Q S) : P_X11_isName v0 (fun r T => Q r T ∧ KH S T) S := kh_X11_isName_0 h (kh_rf S)
set_option maxRecDepth 20000 in
set_option maxHeartbeats 1000000 in
theorem kh_X11_known_47 {Q : Int32 → HS → Prop} {v0 : Nat} {v2 : Int32} {S0 S : HS} (h : P_X11_known_47 Q v0 v2 S) (K : KH S0 S) : P_X11_known_47 (fun r T => Q r T ∧ KH S0 T) v0 v2 S := by
  delta P_X11_known_47 at h ⊢
  obtain ⟨c1, h⟩ := h
  refine ⟨c1, ?_⟩
  intro x3 e2
  have h := h x3 e2
  refine ⟨?_, ?_⟩
  · intro c4
    have h := h.1 c4
    obtain ⟨b5, e6, h⟩ := h
    refine ⟨b5, e6, ?_⟩
    obtain ⟨c7, h⟩ := h
    refine ⟨c7, ?_⟩
    obtain ⟨b8, e9, h⟩ := h
    refine ⟨b8, e9, ?_⟩
    obtain ⟨c10, h⟩ := h
    refine ⟨c10, ?_⟩
    obtain ⟨c11, h⟩ := h
    refine ⟨c11, ?_⟩
    intro x13 e12
    have h := h x13 e12
    exact ⟨h, K⟩
  · intro c14
    have h := h.2 c14
    exact ⟨h, K⟩
set_option maxRecDepth 20000 in
set_option maxHeartbeats 1000000 in
theorem kh_X11_known_42 {Q : Int32 → HS → Prop} {v0 : Nat} {v2 : Int32} {S0 S : HS} (h : P_X11_known_42 Q v0 v2 S) (K : KH S0 S) : P_X11_known_42 (fun r T => Q r T ∧ KH S0 T) v0 v2 S := by
  delta P_X11_known_42 at h ⊢
  obtain ⟨c1, h⟩ := h
  refine ⟨c1, ?_⟩
  refine cm_X11_flaw (kh_X11_flaw h) h (fun x2 hp h g3 => ?_)
  have h := h g3
  have K := kh_tr K hp.2
  exact kh_X11_known_47 h K
set_option maxRecDepth 20000 in
set_option maxHeartbeats 1000000 in
theorem kh_X11_known_12 {Q : Int32 → HS → Prop} {v0 : Nat} {v1 : Int32} {S0 S : HS} (h : P_X11_known_12 Q v0 v1 S) (K : KH S0 S) : P_X11_known_12 (fun r T => Q r T ∧ KH S0 T) v0 v1 S := by
  delta P_X11_known_12 at h ⊢
  obtain ⟨c1, h⟩ := h
  refine ⟨c1, ?_⟩
  obtain ⟨b2, e3, h⟩ := h
  refine ⟨b2, e3, ?_⟩
  intro x5 e4
  have h := h x5 e4
  obtain ⟨c6, h⟩ := h
  refine ⟨c6, ?_⟩
  refine cm_X10_find (kh_X10_find h) h (fun x7 x8 hp h g9 => ?_)
  have h := h g9
  have K := kh_tr K hp.2
  refine ⟨?_, ?_⟩
  · intro c10
    have h := h.1 c10
    exact kh_X11_known_42 h K
  · intro c11
    have h := h.2 c11
    obtain ⟨b12, e13, h⟩ := h
    refine ⟨b12, e13, ?_⟩
    obtain ⟨c14, h⟩ := h
    refine ⟨c14, ?_⟩
    obtain ⟨b15, e16, h⟩ := h
    refine ⟨b15, e16, ?_⟩
    obtain ⟨c17, h⟩ := h
    refine ⟨c17, ?_⟩
    obtain ⟨c18, h⟩ := h
    refine ⟨c18, ?_⟩
    intro x20 e19
    have h := h x20 e19
    refine ⟨?_, ?_⟩
    · intro c21
      have h := h.1 c21
      exact kh_X11_known_47 h K
    · intro c22
      have h := h.2 c22
      exact kh_X11_known_42 h K
set_option maxRecDepth 20000 in
set_option maxHeartbeats 1000000 in
theorem kh_X11_known_0 {Q : Int32 → HS → Prop} {v0 : Nat} {v1 : Int32} {S0 S : HS} (h : P_X11_known_0 Q v0 v1 S) (K : KH S0 S) : P_X11_known_0 (fun r T => Q r T ∧ KH S0 T) v0 v1 S := by
  delta P_X11_known_0 at h ⊢
  obtain ⟨c1, h⟩ := h
  refine ⟨c1, ?_⟩
  refine cm_X11_isName (kh_X11_isName h) h (fun x2 x3 hp h g4 g5 => ?_)
  have h := h g4 g5
  have K := kh_tr K hp.2
  refine ⟨?_, ?_⟩
  · intro c6
    have h := h.1 c6
    exact kh_X11_known_12 h K
  · intro c7
    have h := h.2 c7
    refine cm_X11_flaw (kh_X11_flaw h) h (fun x8 hp h g9 => ?_)
    have h := h g9
    have K := kh_tr K hp.2
    exact kh_X11_known_12 h K
theorem kh_X11_known {Q : Int32 → HS → Prop} {v0 : Nat} {v1 : Int32} {S : HS} (h : P_X11_known v0 v1 Q S) : P_X11_known v0 v1 (fun r T => Q r T ∧ KH S T) S := kh_X11_known_0 h (kh_rf S)
set_option maxRecDepth 20000 in
set_option maxHeartbeats 1000000 in
theorem kh_X11_names_0 {Q : HS → Prop} {v0 : Nat} {v1 : Int64} {v3 : Int32} {v4 : Int32} {S0 S : HS} (h : P_X11_names_0 Q v0 v1 v3 v4 S) (K : KH S0 S) : P_X11_names_0 (fun T => Q T ∧ KH S0 T) v0 v1 v3 v4 S := by
  delta P_X11_names_0 at h ⊢
  obtain ⟨c1, h⟩ := h
  refine ⟨c1, ?_⟩
  obtain ⟨b2, e3, h⟩ := h
  refine ⟨b2, e3, ?_⟩
  obtain ⟨c4, h⟩ := h
  refine ⟨c4, ?_⟩
  obtain ⟨b5, e6, h⟩ := h
  refine ⟨b5, e6, ?_⟩
  obtain ⟨b7, e8, h⟩ := h
  refine ⟨b7, e8, ?_⟩
  obtain ⟨c9, h⟩ := h
  refine ⟨c9, ?_⟩
  intro x11 e10
  have h := h x11 e10
  obtain ⟨c12, h⟩ := h
  refine ⟨c12, ?_⟩
  obtain ⟨c13, h⟩ := h
  refine ⟨c13, ?_⟩
  intro x15 e14
  have h := h x15 e14
  have K := kh_J K e14
  obtain ⟨b16, e17, h⟩ := h
  refine ⟨b16, e17, ?_⟩
  obtain ⟨c18, h⟩ := h
  refine ⟨c18, ?_⟩
  obtain ⟨b19, e20, h⟩ := h
  refine ⟨b19, e20, ?_⟩
  obtain ⟨b21, e22, h⟩ := h
  refine ⟨b21, e22, ?_⟩
  obtain ⟨c23, h⟩ := h
  refine ⟨c23, ?_⟩
  intro x25 e24
  have h := h x25 e24
  obtain ⟨c26, h⟩ := h
  refine ⟨c26, ?_⟩
  obtain ⟨c27, h⟩ := h
  refine ⟨c27, ?_⟩
  intro x29 e28
  have h := h x29 e28
  have K := kh_I K e28
  obtain ⟨b30, e31, h⟩ := h
  refine ⟨b30, e31, ?_⟩
  obtain ⟨c32, h⟩ := h
  refine ⟨c32, ?_⟩
  obtain ⟨b33, e34, h⟩ := h
  refine ⟨b33, e34, ?_⟩
  obtain ⟨b35, e36, h⟩ := h
  refine ⟨b35, e36, ?_⟩
  obtain ⟨c37, h⟩ := h
  refine ⟨c37, ?_⟩
  intro x39 e38
  have h := h x39 e38
  obtain ⟨c40, h⟩ := h
  refine ⟨c40, ?_⟩
  obtain ⟨c41, h⟩ := h
  refine ⟨c41, ?_⟩
  intro x43 e42
  have h := h x43 e42
  have K := kh_I K e42
  obtain ⟨b44, e45, h⟩ := h
  refine ⟨b44, e45, ?_⟩
  obtain ⟨c46, h⟩ := h
  refine ⟨c46, ?_⟩
  intro x48 e47
  have h := h x48 e47
  intro x50 e49
  have h := h x50 e49
  intro x52 e51
  have h := h x52 e51
  have K := kh_I K e51
  exact ⟨h, K⟩
theorem kh_X11_names {Q : HS → Prop} {v0 : Nat} {v1 : Int64} {v3 : Int32} {v4 : Int32} {S : HS} (h : P_X11_names v0 v1 v3 v4 Q S) : P_X11_names v0 v1 v3 v4 (fun T => Q T ∧ KH S T) S := kh_X11_names_0 h (kh_rf S)
set_option maxRecDepth 20000 in
set_option maxHeartbeats 1000000 in
theorem kh_X11_needs_13 {Q : HS → Prop} {v0 : Nat} {S0 S : HS} (h : P_X11_needs_13 Q v0 S) (K : KH S0 S) : P_X11_needs_13 (fun T => Q T ∧ KH S0 T) v0 S := by
  delta P_X11_needs_13 at h ⊢
  obtain ⟨c1, h⟩ := h
  refine ⟨c1, ?_⟩
  refine cm_X11_goesOn (kh_X11_goesOn h) h (fun x2 hp h g3 => ?_)
  have h := h g3
  have K := kh_tr K hp.2
  exact ⟨h, K⟩
set_option maxRecDepth 20000 in
set_option maxHeartbeats 1000000 in
theorem kh_X11_needs_0 {Q : HS → Prop} {v0 : Nat} {v1 : Nat} {S0 S : HS} (h : P_X11_needs_0 Q v0 v1 S) (K : KH S0 S) : P_X11_needs_0 (fun T => Q T ∧ KH S0 T) v0 v1 S := by
  delta P_X11_needs_0 at h ⊢
  obtain ⟨c1, h⟩ := h
  refine ⟨c1, ?_⟩
  refine cm_X11_isWord (kh_X11_isWord h) h (fun x2 x3 hp h g4 g5 => ?_)
  have h := h g4 g5
  have K := kh_tr K hp.2
  refine ⟨?_, ?_⟩
  · intro c6
    have h := h.1 c6
    exact kh_X11_needs_13 h K
  · intro c7
    have h := h.2 c7
    refine cm_X11_flaw (kh_X11_flaw h) h (fun x8 hp h g9 => ?_)
    have h := h g9
    have K := kh_tr K hp.2
    exact kh_X11_needs_13 h K
theorem kh_X11_needs {Q : HS → Prop} {v0 : Nat} {v1 : Nat} {S : HS} (h : P_X11_needs v0 v1 Q S) : P_X11_needs v0 v1 (fun T => Q T ∧ KH S T) S := kh_X11_needs_0 h (kh_rf S)
set_option maxRecDepth 20000 in
set_option maxHeartbeats 1000000 in
theorem kh_X11_readFresh_32 {Q : Int64 → HS → Prop} {v0 : Nat} {S0 S : HS} (h : P_X11_readFresh_32 Q v0 S) (K : KH S0 S) : P_X11_readFresh_32 (fun r T => Q r T ∧ KH S0 T) v0 S := by
  delta P_X11_readFresh_32 at h ⊢
  obtain ⟨c1, h⟩ := h
  refine ⟨c1, ?_⟩
  intro x3 e2
  have h := h x3 e2
  refine cm_X11_goesOn (kh_X11_goesOn h) h (fun x4 hp h g5 => ?_)
  have h := h g5
  have K := kh_tr K hp.2
  exact ⟨h, K⟩
set_option maxRecDepth 20000 in
set_option maxHeartbeats 1000000 in
theorem kh_X11_readFresh_12 {Q : Int64 → HS → Prop} {v0 : Nat} {S0 S : HS} (h : P_X11_readFresh_12 Q v0 S) (K : KH S0 S) : P_X11_readFresh_12 (fun r T => Q r T ∧ KH S0 T) v0 S := by
  delta P_X11_readFresh_12 at h ⊢
  obtain ⟨c1, h⟩ := h
  refine ⟨c1, ?_⟩
  obtain ⟨b2, e3, h⟩ := h
  refine ⟨b2, e3, ?_⟩
  intro x5 e4
  have h := h x5 e4
  obtain ⟨c6, h⟩ := h
  refine ⟨c6, ?_⟩
  refine cm_X10_find (kh_X10_find h) h (fun x7 x8 hp h g9 => ?_)
  have h := h g9
  have K := kh_tr K hp.2
  refine ⟨?_, ?_⟩
  · intro c10
    have h := h.1 c10
    exact kh_X11_readFresh_32 h K
  · intro c11
    have h := h.2 c11
    refine cm_X11_flaw (kh_X11_flaw h) h (fun x12 hp h g13 => ?_)
    have h := h g13
    have K := kh_tr K hp.2
    exact kh_X11_readFresh_32 h K
set_option maxRecDepth 20000 in
set_option maxHeartbeats 1000000 in
theorem kh_X11_readFresh_0 {Q : Int64 → HS → Prop} {v0 : Nat} {S0 S : HS} (h : P_X11_readFresh_0 Q v0 S) (K : KH S0 S) : P_X11_readFresh_0 (fun r T => Q r T ∧ KH S0 T) v0 S := by
  delta P_X11_readFresh_0 at h ⊢
  obtain ⟨c1, h⟩ := h
  refine ⟨c1, ?_⟩
  refine cm_X11_isName (kh_X11_isName h) h (fun x2 x3 hp h g4 g5 => ?_)
  have h := h g4 g5
  have K := kh_tr K hp.2
  refine ⟨?_, ?_⟩
  · intro c6
    have h := h.1 c6
    exact kh_X11_readFresh_12 h K
  · intro c7
    have h := h.2 c7
    refine cm_X11_flaw (kh_X11_flaw h) h (fun x8 hp h g9 => ?_)
    have h := h g9
    have K := kh_tr K hp.2
    exact kh_X11_readFresh_12 h K
theorem kh_X11_readFresh {Q : Int64 → HS → Prop} {v0 : Nat} {S : HS} (h : P_X11_readFresh v0 Q S) : P_X11_readFresh v0 (fun r T => Q r T ∧ KH S T) S := kh_X11_readFresh_0 h (kh_rf S)
set_option maxRecDepth 20000 in
set_option maxHeartbeats 1000000 in
theorem kh_X11_readWhole_49 {Q : Int32 → HS → Prop} {v0 : Nat} {s0 : Int32} {S0 S : HS} (h : P_X11_readWhole_49 Q v0 s0 S) (K : KH S0 S) : P_X11_readWhole_49 (fun r T => Q r T ∧ KH S0 T) v0 s0 S := by
  delta P_X11_readWhole_49 at h ⊢
  obtain ⟨c1, h⟩ := h
  refine ⟨c1, ?_⟩
  refine cm_X11_goesOn (kh_X11_goesOn h) h (fun x2 hp h g3 => ?_)
  have h := h g3
  have K := kh_tr K hp.2
  exact ⟨h, K⟩
set_option maxRecDepth 20000 in
set_option maxHeartbeats 1000000 in
theorem kh_X11_readWhole_33 {Q : Int32 → HS → Prop} {v0 : Nat} {v1 : Int32} {S0 S : HS} (h : P_X11_readWhole_33 Q v0 v1 S) (K : KH S0 S) : P_X11_readWhole_33 (fun r T => Q r T ∧ KH S0 T) v0 v1 S := by
  delta P_X11_readWhole_33 at h ⊢
  obtain ⟨c1, h⟩ := h
  refine ⟨c1, ?_⟩
  intro x3 e2
  have h := h x3 e2
  refine ⟨?_, ?_⟩
  · intro c4
    have h := h.1 c4
    intro x6 e5
    have h := h x6 e5
    exact kh_X11_readWhole_49 h K
  · intro c7
    have h := h.2 c7
    exact kh_X11_readWhole_49 h K
set_option maxRecDepth 20000 in
set_option maxHeartbeats 1000000 in
theorem kh_X11_readWhole_0 {Q : Int32 → HS → Prop} {v0 : Nat} {v1 : Int32} {v2 : Int32} {S0 S : HS} (h : P_X11_readWhole_0 Q v0 v1 v2 S) (K : KH S0 S) : P_X11_readWhole_0 (fun r T => Q r T ∧ KH S0 T) v0 v1 v2 S := by
  delta P_X11_readWhole_0 at h ⊢
  obtain ⟨c1, h⟩ := h
  refine ⟨c1, ?_⟩
  intro x3 e2
  have h := h x3 e2
  refine ⟨?_, ?_⟩
  · intro c4
    have h := h.1 c4
    intro x6 e5
    have h := h x6 e5
    refine cm_X11_in (kh_X11_in h) h (fun x7 x8 hp h g9 g10 => ?_)
    have h := h g9 g10
    have K := kh_tr K hp.2
    refine ⟨?_, ?_⟩
    · intro c11
      have h := h.1 c11
      exact kh_X11_readWhole_33 h K
    · intro c12
      have h := h.2 c12
      refine cm_X11_flaw (kh_X11_flaw h) h (fun x13 hp h g14 => ?_)
      have h := h g14
      have K := kh_tr K hp.2
      exact kh_X11_readWhole_33 h K
  · intro c15
    have h := h.2 c15
    refine cm_X11_flaw (kh_X11_flaw h) h (fun x16 hp h g17 => ?_)
    have h := h g17
    have K := kh_tr K hp.2
    exact kh_X11_readWhole_33 h K
theorem kh_X11_readWhole {Q : Int32 → HS → Prop} {v0 : Nat} {v1 : Int32} {v2 : Int32} {S : HS} (h : P_X11_readWhole v0 v1 v2 Q S) : P_X11_readWhole v0 v1 v2 (fun r T => Q r T ∧ KH S T) S := kh_X11_readWhole_0 h (kh_rf S)
set_option maxRecDepth 20000 in
set_option maxHeartbeats 1000000 in
theorem kh_X11_readPlace_50 {Q : HS → Prop} {v0 : Nat} {v1 : Int64} {v3 : Int32} {s0 : Int32} {S0 S : HS} (h : P_X11_readPlace_50 Q v0 v1 v3 s0 S) (K : KH S0 S) : P_X11_readPlace_50 (fun T => Q T ∧ KH S0 T) v0 v1 v3 s0 S := by
  delta P_X11_readPlace_50 at h ⊢
  obtain ⟨c1, h⟩ := h
  refine ⟨c1, ?_⟩
  intro x3 e2
  have h := h x3 e2
  refine ⟨?_, ?_⟩
  · intro c4
    have h := h.1 c4
    obtain ⟨b5, e6, h⟩ := h
    refine ⟨b5, e6, ?_⟩
    obtain ⟨c7, h⟩ := h
    refine ⟨c7, ?_⟩
    intro x9 e8
    have h := h x9 e8
    refine cm_X11_names (kh_X11_names h) h (fun x10 hp h g11 => ?_)
    have h := h g11
    have K := kh_tr K hp.2
    obtain ⟨b12, e13, h⟩ := h
    refine ⟨b12, e13, ?_⟩
    obtain ⟨c14, h⟩ := h
    refine ⟨c14, ?_⟩
    obtain ⟨b15, e16, h⟩ := h
    refine ⟨b15, e16, ?_⟩
    obtain ⟨b17, e18, h⟩ := h
    refine ⟨b17, e18, ?_⟩
    obtain ⟨c19, h⟩ := h
    refine ⟨c19, ?_⟩
    intro x21 e20
    have h := h x21 e20
    obtain ⟨c22, h⟩ := h
    refine ⟨c22, ?_⟩
    obtain ⟨c23, h⟩ := h
    refine ⟨c23, ?_⟩
    intro x25 e24
    have h := h x25 e24
    have K := kh_I K e24
    obtain ⟨b26, e27, h⟩ := h
    refine ⟨b26, e27, ?_⟩
    obtain ⟨c28, h⟩ := h
    refine ⟨c28, ?_⟩
    obtain ⟨b29, e30, h⟩ := h
    refine ⟨b29, e30, ?_⟩
    obtain ⟨b31, e32, h⟩ := h
    refine ⟨b31, e32, ?_⟩
    obtain ⟨c33, h⟩ := h
    refine ⟨c33, ?_⟩
    intro x35 e34
    have h := h x35 e34
    obtain ⟨c36, h⟩ := h
    refine ⟨c36, ?_⟩
    obtain ⟨c37, h⟩ := h
    refine ⟨c37, ?_⟩
    intro x39 e38
    have h := h x39 e38
    have K := kh_I K e38
    obtain ⟨b40, e41, h⟩ := h
    refine ⟨b40, e41, ?_⟩
    obtain ⟨c42, h⟩ := h
    refine ⟨c42, ?_⟩
    intro x44 e43
    have h := h x44 e43
    intro x46 e45
    have h := h x46 e45
    intro x48 e47
    have h := h x48 e47
    have K := kh_I K e47
    exact ⟨h, K⟩
  · intro c49
    have h := h.2 c49
    exact ⟨h, K⟩
set_option maxRecDepth 20000 in
set_option maxHeartbeats 1000000 in
theorem kh_X11_readPlace_48 {Q : HS → Prop} {v0 : Nat} {v1 : Int64} {v3 : Int32} {S0 S : HS} (h : P_X11_readPlace_48 Q v0 v1 v3 S) (K : KH S0 S) : P_X11_readPlace_48 (fun T => Q T ∧ KH S0 T) v0 v1 v3 S := by
  delta P_X11_readPlace_48 at h ⊢
  exact kh_X11_readPlace_50 h K
set_option maxRecDepth 20000 in
set_option maxHeartbeats 1000000 in
theorem kh_X11_readPlace_0 {Q : HS → Prop} {v0 : Nat} {S0 S : HS} (h : P_X11_readPlace_0 Q v0 S) (K : KH S0 S) : P_X11_readPlace_0 (fun T => Q T ∧ KH S0 T) v0 S := by
  delta P_X11_readPlace_0 at h ⊢
  obtain ⟨c1, h⟩ := h
  refine ⟨c1, ?_⟩
  obtain ⟨b2, e3, h⟩ := h
  refine ⟨b2, e3, ?_⟩
  obtain ⟨c4, h⟩ := h
  refine ⟨c4, ?_⟩
  intro x6 e5
  have h := h x6 e5
  refine cm_X11_begins (kh_X11_begins h) h (fun x7 hp h g8 => ?_)
  have h := h g8
  have K := kh_tr K hp.2
  refine cm_X11_readFresh (kh_X11_readFresh h) h (fun x9 x10 hp h g11 => ?_)
  have h := h g11
  have K := kh_tr K hp.2
  refine cm_X11_eatsWord (kh_X11_eatsWord h) h (fun x12 x13 hp h g14 g15 => ?_)
  have h := h g14 g15
  have K := kh_tr K hp.2
  refine ⟨?_, ?_⟩
  · intro c16
    have h := h.1 c16
    exact kh_X11_readPlace_48 h K
  · intro c17
    have h := h.2 c17
    refine cm_X11_eatsWord (kh_X11_eatsWord h) h (fun x18 x19 hp h g20 g21 => ?_)
    have h := h g20 g21
    have K := kh_tr K hp.2
    refine ⟨?_, ?_⟩
    · intro c22
      have h := h.1 c22
      exact kh_X11_readPlace_48 h K
    · intro c23
      have h := h.2 c23
      refine cm_X11_readWhole (kh_X11_readWhole h) h (fun x24 x25 hp h g26 => ?_)
      have h := h g26
      have K := kh_tr K hp.2
      exact kh_X11_readPlace_50 h K
theorem kh_X11_readPlace {Q : HS → Prop} {v0 : Nat} {S : HS} (h : P_X11_readPlace v0 Q S) : P_X11_readPlace v0 (fun T => Q T ∧ KH S T) S := kh_X11_readPlace_0 h (kh_rf S)
set_option maxRecDepth 20000 in
set_option maxHeartbeats 1000000 in
theorem kh_X11_readPart_0 {Q : Int32 → HS → Prop} {v0 : Nat} {v1 : Nat} {v2 : Int32} {v3 : Int32} {S0 S : HS} (h : P_X11_readPart_0 Q v0 v1 v2 v3 S) (K : KH S0 S) : P_X11_readPart_0 (fun r T => Q r T ∧ KH S0 T) v0 v1 v2 v3 S := by
  delta P_X11_readPart_0 at h ⊢
  obtain ⟨c1, h⟩ := h
  refine ⟨c1, ?_⟩
  refine cm_X11_needs (kh_X11_needs h) h (fun x2 hp h g3 => ?_)
  have h := h g3
  have K := kh_tr K hp.2
  refine cm_X11_readWhole (kh_X11_readWhole h) h (fun x4 x5 hp h g6 => ?_)
  have h := h g6
  have K := kh_tr K hp.2
  exact ⟨h, K⟩
theorem kh_X11_readPart {Q : Int32 → HS → Prop} {v0 : Nat} {v1 : Nat} {v2 : Int32} {v3 : Int32} {S : HS} (h : P_X11_readPart v0 v1 v2 v3 Q S) : P_X11_readPart v0 v1 v2 v3 (fun r T => Q r T ∧ KH S T) S := kh_X11_readPart_0 h (kh_rf S)
set_option maxRecDepth 20000 in
set_option maxHeartbeats 1000000 in
theorem kh_X11_readSide_64 {Q : Int32 → HS → Prop} {v0 : Nat} {v1 : Int32} {S0 S : HS} (h : P_X11_readSide_64 Q v0 v1 S) (K : KH S0 S) : P_X11_readSide_64 (fun r T => Q r T ∧ KH S0 T) v0 v1 S := by
  delta P_X11_readSide_64 at h ⊢
  obtain ⟨c1, h⟩ := h
  refine ⟨c1, ?_⟩
  refine cm_X11_goesOn (kh_X11_goesOn h) h (fun x2 hp h g3 => ?_)
  have h := h g3
  have K := kh_tr K hp.2
  exact ⟨h, K⟩
set_option maxRecDepth 20000 in
set_option maxHeartbeats 1000000 in
theorem kh_X11_readSide_53 {Q : Int32 → HS → Prop} {v0 : Nat} {s0 : Int32} {S0 S : HS} (h : P_X11_readSide_53 Q v0 s0 S) (K : KH S0 S) : P_X11_readSide_53 (fun r T => Q r T ∧ KH S0 T) v0 s0 S := by
  delta P_X11_readSide_53 at h ⊢
  refine ⟨?_, ?_⟩
  · intro c1
    have h := h.1 c1
    exact kh_X11_readSide_64 h K
  · intro c2
    have h := h.2 c2
    obtain ⟨c3, h⟩ := h
    refine ⟨c3, ?_⟩
    refine cm_X11_flaw (kh_X11_flaw h) h (fun x4 hp h g5 => ?_)
    have h := h g5
    have K := kh_tr K hp.2
    exact kh_X11_readSide_64 h K
set_option maxRecDepth 20000 in
set_option maxHeartbeats 1000000 in
theorem kh_X11_readSide_0 {Q : Int32 → HS → Prop} {v0 : Nat} {S0 S : HS} (h : P_X11_readSide_0 Q v0 S) (K : KH S0 S) : P_X11_readSide_0 (fun r T => Q r T ∧ KH S0 T) v0 S := by
  delta P_X11_readSide_0 at h ⊢
  obtain ⟨c1, h⟩ := h
  refine ⟨c1, ?_⟩
  refine cm_X11_isWord (kh_X11_isWord h) h (fun x2 x3 hp h g4 g5 => ?_)
  have h := h g4 g5
  have K := kh_tr K hp.2
  refine ⟨?_, ?_⟩
  · intro c6
    have h := h.1 c6
    refine cm_X11_isWord (kh_X11_isWord h) h (fun x7 x8 hp h g9 g10 => ?_)
    have h := h g9 g10
    have K := kh_tr K hp.2
    refine ⟨?_, ?_⟩
    · intro c11
      have h := h.1 c11
      refine cm_X11_isWord (kh_X11_isWord h) h (fun x12 x13 hp h g14 g15 => ?_)
      have h := h g14 g15
      have K := kh_tr K hp.2
      refine ⟨?_, ?_⟩
      · intro c16
        have h := h.1 c16
        refine cm_X11_isWord (kh_X11_isWord h) h (fun x17 x18 hp h g19 g20 => ?_)
        have h := h g19 g20
        have K := kh_tr K hp.2
        refine ⟨?_, ?_⟩
        · intro c21
          have h := h.1 c21
          exact kh_X11_readSide_53 h K
        · intro c22
          have h := h.2 c22
          exact kh_X11_readSide_53 h K
      · intro c23
        have h := h.2 c23
        exact kh_X11_readSide_53 h K
    · intro c24
      have h := h.2 c24
      exact kh_X11_readSide_53 h K
  · intro c25
    have h := h.2 c25
    exact kh_X11_readSide_53 h K
theorem kh_X11_readSide {Q : Int32 → HS → Prop} {v0 : Nat} {S : HS} (h : P_X11_readSide v0 Q S) : P_X11_readSide v0 (fun r T => Q r T ∧ KH S T) S := kh_X11_readSide_0 h (kh_rf S)
set_option maxRecDepth 20000 in
set_option maxHeartbeats 1000000 in
theorem kh_X11_readRain_0 {Q : HS → Prop} {v0 : Nat} {S0 S : HS} (h : P_X11_readRain_0 Q v0 S) (K : KH S0 S) : P_X11_readRain_0 (fun T => Q T ∧ KH S0 T) v0 S := by
  delta P_X11_readRain_0 at h ⊢
  obtain ⟨c1, h⟩ := h
  refine ⟨c1, ?_⟩
  obtain ⟨b2, e3, h⟩ := h
  refine ⟨b2, e3, ?_⟩
  obtain ⟨c4, h⟩ := h
  refine ⟨c4, ?_⟩
  intro x6 e5
  have h := h x6 e5
  refine cm_X11_begins (kh_X11_begins h) h (fun x7 hp h g8 => ?_)
  have h := h g8
  have K := kh_tr K hp.2
  refine cm_X11_readPart (kh_X11_readPart h) h (fun x9 x10 hp h g11 => ?_)
  have h := h g11
  have K := kh_tr K hp.2
  refine cm_X11_readPart (kh_X11_readPart h) h (fun x12 x13 hp h g14 => ?_)
  have h := h g14
  have K := kh_tr K hp.2
  refine cm_X11_needs (kh_X11_needs h) h (fun x15 hp h g16 => ?_)
  have h := h g16
  have K := kh_tr K hp.2
  refine cm_X11_readSide (kh_X11_readSide h) h (fun x17 x18 hp h g19 => ?_)
  have h := h g19
  have K := kh_tr K hp.2
  refine cm_X11_readWhole (kh_X11_readWhole h) h (fun x20 x21 hp h g22 => ?_)
  have h := h g22
  have K := kh_tr K hp.2
  refine cm_X11_readPart (kh_X11_readPart h) h (fun x23 x24 hp h g25 => ?_)
  have h := h g25
  have K := kh_tr K hp.2
  intro x27 e26
  have h := h x27 e26
  refine ⟨?_, ?_⟩
  · intro c28
    have h := h.1 c28
    obtain ⟨b29, e30, h⟩ := h
    refine ⟨b29, e30, ?_⟩
    obtain ⟨c31, h⟩ := h
    refine ⟨c31, ?_⟩
    obtain ⟨b32, e33, h⟩ := h
    refine ⟨b32, e33, ?_⟩
    obtain ⟨b34, e35, h⟩ := h
    refine ⟨b34, e35, ?_⟩
    obtain ⟨c36, h⟩ := h
    refine ⟨c36, ?_⟩
    intro x38 e37
    have h := h x38 e37
    obtain ⟨c39, h⟩ := h
    refine ⟨c39, ?_⟩
    obtain ⟨c40, h⟩ := h
    refine ⟨c40, ?_⟩
    intro x42 e41
    have h := h x42 e41
    have K := kh_I K e41
    obtain ⟨b43, e44, h⟩ := h
    refine ⟨b43, e44, ?_⟩
    obtain ⟨c45, h⟩ := h
    refine ⟨c45, ?_⟩
    obtain ⟨b46, e47, h⟩ := h
    refine ⟨b46, e47, ?_⟩
    obtain ⟨b48, e49, h⟩ := h
    refine ⟨b48, e49, ?_⟩
    obtain ⟨c50, h⟩ := h
    refine ⟨c50, ?_⟩
    intro x52 e51
    have h := h x52 e51
    obtain ⟨c53, h⟩ := h
    refine ⟨c53, ?_⟩
    obtain ⟨c54, h⟩ := h
    refine ⟨c54, ?_⟩
    intro x56 e55
    have h := h x56 e55
    have K := kh_I K e55
    obtain ⟨b57, e58, h⟩ := h
    refine ⟨b57, e58, ?_⟩
    obtain ⟨c59, h⟩ := h
    refine ⟨c59, ?_⟩
    obtain ⟨b60, e61, h⟩ := h
    refine ⟨b60, e61, ?_⟩
    obtain ⟨b62, e63, h⟩ := h
    refine ⟨b62, e63, ?_⟩
    obtain ⟨c64, h⟩ := h
    refine ⟨c64, ?_⟩
    intro x66 e65
    have h := h x66 e65
    obtain ⟨c67, h⟩ := h
    refine ⟨c67, ?_⟩
    obtain ⟨c68, h⟩ := h
    refine ⟨c68, ?_⟩
    intro x70 e69
    have h := h x70 e69
    have K := kh_I K e69
    obtain ⟨b71, e72, h⟩ := h
    refine ⟨b71, e72, ?_⟩
    obtain ⟨c73, h⟩ := h
    refine ⟨c73, ?_⟩
    obtain ⟨b74, e75, h⟩ := h
    refine ⟨b74, e75, ?_⟩
    obtain ⟨b76, e77, h⟩ := h
    refine ⟨b76, e77, ?_⟩
    obtain ⟨c78, h⟩ := h
    refine ⟨c78, ?_⟩
    intro x80 e79
    have h := h x80 e79
    obtain ⟨c81, h⟩ := h
    refine ⟨c81, ?_⟩
    obtain ⟨c82, h⟩ := h
    refine ⟨c82, ?_⟩
    intro x84 e83
    have h := h x84 e83
    have K := kh_I K e83
    obtain ⟨b85, e86, h⟩ := h
    refine ⟨b85, e86, ?_⟩
    obtain ⟨c87, h⟩ := h
    refine ⟨c87, ?_⟩
    obtain ⟨b88, e89, h⟩ := h
    refine ⟨b88, e89, ?_⟩
    obtain ⟨b90, e91, h⟩ := h
    refine ⟨b90, e91, ?_⟩
    obtain ⟨c92, h⟩ := h
    refine ⟨c92, ?_⟩
    intro x94 e93
    have h := h x94 e93
    obtain ⟨c95, h⟩ := h
    refine ⟨c95, ?_⟩
    obtain ⟨c96, h⟩ := h
    refine ⟨c96, ?_⟩
    intro x98 e97
    have h := h x98 e97
    have K := kh_I K e97
    obtain ⟨b99, e100, h⟩ := h
    refine ⟨b99, e100, ?_⟩
    obtain ⟨c101, h⟩ := h
    refine ⟨c101, ?_⟩
    intro x103 e102
    have h := h x103 e102
    intro x105 e104
    have h := h x105 e104
    intro x107 e106
    have h := h x107 e106
    have K := kh_I K e106
    exact ⟨h, K⟩
  · intro c108
    have h := h.2 c108
    exact ⟨h, K⟩
theorem kh_X11_readRain {Q : HS → Prop} {v0 : Nat} {S : HS} (h : P_X11_readRain v0 Q S) : P_X11_readRain v0 (fun T => Q T ∧ KH S T) S := kh_X11_readRain_0 h (kh_rf S)
set_option maxRecDepth 20000 in
set_option maxHeartbeats 1000000 in
theorem kh_X11_readRoad_85 {Q : HS → Prop} {v0 : Nat} {v1 : Int32} {v2 : Int32} {v3 : Int32} {v4 : Int32} {s0 : Int32} {S0 S : HS} (h : P_X11_readRoad_85 Q v0 v1 v2 v3 v4 s0 S) (K : KH S0 S) : P_X11_readRoad_85 (fun T => Q T ∧ KH S0 T) v0 v1 v2 v3 v4 s0 S := by
  delta P_X11_readRoad_85 at h ⊢
  obtain ⟨c1, h⟩ := h
  refine ⟨c1, ?_⟩
  intro x3 e2
  have h := h x3 e2
  refine ⟨?_, ?_⟩
  · intro c4
    have h := h.1 c4
    obtain ⟨b5, e6, h⟩ := h
    refine ⟨b5, e6, ?_⟩
    obtain ⟨c7, h⟩ := h
    refine ⟨c7, ?_⟩
    intro x9 e8
    have h := h x9 e8
    obtain ⟨b10, e11, h⟩ := h
    refine ⟨b10, e11, ?_⟩
    obtain ⟨c12, h⟩ := h
    refine ⟨c12, ?_⟩
    obtain ⟨b13, e14, h⟩ := h
    refine ⟨b13, e14, ?_⟩
    obtain ⟨c15, h⟩ := h
    refine ⟨c15, ?_⟩
    obtain ⟨c16, h⟩ := h
    refine ⟨c16, ?_⟩
    intro x18 e17
    have h := h x18 e17
    have K := kh_I K e17
    obtain ⟨b19, e20, h⟩ := h
    refine ⟨b19, e20, ?_⟩
    obtain ⟨c21, h⟩ := h
    refine ⟨c21, ?_⟩
    obtain ⟨b22, e23, h⟩ := h
    refine ⟨b22, e23, ?_⟩
    obtain ⟨c24, h⟩ := h
    refine ⟨c24, ?_⟩
    obtain ⟨c25, h⟩ := h
    refine ⟨c25, ?_⟩
    intro x27 e26
    have h := h x27 e26
    have K := kh_I K e26
    obtain ⟨b28, e29, h⟩ := h
    refine ⟨b28, e29, ?_⟩
    obtain ⟨c30, h⟩ := h
    refine ⟨c30, ?_⟩
    obtain ⟨b31, e32, h⟩ := h
    refine ⟨b31, e32, ?_⟩
    obtain ⟨c33, h⟩ := h
    refine ⟨c33, ?_⟩
    obtain ⟨c34, h⟩ := h
    refine ⟨c34, ?_⟩
    intro x36 e35
    have h := h x36 e35
    have K := kh_I K e35
    obtain ⟨b37, e38, h⟩ := h
    refine ⟨b37, e38, ?_⟩
    obtain ⟨c39, h⟩ := h
    refine ⟨c39, ?_⟩
    obtain ⟨b40, e41, h⟩ := h
    refine ⟨b40, e41, ?_⟩
    obtain ⟨c42, h⟩ := h
    refine ⟨c42, ?_⟩
    obtain ⟨c43, h⟩ := h
    refine ⟨c43, ?_⟩
    intro x45 e44
    have h := h x45 e44
    have K := kh_I K e44
    obtain ⟨b46, e47, h⟩ := h
    refine ⟨b46, e47, ?_⟩
    obtain ⟨c48, h⟩ := h
    refine ⟨c48, ?_⟩
    obtain ⟨b49, e50, h⟩ := h
    refine ⟨b49, e50, ?_⟩
    obtain ⟨c51, h⟩ := h
    refine ⟨c51, ?_⟩
    obtain ⟨c52, h⟩ := h
    refine ⟨c52, ?_⟩
    intro x54 e53
    have h := h x54 e53
    have K := kh_I K e53
    obtain ⟨b55, e56, h⟩ := h
    refine ⟨b55, e56, ?_⟩
    obtain ⟨c57, h⟩ := h
    refine ⟨c57, ?_⟩
    intro x59 e58
    have h := h x59 e58
    intro x61 e60
    have h := h x61 e60
    intro x63 e62
    have h := h x63 e62
    have K := kh_I K e62
    exact ⟨h, K⟩
  · intro c64
    have h := h.2 c64
    exact ⟨h, K⟩
set_option maxRecDepth 20000 in
set_option maxHeartbeats 1000000 in
theorem kh_X11_readRoad_62 {Q : HS → Prop} {v0 : Nat} {v1 : Int32} {v2 : Int32} {v3 : Int32} {v4 : Int32} {S0 S : HS} (h : P_X11_readRoad_62 Q v0 v1 v2 v3 v4 S) (K : KH S0 S) : P_X11_readRoad_62 (fun T => Q T ∧ KH S0 T) v0 v1 v2 v3 v4 S := by
  delta P_X11_readRoad_62 at h ⊢
  obtain ⟨c1, h⟩ := h
  refine ⟨c1, ?_⟩
  refine cm_X11_goesOn (kh_X11_goesOn h) h (fun x2 hp h g3 => ?_)
  have h := h g3
  have K := kh_tr K hp.2
  refine cm_X11_eatsWord (kh_X11_eatsWord h) h (fun x4 x5 hp h g6 g7 => ?_)
  have h := h g6 g7
  have K := kh_tr K hp.2
  refine ⟨?_, ?_⟩
  · intro c8
    have h := h.1 c8
    exact kh_X11_readRoad_85 h K
  · intro c9
    have h := h.2 c9
    refine cm_X11_readWhole (kh_X11_readWhole h) h (fun x10 x11 hp h g12 => ?_)
    have h := h g12
    have K := kh_tr K hp.2
    exact kh_X11_readRoad_85 h K
set_option maxRecDepth 20000 in
set_option maxHeartbeats 1000000 in
theorem kh_X11_readRoad_0 {Q : HS → Prop} {v0 : Nat} {S0 S : HS} (h : P_X11_readRoad_0 Q v0 S) (K : KH S0 S) : P_X11_readRoad_0 (fun T => Q T ∧ KH S0 T) v0 S := by
  delta P_X11_readRoad_0 at h ⊢
  obtain ⟨c1, h⟩ := h
  refine ⟨c1, ?_⟩
  obtain ⟨b2, e3, h⟩ := h
  refine ⟨b2, e3, ?_⟩
  obtain ⟨c4, h⟩ := h
  refine ⟨c4, ?_⟩
  intro x6 e5
  have h := h x6 e5
  refine cm_X11_begins (kh_X11_begins h) h (fun x7 hp h g8 => ?_)
  have h := h g8
  have K := kh_tr K hp.2
  refine cm_X11_known (kh_X11_known h) h (fun x9 x10 hp h g11 => ?_)
  have h := h g11
  have K := kh_tr K hp.2
  refine cm_X11_goesOn (kh_X11_goesOn h) h (fun x12 hp h g13 => ?_)
  have h := h g13
  have K := kh_tr K hp.2
  refine cm_X11_readSide (kh_X11_readSide h) h (fun x14 x15 hp h g16 => ?_)
  have h := h g16
  have K := kh_tr K hp.2
  refine cm_X11_readWhole (kh_X11_readWhole h) h (fun x17 x18 hp h g19 => ?_)
  have h := h g19
  have K := kh_tr K hp.2
  refine cm_X11_known (kh_X11_known h) h (fun x20 x21 hp h g22 => ?_)
  have h := h g22
  have K := kh_tr K hp.2
  intro x24 e23
  have h := h x24 e23
  refine ⟨?_, ?_⟩
  · intro c25
    have h := h.1 c25
    exact kh_X11_readRoad_62 h K
  · intro c26
    have h := h.2 c26
    refine ⟨?_, ?_⟩
    · intro c27
      have h := h.1 c27
      exact kh_X11_readRoad_62 h K
    · intro c28
      have h := h.2 c28
      refine cm_X11_flaw (kh_X11_flaw h) h (fun x29 hp h g30 => ?_)
      have h := h g30
      have K := kh_tr K hp.2
      exact kh_X11_readRoad_62 h K
theorem kh_X11_readRoad {Q : HS → Prop} {v0 : Nat} {S : HS} (h : P_X11_readRoad v0 Q S) : P_X11_readRoad v0 (fun T => Q T ∧ KH S T) S := kh_X11_readRoad_0 h (kh_rf S)
set_option maxRecDepth 20000 in
set_option maxHeartbeats 1000000 in
theorem kh_X11_readSeen_47 {Q : HS → Prop} {X24 X24_2 : Nat → Int32 → Int32 → HS → Prop} {v0 : Nat} {v1 : Int32} {v2 : Int32} {S0 S : HS} (h : P_X11_readSeen_47 Q X24 v0 v1 v2 S) (K : KH S0 S) (hX24 : ∀ (u0 : Nat) (u1 : Int32) (u2 : Int32) (u3 : HS), X24 u0 u1 u2 u3 → KH S0 u3 → X24_2 u0 u1 u2 u3) : P_X11_readSeen_47 (fun T => Q T ∧ KH S0 T) X24_2 v0 v1 v2 S := by
  delta P_X11_readSeen_47 at h ⊢
  obtain ⟨c1, h⟩ := h
  refine ⟨c1, ?_⟩
  refine cm_X11_readWhole (kh_X11_readWhole h) h (fun x2 x3 hp h g4 => ?_)
  have h := h g4
  have K := kh_tr K hp.2
  intro x6 e5
  have h := h x6 e5
  refine ⟨?_, ?_⟩
  · intro c7
    have h := h.1 c7
    obtain ⟨b8, e9, h⟩ := h
    refine ⟨b8, e9, ?_⟩
    obtain ⟨c10, h⟩ := h
    refine ⟨c10, ?_⟩
    obtain ⟨b11, e12, h⟩ := h
    refine ⟨b11, e12, ?_⟩
    obtain ⟨b13, e14, h⟩ := h
    refine ⟨b13, e14, ?_⟩
    obtain ⟨c15, h⟩ := h
    refine ⟨c15, ?_⟩
    intro x17 e16
    have h := h x17 e16
    obtain ⟨c18, h⟩ := h
    refine ⟨c18, ?_⟩
    obtain ⟨c19, h⟩ := h
    refine ⟨c19, ?_⟩
    intro x21 e20
    have h := h x21 e20
    have K := kh_I K e20
    intro x23 e22
    have h := h x23 e22
    exact hX24 _ _ _ _ h K
  · intro c24
    have h := h.2 c24
    exact ⟨h, K⟩
set_option maxRecDepth 20000 in
set_option maxHeartbeats 1000000 in
theorem khB_X11_readSeen_24 {Q : HS → Prop} {X24 X24_2 : Nat → Int32 → Int32 → HS → Prop} {v0 : Nat} {v1 : Int32} {v2 : Int32} {S0 S : HS} (h : B_X11_readSeen_24 Q X24 v0 v1 v2 S) (K : KH S0 S) (hX24 : ∀ (u0 : Nat) (u1 : Int32) (u2 : Int32) (u3 : HS), X24 u0 u1 u2 u3 → KH S0 u3 → X24_2 u0 u1 u2 u3) : B_X11_readSeen_24 (fun T => Q T ∧ KH S0 T) X24_2 v0 v1 v2 S := by
  delta B_X11_readSeen_24 at h ⊢
  refine ⟨?_, ?_⟩
  · intro c1
    have h := h.1 c1
    obtain ⟨c2, h⟩ := h
    refine ⟨c2, ?_⟩
    obtain ⟨b3, e4, h⟩ := h
    refine ⟨b3, e4, ?_⟩
    obtain ⟨c5, h⟩ := h
    refine ⟨c5, ?_⟩
    obtain ⟨b6, e7, h⟩ := h
    refine ⟨b6, e7, ?_⟩
    obtain ⟨b8, e9, h⟩ := h
    refine ⟨b8, e9, ?_⟩
    obtain ⟨c10, h⟩ := h
    refine ⟨c10, ?_⟩
    intro x12 e11
    have h := h x12 e11
    obtain ⟨c13, h⟩ := h
    refine ⟨c13, ?_⟩
    obtain ⟨c14, h⟩ := h
    refine ⟨c14, ?_⟩
    intro x16 e15
    have h := h x16 e15
    have K := kh_I K e15
    obtain ⟨b17, e18, h⟩ := h
    refine ⟨b17, e18, ?_⟩
    obtain ⟨c19, h⟩ := h
    refine ⟨c19, ?_⟩
    intro x21 e20
    have h := h x21 e20
    intro x23 e22
    have h := h x23 e22
    intro x25 e24
    have h := h x25 e24
    have K := kh_I K e24
    exact ⟨h, K⟩
  · intro c26
    have h := h.2 c26
    refine ⟨?_, ?_⟩
    · intro c27
      have h := h.1 c27
      exact kh_X11_readSeen_47 h K hX24
    · intro c28
      have h := h.2 c28
      obtain ⟨c29, h⟩ := h
      refine ⟨c29, ?_⟩
      refine cm_X11_eatsSign (kh_X11_eatsSign h) h (fun x30 x31 hp h g32 g33 => ?_)
      have h := h g32 g33
      have K := kh_tr K hp.2
      refine ⟨?_, ?_⟩
      · intro c34
        have h := h.1 c34
        exact kh_X11_readSeen_47 h K hX24
      · intro c35
        have h := h.2 c35
        refine cm_X11_flaw (kh_X11_flaw h) h (fun x36 hp h g37 => ?_)
        have h := h g37
        have K := kh_tr K hp.2
        exact kh_X11_readSeen_47 h K hX24
theorem kh_X11_readSeen_24 {Q : HS → Prop} {v0 : Nat} {v1 : Int32} {v2 : Int32} {S0 S : HS} (h : P_X11_readSeen_24 Q v0 v1 v2 S) (K : KH S0 S) : P_X11_readSeen_24 (fun T => Q T ∧ KH S0 T) v0 v1 v2 S := h (fun v0 v1 v2 S => KH S0 S → P_X11_readSeen_24 (fun T => Q T ∧ KH S0 T) v0 v1 v2 S) (fun v0 v1 v2 S hB K => fd_X11_readSeen_24 (khB_X11_readSeen_24 hB K (fun _ _ _ _ hx K => hx K))) K
set_option maxRecDepth 20000 in
set_option maxHeartbeats 1000000 in
theorem kh_X11_readSeen_0 {Q : HS → Prop} {v0 : Nat} {S0 S : HS} (h : P_X11_readSeen_0 Q v0 S) (K : KH S0 S) : P_X11_readSeen_0 (fun T => Q T ∧ KH S0 T) v0 S := by
  delta P_X11_readSeen_0 at h ⊢
  obtain ⟨c1, h⟩ := h
  refine ⟨c1, ?_⟩
  obtain ⟨b2, e3, h⟩ := h
  refine ⟨b2, e3, ?_⟩
  obtain ⟨c4, h⟩ := h
  refine ⟨c4, ?_⟩
  intro x6 e5
  have h := h x6 e5
  refine cm_X11_begins (kh_X11_begins h) h (fun x7 hp h g8 => ?_)
  have h := h g8
  have K := kh_tr K hp.2
  refine cm_X11_known (kh_X11_known h) h (fun x9 x10 hp h g11 => ?_)
  have h := h g11
  have K := kh_tr K hp.2
  refine cm_X11_goesOn (kh_X11_goesOn h) h (fun x12 hp h g13 => ?_)
  have h := h g13
  have K := kh_tr K hp.2
  exact kh_X11_readSeen_24 h K
theorem kh_X11_readSeen {Q : HS → Prop} {v0 : Nat} {S : HS} (h : P_X11_readSeen v0 Q S) : P_X11_readSeen v0 (fun T => Q T ∧ KH S T) S := kh_X11_readSeen_0 h (kh_rf S)
set_option maxRecDepth 20000 in
set_option maxHeartbeats 1000000 in
theorem kh_X11_readWalker_149 {Q : HS → Prop} {v0 : Nat} {v1 : Int64} {v3 : Int32} {v4 : Int32} {s0 : Int32} {S0 S : HS} (h : P_X11_readWalker_149 Q v0 v1 v3 v4 s0 S) (K : KH S0 S) : P_X11_readWalker_149 (fun T => Q T ∧ KH S0 T) v0 v1 v3 v4 s0 S := by
  delta P_X11_readWalker_149 at h ⊢
  obtain ⟨c1, h⟩ := h
  refine ⟨c1, ?_⟩
  refine cm_X11_readPart (kh_X11_readPart h) h (fun x2 x3 hp h g4 => ?_)
  have h := h g4
  have K := kh_tr K hp.2
  refine cm_X11_readPart (kh_X11_readPart h) h (fun x5 x6 hp h g7 => ?_)
  have h := h g7
  have K := kh_tr K hp.2
  refine cm_X11_readPart (kh_X11_readPart h) h (fun x8 x9 hp h g10 => ?_)
  have h := h g10
  have K := kh_tr K hp.2
  refine cm_X11_readPart (kh_X11_readPart h) h (fun x11 x12 hp h g13 => ?_)
  have h := h g13
  have K := kh_tr K hp.2
  refine cm_X11_readPart (kh_X11_readPart h) h (fun x14 x15 hp h g16 => ?_)
  have h := h g16
  have K := kh_tr K hp.2
  intro x18 e17
  have h := h x18 e17
  refine ⟨?_, ?_⟩
  · intro c19
    have h := h.1 c19
    obtain ⟨b20, e21, h⟩ := h
    refine ⟨b20, e21, ?_⟩
    obtain ⟨c22, h⟩ := h
    refine ⟨c22, ?_⟩
    intro x24 e23
    have h := h x24 e23
    refine cm_X11_names (kh_X11_names h) h (fun x25 hp h g26 => ?_)
    have h := h g26
    have K := kh_tr K hp.2
    obtain ⟨b27, e28, h⟩ := h
    refine ⟨b27, e28, ?_⟩
    obtain ⟨c29, h⟩ := h
    refine ⟨c29, ?_⟩
    obtain ⟨b30, e31, h⟩ := h
    refine ⟨b30, e31, ?_⟩
    obtain ⟨c32, h⟩ := h
    refine ⟨c32, ?_⟩
    obtain ⟨c33, h⟩ := h
    refine ⟨c33, ?_⟩
    intro x35 e34
    have h := h x35 e34
    have K := kh_I K e34
    obtain ⟨b36, e37, h⟩ := h
    refine ⟨b36, e37, ?_⟩
    obtain ⟨c38, h⟩ := h
    refine ⟨c38, ?_⟩
    obtain ⟨b39, e40, h⟩ := h
    refine ⟨b39, e40, ?_⟩
    obtain ⟨c41, h⟩ := h
    refine ⟨c41, ?_⟩
    obtain ⟨c42, h⟩ := h
    refine ⟨c42, ?_⟩
    intro x44 e43
    have h := h x44 e43
    have K := kh_I K e43
    obtain ⟨b45, e46, h⟩ := h
    refine ⟨b45, e46, ?_⟩
    obtain ⟨c47, h⟩ := h
    refine ⟨c47, ?_⟩
    obtain ⟨b48, e49, h⟩ := h
    refine ⟨b48, e49, ?_⟩
    obtain ⟨c50, h⟩ := h
    refine ⟨c50, ?_⟩
    intro x52 e51
    have h := h x52 e51
    obtain ⟨c53, h⟩ := h
    refine ⟨c53, ?_⟩
    intro x55 e54
    have h := h x55 e54
    have K := kh_I K e54
    obtain ⟨b56, e57, h⟩ := h
    refine ⟨b56, e57, ?_⟩
    obtain ⟨c58, h⟩ := h
    refine ⟨c58, ?_⟩
    obtain ⟨b59, e60, h⟩ := h
    refine ⟨b59, e60, ?_⟩
    obtain ⟨c61, h⟩ := h
    refine ⟨c61, ?_⟩
    intro x63 e62
    have h := h x63 e62
    obtain ⟨c64, h⟩ := h
    refine ⟨c64, ?_⟩
    intro x66 e65
    have h := h x66 e65
    have K := kh_I K e65
    obtain ⟨b67, e68, h⟩ := h
    refine ⟨b67, e68, ?_⟩
    obtain ⟨c69, h⟩ := h
    refine ⟨c69, ?_⟩
    obtain ⟨b70, e71, h⟩ := h
    refine ⟨b70, e71, ?_⟩
    obtain ⟨c72, h⟩ := h
    refine ⟨c72, ?_⟩
    intro x74 e73
    have h := h x74 e73
    obtain ⟨c75, h⟩ := h
    refine ⟨c75, ?_⟩
    intro x77 e76
    have h := h x77 e76
    have K := kh_I K e76
    obtain ⟨b78, e79, h⟩ := h
    refine ⟨b78, e79, ?_⟩
    obtain ⟨c80, h⟩ := h
    refine ⟨c80, ?_⟩
    obtain ⟨b81, e82, h⟩ := h
    refine ⟨b81, e82, ?_⟩
    obtain ⟨c83, h⟩ := h
    refine ⟨c83, ?_⟩
    obtain ⟨c84, h⟩ := h
    refine ⟨c84, ?_⟩
    intro x86 e85
    have h := h x86 e85
    have K := kh_I K e85
    obtain ⟨b87, e88, h⟩ := h
    refine ⟨b87, e88, ?_⟩
    obtain ⟨c89, h⟩ := h
    refine ⟨c89, ?_⟩
    obtain ⟨b90, e91, h⟩ := h
    refine ⟨b90, e91, ?_⟩
    obtain ⟨c92, h⟩ := h
    refine ⟨c92, ?_⟩
    obtain ⟨c93, h⟩ := h
    refine ⟨c93, ?_⟩
    intro x95 e94
    have h := h x95 e94
    have K := kh_I K e94
    obtain ⟨b96, e97, h⟩ := h
    refine ⟨b96, e97, ?_⟩
    obtain ⟨c98, h⟩ := h
    refine ⟨c98, ?_⟩
    intro x100 e99
    have h := h x100 e99
    intro x102 e101
    have h := h x102 e101
    intro x104 e103
    have h := h x104 e103
    have K := kh_I K e103
    exact ⟨h, K⟩
  · intro c105
    have h := h.2 c105
    exact ⟨h, K⟩
set_option maxRecDepth 20000 in
set_option maxHeartbeats 1000000 in
theorem kh_X11_readWalker_136 {Q : HS → Prop} {v0 : Nat} {v1 : Int64} {v3 : Int32} {s0 : Int32} {S0 S : HS} (h : P_X11_readWalker_136 Q v0 v1 v3 s0 S) (K : KH S0 S) : P_X11_readWalker_136 (fun T => Q T ∧ KH S0 T) v0 v1 v3 s0 S := by
  delta P_X11_readWalker_136 at h ⊢
  refine ⟨?_, ?_⟩
  · intro c1
    have h := h.1 c1
    exact kh_X11_readWalker_149 h K
  · intro c2
    have h := h.2 c2
    exact kh_X11_readWalker_149 h K
set_option maxRecDepth 20000 in
set_option maxHeartbeats 1000000 in
theorem kh_X11_readWalker_85 {Q : HS → Prop} {v0 : Nat} {v1 : Int64} {v3 : Int32} {S0 S : HS} (h : P_X11_readWalker_85 Q v0 v1 v3 S) (K : KH S0 S) : P_X11_readWalker_85 (fun T => Q T ∧ KH S0 T) v0 v1 v3 S := by
  delta P_X11_readWalker_85 at h ⊢
  obtain ⟨c1, h⟩ := h
  refine ⟨c1, ?_⟩
  refine cm_X11_goesOn (kh_X11_goesOn h) h (fun x2 hp h g3 => ?_)
  have h := h g3
  have K := kh_tr K hp.2
  refine ⟨?_, ?_⟩
  · intro c4
    have h := h.1 c4
    refine ⟨?_, ?_⟩
    · intro c5
      have h := h.1 c5
      refine ⟨?_, ?_⟩
      · intro c6
        have h := h.1 c6
        exact kh_X11_readWalker_136 h K
      · intro c7
        have h := h.2 c7
        refine cm_X11_readWhole (kh_X11_readWhole h) h (fun x8 x9 hp h g10 => ?_)
        have h := h g10
        have K := kh_tr K hp.2
        exact kh_X11_readWalker_136 h K
    · intro c11
      have h := h.2 c11
      refine cm_X11_readWhole (kh_X11_readWhole h) h (fun x12 x13 hp h g14 => ?_)
      have h := h g14
      have K := kh_tr K hp.2
      exact kh_X11_readWalker_136 h K
  · intro c15
    have h := h.2 c15
    refine cm_X11_readWhole (kh_X11_readWhole h) h (fun x16 x17 hp h g18 => ?_)
    have h := h g18
    have K := kh_tr K hp.2
    exact kh_X11_readWalker_136 h K
set_option maxRecDepth 20000 in
set_option maxHeartbeats 1000000 in
theorem kh_X11_readWalker_74 {Q : HS → Prop} {v0 : Nat} {v1 : Int64} {s0 : Int32} {S0 S : HS} (h : P_X11_readWalker_74 Q v0 v1 s0 S) (K : KH S0 S) : P_X11_readWalker_74 (fun T => Q T ∧ KH S0 T) v0 v1 s0 S := by
  delta P_X11_readWalker_74 at h ⊢
  refine ⟨?_, ?_⟩
  · intro c1
    have h := h.1 c1
    exact kh_X11_readWalker_85 h K
  · intro c2
    have h := h.2 c2
    obtain ⟨c3, h⟩ := h
    refine ⟨c3, ?_⟩
    refine cm_X11_flaw (kh_X11_flaw h) h (fun x4 hp h g5 => ?_)
    have h := h g5
    have K := kh_tr K hp.2
    exact kh_X11_readWalker_85 h K
set_option maxRecDepth 20000 in
set_option maxHeartbeats 1000000 in
theorem kh_X11_readWalker_0 {Q : HS → Prop} {v0 : Nat} {S0 S : HS} (h : P_X11_readWalker_0 Q v0 S) (K : KH S0 S) : P_X11_readWalker_0 (fun T => Q T ∧ KH S0 T) v0 S := by
  delta P_X11_readWalker_0 at h ⊢
  obtain ⟨c1, h⟩ := h
  refine ⟨c1, ?_⟩
  obtain ⟨b2, e3, h⟩ := h
  refine ⟨b2, e3, ?_⟩
  obtain ⟨c4, h⟩ := h
  refine ⟨c4, ?_⟩
  intro x6 e5
  have h := h x6 e5
  refine cm_X11_begins (kh_X11_begins h) h (fun x7 hp h g8 => ?_)
  have h := h g8
  have K := kh_tr K hp.2
  refine cm_X11_readFresh (kh_X11_readFresh h) h (fun x9 x10 hp h g11 => ?_)
  have h := h g11
  have K := kh_tr K hp.2
  refine cm_X11_isWord (kh_X11_isWord h) h (fun x12 x13 hp h g14 g15 => ?_)
  have h := h g14 g15
  have K := kh_tr K hp.2
  refine ⟨?_, ?_⟩
  · intro c16
    have h := h.1 c16
    refine cm_X11_isWord (kh_X11_isWord h) h (fun x17 x18 hp h g19 g20 => ?_)
    have h := h g19 g20
    have K := kh_tr K hp.2
    refine ⟨?_, ?_⟩
    · intro c21
      have h := h.1 c21
      refine cm_X11_isWord (kh_X11_isWord h) h (fun x22 x23 hp h g24 g25 => ?_)
      have h := h g24 g25
      have K := kh_tr K hp.2
      refine ⟨?_, ?_⟩
      · intro c26
        have h := h.1 c26
        refine cm_X11_isWord (kh_X11_isWord h) h (fun x27 x28 hp h g29 g30 => ?_)
        have h := h g29 g30
        have K := kh_tr K hp.2
        refine ⟨?_, ?_⟩
        · intro c31
          have h := h.1 c31
          exact kh_X11_readWalker_74 h K
        · intro c32
          have h := h.2 c32
          exact kh_X11_readWalker_74 h K
      · intro c33
        have h := h.2 c33
        exact kh_X11_readWalker_74 h K
    · intro c34
      have h := h.2 c34
      exact kh_X11_readWalker_74 h K
  · intro c35
    have h := h.2 c35
    exact kh_X11_readWalker_74 h K
theorem kh_X11_readWalker {Q : HS → Prop} {v0 : Nat} {S : HS} (h : P_X11_readWalker v0 Q S) : P_X11_readWalker v0 (fun T => Q T ∧ KH S T) S := kh_X11_readWalker_0 h (kh_rf S)
set_option maxRecDepth 20000 in
set_option maxHeartbeats 1000000 in
theorem kh_X11_readWorld_15 {Q : HS → Prop} {v0 : Nat} {S0 S : HS} (h : P_X11_readWorld_15 Q v0 S) (K : KH S0 S) : P_X11_readWorld_15 (fun T => Q T ∧ KH S0 T) v0 S := by
  delta P_X11_readWorld_15 at h ⊢
  obtain ⟨c1, h⟩ := h
  refine ⟨c1, ?_⟩
  refine cm_X11_goesOn (kh_X11_goesOn h) h (fun x2 hp h g3 => ?_)
  have h := h g3
  have K := kh_tr K hp.2
  refine cm_X11_readPart (kh_X11_readPart h) h (fun x4 x5 hp h g6 => ?_)
  have h := h g6
  have K := kh_tr K hp.2
  intro x8 e7
  have h := h x8 e7
  refine ⟨?_, ?_⟩
  · intro c9
    have h := h.1 c9
    exact ⟨h, K⟩
  · intro c10
    have h := h.2 c10
    obtain ⟨b11, e12, h⟩ := h
    refine ⟨b11, e12, ?_⟩
    obtain ⟨c13, h⟩ := h
    refine ⟨c13, ?_⟩
    intro x15 e14
    have h := h x15 e14
    have K := kh_I K e14
    exact ⟨h, K⟩
set_option maxRecDepth 20000 in
set_option maxHeartbeats 1000000 in
theorem kh_X11_readWorld_0 {Q : HS → Prop} {v0 : Nat} {S0 S : HS} (h : P_X11_readWorld_0 Q v0 S) (K : KH S0 S) : P_X11_readWorld_0 (fun T => Q T ∧ KH S0 T) v0 S := by
  delta P_X11_readWorld_0 at h ⊢
  obtain ⟨c1, h⟩ := h
  refine ⟨c1, ?_⟩
  obtain ⟨b2, e3, h⟩ := h
  refine ⟨b2, e3, ?_⟩
  obtain ⟨c4, h⟩ := h
  refine ⟨c4, ?_⟩
  intro x6 e5
  have h := h x6 e5
  refine ⟨?_, ?_⟩
  · intro c7
    have h := h.1 c7
    exact kh_X11_readWorld_15 h K
  · intro c8
    have h := h.2 c8
    refine cm_X11_flaw (kh_X11_flaw h) h (fun x9 hp h g10 => ?_)
    have h := h g10
    have K := kh_tr K hp.2
    exact kh_X11_readWorld_15 h K
theorem kh_X11_readWorld {Q : HS → Prop} {v0 : Nat} {S : HS} (h : P_X11_readWorld v0 Q S) : P_X11_readWorld v0 (fun T => Q T ∧ KH S T) S := kh_X11_readWorld_0 h (kh_rf S)
set_option maxRecDepth 20000 in
set_option maxHeartbeats 1000000 in
theorem kh_X11_readLine_0 {Q : HS → Prop} {v0 : Nat} {S0 S : HS} (h : P_X11_readLine_0 Q v0 S) (K : KH S0 S) : P_X11_readLine_0 (fun T => Q T ∧ KH S0 T) v0 S := by
  delta P_X11_readLine_0 at h ⊢
  obtain ⟨c1, h⟩ := h
  refine ⟨c1, ?_⟩
  refine cm_X11_isWord (kh_X11_isWord h) h (fun x2 x3 hp h g4 g5 => ?_)
  have h := h g4 g5
  have K := kh_tr K hp.2
  refine ⟨?_, ?_⟩
  · intro c6
    have h := h.1 c6
    refine cm_X11_isWord (kh_X11_isWord h) h (fun x7 x8 hp h g9 g10 => ?_)
    have h := h g9 g10
    have K := kh_tr K hp.2
    refine ⟨?_, ?_⟩
    · intro c11
      have h := h.1 c11
      refine cm_X11_isWord (kh_X11_isWord h) h (fun x12 x13 hp h g14 g15 => ?_)
      have h := h g14 g15
      have K := kh_tr K hp.2
      refine ⟨?_, ?_⟩
      · intro c16
        have h := h.1 c16
        refine cm_X11_isWord (kh_X11_isWord h) h (fun x17 x18 hp h g19 g20 => ?_)
        have h := h g19 g20
        have K := kh_tr K hp.2
        refine ⟨?_, ?_⟩
        · intro c21
          have h := h.1 c21
          refine cm_X11_isWord (kh_X11_isWord h) h (fun x22 x23 hp h g24 g25 => ?_)
          have h := h g24 g25
          have K := kh_tr K hp.2
          refine ⟨?_, ?_⟩
          · intro c26
            have h := h.1 c26
            refine cm_X11_isWord (kh_X11_isWord h) h (fun x27 x28 hp h g29 g30 => ?_)
            have h := h g29 g30
            have K := kh_tr K hp.2
            refine ⟨?_, ?_⟩
            · intro c31
              have h := h.1 c31
              refine cm_X11_flaw (kh_X11_flaw h) h (fun x32 hp h g33 => ?_)
              have h := h g33
              have K := kh_tr K hp.2
              exact ⟨h, K⟩
            · intro c34
              have h := h.2 c34
              refine cm_X11_readSeen (kh_X11_readSeen h) h (fun x35 hp h g36 => ?_)
              have h := h g36
              have K := kh_tr K hp.2
              exact ⟨h, K⟩
          · intro c37
            have h := h.2 c37
            refine cm_X11_readWalker (kh_X11_readWalker h) h (fun x38 hp h g39 => ?_)
            have h := h g39
            have K := kh_tr K hp.2
            exact ⟨h, K⟩
        · intro c40
          have h := h.2 c40
          refine cm_X11_readRoad (kh_X11_readRoad h) h (fun x41 hp h g42 => ?_)
          have h := h g42
          have K := kh_tr K hp.2
          exact ⟨h, K⟩
      · intro c43
        have h := h.2 c43
        refine cm_X11_readPlace (kh_X11_readPlace h) h (fun x44 hp h g45 => ?_)
        have h := h g45
        have K := kh_tr K hp.2
        exact ⟨h, K⟩
    · intro c46
      have h := h.2 c46
      refine cm_X11_readRain (kh_X11_readRain h) h (fun x47 hp h g48 => ?_)
      have h := h g48
      have K := kh_tr K hp.2
      exact ⟨h, K⟩
  · intro c49
    have h := h.2 c49
    refine cm_X11_readWorld (kh_X11_readWorld h) h (fun x50 hp h g51 => ?_)
    have h := h g51
    have K := kh_tr K hp.2
    exact ⟨h, K⟩
theorem kh_X11_readLine {Q : HS → Prop} {v0 : Nat} {S : HS} (h : P_X11_readLine v0 Q S) : P_X11_readLine v0 (fun T => Q T ∧ KH S T) S := kh_X11_readLine_0 h (kh_rf S)
set_option maxRecDepth 20000 in
set_option maxHeartbeats 1000000 in
theorem kh_X11_readAll_63 {Q : HS → Prop} {v0 : Nat} {S0 S : HS} (h : P_X11_readAll_63 Q v0 S) (K : KH S0 S) : P_X11_readAll_63 (fun T => Q T ∧ KH S0 T) v0 S := by
  delta P_X11_readAll_63 at h ⊢
  obtain ⟨c1, h⟩ := h
  refine ⟨c1, ?_⟩
  refine cm_X11_flaw (kh_X11_flaw h) h (fun x2 hp h g3 => ?_)
  have h := h g3
  have K := kh_tr K hp.2
  exact ⟨h, K⟩
set_option maxRecDepth 20000 in
set_option maxHeartbeats 1000000 in
theorem kh_X11_readAll_33 {Q : HS → Prop} {v0 : Nat} {S0 S : HS} (h : P_X11_readAll_33 Q v0 S) (K : KH S0 S) : P_X11_readAll_33 (fun T => Q T ∧ KH S0 T) v0 S := by
  delta P_X11_readAll_33 at h ⊢
  obtain ⟨c1, h⟩ := h
  refine ⟨c1, ?_⟩
  obtain ⟨b2, e3, h⟩ := h
  refine ⟨b2, e3, ?_⟩
  obtain ⟨c4, h⟩ := h
  refine ⟨c4, ?_⟩
  intro x6 e5
  have h := h x6 e5
  refine ⟨?_, ?_⟩
  · intro c7
    have h := h.1 c7
    exact kh_X11_readAll_63 h K
  · intro c8
    have h := h.2 c8
    obtain ⟨b9, e10, h⟩ := h
    refine ⟨b9, e10, ?_⟩
    obtain ⟨c11, h⟩ := h
    refine ⟨c11, ?_⟩
    intro x13 e12
    have h := h x13 e12
    refine ⟨?_, ?_⟩
    · intro c14
      have h := h.1 c14
      exact kh_X11_readAll_63 h K
    · intro c15
      have h := h.2 c15
      obtain ⟨b16, e17, h⟩ := h
      refine ⟨b16, e17, ?_⟩
      obtain ⟨c18, h⟩ := h
      refine ⟨c18, ?_⟩
      intro x20 e19
      have h := h x20 e19
      refine ⟨?_, ?_⟩
      · intro c21
        have h := h.1 c21
        exact ⟨h, K⟩
      · intro c22
        have h := h.2 c22
        exact kh_X11_readAll_63 h K
set_option maxRecDepth 20000 in
set_option maxHeartbeats 1000000 in
theorem khB_X11_readAll_2 {Q : HS → Prop} {X2 X2_2 : Nat → Int32 → HS → Prop} {v0 : Nat} {v1 : Int32} {S0 S : HS} (h : B_X11_readAll_2 Q X2 v0 v1 S) (K : KH S0 S) (hX2 : ∀ (u0 : Nat) (u1 : Int32) (u2 : HS), X2 u0 u1 u2 → KH S0 u2 → X2_2 u0 u1 u2) : B_X11_readAll_2 (fun T => Q T ∧ KH S0 T) X2_2 v0 v1 S := by
  delta B_X11_readAll_2 at h ⊢
  refine ⟨?_, ?_⟩
  · intro c1
    have h := h.1 c1
    obtain ⟨c2, h⟩ := h
    refine ⟨c2, ?_⟩
    intro x4 e3
    have h := h x4 e3
    refine ⟨?_, ?_⟩
    · intro c5
      have h := h.1 c5
      exact kh_X11_readAll_33 h K
    · intro c6
      have h := h.2 c6
      refine cm_X11_flaw (kh_X11_flaw h) h (fun x7 hp h g8 => ?_)
      have h := h g8
      have K := kh_tr K hp.2
      exact kh_X11_readAll_33 h K
  · intro c9
    have h := h.2 c9
    obtain ⟨c10, h⟩ := h
    refine ⟨c10, ?_⟩
    refine cm_X11_readLine (kh_X11_readLine h) h (fun x11 hp h g12 => ?_)
    have h := h g12
    have K := kh_tr K hp.2
    refine cm_X11_eatsSign (kh_X11_eatsSign h) h (fun x13 x14 hp h g15 g16 => ?_)
    have h := h g15 g16
    have K := kh_tr K hp.2
    exact hX2 _ _ _ h K
theorem kh_X11_readAll_2 {Q : HS → Prop} {v0 : Nat} {v1 : Int32} {S0 S : HS} (h : P_X11_readAll_2 Q v0 v1 S) (K : KH S0 S) : P_X11_readAll_2 (fun T => Q T ∧ KH S0 T) v0 v1 S := h (fun v0 v1 S => KH S0 S → P_X11_readAll_2 (fun T => Q T ∧ KH S0 T) v0 v1 S) (fun v0 v1 S hB K => fd_X11_readAll_2 (khB_X11_readAll_2 hB K (fun _ _ _ hx K => hx K))) K
set_option maxRecDepth 20000 in
set_option maxHeartbeats 1000000 in
theorem kh_X11_readAll_0 {Q : HS → Prop} {v0 : Nat} {S0 S : HS} (h : P_X11_readAll_0 Q v0 S) (K : KH S0 S) : P_X11_readAll_0 (fun T => Q T ∧ KH S0 T) v0 S := by
  delta P_X11_readAll_0 at h ⊢
  exact kh_X11_readAll_2 h K
theorem kh_X11_readAll {Q : HS → Prop} {v0 : Nat} {S : HS} (h : P_X11_readAll v0 Q S) : P_X11_readAll v0 (fun T => Q T ∧ KH S T) S := kh_X11_readAll_0 h (kh_rf S)
end
section
set_option maxRecDepth 20000 in
set_option maxHeartbeats 1000000 in
theorem kh_X4_fail_0 {Q : Int32 → HS → Prop} {v0 : Nat} {v1 : Int32} {S0 S : HS} (h : P_X4_fail_0 Q v0 v1 S) (K : KH S0 S) : P_X4_fail_0 (fun r T => Q r T ∧ KH S0 T) v0 v1 S := by
  delta P_X4_fail_0 at h ⊢
  obtain ⟨c1, h⟩ := h
  refine ⟨c1, ?_⟩
  intro x3 e2
  have h := h x3 e2
  have K := kh_I K e2
  intro x5 e4
  have h := h x5 e4
  intro x7 e6
  have h := h x7 e6
  have K := kh_I K e6
  exact ⟨h, K⟩
theorem kh_X4_fail {Q : Int32 → HS → Prop} {v0 : Nat} {v1 : Int32} {S : HS} (h : P_X4_fail v0 v1 Q S) : P_X4_fail v0 v1 (fun r T => Q r T ∧ KH S T) S := kh_X4_fail_0 h (kh_rf S)
set_option maxRecDepth 20000 in
set_option maxHeartbeats 1000000 in
theorem kh_X4_sortAt_58 {Q : Int32 → HS → Prop} {v2 : Int32} {S0 S : HS} (h : P_X4_sortAt_58 Q v2 S) (K : KH S0 S) : P_X4_sortAt_58 (fun r T => Q r T ∧ KH S0 T) v2 S := by
  delta P_X4_sortAt_58 at h ⊢
  refine ⟨?_, ?_, ?_, ?_⟩
  · intro c1
    have h := h.1 c1
    exact ⟨h, K⟩
  · intro c2
    have h := h.2.1 c2
    exact ⟨h, K⟩
  · intro c3
    have h := h.2.2.1 c3
    exact ⟨h, K⟩
  · intro c4
    have h := h.2.2.2 c4
    exact ⟨h, K⟩
set_option maxRecDepth 20000 in
set_option maxHeartbeats 1000000 in
theorem kh_X4_sortAt_44 {Q : Int32 → HS → Prop} {v2 : Int32} {S0 S : HS} (h : P_X4_sortAt_44 Q v2 S) (K : KH S0 S) : P_X4_sortAt_44 (fun r T => Q r T ∧ KH S0 T) v2 S := by
  delta P_X4_sortAt_44 at h ⊢
  refine ⟨?_, ?_⟩
  · intro c1
    have h := h.1 c1
    exact kh_X4_sortAt_58 h K
  · intro c2
    have h := h.2 c2
    refine ⟨?_, ?_⟩
    · intro c3
      have h := h.1 c3
      exact kh_X4_sortAt_58 h K
    · intro c4
      have h := h.2 c4
      exact ⟨h, K⟩
set_option maxRecDepth 20000 in
set_option maxHeartbeats 1000000 in
theorem kh_X4_sortAt_0 {Q : Int32 → HS → Prop} {v0 : Nat} {v1 : Int32} {S0 S : HS} (h : P_X4_sortAt_0 Q v0 v1 S) (K : KH S0 S) : P_X4_sortAt_0 (fun r T => Q r T ∧ KH S0 T) v0 v1 S := by
  delta P_X4_sortAt_0 at h ⊢
  refine ⟨?_, ?_⟩
  · intro c1
    have h := h.1 c1
    exact ⟨h, K⟩
  · intro c2
    have h := h.2 c2
    obtain ⟨c3, h⟩ := h
    refine ⟨c3, ?_⟩
    intro x5 e4
    have h := h x5 e4
    refine ⟨?_, ?_⟩
    · intro c6
      have h := h.1 c6
      exact ⟨h, K⟩
    · intro c7
      have h := h.2 c7
      obtain ⟨b8, e9, h⟩ := h
      refine ⟨b8, e9, ?_⟩
      obtain ⟨c10, h⟩ := h
      refine ⟨c10, ?_⟩
      refine ⟨?_, ?_⟩
      · intro c11
        have h := h.1 c11
        obtain ⟨b12, e13, h⟩ := h
        refine ⟨b12, e13, ?_⟩
        obtain ⟨c14, h⟩ := h
        refine ⟨c14, ?_⟩
        obtain ⟨c15, h⟩ := h
        refine ⟨c15, ?_⟩
        intro x17 e16
        have h := h x17 e16
        refine ⟨?_, ?_⟩
        · intro c18
          have h := h.1 c18
          exact kh_X4_sortAt_44 h K
        · intro c19
          have h := h.2 c19
          refine ⟨?_, ?_⟩
          · intro c20
            have h := h.1 c20
            exact kh_X4_sortAt_44 h K
          · intro c21
            have h := h.2 c21
            exact ⟨h, K⟩
      · intro c22
        have h := h.2 c22
        exact ⟨h, K⟩
theorem kh_X4_sortAt {Q : Int32 → HS → Prop} {v0 : Nat} {v1 : Int32} {S : HS} (h : P_X4_sortAt v0 v1 Q S) : P_X4_sortAt v0 v1 (fun r T => Q r T ∧ KH S T) S := kh_X4_sortAt_0 h (kh_rf S)
set_option maxRecDepth 20000 in
set_option maxHeartbeats 1000000 in
theorem kh_X4_next_201 {Q : HS → Prop} {X118 X118_2 : Nat → Int32 → Int32 → Int32 → Int32 → HS → Prop} {v0 : Nat} {v1 : Int32} {v2 : Int32} {v3 : Int32} {v4 : Int32} {S0 S : HS} (h : P_X4_next_201 Q X118 v0 v1 v2 v3 v4 S) (K : KH S0 S) (hX118 : ∀ (u0 : Nat) (u1 : Int32) (u2 : Int32) (u3 : Int32) (u4 : Int32) (u5 : HS), X118 u0 u1 u2 u3 u4 u5 → KH S0 u5 → X118_2 u0 u1 u2 u3 u4 u5) : P_X4_next_201 (fun T => Q T ∧ KH S0 T) X118_2 v0 v1 v2 v3 v4 S := by
  delta P_X4_next_201 at h ⊢
  obtain ⟨c1, h⟩ := h
  refine ⟨c1, ?_⟩
  intro x3 e2
  have h := h x3 e2
  intro x5 e4
  have h := h x5 e4
  intro x7 e6
  have h := h x7 e6
  have K := kh_I K e6
  intro x9 e8
  have h := h x9 e8
  exact hX118 _ _ _ _ _ _ h K
set_option maxRecDepth 20000 in
set_option maxHeartbeats 1000000 in
theorem kh_X4_next_195 {Q : HS → Prop} {X118 X118_2 : Nat → Int32 → Int32 → Int32 → Int32 → HS → Prop} {v0 : Nat} {v1 : Int32} {v2 : Int32} {v3 : Int32} {v4 : Int32} {s0 : Nat} {s1 : Int64} {s2 : Int32} {s3 : Int32} {S0 S : HS} (h : P_X4_next_195 Q X118 v0 v1 v2 v3 v4 s0 s1 s2 s3 S) (K : KH S0 S) (hX118 : ∀ (u0 : Nat) (u1 : Int32) (u2 : Int32) (u3 : Int32) (u4 : Int32) (u5 : HS), X118 u0 u1 u2 u3 u4 u5 → KH S0 u5 → X118_2 u0 u1 u2 u3 u4 u5) : P_X4_next_195 (fun T => Q T ∧ KH S0 T) X118_2 v0 v1 v2 v3 v4 s0 s1 s2 s3 S := by
  delta P_X4_next_195 at h ⊢
  obtain ⟨c1, h⟩ := h
  refine ⟨c1, ?_⟩
  intro x3 e2
  have h := h x3 e2
  intro x5 e4
  have h := h x5 e4
  have K := kh_J K e4
  exact kh_X4_next_201 h K hX118
set_option maxRecDepth 20000 in
set_option maxHeartbeats 1000000 in
theorem kh_X4_next_240 {Q : HS → Prop} {v0 : Nat} {v1 : Int32} {S0 S : HS} (h : P_X4_next_240 Q v0 v1 S) (K : KH S0 S) : P_X4_next_240 (fun T => Q T ∧ KH S0 T) v0 v1 S := by
  delta P_X4_next_240 at h ⊢
  refine ⟨?_, ?_⟩
  · intro c1
    have h := h.1 c1
    exact ⟨h, K⟩
  · intro c2
    have h := h.2 c2
    obtain ⟨c3, h⟩ := h
    refine ⟨c3, ?_⟩
    intro x5 e4
    have h := h x5 e4
    refine ⟨?_, ?_⟩
    · intro c6
      have h := h.1 c6
      exact ⟨h, K⟩
    · intro c7
      have h := h.2 c7
      intro x9 e8
      have h := h x9 e8
      intro x11 e10
      have h := h x11 e10
      intro x13 e12
      have h := h x13 e12
      have K := kh_I K e12
      exact ⟨h, K⟩
set_option maxRecDepth 20000 in
set_option maxHeartbeats 1000000 in
theorem kh_X4_next_217 {Q : HS → Prop} {v0 : Nat} {v1 : Int32} {v2 : Int32} {S0 S : HS} (h : P_X4_next_217 Q v0 v1 v2 S) (K : KH S0 S) : P_X4_next_217 (fun T => Q T ∧ KH S0 T) v0 v1 v2 S := by
  delta P_X4_next_217 at h ⊢
  refine ⟨?_, ?_⟩
  · intro c1
    have h := h.1 c1
    exact kh_X4_next_240 h K
  · intro c2
    have h := h.2 c2
    obtain ⟨c3, h⟩ := h
    refine ⟨c3, ?_⟩
    intro x5 e4
    have h := h x5 e4
    intro x7 e6
    have h := h x7 e6
    refine ⟨?_, ?_⟩
    · intro c8
      have h := h.1 c8
      exact kh_X4_next_240 h K
    · intro c9
      have h := h.2 c9
      intro x11 e10
      have h := h x11 e10
      have K := kh_I K e10
      exact kh_X4_next_240 h K
set_option maxRecDepth 20000 in
set_option maxHeartbeats 1000000 in
theorem khB_X4_next_118 {Q : HS → Prop} {X118 X118_2 : Nat → Int32 → Int32 → Int32 → Int32 → HS → Prop} {v0 : Nat} {v1 : Int32} {v2 : Int32} {v3 : Int32} {v4 : Int32} {S0 S : HS} (h : B_X4_next_118 Q X118 v0 v1 v2 v3 v4 S) (K : KH S0 S) (hX118 : ∀ (u0 : Nat) (u1 : Int32) (u2 : Int32) (u3 : Int32) (u4 : Int32) (u5 : HS), X118 u0 u1 u2 u3 u4 u5 → KH S0 u5 → X118_2 u0 u1 u2 u3 u4 u5) : B_X4_next_118 (fun T => Q T ∧ KH S0 T) X118_2 v0 v1 v2 v3 v4 S := by
  delta B_X4_next_118 at h ⊢
  refine ⟨?_, ?_⟩
  · intro c1
    have h := h.1 c1
    exact kh_X4_next_217 h K
  · intro c2
    have h := h.2 c2
    refine ⟨?_, ?_⟩
    · intro c3
      have h := h.1 c3
      exact kh_X4_next_217 h K
    · intro c4
      have h := h.2 c4
      obtain ⟨c5, h⟩ := h
      refine ⟨c5, ?_⟩
      intro x7 e6
      have h := h x7 e6
      refine cm_X4_sortAt (kh_X4_sortAt h) h (fun x8 x9 hp h g10 => ?_)
      have h := h g10
      have K := kh_tr K hp.2
      intro x12 e11
      have h := h x12 e11
      refine ⟨?_, ?_⟩
      · intro c13
        have h := h.1 c13
        exact kh_X4_next_217 h K
      · intro c14
        have h := h.2 c14
        refine ⟨?_, ?_⟩
        · intro c15
          have h := h.1 c15
          exact kh_X4_next_201 h K hX118
        · intro c16
          have h := h.2 c16
          intro x18 e17
          have h := h x18 e17
          obtain ⟨b19, e20, h⟩ := h
          refine ⟨b19, e20, ?_⟩
          obtain ⟨c21, h⟩ := h
          refine ⟨c21, ?_⟩
          refine ⟨?_, ?_⟩
          · intro c22
            have h := h.1 c22
            exact kh_X4_next_201 h K hX118
          · intro c23
            have h := h.2 c23
            intro x25 e24
            have h := h x25 e24
            obtain ⟨b26, e27, h⟩ := h
            refine ⟨b26, e27, ?_⟩
            intro x29 e28
            have h := h x29 e28
            obtain ⟨c30, h⟩ := h
            refine ⟨c30, ?_⟩
            obtain ⟨c31, h⟩ := h
            refine ⟨c31, ?_⟩
            intro x33 e32
            have h := h x33 e32
            intro x35 e34
            have h := h x35 e34
            refine ⟨?_, ?_⟩
            · intro c36
              have h := h.1 c36
              exact kh_X4_next_195 h K hX118
            · intro c37
              have h := h.2 c37
              exact kh_X4_next_195 h K hX118
theorem kh_X4_next_118 {Q : HS → Prop} {v0 : Nat} {v1 : Int32} {v2 : Int32} {v3 : Int32} {v4 : Int32} {S0 S : HS} (h : P_X4_next_118 Q v0 v1 v2 v3 v4 S) (K : KH S0 S) : P_X4_next_118 (fun T => Q T ∧ KH S0 T) v0 v1 v2 v3 v4 S := h (fun v0 v1 v2 v3 v4 S => KH S0 S → P_X4_next_118 (fun T => Q T ∧ KH S0 T) v0 v1 v2 v3 v4 S) (fun v0 v1 v2 v3 v4 S hB K => fd_X4_next_118 (khB_X4_next_118 hB K (fun _ _ _ _ _ _ hx K => hx K))) K
set_option maxRecDepth 20000 in
set_option maxHeartbeats 1000000 in
theorem kh_X4_next_114 {Q : HS → Prop} {v0 : Nat} {v1 : Int32} {v2 : Int32} {s0 : Int32} {S0 S : HS} (h : P_X4_next_114 Q v0 v1 v2 s0 S) (K : KH S0 S) : P_X4_next_114 (fun T => Q T ∧ KH S0 T) v0 v1 v2 s0 S := by
  delta P_X4_next_114 at h ⊢
  exact kh_X4_next_118 h K
set_option maxRecDepth 20000 in
set_option maxHeartbeats 1000000 in
theorem kh_X4_next_98 {Q : HS → Prop} {v0 : Nat} {v1 : Int32} {s0 : Int32} {S0 S : HS} (h : P_X4_next_98 Q v0 v1 s0 S) (K : KH S0 S) : P_X4_next_98 (fun T => Q T ∧ KH S0 T) v0 v1 s0 S := by
  delta P_X4_next_98 at h ⊢
  obtain ⟨c1, h⟩ := h
  refine ⟨c1, ?_⟩
  intro x3 e2
  have h := h x3 e2
  refine ⟨?_, ?_⟩
  · intro c4
    have h := h.1 c4
    exact kh_X4_next_114 h K
  · intro c5
    have h := h.2 c5
    exact kh_X4_next_114 h K
set_option maxRecDepth 20000 in
set_option maxHeartbeats 1000000 in
theorem kh_X4_next_83 {Q : HS → Prop} {v0 : Nat} {s0 : Int32} {S0 S : HS} (h : P_X4_next_83 Q v0 s0 S) (K : KH S0 S) : P_X4_next_83 (fun T => Q T ∧ KH S0 T) v0 s0 S := by
  delta P_X4_next_83 at h ⊢
  obtain ⟨c1, h⟩ := h
  refine ⟨c1, ?_⟩
  intro x3 e2
  have h := h x3 e2
  refine ⟨?_, ?_⟩
  · intro c4
    have h := h.1 c4
    exact kh_X4_next_98 h K
  · intro c5
    have h := h.2 c5
    exact kh_X4_next_98 h K
set_option maxRecDepth 20000 in
set_option maxHeartbeats 1000000 in
theorem kh_X4_next_78 {Q : HS → Prop} {v0 : Nat} {S0 S : HS} (h : P_X4_next_78 Q v0 S) (K : KH S0 S) : P_X4_next_78 (fun T => Q T ∧ KH S0 T) v0 S := by
  delta P_X4_next_78 at h ⊢
  exact kh_X4_next_83 h K
set_option maxRecDepth 20000 in
set_option maxHeartbeats 1000000 in
theorem kh_X4_next_37 {Q : HS → Prop} {v0 : Nat} {S0 S : HS} (h : P_X4_next_37 Q v0 S) (K : KH S0 S) : P_X4_next_37 (fun T => Q T ∧ KH S0 T) v0 S := by
  delta P_X4_next_37 at h ⊢
  obtain ⟨c1, h⟩ := h
  refine ⟨c1, ?_⟩
  intro x3 e2
  have h := h x3 e2
  intro x5 e4
  have h := h x5 e4
  have K := kh_I K e4
  intro x7 e6
  have h := h x7 e6
  refine cm_X4_sortAt (kh_X4_sortAt h) h (fun x8 x9 hp h g10 => ?_)
  have h := h g10
  have K := kh_tr K hp.2
  intro x12 e11
  have h := h x12 e11
  have K := kh_I K e11
  intro x14 e13
  have h := h x14 e13
  have K := kh_J K e13
  intro x16 e15
  have h := h x16 e15
  refine ⟨?_, ?_⟩
  · intro c17
    have h := h.1 c17
    exact kh_X4_next_78 h K
  · intro c18
    have h := h.2 c18
    intro x20 e19
    have h := h x20 e19
    refine ⟨?_, ?_⟩
    · intro c21
      have h := h.1 c21
      exact kh_X4_next_83 h K
    · intro c22
      have h := h.2 c22
      exact kh_X4_next_78 h K
set_option maxRecDepth 20000 in
set_option maxHeartbeats 1000000 in
theorem khB_X4_next_2 {Q : HS → Prop} {X2 X2_2 : Nat → Int32 → HS → Prop} {v0 : Nat} {v1 : Int32} {S0 S : HS} (h : B_X4_next_2 Q X2 v0 v1 S) (K : KH S0 S) (hX2 : ∀ (u0 : Nat) (u1 : Int32) (u2 : HS), X2 u0 u1 u2 → KH S0 u2 → X2_2 u0 u1 u2) : B_X4_next_2 (fun T => Q T ∧ KH S0 T) X2_2 v0 v1 S := by
  delta B_X4_next_2 at h ⊢
  refine ⟨?_, ?_⟩
  · intro c1
    have h := h.1 c1
    exact kh_X4_next_37 h K
  · intro c2
    have h := h.2 c2
    obtain ⟨c3, h⟩ := h
    refine ⟨c3, ?_⟩
    intro x5 e4
    have h := h x5 e4
    refine cm_X4_sortAt (kh_X4_sortAt h) h (fun x6 x7 hp h g8 => ?_)
    have h := h g8
    have K := kh_tr K hp.2
    refine ⟨?_, ?_⟩
    · intro c9
      have h := h.1 c9
      exact kh_X4_next_37 h K
    · intro c10
      have h := h.2 c10
      intro x12 e11
      have h := h x12 e11
      intro x14 e13
      have h := h x14 e13
      intro x16 e15
      have h := h x16 e15
      have K := kh_I K e15
      intro x18 e17
      have h := h x18 e17
      exact hX2 _ _ _ h K
theorem kh_X4_next_2 {Q : HS → Prop} {v0 : Nat} {v1 : Int32} {S0 S : HS} (h : P_X4_next_2 Q v0 v1 S) (K : KH S0 S) : P_X4_next_2 (fun T => Q T ∧ KH S0 T) v0 v1 S := h (fun v0 v1 S => KH S0 S → P_X4_next_2 (fun T => Q T ∧ KH S0 T) v0 v1 S) (fun v0 v1 S hB K => fd_X4_next_2 (khB_X4_next_2 hB K (fun _ _ _ hx K => hx K))) K
set_option maxRecDepth 20000 in
set_option maxHeartbeats 1000000 in
theorem kh_X4_next_0 {Q : HS → Prop} {v0 : Nat} {S0 S : HS} (h : P_X4_next_0 Q v0 S) (K : KH S0 S) : P_X4_next_0 (fun T => Q T ∧ KH S0 T) v0 S := by
  delta P_X4_next_0 at h ⊢
  exact kh_X4_next_2 h K
theorem kh_X4_next {Q : HS → Prop} {v0 : Nat} {S : HS} (h : P_X4_next v0 Q S) : P_X4_next v0 (fun T => Q T ∧ KH S T) S := kh_X4_next_0 h (kh_rf S)
set_option maxRecDepth 20000 in
set_option maxHeartbeats 1000000 in
theorem kh_X4_whole_34 {Q : Int32 → HS → Prop} {v0 : Nat} {S0 S : HS} (h : P_X4_whole_34 Q v0 S) (K : KH S0 S) : P_X4_whole_34 (fun r T => Q r T ∧ KH S0 T) v0 S := by
  delta P_X4_whole_34 at h ⊢
  obtain ⟨c1, h⟩ := h
  refine ⟨c1, ?_⟩
  refine cm_X4_fail (kh_X4_fail h) h (fun x2 x3 hp h g4 g5 => ?_)
  have h := h g4 g5
  have K := kh_tr K hp.2
  obtain ⟨c6, h⟩ := h
  refine ⟨c6, ?_⟩
  exact ⟨h, K⟩
set_option maxRecDepth 20000 in
set_option maxHeartbeats 1000000 in
theorem kh_X4_whole_0 {Q : Int32 → HS → Prop} {v0 : Nat} {v1 : Int32} {v2 : Int32} {S0 S : HS} (h : P_X4_whole_0 Q v0 v1 v2 S) (K : KH S0 S) : P_X4_whole_0 (fun r T => Q r T ∧ KH S0 T) v0 v1 v2 S := by
  delta P_X4_whole_0 at h ⊢
  obtain ⟨c1, h⟩ := h
  refine ⟨c1, ?_⟩
  intro x3 e2
  have h := h x3 e2
  refine ⟨?_, ?_⟩
  · intro c4
    have h := h.1 c4
    intro x6 e5
    have h := h x6 e5
    refine ⟨?_, ?_⟩
    · intro c7
      have h := h.1 c7
      exact kh_X4_whole_34 h K
    · intro c8
      have h := h.2 c8
      intro x10 e9
      have h := h x10 e9
      refine ⟨?_, ?_⟩
      · intro c11
        have h := h.1 c11
        intro x13 e12
        have h := h x13 e12
        intro x15 e14
        have h := h x15 e14
        intro x17 e16
        have h := h x17 e16
        have K := kh_I K e16
        refine cm_X4_next (kh_X4_next h) h (fun x18 hp h g19 => ?_)
        have h := h g19
        have K := kh_tr K hp.2
        exact ⟨h, K⟩
      · intro c20
        have h := h.2 c20
        exact kh_X4_whole_34 h K
  · intro c21
    have h := h.2 c21
    refine cm_X4_fail (kh_X4_fail h) h (fun x22 x23 hp h g24 g25 => ?_)
    have h := h g24 g25
    have K := kh_tr K hp.2
    obtain ⟨c26, h⟩ := h
    refine ⟨c26, ?_⟩
    exact ⟨h, K⟩
theorem kh_X4_whole {Q : Int32 → HS → Prop} {v0 : Nat} {v1 : Int32} {v2 : Int32} {S : HS} (h : P_X4_whole v0 v1 v2 Q S) : P_X4_whole v0 v1 v2 (fun r T => Q r T ∧ KH S T) S := kh_X4_whole_0 h (kh_rf S)
set_option maxRecDepth 20000 in
set_option maxHeartbeats 1000000 in
theorem khB_X4_is_15 {Q : Int32 → HS → Prop} {X15 X15_2 : Nat → Nat → Int64 → Int32 → HS → Prop} {v0 : Nat} {v1 : Nat} {v2 : Int64} {v4 : Int32} {S0 S : HS} (h : B_X4_is_15 Q X15 v0 v1 v2 v4 S) (K : KH S0 S) (hX15 : ∀ (u0 : Nat) (u1 : Nat) (u2 : Int64) (u3 : Int32) (u4 : HS), X15 u0 u1 u2 u3 u4 → KH S0 u4 → X15_2 u0 u1 u2 u3 u4) : B_X4_is_15 (fun r T => Q r T ∧ KH S0 T) X15_2 v0 v1 v2 v4 S := by
  delta B_X4_is_15 at h ⊢
  obtain ⟨c1, h⟩ := h
  refine ⟨c1, ?_⟩
  intro x3 e2
  have h := h x3 e2
  refine ⟨?_, ?_⟩
  · intro c4
    have h := h.1 c4
    obtain ⟨c5, h⟩ := h
    refine ⟨c5, ?_⟩
    intro x7 e6
    have h := h x7 e6
    refine ⟨?_, ?_⟩
    · intro c8
      have h := h.1 c8
      exact ⟨h, K⟩
    · intro c9
      have h := h.2 c9
      exact ⟨h, K⟩
  · intro c10
    have h := h.2 c10
    obtain ⟨c11, h⟩ := h
    refine ⟨c11, ?_⟩
    obtain ⟨c12, h⟩ := h
    refine ⟨c12, ?_⟩
    intro x14 e13
    have h := h x14 e13
    intro x16 e15
    have h := h x16 e15
    intro x18 e17
    have h := h x18 e17
    exact hX15 _ _ _ _ _ h K
theorem kh_X4_is_15 {Q : Int32 → HS → Prop} {v0 : Nat} {v1 : Nat} {v2 : Int64} {v4 : Int32} {S0 S : HS} (h : P_X4_is_15 Q v0 v1 v2 v4 S) (K : KH S0 S) : P_X4_is_15 (fun r T => Q r T ∧ KH S0 T) v0 v1 v2 v4 S := h (fun v0 v1 v2 v4 S => KH S0 S → P_X4_is_15 (fun r T => Q r T ∧ KH S0 T) v0 v1 v2 v4 S) (fun v0 v1 v2 v4 S hB K => fd_X4_is_15 (khB_X4_is_15 hB K (fun _ _ _ _ _ hx K => hx K))) K
set_option maxRecDepth 20000 in
set_option maxHeartbeats 1000000 in
theorem kh_X4_is_0 {Q : Int32 → HS → Prop} {v0 : Nat} {v1 : Nat} {S0 S : HS} (h : P_X4_is_0 Q v0 v1 S) (K : KH S0 S) : P_X4_is_0 (fun r T => Q r T ∧ KH S0 T) v0 v1 S := by
  delta P_X4_is_0 at h ⊢
  obtain ⟨c1, h⟩ := h
  refine ⟨c1, ?_⟩
  intro x3 e2
  have h := h x3 e2
  refine ⟨?_, ?_⟩
  · intro c4
    have h := h.1 c4
    exact kh_X4_is_15 h K
  · intro c5
    have h := h.2 c5
    exact ⟨h, K⟩
theorem kh_X4_is {Q : Int32 → HS → Prop} {v0 : Nat} {v1 : Nat} {S : HS} (h : P_X4_is v0 v1 Q S) : P_X4_is v0 v1 (fun r T => Q r T ∧ KH S T) S := kh_X4_is_0 h (kh_rf S)
set_option maxRecDepth 20000 in
set_option maxHeartbeats 1000000 in
theorem kh_X4_word_0 {Q : Int32 → HS → Prop} {v0 : Nat} {v1 : Nat} {S0 S : HS} (h : P_X4_word_0 Q v0 v1 S) (K : KH S0 S) : P_X4_word_0 (fun r T => Q r T ∧ KH S0 T) v0 v1 S := by
  delta P_X4_word_0 at h ⊢
  obtain ⟨c1, h⟩ := h
  refine ⟨c1, ?_⟩
  refine cm_X4_is (kh_X4_is h) h (fun x2 x3 hp h g4 g5 => ?_)
  have h := h g4 g5
  have K := kh_tr K hp.2
  refine ⟨?_, ?_⟩
  · intro c6
    have h := h.1 c6
    refine cm_X4_next (kh_X4_next h) h (fun x7 hp h g8 => ?_)
    have h := h g8
    have K := kh_tr K hp.2
    exact ⟨h, K⟩
  · intro c9
    have h := h.2 c9
    refine cm_X4_fail (kh_X4_fail h) h (fun x10 x11 hp h g12 g13 => ?_)
    have h := h g12 g13
    have K := kh_tr K hp.2
    obtain ⟨c14, h⟩ := h
    refine ⟨c14, ?_⟩
    exact ⟨h, K⟩
theorem kh_X4_word {Q : Int32 → HS → Prop} {v0 : Nat} {v1 : Nat} {S : HS} (h : P_X4_word v0 v1 Q S) : P_X4_word v0 v1 (fun r T => Q r T ∧ KH S T) S := kh_X4_word_0 h (kh_rf S)
set_option maxRecDepth 20000 in
set_option maxHeartbeats 1000000 in
theorem kh_X4_wordAndWhole_0 {Q : Int32 → HS → Prop} {v0 : Nat} {v1 : Nat} {v2 : Int32} {v3 : Int32} {S0 S : HS} (h : P_X4_wordAndWhole_0 Q v0 v1 v2 v3 S) (K : KH S0 S) : P_X4_wordAndWhole_0 (fun r T => Q r T ∧ KH S0 T) v0 v1 v2 v3 S := by
  delta P_X4_wordAndWhole_0 at h ⊢
  obtain ⟨c1, h⟩ := h
  refine ⟨c1, ?_⟩
  refine cm_X4_word (kh_X4_word h) h (fun x2 x3 hp h g4 g5 => ?_)
  have h := h g4 g5
  have K := kh_tr K hp.2
  refine ⟨?_, ?_⟩
  · intro c6
    have h := h.1 c6
    exact ⟨h, K⟩
  · intro c7
    have h := h.2 c7
    refine cm_X4_whole (kh_X4_whole h) h (fun x8 x9 hp h g10 g11 => ?_)
    have h := h g10 g11
    have K := kh_tr K hp.2
    refine ⟨?_, ?_⟩
    · intro c12
      have h := h.1 c12
      exact ⟨h, K⟩
    · intro c13
      have h := h.2 c13
      exact ⟨h, K⟩
theorem kh_X4_wordAndWhole {Q : Int32 → HS → Prop} {v0 : Nat} {v1 : Nat} {v2 : Int32} {v3 : Int32} {S : HS} (h : P_X4_wordAndWhole v0 v1 v2 v3 Q S) : P_X4_wordAndWhole v0 v1 v2 v3 (fun r T => Q r T ∧ KH S T) S := kh_X4_wordAndWhole_0 h (kh_rf S)
set_option maxRecDepth 20000 in
set_option maxHeartbeats 1000000 in
theorem kh_X6_shape_16 {Q : HS → Prop} {v0 : Nat} {v1 : Int32} {v2 : Int32} {v3 : Int32} {s0 : Int32} {S0 S : HS} (h : P_X6_shape_16 Q v0 v1 v2 v3 s0 S) (K : KH S0 S) : P_X6_shape_16 (fun T => Q T ∧ KH S0 T) v0 v1 v2 v3 s0 S := by
  delta P_X6_shape_16 at h ⊢
  obtain ⟨c1, h⟩ := h
  refine ⟨c1, ?_⟩
  intro x3 e2
  have h := h x3 e2
  intro x5 e4
  have h := h x5 e4
  have K := kh_I K e4
  intro x7 e6
  have h := h x7 e6
  intro x9 e8
  have h := h x9 e8
  have K := kh_I K e8
  intro x11 e10
  have h := h x11 e10
  intro x13 e12
  have h := h x13 e12
  have K := kh_I K e12
  exact ⟨h, K⟩
set_option maxRecDepth 20000 in
set_option maxHeartbeats 1000000 in
theorem kh_X6_shape_0 {Q : HS → Prop} {v0 : Nat} {v1 : Int32} {v2 : Int32} {v3 : Int32} {S0 S : HS} (h : P_X6_shape_0 Q v0 v1 v2 v3 S) (K : KH S0 S) : P_X6_shape_0 (fun T => Q T ∧ KH S0 T) v0 v1 v2 v3 S := by
  delta P_X6_shape_0 at h ⊢
  obtain ⟨c1, h⟩ := h
  refine ⟨c1, ?_⟩
  intro x3 e2
  have h := h x3 e2
  refine ⟨?_, ?_⟩
  · intro c4
    have h := h.1 c4
    exact kh_X6_shape_16 h K
  · intro c5
    have h := h.2 c5
    intro x7 e6
    have h := h x7 e6
    exact kh_X6_shape_16 h K
theorem kh_X6_shape {Q : HS → Prop} {v0 : Nat} {v1 : Int32} {v2 : Int32} {v3 : Int32} {S : HS} (h : P_X6_shape v0 v1 v2 v3 Q S) : P_X6_shape v0 v1 v2 v3 (fun T => Q T ∧ KH S T) S := kh_X6_shape_0 h (kh_rf S)
set_option maxRecDepth 20000 in
set_option maxHeartbeats 1000000 in
theorem kh_X4_bodyOf_58 {Q : Int32 → HS → Prop} {v0 : Nat} {v1 : Nat} {v2 : Int32} {v3 : Int32} {s0 : Int32} {S0 S : HS} (h : P_X4_bodyOf_58 Q v0 v1 v2 v3 s0 S) (K : KH S0 S) : P_X4_bodyOf_58 (fun r T => Q r T ∧ KH S0 T) v0 v1 v2 v3 s0 S := by
  delta P_X4_bodyOf_58 at h ⊢
  obtain ⟨c1, h⟩ := h
  refine ⟨c1, ?_⟩
  refine cm_X4_wordAndWhole (kh_X4_wordAndWhole h) h (fun x2 x3 hp h g4 g5 => ?_)
  have h := h g4 g5
  have K := kh_tr K hp.2
  refine ⟨?_, ?_⟩
  · intro c6
    have h := h.1 c6
    intro x8 e7
    have h := h x8 e7
    obtain ⟨c9, h⟩ := h
    refine ⟨c9, ?_⟩
    refine cm_X6_shape (kh_X6_shape h) h (fun x10 hp h g11 => ?_)
    have h := h g11
    have K := kh_tr K hp.2
    exact ⟨h, K⟩
  · intro c12
    have h := h.2 c12
    exact ⟨h, K⟩
set_option maxRecDepth 20000 in
set_option maxHeartbeats 1000000 in
theorem kh_X4_bodyOf_0 {Q : Int32 → HS → Prop} {v0 : Nat} {v1 : Nat} {S0 S : HS} (h : P_X4_bodyOf_0 Q v0 v1 S) (K : KH S0 S) : P_X4_bodyOf_0 (fun r T => Q r T ∧ KH S0 T) v0 v1 S := by
  delta P_X4_bodyOf_0 at h ⊢
  obtain ⟨c1, h⟩ := h
  refine ⟨c1, ?_⟩
  refine cm_X4_wordAndWhole (kh_X4_wordAndWhole h) h (fun x2 x3 hp h g4 g5 => ?_)
  have h := h g4 g5
  have K := kh_tr K hp.2
  refine ⟨?_, ?_⟩
  · intro c6
    have h := h.1 c6
    intro x8 e7
    have h := h x8 e7
    refine cm_X4_wordAndWhole (kh_X4_wordAndWhole h) h (fun x9 x10 hp h g11 g12 => ?_)
    have h := h g11 g12
    have K := kh_tr K hp.2
    refine ⟨?_, ?_⟩
    · intro c13
      have h := h.1 c13
      intro x15 e14
      have h := h x15 e14
      obtain ⟨c16, h⟩ := h
      refine ⟨c16, ?_⟩
      intro x18 e17
      have h := h x18 e17
      refine ⟨?_, ?_⟩
      · intro c19
        have h := h.1 c19
        exact kh_X4_bodyOf_58 h K
      · intro c20
        have h := h.2 c20
        intro x22 e21
        have h := h x22 e21
        exact kh_X4_bodyOf_58 h K
    · intro c23
      have h := h.2 c23
      exact ⟨h, K⟩
  · intro c24
    have h := h.2 c24
    exact ⟨h, K⟩
theorem kh_X4_bodyOf {Q : Int32 → HS → Prop} {v0 : Nat} {v1 : Nat} {S : HS} (h : P_X4_bodyOf v0 v1 Q S) : P_X4_bodyOf v0 v1 (fun r T => Q r T ∧ KH S T) S := kh_X4_bodyOf_0 h (kh_rf S)
set_option maxRecDepth 20000 in
set_option maxHeartbeats 1000000 in
theorem kh_X4_canBeName_86 {Q : Int32 → HS → Prop} {v0 : Nat} {s0 : Int32} {S0 S : HS} (h : P_X4_canBeName_86 Q v0 s0 S) (K : KH S0 S) : P_X4_canBeName_86 (fun r T => Q r T ∧ KH S0 T) v0 s0 S := by
  delta P_X4_canBeName_86 at h ⊢
  obtain ⟨c1, h⟩ := h
  refine ⟨c1, ?_⟩
  intro x3 e2
  have h := h x3 e2
  refine ⟨?_, ?_⟩
  · intro c4
    have h := h.1 c4
    exact ⟨h, K⟩
  · intro c5
    have h := h.2 c5
    refine ⟨?_, ?_⟩
    · intro c6
      have h := h.1 c6
      exact ⟨h, K⟩
    · intro c7
      have h := h.2 c7
      exact ⟨h, K⟩
set_option maxRecDepth 20000 in
set_option maxHeartbeats 1000000 in
theorem kh_X4_canBeName_81 {Q : Int32 → HS → Prop} {v0 : Nat} {S0 S : HS} (h : P_X4_canBeName_81 Q v0 S) (K : KH S0 S) : P_X4_canBeName_81 (fun r T => Q r T ∧ KH S0 T) v0 S := by
  delta P_X4_canBeName_81 at h ⊢
  exact kh_X4_canBeName_86 h K
set_option maxRecDepth 20000 in
set_option maxHeartbeats 1000000 in
theorem kh_X4_canBeName_0 {Q : Int32 → HS → Prop} {v0 : Nat} {S0 S : HS} (h : P_X4_canBeName_0 Q v0 S) (K : KH S0 S) : P_X4_canBeName_0 (fun r T => Q r T ∧ KH S0 T) v0 S := by
  delta P_X4_canBeName_0 at h ⊢
  obtain ⟨c1, h⟩ := h
  refine ⟨c1, ?_⟩
  refine cm_X4_is (kh_X4_is h) h (fun x2 x3 hp h g4 g5 => ?_)
  have h := h g4 g5
  have K := kh_tr K hp.2
  refine ⟨?_, ?_⟩
  · intro c6
    have h := h.1 c6
    exact kh_X4_canBeName_81 h K
  · intro c7
    have h := h.2 c7
    refine cm_X4_is (kh_X4_is h) h (fun x8 x9 hp h g10 g11 => ?_)
    have h := h g10 g11
    have K := kh_tr K hp.2
    refine ⟨?_, ?_⟩
    · intro c12
      have h := h.1 c12
      exact kh_X4_canBeName_81 h K
    · intro c13
      have h := h.2 c13
      refine cm_X4_is (kh_X4_is h) h (fun x14 x15 hp h g16 g17 => ?_)
      have h := h g16 g17
      have K := kh_tr K hp.2
      refine ⟨?_, ?_⟩
      · intro c18
        have h := h.1 c18
        exact kh_X4_canBeName_81 h K
      · intro c19
        have h := h.2 c19
        refine cm_X4_is (kh_X4_is h) h (fun x20 x21 hp h g22 g23 => ?_)
        have h := h g22 g23
        have K := kh_tr K hp.2
        refine ⟨?_, ?_⟩
        · intro c24
          have h := h.1 c24
          exact kh_X4_canBeName_81 h K
        · intro c25
          have h := h.2 c25
          refine cm_X4_is (kh_X4_is h) h (fun x26 x27 hp h g28 g29 => ?_)
          have h := h g28 g29
          have K := kh_tr K hp.2
          refine ⟨?_, ?_⟩
          · intro c30
            have h := h.1 c30
            exact kh_X4_canBeName_81 h K
          · intro c31
            have h := h.2 c31
            refine cm_X4_is (kh_X4_is h) h (fun x32 x33 hp h g34 g35 => ?_)
            have h := h g34 g35
            have K := kh_tr K hp.2
            refine ⟨?_, ?_⟩
            · intro c36
              have h := h.1 c36
              exact kh_X4_canBeName_81 h K
            · intro c37
              have h := h.2 c37
              refine cm_X4_is (kh_X4_is h) h (fun x38 x39 hp h g40 g41 => ?_)
              have h := h g40 g41
              have K := kh_tr K hp.2
              refine ⟨?_, ?_⟩
              · intro c42
                have h := h.1 c42
                exact kh_X4_canBeName_81 h K
              · intro c43
                have h := h.2 c43
                refine cm_X4_is (kh_X4_is h) h (fun x44 x45 hp h g46 g47 => ?_)
                have h := h g46 g47
                have K := kh_tr K hp.2
                refine ⟨?_, ?_⟩
                · intro c48
                  have h := h.1 c48
                  exact kh_X4_canBeName_81 h K
                · intro c49
                  have h := h.2 c49
                  refine cm_X4_is (kh_X4_is h) h (fun x50 x51 hp h g52 g53 => ?_)
                  have h := h g52 g53
                  have K := kh_tr K hp.2
                  refine ⟨?_, ?_⟩
                  · intro c54
                    have h := h.1 c54
                    exact kh_X4_canBeName_86 h K
                  · intro c55
                    have h := h.2 c55
                    exact kh_X4_canBeName_81 h K
theorem kh_X4_canBeName {Q : Int32 → HS → Prop} {v0 : Nat} {S : HS} (h : P_X4_canBeName v0 Q S) : P_X4_canBeName v0 (fun r T => Q r T ∧ KH S T) S := kh_X4_canBeName_0 h (kh_rf S)
set_option maxRecDepth 20000 in
set_option maxHeartbeats 1000000 in
theorem kh_X4_exchange_0 {Q : Nat → HS → Prop} {v0 : Nat} {v1 : Nat} {S0 S : HS} (h : P_X4_exchange_0 Q v0 v1 S) (K : KH S0 S) : P_X4_exchange_0 (fun r T => Q r T ∧ KH S0 T) v0 v1 S := by
  delta P_X4_exchange_0 at h ⊢
  obtain ⟨c1, h⟩ := h
  refine ⟨c1, ?_⟩
  obtain ⟨b2, e3, h⟩ := h
  refine ⟨b2, e3, ?_⟩
  intro x5 e4
  have h := h x5 e4
  have K := kh_R K e4
  exact ⟨h, K⟩
theorem kh_X4_exchange {Q : Nat → HS → Prop} {v0 : Nat} {v1 : Nat} {S : HS} (h : P_X4_exchange v0 v1 Q S) : P_X4_exchange v0 v1 (fun r T => Q r T ∧ KH S T) S := kh_X4_exchange_0 h (kh_rf S)
set_option maxRecDepth 20000 in
set_option maxHeartbeats 1000000 in
theorem khB_X4_findName_2 {Q : Int32 → HS → Prop} {X2 X2_2 : Nat → Int32 → HS → Prop} {v0 : Nat} {v1 : Int32} {S0 S : HS} (h : B_X4_findName_2 Q X2 v0 v1 S) (K : KH S0 S) (hX2 : ∀ (u0 : Nat) (u1 : Int32) (u2 : HS), X2 u0 u1 u2 → KH S0 u2 → X2_2 u0 u1 u2) : B_X4_findName_2 (fun r T => Q r T ∧ KH S0 T) X2_2 v0 v1 S := by
  delta B_X4_findName_2 at h ⊢
  obtain ⟨c1, h⟩ := h
  refine ⟨c1, ?_⟩
  intro x3 e2
  have h := h x3 e2
  refine ⟨?_, ?_⟩
  · intro c4
    have h := h.1 c4
    exact ⟨h, K⟩
  · intro c5
    have h := h.2 c5
    refine ⟨?_, ?_⟩
    · intro c6
      have h := h.1 c6
      exact ⟨h, K⟩
    · intro c7
      have h := h.2 c7
      obtain ⟨b8, e9, h⟩ := h
      refine ⟨b8, e9, ?_⟩
      obtain ⟨c10, h⟩ := h
      refine ⟨c10, ?_⟩
      obtain ⟨c11, h⟩ := h
      refine ⟨c11, ?_⟩
      intro x13 e12
      have h := h x13 e12
      intro x15 e14
      have h := h x15 e14
      refine ⟨?_, ?_⟩
      · intro c16
        have h := h.1 c16
        intro x18 e17
        have h := h x18 e17
        exact hX2 _ _ _ h K
      · intro c19
        have h := h.2 c19
        obtain ⟨b20, e21, h⟩ := h
        refine ⟨b20, e21, ?_⟩
        obtain ⟨c22, h⟩ := h
        refine ⟨c22, ?_⟩
        obtain ⟨c23, h⟩ := h
        refine ⟨c23, ?_⟩
        intro x25 e24
        have h := h x25 e24
        exact ⟨h, K⟩
theorem kh_X4_findName_2 {Q : Int32 → HS → Prop} {v0 : Nat} {v1 : Int32} {S0 S : HS} (h : P_X4_findName_2 Q v0 v1 S) (K : KH S0 S) : P_X4_findName_2 (fun r T => Q r T ∧ KH S0 T) v0 v1 S := h (fun v0 v1 S => KH S0 S → P_X4_findName_2 (fun r T => Q r T ∧ KH S0 T) v0 v1 S) (fun v0 v1 S hB K => fd_X4_findName_2 (khB_X4_findName_2 hB K (fun _ _ _ hx K => hx K))) K
set_option maxRecDepth 20000 in
set_option maxHeartbeats 1000000 in
theorem kh_X4_findName_0 {Q : Int32 → HS → Prop} {v0 : Nat} {S0 S : HS} (h : P_X4_findName_0 Q v0 S) (K : KH S0 S) : P_X4_findName_0 (fun r T => Q r T ∧ KH S0 T) v0 S := by
  delta P_X4_findName_0 at h ⊢
  exact kh_X4_findName_2 h K
theorem kh_X4_findName {Q : Int32 → HS → Prop} {v0 : Nat} {S : HS} (h : P_X4_findName v0 Q S) : P_X4_findName v0 (fun r T => Q r T ∧ KH S T) S := kh_X4_findName_0 h (kh_rf S)
set_option maxRecDepth 20000 in
set_option maxHeartbeats 1000000 in
theorem kh_X8_isTold_0 {Q : Int32 → HS → Prop} {v0 : Nat} {S0 S : HS} (h : P_X8_isTold_0 Q v0 S) (K : KH S0 S) : P_X8_isTold_0 (fun r T => Q r T ∧ KH S0 T) v0 S := by
  delta P_X8_isTold_0 at h ⊢
  obtain ⟨c1, h⟩ := h
  refine ⟨c1, ?_⟩
  intro x3 e2
  have h := h x3 e2
  refine ⟨?_, ?_⟩
  · intro c4
    have h := h.1 c4
    exact ⟨h, K⟩
  · intro c5
    have h := h.2 c5
    exact ⟨h, K⟩
theorem kh_X8_isTold {Q : Int32 → HS → Prop} {v0 : Nat} {S : HS} (h : P_X8_isTold v0 Q S) : P_X8_isTold v0 (fun r T => Q r T ∧ KH S T) S := kh_X8_isTold_0 h (kh_rf S)
set_option maxRecDepth 20000 in
set_option maxHeartbeats 1000000 in
theorem kh_X4_hasRoom_0 {Q : Int32 → HS → Prop} {v0 : Nat} {v1 : Int32} {v2 : Int32} {S0 S : HS} (h : P_X4_hasRoom_0 Q v0 v1 v2 S) (K : KH S0 S) : P_X4_hasRoom_0 (fun r T => Q r T ∧ KH S0 T) v0 v1 v2 S := by
  delta P_X4_hasRoom_0 at h ⊢
  obtain ⟨c1, h⟩ := h
  refine ⟨c1, ?_⟩
  obtain ⟨b2, e3, h⟩ := h
  refine ⟨b2, e3, ?_⟩
  obtain ⟨c4, h⟩ := h
  refine ⟨c4, ?_⟩
  refine cm_X8_isTold (kh_X8_isTold h) h (fun x5 x6 hp h g7 g8 => ?_)
  have h := h g7 g8
  have K := kh_tr K hp.2
  refine ⟨?_, ?_⟩
  · intro c9
    have h := h.1 c9
    refine ⟨?_, ?_⟩
    · intro c10
      have h := h.1 c10
      refine cm_X4_next (kh_X4_next h) h (fun x11 hp h g12 => ?_)
      have h := h g12
      have K := kh_tr K hp.2
      exact ⟨h, K⟩
    · intro c13
      have h := h.2 c13
      refine cm_X4_fail (kh_X4_fail h) h (fun x14 x15 hp h g16 g17 => ?_)
      have h := h g16 g17
      have K := kh_tr K hp.2
      obtain ⟨c18, h⟩ := h
      refine ⟨c18, ?_⟩
      exact ⟨h, K⟩
  · intro c19
    have h := h.2 c19
    refine cm_X4_fail (kh_X4_fail h) h (fun x20 x21 hp h g22 g23 => ?_)
    have h := h g22 g23
    have K := kh_tr K hp.2
    obtain ⟨c24, h⟩ := h
    refine ⟨c24, ?_⟩
    exact ⟨h, K⟩
theorem kh_X4_hasRoom {Q : Int32 → HS → Prop} {v0 : Nat} {v1 : Int32} {v2 : Int32} {S : HS} (h : P_X4_hasRoom v0 v1 v2 Q S) : P_X4_hasRoom v0 v1 v2 (fun r T => Q r T ∧ KH S T) S := kh_X4_hasRoom_0 h (kh_rf S)
set_option maxRecDepth 20000 in
set_option maxHeartbeats 1000000 in
theorem kh_X4_kindOf_0 {Q : Int32 → HS → Prop} {v0 : Nat} {v1 : Nat} {S0 S : HS} (h : P_X4_kindOf_0 Q v0 v1 S) (K : KH S0 S) : P_X4_kindOf_0 (fun r T => Q r T ∧ KH S0 T) v0 v1 S := by
  delta P_X4_kindOf_0 at h ⊢
  obtain ⟨c1, h⟩ := h
  refine ⟨c1, ?_⟩
  intro x3 e2
  have h := h x3 e2
  have K := kh_I K e2
  refine cm_X4_is (kh_X4_is h) h (fun x4 x5 hp h g6 g7 => ?_)
  have h := h g6 g7
  have K := kh_tr K hp.2
  refine ⟨?_, ?_⟩
  · intro c8
    have h := h.1 c8
    refine cm_X4_is (kh_X4_is h) h (fun x9 x10 hp h g11 g12 => ?_)
    have h := h g11 g12
    have K := kh_tr K hp.2
    refine ⟨?_, ?_⟩
    · intro c13
      have h := h.1 c13
      refine cm_X4_is (kh_X4_is h) h (fun x14 x15 hp h g16 g17 => ?_)
      have h := h g16 g17
      have K := kh_tr K hp.2
      refine ⟨?_, ?_⟩
      · intro c18
        have h := h.1 c18
        obtain ⟨c19, h⟩ := h
        refine ⟨c19, ?_⟩
        intro x21 e20
        have h := h x21 e20
        have K := kh_I K e20
        refine cm_X4_word (kh_X4_word h) h (fun x22 x23 hp h g24 g25 => ?_)
        have h := h g24 g25
        have K := kh_tr K hp.2
        intro x27 e26
        have h := h x27 e26
        intro x29 e28
        have h := h x29 e28
        have K := kh_I K e28
        obtain ⟨c30, h⟩ := h
        refine ⟨c30, ?_⟩
        exact ⟨h, K⟩
      · intro c31
        have h := h.2 c31
        obtain ⟨c32, h⟩ := h
        refine ⟨c32, ?_⟩
        intro x34 e33
        have h := h x34 e33
        have K := kh_I K e33
        refine cm_X4_wordAndWhole (kh_X4_wordAndWhole h) h (fun x35 x36 hp h g37 g38 => ?_)
        have h := h g37 g38
        have K := kh_tr K hp.2
        intro x40 e39
        have h := h x40 e39
        intro x42 e41
        have h := h x42 e41
        have K := kh_I K e41
        obtain ⟨c43, h⟩ := h
        refine ⟨c43, ?_⟩
        exact ⟨h, K⟩
    · intro c44
      have h := h.2 c44
      obtain ⟨c45, h⟩ := h
      refine ⟨c45, ?_⟩
      intro x47 e46
      have h := h x47 e46
      have K := kh_I K e46
      refine cm_X4_wordAndWhole (kh_X4_wordAndWhole h) h (fun x48 x49 hp h g50 g51 => ?_)
      have h := h g50 g51
      have K := kh_tr K hp.2
      intro x53 e52
      have h := h x53 e52
      intro x55 e54
      have h := h x55 e54
      have K := kh_I K e54
      obtain ⟨c56, h⟩ := h
      refine ⟨c56, ?_⟩
      exact ⟨h, K⟩
  · intro c57
    have h := h.2 c57
    obtain ⟨c58, h⟩ := h
    refine ⟨c58, ?_⟩
    intro x60 e59
    have h := h x60 e59
    have K := kh_I K e59
    refine cm_X4_wordAndWhole (kh_X4_wordAndWhole h) h (fun x61 x62 hp h g63 g64 => ?_)
    have h := h g63 g64
    have K := kh_tr K hp.2
    intro x66 e65
    have h := h x66 e65
    intro x68 e67
    have h := h x68 e67
    have K := kh_I K e67
    obtain ⟨c69, h⟩ := h
    refine ⟨c69, ?_⟩
    exact ⟨h, K⟩
theorem kh_X4_kindOf {Q : Int32 → HS → Prop} {v0 : Nat} {v1 : Nat} {S : HS} (h : P_X4_kindOf v0 v1 Q S) : P_X4_kindOf v0 v1 (fun r T => Q r T ∧ KH S T) S := kh_X4_kindOf_0 h (kh_rf S)
set_option maxRecDepth 20000 in
set_option maxHeartbeats 1000000 in
theorem kh_X4_newName_69 {Q : Int32 → HS → Prop} {v0 : Nat} {S0 S : HS} (h : P_X4_newName_69 Q v0 S) (K : KH S0 S) : P_X4_newName_69 (fun r T => Q r T ∧ KH S0 T) v0 S := by
  delta P_X4_newName_69 at h ⊢
  obtain ⟨c1, h⟩ := h
  refine ⟨c1, ?_⟩
  refine cm_X4_next (kh_X4_next h) h (fun x2 hp h g3 => ?_)
  have h := h g3
  have K := kh_tr K hp.2
  exact ⟨h, K⟩
set_option maxRecDepth 20000 in
set_option maxHeartbeats 1000000 in
theorem kh_X4_newName_0 {Q : Int32 → HS → Prop} {v0 : Nat} {v1 : Int32} {S0 S : HS} (h : P_X4_newName_0 Q v0 v1 S) (K : KH S0 S) : P_X4_newName_0 (fun r T => Q r T ∧ KH S0 T) v0 v1 S := by
  delta P_X4_newName_0 at h ⊢
  obtain ⟨c1, h⟩ := h
  refine ⟨c1, ?_⟩
  refine cm_X4_canBeName (kh_X4_canBeName h) h (fun x2 x3 hp h g4 g5 => ?_)
  have h := h g4 g5
  have K := kh_tr K hp.2
  refine ⟨?_, ?_⟩
  · intro c6
    have h := h.1 c6
    refine cm_X4_findName (kh_X4_findName h) h (fun x7 x8 hp h g9 => ?_)
    have h := h g9
    have K := kh_tr K hp.2
    refine ⟨?_, ?_⟩
    · intro c10
      have h := h.1 c10
      intro x12 e11
      have h := h x12 e11
      refine ⟨?_, ?_⟩
      · intro c13
        have h := h.1 c13
        exact kh_X4_newName_69 h K
      · intro c14
        have h := h.2 c14
        obtain ⟨b15, e16, h⟩ := h
        refine ⟨b15, e16, ?_⟩
        intro x18 e17
        have h := h x18 e17
        intro x20 e19
        have h := h x20 e19
        obtain ⟨c21, h⟩ := h
        refine ⟨c21, ?_⟩
        obtain ⟨c22, h⟩ := h
        refine ⟨c22, ?_⟩
        intro x24 e23
        have h := h x24 e23
        have K := kh_J K e23
        obtain ⟨b25, e26, h⟩ := h
        refine ⟨b25, e26, ?_⟩
        intro x28 e27
        have h := h x28 e27
        obtain ⟨c29, h⟩ := h
        refine ⟨c29, ?_⟩
        obtain ⟨c30, h⟩ := h
        refine ⟨c30, ?_⟩
        intro x32 e31
        have h := h x32 e31
        have K := kh_I K e31
        intro x34 e33
        have h := h x34 e33
        intro x36 e35
        have h := h x36 e35
        intro x38 e37
        have h := h x38 e37
        have K := kh_I K e37
        exact kh_X4_newName_69 h K
    · intro c39
      have h := h.2 c39
      refine cm_X4_fail (kh_X4_fail h) h (fun x40 x41 hp h g42 g43 => ?_)
      have h := h g42 g43
      have K := kh_tr K hp.2
      obtain ⟨c44, h⟩ := h
      refine ⟨c44, ?_⟩
      exact ⟨h, K⟩
  · intro c45
    have h := h.2 c45
    refine cm_X4_fail (kh_X4_fail h) h (fun x46 x47 hp h g48 g49 => ?_)
    have h := h g48 g49
    have K := kh_tr K hp.2
    obtain ⟨c50, h⟩ := h
    refine ⟨c50, ?_⟩
    exact ⟨h, K⟩
theorem kh_X4_newName {Q : Int32 → HS → Prop} {v0 : Nat} {v1 : Int32} {S : HS} (h : P_X4_newName v0 v1 Q S) : P_X4_newName v0 v1 (fun r T => Q r T ∧ KH S T) S := kh_X4_newName_0 h (kh_rf S)
set_option maxRecDepth 20000 in
set_option maxHeartbeats 1000000 in
theorem kh_X8_clear_0 {Q : HS → Prop} {v0 : Nat} {S0 S : HS} (h : P_X8_clear_0 Q v0 S) (K : KH S0 S) : P_X8_clear_0 (fun T => Q T ∧ KH S0 T) v0 S := by
  delta P_X8_clear_0 at h ⊢
  obtain ⟨c1, h⟩ := h
  refine ⟨c1, ?_⟩
  intro x3 e2
  have h := h x3 e2
  have K := kh_I K e2
  intro x5 e4
  have h := h x5 e4
  have K := kh_I K e4
  intro x7 e6
  have h := h x7 e6
  have K := kh_I K e6
  intro x9 e8
  have h := h x9 e8
  have K := kh_I K e8
  intro x11 e10
  have h := h x11 e10
  have K := kh_I K e10
  intro x13 e12
  have h := h x13 e12
  have K := kh_I K e12
  exact ⟨h, K⟩
theorem kh_X8_clear {Q : HS → Prop} {v0 : Nat} {S : HS} (h : P_X8_clear v0 Q S) : P_X8_clear v0 (fun T => Q T ∧ KH S T) S := kh_X8_clear_0 h (kh_rf S)
set_option maxRecDepth 20000 in
set_option maxHeartbeats 1000000 in
theorem kh_X4_open_0 {Q : HS → Prop} {v0 : Nat} {v1 : Nat} {v2 : Int32} {S0 S : HS} (h : P_X4_open_0 Q v0 v1 v2 S) (K : KH S0 S) : P_X4_open_0 (fun T => Q T ∧ KH S0 T) v0 v1 v2 S := by
  delta P_X4_open_0 at h ⊢
  obtain ⟨c1, h⟩ := h
  refine ⟨c1, ?_⟩
  intro x3 e2
  have h := h x3 e2
  have K := kh_R K e2
  obtain ⟨c4, h⟩ := h
  refine ⟨c4, ?_⟩
  intro x6 e5
  have h := h x6 e5
  intro x8 e7
  have h := h x8 e7
  have K := kh_I K e7
  intro x10 e9
  have h := h x10 e9
  have K := kh_I K e9
  intro x12 e11
  have h := h x12 e11
  have K := kh_I K e11
  intro x14 e13
  have h := h x14 e13
  have K := kh_I K e13
  intro x16 e15
  have h := h x16 e15
  have K := kh_I K e15
  obtain ⟨b17, e18, h⟩ := h
  refine ⟨b17, e18, ?_⟩
  obtain ⟨c19, h⟩ := h
  refine ⟨c19, ?_⟩
  refine cm_X8_clear (kh_X8_clear h) h (fun x20 hp h g21 => ?_)
  have h := h g21
  have K := kh_tr K hp.2
  refine cm_X4_next (kh_X4_next h) h (fun x22 hp h g23 => ?_)
  have h := h g23
  have K := kh_tr K hp.2
  exact ⟨h, K⟩
theorem kh_X4_open {Q : HS → Prop} {v0 : Nat} {v1 : Nat} {v2 : Int32} {S : HS} (h : P_X4_open v0 v1 v2 Q S) : P_X4_open v0 v1 v2 (fun T => Q T ∧ KH S T) S := kh_X4_open_0 h (kh_rf S)
set_option maxRecDepth 20000 in
set_option maxHeartbeats 1000000 in
theorem kh_X4_placeBut_29 {Q : Int32 → HS → Prop} {v0 : Nat} {S0 S : HS} (h : P_X4_placeBut_29 Q v0 S) (K : KH S0 S) : P_X4_placeBut_29 (fun r T => Q r T ∧ KH S0 T) v0 S := by
  delta P_X4_placeBut_29 at h ⊢
  obtain ⟨c1, h⟩ := h
  refine ⟨c1, ?_⟩
  refine cm_X4_fail (kh_X4_fail h) h (fun x2 x3 hp h g4 g5 => ?_)
  have h := h g4 g5
  have K := kh_tr K hp.2
  obtain ⟨c6, h⟩ := h
  refine ⟨c6, ?_⟩
  exact ⟨h, K⟩
set_option maxRecDepth 20000 in
set_option maxHeartbeats 1000000 in
theorem kh_X4_placeBut_0 {Q : Int32 → HS → Prop} {v0 : Nat} {v1 : Int32} {S0 S : HS} (h : P_X4_placeBut_0 Q v0 v1 S) (K : KH S0 S) : P_X4_placeBut_0 (fun r T => Q r T ∧ KH S0 T) v0 v1 S := by
  delta P_X4_placeBut_0 at h ⊢
  obtain ⟨c1, h⟩ := h
  refine ⟨c1, ?_⟩
  refine cm_X4_canBeName (kh_X4_canBeName h) h (fun x2 x3 hp h g4 g5 => ?_)
  have h := h g4 g5
  have K := kh_tr K hp.2
  refine ⟨?_, ?_⟩
  · intro c6
    have h := h.1 c6
    refine cm_X4_findName (kh_X4_findName h) h (fun x7 x8 hp h g9 => ?_)
    have h := h g9
    have K := kh_tr K hp.2
    refine ⟨?_, ?_⟩
    · intro c10
      have h := h.1 c10
      exact kh_X4_placeBut_29 h K
    · intro c11
      have h := h.2 c11
      refine ⟨?_, ?_⟩
      · intro c12
        have h := h.1 c12
        refine ⟨?_, ?_⟩
        · intro c13
          have h := h.1 c13
          intro x15 e14
          have h := h x15 e14
          have K := kh_I K e14
          refine cm_X4_next (kh_X4_next h) h (fun x16 hp h g17 => ?_)
          have h := h g17
          have K := kh_tr K hp.2
          exact ⟨h, K⟩
        · intro c18
          have h := h.2 c18
          refine cm_X4_fail (kh_X4_fail h) h (fun x19 x20 hp h g21 g22 => ?_)
          have h := h g21 g22
          have K := kh_tr K hp.2
          obtain ⟨c23, h⟩ := h
          refine ⟨c23, ?_⟩
          exact ⟨h, K⟩
      · intro c24
        have h := h.2 c24
        exact kh_X4_placeBut_29 h K
  · intro c25
    have h := h.2 c25
    refine cm_X4_fail (kh_X4_fail h) h (fun x26 x27 hp h g28 g29 => ?_)
    have h := h g28 g29
    have K := kh_tr K hp.2
    obtain ⟨c30, h⟩ := h
    refine ⟨c30, ?_⟩
    exact ⟨h, K⟩
theorem kh_X4_placeBut {Q : Int32 → HS → Prop} {v0 : Nat} {v1 : Int32} {S : HS} (h : P_X4_placeBut v0 v1 Q S) : P_X4_placeBut v0 v1 (fun r T => Q r T ∧ KH S T) S := kh_X4_placeBut_0 h (kh_rf S)
set_option maxRecDepth 20000 in
set_option maxHeartbeats 1000000 in
theorem kh_X4_placeLine_64 {Q : Int32 → HS → Prop} {v0 : Nat} {v1 : Int32} {S0 S : HS} (h : P_X4_placeLine_64 Q v0 v1 S) (K : KH S0 S) : P_X4_placeLine_64 (fun r T => Q r T ∧ KH S0 T) v0 v1 S := by
  delta P_X4_placeLine_64 at h ⊢
  obtain ⟨c1, h⟩ := h
  refine ⟨c1, ?_⟩
  obtain ⟨b2, e3, h⟩ := h
  refine ⟨b2, e3, ?_⟩
  obtain ⟨c4, h⟩ := h
  refine ⟨c4, ?_⟩
  obtain ⟨b5, e6, h⟩ := h
  refine ⟨b5, e6, ?_⟩
  obtain ⟨b7, e8, h⟩ := h
  refine ⟨b7, e8, ?_⟩
  obtain ⟨c9, h⟩ := h
  refine ⟨c9, ?_⟩
  intro x11 e10
  have h := h x11 e10
  obtain ⟨c12, h⟩ := h
  refine ⟨c12, ?_⟩
  obtain ⟨c13, h⟩ := h
  refine ⟨c13, ?_⟩
  intro x15 e14
  have h := h x15 e14
  have K := kh_I K e14
  obtain ⟨b16, e17, h⟩ := h
  refine ⟨b16, e17, ?_⟩
  obtain ⟨c18, h⟩ := h
  refine ⟨c18, ?_⟩
  intro x20 e19
  have h := h x20 e19
  intro x22 e21
  have h := h x22 e21
  intro x24 e23
  have h := h x24 e23
  have K := kh_I K e23
  exact ⟨h, K⟩
set_option maxRecDepth 20000 in
set_option maxHeartbeats 1000000 in
theorem kh_X4_placeLine_0 {Q : Int32 → HS → Prop} {v0 : Nat} {S0 S : HS} (h : P_X4_placeLine_0 Q v0 S) (K : KH S0 S) : P_X4_placeLine_0 (fun r T => Q r T ∧ KH S0 T) v0 S := by
  delta P_X4_placeLine_0 at h ⊢
  obtain ⟨c1, h⟩ := h
  refine ⟨c1, ?_⟩
  obtain ⟨b2, e3, h⟩ := h
  refine ⟨b2, e3, ?_⟩
  obtain ⟨c4, h⟩ := h
  refine ⟨c4, ?_⟩
  intro x6 e5
  have h := h x6 e5
  refine cm_X4_newName (kh_X4_newName h) h (fun x7 x8 hp h g9 g10 => ?_)
  have h := h g9 g10
  have K := kh_tr K hp.2
  refine ⟨?_, ?_⟩
  · intro c11
    have h := h.1 c11
    refine cm_X4_is (kh_X4_is h) h (fun x12 x13 hp h g14 g15 => ?_)
    have h := h g14 g15
    have K := kh_tr K hp.2
    refine ⟨?_, ?_⟩
    · intro c16
      have h := h.1 c16
      refine cm_X4_is (kh_X4_is h) h (fun x17 x18 hp h g19 g20 => ?_)
      have h := h g19 g20
      have K := kh_tr K hp.2
      refine ⟨?_, ?_⟩
      · intro c21
        have h := h.1 c21
        exact kh_X4_placeLine_64 h K
      · intro c22
        have h := h.2 c22
        refine cm_X4_wordAndWhole (kh_X4_wordAndWhole h) h (fun x23 x24 hp h g25 g26 => ?_)
        have h := h g25 g26
        have K := kh_tr K hp.2
        refine ⟨?_, ?_⟩
        · intro c27
          have h := h.1 c27
          intro x29 e28
          have h := h x29 e28
          exact kh_X4_placeLine_64 h K
        · intro c30
          have h := h.2 c30
          exact ⟨h, K⟩
    · intro c31
      have h := h.2 c31
      refine cm_X4_next (kh_X4_next h) h (fun x32 hp h g33 => ?_)
      have h := h g33
      have K := kh_tr K hp.2
      exact kh_X4_placeLine_64 h K
  · intro c34
    have h := h.2 c34
    exact ⟨h, K⟩
theorem kh_X4_placeLine {Q : Int32 → HS → Prop} {v0 : Nat} {S : HS} (h : P_X4_placeLine v0 Q S) : P_X4_placeLine v0 (fun r T => Q r T ∧ KH S T) S := kh_X4_placeLine_0 h (kh_rf S)
set_option maxRecDepth 20000 in
set_option maxHeartbeats 1000000 in
theorem kh_X4_side_74 {Q : Int32 → HS → Prop} {v0 : Nat} {S0 S : HS} (h : P_X4_side_74 Q v0 S) (K : KH S0 S) : P_X4_side_74 (fun r T => Q r T ∧ KH S0 T) v0 S := by
  delta P_X4_side_74 at h ⊢
  obtain ⟨c1, h⟩ := h
  refine ⟨c1, ?_⟩
  refine cm_X4_next (kh_X4_next h) h (fun x2 hp h g3 => ?_)
  have h := h g3
  have K := kh_tr K hp.2
  exact ⟨h, K⟩
set_option maxRecDepth 20000 in
set_option maxHeartbeats 1000000 in
theorem kh_X4_side_0 {Q : Int32 → HS → Prop} {v0 : Nat} {S0 S : HS} (h : P_X4_side_0 Q v0 S) (K : KH S0 S) : P_X4_side_0 (fun r T => Q r T ∧ KH S0 T) v0 S := by
  delta P_X4_side_0 at h ⊢
  obtain ⟨c1, h⟩ := h
  refine ⟨c1, ?_⟩
  refine cm_X4_is (kh_X4_is h) h (fun x2 x3 hp h g4 g5 => ?_)
  have h := h g4 g5
  have K := kh_tr K hp.2
  refine ⟨?_, ?_⟩
  · intro c6
    have h := h.1 c6
    refine cm_X4_is (kh_X4_is h) h (fun x7 x8 hp h g9 g10 => ?_)
    have h := h g9 g10
    have K := kh_tr K hp.2
    refine ⟨?_, ?_⟩
    · intro c11
      have h := h.1 c11
      refine cm_X4_is (kh_X4_is h) h (fun x12 x13 hp h g14 g15 => ?_)
      have h := h g14 g15
      have K := kh_tr K hp.2
      refine ⟨?_, ?_⟩
      · intro c16
        have h := h.1 c16
        refine cm_X4_is (kh_X4_is h) h (fun x17 x18 hp h g19 g20 => ?_)
        have h := h g19 g20
        have K := kh_tr K hp.2
        refine ⟨?_, ?_⟩
        · intro c21
          have h := h.1 c21
          refine cm_X4_fail (kh_X4_fail h) h (fun x22 x23 hp h g24 g25 => ?_)
          have h := h g24 g25
          have K := kh_tr K hp.2
          obtain ⟨c26, h⟩ := h
          refine ⟨c26, ?_⟩
          exact ⟨h, K⟩
        · intro c27
          have h := h.2 c27
          intro x29 e28
          have h := h x29 e28
          have K := kh_I K e28
          exact kh_X4_side_74 h K
      · intro c30
        have h := h.2 c30
        intro x32 e31
        have h := h x32 e31
        have K := kh_I K e31
        exact kh_X4_side_74 h K
    · intro c33
      have h := h.2 c33
      intro x35 e34
      have h := h x35 e34
      have K := kh_I K e34
      exact kh_X4_side_74 h K
  · intro c36
    have h := h.2 c36
    intro x38 e37
    have h := h x38 e37
    have K := kh_I K e37
    exact kh_X4_side_74 h K
theorem kh_X4_side {Q : Int32 → HS → Prop} {v0 : Nat} {S : HS} (h : P_X4_side v0 Q S) : P_X4_side v0 (fun r T => Q r T ∧ KH S T) S := kh_X4_side_0 h (kh_rf S)
set_option maxRecDepth 20000 in
set_option maxHeartbeats 1000000 in
theorem kh_X4_rainLine_0 {Q : Int32 → HS → Prop} {v0 : Nat} {S0 S : HS} (h : P_X4_rainLine_0 Q v0 S) (K : KH S0 S) : P_X4_rainLine_0 (fun r T => Q r T ∧ KH S0 T) v0 S := by
  delta P_X4_rainLine_0 at h ⊢
  obtain ⟨c1, h⟩ := h
  refine ⟨c1, ?_⟩
  obtain ⟨b2, e3, h⟩ := h
  refine ⟨b2, e3, ?_⟩
  obtain ⟨c4, h⟩ := h
  refine ⟨c4, ?_⟩
  obtain ⟨b5, e6, h⟩ := h
  refine ⟨b5, e6, ?_⟩
  obtain ⟨b7, e8, h⟩ := h
  refine ⟨b7, e8, ?_⟩
  obtain ⟨c9, h⟩ := h
  refine ⟨c9, ?_⟩
  intro x11 e10
  have h := h x11 e10
  obtain ⟨c12, h⟩ := h
  refine ⟨c12, ?_⟩
  obtain ⟨c13, h⟩ := h
  refine ⟨c13, ?_⟩
  obtain ⟨b14, e15, h⟩ := h
  refine ⟨b14, e15, ?_⟩
  refine cm_X4_wordAndWhole (kh_X4_wordAndWhole h) h (fun x16 x17 hp h g18 g19 => ?_)
  have h := h g18 g19
  have K := kh_tr K hp.2
  refine ⟨?_, ?_⟩
  · intro c20
    have h := h.1 c20
    intro x22 e21
    have h := h x22 e21
    obtain ⟨c23, h⟩ := h
    refine ⟨c23, ?_⟩
    intro x25 e24
    have h := h x25 e24
    have K := kh_I K e24
    refine cm_X4_wordAndWhole (kh_X4_wordAndWhole h) h (fun x26 x27 hp h g28 g29 => ?_)
    have h := h g28 g29
    have K := kh_tr K hp.2
    refine ⟨?_, ?_⟩
    · intro c30
      have h := h.1 c30
      intro x32 e31
      have h := h x32 e31
      intro x34 e33
      have h := h x34 e33
      have K := kh_I K e33
      refine cm_X4_word (kh_X4_word h) h (fun x35 x36 hp h g37 g38 => ?_)
      have h := h g37 g38
      have K := kh_tr K hp.2
      refine ⟨?_, ?_⟩
      · intro c39
        have h := h.1 c39
        exact ⟨h, K⟩
      · intro c40
        have h := h.2 c40
        refine cm_X4_side (kh_X4_side h) h (fun x41 x42 hp h g43 g44 => ?_)
        have h := h g43 g44
        have K := kh_tr K hp.2
        refine ⟨?_, ?_⟩
        · intro c45
          have h := h.1 c45
          intro x47 e46
          have h := h x47 e46
          intro x49 e48
          have h := h x49 e48
          have K := kh_I K e48
          refine cm_X4_whole (kh_X4_whole h) h (fun x50 x51 hp h g52 g53 => ?_)
          have h := h g52 g53
          have K := kh_tr K hp.2
          refine ⟨?_, ?_⟩
          · intro c54
            have h := h.1 c54
            intro x56 e55
            have h := h x56 e55
            intro x58 e57
            have h := h x58 e57
            have K := kh_I K e57
            refine cm_X4_wordAndWhole (kh_X4_wordAndWhole h) h (fun x59 x60 hp h g61 g62 => ?_)
            have h := h g61 g62
            have K := kh_tr K hp.2
            refine ⟨?_, ?_⟩
            · intro c63
              have h := h.1 c63
              intro x65 e64
              have h := h x65 e64
              intro x67 e66
              have h := h x67 e66
              have K := kh_I K e66
              obtain ⟨b68, e69, h⟩ := h
              refine ⟨b68, e69, ?_⟩
              obtain ⟨c70, h⟩ := h
              refine ⟨c70, ?_⟩
              intro x72 e71
              have h := h x72 e71
              intro x74 e73
              have h := h x74 e73
              intro x76 e75
              have h := h x76 e75
              have K := kh_I K e75
              exact ⟨h, K⟩
            · intro c77
              have h := h.2 c77
              exact ⟨h, K⟩
          · intro c78
            have h := h.2 c78
            exact ⟨h, K⟩
        · intro c79
          have h := h.2 c79
          exact ⟨h, K⟩
    · intro c80
      have h := h.2 c80
      exact ⟨h, K⟩
  · intro c81
    have h := h.2 c81
    exact ⟨h, K⟩
theorem kh_X4_rainLine {Q : Int32 → HS → Prop} {v0 : Nat} {S : HS} (h : P_X4_rainLine v0 Q S) : P_X4_rainLine v0 (fun r T => Q r T ∧ KH S T) S := kh_X4_rainLine_0 h (kh_rf S)
set_option maxRecDepth 20000 in
set_option maxHeartbeats 1000000 in
theorem kh_X4_roadLine_130 {Q : Int32 → HS → Prop} {v0 : Nat} {S0 S : HS} (h : P_X4_roadLine_130 Q v0 S) (K : KH S0 S) : P_X4_roadLine_130 (fun r T => Q r T ∧ KH S0 T) v0 S := by
  delta P_X4_roadLine_130 at h ⊢
  obtain ⟨c1, h⟩ := h
  refine ⟨c1, ?_⟩
  obtain ⟨b2, e3, h⟩ := h
  refine ⟨b2, e3, ?_⟩
  obtain ⟨c4, h⟩ := h
  refine ⟨c4, ?_⟩
  intro x6 e5
  have h := h x6 e5
  intro x8 e7
  have h := h x8 e7
  intro x10 e9
  have h := h x10 e9
  have K := kh_I K e9
  exact ⟨h, K⟩
set_option maxRecDepth 20000 in
set_option maxHeartbeats 1000000 in
theorem kh_X4_roadLine_0 {Q : Int32 → HS → Prop} {v0 : Nat} {S0 S : HS} (h : P_X4_roadLine_0 Q v0 S) (K : KH S0 S) : P_X4_roadLine_0 (fun r T => Q r T ∧ KH S0 T) v0 S := by
  delta P_X4_roadLine_0 at h ⊢
  obtain ⟨c1, h⟩ := h
  refine ⟨c1, ?_⟩
  obtain ⟨b2, e3, h⟩ := h
  refine ⟨b2, e3, ?_⟩
  obtain ⟨c4, h⟩ := h
  refine ⟨c4, ?_⟩
  obtain ⟨b5, e6, h⟩ := h
  refine ⟨b5, e6, ?_⟩
  obtain ⟨b7, e8, h⟩ := h
  refine ⟨b7, e8, ?_⟩
  obtain ⟨c9, h⟩ := h
  refine ⟨c9, ?_⟩
  intro x11 e10
  have h := h x11 e10
  obtain ⟨c12, h⟩ := h
  refine ⟨c12, ?_⟩
  obtain ⟨c13, h⟩ := h
  refine ⟨c13, ?_⟩
  obtain ⟨b14, e15, h⟩ := h
  refine ⟨b14, e15, ?_⟩
  refine cm_X4_placeBut (kh_X4_placeBut h) h (fun x16 x17 hp h g18 g19 => ?_)
  have h := h g18 g19
  have K := kh_tr K hp.2
  refine ⟨?_, ?_⟩
  · intro c20
    have h := h.1 c20
    intro x22 e21
    have h := h x22 e21
    obtain ⟨c23, h⟩ := h
    refine ⟨c23, ?_⟩
    intro x25 e24
    have h := h x25 e24
    have K := kh_I K e24
    refine cm_X4_side (kh_X4_side h) h (fun x26 x27 hp h g28 g29 => ?_)
    have h := h g28 g29
    have K := kh_tr K hp.2
    refine ⟨?_, ?_⟩
    · intro c30
      have h := h.1 c30
      intro x32 e31
      have h := h x32 e31
      intro x34 e33
      have h := h x34 e33
      have K := kh_I K e33
      refine cm_X4_whole (kh_X4_whole h) h (fun x35 x36 hp h g37 g38 => ?_)
      have h := h g37 g38
      have K := kh_tr K hp.2
      refine ⟨?_, ?_⟩
      · intro c39
        have h := h.1 c39
        intro x41 e40
        have h := h x41 e40
        intro x43 e42
        have h := h x43 e42
        have K := kh_I K e42
        intro x45 e44
        have h := h x45 e44
        refine cm_X4_placeBut (kh_X4_placeBut h) h (fun x46 x47 hp h g48 g49 => ?_)
        have h := h g48 g49
        have K := kh_tr K hp.2
        refine ⟨?_, ?_⟩
        · intro c50
          have h := h.1 c50
          intro x52 e51
          have h := h x52 e51
          intro x54 e53
          have h := h x54 e53
          have K := kh_I K e53
          intro x56 e55
          have h := h x56 e55
          have K := kh_I K e55
          refine cm_X4_is (kh_X4_is h) h (fun x57 x58 hp h g59 g60 => ?_)
          have h := h g59 g60
          have K := kh_tr K hp.2
          refine ⟨?_, ?_⟩
          · intro c61
            have h := h.1 c61
            exact kh_X4_roadLine_130 h K
          · intro c62
            have h := h.2 c62
            intro x64 e63
            have h := h x64 e63
            refine cm_X4_wordAndWhole (kh_X4_wordAndWhole h) h (fun x65 x66 hp h g67 g68 => ?_)
            have h := h g67 g68
            have K := kh_tr K hp.2
            refine ⟨?_, ?_⟩
            · intro c69
              have h := h.1 c69
              intro x71 e70
              have h := h x71 e70
              intro x73 e72
              have h := h x73 e72
              have K := kh_I K e72
              exact kh_X4_roadLine_130 h K
            · intro c74
              have h := h.2 c74
              exact ⟨h, K⟩
        · intro c75
          have h := h.2 c75
          exact ⟨h, K⟩
      · intro c76
        have h := h.2 c76
        exact ⟨h, K⟩
    · intro c77
      have h := h.2 c77
      exact ⟨h, K⟩
  · intro c78
    have h := h.2 c78
    exact ⟨h, K⟩
theorem kh_X4_roadLine {Q : Int32 → HS → Prop} {v0 : Nat} {S : HS} (h : P_X4_roadLine v0 Q S) : P_X4_roadLine v0 (fun r T => Q r T ∧ KH S T) S := kh_X4_roadLine_0 h (kh_rf S)
set_option maxRecDepth 20000 in
set_option maxHeartbeats 1000000 in
theorem kh_X4_sign_0 {Q : Int32 → HS → Prop} {v0 : Nat} {v1 : Int32} {S0 S : HS} (h : P_X4_sign_0 Q v0 v1 S) (K : KH S0 S) : P_X4_sign_0 (fun r T => Q r T ∧ KH S0 T) v0 v1 S := by
  delta P_X4_sign_0 at h ⊢
  obtain ⟨c1, h⟩ := h
  refine ⟨c1, ?_⟩
  intro x3 e2
  have h := h x3 e2
  refine ⟨?_, ?_⟩
  · intro c4
    have h := h.1 c4
    refine cm_X4_next (kh_X4_next h) h (fun x5 hp h g6 => ?_)
    have h := h g6
    have K := kh_tr K hp.2
    exact ⟨h, K⟩
  · intro c7
    have h := h.2 c7
    refine cm_X4_fail (kh_X4_fail h) h (fun x8 x9 hp h g10 g11 => ?_)
    have h := h g10 g11
    have K := kh_tr K hp.2
    obtain ⟨c12, h⟩ := h
    refine ⟨c12, ?_⟩
    exact ⟨h, K⟩
theorem kh_X4_sign {Q : Int32 → HS → Prop} {v0 : Nat} {v1 : Int32} {S : HS} (h : P_X4_sign v0 v1 Q S) : P_X4_sign v0 v1 (fun r T => Q r T ∧ KH S T) S := kh_X4_sign_0 h (kh_rf S)
set_option maxRecDepth 20000 in
set_option maxHeartbeats 1000000 in
theorem kh_X4_someWalker_0 {Q : Int32 → HS → Prop} {v0 : Nat} {S0 S : HS} (h : P_X4_someWalker_0 Q v0 S) (K : KH S0 S) : P_X4_someWalker_0 (fun r T => Q r T ∧ KH S0 T) v0 S := by
  delta P_X4_someWalker_0 at h ⊢
  obtain ⟨c1, h⟩ := h
  refine ⟨c1, ?_⟩
  refine cm_X4_canBeName (kh_X4_canBeName h) h (fun x2 x3 hp h g4 g5 => ?_)
  have h := h g4 g5
  have K := kh_tr K hp.2
  refine ⟨?_, ?_⟩
  · intro c6
    have h := h.1 c6
    refine cm_X4_findName (kh_X4_findName h) h (fun x7 x8 hp h g9 => ?_)
    have h := h g9
    have K := kh_tr K hp.2
    refine ⟨?_, ?_⟩
    · intro c10
      have h := h.1 c10
      intro x12 e11
      have h := h x12 e11
      intro x14 e13
      have h := h x14 e13
      have K := kh_I K e13
      refine cm_X4_next (kh_X4_next h) h (fun x15 hp h g16 => ?_)
      have h := h g16
      have K := kh_tr K hp.2
      exact ⟨h, K⟩
    · intro c17
      have h := h.2 c17
      refine cm_X4_fail (kh_X4_fail h) h (fun x18 x19 hp h g20 g21 => ?_)
      have h := h g20 g21
      have K := kh_tr K hp.2
      obtain ⟨c22, h⟩ := h
      refine ⟨c22, ?_⟩
      exact ⟨h, K⟩
  · intro c23
    have h := h.2 c23
    refine cm_X4_fail (kh_X4_fail h) h (fun x24 x25 hp h g26 g27 => ?_)
    have h := h g26 g27
    have K := kh_tr K hp.2
    obtain ⟨c28, h⟩ := h
    refine ⟨c28, ?_⟩
    exact ⟨h, K⟩
theorem kh_X4_someWalker {Q : Int32 → HS → Prop} {v0 : Nat} {S : HS} (h : P_X4_someWalker v0 Q S) : P_X4_someWalker v0 (fun r T => Q r T ∧ KH S T) S := kh_X4_someWalker_0 h (kh_rf S)
set_option maxRecDepth 20000 in
set_option maxHeartbeats 1000000 in
theorem kh_X4_seenLine_47 {Q : Int32 → HS → Prop} {X30 X30_2 : Nat → Int32 → HS → Prop} {v0 : Nat} {v1 : Int32} {S0 S : HS} (h : P_X4_seenLine_47 Q X30 v0 v1 S) (K : KH S0 S) (hX30 : ∀ (u0 : Nat) (u1 : Int32) (u2 : HS), X30 u0 u1 u2 → KH S0 u2 → X30_2 u0 u1 u2) : P_X4_seenLine_47 (fun r T => Q r T ∧ KH S0 T) X30_2 v0 v1 S := by
  delta P_X4_seenLine_47 at h ⊢
  obtain ⟨c1, h⟩ := h
  refine ⟨c1, ?_⟩
  refine cm_X4_whole (kh_X4_whole h) h (fun x2 x3 hp h g4 g5 => ?_)
  have h := h g4 g5
  have K := kh_tr K hp.2
  refine ⟨?_, ?_⟩
  · intro c6
    have h := h.1 c6
    obtain ⟨b7, e8, h⟩ := h
    refine ⟨b7, e8, ?_⟩
    obtain ⟨c9, h⟩ := h
    refine ⟨c9, ?_⟩
    obtain ⟨b10, e11, h⟩ := h
    refine ⟨b10, e11, ?_⟩
    obtain ⟨b12, e13, h⟩ := h
    refine ⟨b12, e13, ?_⟩
    obtain ⟨c14, h⟩ := h
    refine ⟨c14, ?_⟩
    intro x16 e15
    have h := h x16 e15
    intro x18 e17
    have h := h x18 e17
    obtain ⟨c19, h⟩ := h
    refine ⟨c19, ?_⟩
    obtain ⟨c20, h⟩ := h
    refine ⟨c20, ?_⟩
    intro x22 e21
    have h := h x22 e21
    have K := kh_I K e21
    intro x24 e23
    have h := h x24 e23
    exact hX30 _ _ _ h K
  · intro c25
    have h := h.2 c25
    exact ⟨h, K⟩
set_option maxRecDepth 20000 in
set_option maxHeartbeats 1000000 in
theorem khB_X4_seenLine_30 {Q : Int32 → HS → Prop} {X30 X30_2 : Nat → Int32 → HS → Prop} {v0 : Nat} {v1 : Int32} {S0 S : HS} (h : B_X4_seenLine_30 Q X30 v0 v1 S) (K : KH S0 S) (hX30 : ∀ (u0 : Nat) (u1 : Int32) (u2 : HS), X30 u0 u1 u2 → KH S0 u2 → X30_2 u0 u1 u2) : B_X4_seenLine_30 (fun r T => Q r T ∧ KH S0 T) X30_2 v0 v1 S := by
  delta B_X4_seenLine_30 at h ⊢
  refine ⟨?_, ?_⟩
  · intro c1
    have h := h.1 c1
    obtain ⟨c2, h⟩ := h
    refine ⟨c2, ?_⟩
    obtain ⟨b3, e4, h⟩ := h
    refine ⟨b3, e4, ?_⟩
    obtain ⟨c5, h⟩ := h
    refine ⟨c5, ?_⟩
    intro x7 e6
    have h := h x7 e6
    intro x9 e8
    have h := h x9 e8
    intro x11 e10
    have h := h x11 e10
    have K := kh_I K e10
    exact ⟨h, K⟩
  · intro c12
    have h := h.2 c12
    refine ⟨?_, ?_⟩
    · intro c13
      have h := h.1 c13
      exact kh_X4_seenLine_47 h K hX30
    · intro c14
      have h := h.2 c14
      obtain ⟨c15, h⟩ := h
      refine ⟨c15, ?_⟩
      refine cm_X4_sign (kh_X4_sign h) h (fun x16 x17 hp h g18 g19 => ?_)
      have h := h g18 g19
      have K := kh_tr K hp.2
      refine ⟨?_, ?_⟩
      · intro c20
        have h := h.1 c20
        exact ⟨h, K⟩
      · intro c21
        have h := h.2 c21
        exact kh_X4_seenLine_47 h K hX30
theorem kh_X4_seenLine_30 {Q : Int32 → HS → Prop} {v0 : Nat} {v1 : Int32} {S0 S : HS} (h : P_X4_seenLine_30 Q v0 v1 S) (K : KH S0 S) : P_X4_seenLine_30 (fun r T => Q r T ∧ KH S0 T) v0 v1 S := h (fun v0 v1 S => KH S0 S → P_X4_seenLine_30 (fun r T => Q r T ∧ KH S0 T) v0 v1 S) (fun v0 v1 S hB K => fd_X4_seenLine_30 (khB_X4_seenLine_30 hB K (fun _ _ _ hx K => hx K))) K
set_option maxRecDepth 20000 in
set_option maxHeartbeats 1000000 in
theorem kh_X4_seenLine_0 {Q : Int32 → HS → Prop} {v0 : Nat} {S0 S : HS} (h : P_X4_seenLine_0 Q v0 S) (K : KH S0 S) : P_X4_seenLine_0 (fun r T => Q r T ∧ KH S0 T) v0 S := by
  delta P_X4_seenLine_0 at h ⊢
  obtain ⟨c1, h⟩ := h
  refine ⟨c1, ?_⟩
  refine cm_X4_someWalker (kh_X4_someWalker h) h (fun x2 x3 hp h g4 g5 => ?_)
  have h := h g4 g5
  have K := kh_tr K hp.2
  refine ⟨?_, ?_⟩
  · intro c6
    have h := h.1 c6
    obtain ⟨b7, e8, h⟩ := h
    refine ⟨b7, e8, ?_⟩
    obtain ⟨c9, h⟩ := h
    refine ⟨c9, ?_⟩
    obtain ⟨b10, e11, h⟩ := h
    refine ⟨b10, e11, ?_⟩
    obtain ⟨b12, e13, h⟩ := h
    refine ⟨b12, e13, ?_⟩
    obtain ⟨c14, h⟩ := h
    refine ⟨c14, ?_⟩
    intro x16 e15
    have h := h x16 e15
    intro x18 e17
    have h := h x18 e17
    obtain ⟨c19, h⟩ := h
    refine ⟨c19, ?_⟩
    obtain ⟨c20, h⟩ := h
    refine ⟨c20, ?_⟩
    intro x22 e21
    have h := h x22 e21
    have K := kh_I K e21
    exact kh_X4_seenLine_30 h K
  · intro c23
    have h := h.2 c23
    exact ⟨h, K⟩
theorem kh_X4_seenLine {Q : Int32 → HS → Prop} {v0 : Nat} {S : HS} (h : P_X4_seenLine v0 Q S) : P_X4_seenLine v0 (fun r T => Q r T ∧ KH S T) S := kh_X4_seenLine_0 h (kh_rf S)
set_option maxRecDepth 20000 in
set_option maxHeartbeats 1000000 in
theorem kh_X4_walkerLine_0 {Q : Int32 → HS → Prop} {v0 : Nat} {S0 S : HS} (h : P_X4_walkerLine_0 Q v0 S) (K : KH S0 S) : P_X4_walkerLine_0 (fun r T => Q r T ∧ KH S0 T) v0 S := by
  delta P_X4_walkerLine_0 at h ⊢
  obtain ⟨c1, h⟩ := h
  refine ⟨c1, ?_⟩
  obtain ⟨b2, e3, h⟩ := h
  refine ⟨b2, e3, ?_⟩
  obtain ⟨c4, h⟩ := h
  refine ⟨c4, ?_⟩
  obtain ⟨b5, e6, h⟩ := h
  refine ⟨b5, e6, ?_⟩
  obtain ⟨b7, e8, h⟩ := h
  refine ⟨b7, e8, ?_⟩
  obtain ⟨c9, h⟩ := h
  refine ⟨c9, ?_⟩
  intro x11 e10
  have h := h x11 e10
  obtain ⟨c12, h⟩ := h
  refine ⟨c12, ?_⟩
  obtain ⟨c13, h⟩ := h
  refine ⟨c13, ?_⟩
  obtain ⟨b14, e15, h⟩ := h
  refine ⟨b14, e15, ?_⟩
  obtain ⟨b16, e17, h⟩ := h
  refine ⟨b16, e17, ?_⟩
  obtain ⟨c18, h⟩ := h
  refine ⟨c18, ?_⟩
  intro x20 e19
  have h := h x20 e19
  refine cm_X4_newName (kh_X4_newName h) h (fun x21 x22 hp h g23 g24 => ?_)
  have h := h g23 g24
  have K := kh_tr K hp.2
  refine ⟨?_, ?_⟩
  · intro c25
    have h := h.1 c25
    exact ⟨h, K⟩
  · intro c26
    have h := h.2 c26
    refine cm_X4_kindOf (kh_X4_kindOf h) h (fun x27 x28 hp h g29 g30 => ?_)
    have h := h g29 g30
    have K := kh_tr K hp.2
    refine ⟨?_, ?_⟩
    · intro c31
      have h := h.1 c31
      exact ⟨h, K⟩
    · intro c32
      have h := h.2 c32
      refine cm_X4_bodyOf (kh_X4_bodyOf h) h (fun x33 x34 hp h g35 g36 => ?_)
      have h := h g35 g36
      have K := kh_tr K hp.2
      refine ⟨?_, ?_⟩
      · intro c37
        have h := h.1 c37
        refine cm_X4_wordAndWhole (kh_X4_wordAndWhole h) h (fun x38 x39 hp h g40 g41 => ?_)
        have h := h g40 g41
        have K := kh_tr K hp.2
        refine ⟨?_, ?_⟩
        · intro c42
          have h := h.1 c42
          intro x44 e43
          have h := h x44 e43
          obtain ⟨c45, h⟩ := h
          refine ⟨c45, ?_⟩
          intro x47 e46
          have h := h x47 e46
          have K := kh_I K e46
          intro x49 e48
          have h := h x49 e48
          refine cm_X4_wordAndWhole (kh_X4_wordAndWhole h) h (fun x50 x51 hp h g52 g53 => ?_)
          have h := h g52 g53
          have K := kh_tr K hp.2
          refine ⟨?_, ?_⟩
          · intro c54
            have h := h.1 c54
            intro x56 e55
            have h := h x56 e55
            intro x58 e57
            have h := h x58 e57
            have K := kh_I K e57
            obtain ⟨b59, e60, h⟩ := h
            refine ⟨b59, e60, ?_⟩
            obtain ⟨c61, h⟩ := h
            refine ⟨c61, ?_⟩
            intro x63 e62
            have h := h x63 e62
            intro x65 e64
            have h := h x65 e64
            intro x67 e66
            have h := h x67 e66
            have K := kh_I K e66
            exact ⟨h, K⟩
          · intro c68
            have h := h.2 c68
            exact ⟨h, K⟩
        · intro c69
          have h := h.2 c69
          exact ⟨h, K⟩
      · intro c70
        have h := h.2 c70
        exact ⟨h, K⟩
theorem kh_X4_walkerLine {Q : Int32 → HS → Prop} {v0 : Nat} {S : HS} (h : P_X4_walkerLine v0 Q S) : P_X4_walkerLine v0 (fun r T => Q r T ∧ KH S T) S := kh_X4_walkerLine_0 h (kh_rf S)
set_option maxRecDepth 20000 in
set_option maxHeartbeats 1000000 in
theorem kh_X4_worldLine_0 {Q : Int32 → HS → Prop} {v0 : Nat} {S0 S : HS} (h : P_X4_worldLine_0 Q v0 S) (K : KH S0 S) : P_X4_worldLine_0 (fun r T => Q r T ∧ KH S0 T) v0 S := by
  delta P_X4_worldLine_0 at h ⊢
  obtain ⟨c1, h⟩ := h
  refine ⟨c1, ?_⟩
  obtain ⟨b2, e3, h⟩ := h
  refine ⟨b2, e3, ?_⟩
  obtain ⟨c4, h⟩ := h
  refine ⟨c4, ?_⟩
  refine cm_X8_isTold (kh_X8_isTold h) h (fun x5 x6 hp h g7 g8 => ?_)
  have h := h g7 g8
  have K := kh_tr K hp.2
  refine ⟨?_, ?_⟩
  · intro c9
    have h := h.1 c9
    refine cm_X4_next (kh_X4_next h) h (fun x10 hp h g11 => ?_)
    have h := h g11
    have K := kh_tr K hp.2
    refine cm_X4_wordAndWhole (kh_X4_wordAndWhole h) h (fun x12 x13 hp h g14 g15 => ?_)
    have h := h g14 g15
    have K := kh_tr K hp.2
    refine ⟨?_, ?_⟩
    · intro c16
      have h := h.1 c16
      obtain ⟨b17, e18, h⟩ := h
      refine ⟨b17, e18, ?_⟩
      intro x20 e19
      have h := h x20 e19
      obtain ⟨c21, h⟩ := h
      refine ⟨c21, ?_⟩
      intro x23 e22
      have h := h x23 e22
      have K := kh_I K e22
      exact ⟨h, K⟩
    · intro c24
      have h := h.2 c24
      exact ⟨h, K⟩
  · intro c25
    have h := h.2 c25
    refine cm_X4_fail (kh_X4_fail h) h (fun x26 x27 hp h g28 g29 => ?_)
    have h := h g28 g29
    have K := kh_tr K hp.2
    obtain ⟨c30, h⟩ := h
    refine ⟨c30, ?_⟩
    exact ⟨h, K⟩
theorem kh_X4_worldLine {Q : Int32 → HS → Prop} {v0 : Nat} {S : HS} (h : P_X4_worldLine v0 Q S) : P_X4_worldLine v0 (fun r T => Q r T ∧ KH S T) S := kh_X4_worldLine_0 h (kh_rf S)
set_option maxRecDepth 20000 in
set_option maxHeartbeats 1000000 in
theorem kh_X4_read_280 {Q : Int32 → HS → Prop} {v0 : Nat} {S0 S : HS} (h : P_X4_read_280 Q v0 S) (K : KH S0 S) : P_X4_read_280 (fun r T => Q r T ∧ KH S0 T) v0 S := by
  delta P_X4_read_280 at h ⊢
  obtain ⟨c1, h⟩ := h
  refine ⟨c1, ?_⟩
  refine cm_X4_fail (kh_X4_fail h) h (fun x2 x3 hp h g4 g5 => ?_)
  have h := h g4 g5
  have K := kh_tr K hp.2
  refine ⟨?_, ?_⟩
  · intro c6
    have h := h.1 c6
    exact ⟨h, K⟩
  · intro c7
    have h := h.2 c7
    exact ⟨h, K⟩
set_option maxRecDepth 20000 in
set_option maxHeartbeats 1000000 in
theorem kh_X4_read_295 {Q : Int32 → HS → Prop} {X8 X8_2 : Nat → Int32 → HS → Prop} {v0 : Nat} {v3 : Int32} {v4 : Int32} {S0 S : HS} (h : P_X4_read_295 Q X8 v0 v3 v4 S) (K : KH S0 S) (hX8 : ∀ (u0 : Nat) (u1 : Int32) (u2 : HS), X8 u0 u1 u2 → KH S0 u2 → X8_2 u0 u1 u2) : P_X4_read_295 (fun r T => Q r T ∧ KH S0 T) X8_2 v0 v3 v4 S := by
  delta P_X4_read_295 at h ⊢
  refine ⟨?_, ?_⟩
  · intro c1
    have h := h.1 c1
    exact ⟨h, K⟩
  · intro c2
    have h := h.2 c2
    obtain ⟨c3, h⟩ := h
    refine ⟨c3, ?_⟩
    refine cm_X4_sign (kh_X4_sign h) h (fun x4 x5 hp h g6 g7 => ?_)
    have h := h g6 g7
    have K := kh_tr K hp.2
    refine ⟨?_, ?_⟩
    · intro c8
      have h := h.1 c8
      intro x10 e9
      have h := h x10 e9
      exact hX8 _ _ _ h K
    · intro c11
      have h := h.2 c11
      exact ⟨h, K⟩
set_option maxRecDepth 20000 in
set_option maxHeartbeats 1000000 in
theorem kh_X4_read_248 {Q : Int32 → HS → Prop} {X8 X8_2 : Nat → Int32 → HS → Prop} {v0 : Nat} {v3 : Int32} {v4 : Int32} {S0 S : HS} (h : P_X4_read_248 Q X8 v0 v3 v4 S) (K : KH S0 S) (hX8 : ∀ (u0 : Nat) (u1 : Int32) (u2 : HS), X8 u0 u1 u2 → KH S0 u2 → X8_2 u0 u1 u2) : P_X4_read_248 (fun r T => Q r T ∧ KH S0 T) X8_2 v0 v3 v4 S := by
  delta P_X4_read_248 at h ⊢
  refine ⟨?_, ?_⟩
  · intro c1
    have h := h.1 c1
    exact kh_X4_read_295 h K hX8
  · intro c2
    have h := h.2 c2
    obtain ⟨c3, h⟩ := h
    refine ⟨c3, ?_⟩
    intro x5 e4
    have h := h x5 e4
    refine ⟨?_, ?_⟩
    · intro c6
      have h := h.1 c6
      exact kh_X4_read_295 h K hX8
    · intro c7
      have h := h.2 c7
      obtain ⟨b8, e9, h⟩ := h
      refine ⟨b8, e9, ?_⟩
      obtain ⟨c10, h⟩ := h
      refine ⟨c10, ?_⟩
      intro x12 e11
      have h := h x12 e11
      refine ⟨?_, ?_⟩
      · intro c13
        have h := h.1 c13
        exact kh_X4_read_280 h K
      · intro c14
        have h := h.2 c14
        obtain ⟨b15, e16, h⟩ := h
        refine ⟨b15, e16, ?_⟩
        obtain ⟨c17, h⟩ := h
        refine ⟨c17, ?_⟩
        intro x19 e18
        have h := h x19 e18
        refine ⟨?_, ?_⟩
        · intro c20
          have h := h.1 c20
          exact ⟨h, K⟩
        · intro c21
          have h := h.2 c21
          exact kh_X4_read_280 h K
set_option maxRecDepth 20000 in
set_option maxHeartbeats 1000000 in
theorem kh_X4_read_70 {Q : Int32 → HS → Prop} {X8 X8_2 : Nat → Int32 → HS → Prop} {v0 : Nat} {v3 : Int32} {s0 : Int32} {S0 S : HS} (h : P_X4_read_70 Q X8 v0 v3 s0 S) (K : KH S0 S) (hX8 : ∀ (u0 : Nat) (u1 : Int32) (u2 : HS), X8 u0 u1 u2 → KH S0 u2 → X8_2 u0 u1 u2) : P_X4_read_70 (fun r T => Q r T ∧ KH S0 T) X8_2 v0 v3 s0 S := by
  delta P_X4_read_70 at h ⊢
  exact kh_X4_read_248 h K hX8
set_option maxRecDepth 20000 in
set_option maxHeartbeats 1000000 in
theorem kh_X4_read_69 {Q : Int32 → HS → Prop} {X8 X8_2 : Nat → Int32 → HS → Prop} {v0 : Nat} {v3 : Int32} {S0 S : HS} (h : P_X4_read_69 Q X8 v0 v3 S) (K : KH S0 S) (hX8 : ∀ (u0 : Nat) (u1 : Int32) (u2 : HS), X8 u0 u1 u2 → KH S0 u2 → X8_2 u0 u1 u2) : P_X4_read_69 (fun r T => Q r T ∧ KH S0 T) X8_2 v0 v3 S := by
  delta P_X4_read_69 at h ⊢
  exact kh_X4_read_70 h K hX8
set_option maxRecDepth 20000 in
set_option maxHeartbeats 1000000 in
theorem kh_X4_read_112 {Q : Int32 → HS → Prop} {X8 X8_2 : Nat → Int32 → HS → Prop} {v0 : Nat} {v3 : Int32} {s0 : Int32} {S0 S : HS} (h : P_X4_read_112 Q X8 v0 v3 s0 S) (K : KH S0 S) (hX8 : ∀ (u0 : Nat) (u1 : Int32) (u2 : HS), X8 u0 u1 u2 → KH S0 u2 → X8_2 u0 u1 u2) : P_X4_read_112 (fun r T => Q r T ∧ KH S0 T) X8_2 v0 v3 s0 S := by
  delta P_X4_read_112 at h ⊢
  exact kh_X4_read_248 h K hX8
set_option maxRecDepth 20000 in
set_option maxHeartbeats 1000000 in
theorem kh_X4_read_111 {Q : Int32 → HS → Prop} {X8 X8_2 : Nat → Int32 → HS → Prop} {v0 : Nat} {v3 : Int32} {S0 S : HS} (h : P_X4_read_111 Q X8 v0 v3 S) (K : KH S0 S) (hX8 : ∀ (u0 : Nat) (u1 : Int32) (u2 : HS), X8 u0 u1 u2 → KH S0 u2 → X8_2 u0 u1 u2) : P_X4_read_111 (fun r T => Q r T ∧ KH S0 T) X8_2 v0 v3 S := by
  delta P_X4_read_111 at h ⊢
  exact kh_X4_read_112 h K hX8
set_option maxRecDepth 20000 in
set_option maxHeartbeats 1000000 in
theorem kh_X4_read_154 {Q : Int32 → HS → Prop} {X8 X8_2 : Nat → Int32 → HS → Prop} {v0 : Nat} {v3 : Int32} {s0 : Int32} {S0 S : HS} (h : P_X4_read_154 Q X8 v0 v3 s0 S) (K : KH S0 S) (hX8 : ∀ (u0 : Nat) (u1 : Int32) (u2 : HS), X8 u0 u1 u2 → KH S0 u2 → X8_2 u0 u1 u2) : P_X4_read_154 (fun r T => Q r T ∧ KH S0 T) X8_2 v0 v3 s0 S := by
  delta P_X4_read_154 at h ⊢
  exact kh_X4_read_248 h K hX8
set_option maxRecDepth 20000 in
set_option maxHeartbeats 1000000 in
theorem kh_X4_read_153 {Q : Int32 → HS → Prop} {X8 X8_2 : Nat → Int32 → HS → Prop} {v0 : Nat} {v3 : Int32} {S0 S : HS} (h : P_X4_read_153 Q X8 v0 v3 S) (K : KH S0 S) (hX8 : ∀ (u0 : Nat) (u1 : Int32) (u2 : HS), X8 u0 u1 u2 → KH S0 u2 → X8_2 u0 u1 u2) : P_X4_read_153 (fun r T => Q r T ∧ KH S0 T) X8_2 v0 v3 S := by
  delta P_X4_read_153 at h ⊢
  exact kh_X4_read_154 h K hX8
set_option maxRecDepth 20000 in
set_option maxHeartbeats 1000000 in
theorem kh_X4_read_195 {Q : Int32 → HS → Prop} {X8 X8_2 : Nat → Int32 → HS → Prop} {v0 : Nat} {v3 : Int32} {s0 : Int32} {S0 S : HS} (h : P_X4_read_195 Q X8 v0 v3 s0 S) (K : KH S0 S) (hX8 : ∀ (u0 : Nat) (u1 : Int32) (u2 : HS), X8 u0 u1 u2 → KH S0 u2 → X8_2 u0 u1 u2) : P_X4_read_195 (fun r T => Q r T ∧ KH S0 T) X8_2 v0 v3 s0 S := by
  delta P_X4_read_195 at h ⊢
  exact kh_X4_read_248 h K hX8
set_option maxRecDepth 20000 in
set_option maxHeartbeats 1000000 in
theorem kh_X4_read_194 {Q : Int32 → HS → Prop} {X8 X8_2 : Nat → Int32 → HS → Prop} {v0 : Nat} {v3 : Int32} {S0 S : HS} (h : P_X4_read_194 Q X8 v0 v3 S) (K : KH S0 S) (hX8 : ∀ (u0 : Nat) (u1 : Int32) (u2 : HS), X8 u0 u1 u2 → KH S0 u2 → X8_2 u0 u1 u2) : P_X4_read_194 (fun r T => Q r T ∧ KH S0 T) X8_2 v0 v3 S := by
  delta P_X4_read_194 at h ⊢
  exact kh_X4_read_195 h K hX8
set_option maxRecDepth 20000 in
set_option maxHeartbeats 1000000 in
theorem kh_X4_read_236 {Q : Int32 → HS → Prop} {X8 X8_2 : Nat → Int32 → HS → Prop} {v0 : Nat} {v3 : Int32} {s0 : Int32} {S0 S : HS} (h : P_X4_read_236 Q X8 v0 v3 s0 S) (K : KH S0 S) (hX8 : ∀ (u0 : Nat) (u1 : Int32) (u2 : HS), X8 u0 u1 u2 → KH S0 u2 → X8_2 u0 u1 u2) : P_X4_read_236 (fun r T => Q r T ∧ KH S0 T) X8_2 v0 v3 s0 S := by
  delta P_X4_read_236 at h ⊢
  exact kh_X4_read_248 h K hX8
set_option maxRecDepth 20000 in
set_option maxHeartbeats 1000000 in
theorem kh_X4_read_235 {Q : Int32 → HS → Prop} {X8 X8_2 : Nat → Int32 → HS → Prop} {v0 : Nat} {v3 : Int32} {S0 S : HS} (h : P_X4_read_235 Q X8 v0 v3 S) (K : KH S0 S) (hX8 : ∀ (u0 : Nat) (u1 : Int32) (u2 : HS), X8 u0 u1 u2 → KH S0 u2 → X8_2 u0 u1 u2) : P_X4_read_235 (fun r T => Q r T ∧ KH S0 T) X8_2 v0 v3 S := by
  delta P_X4_read_235 at h ⊢
  exact kh_X4_read_236 h K hX8
set_option maxRecDepth 20000 in
set_option maxHeartbeats 1000000 in
theorem khB_X4_read_8 {Q : Int32 → HS → Prop} {X8 X8_2 : Nat → Int32 → HS → Prop} {v0 : Nat} {v3 : Int32} {S0 S : HS} (h : B_X4_read_8 Q X8 v0 v3 S) (K : KH S0 S) (hX8 : ∀ (u0 : Nat) (u1 : Int32) (u2 : HS), X8 u0 u1 u2 → KH S0 u2 → X8_2 u0 u1 u2) : B_X4_read_8 (fun r T => Q r T ∧ KH S0 T) X8_2 v0 v3 S := by
  delta B_X4_read_8 at h ⊢
  refine ⟨?_, ?_⟩
  · intro c1
    have h := h.1 c1
    obtain ⟨c2, h⟩ := h
    refine ⟨c2, ?_⟩
    refine cm_X4_fail (kh_X4_fail h) h (fun x3 x4 hp h g5 g6 => ?_)
    have h := h g5 g6
    have K := kh_tr K hp.2
    obtain ⟨c7, h⟩ := h
    refine ⟨c7, ?_⟩
    exact ⟨h, K⟩
  · intro c8
    have h := h.2 c8
    obtain ⟨c9, h⟩ := h
    refine ⟨c9, ?_⟩
    refine cm_X4_is (kh_X4_is h) h (fun x10 x11 hp h g12 g13 => ?_)
    have h := h g12 g13
    have K := kh_tr K hp.2
    refine ⟨?_, ?_⟩
    · intro c14
      have h := h.1 c14
      refine cm_X4_is (kh_X4_is h) h (fun x15 x16 hp h g17 g18 => ?_)
      have h := h g17 g18
      have K := kh_tr K hp.2
      refine ⟨?_, ?_⟩
      · intro c19
        have h := h.1 c19
        refine cm_X4_is (kh_X4_is h) h (fun x20 x21 hp h g22 g23 => ?_)
        have h := h g22 g23
        have K := kh_tr K hp.2
        refine ⟨?_, ?_⟩
        · intro c24
          have h := h.1 c24
          refine cm_X4_is (kh_X4_is h) h (fun x25 x26 hp h g27 g28 => ?_)
          have h := h g27 g28
          have K := kh_tr K hp.2
          refine ⟨?_, ?_⟩
          · intro c29
            have h := h.1 c29
            refine cm_X4_is (kh_X4_is h) h (fun x30 x31 hp h g32 g33 => ?_)
            have h := h g32 g33
            have K := kh_tr K hp.2
            refine ⟨?_, ?_⟩
            · intro c34
              have h := h.1 c34
              refine cm_X4_is (kh_X4_is h) h (fun x35 x36 hp h g37 g38 => ?_)
              have h := h g37 g38
              have K := kh_tr K hp.2
              refine ⟨?_, ?_⟩
              · intro c39
                have h := h.1 c39
                refine cm_X4_fail (kh_X4_fail h) h (fun x40 x41 hp h g42 g43 => ?_)
                have h := h g42 g43
                have K := kh_tr K hp.2
                exact kh_X4_read_248 h K hX8
              · intro c44
                have h := h.2 c44
                obtain ⟨b45, e46, h⟩ := h
                refine ⟨b45, e46, ?_⟩
                obtain ⟨c47, h⟩ := h
                refine ⟨c47, ?_⟩
                intro x49 e48
                have h := h x49 e48
                refine cm_X4_hasRoom (kh_X4_hasRoom h) h (fun x50 x51 hp h g52 g53 => ?_)
                have h := h g52 g53
                have K := kh_tr K hp.2
                refine ⟨?_, ?_⟩
                · intro c54
                  have h := h.1 c54
                  exact kh_X4_read_235 h K hX8
                · intro c55
                  have h := h.2 c55
                  refine cm_X4_seenLine (kh_X4_seenLine h) h (fun x56 x57 hp h g58 g59 => ?_)
                  have h := h g58 g59
                  have K := kh_tr K hp.2
                  refine ⟨?_, ?_⟩
                  · intro c60
                    have h := h.1 c60
                    exact kh_X4_read_235 h K hX8
                  · intro c61
                    have h := h.2 c61
                    exact kh_X4_read_236 h K hX8
            · intro c62
              have h := h.2 c62
              obtain ⟨b63, e64, h⟩ := h
              refine ⟨b63, e64, ?_⟩
              obtain ⟨c65, h⟩ := h
              refine ⟨c65, ?_⟩
              intro x67 e66
              have h := h x67 e66
              refine cm_X4_hasRoom (kh_X4_hasRoom h) h (fun x68 x69 hp h g70 g71 => ?_)
              have h := h g70 g71
              have K := kh_tr K hp.2
              refine ⟨?_, ?_⟩
              · intro c72
                have h := h.1 c72
                exact kh_X4_read_194 h K hX8
              · intro c73
                have h := h.2 c73
                refine cm_X4_walkerLine (kh_X4_walkerLine h) h (fun x74 x75 hp h g76 g77 => ?_)
                have h := h g76 g77
                have K := kh_tr K hp.2
                refine ⟨?_, ?_⟩
                · intro c78
                  have h := h.1 c78
                  exact kh_X4_read_194 h K hX8
                · intro c79
                  have h := h.2 c79
                  exact kh_X4_read_195 h K hX8
          · intro c80
            have h := h.2 c80
            obtain ⟨b81, e82, h⟩ := h
            refine ⟨b81, e82, ?_⟩
            obtain ⟨c83, h⟩ := h
            refine ⟨c83, ?_⟩
            intro x85 e84
            have h := h x85 e84
            refine cm_X4_hasRoom (kh_X4_hasRoom h) h (fun x86 x87 hp h g88 g89 => ?_)
            have h := h g88 g89
            have K := kh_tr K hp.2
            refine ⟨?_, ?_⟩
            · intro c90
              have h := h.1 c90
              exact kh_X4_read_153 h K hX8
            · intro c91
              have h := h.2 c91
              refine cm_X4_roadLine (kh_X4_roadLine h) h (fun x92 x93 hp h g94 g95 => ?_)
              have h := h g94 g95
              have K := kh_tr K hp.2
              refine ⟨?_, ?_⟩
              · intro c96
                have h := h.1 c96
                exact kh_X4_read_153 h K hX8
              · intro c97
                have h := h.2 c97
                exact kh_X4_read_154 h K hX8
        · intro c98
          have h := h.2 c98
          obtain ⟨b99, e100, h⟩ := h
          refine ⟨b99, e100, ?_⟩
          obtain ⟨c101, h⟩ := h
          refine ⟨c101, ?_⟩
          intro x103 e102
          have h := h x103 e102
          refine cm_X4_hasRoom (kh_X4_hasRoom h) h (fun x104 x105 hp h g106 g107 => ?_)
          have h := h g106 g107
          have K := kh_tr K hp.2
          refine ⟨?_, ?_⟩
          · intro c108
            have h := h.1 c108
            exact kh_X4_read_111 h K hX8
          · intro c109
            have h := h.2 c109
            refine cm_X4_placeLine (kh_X4_placeLine h) h (fun x110 x111 hp h g112 g113 => ?_)
            have h := h g112 g113
            have K := kh_tr K hp.2
            refine ⟨?_, ?_⟩
            · intro c114
              have h := h.1 c114
              exact kh_X4_read_111 h K hX8
            · intro c115
              have h := h.2 c115
              exact kh_X4_read_112 h K hX8
      · intro c116
        have h := h.2 c116
        obtain ⟨b117, e118, h⟩ := h
        refine ⟨b117, e118, ?_⟩
        obtain ⟨c119, h⟩ := h
        refine ⟨c119, ?_⟩
        intro x121 e120
        have h := h x121 e120
        refine cm_X4_hasRoom (kh_X4_hasRoom h) h (fun x122 x123 hp h g124 g125 => ?_)
        have h := h g124 g125
        have K := kh_tr K hp.2
        refine ⟨?_, ?_⟩
        · intro c126
          have h := h.1 c126
          exact kh_X4_read_69 h K hX8
        · intro c127
          have h := h.2 c127
          refine cm_X4_rainLine (kh_X4_rainLine h) h (fun x128 x129 hp h g130 g131 => ?_)
          have h := h g130 g131
          have K := kh_tr K hp.2
          refine ⟨?_, ?_⟩
          · intro c132
            have h := h.1 c132
            exact kh_X4_read_69 h K hX8
          · intro c133
            have h := h.2 c133
            exact kh_X4_read_70 h K hX8
    · intro c134
      have h := h.2 c134
      refine cm_X4_worldLine (kh_X4_worldLine h) h (fun x135 x136 hp h g137 g138 => ?_)
      have h := h g137 g138
      have K := kh_tr K hp.2
      exact kh_X4_read_248 h K hX8
theorem kh_X4_read_8 {Q : Int32 → HS → Prop} {v0 : Nat} {v3 : Int32} {S0 S : HS} (h : P_X4_read_8 Q v0 v3 S) (K : KH S0 S) : P_X4_read_8 (fun r T => Q r T ∧ KH S0 T) v0 v3 S := h (fun v0 v3 S => KH S0 S → P_X4_read_8 (fun r T => Q r T ∧ KH S0 T) v0 v3 S) (fun v0 v3 S hB K => fd_X4_read_8 (khB_X4_read_8 hB K (fun _ _ _ hx K => hx K))) K
set_option maxRecDepth 20000 in
set_option maxHeartbeats 1000000 in
theorem kh_X4_read_0 {Q : Int32 → HS → Prop} {v0 : Nat} {v1 : Nat} {v2 : Int32} {S0 S : HS} (h : P_X4_read_0 Q v0 v1 v2 S) (K : KH S0 S) : P_X4_read_0 (fun r T => Q r T ∧ KH S0 T) v0 v1 v2 S := by
  delta P_X4_read_0 at h ⊢
  obtain ⟨c1, h⟩ := h
  refine ⟨c1, ?_⟩
  refine cm_X4_open (kh_X4_open h) h (fun x2 hp h g3 => ?_)
  have h := h g3
  have K := kh_tr K hp.2
  exact kh_X4_read_8 h K
theorem kh_X4_read {Q : Int32 → HS → Prop} {v0 : Nat} {v1 : Nat} {v2 : Int32} {S : HS} (h : P_X4_read v0 v1 v2 Q S) : P_X4_read v0 v1 v2 (fun r T => Q r T ∧ KH S T) S := kh_X4_read_0 h (kh_rf S)
set_option maxRecDepth 20000 in
set_option maxHeartbeats 1000000 in
theorem kh_X7_forget_0 {Q : HS → Prop} {v0 : Nat} {S0 S : HS} (h : P_X7_forget_0 Q v0 S) (K : KH S0 S) : P_X7_forget_0 (fun T => Q T ∧ KH S0 T) v0 S := by
  delta P_X7_forget_0 at h ⊢
  obtain ⟨c1, h⟩ := h
  refine ⟨c1, ?_⟩
  intro x3 e2
  have h := h x3 e2
  have K := kh_I K e2
  exact ⟨h, K⟩
theorem kh_X7_forget {Q : HS → Prop} {v0 : Nat} {S : HS} (h : P_X7_forget v0 Q S) : P_X7_forget v0 (fun T => Q T ∧ KH S T) S := kh_X7_forget_0 h (kh_rf S)
set_option maxRecDepth 20000 in
set_option maxHeartbeats 1000000 in
theorem kh_X9_grant_0 {Q : Int32 → HS → Prop} {v0 : Nat} {v1 : Int32} {S0 S : HS} (h : P_X9_grant_0 Q v0 v1 S) (K : KH S0 S) : P_X9_grant_0 (fun r T => Q r T ∧ KH S0 T) v0 v1 S := by
  delta P_X9_grant_0 at h ⊢
  obtain ⟨c1, h⟩ := h
  refine ⟨c1, ?_⟩
  intro x3 e2
  have h := h x3 e2
  have K := kh_I K e2
  exact ⟨h, K⟩
theorem kh_X9_grant {Q : Int32 → HS → Prop} {v0 : Nat} {v1 : Int32} {S : HS} (h : P_X9_grant v0 v1 Q S) : P_X9_grant v0 v1 (fun r T => Q r T ∧ KH S T) S := kh_X9_grant_0 h (kh_rf S)
set_option maxRecDepth 20000 in
set_option maxHeartbeats 1000000 in
theorem kh_X9_refuse_0 {Q : Int32 → HS → Prop} {v0 : Nat} {v1 : Int32} {S0 S : HS} (h : P_X9_refuse_0 Q v0 v1 S) (K : KH S0 S) : P_X9_refuse_0 (fun r T => Q r T ∧ KH S0 T) v0 v1 S := by
  delta P_X9_refuse_0 at h ⊢
  obtain ⟨c1, h⟩ := h
  refine ⟨c1, ?_⟩
  intro x3 e2
  have h := h x3 e2
  have K := kh_I K e2
  exact ⟨h, K⟩
theorem kh_X9_refuse {Q : Int32 → HS → Prop} {v0 : Nat} {v1 : Int32} {S : HS} (h : P_X9_refuse v0 v1 Q S) : P_X9_refuse v0 v1 (fun r T => Q r T ∧ KH S T) S := kh_X9_refuse_0 h (kh_rf S)
set_option maxRecDepth 20000 in
set_option maxHeartbeats 1000000 in
theorem kh_X9_world_12 {Q : Int32 → HS → Prop} {v0 : Nat} {S0 S : HS} (h : P_X9_world_12 Q v0 S) (K : KH S0 S) : P_X9_world_12 (fun r T => Q r T ∧ KH S0 T) v0 S := by
  delta P_X9_world_12 at h ⊢
  obtain ⟨c1, h⟩ := h
  refine ⟨c1, ?_⟩
  refine cm_X9_refuse (kh_X9_refuse h) h (fun x2 x3 hp h g4 => ?_)
  have h := h g4
  have K := kh_tr K hp.2
  exact ⟨h, K⟩
set_option maxRecDepth 20000 in
set_option maxHeartbeats 1000000 in
theorem kh_X9_world_0 {Q : Int32 → HS → Prop} {v0 : Nat} {v1 : Int32} {S0 S : HS} (h : P_X9_world_0 Q v0 v1 S) (K : KH S0 S) : P_X9_world_0 (fun r T => Q r T ∧ KH S0 T) v0 v1 S := by
  delta P_X9_world_0 at h ⊢
  refine ⟨?_, ?_⟩
  · intro c1
    have h := h.1 c1
    exact kh_X9_world_12 h K
  · intro c2
    have h := h.2 c2
    obtain ⟨c3, h⟩ := h
    refine ⟨c3, ?_⟩
    intro x5 e4
    have h := h x5 e4
    refine ⟨?_, ?_⟩
    · intro c6
      have h := h.1 c6
      obtain ⟨b7, e8, h⟩ := h
      refine ⟨b7, e8, ?_⟩
      obtain ⟨b9, e10, h⟩ := h
      refine ⟨b9, e10, ?_⟩
      obtain ⟨c11, h⟩ := h
      refine ⟨c11, ?_⟩
      refine cm_X4_read (kh_X4_read h) h (fun x12 x13 hp h g14 g15 => ?_)
      have h := h g14 g15
      have K := kh_tr K hp.2
      intro x17 e16
      have h := h x17 e16
      have K := kh_I K e16
      obtain ⟨b18, e19, h⟩ := h
      refine ⟨b18, e19, ?_⟩
      obtain ⟨c20, h⟩ := h
      refine ⟨c20, ?_⟩
      intro x22 e21
      have h := h x22 e21
      intro x24 e23
      have h := h x24 e23
      have K := kh_I K e23
      obtain ⟨b25, e26, h⟩ := h
      refine ⟨b25, e26, ?_⟩
      obtain ⟨c27, h⟩ := h
      refine ⟨c27, ?_⟩
      intro x29 e28
      have h := h x29 e28
      intro x31 e30
      have h := h x31 e30
      have K := kh_I K e30
      refine ⟨?_, ?_⟩
      · intro c32
        have h := h.1 c32
        obtain ⟨b33, e34, h⟩ := h
        refine ⟨b33, e34, ?_⟩
        obtain ⟨b35, e36, h⟩ := h
        refine ⟨b35, e36, ?_⟩
        obtain ⟨c37, h⟩ := h
        refine ⟨c37, ?_⟩
        refine cm_X4_exchange (kh_X4_exchange h) h (fun x38 x39 hp h g40 => ?_)
        have h := h g40
        have K := kh_tr K hp.2
        intro x42 e41
        have h := h x42 e41
        have K := kh_R K e41
        obtain ⟨b43, e44, h⟩ := h
        refine ⟨b43, e44, ?_⟩
        obtain ⟨c45, h⟩ := h
        refine ⟨c45, ?_⟩
        refine cm_X7_forget (kh_X7_forget h) h (fun x46 hp h g47 => ?_)
        have h := h g47
        have K := kh_tr K hp.2
        obtain ⟨b48, e49, h⟩ := h
        refine ⟨b48, e49, ?_⟩
        obtain ⟨c50, h⟩ := h
        refine ⟨c50, ?_⟩
        refine cm_X0_end (kh_X0_end h) h (fun x51 hp h g52 => ?_)
        have h := h g52
        have K := kh_tr K hp.2
        obtain ⟨b53, e54, h⟩ := h
        refine ⟨b53, e54, ?_⟩
        obtain ⟨c55, h⟩ := h
        refine ⟨c55, ?_⟩
        intro x57 e56
        have h := h x57 e56
        refine cm_X9_grant (kh_X9_grant h) h (fun x58 x59 hp h g60 => ?_)
        have h := h g60
        have K := kh_tr K hp.2
        exact ⟨h, K⟩
      · intro c61
        have h := h.2 c61
        refine cm_X9_refuse (kh_X9_refuse h) h (fun x62 x63 hp h g64 => ?_)
        have h := h g64
        have K := kh_tr K hp.2
        exact ⟨h, K⟩
    · intro c65
      have h := h.2 c65
      exact kh_X9_world_12 h K
theorem kh_X9_world {Q : Int32 → HS → Prop} {v0 : Nat} {v1 : Int32} {S : HS} (h : P_X9_world v0 v1 Q S) : P_X9_world v0 v1 (fun r T => Q r T ∧ KH S T) S := kh_X9_world_0 h (kh_rf S)
end
section
/-! world(n) of the reference, with all that was told, 2 -/
section Ct15
variable {f : Nat → Int32} {n a rd nm ns nk p : Nat} {A : AS} {σ : Res} {Q : Int32 → HS → Prop} {QU : HS → Prop} {S T : HS} {v0 : Nat}
def WmX (m : Nat) (S : HS) (R : AS ⊕ (Nat × Nat)) (RG : GC) (x : Int32) (T : HS) : Prop := WmB R m x T ∧ (∀ b, b ∈ hL S → b ≠ m → fI T b = fI S b ∧ fR T b = fR S b) ∧ (∀ j, j ≠ 3 → j ≠ 4 → fR T m j = fR S m j) ∧ (∀ x, x ∈ hL T → x ∈ hL S ∨ hK T x = 10 ∨ (12 ≤ hK T x ∧ hK T x < 16)) ∧ match R with
  | .inl A => ∃ rd, fR T m 3 = some rd ∧ rd ∉ hL S ∧ ob T rd 10 ∧ CtM rd A RG T ∧ Cnt rd A T ∧ DMr m rd T ∧ ∀ i b, fR T rd i = some b → b ∉ hL S
  | .inr _ => fR T m 3 = fR S m 3
set_option maxHeartbeats 1000000 in
theorem sq_X11_world_ok {v1 : Int32} (h : P_X11_world v0 v1 Q S) (hv : v1 = nI n) (hn : n ≤ 900) (ha : fR S v0 5 = some a) (oa : ob S a 12) (hN9 : hN S a = 900) (hf : ∀ j, j < n → fI S a j = f j) (hB : ∀ j, j < n → -128 ≤ (f j).toInt ∧ (f j).toInt ≤ 127) (hle : v1 ≤ fI S v0 6) : P_X11_world v0 v1 (fun x T => Q x T ∧ WmX v0 S (sAll f n 1000 0 A00) (gAll f n 1000 0 A00 G00) x T) S := by
  have iv : v1.toInt = (n : Int) := by rw [hv]; exact nI_i (by omega)
  have e0 : (0 : Int32).toInt = 0 := by decide
  delta P_X11_world P_X11_world_0
  obtain ⟨o1, h⟩ := h
  refine ⟨o1, ?_⟩
  have nav : a ≠ v0 := ob_ne oa o1 (by decide)
  intro S2 e2
  have h := h S2 e2
  refine ⟨fun c3 => ?_, fun c8 => ?_⟩
  · have := lt_i c3
    omega
  have h := h.2 c8
  intro x9 ex9
  have h := h x9 ex9
  rw [wI_ne e2 (by decide)] at ex9
  refine ⟨fun c10 => ?_, fun c42 => absurd (by rw [ex9]; exact hle) c42⟩
  have h := h.1 c10
  intro S11 e11
  have h := h S11 e11
  intro S12 e12
  have h := h S12 e12
  intro S13 e13
  have h := h S13 e13
  intro S14 e14
  have h := h S14 e14
  have F14 : Fr [0, 7, 6, 8, 13] [] v0 S S14 := fr_wI (fr_wI (fr_wI (fr_wI (fr_wI (fr_rf _ _ _ _) e2 (by decide)) e11 (by decide)) e12 (by decide)) e13 (by decide)) e14 (by decide)
  have o14 : ob S14 v0 11 := fm_ob F14 o1
  have oa14 : ob S14 a 12 := fm_ob F14 oa
  intro a15 ea15
  have h := h a15 ea15
  intro S16 e16
  have h := h S16 e16
  have o16 : ob S16 v0 11 := gr_ob (gr_of_new e16 ea15) o14
  have oa16 : ob S16 a 12 := gr_ob (gr_of_new e16 ea15) oa14
  have or16 : ob S16 a15 10 := ob_of_new e16
  have nva : v0 ≠ a15 := ob_ne o16 or16 (by decide)
  have naa : a ≠ a15 := ob_ne oa16 or16 (by decide)
  have I16 : ∀ c, c ≠ a15 → fI S16 c = fI S14 c ∧ fR S16 c = fR S14 c ∧ hN S16 c = hN S14 c := fun c hc => by
    rw [e16]
    exact ⟨va_up_ne _ _ hc, va_up_ne _ _ hc, va_up_ne _ _ hc⟩
  refine cm_X10_init (sp_X10_init h e16) h (fun S17 hp h g18 => ?_)
  have h := h g18
  obtain ⟨-, F, bx, f1, f2, f3⟩ := hp
  rw [e16] at bx
  intro S19 e19
  have h := h S19 e19
  obtain ⟨nm, ns, nk, W⟩ := bx_RMw ea15 bx f1 f2 f3 o14 e19
  rw [← e16] at bx
  intro S20 e20
  have h := h S20 e20
  have I17 : ∀ c, c ∈ hL S16 → c ≠ a15 → fI S17 c = fI S16 c ∧ fR S17 c = fR S16 c ∧ hN S17 c = hN S16 c := fun c hc hne => ⟨(bx.2.1 c hc hne).1, (bx.2.1 c hc hne).2.2, (bx.1 c hc).2.2⟩
  have V20 : ∀ j, j ≠ 9 → fI S20 v0 j = fI S14 v0 j := fun j hj => by
    rw [wI_ne e20 hj]
    have : fI S19 v0 = fI S17 v0 := by rw [e19]; rfl
    rw [this, (I17 v0 o16.1 nva).1, (I16 v0 nva).1]
  have E20 : EM f n a v0 S20 := by
    refine ⟨?_, ?_, ?_, ?_, hn, ⟨nav, ?_⟩, hB⟩
    · have q1 : fR S20 v0 5 = fR S19 v0 5 := by rw [e20]; rfl
      have q2 : fR S19 v0 5 = fR S17 v0 5 := by rw [e19]; exact u2_ne _ _ (fun z => absurd z.2 (by decide))
      rw [q1, q2, (I17 v0 o16.1 nva).2.1, (I16 v0 nva).2.1, F14.2.2.2.1]; exact ha
    · rw [rw_I e20 nav]
      have : fI S19 a = fI S17 a := by rw [e19]; rfl
      rw [this, (I17 a oa16.1 naa).1, (I16 a naa).1, (F14.2.2.2.2.1 a nav).1]; exact hf
    · rw [V20 7 (by decide), wI_ne e14 (by decide), wI_ne e13 (by decide), wI_ne e12 (by decide), wI_at e11, hv]
    · have q1 : hN S20 = hN S17 := by rw [e20, e19]; rfl
      rw [q1, (I17 a oa16.1 naa).2.2, (I16 a naa).2.2, F14.2.2.1]; exact hN9
    · have oa17 := gr_ob bx.1 oa16
      rw [e20, e19]; exact oa17
  have W20 : RMw v0 a15 nm ns nk A00 S20 := rm_F W (fr_wI (fr_rf _ _ _ _) e20 (by decide))
  have k9 : fI S20 v0 9 = 0 := wI_at e20
  have k8 : fI S20 v0 8 = nI 0 := by rw [V20 8 (by decide), wI_ne e14 (by decide), wI_at e13]; rfl
  have k13 : fI S20 v0 13 = 0 := by rw [V20 13 (by decide), wI_at e14]
  refine cm_X11_goesOn (sp0_X11_goesOn h E20 (by rw [k9]; decide) k8 k13 (by decide)) h (fun S21 hp h g22 => ?_)
  have h := h g22
  have G21 : FM v0 S20 S21 := fr_up hp.2.1 (by decide) (by decide)
  have M21 : MS f n a v0 (.inl 0) S21 := ⟨em_fr E20 G21 (by decide), hp.2.2, fun p z => by cases z; decide⟩
  have ar : ∀ j b, fR S17 a15 j = some b → b ∉ hL S16 := fun j b e => by
    rcases bx.2.2.2.2.1 j b e with z | z
    · exact z.1
    · rw [e16] at z
      have z : va_up (fR S14) a15 (fun _ => none) a15 j = some b := z
      rw [va_up_self] at z
      cases z
  have R19 : fR S19 a15 = fR S17 a15 := by rw [e19]; exact u2_row _ _ (Ne.symm nva)
  have R21 : fR S21 = fR S19 := by rw [G21.2.2.2.1, e20]; rfl
  have dm : DMr v0 a15 S21 := by
    refine ⟨fun i b _ _ e => ?_, fun i j b _ _ _ _ e1 e2 => ?_⟩
    · rw [R21, R19] at e
      exact ⟨fun z => ar i b e (z ▸ o16.1), fun z => ar i b e (z ▸ or16.1)⟩
    · rw [R21, R19] at e1 e2
      exact bx.2.2.2.2.2.1 i j b (ar i b e1) e1 e2
  have ct0 : CtM a15 A00 G00 S21 := fun i b _ _ _ z hz => by
    have : cntM A00 i = 0 := by
      unfold cntM
      repeat' split
      all_goals rfl
    omega
  refine cm_X11_readAll (sq_X11_readAll h M21 (rm_F W20 G21) rfl dm ct0) (kh_X11_readAll h) (fun S23 hp hkh g24 => ?_)
  have h := hkh.1
  have h := h g24
  have KO := hp.2.2
  have ctR := hp.2.1.2
  replace hp := hp.2.1.1
  have w4 : fR S21 v0 4 = some a15 := by rw [R21, e19]; exact u2_self _ _ _ _
  have old : ∀ b, b ∈ hL S → b ≠ v0 → fI S23 b = fI S b ∧ fR S23 b = fR S b := fun b hb hv => by
    have hb14 : b ∈ hL S14 := by rw [F14.1]; exact hb
    have hba : b ≠ a15 := fun z => ea15 (z ▸ hb14)
    have hb16 : b ∈ hL S16 := (gr_of_new e16 ea15 b hb14).1
    have q1 := I16 b hba
    have q2 := I17 b hb16 hba
    have no : ¬ OwS_M v0 S21 b := fun z => by
      rcases z with z | ⟨w, e, z | ⟨j, -, z⟩⟩
      · exact hv z
      · cases w4.symm.trans e
        exact hba z
      · cases w4.symm.trans e
        rw [R21, R19] at z
        exact ar j b z hb16
    refine ⟨?_, ?_⟩
    · rw [KO.2 b no, (G21.2.2.2.2.1 b hv).1, rw_I e20 hv]
      have : fI S19 b = fI S17 b := by rw [e19]; rfl
      rw [this, q2.1, q1.1, (F14.2.2.2.2.1 b hv).1]
    · rw [KO.1, R21]
      have : fR S19 b = fR S17 b := by rw [e19]; exact u2_row _ _ hv
      rw [this, q2.2.1, q1.2.1, F14.2.2.2.1]
  have oldm : ∀ j, j ≠ 4 → fR S23 v0 j = fR S v0 j := fun j hj => by
    rw [KO.1, R21]
    have : fR S19 v0 j = fR S17 v0 j := by rw [e19]; exact u2_ne _ _ (fun z => hj z.2)
    rw [this, (I17 v0 o16.1 nva).2.1, (I16 v0 nva).2.1, F14.2.2.2.1]
  have nS : a15 ∉ hL S := fun z => ea15 (by rw [F14.1]; exact z)
  have or23 : ob S23 a15 10 := gr_ob g24 (gr_ob g22 (by
    have := gr_ob g18 or16
    rw [e20, e19]
    exact this))
  have dm23 := dm_mv KO.1 dm
  have l23 : hL S23 = hL S17 := by rw [hkh.2.1, G21.1, e20, e19]; rfl
  have k23 : hK S23 = hK S17 := by rw [hkh.2.2, G21.2.1, e20, e19]; rfl
  have newk : ∀ x, x ∈ hL S23 → x ∈ hL S ∨ hK S23 x = 10 ∨ (12 ≤ hK S23 x ∧ hK S23 x < 16) := fun x hx => by
    rw [l23] at hx
    rcases bx.2.2.1 x hx with q | q
    · rw [e16] at q
      have q : x ∈ hL S14 ++ [a15] := q
      rcases List.mem_append.mp q with q | q
      · left
        rw [← F14.1]
        exact q
      · right; left
        rw [List.mem_singleton.mp q]
        exact or23.2
    · right; right
      rw [k23]
      exact q
  intro x25 ex25
  have h := h x25 ex25
  cases hR : sAll f n 1000 0 A00 with
  | inl A =>
    rw [hR] at hp
    obtain ⟨⟨q, M⟩, W⟩ := hp
    have f13 : fI S23 v0 13 = 0 := M.2.1.2.2.2.2.2.2.2
    refine ⟨fun c26 => ?_, fun c38 => absurd (by rw [ex25, f13]; decide) c38⟩
    have h := h.1 c26
    obtain ⟨a27, ea27, h⟩ := h
    refine ⟨a27, ea27, ?_⟩
    cases W.1.symm.trans ea27
    intro S28 e28
    have h := h S28 e28
    intro S29 e29
    have h := h S29 e29
    intro S30 e30
    have h := h S30 e30
    intro S31 e31
    have h := h S31 e31
    obtain ⟨a32, ea32, h⟩ := h
    refine ⟨a32, ea32, ?_⟩
    have hr : fR S31 v0 3 = some a15 := by
      rw [e31, e30, e29, e28]; exact u2_self _ _ _ _
    cases hr.symm.trans ea32
    obtain ⟨o33, h⟩ := h
    refine ⟨o33, ?_⟩
    intro x34 ex34
    have h := h x34 ex34
    have nav2 : a15 ≠ v0 := Ne.symm nva
    have q34 : x34 = nI (aW A) := by
      rw [ex34, rw_I e31 nav2, rw_I e30 nav2, rw_I e29 nav2]
      have : fI S28 a15 = fI S23 a15 := by rw [e28]; rfl
      rw [this]; exact W.2.2.1.2.2.2.2.1
    have q13 : fI S31 v0 13 = 0 := by
      rw [wI_ne e31 (by decide), wI_ne e30 (by decide), wI_ne e29 (by decide)]
      have : fI S28 v0 = fI S23 v0 := by rw [e28]; rfl
      rw [this]; exact f13
    refine cm_X11_good (sp_X11_good h) h (fun x35 S36 hp h g37 => ?_)
    have h := h g37
    obtain ⟨-, z1, z2, z3, z4⟩ := hp
    have fR36 : ∀ b j, ¬ (b = v0 ∧ j = 3) → fR S36 b j = fR S23 b j := fun b j hb => by
      rw [z2.2.2.2.1, e31, e30, e29, e28]
      exact u2_ne _ _ hb
    have fR36a : fR S36 a15 = fR S23 a15 := funext fun j => fR36 a15 j (fun z => nav2 z.1)
    have fI36 : ∀ b, b ≠ v0 → fI S36 b = fI S23 b := fun b hb => by
      rw [(z2.2.2.2.2.1 b hb).1, rw_I e31 hb, rw_I e30 hb, rw_I e29 hb]
      have : fI S28 b = fI S23 b := by rw [e28]; rfl
      rw [this]
    refine ⟨h, ⟨by rw [z1, q34], by rw [z2.2.2.2.2.2.1 13 (by decide)]; exact q13, z3, z4⟩, fun b hb hv => ⟨(fI36 b hv).trans (old b hb hv).1, ?_⟩, fun j h3 h4 => ?_, ?_, a15, ?_, nS, gr_ob g37 (by rw [e31, e30, e29, e28]; exact or23), ?_, cn_row W.2.2.1 (fI36 a15 nav2), ?_, fun i b e z => ?_⟩
    · rw [← (old b hb hv).2]
      exact funext fun j => fR36 b j (fun z => hv z.1)
    · rw [fR36 v0 j (fun z => h3 z.2)]
      exact oldm j h4
    · have l36 : hL S36 = hL S23 := by rw [z2.1, e31, e30, e29, e28]; rfl
      have k36 : hK S36 = hK S23 := by rw [z2.2.1, e31, e30, e29, e28]; rfl
      rw [l36, k36]
      exact newk
    · rw [z2.2.2.2.1]
      exact hr
    · intro i b h1 h2 e z hz
      rw [fR36a] at e
      rw [fI36 b (dm23.1 i b h1 (by omega) e).1]
      exact ctR A hR i b h1 h2 e z hz
    · unfold DMr
      rw [fR36a]
      exact dm23
    · rw [fR36a, KO.1, R21, R19] at e
      exact ar i b e (gr_of_new e16 ea15 b (by rw [F14.1]; exact z)).1
  | inr e =>
    have pe := po_all _ _ _ _ hR
    rw [hR] at hp
    have M : MS f n a v0 (.inr e) S23 := hp
    have f13 : fI S23 v0 13 = nI e.1 := M.2.1.2.1
    have f14 : fI S23 v0 14 = nI e.2 := M.2.1.2.2
    refine ⟨fun c26 => ?_, fun c38 => ?_⟩
    · have := le_i c26
      rw [ex25, f13, nI_i (by omega)] at this
      omega
    · have h := h.2 c38
      intro S39 e39
      have h := h S39 e39
      intro x40 ex40
      have h := h x40 ex40
      intro S41 e41
      have h := h S41 e41
      have r41 : fR S41 = fR S23 := by rw [e41, e39]; rfl
      refine ⟨h, ⟨rfl, by rw [wI_ne e41 (by decide), wI_ne e39 (by decide)]; exact f13, by rw [wI_ne e41 (by decide), wI_at e39], by rw [wI_at e41, ex40, wI_ne e39 (by decide)]; exact f14⟩, fun b hb hv => ⟨?_, ?_⟩, fun j _ h4 => ?_, ?_, ?_⟩
      · rw [rw_I e41 hv, rw_I e39 hv]
        exact (old b hb hv).1
      · rw [r41]
        exact (old b hb hv).2
      · rw [r41]
        exact oldm j h4
      · have l41 : hL S41 = hL S23 := by rw [e41, e39]; rfl
        have k41 : hK S41 = hK S23 := by rw [e41, e39]; rfl
        rw [l41, k41]
        exact newk
      · show fR S41 v0 3 = fR S v0 3
        rw [r41]
        exact oldm 3 (by decide)
end Ct15
end
