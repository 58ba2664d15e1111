/-! all that was told: kept from line to line -/
abbrev GC : Type := (Nat → Nat → Int32) × (Nat → Nat) × (Nat → Int32) × (Nat → Nat → Int32) × (Nat → Nat → Int32) × (Nat → Nat → Int32)
def gRn (G : GC) : Nat → Nat → Int32 := G.1
def gPk (G : GC) : Nat → Nat := G.2.1
def gPv (G : GC) : Nat → Int32 := G.2.2.1
def gRd (G : GC) : Nat → Nat → Int32 := G.2.2.2.1
def gWk (G : GC) : Nat → Nat → Int32 := G.2.2.2.2.1
def gSn (G : GC) : Nat → Nat → Int32 := G.2.2.2.2.2
def gu1 (G : GC) (k : Nat) (c : Nat → Int32) : GC := (va_up (gRn G) k c, G.2)
def gu2 (G : GC) (k q : Nat) (v : Int32) : GC := (G.1, va_up (gPk G) k q, va_up (gPv G) k v, G.2.2.2)
def gu3 (G : GC) (k : Nat) (c : Nat → Int32) : GC := (G.1, G.2.1, G.2.2.1, va_up (gRd G) k c, G.2.2.2.2)
def gu4 (G : GC) (k : Nat) (c : Nat → Int32) : GC := (G.1, G.2.1, G.2.2.1, G.2.2.2.1, va_up (gWk G) k c, G.2.2.2.2.2)
def gu5 (G : GC) (k : Nat) (c : Nat → Int32) : GC := (G.1, G.2.1, G.2.2.1, G.2.2.2.1, G.2.2.2.2.1, va_up (gSn G) k c)
noncomputable def gLn (f : Nat → Int32) (n p : Nat) (A : AS) (G : GC) : GC := dc (isW f n p 0) G (dc (isW f n p 2) (gu1 G (aHs A) (rnC f n (tEn f n p))) (dc (isW f n p 11) (gu2 G (aP A) (plK f n (tEn f n p)) (plV f n (tEn f n p))) (dc (isW f n p 12) (gu3 G (aR A) (rdC f n (tEn f n p) A)) (dc (isW f n p 13) (gu4 G (aW A) (wkC f n (tEn f n p))) (gu5 G (aS A) (snC f n (tEn f n p) A))))))
/-- behind a line, what was told in all -/
def gAft (f : Nat → Int32) (n : Nat) (G0 G1 : GC) (g : Nat → GC) (L : Res) : GC := match L with
  | .inr _ => G0
  | .inl p1 => if tS f n p1 = 0 then G1 else (match sSign f n p1 3 with
    | .inr _ => G0
    | .inl p2 => g p2)
noncomputable def gAll (f : Nat → Int32) (n : Nat) : Nat → Nat → AS → GC → GC
  | 0, _, _, G => G
  | k + 1, p, A, G => gAft f n G (gLn f n p A G) (fun p2 => gAll f n k p2 (aLn f n p A) (gLn f n p A G)) (sLn f n p A)
def ElC (fl N w cnt : Nat) (g : Nat → Nat → Int32) (B S : HS) : Prop := ∀ ra, fR B w fl = some ra → ∀ h, h < cnt → ∃ o, fR B ra h = some o ∧ ∀ j, j < N → fI S o j = g h j
def DrC (w : Nat) (A : AS) (G : GC) (B S : HS) : Prop := ∀ d, fR B w 7 = some d → ∀ i, i < aP A → fI S d i = dripOf (gPk G i) (gPv G i)
def SnCt (w : Nat) (A : AS) (G : GC) (B S : HS) : Prop := ∀ sw sf, fR B w 10 = some sw → fR B w 11 = some sf → ∀ i, i < aS A → fI S sw i = gSn G i 0 ∧ ∀ k, k < 5 → fI S sf (5 * i + k) = gSn G i (k + 1)
def CtB (w : Nat) (A : AS) (G : GC) (B S : HS) : Prop := ElC 6 5 w (aHs A) (gRn G) B S ∧ DrC w A G B S ∧ ElC 8 5 w (aR A) (gRd G) B S ∧ ElC 9 7 w (aW A) (gWk G) B S ∧ SnCt w A G B S
/-- the things of a world: there, of their kinds, each another -/
def WKd (w : Nat) (B : HS) : Prop := (∀ q ∈ ([(6, 3, 6), (8, 5, 12), (9, 6, 4)] : List (Nat × Nat × Nat)), ∃ ra, fR B w q.1 = some ra ∧ (∀ i o, i < q.2.2 → fR B ra i = some o → ob B o q.2.1) ∧ ∀ i j o, i < q.2.2 → j < q.2.2 → fR B ra i = some o → fR B ra j = some o → i = j) ∧ (∀ fl ∈ ([7, 10, 11] : List Nat), ∃ d, fR B w fl = some d ∧ ob B d 13) ∧ ∀ f1 f2 d, f1 ∈ ([7, 10, 11] : List Nat) → f2 ∈ ([7, 10, 11] : List Nat) → fR B w f1 = some d → fR B w f2 = some d → f1 = f2
section Ct4
variable {f : Nat → Int32} {n a r w nm nd p fl k N cnt M : Nat} {A : AS} {G : GC} {B S T : HS} {c : Nat → Int32} {g : Nat → Nat → Int32}
theorem wk_el (hW : WKd w B) {q : Nat × Nat × Nat} (hq : q ∈ ([(6, 3, 6), (8, 5, 12), (9, 6, 4)] : List (Nat × Nat × Nat))) {ra i o : Nat} (h1 : fR B w q.1 = some ra) (h2 : i < q.2.2) (h3 : fR B ra i = some o) : ob B o q.2.1 := by
  obtain ⟨ra', e, k, -⟩ := hW.1 q hq
  cases e.symm.trans h1
  exact k i o h2 h3
theorem wk_inj (hW : WKd w B) {q : Nat × Nat × Nat} (hq : q ∈ ([(6, 3, 6), (8, 5, 12), (9, 6, 4)] : List (Nat × Nat × Nat))) {ra i j o : Nat} (h1 : fR B w q.1 = some ra) (h2 : i < q.2.2) (h2' : j < q.2.2) (h3 : fR B ra i = some o) (h4 : fR B ra j = some o) : i = j := by
  obtain ⟨ra', e, -, k⟩ := hW.1 q hq
  cases e.symm.trans h1
  exact k i j o h2 h2' h3 h4
theorem wk_d (hW : WKd w B) {d : Nat} (hq : fl ∈ ([7, 10, 11] : List Nat)) (h1 : fR B w fl = some d) : ob B d 13 := by
  obtain ⟨d', e, k⟩ := hW.2.1 fl hq
  cases e.symm.trans h1
  exact k
/-- not one of the reader's own few -/
theorem nx4 (hB : BFa a r w nm nd B) {b q : Nat} (o : ob B b q) (hq : q = 3 ∨ q = 5 ∨ q = 6) : b ∉ [r, w, nm, nd] := by
  have n1 := ob_ne o hB.2.1 (by omega)
  have n2 := ob_ne o hB.2.2.1 (by omega)
  have n3 := ob_ne o hB.2.2.2.1 (by omega)
  have n4 := ob_ne o hB.2.2.2.2.1 (by omega)
  simp [n1, n2, n3, n4]
theorem nx4d (hB : BFa a r w nm nd B) (hd : DSt w nd B) (hW : WKd w B) {b : Nat} (hq : fl ∈ ([7, 10, 11] : List Nat)) (h1 : fR B w fl = some b) : b ∉ [r, w, nm, nd] := by
  have o := wk_d hW hq h1
  have n1 := ob_ne o hB.2.1 (by omega)
  have n2 := ob_ne o hB.2.2.1 (by omega)
  have n3 := ob_ne o hB.2.2.2.1 (by omega)
  have n4 := hd fl b (by simpa using hq) h1
  simp [n1, n2, n3, n4]
theorem el_keep (h : ElC fl N w cnt g B S) (hk : ∀ ra i o, fR B w fl = some ra → i < cnt → fR B ra i = some o → fI T o = fI S o) : ElC fl N w cnt g B T := by
  intro ra e i hi
  obtain ⟨o, h1, h2⟩ := h ra e i hi
  exact ⟨o, h1, fun j hj => by rw [hk ra i o e hi h1]; exact h2 j hj⟩
theorem el_add (hB : BFa a r w nm nd B) (hW : WKd w B) (hq : (fl, k, M) ∈ ([(6, 3, 6), (8, 5, 12), (9, 6, 4)] : List (Nat × Nat × Nat))) (hk : k = 3 ∨ k = 5 ∨ k = 6) (hc : cnt < M) (h : ElC fl N w cnt g B S) (D : ObD fl k cnt N r w nm nd c B S T) : ElC fl N w (cnt + 1) (va_up g cnt c) B T := by
  intro ra e i hi
  obtain ⟨ra', o, d1, d2, d3, d4, d5⟩ := D
  cases d1.symm.trans e
  by_cases hi2 : i = cnt
  · subst hi2
    exact ⟨o, d2, fun j hj => by rw [va_up_self]; exact d5 j hj⟩
  · obtain ⟨o', h1, h2⟩ := h ra e i (by omega)
    have ne : o' ≠ o := fun z => hi2 (wk_inj hW hq e (by show i < M; omega) hc h1 (z ▸ d2))
    have ok := wk_el hW hq e (by show i < M; omega) h1
    exact ⟨o', h1, fun j hj => by rw [va_up_ne _ _ hi2, d4 o' (nx4 hB ok hk) ne]; exact h2 j hj⟩
/-- another row of things than the one that is written -/
theorem el_oth {fl' k' M' : Nat} (hB : BFa a r w nm nd B) (hW : WKd w B) (hq : (fl', k', M') ∈ ([(6, 3, 6), (8, 5, 12), (9, 6, 4)] : List (Nat × Nat × Nat))) (hk : k' = 3 ∨ k' = 5 ∨ k' = 6) (hne : k' ≠ k) (hc : cnt ≤ M') (h : ElC fl' N w cnt g B S) {o : Nat} (d3 : ob B o k) (d4 : ∀ b, b ∉ [r, w, nm, nd] → b ≠ o → fI T b = fI S b) : ElC fl' N w cnt g B T :=
  el_keep h (fun ra i o' e hi h1 => by
    have ok := wk_el hW hq e (by show i < M'; omega) h1
    exact d4 o' (nx4 hB ok hk) (ob_ne ok d3 hne))
theorem dr_oth (hB : BFa a r w nm nd B) (hd : DSt w nd B) (hW : WKd w B) (h : DrC w A G B S) {o : Nat} (ne : ∀ d, fR B w 7 = some d → d ≠ o) (d4 : ∀ b, b ∉ [r, w, nm, nd] → b ≠ o → fI T b = fI S b) : DrC w A G B T := by
  intro d e i hi
  rw [d4 d (nx4d hB hd hW (by decide) e) (ne d e)]
  exact h d e i hi
theorem sn_oth (hB : BFa a r w nm nd B) (hd : DSt w nd B) (hW : WKd w B) (h : SnCt w A G B S) {o : Nat} (ne : ∀ fl ∈ ([10, 11] : List Nat), ∀ d, fR B w fl = some d → d ≠ o) (d4 : ∀ b, b ∉ [r, w, nm, nd] → b ≠ o → fI T b = fI S b) : SnCt w A G B T := by
  intro sw sf e1 e2 i hi
  rw [d4 sw (nx4d hB hd hW (by decide) e1) (ne 10 (by decide) sw e1), d4 sf (nx4d hB hd hW (by decide) e2) (ne 11 (by decide) sf e2)]
  exact h sw sf e1 e2 i hi
theorem ne_d13 (hW : WKd w B) {o : Nat} (o3 : ob B o k) (hk : k ≠ 13) : ∀ fl ∈ ([7, 10, 11] : List Nat), ∀ d, fR B w fl = some d → d ≠ o := fun fl hf d e => ob_ne (wk_d hW hf e) o3 (Ne.symm hk)
theorem ct_rain (hB : BFa a r w nm nd B) (hd : DSt w nd B) (hW : WKd w B) (ab : ABd A) (hc : aHs A < 6) (h : CtB w A G B S) (D : ObD 6 3 (aHs A) 5 r w nm nd c B S T) : CtB w (up1 A) (gu1 G (aHs A) c) B T := by
  obtain ⟨h1, h2, h3, h4, h5⟩ := h
  have D' := D
  obtain ⟨ra, o, d1, d2, d3, d4, d5⟩ := D'
  have ne := ne_d13 hW d3 (by decide)
  exact ⟨el_add hB hW (by decide) (by decide) hc h1 D, dr_oth hB hd hW h2 (ne 7 (by decide)) d4, el_oth hB hW (k' := 5) (M' := 12) (by decide) (by decide) (by decide) ab.2.2.2.1 h3 d3 d4, el_oth hB hW (k' := 6) (M' := 4) (by decide) (by decide) (by decide) ab.2.2.2.2.1 h4 d3 d4, sn_oth hB hd hW h5 (fun fl hf => ne fl (List.mem_cons_of_mem _ hf)) d4⟩
theorem ct_road (hB : BFa a r w nm nd B) (hd : DSt w nd B) (hW : WKd w B) (ab : ABd A) (hc : aR A < 12) (h : CtB w A G B S) (D : ObD 8 5 (aR A) 5 r w nm nd c B S T) : CtB w (up3 A) (gu3 G (aR A) c) B T := by
  obtain ⟨h1, h2, h3, h4, h5⟩ := h
  have D' := D
  obtain ⟨ra, o, d1, d2, d3, d4, d5⟩ := D'
  have ne := ne_d13 hW d3 (by decide)
  exact ⟨el_oth hB hW (k' := 3) (M' := 6) (by decide) (by decide) (by decide) ab.2.1 h1 d3 d4, dr_oth hB hd hW h2 (ne 7 (by decide)) d4, el_add hB hW (by decide) (by decide) hc h3 D, el_oth hB hW (k' := 6) (M' := 4) (by decide) (by decide) (by decide) ab.2.2.2.2.1 h4 d3 d4, sn_oth hB hd hW h5 (fun fl hf => ne fl (List.mem_cons_of_mem _ hf)) d4⟩
theorem ct_walk {v : Int64} {i : Nat} (hB : BFa a r w nm nd B) (hd : DSt w nd B) (hW : WKd w B) (ab : ABd A) (hc : aW A < 4) (h : CtB w A G B S) (D : ObD 9 6 (aW A) 7 r w nm nd c B S T) : CtB w (up4 (upN A v i)) (gu4 G (aW A) c) B T := by
  obtain ⟨h1, h2, h3, h4, h5⟩ := h
  have D' := D
  obtain ⟨ra, o, d1, d2, d3, d4, d5⟩ := D'
  have ne := ne_d13 hW d3 (by decide)
  exact ⟨el_oth hB hW (k' := 3) (M' := 6) (by decide) (by decide) (by decide) ab.2.1 h1 d3 d4, dr_oth hB hd hW h2 (ne 7 (by decide)) d4, el_oth hB hW (k' := 5) (M' := 12) (by decide) (by decide) (by decide) ab.2.2.2.1 h3 d3 d4, el_add hB hW (by decide) (by decide) hc h4 D, sn_oth hB hd hW h5 (fun fl hf => ne fl (List.mem_cons_of_mem _ hf)) d4⟩
theorem ct_place {v : Int64} {i q : Nat} {x : Int32} (hB : BFa a r w nm nd B) (hd : DSt w nd B) (hW : WKd w B) (ab : ABd A) (h : CtB w A G B S) (D : PlD r w nm nd (aP A) (dripOf q x) B S T) : CtB w (up2 (upN A v i)) (gu2 G (aP A) q x) B T := by
  obtain ⟨h1, h2, h3, h4, h5⟩ := h
  obtain ⟨d, d1, d3, d4, d5⟩ := D
  refine ⟨el_oth hB hW (k' := 3) (M' := 6) (by decide) (by decide) (by decide) ab.2.1 h1 d3 d4, ?_, el_oth hB hW (k' := 5) (M' := 12) (by decide) (by decide) (by decide) ab.2.2.2.1 h3 d3 d4, el_oth hB hW (k' := 6) (M' := 4) (by decide) (by decide) (by decide) ab.2.2.2.2.1 h4 d3 d4, sn_oth hB hd hW h5 (fun fl hf e he z => ?_) d4⟩
  · intro d' e i' hi
    cases d1.symm.trans e
    have hi : i' < aP A + 1 := hi
    rw [d5]
    show va_up (fI S d) (aP A) (dripOf q x) i' = dripOf (va_up (gPk G) (aP A) q i') (va_up (gPv G) (aP A) x i')
    by_cases z : i' = aP A
    · rw [z, va_up_self, va_up_self, va_up_self]
    · rw [va_up_ne _ _ z, va_up_ne _ _ z, va_up_ne _ _ z]
      exact h2 d e i' (by omega)
  · have := hW.2.2 fl 7 d (List.mem_cons_of_mem _ hf) (by decide) (z ▸ he) d1
    rw [this] at hf
    exact absurd hf (by decide)
theorem ct_seen {sw sf : Nat} (hB : BFa a r w nm nd B) (hd : DSt w nd B) (hW : WKd w B) (ab : ABd A) (hs : SnW B w sw sf) (h : CtB w A G B S) (D : SnT f n r w nm nd sw sf (aS A) (tEn f n p) (nI (lkV A (tV f n p) - 8)) S 5 T) : CtB w (up5 A) (gu5 G (aS A) (snC f n p A)) B T := by
  obtain ⟨h1, h2, h3, h4, h5⟩ := h
  obtain ⟨d1, d2, d3, d4⟩ := D
  obtain ⟨w1, w2, w3, w4, w5⟩ := hs
  have e6 : ∀ ra i o, fR B w 6 = some ra → i < aHs A → fR B ra i = some o → fI T o = fI S o := fun ra i o e hi he => by
    have ok := wk_el hW (q := (6, 3, 6)) (by decide) e (by show i < 6; exact Nat.lt_of_lt_of_le hi ab.2.1) he
    exact d1 o (nx4 hB ok (by decide)) (ob_ne ok w4 (by decide)) (ob_ne ok w5 (by decide))
  have e8 : ∀ ra i o, fR B w 8 = some ra → i < aR A → fR B ra i = some o → fI T o = fI S o := fun ra i o e hi he => by
    have ok := wk_el hW (q := (8, 5, 12)) (by decide) e (by show i < 12; exact Nat.lt_of_lt_of_le hi ab.2.2.2.1) he
    exact d1 o (nx4 hB ok (by decide)) (ob_ne ok w4 (by decide)) (ob_ne ok w5 (by decide))
  have e9 : ∀ ra i o, fR B w 9 = some ra → i < aW A → fR B ra i = some o → fI T o = fI S o := fun ra i o e hi he => by
    have ok := wk_el hW (q := (9, 6, 4)) (by decide) e (by show i < 4; exact Nat.lt_of_lt_of_le hi ab.2.2.2.2.1) he
    exact d1 o (nx4 hB ok (by decide)) (ob_ne ok w4 (by decide)) (ob_ne ok w5 (by decide))
  refine ⟨el_keep h1 e6, ?_, el_keep h3 e8, el_keep h4 e9, ?_⟩
  · intro d e i hi
    have n1 : d ≠ sw := fun z => absurd (hW.2.2 7 10 d (by decide) (by decide) e (z ▸ w1)) (by decide)
    have n2 : d ≠ sf := fun z => absurd (hW.2.2 7 11 d (by decide) (by decide) e (z ▸ w2)) (by decide)
    rw [d1 d (nx4d hB hd hW (by decide) e) n1 n2]
    exact h2 d e i hi
  · intro sw' sf' e1 e2 i hi
    cases w1.symm.trans e1
    cases w2.symm.trans e2
    have hi : i < aS A + 1 := hi
    show fI T sw i = va_up (gSn G) (aS A) (snC f n p A) i 0 ∧ ∀ k, k < 5 → fI T sf (5 * i + k) = va_up (gSn G) (aS A) (snC f n p A) i (k + 1)
    by_cases z : i = aS A
    · rw [z, va_up_self, d2, va_up_self]
      refine ⟨rfl, fun k hk => ?_⟩
      rw [d4 k hk]
      unfold snC
      rw [if_neg (by omega), Nat.add_sub_cancel]
    · rw [va_up_ne _ _ z, d2, va_up_ne _ _ z]
      refine ⟨(h5 sw sf e1 e2 i (by omega)).1, fun k hk => ?_⟩
      rw [d3 _ (by omega)]
      exact (h5 sw sf e1 e2 i (by omega)).2 k hk
theorem ct_keep (ab : ABd A) (hB : BFa a r w nm nd B) (hd : DSt w nd B) (hW : WKd w B) (h : CtB w A G B S) (d4 : ∀ b, b ∉ [r, w, nm, nd] → fI T b = fI S b) : CtB w A G B T := by
  obtain ⟨h1, h2, h3, h4, h5⟩ := h
  refine ⟨el_keep h1 (fun ra i o e hi he => d4 o (nx4 hB (wk_el hW (q := (6, 3, 6)) (by decide) e (by show i < 6; exact Nat.lt_of_lt_of_le hi ab.2.1) he) (by decide))), ?_, el_keep h3 (fun ra i o e hi he => d4 o (nx4 hB (wk_el hW (q := (8, 5, 12)) (by decide) e (by show i < 12; exact Nat.lt_of_lt_of_le hi ab.2.2.2.1) he) (by decide))), el_keep h4 (fun ra i o e hi he => d4 o (nx4 hB (wk_el hW (q := (9, 6, 4)) (by decide) e (by show i < 4; exact Nat.lt_of_lt_of_le hi ab.2.2.2.2.1) he) (by decide))), ?_⟩
  · intro d e i hi
    rw [d4 d (nx4d hB hd hW (by decide) e)]
    exact h2 d e i hi
  · intro sw sf e1 e2 i hi
    rw [d4 sw (nx4d hB hd hW (by decide) e1), d4 sf (nx4d hB hd hW (by decide) e2)]
    exact h5 sw sf e1 e2 i hi
end Ct4
/-! the whole text, with all that was told -/
section Ct5
variable {f : Nat → Int32} {n a r w nm nd p : Nat} {A : AS} {G : GC} {B S T : HS} {Q : Int32 → HS → Prop}
def RdC (f : Nat → Int32) (n a r w nm nd : Nat) (B : HS) (R : AS ⊕ (Nat × Nat)) (RG : GC) (x : Int32) (T : HS) : Prop := RdB f n a r w nm nd B R x T ∧ ∀ A, R = .inl A → CtB w A RG B T
theorem rdn {R : AS ⊕ (Nat × Nat)} {e : Nat × Nat} {P : AS → Prop} (K : R = .inr e) : ∀ A, R = .inl A → P A := by
  intro A z
  rw [K] at z
  cases z
theorem bq280 {RG : GC} {R : AS ⊕ (Nat × Nat)} (h : P_X4_read_280 Q r S) (ls : LnS f n a r w nm nd B A p S) (K : R = .inr (6, tSt f n p)) : P_X4_read_280 (fun x T => Q x T ∧ RdC f n a r w nm nd B R RG x T) r S := by
  delta P_X4_read_280
  obtain ⟨o74, h⟩ := h
  refine ⟨o74, ?_⟩
  refine cm_X4_fail (sp_X4_fail h) h (fun x75 S76 hp h g77 b78 => ?_)
  have h := h g77 b78
  obtain ⟨-, hx, F, f0, f1⟩ := hp
  refine ⟨fun c => ⟨h.1 c, ⟨rd_f K rfl ⟨by rw [f0]; rfl, by rw [f1]; exact ls.1.2.1.2.1⟩, rdn K⟩⟩, fun c => absurd hx c⟩
set_option maxHeartbeats 2000000 in
theorem bq248 {RG G0 G1 : GC} {k : Nat} {v3 v4 : Int32} {L : Res} {A1 : AS} {R : AS ⊕ (Nat × Nat)} {X X' : Nat → Int32 → HS → Prop} (hB : BFa a r w nm nd B) (h : P_X4_read_248 Q X r v3 v4 S) (lb : LnB f n a r w nm nd B L A1 v4 S) (K : R = aft f n A1 (fun p2 => sAll f n k p2 A1) L) (hd : DSt w nd B) (hW : WKd w B) (ct : v4 = 1 → CtB w A1 G1 B S) (KG : RG = gAft f n G0 G1 (fun p2 => gAll f n k p2 A1 G1) L) (hX : ∀ (p1 p2 : Nat) (y : Int32) (U : HS), L = .inl p1 → sSign f n p1 3 = .inl p2 → y = v3 + 1 → LnS f n a r w nm nd B A1 p2 U → R = sAll f n k p2 A1 → CtB w A1 G1 B U → RG = gAll f n k p2 A1 G1 → X r y U → X' r y U) : P_X4_read_248 (fun x T => Q x T ∧ RdC f n a r w nm nd B R RG x T) X' r v3 v4 S := by
  have hs0 : ∀ q, tS f n q < 100000 := fun q => by have := sS_le f n q; omega
  have e0 : (0 : Int32).toInt = 0 := by decide
  delta P_X4_read_248
  cases L with
  | inr e =>
    have hv : v4 = 0 := lb.1
    refine ⟨fun c => ?_, fun c => absurd hv c⟩
    have h := h.1 c
    delta P_X4_read_295
    exact ⟨fun c => ⟨h.1 c, ⟨rd_f K rfl lb.2, rdn K⟩⟩, fun c => absurd hv c⟩
  | inl p1 =>
    have hv : v4 = 1 := lb.1
    have ls := lb.2
    replace ct := ct hv
    refine ⟨fun c => absurd (c.symm.trans hv) (by decide), fun c => ?_⟩
    have h := h.2 c
    obtain ⟨o56, h⟩ := h
    refine ⟨o56, ?_⟩
    intro x57 ex57
    have h := h x57 ex57
    refine ⟨?_, ?_⟩
    · intro c58
      have h := h.1 c58
      have hn : ¬ tS f n p1 = 0 := fun z => c58 (by rw [ex57, ls.1.2.1.1, z]; rfl)
      have K : R = match sSign f n p1 3 with
        | .inr e => .inr e
        | .inl p2 => sAll f n k p2 A1 := by
        rw [K]
        show (if tS f n p1 = 0 then _ else _) = _
        rw [if_neg hn]
        rfl
      delta P_X4_read_295
      refine ⟨fun c => absurd (c.symm.trans hv) (by decide), fun c => ?_⟩
      have h := h.2 c
      obtain ⟨o61, h⟩ := h
      refine ⟨o61, ?_⟩
      refine cm_X4_sign (sp_X4_sign h ls.1 (k := 3) rfl (by omega)) h (fun x62 S63 hp h g64 b65 => ?_)
      have h := h g64 b65
      obtain ⟨-, F, hc⟩ := hp
      rcases cb_split hB ls F hc (rb_id _) (le_sign ls) with ⟨rfl, lb⟩ | ⟨p2, rfl, hR, -, ls⟩
      · refine ⟨fun c => absurd rfl c, fun c => ⟨h.2 c, ?_⟩⟩
        have lb := lb A1
        cases hR : sSign f n p1 3 with
        | inl p2 => rw [hR] at lb; exact absurd lb.1 (by decide)
        | inr e =>
          rw [hR] at lb K
          exact ⟨rd_f K rfl lb.2, rdn K⟩
      · refine ⟨fun c => ?_, fun c => absurd c (by decide)⟩
        have h := h.1 c
        intro x67 ex67
        have h := h x67 ex67
        refine hX p1 p2 _ _ rfl hR ex67 ls (by rw [K, hR]) (ct_keep ls.2.2.2.2 hB hd hW ct (fun b hb => (F.2.2.2.2.1 b (fun z => hb (by rw [z]; simp))).1)) ?_ h
        rw [KG]
        show (if tS f n p1 = 0 then G1 else _) = _
        rw [if_neg hn, hR]
    · intro c69
      have h := h.2 c69
      have hn : tS f n p1 = 0 := nI_inj (hs0 _) (by omega) (by rw [← ls.1.2.1.1, ← ex57, c69]; rfl)
      have K : R = if 0 < aP A1 ∧ 0 < aW A1 then .inl A1 else .inr (6, tSt f n p1) := by
        rw [K]
        show (if tS f n p1 = 0 then _ else _) = _
        rw [if_pos hn]
      have hab := ls.2.2.2.2
      obtain ⟨a70, ea70, h⟩ := h
      refine ⟨a70, ea70, ?_⟩
      cases (ls_w hB ls).symm.trans ea70
      obtain ⟨o71, h⟩ := h
      refine ⟨o71, ?_⟩
      intro x72 ex72
      have h := h x72 ex72
      have i72 : x72.toInt = (aP A1 : Int) := by rw [ex72, ls.2.2.1.2.2.1]; exact nI_i (by have := hab.2.2.1; omega)
      refine ⟨?_, ?_⟩
      · intro c73
        have := le_i c73
        exact bq280 (h.1 c73) ls (by rw [K, if_neg (by omega)])
      · intro c81
        have := nle_i c81
        have h := h.2 c81
        obtain ⟨a82, ea82, h⟩ := h
        refine ⟨a82, ea82, ?_⟩
        cases (ls_w hB ls).symm.trans ea82
        obtain ⟨o83, h⟩ := h
        refine ⟨o83, ?_⟩
        intro x84 ex84
        have h := h x84 ex84
        have i84 : x84.toInt = (aW A1 : Int) := by rw [ex84, ls.2.2.1.2.2.2.2.1]; exact nI_i (by have := hab.2.2.2.2.1; omega)
        refine ⟨?_, ?_⟩
        · intro c85
          have := lt_i c85
          refine ⟨h.1 c85, ?_⟩
          rw [K, if_pos (by omega)]
          refine ⟨⟨rfl, p1, ls⟩, fun A2 z => ?_⟩
          cases z
          have : RG = G1 := by
            rw [KG]
            show (if tS f n p1 = 0 then G1 else _) = _
            rw [if_pos hn]
          rw [this]
          exact ct
        · intro c86
          have := nlt_i c86
          exact bq280 (h.2 c86) ls (by rw [K, if_neg (by omega)])
theorem lb_x1 {L : Res} {x : Int32} (lb : LnB f n a r w nm nd B L A x T) (c : ¬ x = 0) : x = 1 := by
  cases L with
  | inl p => exact lb.1
  | inr e => exact absurd lb.1 c
def Inq8 (f : Nat → Int32) (n a r w nm nd : Nat) (B : HS) (R : AS ⊕ (Nat × Nat)) (RG : GC) (v0 : Nat) (v3 : Int32) (S : HS) : Prop := ∃ (i p : Nat) (A : AS) (G : GC), r = v0 ∧ v3 = nI i ∧ i ≤ p ∧ LnS f n a r w nm nd B A p S ∧ aM A = aP A + aW A ∧ R = sAll f n (1000 - i) p A ∧ CtB w A G B S ∧ RG = gAll f n (1000 - i) p A G
theorem wl_X4_worldLine (h : P_X4_worldLine r Q S) (hw : fR S r 5 = some w) : P_X4_worldLine r (fun x T => Q x T ∧ ∀ b, b ≠ r → b ≠ w → fI T b = fI S b) S := by
  delta P_X4_worldLine P_X4_worldLine_0
  obtain ⟨o1, h⟩ := h
  refine ⟨o1, ?_⟩
  obtain ⟨a2, ea2, h⟩ := h
  refine ⟨a2, ea2, ?_⟩
  obtain ⟨o3, h⟩ := h
  refine ⟨o3, ?_⟩
  refine cm_X8_isTold (kz_X8_isTold h) h (fun x4 S5 hp h g6 b7 => ?_)
  have h := h g6 b7
  refine ⟨?_, ?_⟩
  · intro c8
    have h := h.1 c8
    refine cm_X4_next (kv_X4_next h) h (fun S9 hq h g10 => ?_)
    have h := h g10
    refine cm_X4_wordAndWhole (kv_X4_wordAndWhole h) h (fun x11 S12 hr h g13 b14 => ?_)
    have h := h g13 b14
    have fr : fR S12 = fR S := hr.2.1.trans (hq.2.1.trans hp.2.1)
    have fi : ∀ b, b ≠ r → fI S12 b = fI S b := fun b hb => (hr.2.2 b hb).trans ((hq.2.2 b hb).trans (congrFun hp.2.2 b))
    refine ⟨?_, ?_⟩
    · intro c15
      have h := h.1 c15
      obtain ⟨a16, ea16, h⟩ := h
      refine ⟨a16, ea16, ?_⟩
      have z := ea16
      rw [fr] at z
      cases hw.symm.trans z
      intro x17 ex17
      have h := h x17 ex17
      obtain ⟨o18, h⟩ := h
      refine ⟨o18, ?_⟩
      intro S19 eS19
      have h := h S19 eS19
      exact ⟨h, fun b h1 h2 => (row_o eS19 h2).trans (fi b h1)⟩
    · intro c20
      exact ⟨h.2 c20, fun b h1 _ => fi b h1⟩
  · intro c21
    have h := h.2 c21
    refine cm_X4_fail (kv_X4_fail h) h (fun x22 S23 hq h g24 b25 => ?_)
    have h := h g24 b25
    exact ⟨h.1, h.2, fun b h1 _ => (hq.2.2 b h1).trans (congrFun hp.2.2 b)⟩
theorem sq_X4_worldLine (hB : BFa a r w nm nd B) (h : P_X4_worldLine r Q S) (ls : LnS f n a r w nm nd B A p S) : P_X4_worldLine r (fun x T => Q x T ∧ LnB f n a r w nm nd B (sWorld f n p A) (up0 A (tV f n (tEn f n (tEn f n p))).toInt32.toNatClampNeg) x T ∧ ∀ b, b ∉ [r, w, nm, nd] → fI T b = fI S b) S :=
  cm_X4_worldLine (sp_X4_worldLine hB h ls) (wl_X4_worldLine h (ls_w hB ls)) (fun x T h1 h2 => ⟨h1.1, h1.2, fun b hb => h2.2 b (fun z => hb (by rw [z]; simp)) (fun z => hb (by rw [z]; simp))⟩)
set_option maxHeartbeats 8000000 in
theorem lqR8 {RG : GC} {R : AS ⊕ (Nat × Nat)} {v0 : Nat} {v3 : Int32} (hB : BFa a r w nm nd B) (hd : DSt w nd B) (hW : WKd w B) (hwk : ∀ x b i, fR B w 9 = some b → i < hN B b → fR B b i = some x → ob B x 6) (h : P_X4_read_8 Q v0 v3 S) (hi : Inq8 f n a r w nm nd B R RG v0 v3 S) : P_X4_read_8 (fun x T => Q x T ∧ RdC f n a r w nm nd B R RG x T) v0 v3 S := by
  refine h (fun v0 v3 S => Inq8 f n a r w nm nd B R RG v0 v3 S → P_X4_read_8 (fun x T => Q x T ∧ RdC f n a r w nm nd B R RG x T) v0 v3 S) ?_ hi
  intro v0 v3 S h hi
  obtain ⟨i, p, A, G, rfl, hv3, hip, ls, hEq, K, ct, KG⟩ := hi
  have ab := ls.2.2.2.2
  have hp9 := ls.1.2.2
  have hab := ls.2.2.2.2
  obtain ⟨hb0, hb1, hb2, hb3, hb4, hb5⟩ := hab
  have e9 : (900 : Int32).toInt = 900 := by decide
  have ei : v3.toInt = (i : Int) := by rw [hv3]; exact nI_i (by omega)
  have hk : 1000 - i = (999 - i) + 1 := by omega
  rw [hk] at K KG
  have K : R = aft f n (aLn f n p A) (fun p2 => sAll f n (999 - i) p2 (aLn f n p A)) (sLn f n p A) := K
  have KG : RG = gAft f n G (gLn f n p A G) (fun p2 => gAll f n (999 - i) p2 (aLn f n p A) (gLn f n p A G)) (sLn f n p A) := KG
  have nx : ∀ (p1 p2 : Nat) (y : Int32) (U : HS), sLn f n p A = .inl p1 → sSign f n p1 3 = .inl p2 → y = v3 + 1 → LnS f n a r w nm nd B (aLn f n p A) p2 U → R = sAll f n (999 - i) p2 (aLn f n p A) → CtB w (aLn f n p A) (gLn f n p A G) B U → RG = gAll f n (999 - i) p2 (aLn f n p A) (gLn f n p A G) → (Inq8 f n a r w nm nd B R RG r y U → P_X4_read_8 (fun x T => Q x T ∧ RdC f n a r w nm nd B R RG x T) r y U) → P_X4_read_8 (fun x T => Q x T ∧ RdC f n a r w nm nd B R RG x T) r y U := by
    intro p1 p2 y U hL hS ey ls K ct KG h
    have g1 := ge_ln p1 hL
    have g2 : p1 < p2 := by
      rw [sSign_inl hS]
      refine tEn_sg (k := 3) ?_ (Or.inl rfl)
      unfold sSign at hS
      split at hS
      · assumption
      · cases hS
    exact h ⟨i + 1, p2, aLn f n p A, gLn f n p A G, rfl, by rw [ey, hv3]; exact nI_1 i, by omega, ls, eq_ln hEq, by rw [show 1000 - (i + 1) = 999 - i by omega]; exact K, ct, by rw [show 1000 - (i + 1) = 999 - i by omega]; exact KG⟩
  have go : ∀ (x : Int32) (U : HS), LnB f n a r w nm nd B (sLn f n p A) (aLn f n p A) x U → (x = 1 → CtB w (aLn f n p A) (gLn f n p A G) B U) → P_X4_read_248 Q (fun v0 v3 S => Inq8 f n a r w nm nd B R RG v0 v3 S → P_X4_read_8 (fun x T => Q x T ∧ RdC f n a r w nm nd B R RG x T) v0 v3 S) r v3 x U → P_X4_read_248 (fun x T => Q x T ∧ RdC f n a r w nm nd B R RG x T) (P_X4_read_8 (fun x T => Q x T ∧ RdC f n a r w nm nd B R RG x T)) r v3 x U := fun x U lb ct h => bq248 hB h lb K hd hW ct KG nx
  refine fd_X4_read_8 ?_
  delta B_X4_read_8
  refine ⟨?_, ?_⟩
  · intro c1
    have := lt_i c1
    omega
  intro c8
  have h := h.2 c8
  obtain ⟨o9, h⟩ := h
  refine ⟨o9, ?_⟩
  refine cm_X4_is (sp_X4_is h ls.1.2.1) h (fun x3 S4 hp h g5 b6 => ?_)
  have h := h g5 b6
  obtain ⟨-, hS, hx0⟩ := hp
  subst hS
  refine Iff.mp and_comm ⟨?_, ?_⟩
  · intro c
    have h := h.2 c
    have y := an1 hx0 c
    have eA : aLn f n p A = up0 A (tV f n (tEn f n (tEn f n p))).toInt32.toNatClampNeg := by unfold aLn; rw [dc_y y]
    have eL : sLn f n p A = sWorld f n p A := by unfold sLn; rw [dc_y y]
    refine cm_X4_worldLine (sq_X4_worldLine hB h ls) h (fun x84 S82 hp h g b => ?_)
    have h := h g b
    have eG : gLn f n p A G = G := by unfold gLn; rw [dc_y y]
    exact go _ _ (by rw [eL, eA]; exact hp.2.1) (fun z => by rw [eA, eG]; exact ct_keep (A := A) ab hB hd hW ct hp.2.2) h
  · intro c
    have h := h.1 c
    have n0 := an0 hx0 c
    refine cm_X4_is (sp_X4_is h ls.1.2.1) h (fun x3 S4 hp h g5 b6 => ?_)
    have h := h g5 b6
    obtain ⟨-, hS, hx1⟩ := hp
    subst hS
    refine Iff.mp and_comm ⟨?_, ?_⟩
    · intro c
      have h := h.2 c
      have y := an1 hx1 c
      have eA : aLn f n p A = up1 A := by unfold aLn; rw [dc_n n0, dc_y y]
      have eL : sLn f n p A = rb (sRoom f n p (aH A) (aHs A) 6) fun p => sRain f n p := by unfold sLn; rw [dc_n n0, dc_y y]
      obtain ⟨a32, ea32, h⟩ := h
      refine ⟨a32, ea32, ?_⟩
      cases (ls_w hB ls).symm.trans ea32
      obtain ⟨o33, h⟩ := h
      refine ⟨o33, ?_⟩
      intro x33 ex33
      have h := h x33 ex33
      refine cm_X4_hasRoom (sp_X4_hasRoom hB h ls (count := aHs A) (room := 6) (ex33.trans ls.2.2.1.2.1) rfl (by omega) (by omega)) (kv_X4_hasRoom h) (fun x36 S34 hp hkv g b => ?_)
      have h := hkv.1
      have ct := ct_keep ab hB hd hW ct (fun b hb => hkv.2.2 b (fun z => hb (by rw [z]; simp)))
      have h := h g b
      have lb1 := hp.2
      rcases lb_split lb1 eL with ⟨hz, lb2⟩ | ⟨p1, hz, hR, eL2, ls⟩
      · refine ⟨fun c => ?_, fun c => absurd hz c⟩
        exact go 0 _ (lb2 _) (fun z => absurd z (by decide)) (h.1 c)
      obtain ⟨ep, hlt, hh⟩ := sRoom_inl hR
      refine ⟨fun c => absurd (c.symm.trans hz) (by decide), fun c => ?_⟩
      have h := h.2 c
      refine cm_X4_rainLine (sq_X4_rainLine hB h ls hlt) h (fun x40 S38 hp h g b => ?_)
      have h := h g b
      have lb3 : LnB f n a r w nm nd B (sLn f n p A) (aLn f n p A) x40 S38 := by rw [eL2, eA]; exact hp.2.1
      have eG : gLn f n p A G = gu1 G (aHs A) (rnC f n (tEn f n p)) := by unfold gLn; rw [dc_n n0, dc_y y]
      have ct3 : x40 = 1 → CtB w (aLn f n p A) (gLn f n p A G) B S38 := fun z => by
        rw [eA, eG]
        subst ep
        exact ct_rain hB hd hW ab hlt ct (hp.2.2 z)
      exact ⟨fun c => go 0 _ (lb_zero lb3 c) (fun z => absurd z (by decide)) (h.1 c), fun c => go 1 _ (lb_one lb3 c) (fun _ => ct3 (lb_x1 lb3 c)) (h.2 c)⟩
    · intro c
      have h := h.1 c
      have n1 := an0 hx1 c
      refine cm_X4_is (sp_X4_is h ls.1.2.1) h (fun x3 S4 hp h g5 b6 => ?_)
      have h := h g5 b6
      obtain ⟨-, hS, hx2⟩ := hp
      subst hS
      refine Iff.mp and_comm ⟨?_, ?_⟩
      · intro c
        have h := h.2 c
        have y := an1 hx2 c
        have eA : aLn f n p A = up2 (upN A (tV f n (tEn f n p)) (aP A)) := by unfold aLn; rw [dc_n n0, dc_n n1, dc_y y]
        have eL : sLn f n p A = rb (sRoom f n p (aH A) (aP A) 8) fun p => sPlace f n p A := by unfold sLn; rw [dc_n n0, dc_n n1, dc_y y]
        obtain ⟨a32, ea32, h⟩ := h
        refine ⟨a32, ea32, ?_⟩
        cases (ls_w hB ls).symm.trans ea32
        obtain ⟨o33, h⟩ := h
        refine ⟨o33, ?_⟩
        intro x33 ex33
        have h := h x33 ex33
        refine cm_X4_hasRoom (sp_X4_hasRoom hB h ls (count := aP A) (room := 8) (ex33.trans ls.2.2.1.2.2.1) rfl (by omega) (by omega)) (kv_X4_hasRoom h) (fun x36 S34 hp hkv g b => ?_)
        have h := hkv.1
        have ct := ct_keep ab hB hd hW ct (fun b hb => hkv.2.2 b (fun z => hb (by rw [z]; simp)))
        have h := h g b
        have lb1 := hp.2
        rcases lb_split lb1 eL with ⟨hz, lb2⟩ | ⟨p1, hz, hR, eL2, ls⟩
        · refine ⟨fun c => ?_, fun c => absurd hz c⟩
          exact go 0 _ (lb2 _) (fun z => absurd z (by decide)) (h.1 c)
        obtain ⟨ep, hlt, hh⟩ := sRoom_inl hR
        refine ⟨fun c => absurd (c.symm.trans hz) (by decide), fun c => ?_⟩
        have h := h.2 c
        refine cm_X4_placeLine (sq_X4_placeLine hB hd h ls hlt (by omega)) h (fun x40 S38 hp h g b => ?_)
        have h := h g b
        have lb3 : LnB f n a r w nm nd B (sLn f n p A) (aLn f n p A) x40 S38 := by rw [eL2, eA, ← ep]; exact hp.2.1
        have eG : gLn f n p A G = gu2 G (aP A) (plK f n (tEn f n p)) (plV f n (tEn f n p)) := by unfold gLn; rw [dc_n n0, dc_n n1, dc_y y]
        have ct3 : x40 = 1 → CtB w (aLn f n p A) (gLn f n p A G) B S38 := fun z => by
          rw [eA, eG]
          subst ep
          exact ct_place hB hd hW ab ct (hp.2.2 z)
        exact ⟨fun c => go 0 _ (lb_zero lb3 c) (fun z => absurd z (by decide)) (h.1 c), fun c => go 1 _ (lb_one lb3 c) (fun _ => ct3 (lb_x1 lb3 c)) (h.2 c)⟩
      · intro c
        have h := h.1 c
        have n2 := an0 hx2 c
        refine cm_X4_is (sp_X4_is h ls.1.2.1) h (fun x3 S4 hp h g5 b6 => ?_)
        have h := h g5 b6
        obtain ⟨-, hS, hx3⟩ := hp
        subst hS
        refine Iff.mp and_comm ⟨?_, ?_⟩
        · intro c
          have h := h.2 c
          have y := an1 hx3 c
          have eA : aLn f n p A = up3 A := by unfold aLn; rw [dc_n n0, dc_n n1, dc_n n2, dc_y y]
          have eL : sLn f n p A = rb (sRoom f n p (aH A) (aR A) 12) fun p => sRoad f n p A := by unfold sLn; rw [dc_n n0, dc_n n1, dc_n n2, dc_y y]
          obtain ⟨a32, ea32, h⟩ := h
          refine ⟨a32, ea32, ?_⟩
          cases (ls_w hB ls).symm.trans ea32
          obtain ⟨o33, h⟩ := h
          refine ⟨o33, ?_⟩
          intro x33 ex33
          have h := h x33 ex33
          refine cm_X4_hasRoom (sp_X4_hasRoom hB h ls (count := aR A) (room := 12) (ex33.trans ls.2.2.1.2.2.2.1) rfl (by omega) (by omega)) (kv_X4_hasRoom h) (fun x36 S34 hp hkv g b => ?_)
          have h := hkv.1
          have ct := ct_keep ab hB hd hW ct (fun b hb => hkv.2.2 b (fun z => hb (by rw [z]; simp)))
          have h := h g b
          have lb1 := hp.2
          rcases lb_split lb1 eL with ⟨hz, lb2⟩ | ⟨p1, hz, hR, eL2, ls⟩
          · refine ⟨fun c => ?_, fun c => absurd hz c⟩
            exact go 0 _ (lb2 _) (fun z => absurd z (by decide)) (h.1 c)
          obtain ⟨ep, hlt, hh⟩ := sRoom_inl hR
          refine ⟨fun c => absurd (c.symm.trans hz) (by decide), fun c => ?_⟩
          have h := h.2 c
          refine cm_X4_roadLine (sq_X4_roadLine hB h ls hlt) h (fun x40 S38 hp h g b => ?_)
          have h := h g b
          have lb3 : LnB f n a r w nm nd B (sLn f n p A) (aLn f n p A) x40 S38 := by rw [eL2, eA]; exact hp.2.1
          have eG : gLn f n p A G = gu3 G (aR A) (rdC f n (tEn f n p) A) := by unfold gLn; rw [dc_n n0, dc_n n1, dc_n n2, dc_y y]
          have ct3 : x40 = 1 → CtB w (aLn f n p A) (gLn f n p A G) B S38 := fun z => by
            rw [eA, eG]
            subst ep
            exact ct_road hB hd hW ab hlt ct (hp.2.2 z)
          exact ⟨fun c => go 0 _ (lb_zero lb3 c) (fun z => absurd z (by decide)) (h.1 c), fun c => go 1 _ (lb_one lb3 c) (fun _ => ct3 (lb_x1 lb3 c)) (h.2 c)⟩
        · intro c
          have h := h.1 c
          have n3 := an0 hx3 c
          refine cm_X4_is (sp_X4_is h ls.1.2.1) h (fun x3 S4 hp h g5 b6 => ?_)
          have h := h g5 b6
          obtain ⟨-, hS, hx4⟩ := hp
          subst hS
          refine Iff.mp and_comm ⟨?_, ?_⟩
          · intro c
            have h := h.2 c
            have y := an1 hx4 c
            have eA : aLn f n p A = up4 (upN A (tV f n (tEn f n p)) (8 + aW A)) := by unfold aLn; rw [dc_n n0, dc_n n1, dc_n n2, dc_n n3, dc_y y]
            have eL : sLn f n p A = rb (sRoom f n p (aH A) (aW A) 4) fun p => sWalker f n p A := by unfold sLn; rw [dc_n n0, dc_n n1, dc_n n2, dc_n n3, dc_y y]
            obtain ⟨a32, ea32, h⟩ := h
            refine ⟨a32, ea32, ?_⟩
            cases (ls_w hB ls).symm.trans ea32
            obtain ⟨o33, h⟩ := h
            refine ⟨o33, ?_⟩
            intro x33 ex33
            have h := h x33 ex33
            refine cm_X4_hasRoom (sp_X4_hasRoom hB h ls (count := aW A) (room := 4) (ex33.trans ls.2.2.1.2.2.2.2.1) rfl (by omega) (by omega)) (kv_X4_hasRoom h) (fun x36 S34 hp hkv g b => ?_)
            have h := hkv.1
            have ct := ct_keep ab hB hd hW ct (fun b hb => hkv.2.2 b (fun z => hb (by rw [z]; simp)))
            have h := h g b
            have lb1 := hp.2
            rcases lb_split lb1 eL with ⟨hz, lb2⟩ | ⟨p1, hz, hR, eL2, ls⟩
            · refine ⟨fun c => ?_, fun c => absurd hz c⟩
              exact go 0 _ (lb2 _) (fun z => absurd z (by decide)) (h.1 c)
            obtain ⟨ep, hlt, hh⟩ := sRoom_inl hR
            refine ⟨fun c => absurd (c.symm.trans hz) (by decide), fun c => ?_⟩
            have h := h.2 c
            refine cm_X4_walkerLine (sq_X4_walkerLine hB h ls hwk hlt (by omega)) h (fun x40 S38 hp h g b => ?_)
            have h := h g b
            have lb3 : LnB f n a r w nm nd B (sLn f n p A) (aLn f n p A) x40 S38 := by rw [eL2, eA, ← ep]; exact hp.2.1
            have eG : gLn f n p A G = gu4 G (aW A) (wkC f n (tEn f n p)) := by unfold gLn; rw [dc_n n0, dc_n n1, dc_n n2, dc_n n3, dc_y y]
            have ct3 : x40 = 1 → CtB w (aLn f n p A) (gLn f n p A G) B S38 := fun z => by
              rw [eA, eG]
              subst ep
              exact ct_walk hB hd hW ab hlt ct (hp.2.2 z)
            exact ⟨fun c => go 0 _ (lb_zero lb3 c) (fun z => absurd z (by decide)) (h.1 c), fun c => go 1 _ (lb_one lb3 c) (fun _ => ct3 (lb_x1 lb3 c)) (h.2 c)⟩
          · intro c
            have h := h.1 c
            have n4 := an0 hx4 c
            refine cm_X4_is (sp_X4_is h ls.1.2.1) h (fun x3 S4 hp h g5 b6 => ?_)
            have h := h g5 b6
            obtain ⟨-, hS, hx5⟩ := hp
            subst hS
            refine Iff.mp and_comm ⟨?_, ?_⟩
            · intro c
              have h := h.2 c
              have y := an1 hx5 c
              have eA : aLn f n p A = up5 A := by unfold aLn; rw [dc_n n0, dc_n n1, dc_n n2, dc_n n3, dc_n n4]
              have eL : sLn f n p A = rb (sRoom f n p (aH A) (aS A) 4) fun p => sSeen f n p A := by unfold sLn; rw [dc_n n0, dc_n n1, dc_n n2, dc_n n3, dc_n n4, dc_y y]
              obtain ⟨a32, ea32, h⟩ := h
              refine ⟨a32, ea32, ?_⟩
              cases (ls_w hB ls).symm.trans ea32
              obtain ⟨o33, h⟩ := h
              refine ⟨o33, ?_⟩
              intro x33 ex33
              have h := h x33 ex33
              refine cm_X4_hasRoom (sp_X4_hasRoom hB h ls (count := aS A) (room := 4) (ex33.trans ls.2.2.1.2.2.2.2.2) rfl (by omega) (by omega)) (kv_X4_hasRoom h) (fun x36 S34 hp hkv g b => ?_)
              have h := hkv.1
              have ct := ct_keep ab hB hd hW ct (fun b hb => hkv.2.2 b (fun z => hb (by rw [z]; simp)))
              have h := h g b
              have lb1 := hp.2
              rcases lb_split lb1 eL with ⟨hz, lb2⟩ | ⟨p1, hz, hR, eL2, ls⟩
              · refine ⟨fun c => ?_, fun c => absurd hz c⟩
                exact go 0 _ (lb2 _) (fun z => absurd z (by decide)) (h.1 c)
              obtain ⟨ep, hlt, hh⟩ := sRoom_inl hR
              refine ⟨fun c => absurd (c.symm.trans hz) (by decide), fun c => ?_⟩
              have h := h.2 c
              obtain ⟨sw, hsw1, hsw2⟩ := hW.2.1 10 (by decide)
              obtain ⟨sf, hsf1, hsf2⟩ := hW.2.1 11 (by decide)
              have hs : SnW B w sw sf := ⟨hsw1, hsf1, fun z => absurd (hW.2.2 10 11 sw (by decide) (by decide) hsw1 (z ▸ hsf1)) (by decide), hsw2, hsf2⟩
              refine cm_X4_seenLine (sq_X4_seenLine hB hd hlt hs h ls) h (fun x40 S38 hp h g b => ?_)
              have h := h g b
              have lb3 : LnB f n a r w nm nd B (sLn f n p A) (aLn f n p A) x40 S38 := by rw [eL2, eA]; exact hp.2.1
              have eG : gLn f n p A G = gu5 G (aS A) (snC f n (tEn f n p) A) := by unfold gLn; rw [dc_n n0, dc_n n1, dc_n n2, dc_n n3, dc_n n4]
              have ct3 : x40 = 1 → CtB w (aLn f n p A) (gLn f n p A G) B S38 := fun z => by
                rw [eA, eG]
                subst ep
                exact ct_seen hB hd hW ab hs ct (hp.2.2 z)
              exact ⟨fun c => go 0 _ (lb_zero lb3 c) (fun z => absurd z (by decide)) (h.1 c), fun c => go 1 _ (lb_one lb3 c) (fun _ => ct3 (lb_x1 lb3 c)) (h.2 c)⟩
            · intro c
              have h := h.1 c
              have n5 := an0 hx5 c
              have eL : sLn f n p A = .inr (1, tSt f n p) := by unfold sLn; rw [dc_n n0, dc_n n1, dc_n n2, dc_n n3, dc_n n4, dc_n n5]
              refine cm_X4_fail (sp_X4_fail h) h (fun x31 S29 hp h g b => ?_)
              have h := h g b
              exact go _ _ (lb_fl (k := 1) ls eL rfl hp.2) (fun z => absurd (hp.2.1.symm.trans z) (by decide)) h
end Ct5
/-! world(n) of the class, with all that was told -/
def G00 : GC := (fun _ _ => 0, fun _ => 0, fun _ => 0, fun _ _ => 0, fun _ _ => 0, fun _ _ => 0)
section Ct6
variable {f : Nat → Int32} {n a r w nm nd c : Nat} {S T : HS} {Q : Int32 → HS → Prop}
theorem ot_X4_open {Q : HS → Prop} {v2 : Int32} (h : P_X4_open r a v2 Q S) (hw : fR S r 5 = some w) : P_X4_open r a v2 (fun T => Q T ∧ fR T = fR (sR S r 2 (some a)) ∧ ∀ b, b ≠ r → b ≠ w → fI T b = fI S b) S := by
  delta P_X4_open P_X4_open_0
  obtain ⟨p1, h⟩ := h
  refine ⟨p1, ?_⟩
  intro S2 e2
  have h := h S2 e2
  obtain ⟨p3, h⟩ := h
  refine ⟨p3, ?_⟩
  intro x4 ex4
  have h := h x4 ex4
  intro S5 e5
  have h := h S5 e5
  intro S6 e6
  have h := h S6 e6
  intro S7 e7
  have h := h S7 e7
  intro S8 e8
  have h := h S8 e8
  intro S9 e9
  have h := h S9 e9
  obtain ⟨a10, ea10, h⟩ := h
  refine ⟨a10, ea10, ?_⟩
  obtain ⟨p11, h⟩ := h
  refine ⟨p11, ?_⟩
  have F9 : Fr [0, 1, 3, 4, 10] [] r S2 S9 := fr_wI (fr_wI (fr_wI (fr_wI (fr_wI (fr_rf _ _ _ _) e5 (by decide)) e6 (by decide)) e7 (by decide)) e8 (by decide)) e9 (by decide)
  have ew : a10 = w := by
    have z := ea10
    rw [F9.2.2.2.1, e2] at z
    have z2 : fR S r 5 = some a10 := (u2_ne (fR S) (b := r) (i := 5) (some a) (fun q => absurd q.2 (by decide))).symm.trans z
    cases hw.symm.trans z2
    rfl
  subst ew
  refine cm_X8_clear (kv_X8_clear h) h (fun S12 hp h g13 => ?_)
  have h := h g13
  refine cm_X4_next (kv_X4_next h) h (fun S14 hq h g15 => ?_)
  have h := h g15
  refine ⟨h, ?_, fun b hb hw => ?_⟩
  · rw [hq.2.1, hp.2.1, F9.2.2.2.1, e2]
  · rw [hq.2.2 b hb, hp.2.2 b hw, (F9.2.2.2.2.1 b hb).1, e2]
    rfl
def WKr (w : Nat) (B : HS) : Prop := ∀ fl ∈ ([6, 8, 9] : List Nat), ∀ ra, fR B w fl = some ra → 17 ≤ hK B ra ∧ ra ∈ hL B
/-- the things of a world stay what they are, if no joint of theirs is moved -/
theorem wk_mv (hW : WKd w S) (hr : WKr w S) (g : Gr S T) (h1 : ∀ j, fR T w j = fR S w j) (h2 : ∀ ra, ra ∈ hL S → 17 ≤ hK S ra → ∀ i, fR T ra i = fR S ra i) : WKd w T ∧ WKr w T := by
  refine ⟨⟨fun q hq => ?_, fun fl hf => ?_, fun f1 f2 d a1 a2 e1 e2 => ?_⟩, fun fl hf ra e => ?_⟩
  · obtain ⟨ra, e, k1, k2⟩ := hW.1 q hq
    have hf : q.1 ∈ ([6, 8, 9] : List Nat) := by
      simp only [List.mem_cons, List.not_mem_nil, or_false] at hq
      rcases hq with rfl | rfl | rfl <;> decide
    have hh := hr q.1 hf ra e
    refine ⟨ra, (h1 q.1).trans e, fun i o hi ho => ?_, fun i j o hi hj ho ho2 => ?_⟩
    · rw [h2 ra hh.2 hh.1] at ho
      exact gr_ob g (k1 i o hi ho)
    · rw [h2 ra hh.2 hh.1] at ho ho2
      exact k2 i j o hi hj ho ho2
  · obtain ⟨d, e, k⟩ := hW.2.1 fl hf
    exact ⟨d, (h1 fl).trans e, gr_ob g k⟩
  · rw [h1] at e1 e2
    exact hW.2.2 f1 f2 d a1 a2 e1 e2
  · rw [h1] at e
    have hh := hr fl hf ra e
    exact ⟨by rw [(g ra hh.2).2.1]; exact hh.1, (g ra hh.2).1⟩
theorem sq_X4_read {v2 : Int32} (h : P_X4_read r a v2 Q S) (hv : v2 = nI n) (hr : Rdy f n a r w nm nd S) (hd : DSt w nd S) (hW : WKd w S) (hWr : WKr w S) (hwk : ∀ x b i, fR S w 9 = some b → i < hN S b → fR S b i = some x → ob S x 6) (hw9 : ∀ b, fR S w 9 = some b → b ≠ r) : P_X4_read r a v2 (fun x T => Q x T ∧ RdC f n a r w nm nd (sR S r 2 (some a)) (sAll f n 1000 0 A00) (gAll f n 1000 0 A00 G00) x T ∧ KO_C r (sR S r 2 (some a)) T) S := by
  have hr0 := hr
  obtain ⟨r1, r2, r3, r4, r5, r6, o1, o2, o3, o4, o5⟩ := hr0
  have nwr : w ≠ r := ob_ne o2 o1 (by decide)
  have hne : ∀ b j, b ≠ r → fR (sR S r 2 (some a)) b j = fR S b j := fun b j hb => u2_ne _ _ (fun q => hb q.1)
  have hB : BFa a r w nm nd (sR S r 2 (some a)) := ⟨(u2_ne _ _ (fun q => absurd q.2 (by decide))).trans r6, o1, o2, o3, o4, o5⟩
  have hd' : DSt w nd (sR S r 2 (some a)) := fun j b hj hb => hd j b hj (by rw [← hne w j nwr]; exact hb)
  have hwk' : ∀ x b i, fR (sR S r 2 (some a)) w 9 = some b → i < hN (sR S r 2 (some a)) b → fR (sR S r 2 (some a)) b i = some x → ob (sR S r 2 (some a)) x 6 := by
    intro x b i hb hi hx
    rw [hne w 9 nwr] at hb
    exact hwk x b i hb hi (by rw [← hne b i (hw9 b hb)]; exact hx)
  delta P_X4_read P_X4_read_0
  obtain ⟨p1, h⟩ := h
  refine ⟨p1, ?_⟩
  refine cm_X4_open (sp_X4_open h hv hr) (ot_X4_open h r6) (fun S2 hp ho g3 => ?_)
  have h := ho.1
  have h := h g3
  have hW' : WKd w (sR S r 2 (some a)) := (wk_mv hW hWr (T := sR S r 2 (some a)) (gr_rf S) (fun j => hne w j nwr) (fun ra h1 h2 i => hne ra i (fun z => by
    rw [z, o1.2] at h2
    omega))).1
  have wB : fR (sR S r 2 (some a)) r 5 = some w := hB.1
  have K0 : KO_C r (sR S r 2 (some a)) S2 := ⟨ho.2.1, fun b hb => ho.2.2 b (fun z => hb (z ▸ owc_r)) (fun z => hb (z ▸ owc_w wB))⟩
  have q1 := lqR8 (RG := gAll f n 1000 0 A00 G00) hB hd' hW' hwk' h ⟨0, 0, A00, G00, rfl, nI_0.symm, Nat.le_refl 0, hp.2, rfl, rfl, ⟨fun _ _ h hh => absurd hh (Nat.not_lt_zero h), fun _ _ h hh => absurd hh (Nat.not_lt_zero h), fun _ _ h hh => absurd hh (Nat.not_lt_zero h), fun _ _ h hh => absurd hh (Nat.not_lt_zero h), fun _ _ _ _ h hh => absurd hh (Nat.not_lt_zero h)⟩, rfl⟩
  have q2 := ko_X4_read_8 h K0
  exact cm_X4_read_8 q1 q2 (fun x T h1 h2 => ⟨h1.1, h1.2, h2.2⟩)
/-- what world(n) comes to, with all that was told -/
def WcX (f : Nat → Int32) (n a r w c : Nat) (S : HS) (R : AS ⊕ (Nat × Nat)) (RG : GC) (x : Int32) (T : HS) : Prop := WcB R c x T ∧ match R with
  | .inl A => (∃ U, CtB w A RG (sR S r 2 (some a)) U ∧ Cnt w A U ∧ ABd A ∧ ∀ b k, ob S b k → k ≠ 9 → k ≠ 7 → k ≠ 0 → fI T b = fI U b) ∧ (∀ x j, x ≠ c → x ≠ r → fR T x j = fR S x j) ∧ fR T c 2 = some w ∧ (∀ j, j ≠ 2 → fR T c j = fR S c j) ∧ fR T r 5 = fR S c 2 ∧ ∀ j, j ≠ 2 → j ≠ 5 → fR T r j = fR S r j
  | .inr _ => (∀ b, b ≠ c → ¬ OwS_C r (sR S r 2 (some a)) b → fI T b = fI S b) ∧ ∀ x j, ¬ (x = r ∧ j = 2) → fR T x j = fR S x j
set_option maxHeartbeats 4000000 in
theorem sq_X9_world_ok {v1 : Int32} (hI : IV S) (oc : ob S c 9) (h : P_X9_world c v1 Q S) (hv : v1 = nI n) (ha : fR S c 0 = some a) (hrr : fR S c 3 = some r) (hr : Rdy f n a r w nm nd S) (hd : DSt w nd S) (hW : WKd w S) (hWr : WKr w S) (hwk : ∀ x b i, fR S w 9 = some b → i < hN S b → fR S b i = some x → ob S x 6) (hw9 : ∀ b, fR S w 9 = some b → b ≠ r) (hle : v1 ≤ fI S c 1) : P_X9_world c v1 (fun x T => Q x T ∧ WcX f n a r w c S (sAll f n 1000 0 A00) (gAll f n 1000 0 A00 G00) x T) S := by
  have hr0 := hr
  obtain ⟨r1, r2, r3, r4, r5, r6, o1, o2, o3, o4, o5⟩ := hr0
  have nrc : r ≠ c := ob_ne o1 oc (by decide)
  have nwc : w ≠ c := ob_ne o2 oc (by decide)
  have iv : v1.toInt = (n : Int) := by rw [hv]; exact nI_i (by omega)
  have e0 : (0 : Int32).toInt = 0 := by decide
  have h0 : ¬ v1 < 0 := fun z => by have := lt_i z; omega
  delta P_X9_world P_X9_world_0
  refine ⟨fun c1 => absurd c1 h0, fun c6 => ?_⟩
  have h := h.2 c6
  obtain ⟨o7, h⟩ := h
  refine ⟨o7, ?_⟩
  intro x8 ex8
  have h := h x8 ex8
  refine ⟨fun c9 => ?_, fun c52 => absurd (by rw [ex8]; exact hle) c52⟩
  have h := h.1 c9
  obtain ⟨a10, ea10, h⟩ := h
  refine ⟨a10, ea10, ?_⟩
  cases hrr.symm.trans ea10
  obtain ⟨a11, ea11, h⟩ := h
  refine ⟨a11, ea11, ?_⟩
  cases ha.symm.trans ea11
  obtain ⟨o12, h⟩ := h
  refine ⟨o12, ?_⟩
  refine cm_X4_read (sq_X4_read h hv hr hd hW hWr hwk hw9) (m_X4_read (Q := fun _ T => FRI [(3, 0), (3, 1), (3, 2), (3, 3), (3, 4), (4, 0), (4, 1), (4, 3), (4, 4), (4, 6), (4, 7), (4, 9), (4, 10), (5, 0), (5, 1), (5, 2), (5, 3), (5, 4), (6, 0), (6, 1), (6, 2), (6, 3), (6, 4), (6, 5), (6, 6), (8, 0), (8, 1), (8, 2), (8, 3), (8, 4), (8, 5)] [(4, 2)] S T) hI o1 o5 r2 (Int32.not_lt.mp h0) (fun _ _ _ _ z _ => z)) (fun x13 S14 hp F g15 b16 => ?_)
  have h := hp.1 g15 b16
  have KO := hp.2.2
  have ctA := hp.2.1.2
  have hp := hp.2.1.1
  have R14 : fR S14 c 3 = some r := by rw [frr_at F (by decide) (by decide) oc]; exact hrr
  intro S17 e17
  have h := h S17 e17
  obtain ⟨a18, ea18, h⟩ := h
  refine ⟨a18, ea18, ?_⟩
  have t18 : fR S17 c 3 = some r := by rw [e17]; exact R14
  cases t18.symm.trans ea18
  obtain ⟨o19, h⟩ := h
  refine ⟨o19, ?_⟩
  intro x20 ex20
  have h := h x20 ex20
  have k20 : x20 = fI S14 r 0 := by rw [ex20, e17]; exact u2_ne _ _ (fun q => nrc q.1)
  intro S21 e21
  have h := h S21 e21
  obtain ⟨a22, ea22, h⟩ := h
  refine ⟨a22, ea22, ?_⟩
  have t22 : fR S21 c 3 = some r := by rw [e21]; exact t18
  cases t22.symm.trans ea22
  obtain ⟨o23, h⟩ := h
  refine ⟨o23, ?_⟩
  intro x24 ex24
  have h := h x24 ex24
  have k24 : x24 = fI S14 r 1 := by
    rw [ex24, e21]
    show u2 (fI S17) c 7 x20 r 1 = _
    rw [u2_ne _ _ (fun q => nrc q.1), e17]
    exact u2_ne _ _ (fun q => nrc q.1)
  intro S25 e25
  have h := h S25 e25
  have c7 : fI S25 c 7 = fI S14 r 0 := by rw [wI_ne e25 (by decide), wI_at e21, k20]
  have c8 : fI S25 c 8 = fI S14 r 1 := by rw [wI_at e25, k24]
  cases hR : sAll f n 1000 0 A00 with
  | inr e =>
    rw [hR] at hp
    have hx : x13 = 0 := hp.1
    refine ⟨fun z => absurd hx z, fun z => ?_⟩
    have h := h.2 z
    refine cm_X9_refuse (sp_X9_refuse h) h (fun x49 S50 hq h g51 => ?_)
    refine ⟨h g51, ⟨hq.2.1, ?_, ?_, ?_⟩, fun b hb ho => ?_, fun x j hx => ?_⟩
    · rw [wI_ne hq.2.2 (by decide), c7]; exact hp.2.1
    · rw [wI_ne hq.2.2 (by decide), c8]; exact hp.2.2
    · exact wI_at hq.2.2
    · rw [row_o hq.2.2 hb, row_o e25 hb, row_o e21 hb, row_o e17 hb]
      exact KO.2 b ho
    · have z : fR S50 = fR S14 := by rw [hq.2.2, e25, e21, e17]; rfl
      rw [z, KO.1]
      exact u2_ne _ _ hx
  | inl A =>
    rw [hR] at hp
    obtain ⟨hx, p, ls⟩ := hp
    refine ⟨fun z => ?_, fun z => absurd (hx.symm.trans z) (by decide)⟩
    have h := h.1 z
    obtain ⟨a27, ea27, h⟩ := h
    refine ⟨a27, ea27, ?_⟩
    have t27 : fR S25 c 3 = some r := by rw [e25]; exact t22
    cases t27.symm.trans ea27
    obtain ⟨a28, ea28, h⟩ := h
    refine ⟨a28, ea28, ?_⟩
    obtain ⟨o29, h⟩ := h
    refine ⟨o29, ?_⟩
    have w14 := gr_ob g15 o2
    have c14 := gr_ob g15 oc
    have w25 := ob_I e25 (ob_I e21 (ob_I e17 w14))
    have cc25 := ob_I e25 (ob_I e21 (ob_I e17 c14))
    have wr : fR S25 r 5 = some w := by
      have : fR S14 r 5 = some w := by
        rw [ls.2.2.2.1.2.2.2]
        exact (u2_ne _ _ (fun q => absurd q.2 (by decide))).trans r6
      rw [e25, e21, e17]; exact this
    have w4 : fI S25 w 4 = nI (aW A) := by
      rw [e25]
      show u2 (fI S21) c 8 x24 w 4 = _
      rw [u2_ne _ _ (fun q => nwc q.1), e21]
      show u2 (fI S17) c 7 x20 w 4 = _
      rw [u2_ne _ _ (fun q => nwc q.1), e17]
      exact (u2_ne _ _ (fun q => nwc q.1)).trans ls.2.2.1.2.2.2.2.1
    refine cm_X4_exchange (sp_X4_exchange h) h (fun a30 S31 hq h g32 => ?_)
    have h := h g32
    obtain ⟨-, q1, e31⟩ := hq
    cases wr.symm.trans q1
    intro S33 e33
    have h := h S33 e33
    have w33 := ob_R e33 (ob_R e31 w25)
    have c33 := ob_R e33 (ob_R e31 cc25)
    have i33 : fI S33 = fI S25 := by rw [e33, e31]; rfl
    obtain ⟨a34, ea34, h⟩ := h
    refine ⟨a34, ea34, ?_⟩
    obtain ⟨o35, h⟩ := h
    refine ⟨o35, ?_⟩
    refine cm_X7_forget (sp_X7_forget h) h (fun S36 hq h g37 => ?_)
    have h := h g37
    have e36 := hq.2
    have n34w : w ≠ a34 := ob_ne w33 o35 (by decide)
    have n34c : c ≠ a34 := ob_ne c33 o35 (by decide)
    have w36 := ob_I e36 w33
    have c36 := ob_I e36 c33
    obtain ⟨a38, ea38, h⟩ := h
    refine ⟨a38, ea38, ?_⟩
    obtain ⟨o39, h⟩ := h
    refine ⟨o39, ?_⟩
    refine cm_X0_end (sp_X0_end h) h (fun S40 hq h g41 => ?_)
    have h := h g41
    have F40 := hq.2.1
    have n38w : w ≠ a38 := ob_ne w36 o39 (by decide)
    have n38c : c ≠ a38 := ob_ne c36 o39 (by decide)
    have rowW : fI S40 w = fI S25 w := by rw [(F40.2.2.2.2.1 w n38w).1, e36]; exact (u2_row _ _ n34w).trans (by rw [i33])
    have rowC : fI S40 c = fI S25 c := by rw [(F40.2.2.2.2.1 c n38c).1, e36]; exact (u2_row _ _ n34c).trans (by rw [i33])
    obtain ⟨a42, ea42, h⟩ := h
    refine ⟨a42, ea42, ?_⟩
    have t42 : fR S40 c 2 = some w := by
      rw [F40.2.2.2.1, e36]
      show fR S33 c 2 = _
      rw [e33]; exact u2_self _ _ _ _
    cases t42.symm.trans ea42
    obtain ⟨o43, h⟩ := h
    refine ⟨o43, ?_⟩
    intro x44 ex44
    have h := h x44 ex44
    refine cm_X9_grant (sp_X9_grant h) h (fun x45 S46 hq h g47 => ?_)
    have rT : fR S46 = u2 (u2 (fR (sR S r 2 (some a))) r 5 (some a28)) c 2 (some w) := by
      have z1 : fR S46 = fR S40 := by rw [hq.2.2]; rfl
      have z2 : fR S36 = fR S33 := by rw [e36]; rfl
      have z3 : fR S25 = fR S14 := by rw [e25, e21, e17]; rfl
      rw [z1, F40.2.2.2.1, z2, e33, e31]
      show u2 (u2 (fR S25) r 5 (some a28)) c 2 (some w) = _
      rw [z3, KO.1]
    refine ⟨h g47, ⟨?_, ?_, ?_⟩, ⟨S14, ctA A hR, ls.2.2.1, ls.2.2.2.2, fun b k ob_ k9 k7 k0 => ?_⟩, fun x j hx hx2 => ?_, ?_, fun j hj => ?_, ?_, fun j h2 h5 => ?_⟩
    · rw [hq.2.1, ex44, rowW]; exact w4
    · rw [wI_ne hq.2.2 (by decide), rowC, c7]; exact ls.1.2.1.2.2.2.2
    · exact wI_at hq.2.2
    · have b14 := gr_ob g15 ob_
      have bc : b ≠ c := ob_ne b14 c14 k9
      have b25 := ob_I e25 (ob_I e21 (ob_I e17 b14))
      have b33 := ob_R e33 (ob_R e31 b25)
      have b34 : b ≠ a34 := ob_ne b33 o35 k7
      have b38 : b ≠ a38 := ob_ne (ob_I e36 b33) o39 k0
      rw [row_o hq.2.2 bc, (F40.2.2.2.2.1 b b38).1, row_o e36 b34, i33, row_o e25 bc, row_o e21 bc, row_o e17 bc]
    · rw [rT]
      rw [u2_ne _ _ (fun q => hx q.1), u2_ne _ _ (fun q => hx2 q.1)]
      exact u2_ne _ _ (fun q => hx2 q.1)
    · rw [rT]
      exact u2_self _ _ _ _
    · rw [rT]
      rw [u2_ne _ _ (fun q => hj q.2), u2_ne _ _ (fun q => nrc q.1.symm)]
      exact u2_ne _ _ (fun q => nrc q.1.symm)
    · rw [rT]
      rw [u2_ne _ _ (fun q => nrc q.1), u2_self]
      have z : fR S25 c 2 = fR S c 2 := by
        have : fR S25 = fR S14 := by rw [e25, e21, e17]; rfl
        rw [this, KO.1]
        exact u2_ne _ _ (fun q => nrc q.1.symm)
      rw [← z, ea28]
    · rw [rT]
      rw [u2_ne _ _ (fun q => nrc q.1), u2_ne _ _ (fun q => h5 q.2)]
      exact u2_ne _ _ (fun q => h2 q.2)
end Ct6
