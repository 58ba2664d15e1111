/-! the class's lines -/
/-- what was told so far: hour, hours, places, roads, walkers, seens; the names -/
abbrev AS : Type := (Nat × Nat × Nat × Nat × Nat × Nat) × Nat × (Nat → Int64) × (Nat → Nat)
def aH (A : AS) : Nat := A.1.1
def aHs (A : AS) : Nat := A.1.2.1
def aP (A : AS) : Nat := A.1.2.2.1
def aR (A : AS) : Nat := A.1.2.2.2.1
def aW (A : AS) : Nat := A.1.2.2.2.2.1
def aS (A : AS) : Nat := A.1.2.2.2.2.2
def aM (A : AS) : Nat := A.2.1
def aV (A : AS) : Nat → Int64 := A.2.2.1
def aI (A : AS) : Nat → Nat := A.2.2.2
def Cnt (w : Nat) (A : AS) (S : HS) : Prop := fI S w 0 = nI (aH A) ∧ fI S w 1 = nI (aHs A) ∧ fI S w 2 = nI (aP A) ∧ fI S w 3 = nI (aR A) ∧ fI S w 4 = nI (aW A) ∧ fI S w 5 = nI (aS A)
/-- the same things are there, of the same kinds, joined alike -/
def Bas (B S : HS) : Prop := hL S = hL B ∧ hK S = hK B ∧ hN S = hN B ∧ fR S = fR B
def BFa (a r w nm nd : Nat) (B : HS) : Prop := fR B r 5 = some w ∧ ob B r 4 ∧ ob B w 8 ∧ ob B nm 14 ∧ ob B nd 13 ∧ ob B a 12
def ABd (A : AS) : Prop := aH A ≤ 60 ∧ aHs A ≤ 6 ∧ aP A ≤ 8 ∧ aR A ≤ 12 ∧ aW A ≤ 4 ∧ aS A ≤ 4
def LnS (f : Nat → Int32) (n a r w nm nd : Nat) (B : HS) (A : AS) (p : Nat) (S : HS) : Prop := PO f n a r p S ∧ NA (aM A) (aV A) (aI A) r nm nd S ∧ Cnt w A S ∧ Bas B S ∧ ABd A
/-- a line comes to this -/
def LnB (f : Nat → Int32) (n a r w nm nd : Nat) (B : HS) (R : Res) (A : AS) (x : Int32) (T : HS) : Prop := match R with
  | .inl p => x = 1 ∧ LnS f n a r w nm nd B A p T
  | .inr e => x = 0 ∧ fI T r 0 = nI e.1 ∧ fI T r 1 = nI e.2
theorem rb_l {L R : Res} {g : Nat → Res} {p : Nat} (K : L = rb R g) (h : R = .inl p) : L = g p := by rw [K, h]; rfl
theorem rb_r {L R : Res} {g : Nat → Res} {e : Nat × Nat} (K : L = rb R g) (h : R = .inr e) : L = .inr e := by rw [K, h]; rfl
theorem sPart_inl {f : Nat → Int32} {n p w p' : Nat} {lo hi : Int64} (h : sPart f n p w lo hi = .inl p') : p' = tEn f n (tEn f n p) := by
  unfold sPart at h
  cases hw : sWord f n p w with
  | inl p1 =>
    rw [hw] at h
    have h : sWhole f n p1 lo hi = .inl p' := h
    rw [sWhole_inl h, sWord_inl hw]
  | inr e => rw [hw] at h; cases h
section Lines
variable {f : Nat → Int32} {n a r w nm nd p : Nat} {A : AS} {B S T : HS} {Q : Int32 → HS → Prop}
theorem bb_ob {b k : Nat} (h : Bas B S) (o : ob S b k) : ob B b k := ⟨h.1 ▸ o.1, h.2.1 ▸ o.2⟩
theorem bb_ob' {b k : Nat} (h : Bas B S) (o : ob B b k) : ob S b k := ⟨h.1.symm ▸ o.1, h.2.1.symm ▸ o.2⟩
theorem ob_ne {b c k q : Nat} (o : ob B b k) (u : ob B c q) (h : k ≠ q) : b ≠ c := fun z => h (ob_inj o (z ▸ u))
theorem bb_R (h : Bas B S) (F : FrR r S T) : Bas B T := ⟨F.1.trans h.1, F.2.1.trans h.2.1, F.2.2.1.trans h.2.2.1, F.2.2.2.1.trans h.2.2.2⟩
theorem bb_A (h : Bas B S) (F : FrA r nm nd S T) : Bas B T := ⟨F.1.trans h.1, F.2.1.trans h.2.1, F.2.2.1.trans h.2.2.1, F.2.2.2.1.trans h.2.2.2⟩
theorem bb_I {b j : Nat} {v : Int32} (h : Bas B S) (e : T = sI S b j v) : Bas B T := by rw [e]; exact h
theorem cn_row (h : Cnt w A S) (e : fI T w = fI S w) : Cnt w A T := by unfold Cnt; rw [e]; exact h
theorem ls_w (hB : BFa a r w nm nd B) (ls : LnS f n a r w nm nd B A p S) : fR S r 5 = some w := by rw [ls.2.2.2.1.2.2.2]; exact hB.1
/-- a part was read well -/
theorem ls_R {p' : Nat} (hB : BFa a r w nm nd B) (ls : LnS f n a r w nm nd B A p S) (F : FrR r S T) (tc : TC f n p' r T) (hp : p' ≤ 900) : LnS f n a r w nm nd B A p' T :=
  ⟨⟨ec_R ls.1.1 F, tc, hp⟩, na_R ls.2.1 F, cn_row ls.2.2.1 (F.2.2.2.2.1 w (ob_ne hB.2.2.1 hB.2.1 (by decide))).1, bb_R ls.2.2.2.1 F, ls.2.2.2.2⟩
theorem le1 (ls : LnS f n a r w nm nd B A p S) : tEn f n p ≤ 900 := po_le ls.1
theorem le2 (ls : LnS f n a r w nm nd B A p S) : tEn f n (tEn f n p) ≤ 900 := tEn_le (po_le ls.1) ls.1.1.2.2.2.2.1
/-- something else is written -/
theorem ls_I {b j : Nat} {v : Int32} (ls : LnS f n a r w nm nd B A p S) (e : T = sI S b j v) (h1 : b ≠ r) (h2 : b ≠ w) (h3 : b ≠ nd) (h4 : b ≠ a) : LnS f n a r w nm nd B A p T := by
  obtain ⟨⟨⟨E1, E2, E3, E4, E5, E6⟩, ⟨t1, t2, t3, t4⟩, hp⟩, ⟨N1, N2, N3, N4, N5, N6, N7, N8⟩, hc, hb, ha⟩ := ls
  have row : ∀ c, c ≠ b → fI T c = fI S c := fun c hc => by rw [e]; exact u2_row _ _ hc
  have rr := row r (Ne.symm h1)
  have hJ : fJ T = fJ S := by rw [e]; rfl
  have hR : fR T = fR S := by rw [e]; rfl
  have hN : hN T = hN S := by rw [e]; rfl
  refine ⟨⟨⟨by rw [hR]; exact E1, by rw [row a (Ne.symm h4)]; exact E2, by rw [rr]; exact E3, by rw [hN]; exact E4, E5, E6⟩, ⟨by rw [rr]; exact t1, by rw [rr]; exact t2, by rw [hJ]; exact t3, by rw [rr]; exact t4⟩, hp⟩, ⟨by rw [hR]; exact N1, by rw [hR]; exact N2, by rw [rr]; exact N3, N4, fun k hk => ⟨by rw [hJ]; exact (N5 k hk).1, by rw [row nd (Ne.symm h3)]; exact (N5 k hk).2.1, (N5 k hk).2.2⟩, N6, N7, N8⟩, cn_row hc (row w (Ne.symm h2)), bb_I hb e, ha⟩
theorem ls_Ik {b j k : Nat} {v : Int32} (hB : BFa a r w nm nd B) (ls : LnS f n a r w nm nd B A p S) (e : T = sI S b j v) (o : ob B b k) (hk : k ≠ 4 ∧ k ≠ 8 ∧ k ≠ 13 ∧ k ≠ 12) : LnS f n a r w nm nd B A p T :=
  ls_I ls e (ob_ne o hB.2.1 hk.1) (ob_ne o hB.2.2.1 hk.2.1) (ob_ne o hB.2.2.2.2.1 hk.2.2.1) (ob_ne o hB.2.2.2.2.2 hk.2.2.2)
/-- a count is written -/
theorem ls_C {j : Nat} {v : Int32} {A' : AS} (hB : BFa a r w nm nd B) (ls : LnS f n a r w nm nd B A p S) (e : T = sI S w j v) (hA : Cnt w A' T) (hab : ABd A') (hm : aM A' = aM A ∧ aV A' = aV A ∧ aI A' = aI A) : LnS f n a r w nm nd B A' p T := by
  obtain ⟨⟨⟨E1, E2, E3, E4, E5, E6⟩, ⟨t1, t2, t3, t4⟩, hp⟩, ⟨N1, N2, N3, N4, N5, N6, N7, N8⟩, hc, hb, ha⟩ := ls
  have h1 : w ≠ r := ob_ne hB.2.2.1 hB.2.1 (by decide)
  have h3 : w ≠ nd := ob_ne hB.2.2.1 hB.2.2.2.2.1 (by decide)
  have h4 : w ≠ a := ob_ne hB.2.2.1 hB.2.2.2.2.2 (by decide)
  have row : ∀ c, c ≠ w → fI T c = fI S c := fun c hc => by rw [e]; exact u2_row _ _ hc
  have rr := row r (Ne.symm h1)
  have hJ : fJ T = fJ S := by rw [e]; rfl
  have hR : fR T = fR S := by rw [e]; rfl
  have hN : hN T = hN S := by rw [e]; rfl
  rw [← hm.1] at N3 N4 N5
  rw [← hm.2.1, ← hm.2.2] at N5
  exact ⟨⟨⟨by rw [hR]; exact E1, by rw [row a (Ne.symm h4)]; exact E2, by rw [rr]; exact E3, by rw [hN]; exact E4, E5, E6⟩, ⟨by rw [rr]; exact t1, by rw [rr]; exact t2, by rw [hJ]; exact t3, by rw [rr]; exact t4⟩, hp⟩, ⟨by rw [hR]; exact N1, by rw [hR]; exact N2, by rw [rr]; exact N3, N4, fun k hk => ⟨by rw [hJ]; exact (N5 k hk).1, by rw [row nd (Ne.symm h3)]; exact (N5 k hk).2.1, (N5 k hk).2.2⟩, N6, N7, N8⟩, hA, bb_I hb e, hab⟩
theorem lb_f {R : Res} {e : Nat × Nat} {x : Int32} {A' : AS} (K : R = .inr e) (hx : x = 0) (q : fI T r 0 = nI e.1 ∧ fI T r 1 = nI e.2) : LnB f n a r w nm nd B R A' x T := by rw [K]; exact ⟨hx, q⟩
theorem lb_s {R : Res} {p' : Nat} {x : Int32} {A' : AS} (K : R = .inl p') (hx : x = 1) (ls : LnS f n a r w nm nd B A' p' T) : LnB f n a r w nm nd B R A' x T := by rw [K]; exact ⟨hx, ls⟩
/-- a fault at this token -/
theorem lb_fl {R : Res} {k : Nat} {x v : Int32} {A' : AS} (ls : LnS f n a r w nm nd B A p S) (K : R = .inr (k, tSt f n p)) (hv : v = nI k) (hp : x = 0 ∧ Fr [0, 1] [] r S T ∧ fI T r 0 = v ∧ fI T r 1 = fI S r 7) : LnB f n a r w nm nd B R A' x T := lb_f K hp.1 ⟨by rw [hp.2.2.1, hv], by rw [hp.2.2.2]; exact ls.1.2.1.2.1⟩
noncomputable def sPB (f : Nat → Int32) (n p : Nat) (A : AS) (other : Option Nat) : Res := dc (nmOk f n p) (match lkr (aV A) (aI A) (tV f n p) (aM A) 0 with
  | none => .inr (2, tSt f n p)
  | some q => if q < 8 then (if some q = other then .inr (3, tSt f n p) else .inl (tEn f n p)) else .inr (2, tSt f n p)) (.inr (1, tSt f n p))
theorem enc_n {o : Option Nat} (h : ∀ q, o = some q → q < 100) (e : enc o = -1) : o = none := by
  cases o with
  | none => rfl
  | some q =>
    have hq := h q rfl
    have e1 : (-1 : Int32).toInt = -1 := by decide
    have e2 : (nI q).toInt = (q : Int) := nI_i (by omega)
    have e3 : nI q = (-1 : Int32) := e
    rw [e3, e1] at e2
    omega
theorem na_lt {m : Nat} {nv : Nat → Int64} {ni : Nat → Nat} {v : Int64} (N : NA m nv ni r nm nd S) : ∀ q, lkr nv ni v m 0 = some q → q < 100 := lkr_lt m 0 m (by omega) (fun j hj => (N.2.2.2.2.1 j hj).2.2)
theorem sPB_inl {o : Option Nat} {p' : Nat} (h : sPB f n p A o = .inl p') : p' = tEn f n p ∧ ∃ q, lkr (aV A) (aI A) (tV f n p) (aM A) 0 = some q ∧ q < 8 := by
  unfold sPB at h
  by_cases hk : nmOk f n p
  · rw [dc_y hk] at h
    cases hl : lkr (aV A) (aI A) (tV f n p) (aM A) 0 with
    | none => rw [hl] at h; cases h
    | some q =>
      rw [hl] at h
      by_cases h8 : q < 8
      · have h : (if q < 8 then (if some q = o then (.inr (3, tSt f n p) : Res) else .inl (tEn f n p)) else .inr (2, tSt f n p)) = .inl p' := h
        rw [if_pos h8] at h
        split at h
        · cases h
        · cases h; exact ⟨rfl, q, rfl, h8⟩
      · have h : (if q < 8 then (if some q = o then (.inr (3, tSt f n p) : Res) else .inl (tEn f n p)) else .inr (2, tSt f n p)) = .inl p' := h
        rw [if_neg h8] at h; cases h
  · rw [dc_n hk] at h; cases h
theorem sp_X4_placeBut {v1 : Int32} {o : Option Nat} (h : P_X4_placeBut r v1 Q S) (ls : LnS f n a r w nm nd B A p S) (ho : v1 = enc o) (ho9 : ∀ q, o = some q → q < 100) : P_X4_placeBut r v1 (fun x T => Q x T ∧ FrR r S T ∧ CB f n r (sPB f n p A o) x T ∧ (x = 1 → ∃ q, lkr (aV A) (aI A) (tV f n p) (aM A) 0 = some q ∧ q < 8 ∧ fI T r 9 = nI q)) S := by
  have po := ls.1
  have lt := na_lt (v := tV f n p) ls.2.1
  delta P_X4_placeBut P_X4_placeBut_0
  obtain ⟨o1, h⟩ := h
  refine ⟨o1, ?_⟩
  refine cm_X4_canBeName (sp_X4_canBeName h po.2.1) h (fun x2 S3 hp h g4 b5 => ?_)
  have h := h g4 b5
  obtain ⟨-, hS, hx⟩ := hp
  subst hS
  refine ⟨?_, ?_⟩
  · intro c6
    have h := h.1 c6
    have ok := an1 hx c6
    refine cm_X4_findName (sp_X4_findName h po.2.1 ls.2.1) h (fun x7 S8 hp h g9 => ?_)
    have h := h g9
    obtain ⟨-, hS, hx7⟩ := hp
    subst hS
    have fl : ∀ (k : Nat) (v : Int32), v = nI k → sPB f n p A o = .inr (k, tSt f n p) → ∀ (x : Int32) (T : HS), (x = 0 ∧ Fr [0, 1] [] r S T ∧ fI T r 0 = v ∧ fI T r 1 = fI S r 7) → FrR r S T ∧ CB f n r (sPB f n p A o) x T ∧ (x = 1 → ∃ q, lkr (aV A) (aI A) (tV f n p) (aM A) 0 = some q ∧ q < 8 ∧ fI T r 9 = nI q) := by
      intro k v hv K x T hp
      obtain ⟨q1, q2⟩ := fl_res (k := k) po.2.1 hv hp
      exact ⟨q1, by rw [K]; exact q2, fun z => absurd (hp.1.symm.trans z) (by decide)⟩
    refine ⟨?_, ?_⟩
    · intro c10
      have h := h.1 c10
      have hl := enc_n lt (hx7.symm.trans c10)
      delta P_X4_placeBut_29
      obtain ⟨o11, h⟩ := h
      refine ⟨o11, ?_⟩
      refine cm_X4_fail (sp_X4_fail h) h (fun x12 S13 hp h g14 b15 => ?_)
      have h := h g14 b15
      exact ⟨h.1, h.2, fl 2 _ rfl (by unfold sPB; rw [dc_y ok, hl]) _ _ hp.2⟩
    · intro c17
      have h := h.2 c17
      cases hl : lkr (aV A) (aI A) (tV f n p) (aM A) 0 with
      | none => exact absurd (by rw [hx7, hl]; rfl) c17
      | some q =>
        have hq := lt q hl
        have e7 : x7 = nI q := by rw [hx7, hl]; rfl
        have i7 : x7.toInt = (q : Int) := by rw [e7]; exact nI_i (by omega)
        have i8 : (8 : Int32).toInt = 8 := by decide
        rw [hl] at fl
        refine ⟨?_, ?_⟩
        · intro c18
          have := lt_i c18
          have h := h.1 c18
          refine ⟨?_, ?_⟩
          · intro c19
            have h := h.1 c19
            intro S20 eS20
            have h := h S20 eS20
            have g20 := frR_val eS20
            have ne : ¬ some q = o := fun z => c19 (by rw [e7, ho, ← z]; rfl)
            refine cm_X4_next (sp_X4_next h (ec_R po.1 g20) (by rw [wI_ne eS20 (by decide)]; exact po_4 po) (po_le po) (by rw [wI_ne eS20 (by decide)]; exact po_0 po)) h (fun S21 hp h g22 => ?_)
            have h := h g22
            refine ⟨h, fr_tr g20 (frR_next hp.2.1), ?_, fun _ => ⟨q, rfl, by omega, ?_⟩⟩
            · have K : sPB f n p A o = .inl (tEn f n p) := by
                unfold sPB
                rw [dc_y ok, hl]
                show (if q < 8 then _ else _) = _
                rw [if_pos (by omega), if_neg ne]
              rw [K]
              exact ⟨rfl, hp.2.2⟩
            · rw [hp.2.1.2.2.2.2.2.1 9 (by decide), wI_at eS20, e7]
          · intro c23
            have h := h.2 c23
            have eo : some q = o := by
              cases o with
              | none =>
                have e1 : (-1 : Int32).toInt = -1 := by decide
                have : x7 = -1 := c23.trans ho
                rw [this, e1] at i7
                omega
              | some z =>
                have hz := ho9 z rfl
                have : nI q = nI z := e7.symm.trans (c23.trans ho)
                rw [nI_inj (by omega) (by omega) this]
            refine cm_X4_fail (sp_X4_fail h) h (fun x24 S25 hp h g26 b27 => ?_)
            have h := h g26 b27
            refine ⟨h.1, h.2, fl 3 _ rfl ?_ _ _ hp.2⟩
            unfold sPB
            rw [dc_y ok, hl]
            show (if q < 8 then _ else _) = _
            rw [if_pos (by omega), if_pos eo]
        · intro c29
          have := nlt_i c29
          have h := h.2 c29
          delta P_X4_placeBut_29
          obtain ⟨o30, h⟩ := h
          refine ⟨o30, ?_⟩
          refine cm_X4_fail (sp_X4_fail h) h (fun x31 S32 hp h g33 b34 => ?_)
          have h := h g33 b34
          refine ⟨h.1, h.2, fl 2 _ rfl ?_ _ _ hp.2⟩
          unfold sPB
          rw [dc_y ok, hl]
          show (if q < 8 then _ else _) = _
          rw [if_neg (by omega)]
  · intro c36
    have h := h.2 c36
    refine cm_X4_fail (sp_X4_fail h) h (fun x37 S38 hp h g39 b40 => ?_)
    have h := h g39 b40
    obtain ⟨q1, q2⟩ := fl_res (k := 1) po.2.1 rfl hp.2
    refine ⟨h.1, h.2, q1, ?_, fun z => absurd (hp.2.1.symm.trans z) (by decide)⟩
    unfold sPB
    rw [dc_n (an0 hx c36)]
    exact q2
theorem sp_X8_isTold {v0 : Nat} {k : Nat} (h : P_X8_isTold v0 Q S) (hk : fI S v0 0 = nI k) (hk9 : k < 1000) : P_X8_isTold v0 (fun x T => Q x T ∧ S = T ∧ ans (0 < k) x) S := by
  have ek : (nI k).toInt = (k : Int) := nI_i (by omega)
  have e0 : (0 : Int32).toInt = 0 := by decide
  delta P_X8_isTold P_X8_isTold_0
  obtain ⟨o1, h⟩ := h
  refine ⟨o1, ?_⟩
  intro x2 ex2
  have h := h x2 ex2
  refine ⟨fun c3 => ⟨h.1 c3, rfl, Or.inr ⟨?_, rfl⟩⟩, fun c4 => ⟨h.2 c4, rfl, Or.inl ⟨?_, rfl⟩⟩⟩
  · have := le_i c3
    rw [ex2, hk, ek] at this
    omega
  · have := nle_i c4
    rw [ex2, hk, ek] at this
    omega
def sRoom (f : Nat → Int32) (n p hour count room : Nat) : Res := if hour = 0 then .inr (6, tSt f n p) else if count < room then .inl (tEn f n p) else .inr (5, tSt f n p)
theorem sp_X4_hasRoom {v1 v2 : Int32} {count room : Nat} (hB : BFa a r w nm nd B) (h : P_X4_hasRoom r v1 v2 Q S) (ls : LnS f n a r w nm nd B A p S) (h1 : v1 = nI count) (h2 : v2 = nI room) (hc9 : count < 1000) (hr9 : room < 1000) : P_X4_hasRoom r v1 v2 (fun x T => Q x T ∧ LnB f n a r w nm nd B (sRoom f n p (aH A) count room) A x T) S := by
  have hab := ls.2.2.2.2.1
  delta P_X4_hasRoom P_X4_hasRoom_0
  obtain ⟨o1, h⟩ := h
  refine ⟨o1, ?_⟩
  obtain ⟨a2, ea2, h⟩ := h
  refine ⟨a2, ea2, ?_⟩
  cases (ls_w hB ls).symm.trans ea2
  obtain ⟨o3, h⟩ := h
  refine ⟨o3, ?_⟩
  refine cm_X8_isTold (sp_X8_isTold h ls.2.2.1.1 (by omega)) h (fun x4 S5 hp h g6 b7 => ?_)
  have h := h g6 b7
  obtain ⟨-, hS, hx⟩ := hp
  subst hS
  have i1 : v1.toInt = (count : Int) := by rw [h1]; exact nI_i (by omega)
  have i2 : v2.toInt = (room : Int) := by rw [h2]; exact nI_i (by omega)
  refine ⟨?_, ?_⟩
  · intro c8
    have h := h.1 c8
    have hh := an1 hx c8
    refine ⟨?_, ?_⟩
    · intro c9
      have := lt_i c9
      have h := h.1 c9
      refine cm_X4_next (sp_X4_next h ls.1.1 (po_4 ls.1) (le1 ls) (po_0 ls.1)) h (fun S10 hp h g11 => ?_)
      have h := h g11
      refine ⟨h, lb_s (p' := tEn f n p) ?_ rfl (ls_R hB ls (frR_next hp.2.1) hp.2.2 (le1 ls))⟩
      unfold sRoom
      rw [if_neg (by omega), if_pos (by omega)]
    · intro c12
      have := nlt_i c12
      have h := h.2 c12
      refine cm_X4_fail (sp_X4_fail h) h (fun x13 S14 hp h g15 b16 => ?_)
      have h := h g15 b16
      refine ⟨h.1, h.2, lb_fl (k := 5) ls ?_ rfl hp.2⟩
      unfold sRoom
      rw [if_neg (by omega), if_neg (by omega)]
  · intro c18
    have h := h.2 c18
    have hh := an0 hx c18
    refine cm_X4_fail (sp_X4_fail h) h (fun x19 S20 hp h g21 b22 => ?_)
    have h := h g21 b22
    refine ⟨h.1, h.2, lb_fl (k := 6) ls ?_ rfl hp.2⟩
    unfold sRoom
    rw [if_pos (by omega)]
end Lines
