/-! the seen line; all lines -/
section Read
variable {f : Nat → Int32} {n a r w nm nd p : Nat} {A : AS} {B S T : HS} {Q : Int32 → HS → Prop}
noncomputable def sFc (f : Nat → Int32) (n : Nat) : Nat → Nat → Nat → Res
  | 0, _, p => .inl p
  | m + 1, i, p => rb (if i = 0 then .inl p else sSign f n p 4) fun p => rb (sWhole f n p 0 999) fun p => sFc f n m (i + 1) p
noncomputable def sSeen (f : Nat → Int32) (n p : Nat) (A : AS) : Res := rb (sSW f n p A) fun p => sFc f n 5 0 p
theorem b47 {v1 : Int32} {L : Res} {g : Nat → Res} {X : Nat → Int32 → HS → Prop} {X' : Nat → Int32 → HS → Prop} (hB : BFa a r w nm nd B) (hd : DSt w nd B) (h : P_X4_seenLine_47 Q X r v1 S) (ls : LnS f n a r w nm nd B A p S) (K : L = rb (sWhole f n p 0 999) g) (hX : ∀ (y : Int32) (p' : Nat) (U : HS), y = v1 + 1 → LnS f n a r w nm nd B A p' U → L = g p' → X r y U → X' r y U) : P_X4_seenLine_47 (fun x T => Q x T ∧ LnB f n a r w nm nd B L (up5 A) x T) X' r v1 S := by
  delta P_X4_seenLine_47
  obtain ⟨o10, h⟩ := h
  refine ⟨o10, ?_⟩
  refine cm_X4_whole (sp_X4_whole h ls.1) h (fun x11 S12 hp h g13 b14 => ?_)
  have h := h g13 b14
  obtain ⟨-, F, hc, -⟩ := hp
  rcases cb_split hB ls F hc K (le_whole ls) with ⟨rfl, lb⟩ | ⟨p1, rfl, hR, K, ls⟩
  · exact ⟨fun c => absurd rfl c, fun c => ⟨h.2 c, lb _⟩⟩
  refine ⟨fun c => ?_, fun c => absurd c (by decide)⟩
  have h := h.1 c
  obtain ⟨a16, ea16, h⟩ := h
  refine ⟨a16, ea16, ?_⟩
  cases (ls_w hB ls).symm.trans ea16
  obtain ⟨o17, h⟩ := h
  refine ⟨o17, ?_⟩
  obtain ⟨a18, ea18, h⟩ := h
  refine ⟨a18, ea18, ?_⟩
  obtain ⟨a19, ea19, h⟩ := h
  refine ⟨a19, ea19, ?_⟩
  cases (ls_w hB ls).symm.trans ea19
  obtain ⟨o20, h⟩ := h
  refine ⟨o20, ?_⟩
  intro x21 ex21
  have h := h x21 ex21
  intro x22 ex22
  have h := h x22 ex22
  obtain ⟨o23, h⟩ := h
  refine ⟨o23, ?_⟩
  obtain ⟨o24, h⟩ := h
  refine ⟨o24, ?_⟩
  intro S25 eS25
  have h := h S25 eS25
  intro x26 ex26
  have h := h x26 ex26
  exact hX _ p1 _ ex26 (ls_13 hB hd ls eS25 (Or.inr (Or.inr rfl)) ea18 o23) K h
set_option maxHeartbeats 2000000 in
theorem lp30 {L : Res} {v0 : Nat} {v1 : Int32} (hB : BFa a r w nm nd B) (hd : DSt w nd B) (hlt : aS A < 4) (h : P_X4_seenLine_30 Q v0 v1 S) (hi : ∃ i p', r = v0 ∧ i ≤ 5 ∧ v1 = nI i ∧ LnS f n a r w nm nd B A p' S ∧ L = sFc f n (5 - i) i p') : P_X4_seenLine_30 (fun x T => Q x T ∧ LnB f n a r w nm nd B L (up5 A) x T) v0 v1 S := by
  refine h (fun v0 v1 S => (∃ i p', r = v0 ∧ i ≤ 5 ∧ v1 = nI i ∧ LnS f n a r w nm nd B A p' S ∧ L = sFc f n (5 - i) i p') → P_X4_seenLine_30 (fun x T => Q x T ∧ LnB f n a r w nm nd B L (up5 A) x T) v0 v1 S) ?_ hi
  intro v0 v1 S h hi
  obtain ⟨i, p', rfl, hi5, hv1, ls, K⟩ := hi
  have e5 : (5 : Int32).toInt = 5 := by decide
  have e0 : (0 : Int32).toInt = 0 := by decide
  have ei : v1.toInt = (i : Int) := by rw [hv1]; exact nI_i (by omega)
  refine fd_X4_seenLine_30 ?_
  delta B_X4_seenLine_30
  refine ⟨?_, ?_⟩
  · intro c1
    have := le_i c1
    have h := h.1 c1
    have hi : i = 5 := by omega
    rw [hi, Nat.sub_self] at K
    obtain ⟨o2, h⟩ := h
    refine ⟨o2, ?_⟩
    obtain ⟨a3, ea3, h⟩ := h
    refine ⟨a3, ea3, ?_⟩
    cases (ls_w hB ls).symm.trans ea3
    obtain ⟨o4, h⟩ := h
    refine ⟨o4, ?_⟩
    intro x5 ex5
    have h := h x5 ex5
    intro x6 ex6
    have h := h x6 ex6
    intro S7 eS7
    have h := h S7 eS7
    exact ⟨h, lb_s K rfl (ls_C hB ls eS7 (cn_5 ls.2.2.1 eS7 (inc_ ex5 ls.2.2.1.2.2.2.2.2 ex6)) (ab_5 ls.2.2.2.2 hlt) ⟨rfl, rfl, rfl⟩)⟩
  · intro c8
    have := nle_i c8
    have h := h.2 c8
    have hs : 5 - i = (4 - i) + 1 := by omega
    rw [hs] at K
    have nx : ∀ (y : Int32) (p' : Nat) (U : HS), y = v1 + 1 → LnS f n a r w nm nd B A p' U → L = sFc f n (4 - i) (i + 1) p' → ((∃ i p', r = r ∧ i ≤ 5 ∧ y = nI i ∧ LnS f n a r w nm nd B A p' U ∧ L = sFc f n (5 - i) i p') → P_X4_seenLine_30 (fun x T => Q x T ∧ LnB f n a r w nm nd B L (up5 A) x T) r y U) → P_X4_seenLine_30 (fun x T => Q x T ∧ LnB f n a r w nm nd B L (up5 A) x T) r y U := fun y p' U ey ls K h => h ⟨i + 1, p', rfl, by omega, by rw [ey, hv1]; exact nI_1 i, ls, by rw [show 5 - (i + 1) = 4 - i by omega]; exact K⟩
    refine ⟨?_, ?_⟩
    · intro c9
      have := le_i c9
      have h := h.1 c9
      have hi : i = 0 := by omega
      refine b47 hB hd h ls (g := fun p => sFc f n (4 - i) (i + 1) p) (rb_l (p := p') K ?_) nx
      rw [if_pos hi]
    · intro c28
      have := nle_i c28
      have h := h.2 c28
      obtain ⟨o29, h⟩ := h
      refine ⟨o29, ?_⟩
      have K2 : L = rb (sSign f n p' 4) fun p => rb (sWhole f n p 0 999) fun p => sFc f n (4 - i) (i + 1) p := by
        rw [K]
        show rb (if i = 0 then .inl p' else sSign f n p' 4) _ = _
        rw [if_neg (by omega)]
      refine cm_X4_sign (sp_X4_sign h ls.1 (k := 4) rfl (by omega)) h (fun x30 S31 hp h g32 b33 => ?_)
      have h := h g32 b33
      obtain ⟨-, F, hc⟩ := hp
      rcases cb_split hB ls F hc K2 (le_sign ls) with ⟨rfl, lb⟩ | ⟨p1, rfl, hR, K3, ls⟩
      · exact ⟨fun c => ⟨h.1 c, lb _⟩, fun c => absurd rfl c⟩
      refine ⟨fun c => absurd c (by decide), fun c => ?_⟩
      have h := h.2 c
      exact b47 hB hd h ls K3 nx
theorem sp_X4_seenLine (hB : BFa a r w nm nd B) (hd : DSt w nd B) (hlt : aS A < 4) (h : P_X4_seenLine r Q S) (ls : LnS f n a r w nm nd B A p S) : P_X4_seenLine r (fun x T => Q x T ∧ LnB f n a r w nm nd B (sSeen f n p A) (up5 A) x T) S := by
  have K : sSeen f n p A = rb _ _ := rfl
  delta P_X4_seenLine P_X4_seenLine_0
  obtain ⟨o1, h⟩ := h
  refine ⟨o1, ?_⟩
  refine cm_X4_someWalker (sp_X4_someWalker h ls) h (fun x2 S3 hp h g4 b5 => ?_)
  have h := h g4 b5
  obtain ⟨-, F, hc⟩ := hp
  rcases cb_split hB ls F hc K (le_sw ls) with ⟨rfl, lb⟩ | ⟨p1, rfl, hR, K, ls⟩
  · exact ⟨fun c => absurd rfl c, fun c => ⟨h.2 c, lb _⟩⟩
  refine ⟨fun c => ?_, fun c => absurd c (by decide)⟩
  have h := h.1 c
  obtain ⟨a7, ea7, h⟩ := h
  refine ⟨a7, ea7, ?_⟩
  cases (ls_w hB ls).symm.trans ea7
  obtain ⟨o8, h⟩ := h
  refine ⟨o8, ?_⟩
  obtain ⟨a9, ea9, h⟩ := h
  refine ⟨a9, ea9, ?_⟩
  obtain ⟨a10, ea10, h⟩ := h
  refine ⟨a10, ea10, ?_⟩
  cases (ls_w hB ls).symm.trans ea10
  obtain ⟨o11, h⟩ := h
  refine ⟨o11, ?_⟩
  intro x12 ex12
  have h := h x12 ex12
  intro x13 ex13
  have h := h x13 ex13
  obtain ⟨o14, h⟩ := h
  refine ⟨o14, ?_⟩
  obtain ⟨o15, h⟩ := h
  refine ⟨o15, ?_⟩
  intro S16 eS16
  have h := h S16 eS16
  exact lp30 hB hd hlt h ⟨0, p1, rfl, by omega, nI_0.symm, ls_13 hB hd ls eS16 (Or.inr (Or.inl rfl)) ea9 o14, K⟩
/-- a line, by its first word: where it goes on, what is told then -/
noncomputable def sLn (f : Nat → Int32) (n p : Nat) (A : AS) : Res := dc (isW f n p 0) (sWorld f n p A) (dc (isW f n p 2) (rb (sRoom f n p (aH A) (aHs A) 6) fun p => sRain f n p) (dc (isW f n p 11) (rb (sRoom f n p (aH A) (aP A) 8) fun p => sPlace f n p A) (dc (isW f n p 12) (rb (sRoom f n p (aH A) (aR A) 12) fun p => sRoad f n p A) (dc (isW f n p 13) (rb (sRoom f n p (aH A) (aW A) 4) fun p => sWalker f n p A) (dc (isW f n p 14) (rb (sRoom f n p (aH A) (aS A) 4) fun p => sSeen f n p A) (.inr (1, tSt f n p)))))))
noncomputable def aLn (f : Nat → Int32) (n p : Nat) (A : AS) : AS := dc (isW f n p 0) (up0 A (tV f n (tEn f n (tEn f n p))).toInt32.toNatClampNeg) (dc (isW f n p 2) (up1 A) (dc (isW f n p 11) (up2 (upN A (tV f n (tEn f n p)) (aP A))) (dc (isW f n p 12) (up3 A) (dc (isW f n p 13) (up4 (upN A (tV f n (tEn f n p)) (8 + aW A))) (up5 A)))))
/-- behind a line: the end, or the next one -/
def aft (f : Nat → Int32) (n : Nat) (A1 : AS) (g : Nat → AS ⊕ (Nat × Nat)) (L : Res) : AS ⊕ (Nat × Nat) := match L with
  | .inr e => .inr e
  | .inl p1 => if tS f n p1 = 0 then (if 0 < aP A1 ∧ 0 < aW A1 then .inl A1 else .inr (6, tSt f n p1)) else (match sSign f n p1 3 with
    | .inr e => .inr e
    | .inl p2 => g p2)
noncomputable def sAll (f : Nat → Int32) (n : Nat) : Nat → Nat → AS → AS ⊕ (Nat × Nat)
  | 0, p, _ => .inr (1, tSt f n p)
  | k + 1, p, A => aft f n (aLn f n p A) (fun p2 => sAll f n k p2 (aLn f n p A)) (sLn f n p A)
/-- what the class's reader comes to -/
def RdB (f : Nat → Int32) (n a r w nm nd : Nat) (B : HS) (R : AS ⊕ (Nat × Nat)) (x : Int32) (T : HS) : Prop := match R with
  | .inl A => x = 1 ∧ ∃ p, LnS f n a r w nm nd B A p T
  | .inr e => x = 0 ∧ fI T r 0 = nI e.1 ∧ fI T r 1 = nI e.2
theorem sRoom_inl {hour count room p' : Nat} (h : sRoom f n p hour count room = .inl p') : p' = tEn f n p ∧ count < room ∧ 0 < hour := by
  unfold sRoom at h
  split at h
  · cases h
  · split at h
    · cases h; exact ⟨rfl, by assumption, by omega⟩
    · cases h
theorem rd_f {R : AS ⊕ (Nat × Nat)} {e : Nat × Nat} {x : Int32} (K : R = .inr e) (hx : x = 0) (q : fI T r 0 = nI e.1 ∧ fI T r 1 = nI e.2) : RdB f n a r w nm nd B R x T := by rw [K]; exact ⟨hx, q⟩
theorem b280 {R : AS ⊕ (Nat × Nat)} (h : P_X4_read_280 Q r S) (ls : LnS f n a r w nm nd B A p S) (K : R = .inr (6, tSt f n p)) : P_X4_read_280 (fun x T => Q x T ∧ RdB f n a r w nm nd B R x T) r S := by
  delta P_X4_read_280
  obtain ⟨o74, h⟩ := h
  refine ⟨o74, ?_⟩
  refine cm_X4_fail (sp_X4_fail h) h (fun x75 S76 hp h g77 b78 => ?_)
  have h := h g77 b78
  obtain ⟨-, hx, F, f0, f1⟩ := hp
  refine ⟨fun c => ⟨h.1 c, rd_f K rfl ⟨by rw [f0]; rfl, by rw [f1]; exact ls.1.2.1.2.1⟩⟩, fun c => absurd hx c⟩
set_option maxHeartbeats 2000000 in
theorem b248 {k : Nat} {v3 v4 : Int32} {L : Res} {A1 : AS} {R : AS ⊕ (Nat × Nat)} {X X' : Nat → Int32 → HS → Prop} (hB : BFa a r w nm nd B) (h : P_X4_read_248 Q X r v3 v4 S) (lb : LnB f n a r w nm nd B L A1 v4 S) (K : R = aft f n A1 (fun p2 => sAll f n k p2 A1) L) (hX : ∀ (p1 p2 : Nat) (y : Int32) (U : HS), L = .inl p1 → sSign f n p1 3 = .inl p2 → y = v3 + 1 → LnS f n a r w nm nd B A1 p2 U → R = sAll f n k p2 A1 → X r y U → X' r y U) : P_X4_read_248 (fun x T => Q x T ∧ RdB f n a r w nm nd B R x T) X' r v3 v4 S := by
  have hs0 : ∀ q, tS f n q < 100000 := fun q => by have := sS_le f n q; omega
  have e0 : (0 : Int32).toInt = 0 := by decide
  delta P_X4_read_248
  cases L with
  | inr e =>
    have hv : v4 = 0 := lb.1
    refine ⟨fun c => ?_, fun c => absurd hv c⟩
    have h := h.1 c
    delta P_X4_read_295
    exact ⟨fun c => ⟨h.1 c, rd_f K rfl lb.2⟩, fun c => absurd hv c⟩
  | inl p1 =>
    have hv : v4 = 1 := lb.1
    have ls := lb.2
    refine ⟨fun c => absurd (c.symm.trans hv) (by decide), fun c => ?_⟩
    have h := h.2 c
    obtain ⟨o56, h⟩ := h
    refine ⟨o56, ?_⟩
    intro x57 ex57
    have h := h x57 ex57
    refine ⟨?_, ?_⟩
    · intro c58
      have h := h.1 c58
      have hn : ¬ tS f n p1 = 0 := fun z => c58 (by rw [ex57, ls.1.2.1.1, z]; rfl)
      have K : R = match sSign f n p1 3 with
        | .inr e => .inr e
        | .inl p2 => sAll f n k p2 A1 := by
        rw [K]
        show (if tS f n p1 = 0 then _ else _) = _
        rw [if_neg hn]
      delta P_X4_read_295
      refine ⟨fun c => absurd (c.symm.trans hv) (by decide), fun c => ?_⟩
      have h := h.2 c
      obtain ⟨o61, h⟩ := h
      refine ⟨o61, ?_⟩
      refine cm_X4_sign (sp_X4_sign h ls.1 (k := 3) rfl (by omega)) h (fun x62 S63 hp h g64 b65 => ?_)
      have h := h g64 b65
      obtain ⟨-, F, hc⟩ := hp
      rcases cb_split hB ls F hc (rb_id _) (le_sign ls) with ⟨rfl, lb⟩ | ⟨p2, rfl, hR, -, ls⟩
      · refine ⟨fun c => absurd rfl c, fun c => ⟨h.2 c, ?_⟩⟩
        have lb := lb A1
        cases hR : sSign f n p1 3 with
        | inl p2 => rw [hR] at lb; exact absurd lb.1 (by decide)
        | inr e =>
          rw [hR] at lb K
          exact rd_f K rfl lb.2
      · refine ⟨fun c => ?_, fun c => absurd c (by decide)⟩
        have h := h.1 c
        intro x67 ex67
        have h := h x67 ex67
        exact hX p1 p2 _ _ rfl hR ex67 ls (by rw [K, hR]) h
    · intro c69
      have h := h.2 c69
      have hn : tS f n p1 = 0 := nI_inj (hs0 _) (by omega) (by rw [← ls.1.2.1.1, ← ex57, c69]; rfl)
      have K : R = if 0 < aP A1 ∧ 0 < aW A1 then .inl A1 else .inr (6, tSt f n p1) := by
        rw [K]
        show (if tS f n p1 = 0 then _ else _) = _
        rw [if_pos hn]
      have hab := ls.2.2.2.2
      obtain ⟨a70, ea70, h⟩ := h
      refine ⟨a70, ea70, ?_⟩
      cases (ls_w hB ls).symm.trans ea70
      obtain ⟨o71, h⟩ := h
      refine ⟨o71, ?_⟩
      intro x72 ex72
      have h := h x72 ex72
      have i72 : x72.toInt = (aP A1 : Int) := by rw [ex72, ls.2.2.1.2.2.1]; exact nI_i (by have := hab.2.2.1; omega)
      refine ⟨?_, ?_⟩
      · intro c73
        have := le_i c73
        exact b280 (h.1 c73) ls (by rw [K, if_neg (by omega)])
      · intro c81
        have := nle_i c81
        have h := h.2 c81
        obtain ⟨a82, ea82, h⟩ := h
        refine ⟨a82, ea82, ?_⟩
        cases (ls_w hB ls).symm.trans ea82
        obtain ⟨o83, h⟩ := h
        refine ⟨o83, ?_⟩
        intro x84 ex84
        have h := h x84 ex84
        have i84 : x84.toInt = (aW A1 : Int) := by rw [ex84, ls.2.2.1.2.2.2.2.1]; exact nI_i (by have := hab.2.2.2.2.1; omega)
        refine ⟨?_, ?_⟩
        · intro c85
          have := lt_i c85
          refine ⟨h.1 c85, ?_⟩
          rw [K, if_pos (by omega)]
          exact ⟨rfl, p1, ls⟩
        · intro c86
          have := nlt_i c86
          exact b280 (h.2 c86) ls (by rw [K, if_neg (by omega)])
end Read
