/-! places, roads, walkers, seens: written by a program -/
section Lines3
variable {f : Nat → Int32} {n a r w nm nd p : Nat} {A : AS} {B S T : HS} {Q : Int32 → HS → Prop}
/-- the world's own rows of ints are not the names' -/
def DSt (w nd : Nat) (B : HS) : Prop := ∀ j b, (j = 7 ∨ j = 10 ∨ j = 11) → fR B w j = some b → b ≠ nd
theorem ls_13 {b j i : Nat} {v : Int32} (hB : BFa a r w nm nd B) (hd : DSt w nd B) (ls : LnS f n a r w nm nd B A p S) (e : T = sI S b i v) (hj : j = 7 ∨ j = 10 ∨ j = 11) (hb : fR S w j = some b) (o : ob S b 13) : LnS f n a r w nm nd B A p T := by
  have o := bb_ob ls.2.2.2.1 o
  rw [ls.2.2.2.1.2.2.2] at hb
  exact ls_I ls e (ob_ne o hB.2.1 (by decide)) (ob_ne o hB.2.2.1 (by decide)) (hd j b hj hb) (ob_ne o hB.2.2.2.2.2 (by decide))
theorem new_split {L : Res} {g : Nat → Res} {x : Int32} {idn : Nat} (hB : BFa a r w nm nd B) (ls : LnS f n a r w nm nd B A p S) (hp : FrA r nm nd S T ∧ CB f n r (sNew f n p (aM A) (aV A) (aI A)) x T ∧ (x = 1 → NA (aM A + 1) (va_up (aV A) (aM A) (tV f n p)) (va_up (aI A) (aM A) idn) r nm nd T)) (K : L = rb (sNew f n p (aM A) (aV A) (aI A)) g) : (x = 0 ∧ ∀ A', LnB f n a r w nm nd B L A' 0 T) ∨ (∃ p', x = 1 ∧ p' = tEn f n p ∧ L = g p' ∧ LnS f n a r w nm nd B (upN A (tV f n p) idn) p' T) := by
  obtain ⟨F, hc, hn⟩ := hp
  cases hR : sNew f n p (aM A) (aV A) (aI A) with
  | inr e =>
    rw [hR] at hc
    exact Or.inl ⟨hc.1, fun A' => lb_f (rb_r K hR) rfl hc.2⟩
  | inl p' =>
    rw [hR] at hc
    have e1 := (sNew_inl hR).1
    obtain ⟨E1, E2, E3, E4, E5, E6⟩ := ls.1.1
    have h1 : w ≠ r := ob_ne hB.2.2.1 hB.2.1 (by decide)
    have h2 : w ≠ nm := ob_ne hB.2.2.1 hB.2.2.2.1 (by decide)
    have h3 : w ≠ nd := ob_ne hB.2.2.1 hB.2.2.2.2.1 (by decide)
    have h4 : a ≠ nm := ob_ne hB.2.2.2.2.2 hB.2.2.2.1 (by decide)
    have h5 : a ≠ nd := ob_ne hB.2.2.2.2.2 hB.2.2.2.2.1 (by decide)
    refine Or.inr ⟨p', hc.1, e1, rb_l K hR, ⟨⟨by rw [F.2.2.2.1]; exact E1, by rw [(F.2.2.2.2.1 a E6 h4 h5).1]; exact E2, by rw [F.2.2.2.2.2 3 (by decide)]; exact E3, by rw [F.2.2.1]; exact E4, E5, E6⟩, hc.2, by rw [e1]; exact le1 ls⟩, hn hc.1, cn_row ls.2.2.1 (F.2.2.2.2.1 w h1 h2 h3).1, bb_A ls.2.2.2.1 F, ls.2.2.2.2⟩
noncomputable def sPlace (f : Nat → Int32) (n p : Nat) (A : AS) : Res := rb (sNew f n p (aM A) (aV A) (aI A)) fun p => dc (isW f n p 15) (.inl (tEn f n p)) (dc (isW f n p 16) (sPart f n p 16 0 9) (.inl p))
theorem b64 {v1 : Int32} {L : Res} (hB : BFa a r w nm nd B) (hd : DSt w nd B) (h : P_X4_placeLine_64 Q r v1 S) (ls : LnS f n a r w nm nd B A p S) (K : L = .inl p) (hlt : aP A < 8) : P_X4_placeLine_64 (fun x T => Q x T ∧ LnB f n a r w nm nd B L (up2 A) x T) r v1 S := by
  delta P_X4_placeLine_64
  obtain ⟨o20, h⟩ := h
  refine ⟨o20, ?_⟩
  obtain ⟨a21, ea21, h⟩ := h
  refine ⟨a21, ea21, ?_⟩
  cases (ls_w hB ls).symm.trans ea21
  obtain ⟨o22, h⟩ := h
  refine ⟨o22, ?_⟩
  obtain ⟨a23, ea23, h⟩ := h
  refine ⟨a23, ea23, ?_⟩
  obtain ⟨a24, ea24, h⟩ := h
  refine ⟨a24, ea24, ?_⟩
  cases (ls_w hB ls).symm.trans ea24
  obtain ⟨o25, h⟩ := h
  refine ⟨o25, ?_⟩
  intro x26 ex26
  have h := h x26 ex26
  obtain ⟨o27, h⟩ := h
  refine ⟨o27, ?_⟩
  obtain ⟨o28, h⟩ := h
  refine ⟨o28, ?_⟩
  intro S29 eS29
  have h := h S29 eS29
  have ls := ls_13 hB hd ls eS29 (Or.inl rfl) ea23 o27
  obtain ⟨a30, ea30, h⟩ := h
  refine ⟨a30, ea30, ?_⟩
  cases (ls_w hB ls).symm.trans ea30
  obtain ⟨o31, h⟩ := h
  refine ⟨o31, ?_⟩
  intro x32 ex32
  have h := h x32 ex32
  intro x33 ex33
  have h := h x33 ex33
  intro S34 eS34
  have h := h S34 eS34
  exact ⟨h, lb_s K rfl (ls_C hB ls eS34 (cn_2 ls.2.2.1 eS34 (inc_ ex32 ls.2.2.1.2.2.1 ex33)) (ab_2 ls.2.2.2.2 hlt) ⟨rfl, rfl, rfl⟩)⟩
set_option maxHeartbeats 2000000 in
theorem sp_X4_placeLine (hB : BFa a r w nm nd B) (hd : DSt w nd B) (h : P_X4_placeLine r Q S) (ls : LnS f n a r w nm nd B A p S) (hlt : aP A < 8) (hm : aM A < 12) : P_X4_placeLine r (fun x T => Q x T ∧ LnB f n a r w nm nd B (sPlace f n p A) (up2 (upN A (tV f n p) (aP A))) x T) S := by
  delta P_X4_placeLine P_X4_placeLine_0
  obtain ⟨o1, h⟩ := h
  refine ⟨o1, ?_⟩
  obtain ⟨a2, ea2, h⟩ := h
  refine ⟨a2, ea2, ?_⟩
  cases (ls_w hB ls).symm.trans ea2
  obtain ⟨o3, h⟩ := h
  refine ⟨o3, ?_⟩
  intro x4 ex4
  have h := h x4 ex4
  have K : sPlace f n p A = rb _ _ := rfl
  refine cm_X4_newName (sp_X4_newName h ls.1 ls.2.1 hm (ex4.trans ls.2.2.1.2.2.1) (by omega) (ob_ne hB.2.2.2.2.2 hB.2.2.2.1 (by decide)) (ob_ne hB.2.2.2.2.2 hB.2.2.2.2.1 (by decide))) h (fun x5 S6 hp h g7 b8 => ?_)
  have h := h g7 b8
  rcases new_split hB ls hp.2 K with ⟨rfl, lb⟩ | ⟨p1, rfl, -, K, ls⟩
  · exact ⟨fun c => absurd rfl c, fun c => ⟨h.2 c, lb _⟩⟩
  refine ⟨fun c => ?_, fun c => absurd c (by decide)⟩
  have h := h.1 c
  refine cm_X4_is (sp_X4_is h ls.1.2.1) h (fun x10 S11 hp h g12 b13 => ?_)
  have h := h g12 b13
  obtain ⟨-, hS, hx⟩ := hp
  subst hS
  refine ⟨?_, ?_⟩
  · intro c14
    have h := h.1 c14
    have K := K.trans (dc_n (an0 hx c14))
    refine cm_X4_is (sp_X4_is h ls.1.2.1) h (fun x15 S16 hp h g17 b18 => ?_)
    have h := h g17 b18
    obtain ⟨-, hS, hx2⟩ := hp
    subst hS
    refine ⟨?_, ?_⟩
    · intro c19
      exact b64 hB hd (h.1 c19) ls (K.trans (dc_n (an0 hx2 c19))) hlt
    · intro c35
      have h := h.2 c35
      have K := (K.trans (dc_y (an1 hx2 c35))).trans (rb_id _)
      refine cm_X4_wordAndWhole (sp_X4_wordAndWhole h ls.1) h (fun x36 S37 hp h g38 b39 => ?_)
      have h := h g38 b39
      obtain ⟨-, F, hc, -⟩ := hp
      rcases cb_split hB ls F hc K (le_part ls) with ⟨rfl, lb⟩ | ⟨p2, rfl, hR, K, ls⟩
      · exact ⟨fun c => absurd rfl c, fun c => ⟨h.2 c, lb _⟩⟩
      refine ⟨fun c => ?_, fun c => absurd c (by decide)⟩
      have h := h.1 c
      intro x41 ex41
      have h := h x41 ex41
      exact b64 hB hd h ls K hlt
  · intro c58
    have h := h.2 c58
    have K := K.trans (dc_y (an1 hx c58))
    refine cm_X4_next (sp_X4_next h ls.1.1 (po_4 ls.1) (le1 ls) (po_0 ls.1)) h (fun S59 hp h g60 => ?_)
    have h := h g60
    exact b64 hB hd h (ls_R hB ls (frR_next hp.2.1) hp.2.2 (le1 ls)) K hlt
theorem b130 {L : Res} (hB : BFa a r w nm nd B) (h : P_X4_roadLine_130 Q r S) (ls : LnS f n a r w nm nd B A p S) (K : L = .inl p) (hlt : aR A < 12) : P_X4_roadLine_130 (fun x T => Q x T ∧ LnB f n a r w nm nd B L (up3 A) x T) r S := by
  delta P_X4_roadLine_130
  obtain ⟨o20, h⟩ := h
  refine ⟨o20, ?_⟩
  obtain ⟨a21, ea21, h⟩ := h
  refine ⟨a21, ea21, ?_⟩
  cases (ls_w hB ls).symm.trans ea21
  obtain ⟨o22, h⟩ := h
  refine ⟨o22, ?_⟩
  intro x32 ex32
  have h := h x32 ex32
  intro x33 ex33
  have h := h x33 ex33
  intro S34 eS34
  have h := h S34 eS34
  exact ⟨h, lb_s K rfl (ls_C hB ls eS34 (cn_3 ls.2.2.1 eS34 (inc_ ex32 ls.2.2.1.2.2.2.1 ex33)) (ab_3 ls.2.2.2.2 hlt) ⟨rfl, rfl, rfl⟩)⟩
noncomputable def sRoad (f : Nat → Int32) (n p : Nat) (A : AS) : Res := rb (sPB f n p A none) fun p1 => rb (sSide f n p1) fun p2 => rb (sWhole f n p2 1 60) fun p3 => rb (sPB f n p3 A (lkr (aV A) (aI A) (tV f n p) (aM A) 0)) fun p4 => dc (isW f n p4 17) (sPart f n p4 17 0 (tV f n p2).toInt32.toInt64) (.inl p4)
set_option maxHeartbeats 4000000 in
theorem sp_X4_roadLine (hB : BFa a r w nm nd B) (h : P_X4_roadLine r Q S) (ls : LnS f n a r w nm nd B A p S) (hlt : aR A < 12) : P_X4_roadLine r (fun x T => Q x T ∧ LnB f n a r w nm nd B (sRoad f n p A) (up3 A) x T) S := by
  delta P_X4_roadLine P_X4_roadLine_0
  obtain ⟨o1, h⟩ := h
  refine ⟨o1, ?_⟩
  obtain ⟨a2, ea2, h⟩ := h
  refine ⟨a2, ea2, ?_⟩
  cases (ls_w hB ls).symm.trans ea2
  obtain ⟨o3, h⟩ := h
  refine ⟨o3, ?_⟩
  obtain ⟨a4, ea4, h⟩ := h
  refine ⟨a4, ea4, ?_⟩
  obtain ⟨a5, ea5, h⟩ := h
  refine ⟨a5, ea5, ?_⟩
  cases (ls_w hB ls).symm.trans ea5
  obtain ⟨o6, h⟩ := h
  refine ⟨o6, ?_⟩
  intro x7 ex7
  have h := h x7 ex7
  obtain ⟨o8, h⟩ := h
  refine ⟨o8, ?_⟩
  obtain ⟨o9, h⟩ := h
  refine ⟨o9, ?_⟩
  obtain ⟨bo, ebo, h⟩ := h
  refine ⟨bo, ebo, ?_⟩
  have K : sRoad f n p A = rb _ _ := rfl
  refine cm_X4_placeBut (sp_X4_placeBut h ls (o := none) rfl (fun q z => by cases z)) h (fun x10 S11 hp h g12 b13 => ?_)
  have h := h g12 b13
  obtain ⟨-, F, hc, hv14⟩ := hp
  rcases cb_split hB ls F hc K (le_pb ls) with ⟨rfl, lb⟩ | ⟨p15, rfl, hRp15, K, ls⟩
  · exact ⟨fun c => absurd rfl c, fun c => ⟨h.2 c, lb _⟩⟩
  refine ⟨fun c => ?_, fun c => absurd c (by decide)⟩
  have h := h.1 c
  replace hv14 := hv14 rfl
  intro x16 ex16
  have h := h x16 ex16
  obtain ⟨o17, h⟩ := h
  refine ⟨o17, ?_⟩
  have ob_ := bb_ob ls.2.2.2.1 o17
  have hbr : bo ≠ r := ob_ne ob_ hB.2.1 (by decide)
  obtain ⟨q, hq, hq8, hv9⟩ := hv14
  intro T18 eT18
  have h := h T18 eT18
  replace ls := ls_Ik hB ls eT18 ob_ (by decide)
  have k0 : fI T18 bo 0 = nI q := by rw [wI_at eT18, ex16, hv9]
  refine cm_X4_side (sp_X4_side h ls.1) h (fun x19 S20 hp h g21 b22 => ?_)
  have h := h g21 b22
  obtain ⟨-, F, hc, hv23⟩ := hp
  rcases cb_split hB ls F hc K (le_side ls) with ⟨rfl, lb⟩ | ⟨p24, rfl, hRp24, K, ls⟩
  · exact ⟨fun c => absurd rfl c, fun c => ⟨h.2 c, lb _⟩⟩
  refine ⟨fun c => ?_, fun c => absurd c (by decide)⟩
  have h := h.1 c
  replace hv23 := hv23 rfl
  replace k0 := (congrFun (F.2.2.2.2.1 bo hbr).1 0).trans k0
  intro x25 ex25
  have h := h x25 ex25
  intro T26 eT26
  have h := h T26 eT26
  replace ls := ls_Ik hB ls eT26 ob_ (by decide)
  replace k0 := (wI_ne eT26 (by decide)).trans k0
  refine cm_X4_whole (sp_X4_whole h ls.1) h (fun x27 S28 hp h g29 b30 => ?_)
  have h := h g29 b30
  obtain ⟨-, F, hc, hv31⟩ := hp
  rcases cb_split hB ls F hc K (le_whole ls) with ⟨rfl, lb⟩ | ⟨p32, rfl, hRp32, K, ls⟩
  · exact ⟨fun c => absurd rfl c, fun c => ⟨h.2 c, lb _⟩⟩
  refine ⟨fun c => ?_, fun c => absurd c (by decide)⟩
  have h := h.1 c
  replace hv31 := hv31 rfl
  replace k0 := (congrFun (F.2.2.2.2.1 bo hbr).1 0).trans k0
  intro x33 ex33
  have h := h x33 ex33
  intro T34 eT34
  have h := h T34 eT34
  replace ls := ls_Ik hB ls eT34 ob_ (by decide)
  replace k0 := (wI_ne eT34 (by decide)).trans k0
  have k3 : fI T34 bo 3 = (tV f n p24).toInt32 := by rw [wI_at eT34, ex33, hv31]
  intro x35 ex35
  have h := h x35 ex35
  have e33 : x35 = enc (lkr (aV A) (aI A) (tV f n p) (aM A) 0) := by rw [ex35, k0, hq]; rfl
  refine cm_X4_placeBut (sp_X4_placeBut h ls e33 (na_lt ls.2.1)) h (fun x36 S37 hp h g38 b39 => ?_)
  have h := h g38 b39
  obtain ⟨-, F, hc, hv40⟩ := hp
  rcases cb_split hB ls F hc K (le_pb ls) with ⟨rfl, lb⟩ | ⟨p41, rfl, hRp41, K, ls⟩
  · exact ⟨fun c => absurd rfl c, fun c => ⟨h.2 c, lb _⟩⟩
  refine ⟨fun c => ?_, fun c => absurd c (by decide)⟩
  have h := h.1 c
  replace hv40 := hv40 rfl
  replace k0 := (congrFun (F.2.2.2.2.1 bo hbr).1 0).trans k0
  replace k3 := (congrFun (F.2.2.2.2.1 bo hbr).1 3).trans k3
  intro x42 ex42
  have h := h x42 ex42
  intro T43 eT43
  have h := h T43 eT43
  replace ls := ls_Ik hB ls eT43 ob_ (by decide)
  replace k0 := (wI_ne eT43 (by decide)).trans k0
  replace k3 := (wI_ne eT43 (by decide)).trans k3
  intro T44 eT44
  have h := h T44 eT44
  replace ls := ls_Ik hB ls eT44 ob_ (by decide)
  replace k0 := (wI_ne eT44 (by decide)).trans k0
  replace k3 := (wI_ne eT44 (by decide)).trans k3
  refine cm_X4_is (sp_X4_is h ls.1.2.1) h (fun xa Sa hp h ga ba => ?_)
  have h := h ga ba
  obtain ⟨-, hS, hx⟩ := hp
  subst hS
  refine ⟨?_, ?_⟩
  · intro c46
    exact b130 hB (h.1 c46) ls (K.trans (dc_n (an0 hx c46))) hlt
  · intro c53
    have h := h.2 c53
    have K := (K.trans (dc_y (an1 hx c53))).trans (rb_id _)
    intro x54 ex54
    have h := h x54 ex54
    rw [k3] at ex54
    subst ex54
    refine cm_X4_wordAndWhole (sp_X4_wordAndWhole h ls.1) h (fun x36 S37 hp h g38 b39 => ?_)
    have h := h g38 b39
    obtain ⟨-, F, hc, -⟩ := hp
    rcases cb_split hB ls F hc K (le_part ls) with ⟨rfl, lb⟩ | ⟨p5, rfl, hR, K, ls⟩
    · exact ⟨fun c => absurd rfl c, fun c => ⟨h.2 c, lb _⟩⟩
    refine ⟨fun c => ?_, fun c => absurd c (by decide)⟩
    have h := h.1 c
    intro x60 ex60
    have h := h x60 ex60
    intro S61 eS61
    have h := h S61 eS61
    exact b130 hB h (ls_Ik hB ls eS61 ob_ (by decide)) K hlt
end Lines3
