/-! walkers, seens: written by a program -/
section Lines4
variable {f : Nat → Int32} {n a r w nm nd p : Nat} {A : AS} {B S T : HS} {Q : Int32 → HS → Prop}
theorem ls_val {v : Int32} (hB : BFa a r w nm nd B) (ls : LnS f n a r w nm nd B A p S) (e : T = sI S r 9 v) : LnS f n a r w nm nd B A p T :=
  ls_R hB ls (frR_val e) ⟨by rw [wI_ne e (by decide)]; exact ls.1.2.1.1, by rw [wI_ne e (by decide)]; exact ls.1.2.1.2.1, by rw [wI_J e]; exact ls.1.2.1.2.2.1, by rw [wI_ne e (by decide)]; exact ls.1.2.1.2.2.2.1, by rw [wI_ne e (by decide)]; exact ls.1.2.1.2.2.2.2⟩ ls.1.2.2
theorem ls_Fr {b k : Nat} {W : List Nat} (hB : BFa a r w nm nd B) (ls : LnS f n a r w nm nd B A p S) (F : Fr W [] b S T) (o : ob B b k) (hk : k ≠ 4 ∧ k ≠ 8 ∧ k ≠ 13 ∧ k ≠ 12 ∧ k ≠ 14) : LnS f n a r w nm nd B A p T := by
  have h1 := ob_ne o hB.2.1 hk.1
  have h2 := ob_ne o hB.2.2.1 hk.2.1
  have h3 := ob_ne o hB.2.2.2.2.1 hk.2.2.1
  have h4 := ob_ne o hB.2.2.2.2.2 hk.2.2.2.1
  have h5 := ob_ne o hB.2.2.2.1 hk.2.2.2.2
  obtain ⟨⟨⟨E1, E2, E3, E4, E5, E6⟩, ⟨t1, t2, t3, t4⟩, hp⟩, ⟨N1, N2, N3, N4, N5, N6, N7, N8⟩, hc, hb, ha⟩ := ls
  obtain ⟨F1, F2, F3, F4, F5, F6, F7⟩ := F
  have rr := (F5 r (Ne.symm h1)).1
  refine ⟨⟨⟨by rw [F4]; exact E1, by rw [(F5 a (Ne.symm h4)).1]; exact E2, by rw [rr]; exact E3, by rw [F3]; exact E4, E5, E6⟩, ⟨by rw [rr]; exact t1, by rw [rr]; exact t2, by rw [(F5 r (Ne.symm h1)).2]; exact t3, by rw [rr]; exact t4⟩, hp⟩, ⟨by rw [F4]; exact N1, by rw [F4]; exact N2, by rw [rr]; exact N3, N4, fun k hk => ⟨by rw [(F5 nm (Ne.symm h5)).2]; exact (N5 k hk).1, by rw [(F5 nd (Ne.symm h3)).1]; exact (N5 k hk).2.1, (N5 k hk).2.2⟩, N6, N7, N8⟩, cn_row hc (F5 w (Ne.symm h2)).1, ⟨F1.trans hb.1, F2.trans hb.2.1, F3.trans hb.2.2.1, F4.trans hb.2.2.2⟩, ha⟩
theorem lb_I {L : Res} {A' : AS} {T' : HS} {b j : Nat} {v : Int32} (lb : ∀ A', LnB f n a r w nm nd B L A' 0 T) (e : T' = sI T b j v) (hb : b ≠ r) : LnB f n a r w nm nd B L A' 0 T' := by
  have lb := lb A'
  cases L with
  | inl p => exact absurd lb.1 (by decide)
  | inr q =>
    have row : fI T' r = fI T r := by rw [e]; exact u2_row _ _ (Ne.symm hb)
    exact ⟨rfl, by rw [row]; exact lb.2.1, by rw [row]; exact lb.2.2⟩
noncomputable def sSW (f : Nat → Int32) (n p : Nat) (A : AS) : Res := dc (nmOk f n p) (match lkr (aV A) (aI A) (tV f n p) (aM A) 0 with
  | none => .inr (2, tSt f n p)
  | some q => if q < 8 then .inr (2, tSt f n p) else .inl (tEn f n p)) (.inr (1, tSt f n p))
theorem sSW_some {q : Nat} (ok : nmOk f n p) (hl : lkr (aV A) (aI A) (tV f n p) (aM A) 0 = some q) : sSW f n p A = if q < 8 then .inr (2, tSt f n p) else .inl (tEn f n p) := by
  unfold sSW
  rw [dc_y ok, hl]
theorem le_sw (ls : LnS f n a r w nm nd B A p S) : ∀ p', sSW f n p A = .inl p' → p' ≤ 900 := fun p' h => by
  unfold sSW at h
  by_cases hk : nmOk f n p
  · rw [dc_y hk] at h
    cases hl : lkr (aV A) (aI A) (tV f n p) (aM A) 0 with
    | none => rw [hl] at h; cases h
    | some q =>
      rw [hl] at h
      have h : (if q < 8 then (.inr (2, tSt f n p) : Res) else .inl (tEn f n p)) = .inl p' := h
      split at h
      · cases h
      · cases h; exact le1 ls
  · rw [dc_n hk] at h; cases h
theorem sp_X4_someWalker (h : P_X4_someWalker r Q S) (ls : LnS f n a r w nm nd B A p S) : P_X4_someWalker r (fun x T => Q x T ∧ FrR r S T ∧ CB f n r (sSW f n p A) x T) S := by
  have po := ls.1
  have lt := na_lt (v := tV f n p) ls.2.1
  delta P_X4_someWalker P_X4_someWalker_0
  obtain ⟨o1, h⟩ := h
  refine ⟨o1, ?_⟩
  refine cm_X4_canBeName (sp_X4_canBeName h po.2.1) h (fun x2 S3 hp h g4 b5 => ?_)
  have h := h g4 b5
  obtain ⟨-, hS, hx⟩ := hp
  subst hS
  refine ⟨?_, ?_⟩
  · intro c6
    have h := h.1 c6
    have ok := an1 hx c6
    refine cm_X4_findName (sp_X4_findName h po.2.1 ls.2.1) h (fun x7 S8 hp h g9 => ?_)
    have h := h g9
    obtain ⟨-, hS, hx7⟩ := hp
    subst hS
    have i8 : (8 : Int32).toInt = 8 := by decide
    refine ⟨?_, ?_⟩
    · intro c10
      have c11 := le_i c10
      have h := h.1 c10
      cases hl : lkr (aV A) (aI A) (tV f n p) (aM A) 0 with
      | none =>
        rw [hx7, hl] at c11
        have : (enc none).toInt = -1 := by decide
        omega
      | some q =>
        have hq := lt q hl
        have i7 : x7.toInt = (q : Int) := by rw [hx7, hl]; exact nI_i (by omega)
        intro x11 ex11
        have h := h x11 ex11
        intro S12 eS12
        have h := h S12 eS12
        have g20 := frR_val eS12
        refine cm_X4_next (sp_X4_next h (ec_R po.1 g20) (by rw [wI_ne eS12 (by decide)]; exact po_4 po) (po_le po) (by rw [wI_ne eS12 (by decide)]; exact po_0 po)) h (fun S13 hp h g14 => ?_)
        have h := h g14
        refine ⟨h, fr_tr g20 (frR_next hp.2.1), ?_⟩
        rw [sSW_some ok hl, if_neg (by omega)]
        exact ⟨rfl, hp.2.2⟩
    · intro c15
      have c16 := nle_i c15
      have h := h.2 c15
      refine cm_X4_fail (sp_X4_fail h) h (fun x16 S17 hp h g18 b19 => ?_)
      have h := h g18 b19
      obtain ⟨q1, q2⟩ := fl_res (k := 2) po.2.1 rfl hp.2
      refine ⟨h.1, h.2, q1, ?_⟩
      cases hl : lkr (aV A) (aI A) (tV f n p) (aM A) 0 with
      | none =>
        have K : sSW f n p A = .inr (2, tSt f n p) := by
          unfold sSW
          rw [dc_y ok, hl]
        rw [K]; exact q2
      | some q =>
        have hq := lt q hl
        have i7 : x7.toInt = (q : Int) := by rw [hx7, hl]; exact nI_i (by omega)
        rw [sSW_some ok hl, if_pos (by omega)]
        exact q2
  · intro c21
    have h := h.2 c21
    refine cm_X4_fail (sp_X4_fail h) h (fun x22 S23 hp h g24 b25 => ?_)
    have h := h g24 b25
    obtain ⟨q1, q2⟩ := fl_res (k := 1) po.2.1 rfl hp.2
    refine ⟨h.1, h.2, q1, ?_⟩
    unfold sSW
    rw [dc_n (an0 hx c21)]
    exact q2
theorem sp9_X4_word {v1 : Nat} (h : P_X4_word r v1 Q S) (po : PO f n a r p S) : P_X4_word r v1 (fun x T => Q x T ∧ fI T r 9 = fI S r 9) S := by
  delta P_X4_word P_X4_word_0
  obtain ⟨o1, h⟩ := h
  refine ⟨o1, ?_⟩
  refine cm_X4_is (sp_X4_is h po.2.1) h (fun x2 S3 hp h g4 b5 => ?_)
  have h := h g4 b5
  obtain ⟨-, hS, hx⟩ := hp
  subst hS
  refine ⟨?_, ?_⟩
  · intro c6
    have h := h.1 c6
    refine cm_X4_next (sp_X4_next h po.1 (po_4 po) (po_le po) (po_0 po)) h (fun S7 hp h g8 => ?_)
    have h := h g8
    exact ⟨h, hp.2.1.2.2.2.2.2.1 9 (by decide)⟩
  · intro c9
    have h := h.2 c9
    refine cm_X4_fail (sp_X4_fail h) h (fun x10 S11 hp h g12 b13 => ?_)
    have h := h g12 b13
    exact ⟨h.1, h.2, hp.2.2.1.2.2.2.2.2.1 9 (by decide)⟩
noncomputable def sKind (f : Nat → Int32) (n p : Nat) : Res := dc (isW f n p 18) (sPart f n p 18 1 8) (dc (isW f n p 19) (sPart f n p 19 0 999) (dc (isW f n p 20) (sPart f n p 20 1 99) (sWord f n p 21)))
noncomputable def kdOf (f : Nat → Int32) (n p : Nat) : Nat := dc (isW f n p 18) 1 (dc (isW f n p 19) 2 (dc (isW f n p 20) 3 0))
noncomputable def amOf (f : Nat → Int32) (n p : Nat) : Int32 := dc (isW f n p 18) (pVal f n p) (dc (isW f n p 19) (pVal f n p) (dc (isW f n p 20) (pVal f n p) 0))
theorem kdOf_le (f : Nat → Int32) (n p : Nat) : kdOf f n p ≤ 3 := by
  unfold kdOf dc
  repeat' split
  all_goals omega
/-- the kind's end: the amount is put down -/
theorem kd_end {R : Res} {b : Nat} {x am : Int32} {kd : Nat} {T' : HS} {y : Int32} (hB : BFa a r w nm nd B) (ob_ : ob B b 6) (ls : LnS f n a r w nm nd B A p S) (F : FrR r S T) (hc : CB f n r R x T) (hle : ∀ p', R = .inl p' → p' ≤ 900) (k0 : fI S b 0 = nI kd) (hv : x = 1 → fI T r 9 = am) (ey : y = fI T r 9) (e : T' = sI T b 1 y) {L : Res} (K : L = R) : LnB f n a r w nm nd B L A x T' ∧ (x = 1 → fI T' b 0 = nI kd ∧ fI T' b 1 = am) := by
  have hbr := ob_ne ob_ hB.2.1 (by decide)
  rcases cb_split hB ls F hc (K.trans (rb_id R)) hle with ⟨rfl, lb⟩ | ⟨p1, rfl, hR, K, ls⟩
  · exact ⟨lb_I lb e hbr, fun z => absurd z (by decide)⟩
  · exact ⟨lb_s K rfl (ls_Ik hB ls e ob_ (by decide)), fun _ => ⟨by rw [wI_ne e (by decide), (F.2.2.2.2.1 b hbr).1]; exact k0, by rw [wI_at e, ey, hv rfl]⟩⟩
set_option maxHeartbeats 2000000 in
theorem sp_X4_kindOf {b : Nat} (hB : BFa a r w nm nd B) (ob_ : ob B b 6) (h : P_X4_kindOf r b Q S) (ls : LnS f n a r w nm nd B A p S) : P_X4_kindOf r b (fun x T => Q x T ∧ LnB f n a r w nm nd B (sKind f n p) A x T ∧ (x = 1 → fI T b 0 = nI (kdOf f n p) ∧ fI T b 1 = amOf f n p)) S := by
  have hbr := ob_ne ob_ hB.2.1 (by decide)
  delta P_X4_kindOf P_X4_kindOf_0
  obtain ⟨o1, h⟩ := h
  refine ⟨o1, ?_⟩
  intro S2 eS2
  have h := h S2 eS2
  have v9 : fI S2 r 9 = 0 := wI_at eS2
  have ls := ls_val hB ls eS2
  refine cm_X4_is (sp_X4_is h ls.1.2.1) h (fun x3 S4 hp h g5 b6 => ?_)
  have h := h g5 b6
  obtain ⟨-, hS, hx0⟩ := hp
  subst hS
  refine Iff.mp and_comm ⟨?_, ?_⟩
  · intro c
    have h := h.2 c
    have y := an1 hx0 c
    obtain ⟨o48, h⟩ := h
    refine ⟨o48, ?_⟩
    intro S49 eS49
    have h := h S49 eS49
    have ls := ls_Ik hB ls eS49 ob_ (by decide)
    refine cm_X4_wordAndWhole (sp_X4_wordAndWhole h ls.1) h (fun x50 S51 hp h g52 b53 => ?_)
    have h := h g52 b53
    obtain ⟨-, F, hc, hv⟩ := hp
    intro x54 ex54
    have h := h x54 ex54
    intro S55 eS55
    have h := h S55 eS55
    refine ⟨h.1, h.2, ?_⟩
    have e1 : kdOf f n p = 1 := by unfold kdOf; rw [dc_y y]
    have e2 : amOf f n p = pVal f n p := by unfold amOf; rw [dc_y y]
    have e3 : sKind f n p = sPart f n p 18 1 8 := by unfold sKind; rw [dc_y y]
    rw [e1, e2]
    exact kd_end hB ob_ ls F hc (le_part ls) (wI_at eS49) hv ex54 eS55 e3
  · intro c
    have h := h.1 c
    have n0 := an0 hx0 c
    refine cm_X4_is (sp_X4_is h ls.1.2.1) h (fun x3 S4 hp h g5 b6 => ?_)
    have h := h g5 b6
    obtain ⟨-, hS, hx1⟩ := hp
    subst hS
    refine Iff.mp and_comm ⟨?_, ?_⟩
    · intro c
      have h := h.2 c
      have y := an1 hx1 c
      obtain ⟨o48, h⟩ := h
      refine ⟨o48, ?_⟩
      intro S49 eS49
      have h := h S49 eS49
      have ls := ls_Ik hB ls eS49 ob_ (by decide)
      refine cm_X4_wordAndWhole (sp_X4_wordAndWhole h ls.1) h (fun x50 S51 hp h g52 b53 => ?_)
      have h := h g52 b53
      obtain ⟨-, F, hc, hv⟩ := hp
      intro x54 ex54
      have h := h x54 ex54
      intro S55 eS55
      have h := h S55 eS55
      refine ⟨h.1, h.2, ?_⟩
      have e1 : kdOf f n p = 2 := by unfold kdOf; rw [dc_n n0, dc_y y]
      have e2 : amOf f n p = pVal f n p := by unfold amOf; rw [dc_n n0, dc_y y]
      have e3 : sKind f n p = sPart f n p 19 0 999 := by unfold sKind; rw [dc_n n0, dc_y y]
      rw [e1, e2]
      exact kd_end hB ob_ ls F hc (le_part ls) (wI_at eS49) hv ex54 eS55 e3
    · intro c
      have h := h.1 c
      have n1 := an0 hx1 c
      refine cm_X4_is (sp_X4_is h ls.1.2.1) h (fun x3 S4 hp h g5 b6 => ?_)
      have h := h g5 b6
      obtain ⟨-, hS, hx2⟩ := hp
      subst hS
      refine Iff.mp and_comm ⟨?_, ?_⟩
      · intro c
        have h := h.2 c
        have y := an1 hx2 c
        obtain ⟨o48, h⟩ := h
        refine ⟨o48, ?_⟩
        intro S49 eS49
        have h := h S49 eS49
        have ls := ls_Ik hB ls eS49 ob_ (by decide)
        refine cm_X4_wordAndWhole (sp_X4_wordAndWhole h ls.1) h (fun x50 S51 hp h g52 b53 => ?_)
        have h := h g52 b53
        obtain ⟨-, F, hc, hv⟩ := hp
        intro x54 ex54
        have h := h x54 ex54
        intro S55 eS55
        have h := h S55 eS55
        refine ⟨h.1, h.2, ?_⟩
        have e1 : kdOf f n p = 3 := by unfold kdOf; rw [dc_n n0, dc_n n1, dc_y y]
        have e2 : amOf f n p = pVal f n p := by unfold amOf; rw [dc_n n0, dc_n n1, dc_y y]
        have e3 : sKind f n p = sPart f n p 20 1 99 := by unfold sKind; rw [dc_n n0, dc_n n1, dc_y y]
        rw [e1, e2]
        exact kd_end hB ob_ ls F hc (le_part ls) (wI_at eS49) hv ex54 eS55 e3
      · intro c
        have h := h.1 c
        have n2 := an0 hx2 c
        obtain ⟨o18, h⟩ := h
        refine ⟨o18, ?_⟩
        intro S19 eS19
        have h := h S19 eS19
        have v9 : fI S19 r 9 = 0 := by rw [eS19]; exact (u2_ne _ _ (fun q => hbr q.1.symm)).trans v9
        have ls := ls_Ik hB ls eS19 ob_ (by decide)
        refine cm_X4_word (sp_X4_word h ls.1) (sp9_X4_word h ls.1) (fun x20 S21 hp h9 g22 b23 => ?_)
        have h := h9.1 g22 b23
        obtain ⟨-, F, hc⟩ := hp
        intro x24 ex24
        have h := h x24 ex24
        intro S25 eS25
        have h := h S25 eS25
        refine ⟨h.1, h.2, ?_⟩
        have e1 : kdOf f n p = 0 := by unfold kdOf; rw [dc_n n0, dc_n n1, dc_n n2]
        have e2 : amOf f n p = 0 := by unfold amOf; rw [dc_n n0, dc_n n1, dc_n n2]
        have e3 : sKind f n p = sWord f n p 21 := by unfold sKind; rw [dc_n n0, dc_n n1, dc_n n2]
        rw [e1, e2]
        exact kd_end hB ob_ ls F hc (le_word ls) (wI_at eS19) (fun _ => h9.2.trans v9) ex24 eS25 e3
theorem sp_X6_shape {Q : HS → Prop} {v0 : Nat} {v1 v2 v3 : Int32} (h : P_X6_shape v0 v1 v2 v3 Q S) : P_X6_shape v0 v1 v2 v3 (fun T => Q T ∧ Fr [2, 3, 4] [] v0 S T) S := by
  delta P_X6_shape P_X6_shape_0
  obtain ⟨o1, h⟩ := h
  refine ⟨o1, ?_⟩
  intro x2 ex2
  have h := h x2 ex2
  have fin : ∀ z : Int32, P_X6_shape_16 Q v0 v1 v2 v3 z S → P_X6_shape_16 (fun T => Q T ∧ Fr [2, 3, 4] [] v0 S T) v0 v1 v2 v3 z S := by
    intro z h
    delta P_X6_shape_16
    obtain ⟨o4, h⟩ := h
    refine ⟨o4, ?_⟩
    intro x5 ex5
    have h := h x5 ex5
    intro S6 eS6
    have h := h S6 eS6
    intro x7 ex7
    have h := h x7 ex7
    intro S8 eS8
    have h := h S8 eS8
    intro x9 ex9
    have h := h x9 ex9
    intro S10 eS10
    have h := h S10 eS10
    exact ⟨h, fr_wI (fr_wI (fr_wI (fr_rf _ _ _ _) eS6 (by decide)) eS8 (by decide)) eS10 (by decide)⟩
  refine ⟨fun c3 => fin _ (h.1 c3), fun c11 => ?_⟩
  have h := h.2 c11
  intro x12 ex12
  have h := h x12 ex12
  exact fin _ h
noncomputable def lhOf (f : Nat → Int32) (n p : Nat) : Int32 := if kdOf f n p = 1 then amOf f n p + 1 else 1
noncomputable def sBody (f : Nat → Int32) (n p : Nat) (lh : Int32) : Res := rb (sPart f n p 22 1 9) fun p => rb (sPart f n p 23 1 9) fun p => sPart f n p 24 lh.toInt64 9
set_option maxHeartbeats 2000000 in
theorem sp_X4_bodyOf {b : Nat} {kd : Nat} {am lh : Int32} (hB : BFa a r w nm nd B) (ob_ : ob B b 6) (h : P_X4_bodyOf r b Q S) (ls : LnS f n a r w nm nd B A p S) (k0 : fI S b 0 = nI kd) (k1 : fI S b 1 = am) (hkd : kd ≤ 3) (hlh : lh = if kd = 1 then am + 1 else 1) : P_X4_bodyOf r b (fun x T => Q x T ∧ LnB f n a r w nm nd B (sBody f n p lh) A x T) S := by
  have hbr := ob_ne ob_ hB.2.1 (by decide)
  have K : sBody f n p lh = rb _ _ := rfl
  delta P_X4_bodyOf P_X4_bodyOf_0
  obtain ⟨o1, h⟩ := h
  refine ⟨o1, ?_⟩
  refine cm_X4_wordAndWhole (sp_X4_wordAndWhole h ls.1) h (fun x2 S3 hp h g4 b5 => ?_)
  have h := h g4 b5
  obtain ⟨-, F, hc, hv6⟩ := hp
  rcases cb_split hB ls F hc K (le_part ls) with ⟨rfl, lb⟩ | ⟨p7, rfl, hRp7, K, ls⟩
  · exact ⟨fun c => absurd rfl c, fun c => ⟨h.2 c, lb _⟩⟩
  refine ⟨fun c => ?_, fun c => absurd c (by decide)⟩
  have h := h.1 c
  replace hv6 := hv6 rfl
  replace k0 := (congrFun (F.2.2.2.2.1 b hbr).1 0).trans k0
  replace k1 := (congrFun (F.2.2.2.2.1 b hbr).1 1).trans k1
  intro x8 ex8
  have h := h x8 ex8
  refine cm_X4_wordAndWhole (sp_X4_wordAndWhole h ls.1) h (fun x9 S10 hp h g11 b12 => ?_)
  have h := h g11 b12
  obtain ⟨-, F, hc, hv13⟩ := hp
  rcases cb_split hB ls F hc K (le_part ls) with ⟨rfl, lb⟩ | ⟨p14, rfl, hRp14, K, ls⟩
  · exact ⟨fun c => absurd rfl c, fun c => ⟨h.2 c, lb _⟩⟩
  refine ⟨fun c => ?_, fun c => absurd c (by decide)⟩
  have h := h.1 c
  replace hv13 := hv13 rfl
  replace k0 := (congrFun (F.2.2.2.2.1 b hbr).1 0).trans k0
  replace k1 := (congrFun (F.2.2.2.2.1 b hbr).1 1).trans k1
  intro x15 ex15
  have h := h x15 ex15
  obtain ⟨o16, h⟩ := h
  refine ⟨o16, ?_⟩
  intro x17 ex17
  have h := h x17 ex17
  have fin : ∀ (v2 v3 s0 : Int32), s0 = lh → ∀ (Sx : HS), LnS f n a r w nm nd B A p14 Sx → P_X4_bodyOf_58 Q r b v2 v3 s0 Sx → P_X4_bodyOf_58 (fun x T => Q x T ∧ LnB f n a r w nm nd B (sBody f n p lh) A x T) r b v2 v3 s0 Sx := by
    intro v2 v3 s0 hs0 Sx ls h
    subst hs0
    have K := K.trans (rb_id _)
    delta P_X4_bodyOf_58
    obtain ⟨o17, h⟩ := h
    refine ⟨o17, ?_⟩
    refine cm_X4_wordAndWhole (sp_X4_wordAndWhole h ls.1) h (fun x18 S19 hp h g20 b21 => ?_)
    have h := h g20 b21
    obtain ⟨-, F, hc, -⟩ := hp
    rcases cb_split hB ls F hc K (le_part ls) with ⟨rfl, lb⟩ | ⟨p9, rfl, hR, K, ls⟩
    · exact ⟨fun c => absurd rfl c, fun c => ⟨h.2 c, lb _⟩⟩
    refine ⟨fun c => ?_, fun c => absurd c (by decide)⟩
    have h := h.1 c
    intro x23 ex23
    have h := h x23 ex23
    obtain ⟨o24, h⟩ := h
    refine ⟨o24, ?_⟩
    refine cm_X6_shape (sp_X6_shape h) h (fun S25 hp h g26 => ?_)
    have h := h g26
    exact ⟨h, lb_s K rfl (ls_Fr hB ls hp.2 ob_ (by decide))⟩
  refine ⟨fun c16 => ?_, fun c28 => ?_⟩
  · exact fin _ _ _ (by rw [hlh, if_neg (fun z => c16 (by rw [ex17, k0, z]; rfl))]) _ ls (h.1 c16)
  · have h := h.2 c28
    intro x29 ex29
    have h := h x29 ex29
    refine fin _ _ _ ?_ _ ls h
    rw [hlh, if_pos (nI_inj (by omega) (by omega) (by rw [← k0, ← ex17, c28]; rfl)), ex29, k1]
noncomputable def sWalker (f : Nat → Int32) (n p : Nat) (A : AS) : Res := rb (sNew f n p (aM A) (aV A) (aI A)) fun p1 => rb (sKind f n p1) fun p2 => rb (sBody f n p2 (lhOf f n p1)) fun p3 => rb (sPart f n p3 25 1 9) fun p4 => sPart f n p4 26 (pVal f n p3).toInt64 9
theorem lb_split {R L : Res} {g : Nat → Res} {x : Int32} (lb : LnB f n a r w nm nd B R A x T) (K : L = rb R g) : (x = 0 ∧ ∀ A', LnB f n a r w nm nd B L A' 0 T) ∨ (∃ p', x = 1 ∧ R = .inl p' ∧ L = g p' ∧ LnS f n a r w nm nd B A p' T) := by
  cases R with
  | inl p' => exact Or.inr ⟨p', lb.1, rfl, K, lb.2⟩
  | inr e => exact Or.inl ⟨lb.1, fun A' => lb_f K rfl lb.2⟩
set_option maxHeartbeats 4000000 in
theorem sp_X4_walkerLine (hB : BFa a r w nm nd B) (h : P_X4_walkerLine r Q S) (ls : LnS f n a r w nm nd B A p S) (hwk : ∀ x b i, fR B w 9 = some b → i < hN B b → fR B b i = some x → ob B x 6) (hlt : aW A < 4) (hm : aM A < 12) : P_X4_walkerLine r (fun x T => Q x T ∧ LnB f n a r w nm nd B (sWalker f n p A) (up4 (upN A (tV f n p) (8 + aW A))) x T) S := by
  delta P_X4_walkerLine P_X4_walkerLine_0
  obtain ⟨o1, h⟩ := h
  refine ⟨o1, ?_⟩
  obtain ⟨a2, ea2, h⟩ := h
  refine ⟨a2, ea2, ?_⟩
  cases (ls_w hB ls).symm.trans ea2
  obtain ⟨o3, h⟩ := h
  refine ⟨o3, ?_⟩
  obtain ⟨a4, ea4, h⟩ := h
  refine ⟨a4, ea4, ?_⟩
  obtain ⟨a5, ea5, h⟩ := h
  refine ⟨a5, ea5, ?_⟩
  cases (ls_w hB ls).symm.trans ea5
  obtain ⟨o6, h⟩ := h
  refine ⟨o6, ?_⟩
  intro x7 ex7
  have h := h x7 ex7
  obtain ⟨o8, h⟩ := h
  refine ⟨o8, ?_⟩
  obtain ⟨o9, h⟩ := h
  refine ⟨o9, ?_⟩
  obtain ⟨bo, ebo, h⟩ := h
  refine ⟨bo, ebo, ?_⟩
  obtain ⟨a10, ea10, h⟩ := h
  refine ⟨a10, ea10, ?_⟩
  cases (ls_w hB ls).symm.trans ea10
  obtain ⟨o11, h⟩ := h
  refine ⟨o11, ?_⟩
  intro x12 ex12
  have h := h x12 ex12
  have fB := ls.2.2.2.1.2.2.2
  have ob_ : ob B bo 6 := hwk bo a4 _ (by rw [← fB]; exact ea4) (by rw [← ls.2.2.2.1.2.2.1]; exact Nat.not_le.mp (fun z => o9 (Or.inr z))) (by rw [← fB]; exact ebo)
  have hbr := ob_ne ob_ hB.2.1 (by decide)
  have K : sWalker f n p A = rb _ _ := rfl
  refine cm_X4_newName (sp_X4_newName h ls.1 ls.2.1 hm (idn := 8 + aW A) (by rw [ex12, ls.2.2.1.2.2.2.2.1]; exact nI_add 8 (aW A)) (by omega) (ob_ne hB.2.2.2.2.2 hB.2.2.2.1 (by decide)) (ob_ne hB.2.2.2.2.2 hB.2.2.2.2.1 (by decide))) h (fun x5 S6 hp h g7 b8 => ?_)
  have h := h g7 b8
  rcases new_split hB ls hp.2 K with ⟨rfl, lb⟩ | ⟨p1, rfl, -, K, ls⟩
  · exact ⟨fun c => ⟨h.1 c, lb _⟩, fun c => absurd rfl c⟩
  refine ⟨fun c => absurd c (by decide), fun c => ?_⟩
  have h := h.2 c
  refine cm_X4_kindOf (sp_X4_kindOf hB ob_ h ls) h (fun x20 S21 hp h g22 b23 => ?_)
  have h := h g22 b23
  obtain ⟨-, lb, hk⟩ := hp
  rcases lb_split lb K with ⟨rfl, lb2⟩ | ⟨p2, rfl, -, K, ls⟩
  · exact ⟨fun c => ⟨h.1 c, lb2 _⟩, fun c => absurd rfl c⟩
  refine ⟨fun c => absurd c (by decide), fun c => ?_⟩
  have h := h.2 c
  obtain ⟨k0, k1⟩ := hk rfl
  refine cm_X4_bodyOf (sp_X4_bodyOf hB ob_ h ls k0 k1 (kdOf_le _ _ _) (lh := lhOf f n p1) rfl) h (fun x26 S27 hp h g28 b29 => ?_)
  have h := h g28 b29
  obtain ⟨-, lb⟩ := hp
  rcases lb_split lb K with ⟨rfl, lb2⟩ | ⟨p3, rfl, -, K, ls⟩
  · exact ⟨fun c => absurd rfl c, fun c => ⟨h.2 c, lb2 _⟩⟩
  refine ⟨fun c => ?_, fun c => absurd c (by decide)⟩
  have h := h.1 c
  refine cm_X4_wordAndWhole (sp_X4_wordAndWhole h ls.1) h (fun x101 S102 hp h g103 b104 => ?_)
  have h := h g103 b104
  obtain ⟨-, F, hc, hv105⟩ := hp
  rcases cb_split hB ls F hc K (le_part ls) with ⟨rfl, lb⟩ | ⟨p106, rfl, hRp106, K, ls⟩
  · exact ⟨fun c => absurd rfl c, fun c => ⟨h.2 c, lb _⟩⟩
  refine ⟨fun c => ?_, fun c => absurd c (by decide)⟩
  have h := h.1 c
  replace hv105 := hv105 rfl
  intro x107 ex107
  have h := h x107 ex107
  obtain ⟨o108, h⟩ := h
  refine ⟨o108, ?_⟩
  intro T109 eT109
  have h := h T109 eT109
  replace ls := ls_Ik hB ls eT109 ob_ (by decide)
  intro x110 ex110
  have h := h x110 ex110
  have k5 : x110 = pVal f n p3 := by rw [ex110, wI_at eT109, ex107, hv105]
  subst k5
  replace K := K.trans (rb_id _)
  refine cm_X4_wordAndWhole (sp_X4_wordAndWhole h ls.1) h (fun x111 S112 hp h g113 b114 => ?_)
  have h := h g113 b114
  obtain ⟨-, F, hc, hv115⟩ := hp
  rcases cb_split hB ls F hc K (le_part ls) with ⟨rfl, lb⟩ | ⟨p116, rfl, hRp116, K, ls⟩
  · exact ⟨fun c => absurd rfl c, fun c => ⟨h.2 c, lb _⟩⟩
  refine ⟨fun c => ?_, fun c => absurd c (by decide)⟩
  have h := h.1 c
  replace hv115 := hv115 rfl
  intro x117 ex117
  have h := h x117 ex117
  intro T118 eT118
  have h := h T118 eT118
  replace ls := ls_Ik hB ls eT118 ob_ (by decide)
  obtain ⟨a119, ea119, h⟩ := h
  refine ⟨a119, ea119, ?_⟩
  cases (ls_w hB ls).symm.trans ea119
  obtain ⟨o120, h⟩ := h
  refine ⟨o120, ?_⟩
  intro x121 ex121
  have h := h x121 ex121
  intro x122 ex122
  have h := h x122 ex122
  intro T123 eT123
  have h := h T123 eT123
  exact ⟨h, lb_s K rfl (ls_C hB ls eT123 (cn_4 ls.2.2.1 eT123 (inc_ ex121 ls.2.2.1.2.2.2.2.1 ex122)) (ab_4 ls.2.2.2.2 hlt) ⟨rfl, rfl, rfl⟩)⟩
end Lines4
