/-! the class's parts of lines -/
def wcode (w : Nat) : Nat → Int64
  | 0 => 0
  | k + 1 => wcode w k * 32 + (sch w (nI k) &&& 31).toInt64
def code_ (w : Nat) : Int64 := wcode w (sLen.getD w 0)
def isW (f : Nat → Int32) (n p w : Nat) : Prop := tS f n p = 1 ∧ tV f n p = code_ w
theorem sl_le (w : Nat) : sLen.getD w 0 ≤ 10 := by
  by_cases hw : w < 54
  · have : ∀ w : Nat, w < 54 → sLen.getD w 0 ≤ 10 := by decide
    exact this w hw
  · have : sLen.getD w 0 = 0 := by
      rw [List.getD_eq_getElem?_getD, List.getElem?_eq_none (by show sLen.length ≤ w; have : sLen.length = 54 := by decide
                                                                omega)]
      rfl
    omega
theorem sS_le (f : Nat → Int32) (n p : Nat) : tS f n p ≤ 6 := by
  unfold tS
  split
  · omega
  · exact cls_le _ _ _
/-- one where P holds, nought where not -/
def ans (P : Prop) (x : Int32) : Prop := (P ∧ x = 1) ∨ (¬ P ∧ x = 0)
theorem an1 {P : Prop} {x : Int32} (h : ans P x) (c : ¬ x = 0) : P := h.elim (fun z => z.1) (fun z => absurd z.2 c)
theorem an0 {P : Prop} {x : Int32} (h : ans P x) (c : x = 0) : ¬ P := h.elim (fun z => absurd (z.2.symm.trans c) (by decide)) (fun z => z.1)
section Is
variable {f : Nat → Int32} {n a p : Nat} {Q : Int32 → HS → Prop} {S : HS} {v0 : Nat}
theorem lp_is {P : Prop} {v1 : Nat} {v2 : Int64} {v4 : Int32} (h : P_X4_is_15 Q v0 v1 v2 v4 S) (hP : P ↔ fJ S v0 8 = code_ v1) (hi : ∃ i : Nat, i ≤ sLen.getD v1 0 ∧ v4 = nI i ∧ v2 = wcode v1 i) : P_X4_is_15 (fun r T => Q r T ∧ S = T ∧ ans P r) v0 v1 v2 v4 S := by
  refine h (fun u0 u1 u2 u4 U => u0 = v0 → u1 = v1 → U = S → (∃ i : Nat, i ≤ sLen.getD v1 0 ∧ u4 = nI i ∧ u2 = wcode v1 i) → P_X4_is_15 (fun r T => Q r T ∧ S = T ∧ ans P r) u0 u1 u2 u4 U) ?_ rfl rfl rfl hi
  intro u0 u1 u2 u4 U h e0 e1 eU hi
  subst e0
  subst e1
  subst eU
  obtain ⟨i, hil, hv4, hv2⟩ := hi
  have hsl := sl_le u1
  have ei : u4.toInt = (i : Int) := by rw [hv4]; exact nI_i (by omega)
  have el : (nI (sLen.getD u1 0)).toInt = ((sLen.getD u1 0 : Nat) : Int) := nI_i (by omega)
  refine fd_X4_is_15 ?_
  delta B_X4_is_15
  obtain ⟨o1, h⟩ := h
  refine ⟨o1, ?_⟩
  intro x2 ex2
  have h := h x2 ex2
  refine ⟨?_, ?_⟩
  · intro c3
    have c4 := le_i c3
    rw [ex2, el, ei] at c4
    have hii : i = sLen.getD u1 0 := by omega
    have h := h.1 c3
    obtain ⟨o4, h⟩ := h
    refine ⟨o4, ?_⟩
    intro x5 ex5
    have h := h x5 ex5
    refine ⟨?_, ?_⟩
    · intro c6
      refine ⟨h.1 c6, rfl, Or.inr ⟨fun z => c6 ((lg_cmp_eq _ _).mpr ?_), rfl⟩⟩
      rw [ex5, hP.mp z, hv2, hii]; rfl
    · intro c7
      refine ⟨h.2 c7, rfl, Or.inl ⟨hP.mpr ?_, rfl⟩⟩
      rw [← ex5, (lg_cmp_eq _ _).mp c7, hv2, hii]; rfl
  · intro c8
    have c9 := nle_i c8
    rw [ex2, el, ei] at c9
    have h := h.2 c8
    obtain ⟨o9, h⟩ := h
    refine ⟨o9, ?_⟩
    obtain ⟨o10, h⟩ := h
    refine ⟨o10, ?_⟩
    intro x11 ex11
    have h := h x11 ex11
    intro x12 ex12
    have h := h x12 ex12
    intro x13 ex13
    have h := h x13 ex13
    refine h rfl rfl rfl ⟨i + 1, by omega, by rw [ex13, hv4]; exact nI_1 i, ?_⟩
    rw [ex12, ex11, hv2, hv4]; rfl
theorem sp_X4_is {v1 : Nat} (h : P_X4_is v0 v1 Q S) (tc : TC f n p v0 S) : P_X4_is v0 v1 (fun r T => Q r T ∧ S = T ∧ ans (isW f n p v1) r) S := by
  delta P_X4_is P_X4_is_0
  obtain ⟨o1, h⟩ := h
  refine ⟨o1, ?_⟩
  intro x2 ex2
  have h := h x2 ex2
  have hs := sS_le f n p
  refine ⟨?_, ?_⟩
  · intro c3
    have h1 : tS f n p = 1 := nI_inj (by omega) (by omega) (by rw [← tc.1, ← ex2, c3]; rfl)
    exact lp_is (h.1 c3) ⟨fun z => by rw [tc.2.2.1]; exact z.2, fun z => ⟨h1, by rw [← tc.2.2.1]; exact z⟩⟩ ⟨0, by omega, nI_0.symm, rfl⟩
  · intro c4
    exact ⟨h.2 c4, rfl, Or.inr ⟨fun z => c4 (by rw [ex2, tc.1, z.1]; rfl), rfl⟩⟩
end Is
/-- what a part of a line comes to: a place to go on from, or a fault's kind and place -/
abbrev Res : Type := Nat ⊕ (Nat × Nat)
def FrR (r : Nat) (S T : HS) : Prop := Fr [0, 1, 4, 6, 7, 9] [8] r S T
theorem frR_next {r : Nat} {S T : HS} (h : Fr [4, 6, 7] [8] r S T) : FrR r S T := fr_up h (by decide) (by decide)
theorem frR_fail {r : Nat} {S T : HS} (h : Fr [0, 1] [] r S T) : FrR r S T := fr_up h (by decide) (by decide)
theorem frR_val {r : Nat} {S T : HS} {v : Int32} (e : T = sI S r 9 v) : FrR r S T := fr_wI (fr_rf _ _ _ _) e (by decide)
theorem ec_R {f : Nat → Int32} {n a r : Nat} {S T : HS} (h : EC f n a r S) (g : FrR r S T) : EC f n a r T := ec_fr h g (by decide)
/-- the class answers so -/
def CB (f : Nat → Int32) (n r : Nat) (R : Res) (x : Int32) (T : HS) : Prop := match R with
  | .inl p => x = 1 ∧ TC f n p r T
  | .inr e => x = 0 ∧ fI T r 0 = nI e.1 ∧ fI T r 1 = nI e.2
noncomputable def sWord (f : Nat → Int32) (n p w : Nat) : Res := @ite _ (isW f n p w) (Classical.propDecidable _) (.inl (tEn f n p)) (.inr (1, tSt f n p))
def sSign (f : Nat → Int32) (n p k : Nat) : Res := if tS f n p = k then .inl (tEn f n p) else .inr (1, tSt f n p)
def sWhole (f : Nat → Int32) (n p : Nat) (lo hi : Int64) : Res := if tS f n p = 2 then (if tV f n p < lo ∨ hi < tV f n p then .inr (4, tSt f n p) else .inl (tEn f n p)) else .inr (1, tSt f n p)
/-- a position before a token, still in the text -/
def PO (f : Nat → Int32) (n a r p : Nat) (S : HS) : Prop := EC f n a r S ∧ TC f n p r S ∧ p ≤ 900
section Parts
variable {f : Nat → Int32} {n a p : Nat} {Q : Int32 → HS → Prop} {S T : HS} {v0 : Nat}
theorem po_4 (h : PO f n a v0 p S) : fI S v0 4 = nI (tEn f n p) := h.2.1.2.2.2.1
theorem po_0 (h : PO f n a v0 p S) : fI S v0 0 = 0 := h.2.1.2.2.2.2
theorem po_le (h : PO f n a v0 p S) : tEn f n p ≤ 900 := tEn_le h.2.2 h.1.2.2.2.2.1
theorem fl_res {x v1 : Int32} {k : Nat} (tc : TC f n p v0 S) (hv : v1 = nI k) (h : x = 0 ∧ Fr [0, 1] [] v0 S T ∧ fI T v0 0 = v1 ∧ fI T v0 1 = fI S v0 7) : FrR v0 S T ∧ CB f n v0 (.inr (k, tSt f n p)) x T := ⟨frR_fail h.2.1, h.1, by rw [h.2.2.1, hv], by rw [h.2.2.2]; exact tc.2.1⟩
theorem sp_X4_word {v1 : Nat} (h : P_X4_word v0 v1 Q S) (po : PO f n a v0 p S) : P_X4_word v0 v1 (fun r T => Q r T ∧ FrR v0 S T ∧ CB f n v0 (sWord f n p v1) r T) S := by
  delta P_X4_word P_X4_word_0
  obtain ⟨o1, h⟩ := h
  refine ⟨o1, ?_⟩
  refine cm_X4_is (sp_X4_is h po.2.1) h (fun x2 S3 hp h g4 b5 => ?_)
  have h := h g4 b5
  obtain ⟨-, hS, hx⟩ := hp
  subst hS
  refine ⟨?_, ?_⟩
  · intro c6
    have h := h.1 c6
    refine cm_X4_next (sp_X4_next h po.1 (po_4 po) (po_le po) (po_0 po)) h (fun S7 hp h g8 => ?_)
    have h := h g8
    refine ⟨h, frR_next hp.2.1, ?_⟩
    unfold sWord
    rw [if_pos (an1 hx c6)]
    exact ⟨rfl, hp.2.2⟩
  · intro c9
    have h := h.2 c9
    refine cm_X4_fail (sp_X4_fail h) h (fun x10 S11 hp h g12 b13 => ?_)
    have h := h g12 b13
    refine ⟨h.1, h.2, ?_⟩
    unfold sWord
    rw [if_neg (an0 hx c9)]
    exact fl_res (k := 1) po.2.1 rfl hp.2
theorem sp_X4_sign {v1 : Int32} {k : Nat} (h : P_X4_sign v0 v1 Q S) (po : PO f n a v0 p S) (hk : v1 = nI k) (hk9 : k ≤ 9) : P_X4_sign v0 v1 (fun r T => Q r T ∧ FrR v0 S T ∧ CB f n v0 (sSign f n p k) r T) S := by
  have hs := sS_le f n p
  delta P_X4_sign P_X4_sign_0
  obtain ⟨o1, h⟩ := h
  refine ⟨o1, ?_⟩
  intro x2 ex2
  have h := h x2 ex2
  refine ⟨?_, ?_⟩
  · intro c3
    have h := h.1 c3
    refine cm_X4_next (sp_X4_next h po.1 (po_4 po) (po_le po) (po_0 po)) h (fun S4 hp h g5 => ?_)
    have h := h g5
    refine ⟨h, frR_next hp.2.1, ?_⟩
    unfold sSign
    rw [if_pos (nI_inj (by omega) (by omega) (by rw [← po.2.1.1, ← ex2, c3, hk]))]
    exact ⟨rfl, hp.2.2⟩
  · intro c6
    have h := h.2 c6
    refine cm_X4_fail (sp_X4_fail h) h (fun x7 S8 hp h g9 b10 => ?_)
    have h := h g9 b10
    refine ⟨h.1, h.2, ?_⟩
    unfold sSign
    rw [if_neg (fun z => c6 (by rw [ex2, po.2.1.1, z, hk]))]
    exact fl_res (k := 1) po.2.1 rfl hp.2
theorem sp_X4_whole {v1 v2 : Int32} (h : P_X4_whole v0 v1 v2 Q S) (po : PO f n a v0 p S) : P_X4_whole v0 v1 v2 (fun r T => Q r T ∧ FrR v0 S T ∧ CB f n v0 (sWhole f n p v1.toInt64 v2.toInt64) r T ∧ (r = 1 → fI T v0 9 = (tV f n p).toInt32)) S := by
  have hs := sS_le f n p
  have tok := po.2.1.2.2.1
  have F4 : tS f n p = 2 → (tV f n p < v1.toInt64 ∨ v2.toInt64 < tV f n p) → ∀ (x : Int32) (T : HS), (x = 0 ∧ Fr [0, 1] [] v0 S T ∧ fI T v0 0 = (4 : Int32) ∧ fI T v0 1 = fI S v0 7) → FrR v0 S T ∧ CB f n v0 (sWhole f n p v1.toInt64 v2.toInt64) x T ∧ (x = 1 → fI T v0 9 = (tV f n p).toInt32) := by
    intro e2 eo x T hp
    obtain ⟨q1, q2⟩ := fl_res (k := 4) po.2.1 rfl hp
    refine ⟨q1, ?_, fun z => absurd (hp.1.symm.trans z) (by decide)⟩
    unfold sWhole
    rw [if_pos e2, if_pos eo]
    exact q2
  delta P_X4_whole P_X4_whole_0
  obtain ⟨o1, h⟩ := h
  refine ⟨o1, ?_⟩
  intro x2 ex2
  have h := h x2 ex2
  refine ⟨?_, ?_⟩
  · intro c3
    have e2 : tS f n p = 2 := nI_inj (by omega) (by omega) (by rw [← po.2.1.1, ← ex2, c3]; rfl)
    have h := h.1 c3
    intro x4 ex4
    have h := h x4 ex4
    refine ⟨?_, ?_⟩
    · intro c5
      have h := h.1 c5
      have lo := (lg_cmp_lt _ _).mp c5
      rw [ex4, tok] at lo
      delta P_X4_whole_34
      obtain ⟨o6, h⟩ := h
      refine ⟨o6, ?_⟩
      refine cm_X4_fail (sp_X4_fail h) h (fun x7 S8 hp h g9 b10 => ?_)
      have h := h g9 b10
      exact ⟨h.1, h.2, F4 e2 (Or.inl lo) _ _ hp.2⟩
    · intro c12
      have h := h.2 c12
      have lo : ¬ tV f n p < v1.toInt64 := fun z => c12 ((lg_cmp_lt _ _).mpr (by rw [ex4, tok]; exact z))
      intro x13 ex13
      have h := h x13 ex13
      refine ⟨?_, ?_⟩
      · intro c14
        have hi := (lg_cmp_le _ _).mp c14
        rw [ex13, tok] at hi
        have h := h.1 c14
        intro x15 ex15
        have h := h x15 ex15
        intro x16 ex16
        have h := h x16 ex16
        intro S17 eS17
        have h := h S17 eS17
        have g17 := frR_val eS17
        refine cm_X4_next (sp_X4_next h (ec_R po.1 g17) (by rw [wI_ne eS17 (by decide)]; exact po_4 po) (po_le po) (by rw [wI_ne eS17 (by decide)]; exact po_0 po)) h (fun S18 hp h g19 => ?_)
        have h := h g19
        refine ⟨h, fr_tr g17 (frR_next hp.2.1), ?_, fun _ => ?_⟩
        · unfold sWhole
          rw [if_pos e2, if_neg (fun z => z.elim lo (fun z => absurd z (Int64.not_lt.mpr hi)))]
          exact ⟨rfl, hp.2.2⟩
        · rw [hp.2.1.2.2.2.2.2.1 9 (by decide), wI_at eS17, ex16, ex15, tok]
      · intro c20
        have h := h.2 c20
        have hi : v2.toInt64 < tV f n p := Int64.not_le.mp (fun z => c20 ((lg_cmp_le _ _).mpr (by rw [ex13, tok]; exact z)))
        delta P_X4_whole_34
        obtain ⟨o21, h⟩ := h
        refine ⟨o21, ?_⟩
        refine cm_X4_fail (sp_X4_fail h) h (fun x22 S23 hp h g24 b25 => ?_)
        have h := h g24 b25
        exact ⟨h.1, h.2, F4 e2 (Or.inr hi) _ _ hp.2⟩
  · intro c27
    have h := h.2 c27
    refine cm_X4_fail (sp_X4_fail h) h (fun x28 S29 hp h g30 b31 => ?_)
    have h := h g30 b31
    obtain ⟨q1, q2⟩ := fl_res (k := 1) po.2.1 rfl hp.2
    refine ⟨h.1, h.2, q1, ?_, fun z => absurd (hp.2.1.symm.trans z) (by decide)⟩
    unfold sWhole
    rw [if_neg (fun z => c27 (by rw [ex2, po.2.1.1, z]; rfl))]
    exact q2
end Parts
