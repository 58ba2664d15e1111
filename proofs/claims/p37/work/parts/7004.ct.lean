/-! the whole text in the reference, with all that was told -/
def cntM (A : AS) (i : Nat) : Nat := if i ≤ 11 then aHs A else if i = 12 ∨ i = 18 then aP A else if i ≤ 17 then aR A else if i ≤ 25 then aW A else if i = 26 then aS A else 5 * aS A
def valM (G : GC) (i h : Nat) : Int32 := if i ≤ 11 then gRn G h (i - 7) else if i = 12 then treeOf (gPk G h) (gPv G h) else if i = 18 then innOf (gPk G h) else if i ≤ 17 then gRd G h (i - 13) else if i ≤ 25 then gWk G h (i - 19) else if i = 26 then gSn G h 0 else gSn G (h / 5) (h % 5 + 1)
def CtM (rd : Nat) (A : AS) (G : GC) (S : HS) : Prop := ∀ i b, 7 ≤ i → i ≤ 27 → fR S rd i = some b → ∀ h, h < cntM A i → fI S b h = valM G i h
section Ct13
variable {f : Nat → Int32} {n a rd nm ns nk p : Nat} {A : AS} {σ : Res} {Q : Int32 → HS → Prop} {QU : HS → Prop} {S T : HS} {v0 : Nat}
theorem dm_mv {m : Nat} (h : fR T = fR S) (D : DMr m rd S) : DMr m rd T := by
  unfold DMr
  rw [h]
  exact D
theorem ctm_F {m : Nat} {G : GC} (D : DMr m rd S) (h : CtM rd A G S) (F : FM m S T) : CtM rd A G T := by
  intro i b h1 h2 e z hz
  rw [F.2.2.2.1] at e
  rw [(F.2.2.2.2.1 b (D.1 i b h1 (by omega) e).1).1]
  exact h i b h1 h2 e z hz
theorem ctm_up {A' : AS} {G G' : GC} {k : Nat} {V : Nat → Option Int32} (ct : CtM rd A G S) (lt : LTm rd S T k V) (hn : ∀ i, 7 ≤ i → i ≤ 27 → V i = none → cntM A' i = cntM A i ∧ ∀ h, valM G' i h = valM G i h) (hs : ∀ i v, 7 ≤ i → i ≤ 27 → V i = some v → cntM A i = k ∧ cntM A' i = k + 1 ∧ valM G' i k = v ∧ ∀ h, h < k → valM G' i h = valM G i h) : CtM rd A' G' T := by
  intro i b h1 h2 e z hz
  rw [lt.1] at e
  rw [lt.2 i b h1 h2 e]
  cases hV : V i with
  | none =>
    obtain ⟨q1, q2⟩ := hn i h1 h2 hV
    rw [q2]
    exact ct i b h1 h2 e z (by omega)
  | some v =>
    obtain ⟨q1, q2, q3, q4⟩ := hs i v h1 h2 hV
    show va_up (fI S b) k v z = _
    by_cases zk : z = k
    · rw [zk, va_up_self, q3]
    · rw [va_up_ne _ _ zk, q4 z (by omega)]
      exact ct i b h1 h2 e z (by omega)
theorem vN_some {s N i : Nat} {c : Nat → Int32} {v : Int32} (h : vN s N c i = some v) : (s ≤ i ∧ i < s + N) ∧ v = c (i - s) := by
  unfold vN at h
  by_cases q : s ≤ i ∧ i < s + N
  · rw [if_pos q] at h
    cases h
    exact ⟨q, rfl⟩
  · rw [if_neg q] at h
    cases h
theorem vN_no {s N i : Nat} {c : Nat → Int32} (h : vN s N c i = none) : ¬ (s ≤ i ∧ i < s + N) := fun q => by
  unfold vN at h
  rw [if_pos q] at h
  cases h
theorem ctm_rain {G : GC} {c : Nat → Int32} (ct : CtM rd A G S) (lt : LTm rd S T (aHs A) (vN 7 5 c)) : CtM rd (up1 A) (gu1 G (aHs A) c) T := by
  refine ctm_up ct lt (fun i h1 h2 hV => ?_) (fun i v h1 h2 hV => ?_)
  · have q := vN_no hV
    have q : ¬ i ≤ 11 := by omega
    exact ⟨by simp only [cntM, if_neg q]; rfl, fun h => by simp only [valM, if_neg q]; rfl⟩
  · obtain ⟨q, rfl⟩ := vN_some hV
    have q : i ≤ 11 := by omega
    simp only [cntM, valM, if_pos q]
    refine ⟨trivial, rfl, ?_, fun h hh => ?_⟩
    · show va_up (gRn G) (aHs A) c (aHs A) (i - 7) = _
      rw [va_up_self]
    · show va_up (gRn G) (aHs A) c h (i - 7) = _
      rw [va_up_ne _ _ (by omega)]
theorem ctm_road {G : GC} {c : Nat → Int32} (ct : CtM rd A G S) (lt : LTm rd S T (aR A) (vN 13 5 c)) : CtM rd (up3 A) (gu3 G (aR A) c) T := by
  refine ctm_up ct lt (fun i h1 h2 hV => ?_) (fun i v h1 h2 hV => ?_)
  · have q := vN_no hV
    simp only [cntM, valM]
    by_cases a1 : i ≤ 11
    · simp only [if_pos a1]
      exact ⟨rfl, fun _ => rfl⟩
    · by_cases a2 : i = 12
      · subst a2
        exact ⟨rfl, fun _ => rfl⟩
      · have a3 : ¬ i ≤ 17 := by omega
        simp only [if_neg a1, if_neg a2, if_neg a3]
        exact ⟨rfl, fun _ => rfl⟩
  · obtain ⟨q, rfl⟩ := vN_some hV
    have q1 : ¬ i ≤ 11 := by omega
    have q2 : ¬ (i = 12 ∨ i = 18) := by omega
    have q3 : i ≤ 17 := by omega
    have q4 : ¬ i = 12 := by omega
    have q5 : ¬ i = 18 := by omega
    simp only [cntM, valM, if_neg q1, if_neg q2, if_pos q3, if_neg q4, if_neg q5]
    refine ⟨trivial, rfl, ?_, fun h hh => ?_⟩
    · show va_up (gRd G) (aR A) c (aR A) (i - 13) = _
      rw [va_up_self]
    · show va_up (gRd G) (aR A) c h (i - 13) = _
      rw [va_up_ne _ _ (by omega)]
theorem ctm_walk {G : GC} {c : Nat → Int32} {w : Int64} {u : Nat} (ct : CtM rd A G S) (lt : LTm rd S T (aW A) (vN 19 7 c)) : CtM rd (up4 (upN A w u)) (gu4 G (aW A) c) T := by
  refine ctm_up ct lt (fun i h1 h2 hV => ?_) (fun i v h1 h2 hV => ?_)
  · have q := vN_no hV
    simp only [cntM, valM]
    by_cases a1 : i ≤ 25
    · have a2 : i ≤ 18 := by omega
      by_cases b1 : i ≤ 11
      · simp only [if_pos b1]; exact ⟨rfl, fun _ => rfl⟩
      · by_cases b2 : i = 12
        · subst b2; exact ⟨rfl, fun _ => rfl⟩
        · by_cases b3 : i = 18
          · subst b3; exact ⟨rfl, fun _ => rfl⟩
          · have b4 : i ≤ 17 := by omega
            simp only [if_neg b1, if_neg b2, if_neg b3, if_pos b4]
            exact ⟨rfl, fun _ => rfl⟩
    · have b1 : ¬ i ≤ 11 := by omega
      have b2 : ¬ i = 12 := by omega
      have b3 : ¬ i = 18 := by omega
      have b4 : ¬ i ≤ 17 := by omega
      simp only [if_neg a1, if_neg b1, if_neg b2, if_neg b3, if_neg b4]
      exact ⟨rfl, fun _ => rfl⟩
  · obtain ⟨q, rfl⟩ := vN_some hV
    have q1 : ¬ i ≤ 11 := by omega
    have q2 : ¬ (i = 12 ∨ i = 18) := by omega
    have q3 : ¬ i ≤ 17 := by omega
    have q4 : ¬ i = 12 := by omega
    have q5 : ¬ i = 18 := by omega
    have q6 : i ≤ 25 := by omega
    simp only [cntM, valM, if_neg q1, if_neg q2, if_neg q3, if_neg q4, if_neg q5, if_pos q6]
    refine ⟨trivial, rfl, ?_, fun h hh => ?_⟩
    · show va_up (gWk G) (aW A) c (aW A) (i - 19) = _
      rw [va_up_self]
    · show va_up (gWk G) (aW A) c h (i - 19) = _
      rw [va_up_ne _ _ (by omega)]
theorem ctm_place {G : GC} {k : Nat} {x : Int32} {w : Int64} {u : Nat} (ct : CtM rd A G S) (lt : LTm rd S T (aP A) (pV k x)) : CtM rd (up2 (upN A w u)) (gu2 G (aP A) k x) T := by
  refine ctm_up ct lt (fun i h1 h2 hV => ?_) (fun i v h1 h2 hV => ?_)
  · have q : i ≠ 12 ∧ i ≠ 18 := by
      refine ⟨fun z => ?_, fun z => ?_⟩
      · rw [z] at hV
        unfold pV at hV
        rw [va_up_self] at hV
        cases hV
      · rw [z] at hV
        unfold pV at hV
        rw [va_up_ne _ _ (by decide), va_up_self] at hV
        cases hV
    simp only [cntM, valM, if_neg q.1, if_neg q.2, if_neg (fun z : i = 12 ∨ i = 18 => z.elim q.1 q.2)]
    exact ⟨rfl, fun _ => rfl⟩
  · by_cases a1 : i = 12
    · subst a1
      unfold pV at hV
      rw [va_up_self] at hV
      cases hV
      refine ⟨rfl, rfl, ?_, fun h hh => ?_⟩
      · show treeOf (va_up (gPk G) (aP A) k (aP A)) (va_up (gPv G) (aP A) x (aP A)) = _
        rw [va_up_self, va_up_self]
      · show treeOf (va_up (gPk G) (aP A) k h) (va_up (gPv G) (aP A) x h) = _
        rw [va_up_ne _ _ (by omega), va_up_ne _ _ (by omega)]
        rfl
    · by_cases a2 : i = 18
      · subst a2
        unfold pV at hV
        rw [va_up_ne _ _ (by decide), va_up_self] at hV
        cases hV
        refine ⟨rfl, rfl, ?_, fun h hh => ?_⟩
        · show innOf (va_up (gPk G) (aP A) k (aP A)) = _
          rw [va_up_self]
        · show innOf (va_up (gPk G) (aP A) k h) = _
          rw [va_up_ne _ _ (by omega)]
          rfl
      · unfold pV at hV
        rw [va_up_ne _ _ a1, va_up_ne _ _ a2] at hV
        cases hV
theorem ctm_seen {G : GC} {P : Nat} (ct : CtM rd A G S) (sf : SnF f n rd (aS A) (tEn f n P) (nI (lkV A (tV f n P) - 8)) S T) : CtM rd (up5 A) (gu5 G (aS A) (snC f n P A)) T := by
  obtain ⟨s1, s2, s3, s4⟩ := sf
  intro i b h1 h2 e z hz
  rw [s1] at e
  by_cases a1 : i = 26
  · subst a1
    rw [s3 b e]
    have hz : z < aS A + 1 := hz
    show _ = va_up (gSn G) (aS A) (snC f n P A) z 0
    by_cases zk : z = aS A
    · rw [zk, va_up_self, va_up_self]
      rfl
    · rw [va_up_ne _ _ zk, va_up_ne _ _ zk]
      exact ct 26 b h1 h2 e z (show z < aS A by omega)
  · by_cases a2 : i = 27
    · subst a2
      have hz : z < 5 * (aS A + 1) := hz
      show _ = va_up (gSn G) (aS A) (snC f n P A) (z / 5) (z % 5 + 1)
      by_cases zk : z < 5 * aS A
      · rw [(s4 b e).1 z zk, va_up_ne _ _ (by omega)]
        exact ct 27 b h1 h2 e z zk
      · have e1 : z / 5 = aS A := by omega
        have e2 : z = 5 * aS A + z % 5 := by omega
        rw [e1, va_up_self]
        have q := (s4 b e).2 (z % 5) (by omega)
        rw [← e2] at q
        rw [q]
        unfold snC
        rw [if_neg (by omega), Nat.add_sub_cancel]
    · rw [s2 i b h1 h2 a1 a2 e]
      have c1 : cntM (up5 A) i = cntM A i := by
        simp only [cntM, if_neg a1]
        by_cases b1 : i ≤ 25
        · simp only [if_pos b1]; rfl
        · exfalso; omega
      rw [c1] at hz
      have c2 : valM (gu5 G (aS A) (snC f n P A)) i z = valM G i z := by
        simp only [valM, if_neg a1]
        by_cases b1 : i ≤ 25
        · simp only [if_pos b1]; rfl
        · exfalso; omega
      rw [c2]
      exact ct i b h1 h2 e z hz
theorem ctm_none {G : GC} {k : Nat} {h' : Nat} (ct : CtM rd A G S) (lt : LTm rd S T k (fun _ => none)) : CtM rd (up0 A h') G T := ctm_up ct lt (fun _ _ _ _ => ⟨rfl, fun _ => rfl⟩) (fun _ _ _ _ hV => by cases hV)
theorem sq_X11_readWorld (h : P_X11_readWorld v0 QU S) (M : MS f n a v0 (.inl p) S) (W : RMw v0 rd nm ns nk A S) (dm : DMr v0 rd S) (hg : ∀ q, (.inl p : Res) = .inl q → tS f n q ≠ 6) : P_X11_readWorld v0 (fun T => QU T ∧ LBm f n a v0 rd nm ns nk (sWorld f n p A) (up0 A (tV f n (tEn f n (tEn f n p))).toInt32.toNatClampNeg) T ∧ ∀ q, sWorld f n p A = .inl q → LTm rd S T 0 (fun _ => none)) S := by
  have lt := ltm_0 rd 0 S
  delta P_X11_readWorld P_X11_readWorld_0
  obtain ⟨oq1, h⟩ := h
  refine ⟨oq1, ?_⟩
  obtain ⟨aq2, eaq2, h⟩ := h
  refine ⟨aq2, eaq2, ?_⟩
  cases W.1.symm.trans eaq2
  obtain ⟨oq3, h⟩ := h
  refine ⟨oq3, ?_⟩
  intro xq4 exq4
  have h := h xq4 exq4
  refine ⟨?_, ?_⟩
  · intro cq5
    have h0 : aH A = 0 := by
      have z := le_i cq5
      rw [exq4, W.2.2.1.1, nI_i (by have := W.2.2.2.2.1.1; omega)] at z
      have e0 : (0 : Int32).toInt = 0 := by decide
      omega
    have h := h.1 cq5
    delta P_X11_readWorld_15
    obtain ⟨oq6, h⟩ := h
    refine ⟨oq6, ?_⟩
    refine cm_X11_goesOn (sp_X11_goesOn h M hg) h (fun Sq7 hp h gq8 => ?_)
    have h := h gq8
    obtain ⟨-, M, G⟩ := hp
    have W := rm_F W G
    replace lt := ltm_F dm lt G
    refine cm_X11_readPart (sp_X11_readPart (w := 1) h M (by decide)) h (fun xq9 Sq10 hp h gq11 => ?_)
    have h := h gq11
    obtain ⟨-, M, G, Vxq9⟩ := hp
    have W := rm_F W G
    replace lt := ltm_F dm lt G
    intro xq12 exq12
    have h := h xq12 exq12
    refine ⟨?_, ?_⟩
    · intro cq13
      have h := h.1 cq13
      exact ⟨h, lm_ov M (by unfold sWorld; rw [if_pos h0]; rfl) (exq12.symm.trans cq13), fun q hq => absurd hq (lm_no M (by unfold sWorld; rw [if_pos h0]; rfl) (exq12.symm.trans cq13) q)⟩
    · intro cq14
      obtain ⟨q, hq⟩ := ms_ok M (fun z => cq14 (exq12.trans z))
      have h := h.2 cq14
      obtain ⟨aq15, eaq15, h⟩ := h
      refine ⟨aq15, eaq15, ?_⟩
      cases W.1.symm.trans eaq15
      obtain ⟨oq16, h⟩ := h
      refine ⟨oq16, ?_⟩
      intro Sq17 eSq17
      have h := h Sq17 eSq17
      have eL := eSq17
      have hR : sPart f n (tEn f n p) 1 5 60 = .inl q := hq
      have hr : (5 : Int64) ≤ tV f n (tEn f n (tEn f n p)) ∧ tV f n (tEn f n (tEn f n p)) ≤ 60 := part_in hR
      have hk := i64_le (k := 60) (by have := hr.1; exact Int64.le_trans (by decide) this) hr.2
      have hv : xq9 = (tV f n (tEn f n (tEn f n p))).toInt32 := Vxq9 (tEn f n p) q rfl hR
      obtain ⟨M, W⟩ := wr_C (A' := up0 A (tV f n (tEn f n (tEn f n p))).toInt32.toNatClampNeg) M W eL (by decide) (cn_0 W.2.2.1 eL (by rw [hv]; exact hk.2)) rfl ⟨hk.1, W.2.2.2.2.1.2⟩ (fun _ => W.2.2.2.2.2 h0)
      replace lt := ltm_C dm lt eL
      exact ⟨h, lm_ok M (by unfold sWorld; rw [if_pos h0]; rfl) W, fun _ _ => lt⟩
  · intro cq18
    have h0 : ¬ aH A = 0 := by
      have z := nle_i cq18
      rw [exq4, W.2.2.1.1, nI_i (by have := W.2.2.2.2.1.1; omega)] at z
      have e0 : (0 : Int32).toInt = 0 := by decide
      omega
    have h := h.2 cq18
    refine cm_X11_flaw (sp_X11_flaw (k := 3) h M rfl) h (fun Sq19 hp h gq20 => ?_)
    have h := h gq20
    obtain ⟨-, M, G⟩ := hp
    have W := rm_F W G
    replace lt := ltm_F dm lt G
    delta P_X11_readWorld_15
    obtain ⟨oq21, h⟩ := h
    refine ⟨oq21, ?_⟩
    refine cm_X11_goesOn (sp_X11_goesOn h M gs_f) h (fun Sq22 hp h gq23 => ?_)
    have h := h gq23
    obtain ⟨-, M, G⟩ := hp
    have W := rm_F W G
    replace lt := ltm_F dm lt G
    refine cm_X11_readPart (sp_X11_readPart (w := 1) h M (by decide)) h (fun xq24 Sq25 hp h gq26 => ?_)
    have h := h gq26
    obtain ⟨-, M, G, Vxq24⟩ := hp
    have W := rm_F W G
    replace lt := ltm_F dm lt G
    intro xq27 exq27
    have h := h xq27 exq27
    refine ⟨?_, ?_⟩
    · intro cq28
      have h := h.1 cq28
      exact ⟨h, lm_ov M (by unfold sWorld; rw [if_neg h0]; rfl) (exq27.symm.trans cq28), fun q hq => absurd hq (lm_no M (by unfold sWorld; rw [if_neg h0]; rfl) (exq27.symm.trans cq28) q)⟩
    · intro cq29
      exact absurd (exq27.trans (ov_f (σ := .inl p) (k := fun p => (3, tSt f n p)) M)) cq29
set_option maxHeartbeats 1000000 in
theorem sq_X11_readLine {G : GC} (h : P_X11_readLine v0 QU S) (M : MS f n a v0 (.inl p) S) (W : RMw v0 rd nm ns nk A S) (hAM : aM A = aP A + aW A) (dm : DMr v0 rd S) (ct : CtM rd A G S) : P_X11_readLine v0 (fun T => QU T ∧ LBm f n a v0 rd nm ns nk (sLn f n p A) (aLn f n p A) T ∧ ∀ q, sLn f n p A = .inl q → CtM rd (aLn f n p A) (gLn f n p A G) T) S := by
  delta P_X11_readLine P_X11_readLine_0
  obtain ⟨oq1, h⟩ := h
  refine ⟨oq1, ?_⟩
  refine cm_X11_isWord (sp_X11_isWord (w := 0) h M (by decide)) h (fun xq2 Sq3 hp h gq4 bq5 => ?_)
  have h := h gq4 bq5
  obtain ⟨-, hS, Axq2⟩ := hp
  subst hS
  refine ⟨?_, ?_⟩
  · intro cq6
    have Ncq6 : ¬ isW f n p 0 := an0 Axq2 cq6
    have h := h.1 cq6
    refine cm_X11_isWord (sp_X11_isWord (w := 2) h M (by decide)) h (fun xq7 Sq8 hp h gq9 bq10 => ?_)
    have h := h gq9 bq10
    obtain ⟨-, hS, Axq7⟩ := hp
    subst hS
    refine ⟨?_, ?_⟩
    · intro cq11
      have Ncq11 : ¬ isW f n p 2 := an0 Axq7 cq11
      have h := h.1 cq11
      refine cm_X11_isWord (sp_X11_isWord (w := 11) h M (by decide)) h (fun xq12 Sq13 hp h gq14 bq15 => ?_)
      have h := h gq14 bq15
      obtain ⟨-, hS, Axq12⟩ := hp
      subst hS
      refine ⟨?_, ?_⟩
      · intro cq16
        have Ncq16 : ¬ isW f n p 11 := an0 Axq12 cq16
        have h := h.1 cq16
        refine cm_X11_isWord (sp_X11_isWord (w := 12) h M (by decide)) h (fun xq17 Sq18 hp h gq19 bq20 => ?_)
        have h := h gq19 bq20
        obtain ⟨-, hS, Axq17⟩ := hp
        subst hS
        refine ⟨?_, ?_⟩
        · intro cq21
          have Ncq21 : ¬ isW f n p 12 := an0 Axq17 cq21
          have h := h.1 cq21
          refine cm_X11_isWord (sp_X11_isWord (w := 13) h M (by decide)) h (fun xq22 Sq23 hp h gq24 bq25 => ?_)
          have h := h gq24 bq25
          obtain ⟨-, hS, Axq22⟩ := hp
          subst hS
          refine ⟨?_, ?_⟩
          · intro cq26
            have Ncq26 : ¬ isW f n p 13 := an0 Axq22 cq26
            have h := h.1 cq26
            refine cm_X11_isWord (sp_X11_isWord (w := 14) h M (by decide)) h (fun xq27 Sq28 hp h gq29 bq30 => ?_)
            have h := h gq29 bq30
            obtain ⟨-, hS, Axq27⟩ := hp
            subst hS
            refine ⟨?_, ?_⟩
            · intro cq31
              have Ncq31 : ¬ isW f n p 14 := an0 Axq27 cq31
              have h := h.1 cq31
              refine cm_X11_flaw (sp_X11_flaw (k := 1) h M rfl) h (fun Sq32 hp h gq33 => ?_)
              have h := h gq33
              obtain ⟨-, M, G⟩ := hp
              have W := rm_F W G
              exact ⟨h, ⟨ms_eq M (by unfold sLn; rw [dc_n Ncq6, dc_n Ncq11, dc_n Ncq16, dc_n Ncq21, dc_n Ncq26, dc_n Ncq31]; rfl), fun q hq => by
                unfold sLn at hq
                rw [dc_n Ncq6, dc_n Ncq11, dc_n Ncq16, dc_n Ncq21, dc_n Ncq26, dc_n Ncq31] at hq
                cases hq⟩, fun q hq => by
                unfold sLn at hq
                rw [dc_n Ncq6, dc_n Ncq11, dc_n Ncq16, dc_n Ncq21, dc_n Ncq26, dc_n Ncq31] at hq
                cases hq⟩
            · intro cq34
              have Ncq34 : isW f n p 14 := an1 Axq27 cq34
              have h := h.2 cq34
              refine cm_X11_readSeen (sq_X11_readSeen h M W dm (gs_w (w := 14) Ncq34)) h (fun Sq35 hp h gq36 => ?_)
              have h := h gq36
              obtain ⟨-, LB, lt⟩ := hp
              refine ⟨h, ?_, ?_⟩
              · unfold sLn aLn
                rw [dc_n Ncq6, dc_n Ncq11, dc_n Ncq16, dc_n Ncq21, dc_n Ncq26, dc_y Ncq34, dc_n Ncq6, dc_n Ncq11, dc_n Ncq16, dc_n Ncq21, dc_n Ncq26]
                exact LB
              · intro q hq
                unfold sLn at hq
                rw [dc_n Ncq6, dc_n Ncq11, dc_n Ncq16, dc_n Ncq21, dc_n Ncq26, dc_y Ncq34] at hq
                unfold aLn gLn
                rw [dc_n Ncq6, dc_n Ncq11, dc_n Ncq16, dc_n Ncq21, dc_n Ncq26, dc_n Ncq6, dc_n Ncq11, dc_n Ncq16, dc_n Ncq21, dc_n Ncq26]
                exact ctm_seen ct (lt q hq)
          · intro cq37
            have Ncq37 : isW f n p 13 := an1 Axq22 cq37
            have h := h.2 cq37
            refine cm_X11_readWalker (sq_X11_readWalker h M W dm (gs_w (w := 13) Ncq37) hAM) h (fun Sq38 hp h gq39 => ?_)
            have h := h gq39
            obtain ⟨-, LB, lt⟩ := hp
            refine ⟨h, ?_, ?_⟩
            · unfold sLn aLn
              rw [dc_n Ncq6, dc_n Ncq11, dc_n Ncq16, dc_n Ncq21, dc_y Ncq37, dc_n Ncq6, dc_n Ncq11, dc_n Ncq16, dc_n Ncq21, dc_y Ncq37]
              exact LB
            · intro q hq
              unfold sLn at hq
              rw [dc_n Ncq6, dc_n Ncq11, dc_n Ncq16, dc_n Ncq21, dc_y Ncq37] at hq
              unfold aLn gLn
              rw [dc_n Ncq6, dc_n Ncq11, dc_n Ncq16, dc_n Ncq21, dc_y Ncq37, dc_n Ncq6, dc_n Ncq11, dc_n Ncq16, dc_n Ncq21, dc_y Ncq37]
              exact ctm_walk ct (lt q hq)
        · intro cq40
          have Ncq40 : isW f n p 12 := an1 Axq17 cq40
          have h := h.2 cq40
          refine cm_X11_readRoad (sq_X11_readRoad h M W dm (gs_w (w := 12) Ncq40)) h (fun Sq41 hp h gq42 => ?_)
          have h := h gq42
          obtain ⟨-, LB, lt⟩ := hp
          refine ⟨h, ?_, ?_⟩
          · unfold sLn aLn
            rw [dc_n Ncq6, dc_n Ncq11, dc_n Ncq16, dc_y Ncq40, dc_n Ncq6, dc_n Ncq11, dc_n Ncq16, dc_y Ncq40]
            exact LB
          · intro q hq
            unfold sLn at hq
            rw [dc_n Ncq6, dc_n Ncq11, dc_n Ncq16, dc_y Ncq40] at hq
            unfold aLn gLn
            rw [dc_n Ncq6, dc_n Ncq11, dc_n Ncq16, dc_y Ncq40, dc_n Ncq6, dc_n Ncq11, dc_n Ncq16, dc_y Ncq40]
            exact ctm_road ct (lt q hq)
      · intro cq43
        have Ncq43 : isW f n p 11 := an1 Axq12 cq43
        have h := h.2 cq43
        refine cm_X11_readPlace (sq_X11_readPlace h M W dm (gs_w (w := 11) Ncq43) hAM) h (fun Sq44 hp h gq45 => ?_)
        have h := h gq45
        obtain ⟨-, LB, lt⟩ := hp
        refine ⟨h, ?_, ?_⟩
        · unfold sLn aLn
          rw [dc_n Ncq6, dc_n Ncq11, dc_y Ncq43, dc_n Ncq6, dc_n Ncq11, dc_y Ncq43]
          exact LB
        · intro q hq
          unfold sLn at hq
          rw [dc_n Ncq6, dc_n Ncq11, dc_y Ncq43] at hq
          unfold aLn gLn
          rw [dc_n Ncq6, dc_n Ncq11, dc_y Ncq43, dc_n Ncq6, dc_n Ncq11, dc_y Ncq43]
          exact ctm_place ct (lt q hq)
    · intro cq46
      have Ncq46 : isW f n p 2 := an1 Axq7 cq46
      have h := h.2 cq46
      refine cm_X11_readRain (sq_X11_readRain h M W dm (gs_w (w := 2) Ncq46)) h (fun Sq47 hp h gq48 => ?_)
      have h := h gq48
      obtain ⟨-, LB, lt⟩ := hp
      refine ⟨h, ?_, ?_⟩
      · unfold sLn aLn
        rw [dc_n Ncq6, dc_y Ncq46, dc_n Ncq6, dc_y Ncq46]
        exact LB
      · intro q hq
        unfold sLn at hq
        rw [dc_n Ncq6, dc_y Ncq46] at hq
        unfold aLn gLn
        rw [dc_n Ncq6, dc_y Ncq46, dc_n Ncq6, dc_y Ncq46]
        exact ctm_rain ct (lt q hq)
  · intro cq49
    have Ncq49 : isW f n p 0 := an1 Axq2 cq49
    have h := h.2 cq49
    refine cm_X11_readWorld (sq_X11_readWorld h M W dm (gs_w (w := 0) Ncq49)) h (fun Sq50 hp h gq51 => ?_)
    have h := h gq51
    obtain ⟨-, LB, lt⟩ := hp
    refine ⟨h, ?_, ?_⟩
    · unfold sLn aLn
      rw [dc_y Ncq49, dc_y Ncq49]
      exact LB
    · intro q hq
      unfold sLn at hq
      rw [dc_y Ncq49] at hq
      unfold aLn gLn
      rw [dc_y Ncq49, dc_y Ncq49]
      exact ctm_none ct (lt q hq)
end Ct13
/-! world(n) of the reference, with all that was told -/
section Ct14
variable {f : Nat → Int32} {n a rd nm ns nk p : Nat} {A : AS} {σ : Res} {Q : Int32 → HS → Prop} {QU : HS → Prop} {S T : HS} {v0 : Nat}
def RAq (f : Nat → Int32) (n a m rd nm ns nk : Nat) (R : AS ⊕ (Nat × Nat)) (RG : GC) (T : HS) : Prop := RAm f n a m rd nm ns nk R T ∧ ∀ A, R = .inl A → CtM rd A RG T
def InqRA (f : Nat → Int32) (n a r rd nm ns nk : Nat) (R : AS ⊕ (Nat × Nat)) (RG : GC) (v0 : Nat) (v1 : Int32) (S : HS) : Prop := r = v0 ∧ DMr r rd S ∧ ((v1 = 1 ∧ ∃ (i p : Nat) (A : AS), i ≤ p ∧ MS f n a r (.inl p) S ∧ RMw r rd nm ns nk A S ∧ aM A = aP A + aW A ∧ R = sAll f n (1000 - i) p A ∧ ∃ G, CtM rd A G S ∧ RG = gAll f n (1000 - i) p A G) ∨ (v1 = 0 ∧ ∃ (L : Res) (A : AS) (g : Nat → AS ⊕ (Nat × Nat)), MS f n a r L S ∧ (∀ q, L = .inl q → RMw r rd nm ns nk A S ∧ aH A ≠ 0) ∧ R = aft f n A g L ∧ ¬ hasS f n L 3 ∧ ∃ G0 G1 gg, (∀ q, L = .inl q → CtM rd A G1 S) ∧ RG = gAft f n G0 G1 gg L))
theorem ra_n {R : AS ⊕ (Nat × Nat)} {m : Nat} {e : Nat × Nat} {P : AS → Prop} (h : RAm f n a m rd nm ns nk R T) (M : MS f n a m (.inr e) T) : ∀ A, R = .inl A → P A := by
  intro A z
  rw [z] at h
  obtain ⟨⟨q, M2⟩, -⟩ := h
  have h5 : fI T m 9 = 5 := M.2.1.1
  obtain ⟨q', hq'⟩ := (ms_9 M2).2.2.2.2.mp h5
  cases hq'
theorem ra_n1 {R : AS ⊕ (Nat × Nat)} {L : Res} {g : Nat → AS ⊕ (Nat × Nat)} {P : AS → Prop} (K : R = aft f n A g L) (h0 : ¬ hasS f n L 0) (h3 : ¬ hasS f n L 3) : ∀ A, R = .inl A → P A := by
  intro A' z
  cases L with
  | inr e =>
    rw [K] at z
    cases z
  | inl q =>
    have h0 : ¬ tS f n q = 0 := h0
    have h3 : ¬ tS f n q = 3 := h3
    have K : R = (if tS f n q = 0 then (if 0 < aP A ∧ 0 < aW A then .inl A else .inr (6, tSt f n q)) else (match sSign f n q 3 with
      | .inr e => .inr e
      | .inl p2 => g p2)) := K
    rw [if_neg h0] at K
    have : sSign f n q 3 = .inr (1, tSt f n q) := by
      unfold sSign
      rw [if_neg h3]
    rw [this] at K
    rw [K] at z
    cases z
set_option maxHeartbeats 1000000 in
theorem lqRA {RG : GC} {r : Nat} {R : AS ⊕ (Nat × Nat)} {v0 : Nat} {v1 : Int32} (h : P_X11_readAll_2 QU v0 v1 S) (hi : InqRA f n a r rd nm ns nk R RG v0 v1 S) : P_X11_readAll_2 (fun T => QU T ∧ RAq f n a r rd nm ns nk R RG T) v0 v1 S := by
  refine h (fun v0 v1 S => InqRA f n a r rd nm ns nk R RG v0 v1 S → P_X11_readAll_2 (fun T => QU T ∧ RAq f n a r rd nm ns nk R RG T) v0 v1 S) ?_ hi
  intro v0 v1 S h hi
  obtain ⟨rfl, dm, hi⟩ := hi
  refine fd_X11_readAll_2 ?_
  delta B_X11_readAll_2
  refine ⟨?_, ?_⟩
  · intro cq1
    rcases hi with ⟨z, -⟩ | ⟨-, L, A, g, M, hW, K, h3, G0, G1, gg, ctL, KG⟩
    · exact absurd (z.symm.trans cq1) (by decide)
    have h := h.1 cq1
    obtain ⟨oq2, h⟩ := h
    refine ⟨oq2, ?_⟩
    intro xq3 exq3
    have h := h xq3 exq3
    refine ⟨?_, ?_⟩
    · intro cq4
      have k0 := (ms_9 M).2.2.1.mp (exq3.symm.trans cq4)
      obtain ⟨q, hq⟩ : ∃ q, L = .inl q := by
        cases L with
        | inl q => exact ⟨q, rfl⟩
        | inr e => exact k0.elim
      obtain ⟨W, hH⟩ := hW q hq
      have hb := W.2.2.2.2.1
      subst hq
      have k0 : tS f n q = 0 := k0
      have h := h.1 cq4
      delta P_X11_readAll_33
      obtain ⟨oq5, h⟩ := h
      refine ⟨oq5, ?_⟩
      obtain ⟨aq6, eaq6, h⟩ := h
      refine ⟨aq6, eaq6, ?_⟩
      cases W.1.symm.trans eaq6
      obtain ⟨oq7, h⟩ := h
      refine ⟨oq7, ?_⟩
      intro xq8 exq8
      have h := h xq8 exq8
      refine ⟨?_, ?_⟩
      · intro cq9
        have Cxq8 := (c_nz (exq8.trans W.2.2.1.1) (by have := hb.1; omega)).1 cq9
        exact absurd Cxq8 hH
      · intro cq13
        have Cxq8 := (c_nz (exq8.trans W.2.2.1.1) (by have := hb.1; omega)).2 cq13
        have h := h.2 cq13
        obtain ⟨aq14, eaq14, h⟩ := h
        refine ⟨aq14, eaq14, ?_⟩
        cases W.1.symm.trans eaq14
        obtain ⟨oq15, h⟩ := h
        refine ⟨oq15, ?_⟩
        intro xq16 exq16
        have h := h xq16 exq16
        refine ⟨?_, ?_⟩
        · intro cq17
          have Cxq16 := (c_nz (exq16.trans W.2.2.1.2.2.1) (by have := hb.2.2.1; omega)).1 cq17
          have h := h.1 cq17
          delta P_X11_readAll_63
          obtain ⟨oq18, h⟩ := h
          refine ⟨oq18, ?_⟩
          refine cm_X11_flaw (sp_X11_flaw (k := 6) h M rfl) h (fun Sq19 hp h gq20 => ?_)
          have h := h gq20
          obtain ⟨-, M, G⟩ := hp
          exact ⟨h, ra_6 K k0 (by omega) M, ra_n (ra_6 (rd := rd) (nm := nm) (ns := ns) (nk := nk) K k0 (by omega) M) M⟩
        · intro cq21
          have Cxq16 := (c_nz (exq16.trans W.2.2.1.2.2.1) (by have := hb.2.2.1; omega)).2 cq21
          have h := h.2 cq21
          obtain ⟨aq22, eaq22, h⟩ := h
          refine ⟨aq22, eaq22, ?_⟩
          cases W.1.symm.trans eaq22
          obtain ⟨oq23, h⟩ := h
          refine ⟨oq23, ?_⟩
          intro xq24 exq24
          have h := h xq24 exq24
          refine ⟨?_, ?_⟩
          · intro cq25
            have Cxq24 := (c_nz (exq24.trans W.2.2.1.2.2.2.2.1) (by have := hb.2.2.2.2.1; omega)).2 cq25
            have h := h.1 cq25
            refine ⟨h, ra_y K k0 (by omega) M W, fun A2 z => ?_⟩
            have K2 : R = .inl A := by
              rw [K]
              show (if tS f n q = 0 then (if 0 < aP A ∧ 0 < aW A then _ else _) else _) = _
              rw [if_pos k0, if_pos (by omega)]
            cases K2.symm.trans z
            have : RG = G1 := by
              rw [KG]
              show (if tS f n q = 0 then G1 else _) = _
              rw [if_pos k0]
            rw [this]
            exact ctL q rfl
          · intro cq26
            have Cxq24 := (c_nz (exq24.trans W.2.2.1.2.2.2.2.1) (by have := hb.2.2.2.2.1; omega)).1 cq26
            have h := h.2 cq26
            delta P_X11_readAll_63
            obtain ⟨oq27, h⟩ := h
            refine ⟨oq27, ?_⟩
            refine cm_X11_flaw (sp_X11_flaw (k := 6) h M rfl) h (fun Sq28 hp h gq29 => ?_)
            have h := h gq29
            obtain ⟨-, M, G⟩ := hp
            exact ⟨h, ra_6 K k0 (by omega) M, ra_n (ra_6 (rd := rd) (nm := nm) (ns := ns) (nk := nk) K k0 (by omega) M) M⟩
    · intro cq30
      have k0 : ¬ hasS f n L 0 := fun z => cq30 (exq3.trans ((ms_9 M).2.2.1.mpr z))
      have h := h.2 cq30
      refine cm_X11_flaw (sp_X11_flaw (k := 1) h M rfl) h (fun Sq31 hp h gq32 => ?_)
      have h := h gq32
      obtain ⟨-, M, G⟩ := hp
      delta P_X11_readAll_33
      obtain ⟨oq33, h⟩ := h
      refine ⟨oq33, ?_⟩
      obtain ⟨aq34, eaq34, h⟩ := h
      refine ⟨aq34, eaq34, ?_⟩
      obtain ⟨oq35, h⟩ := h
      refine ⟨oq35, ?_⟩
      intro xq36 exq36
      have h := h xq36 exq36
      refine ⟨?_, ?_⟩
      · intro cq37
        have h := h.1 cq37
        delta P_X11_readAll_63
        obtain ⟨oq38, h⟩ := h
        refine ⟨oq38, ?_⟩
        refine cm_X11_flaw (sp_X11_flaw (k := 6) h M rfl) h (fun Sq39 hp h gq40 => ?_)
        have h := h gq40
        obtain ⟨-, M, G⟩ := hp
        exact ⟨h, ra_1 (e := (0, 0)) K k0 h3 (ms_eq M rb_rb), ra_n1 K k0 h3⟩
      · intro cq41
        have h := h.2 cq41
        obtain ⟨aq42, eaq42, h⟩ := h
        refine ⟨aq42, eaq42, ?_⟩
        obtain ⟨oq43, h⟩ := h
        refine ⟨oq43, ?_⟩
        intro xq44 exq44
        have h := h xq44 exq44
        refine ⟨?_, ?_⟩
        · intro cq45
          have h := h.1 cq45
          delta P_X11_readAll_63
          obtain ⟨oq46, h⟩ := h
          refine ⟨oq46, ?_⟩
          refine cm_X11_flaw (sp_X11_flaw (k := 6) h M rfl) h (fun Sq47 hp h gq48 => ?_)
          have h := h gq48
          obtain ⟨-, M, G⟩ := hp
          exact ⟨h, ra_1 (e := (0, 0)) K k0 h3 (ms_eq M rb_rb), ra_n1 K k0 h3⟩
        · intro cq49
          have h := h.2 cq49
          obtain ⟨aq50, eaq50, h⟩ := h
          refine ⟨aq50, eaq50, ?_⟩
          obtain ⟨oq51, h⟩ := h
          refine ⟨oq51, ?_⟩
          intro xq52 exq52
          have h := h xq52 exq52
          refine ⟨?_, ?_⟩
          · intro cq53
            have h := h.1 cq53
            exact ⟨h, ra_1 (e := (0, 0)) K k0 h3 M, ra_n1 K k0 h3⟩
          · intro cq54
            have h := h.2 cq54
            delta P_X11_readAll_63
            obtain ⟨oq55, h⟩ := h
            refine ⟨oq55, ?_⟩
            refine cm_X11_flaw (sp_X11_flaw (k := 6) h M rfl) h (fun Sq56 hp h gq57 => ?_)
            have h := h gq57
            obtain ⟨-, M, G⟩ := hp
            exact ⟨h, ra_1 (e := (0, 0)) K k0 h3 (ms_eq M rb_rb), ra_n1 K k0 h3⟩
  · intro cq58
    rcases hi.symm with ⟨z, -⟩ | ⟨-, i, p, A, hip, M, W, hAM, K, Gc, ct, KG⟩
    · exact absurd z cq58
    have h := h.2 cq58
    obtain ⟨oq59, h⟩ := h
    refine ⟨oq59, ?_⟩
    have M9 := M
    refine cm_X11_readLine (sq_X11_readLine h M W hAM dm ct) (ko_X11_readLine h) (fun Sq60 hp hk gq61 => ?_)
    have h := hk.1
    have dm := dm_mv hk.2.1 dm
    have h := h gq61
    obtain ⟨-, LB, ct⟩ := hp
    have M := LB.1
    have hp9 : p ≤ 900 := M9.2.2 p rfl
    have K : R = aft f n (aLn f n p A) (fun p2 => sAll f n (999 - i) p2 (aLn f n p A)) (sLn f n p A) := by
      rw [K, show 1000 - i = (999 - i) + 1 by omega]
      rfl
    have KG : RG = gAft f n Gc (gLn f n p A Gc) (fun p2 => gAll f n (999 - i) p2 (aLn f n p A) (gLn f n p A Gc)) (sLn f n p A) := by
      rw [KG, show 1000 - i = (999 - i) + 1 by omega]
      rfl
    refine cm_X11_eatsSign (sp_X11_eatsSign (k := 3) h M (Or.inl ⟨rfl, rfl⟩)) h (fun xq62 Sq63 hp h gq64 bq65 => ?_)
    have h := h gq64 bq65
    obtain ⟨-, M, G, Vxq62⟩ := hp
    rcases Vxq62 with ⟨k3, hx⟩ | ⟨k3, hx⟩
    · obtain ⟨p1, hL⟩ : ∃ q, sLn f n p A = .inl q := by
        cases hL : sLn f n p A with
        | inl q => exact ⟨q, rfl⟩
        | inr e => rw [hL] at k3; exact k3.elim
      have W := rm_F (LB.2 p1 hL) G
      have g1 := ge_ln p1 hL
      have ct := ctm_F dm (ct p1 hL) G
      rw [hL] at M K k3 KG
      have k3 : tS f n p1 = 3 := k3
      rw [aft_3 k3] at K
      have M : MS f n a r (.inl (tEn f n p1)) _ := ms_eq M (dc_y k3)
      have g2 := tEn_sg (k := 3) k3 (Or.inl rfl)
      refine h ⟨rfl, dm_mv G.2.2.2.1 dm, Or.inl ⟨hx, i + 1, tEn f n p1, aLn f n p A, by omega, M, W, eq_ln hAM, by rw [K, show 1000 - (i + 1) = 999 - i by omega], gLn f n p A Gc, ct, ?_⟩⟩
      rw [KG, show 1000 - (i + 1) = 999 - i by omega]
      show (if tS f n p1 = 0 then _ else (match sSign f n p1 3 with | .inr e => Gc | .inl p2 => gAll f n (999 - i) p2 (aLn f n p A) (gLn f n p A Gc))) = _
      rw [if_neg (by omega)]
      have : sSign f n p1 3 = .inl (tEn f n p1) := by
        unfold sSign
        rw [if_pos k3]
      rw [this]
    · have M := ms_eq M (rb_idd (fun p hp => (dc_n (hs_np k3 hp)).symm)).symm
      exact h ⟨rfl, dm_mv G.2.2.2.1 dm, Or.inr ⟨hx, _, _, _, M, fun q hq => ⟨rm_F (LB.2 q hq) G, hour_ln hq⟩, K, k3, _, _, _, fun q hq => ctm_F dm (ct q hq) G, KG⟩⟩
theorem sq_X11_readAll {G : GC} (h : P_X11_readAll v0 QU S) (M : MS f n a v0 (.inl p) S) (W : RMw v0 rd nm ns nk A S) (hAM : aM A = aP A + aW A) (dm : DMr v0 rd S) (ct : CtM rd A G S) : P_X11_readAll v0 (fun T => QU T ∧ RAq f n a v0 rd nm ns nk (sAll f n 1000 p A) (gAll f n 1000 p A G) T ∧ KO_M v0 S T) S := by
  refine cm_X11_readAll ?_ (ko_X11_readAll h) (fun T h1 h2 => ⟨h2.1, h1, h2.2⟩)
  have hh : P_X11_readAll v0 (fun T => QU T ∧ RAq f n a v0 rd nm ns nk (sAll f n 1000 p A) (gAll f n 1000 p A G) T) S := by
    delta P_X11_readAll P_X11_readAll_0
    exact lqRA h ⟨rfl, dm, Or.inl ⟨rfl, 0, p, A, by omega, M, W, hAM, rfl, G, ct, rfl⟩⟩
  exact cm_X11_readAll hh hh (fun T h1 _ => h1.2)
end Ct14
