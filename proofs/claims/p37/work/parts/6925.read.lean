/-! places go forward -/
section Ges
variable {f : Nat → Int32} {n p : Nat} {A : AS}
theorem runL_ge {c : Nat} : ∀ k q, q ≤ runL f n c k q
  | 0, q => Nat.le_refl q
  | k + 1, q => by
    simp only [runL]
    split
    · exact Nat.le_trans (Nat.le_succ q) (runL_ge k (q + 1))
    · exact Nat.le_refl q
theorem tEn_ge : p ≤ tEn f n p := by
  have h1 : p ≤ tSt f n p := runL_ge 1000 p
  unfold tEn
  split
  · exact Nat.le_trans h1 (runL_ge 1000 _)
  · split
    · exact h1
    · omega
theorem tEn_sg {k : Nat} (h : tS f n p = k) (hk : k = 3 ∨ k = 4) : p < tEn f n p := by
  have h1 : p ≤ tSt f n p := runL_ge 1000 p
  have hc : tC f n p = k := by
    unfold tS at h
    split at h
    · omega
    · exact h
  unfold tEn
  rw [if_neg (by omega), if_neg (by omega)]
  omega
def Ge (p : Nat) (R : Res) : Prop := ∀ p', R = .inl p' → p ≤ p'
theorem ge_rb {R : Res} {g : Nat → Res} (h : Ge p R) (hg : ∀ p1, p ≤ p1 → Ge p (g p1)) : Ge p (rb R g) := by
  cases R with
  | inl p1 => exact hg p1 (h p1 rfl)
  | inr e => intro p' z; cases z
theorem ge_i {q : Nat} (h : p ≤ q) : Ge p (.inl q) := fun p' z => by cases z; exact h
theorem ge_e {e : Nat × Nat} : Ge p (.inr e) := fun p' z => by cases z
theorem ge_dc {P : Prop} {R R' : Res} (h : Ge p R) (h' : Ge p R') : Ge p (dc P R R') := by
  by_cases hp : P
  · rw [dc_y hp]; exact h
  · rw [dc_n hp]; exact h'
variable {q : Nat}
theorem ge_word {w : Nat} (h : p ≤ q) : Ge p (sWord f n q w) := fun p' z => by rw [sWord_inl z]; exact Nat.le_trans h tEn_ge
theorem ge_whole {lo hi : Int64} (h : p ≤ q) : Ge p (sWhole f n q lo hi) := fun p' z => by rw [sWhole_inl z]; exact Nat.le_trans h tEn_ge
theorem ge_sign {k : Nat} (h : p ≤ q) : Ge p (sSign f n q k) := fun p' z => by rw [sSign_inl z]; exact Nat.le_trans h tEn_ge
theorem ge_side (h : p ≤ q) : Ge p (sSide f n q) := fun p' z => by rw [sSide_inl z]; exact Nat.le_trans h tEn_ge
theorem ge_part {w : Nat} {lo hi : Int64} (h : p ≤ q) : Ge p (sPart f n q w lo hi) := fun p' z => by rw [sPart_inl z]; exact Nat.le_trans h (Nat.le_trans tEn_ge tEn_ge)
theorem ge_pb {o : Option Nat} (h : p ≤ q) : Ge p (sPB f n q A o) := fun p' z => by rw [(sPB_inl z).1]; exact Nat.le_trans h tEn_ge
theorem ge_new {m : Nat} {nv : Nat → Int64} {ni : Nat → Nat} (h : p ≤ q) : Ge p (sNew f n q m nv ni) := fun p' z => by rw [(sNew_inl z).1]; exact Nat.le_trans h tEn_ge
theorem ge_room {a b c : Nat} (h : p ≤ q) : Ge p (sRoom f n q a b c) := fun p' z => by rw [(sRoom_inl z).1]; exact Nat.le_trans h tEn_ge
theorem ge_sw (h : p ≤ q) : Ge p (sSW f n q A) := by
  unfold sSW
  refine ge_dc ?_ ge_e
  cases lkr (aV A) (aI A) (tV f n q) (aM A) 0 with
  | none => exact ge_e
  | some z =>
    show Ge p (if z < 8 then _ else _)
    split
    · exact ge_e
    · exact ge_i (Nat.le_trans h tEn_ge)
theorem ge_fc : ∀ (m i q : Nat), p ≤ q → Ge p (sFc f n m i q)
  | 0, _, q, h => ge_i h
  | m + 1, i, q, h => by
    unfold sFc
    refine ge_rb ?_ (fun p1 h1 => ge_rb (ge_whole h1) (fun p2 h2 => ge_fc m (i + 1) p2 h2))
    split
    · exact ge_i h
    · exact ge_sign h
theorem ge_ln : Ge p (sLn f n p A) := by
  have r : p ≤ p := Nat.le_refl p
  unfold sLn
  refine ge_dc ?_ (ge_dc ?_ (ge_dc ?_ (ge_dc ?_ (ge_dc ?_ (ge_dc ?_ ge_e)))))
  · unfold sWorld
    split
    · exact ge_part tEn_ge
    · exact ge_e
  · exact ge_rb (ge_room r) (fun p1 h => ge_rb (ge_part h) (fun p2 h => ge_rb (ge_part h) (fun p3 h => ge_rb (ge_word h) (fun p4 h => ge_rb (ge_side h) (fun p5 h => ge_rb (ge_whole h) (fun p6 h => ge_part h))))))
  · exact ge_rb (ge_room r) (fun p1 h => ge_rb (ge_new h) (fun p2 h => ge_dc (ge_i (Nat.le_trans h tEn_ge)) (ge_dc (ge_part h) (ge_i h))))
  · exact ge_rb (ge_room r) (fun p1 h => ge_rb (ge_pb h) (fun p2 h => ge_rb (ge_side h) (fun p3 h => ge_rb (ge_whole h) (fun p4 h => ge_rb (ge_pb h) (fun p5 h => ge_dc (ge_part h) (ge_i h))))))
  · refine ge_rb (ge_room r) (fun p1 h => ge_rb (ge_new h) (fun p2 h => ge_rb ?_ (fun p3 h => ge_rb (ge_rb (ge_part h) (fun p4 h => ge_rb (ge_part h) (fun p5 h => ge_part h))) (fun p4 h => ge_rb (ge_part h) (fun p5 h => ge_part h)))))
    exact ge_dc (ge_part h) (ge_dc (ge_part h) (ge_dc (ge_part h) (ge_word h)))
  · exact ge_rb (ge_room r) (fun p1 h => ge_rb (ge_sw h) (fun p2 h => ge_fc 5 0 p2 h))
theorem eq_ln (h : aM A = aP A + aW A) : aM (aLn f n p A) = aP (aLn f n p A) + aW (aLn f n p A) := by
  unfold aLn dc
  repeat' split
  · exact h
  · exact h
  · show aM A + 1 = aP A + 1 + aW A
    omega
  · exact h
  · show aM A + 1 = aP A + (aW A + 1)
    omega
  · exact h
end Ges
section Read2
variable {f : Nat → Int32} {n a r w nm nd p : Nat} {A : AS} {B S T : HS} {Q : Int32 → HS → Prop}
theorem lb_one {L : Res} {x : Int32} (lb : LnB f n a r w nm nd B L A x T) (c : ¬ x = 0) : LnB f n a r w nm nd B L A 1 T := by
  cases L with
  | inl p => exact ⟨rfl, lb.2⟩
  | inr e => exact absurd lb.1 c
theorem lb_zero {L : Res} {x : Int32} (lb : LnB f n a r w nm nd B L A x T) (c : x = 0) : LnB f n a r w nm nd B L A 0 T := by rw [← c]; exact lb
def Inv8 (f : Nat → Int32) (n a r w nm nd : Nat) (B : HS) (R : AS ⊕ (Nat × Nat)) (v0 : Nat) (v3 : Int32) (S : HS) : Prop := ∃ (i p : Nat) (A : AS), r = v0 ∧ v3 = nI i ∧ i ≤ p ∧ LnS f n a r w nm nd B A p S ∧ aM A = aP A + aW A ∧ R = sAll f n (1000 - i) p A
set_option maxHeartbeats 8000000 in
theorem lpR8 {R : AS ⊕ (Nat × Nat)} {v0 : Nat} {v3 : Int32} (hB : BFa a r w nm nd B) (hd : DSt w nd B) (hwk : ∀ x b i, fR B w 9 = some b → i < hN B b → fR B b i = some x → ob B x 6) (h : P_X4_read_8 Q v0 v3 S) (hi : Inv8 f n a r w nm nd B R v0 v3 S) : P_X4_read_8 (fun x T => Q x T ∧ RdB f n a r w nm nd B R x T) v0 v3 S := by
  refine h (fun v0 v3 S => Inv8 f n a r w nm nd B R v0 v3 S → P_X4_read_8 (fun x T => Q x T ∧ RdB f n a r w nm nd B R x T) v0 v3 S) ?_ hi
  intro v0 v3 S h hi
  obtain ⟨i, p, A, rfl, hv3, hip, ls, hEq, K⟩ := hi
  have hp9 := ls.1.2.2
  have hab := ls.2.2.2.2
  obtain ⟨hb0, hb1, hb2, hb3, hb4, hb5⟩ := hab
  have e9 : (900 : Int32).toInt = 900 := by decide
  have ei : v3.toInt = (i : Int) := by rw [hv3]; exact nI_i (by omega)
  have hk : 1000 - i = (999 - i) + 1 := by omega
  rw [hk] at K
  have K : R = aft f n (aLn f n p A) (fun p2 => sAll f n (999 - i) p2 (aLn f n p A)) (sLn f n p A) := K
  have nx : ∀ (p1 p2 : Nat) (y : Int32) (U : HS), sLn f n p A = .inl p1 → sSign f n p1 3 = .inl p2 → y = v3 + 1 → LnS f n a r w nm nd B (aLn f n p A) p2 U → R = sAll f n (999 - i) p2 (aLn f n p A) → (Inv8 f n a r w nm nd B R r y U → P_X4_read_8 (fun x T => Q x T ∧ RdB f n a r w nm nd B R x T) r y U) → P_X4_read_8 (fun x T => Q x T ∧ RdB f n a r w nm nd B R x T) r y U := by
    intro p1 p2 y U hL hS ey ls K h
    have g1 := ge_ln p1 hL
    have g2 : p1 < p2 := by
      rw [sSign_inl hS]
      refine tEn_sg (k := 3) ?_ (Or.inl rfl)
      unfold sSign at hS
      split at hS
      · assumption
      · cases hS
    exact h ⟨i + 1, p2, aLn f n p A, rfl, by rw [ey, hv3]; exact nI_1 i, by omega, ls, eq_ln hEq, by rw [show 1000 - (i + 1) = 999 - i by omega]; exact K⟩
  have go : ∀ (x : Int32) (U : HS), LnB f n a r w nm nd B (sLn f n p A) (aLn f n p A) x U → P_X4_read_248 Q (fun v0 v3 S => Inv8 f n a r w nm nd B R v0 v3 S → P_X4_read_8 (fun x T => Q x T ∧ RdB f n a r w nm nd B R x T) v0 v3 S) r v3 x U → P_X4_read_248 (fun x T => Q x T ∧ RdB f n a r w nm nd B R x T) (P_X4_read_8 (fun x T => Q x T ∧ RdB f n a r w nm nd B R x T)) r v3 x U := fun x U lb h => b248 hB h lb K nx
  refine fd_X4_read_8 ?_
  delta B_X4_read_8
  refine ⟨?_, ?_⟩
  · intro c1
    have := lt_i c1
    omega
  intro c8
  have h := h.2 c8
  obtain ⟨o9, h⟩ := h
  refine ⟨o9, ?_⟩
  refine cm_X4_is (sp_X4_is h ls.1.2.1) h (fun x3 S4 hp h g5 b6 => ?_)
  have h := h g5 b6
  obtain ⟨-, hS, hx0⟩ := hp
  subst hS
  refine Iff.mp and_comm ⟨?_, ?_⟩
  · intro c
    have h := h.2 c
    have y := an1 hx0 c
    have eA : aLn f n p A = up0 A (tV f n (tEn f n (tEn f n p))).toInt32.toNatClampNeg := by unfold aLn; rw [dc_y y]
    have eL : sLn f n p A = sWorld f n p A := by unfold sLn; rw [dc_y y]
    refine cm_X4_worldLine (sp_X4_worldLine hB h ls) h (fun x84 S82 hp h g b => ?_)
    have h := h g b
    exact go _ _ (by rw [eL, eA]; exact hp.2) h
  · intro c
    have h := h.1 c
    have n0 := an0 hx0 c
    refine cm_X4_is (sp_X4_is h ls.1.2.1) h (fun x3 S4 hp h g5 b6 => ?_)
    have h := h g5 b6
    obtain ⟨-, hS, hx1⟩ := hp
    subst hS
    refine Iff.mp and_comm ⟨?_, ?_⟩
    · intro c
      have h := h.2 c
      have y := an1 hx1 c
      have eA : aLn f n p A = up1 A := by unfold aLn; rw [dc_n n0, dc_y y]
      have eL : sLn f n p A = rb (sRoom f n p (aH A) (aHs A) 6) fun p => sRain f n p := by unfold sLn; rw [dc_n n0, dc_y y]
      obtain ⟨a32, ea32, h⟩ := h
      refine ⟨a32, ea32, ?_⟩
      cases (ls_w hB ls).symm.trans ea32
      obtain ⟨o33, h⟩ := h
      refine ⟨o33, ?_⟩
      intro x33 ex33
      have h := h x33 ex33
      refine cm_X4_hasRoom (sp_X4_hasRoom hB h ls (count := aHs A) (room := 6) (ex33.trans ls.2.2.1.2.1) rfl (by omega) (by omega)) h (fun x36 S34 hp h g b => ?_)
      have h := h g b
      have lb1 := hp.2
      rcases lb_split lb1 eL with ⟨hz, lb2⟩ | ⟨p1, hz, hR, eL2, ls⟩
      · refine ⟨fun c => ?_, fun c => absurd hz c⟩
        exact go 0 _ (lb2 _) (h.1 c)
      obtain ⟨ep, hlt, hh⟩ := sRoom_inl hR
      refine ⟨fun c => absurd (c.symm.trans hz) (by decide), fun c => ?_⟩
      have h := h.2 c
      refine cm_X4_rainLine (sp_X4_rainLine hB h ls hlt) h (fun x40 S38 hp h g b => ?_)
      have h := h g b
      have lb3 : LnB f n a r w nm nd B (sLn f n p A) (aLn f n p A) x40 S38 := by rw [eL2, eA]; exact hp.2
      exact ⟨fun c => go 0 _ (lb_zero lb3 c) (h.1 c), fun c => go 1 _ (lb_one lb3 c) (h.2 c)⟩
    · intro c
      have h := h.1 c
      have n1 := an0 hx1 c
      refine cm_X4_is (sp_X4_is h ls.1.2.1) h (fun x3 S4 hp h g5 b6 => ?_)
      have h := h g5 b6
      obtain ⟨-, hS, hx2⟩ := hp
      subst hS
      refine Iff.mp and_comm ⟨?_, ?_⟩
      · intro c
        have h := h.2 c
        have y := an1 hx2 c
        have eA : aLn f n p A = up2 (upN A (tV f n (tEn f n p)) (aP A)) := by unfold aLn; rw [dc_n n0, dc_n n1, dc_y y]
        have eL : sLn f n p A = rb (sRoom f n p (aH A) (aP A) 8) fun p => sPlace f n p A := by unfold sLn; rw [dc_n n0, dc_n n1, dc_y y]
        obtain ⟨a32, ea32, h⟩ := h
        refine ⟨a32, ea32, ?_⟩
        cases (ls_w hB ls).symm.trans ea32
        obtain ⟨o33, h⟩ := h
        refine ⟨o33, ?_⟩
        intro x33 ex33
        have h := h x33 ex33
        refine cm_X4_hasRoom (sp_X4_hasRoom hB h ls (count := aP A) (room := 8) (ex33.trans ls.2.2.1.2.2.1) rfl (by omega) (by omega)) h (fun x36 S34 hp h g b => ?_)
        have h := h g b
        have lb1 := hp.2
        rcases lb_split lb1 eL with ⟨hz, lb2⟩ | ⟨p1, hz, hR, eL2, ls⟩
        · refine ⟨fun c => ?_, fun c => absurd hz c⟩
          exact go 0 _ (lb2 _) (h.1 c)
        obtain ⟨ep, hlt, hh⟩ := sRoom_inl hR
        refine ⟨fun c => absurd (c.symm.trans hz) (by decide), fun c => ?_⟩
        have h := h.2 c
        refine cm_X4_placeLine (sp_X4_placeLine hB hd h ls hlt (by omega)) h (fun x40 S38 hp h g b => ?_)
        have h := h g b
        have lb3 : LnB f n a r w nm nd B (sLn f n p A) (aLn f n p A) x40 S38 := by rw [eL2, eA, ← ep]; exact hp.2
        exact ⟨fun c => go 0 _ (lb_zero lb3 c) (h.1 c), fun c => go 1 _ (lb_one lb3 c) (h.2 c)⟩
      · intro c
        have h := h.1 c
        have n2 := an0 hx2 c
        refine cm_X4_is (sp_X4_is h ls.1.2.1) h (fun x3 S4 hp h g5 b6 => ?_)
        have h := h g5 b6
        obtain ⟨-, hS, hx3⟩ := hp
        subst hS
        refine Iff.mp and_comm ⟨?_, ?_⟩
        · intro c
          have h := h.2 c
          have y := an1 hx3 c
          have eA : aLn f n p A = up3 A := by unfold aLn; rw [dc_n n0, dc_n n1, dc_n n2, dc_y y]
          have eL : sLn f n p A = rb (sRoom f n p (aH A) (aR A) 12) fun p => sRoad f n p A := by unfold sLn; rw [dc_n n0, dc_n n1, dc_n n2, dc_y y]
          obtain ⟨a32, ea32, h⟩ := h
          refine ⟨a32, ea32, ?_⟩
          cases (ls_w hB ls).symm.trans ea32
          obtain ⟨o33, h⟩ := h
          refine ⟨o33, ?_⟩
          intro x33 ex33
          have h := h x33 ex33
          refine cm_X4_hasRoom (sp_X4_hasRoom hB h ls (count := aR A) (room := 12) (ex33.trans ls.2.2.1.2.2.2.1) rfl (by omega) (by omega)) h (fun x36 S34 hp h g b => ?_)
          have h := h g b
          have lb1 := hp.2
          rcases lb_split lb1 eL with ⟨hz, lb2⟩ | ⟨p1, hz, hR, eL2, ls⟩
          · refine ⟨fun c => ?_, fun c => absurd hz c⟩
            exact go 0 _ (lb2 _) (h.1 c)
          obtain ⟨ep, hlt, hh⟩ := sRoom_inl hR
          refine ⟨fun c => absurd (c.symm.trans hz) (by decide), fun c => ?_⟩
          have h := h.2 c
          refine cm_X4_roadLine (sp_X4_roadLine hB h ls hlt) h (fun x40 S38 hp h g b => ?_)
          have h := h g b
          have lb3 : LnB f n a r w nm nd B (sLn f n p A) (aLn f n p A) x40 S38 := by rw [eL2, eA]; exact hp.2
          exact ⟨fun c => go 0 _ (lb_zero lb3 c) (h.1 c), fun c => go 1 _ (lb_one lb3 c) (h.2 c)⟩
        · intro c
          have h := h.1 c
          have n3 := an0 hx3 c
          refine cm_X4_is (sp_X4_is h ls.1.2.1) h (fun x3 S4 hp h g5 b6 => ?_)
          have h := h g5 b6
          obtain ⟨-, hS, hx4⟩ := hp
          subst hS
          refine Iff.mp and_comm ⟨?_, ?_⟩
          · intro c
            have h := h.2 c
            have y := an1 hx4 c
            have eA : aLn f n p A = up4 (upN A (tV f n (tEn f n p)) (8 + aW A)) := by unfold aLn; rw [dc_n n0, dc_n n1, dc_n n2, dc_n n3, dc_y y]
            have eL : sLn f n p A = rb (sRoom f n p (aH A) (aW A) 4) fun p => sWalker f n p A := by unfold sLn; rw [dc_n n0, dc_n n1, dc_n n2, dc_n n3, dc_y y]
            obtain ⟨a32, ea32, h⟩ := h
            refine ⟨a32, ea32, ?_⟩
            cases (ls_w hB ls).symm.trans ea32
            obtain ⟨o33, h⟩ := h
            refine ⟨o33, ?_⟩
            intro x33 ex33
            have h := h x33 ex33
            refine cm_X4_hasRoom (sp_X4_hasRoom hB h ls (count := aW A) (room := 4) (ex33.trans ls.2.2.1.2.2.2.2.1) rfl (by omega) (by omega)) h (fun x36 S34 hp h g b => ?_)
            have h := h g b
            have lb1 := hp.2
            rcases lb_split lb1 eL with ⟨hz, lb2⟩ | ⟨p1, hz, hR, eL2, ls⟩
            · refine ⟨fun c => ?_, fun c => absurd hz c⟩
              exact go 0 _ (lb2 _) (h.1 c)
            obtain ⟨ep, hlt, hh⟩ := sRoom_inl hR
            refine ⟨fun c => absurd (c.symm.trans hz) (by decide), fun c => ?_⟩
            have h := h.2 c
            refine cm_X4_walkerLine (sp_X4_walkerLine hB h ls hwk hlt (by omega)) h (fun x40 S38 hp h g b => ?_)
            have h := h g b
            have lb3 : LnB f n a r w nm nd B (sLn f n p A) (aLn f n p A) x40 S38 := by rw [eL2, eA, ← ep]; exact hp.2
            exact ⟨fun c => go 0 _ (lb_zero lb3 c) (h.1 c), fun c => go 1 _ (lb_one lb3 c) (h.2 c)⟩
          · intro c
            have h := h.1 c
            have n4 := an0 hx4 c
            refine cm_X4_is (sp_X4_is h ls.1.2.1) h (fun x3 S4 hp h g5 b6 => ?_)
            have h := h g5 b6
            obtain ⟨-, hS, hx5⟩ := hp
            subst hS
            refine Iff.mp and_comm ⟨?_, ?_⟩
            · intro c
              have h := h.2 c
              have y := an1 hx5 c
              have eA : aLn f n p A = up5 A := by unfold aLn; rw [dc_n n0, dc_n n1, dc_n n2, dc_n n3, dc_n n4]
              have eL : sLn f n p A = rb (sRoom f n p (aH A) (aS A) 4) fun p => sSeen f n p A := by unfold sLn; rw [dc_n n0, dc_n n1, dc_n n2, dc_n n3, dc_n n4, dc_y y]
              obtain ⟨a32, ea32, h⟩ := h
              refine ⟨a32, ea32, ?_⟩
              cases (ls_w hB ls).symm.trans ea32
              obtain ⟨o33, h⟩ := h
              refine ⟨o33, ?_⟩
              intro x33 ex33
              have h := h x33 ex33
              refine cm_X4_hasRoom (sp_X4_hasRoom hB h ls (count := aS A) (room := 4) (ex33.trans ls.2.2.1.2.2.2.2.2) rfl (by omega) (by omega)) h (fun x36 S34 hp h g b => ?_)
              have h := h g b
              have lb1 := hp.2
              rcases lb_split lb1 eL with ⟨hz, lb2⟩ | ⟨p1, hz, hR, eL2, ls⟩
              · refine ⟨fun c => ?_, fun c => absurd hz c⟩
                exact go 0 _ (lb2 _) (h.1 c)
              obtain ⟨ep, hlt, hh⟩ := sRoom_inl hR
              refine ⟨fun c => absurd (c.symm.trans hz) (by decide), fun c => ?_⟩
              have h := h.2 c
              refine cm_X4_seenLine (sp_X4_seenLine hB hd hlt h ls) h (fun x40 S38 hp h g b => ?_)
              have h := h g b
              have lb3 : LnB f n a r w nm nd B (sLn f n p A) (aLn f n p A) x40 S38 := by rw [eL2, eA]; exact hp.2
              exact ⟨fun c => go 0 _ (lb_zero lb3 c) (h.1 c), fun c => go 1 _ (lb_one lb3 c) (h.2 c)⟩
            · intro c
              have h := h.1 c
              have n5 := an0 hx5 c
              have eL : sLn f n p A = .inr (1, tSt f n p) := by unfold sLn; rw [dc_n n0, dc_n n1, dc_n n2, dc_n n3, dc_n n4, dc_n n5]
              refine cm_X4_fail (sp_X4_fail h) h (fun x31 S29 hp h g b => ?_)
              have h := h g b
              exact go _ _ (lb_fl (k := 1) ls eL rfl hp.2) h
end Read2
