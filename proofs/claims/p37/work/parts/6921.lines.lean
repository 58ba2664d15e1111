/-! the class's lines, written by a program -/
theorem part_in {f : Nat → Int32} {n p w p' : Nat} {lo hi : Int64} (h : sPart f n p w lo hi = .inl p') : lo ≤ tV f n (tEn f n p) ∧ tV f n (tEn f n p) ≤ hi := by
  unfold sPart at h
  cases hw : sWord f n p w with
  | inr e => rw [hw] at h; cases h
  | inl p1 =>
    rw [hw] at h
    have h : sWhole f n p1 lo hi = .inl p' := h
    rw [sWord_inl hw] at h
    unfold sWhole at h
    split at h
    · split at h
      · cases h
      · rename_i h2
        exact ⟨Int64.not_lt.mp (fun z => h2 (Or.inl z)), Int64.not_lt.mp (fun z => h2 (Or.inr z))⟩
    · cases h
theorem whole_in {f : Nat → Int32} {n p p' : Nat} {lo hi : Int64} (h : sWhole f n p lo hi = .inl p') : lo ≤ tV f n p ∧ tV f n p ≤ hi := by
  unfold sWhole at h
  split at h
  · split at h
    · cases h
    · rename_i h2
      exact ⟨Int64.not_lt.mp (fun z => h2 (Or.inl z)), Int64.not_lt.mp (fun z => h2 (Or.inr z))⟩
  · cases h
theorem i64_le {v : Int64} {k : Nat} (h0 : 0 ≤ v) (h1 : v ≤ Int64.ofNat k) (hk : k < 10000 := by decide) : v.toInt32.toNatClampNeg ≤ k ∧ v.toInt32 = nI v.toInt32.toNatClampNeg := by
  have e0 : (0 : Int64).toInt = 0 := by decide
  have ek : (Int64.ofNat k).toInt = (k : Int) := Int64.toInt_ofNat_of_lt (by omega)
  have a0 := Int64.le_iff_toInt_le.mp h0
  have a1 := Int64.le_iff_toInt_le.mp h1
  rw [e0] at a0
  rw [ek] at a1
  have ei : v.toInt32.toInt = v.toInt := by
    rw [Int64.toInt_toInt32]
    exact Int.bmod_eq_of_le (by omega) (by omega)
  have en : (v.toInt32.toNatClampNeg : Int) = v.toInt := by
    have : v.toInt32.toNatClampNeg = v.toInt32.toInt.toNat := rfl
    rw [this, ei]
    omega
  refine ⟨by omega, Int32.toInt_inj.mp ?_⟩
  rw [ei, nI_i (by omega), en]
section Steps
variable {f : Nat → Int32} {n a r w nm nd p : Nat} {A : AS} {B S T : HS} {Q : Int32 → HS → Prop}
theorem cb_split {R L : Res} {g : Nat → Res} {x : Int32} (hB : BFa a r w nm nd B) (ls : LnS f n a r w nm nd B A p S) (F : FrR r S T) (hc : CB f n r R x T) (K : L = rb R g) (hle : ∀ p', R = .inl p' → p' ≤ 900) : (x = 0 ∧ ∀ A', LnB f n a r w nm nd B L A' 0 T) ∨ (∃ p', x = 1 ∧ R = .inl p' ∧ L = g p' ∧ LnS f n a r w nm nd B A p' T) := by
  cases R with
  | inl p' => exact Or.inr ⟨p', hc.1, rfl, K, ls_R hB ls F hc.2 (hle p' rfl)⟩
  | inr e => exact Or.inl ⟨hc.1, fun A' => lb_f K rfl hc.2⟩
theorem le_part {w' : Nat} {lo hi : Int64} (ls : LnS f n a r w nm nd B A p S) : ∀ p', sPart f n p w' lo hi = .inl p' → p' ≤ 900 := fun p' h => by rw [sPart_inl h]; exact le2 ls
theorem le_word {w' : Nat} (ls : LnS f n a r w nm nd B A p S) : ∀ p', sWord f n p w' = .inl p' → p' ≤ 900 := fun p' h => by rw [sWord_inl h]; exact le1 ls
theorem le_whole {lo hi : Int64} (ls : LnS f n a r w nm nd B A p S) : ∀ p', sWhole f n p lo hi = .inl p' → p' ≤ 900 := fun p' h => by rw [sWhole_inl h]; exact le1 ls
theorem le_side (ls : LnS f n a r w nm nd B A p S) : ∀ p', sSide f n p = .inl p' → p' ≤ 900 := fun p' h => by rw [sSide_inl h]; exact le1 ls
theorem le_sign {k : Nat} (ls : LnS f n a r w nm nd B A p S) : ∀ p', sSign f n p k = .inl p' → p' ≤ 900 := fun p' h => by rw [sSign_inl h]; exact le1 ls
theorem le_pb {o : Option Nat} (ls : LnS f n a r w nm nd B A p S) : ∀ p', sPB f n p A o = .inl p' → p' ≤ 900 := fun p' h => by rw [(sPB_inl h).1]; exact le1 ls
theorem rb_id (R : Res) : R = rb R .inl := by cases R <;> rfl
def up0 (A : AS) (k : Nat) : AS := ((k, aHs A, aP A, aR A, aW A, aS A), A.2)
def up1 (A : AS) : AS := ((aH A, aHs A + 1, aP A, aR A, aW A, aS A), A.2)
def up2 (A : AS) : AS := ((aH A, aHs A, aP A + 1, aR A, aW A, aS A), A.2)
def up3 (A : AS) : AS := ((aH A, aHs A, aP A, aR A + 1, aW A, aS A), A.2)
def up4 (A : AS) : AS := ((aH A, aHs A, aP A, aR A, aW A + 1, aS A), A.2)
def up5 (A : AS) : AS := ((aH A, aHs A, aP A, aR A, aW A, aS A + 1), A.2)
def upN (A : AS) (v : Int64) (i : Nat) : AS := (A.1, aM A + 1, va_up (aV A) (aM A) v, va_up (aI A) (aM A) i)
theorem cn_0 {x : Int32} {k : Nat} (h : Cnt w A S) (e : T = sI S w 0 x) (hx : x = nI k) : Cnt w (up0 A k) T := ⟨by rw [wI_at e, hx]; rfl, by rw [wI_ne e (by decide)]; exact h.2.1, by rw [wI_ne e (by decide)]; exact h.2.2.1, by rw [wI_ne e (by decide)]; exact h.2.2.2.1, by rw [wI_ne e (by decide)]; exact h.2.2.2.2.1, by rw [wI_ne e (by decide)]; exact h.2.2.2.2.2⟩
theorem cn_1 {x : Int32} (h : Cnt w A S) (e : T = sI S w 1 x) (hx : x = nI (aHs A + 1)) : Cnt w (up1 A) T := ⟨by rw [wI_ne e (by decide)]; exact h.1, by rw [wI_at e, hx]; rfl, by rw [wI_ne e (by decide)]; exact h.2.2.1, by rw [wI_ne e (by decide)]; exact h.2.2.2.1, by rw [wI_ne e (by decide)]; exact h.2.2.2.2.1, by rw [wI_ne e (by decide)]; exact h.2.2.2.2.2⟩
theorem cn_2 {x : Int32} (h : Cnt w A S) (e : T = sI S w 2 x) (hx : x = nI (aP A + 1)) : Cnt w (up2 A) T := ⟨by rw [wI_ne e (by decide)]; exact h.1, by rw [wI_ne e (by decide)]; exact h.2.1, by rw [wI_at e, hx]; rfl, by rw [wI_ne e (by decide)]; exact h.2.2.2.1, by rw [wI_ne e (by decide)]; exact h.2.2.2.2.1, by rw [wI_ne e (by decide)]; exact h.2.2.2.2.2⟩
theorem cn_3 {x : Int32} (h : Cnt w A S) (e : T = sI S w 3 x) (hx : x = nI (aR A + 1)) : Cnt w (up3 A) T := ⟨by rw [wI_ne e (by decide)]; exact h.1, by rw [wI_ne e (by decide)]; exact h.2.1, by rw [wI_ne e (by decide)]; exact h.2.2.1, by rw [wI_at e, hx]; rfl, by rw [wI_ne e (by decide)]; exact h.2.2.2.2.1, by rw [wI_ne e (by decide)]; exact h.2.2.2.2.2⟩
theorem cn_4 {x : Int32} (h : Cnt w A S) (e : T = sI S w 4 x) (hx : x = nI (aW A + 1)) : Cnt w (up4 A) T := ⟨by rw [wI_ne e (by decide)]; exact h.1, by rw [wI_ne e (by decide)]; exact h.2.1, by rw [wI_ne e (by decide)]; exact h.2.2.1, by rw [wI_ne e (by decide)]; exact h.2.2.2.1, by rw [wI_at e, hx]; rfl, by rw [wI_ne e (by decide)]; exact h.2.2.2.2.2⟩
theorem cn_5 {x : Int32} (h : Cnt w A S) (e : T = sI S w 5 x) (hx : x = nI (aS A + 1)) : Cnt w (up5 A) T := ⟨by rw [wI_ne e (by decide)]; exact h.1, by rw [wI_ne e (by decide)]; exact h.2.1, by rw [wI_ne e (by decide)]; exact h.2.2.1, by rw [wI_ne e (by decide)]; exact h.2.2.2.1, by rw [wI_ne e (by decide)]; exact h.2.2.2.2.1, by rw [wI_at e, hx]; rfl⟩
theorem ab_1 (hA : ABd A) (h : aHs A < 6) : ABd (up1 A) := ⟨hA.1, (by show aHs A + 1 ≤ 6; omega), hA.2.2.1, hA.2.2.2.1, hA.2.2.2.2.1, hA.2.2.2.2.2⟩
theorem ab_2 (hA : ABd A) (h : aP A < 8) : ABd (up2 A) := ⟨hA.1, hA.2.1, (by show aP A + 1 ≤ 8; omega), hA.2.2.2.1, hA.2.2.2.2.1, hA.2.2.2.2.2⟩
theorem ab_3 (hA : ABd A) (h : aR A < 12) : ABd (up3 A) := ⟨hA.1, hA.2.1, hA.2.2.1, (by show aR A + 1 ≤ 12; omega), hA.2.2.2.2.1, hA.2.2.2.2.2⟩
theorem ab_4 (hA : ABd A) (h : aW A < 4) : ABd (up4 A) := ⟨hA.1, hA.2.1, hA.2.2.1, hA.2.2.2.1, (by show aW A + 1 ≤ 4; omega), hA.2.2.2.2.2⟩
theorem ab_5 (hA : ABd A) (h : aS A < 4) : ABd (up5 A) := ⟨hA.1, hA.2.1, hA.2.2.1, hA.2.2.2.1, hA.2.2.2.2.1, (by show aS A + 1 ≤ 4; omega)⟩
theorem inc_ {x y z : Int32} {k : Nat} (hx : x = z) (hz : z = nI k) (hy : y = x + 1) : y = nI (k + 1) := by rw [hy, hx, hz]; exact nI_1 k
end Steps
section Lines2
variable {f : Nat → Int32} {n a r w nm nd p : Nat} {A : AS} {B S T : HS} {Q : Int32 → HS → Prop}
noncomputable def sWorld (f : Nat → Int32) (n p : Nat) (A : AS) : Res := if aH A = 0 then sPart f n (tEn f n p) 1 5 60 else .inr (3, tSt f n p)
set_option maxHeartbeats 1000000 in
theorem sp_X4_worldLine (hB : BFa a r w nm nd B) (h : P_X4_worldLine r Q S) (ls : LnS f n a r w nm nd B A p S) : P_X4_worldLine r (fun x T => Q x T ∧ LnB f n a r w nm nd B (sWorld f n p A) (up0 A (tV f n (tEn f n (tEn f n p))).toInt32.toNatClampNeg) x T) S := by
  delta P_X4_worldLine P_X4_worldLine_0
  obtain ⟨o1, h⟩ := h
  refine ⟨o1, ?_⟩
  obtain ⟨a2, ea2, h⟩ := h
  refine ⟨a2, ea2, ?_⟩
  cases (ls_w hB ls).symm.trans ea2
  obtain ⟨o3, h⟩ := h
  refine ⟨o3, ?_⟩
  have hH := ls.2.2.2.2.1
  refine cm_X8_isTold (sp_X8_isTold h ls.2.2.1.1 (by omega)) h (fun x4 S5 hp h g6 b7 => ?_)
  have h := h g6 b7
  obtain ⟨-, hS, hx⟩ := hp
  subst hS
  refine ⟨?_, ?_⟩
  · intro c8
    have h := h.1 c8
    have h0 : aH A = 0 := by have := an0 hx c8; omega
    refine cm_X4_next (sp_X4_next h ls.1.1 (po_4 ls.1) (le1 ls) (po_0 ls.1)) h (fun S9 hp h g10 => ?_)
    have h := h g10
    have ls := ls_R hB ls (frR_next hp.2.1) hp.2.2 (le1 ls)
    have K : sWorld f n p A = rb (sPart f n (tEn f n p) 1 5 60) .inl := by
      unfold sWorld
      rw [if_pos h0]; exact rb_id _
    refine cm_X4_wordAndWhole (sp_X4_wordAndWhole h ls.1) h (fun x11 S12 hp h g13 b14 => ?_)
    have h := h g13 b14
    obtain ⟨-, F, hc, hv⟩ := hp
    rcases cb_split hB ls F hc K (le_part ls) with ⟨rfl, lb⟩ | ⟨p1, rfl, hR, K, ls⟩
    · exact ⟨fun c => absurd rfl c, fun c => ⟨h.2 c, lb _⟩⟩
    · refine ⟨fun c15 => ?_, fun c => absurd c (by decide)⟩
      have h := h.1 c15
      obtain ⟨a16, ea16, h⟩ := h
      refine ⟨a16, ea16, ?_⟩
      cases (ls_w hB ls).symm.trans ea16
      intro x17 ex17
      have h := h x17 ex17
      obtain ⟨o18, h⟩ := h
      refine ⟨o18, ?_⟩
      intro S19 eS19
      have h := h S19 eS19
      have hv := hv rfl
      have hr : (5 : Int64) ≤ tV f n (tEn f n (tEn f n p)) ∧ tV f n (tEn f n (tEn f n p)) ≤ 60 := part_in hR
      have hk := i64_le (k := 60) (by have := hr.1; exact Int64.le_trans (by decide) this) hr.2
      refine ⟨h, lb_s K rfl (ls_C hB ls eS19 (cn_0 ls.2.2.1 eS19 ?_) ⟨hk.1, ls.2.2.2.2.2⟩ ⟨rfl, rfl, rfl⟩)⟩
      rw [ex17, hv]
      exact hk.2
  · intro c21
    have h := h.2 c21
    have h0 := an1 hx c21
    refine cm_X4_fail (sp_X4_fail h) h (fun x22 S23 hp h g24 b25 => ?_)
    have h := h g24 b25
    refine ⟨h.1, h.2, lb_fl (k := 3) ls ?_ rfl hp.2⟩
    unfold sWorld
    rw [if_neg (by omega)]
noncomputable def sRain (f : Nat → Int32) (n p : Nat) : Res := rb (sPart f n p 3 0 9) fun p => rb (sPart f n p 4 1 9) fun p => rb (sWord f n p 5) fun p => rb (sSide f n p) fun p => rb (sWhole f n p 0 9) fun p => sPart f n p 10 0 100
theorem sRain_eq (f : Nat → Int32) (n p : Nat) : sRain f n p = rb (sPart f n p 3 0 9) fun p => rb (sPart f n p 4 1 9) fun p => rb (sWord f n p 5) fun p => rb (sSide f n p) fun p => rb (sWhole f n p 0 9) fun p => sPart f n p 10 0 100 := rfl
set_option maxHeartbeats 2000000 in
theorem sp_X4_rainLine (hB : BFa a r w nm nd B) (h : P_X4_rainLine r Q S) (ls : LnS f n a r w nm nd B A p S) (hlt : aHs A < 6) : P_X4_rainLine r (fun x T => Q x T ∧ LnB f n a r w nm nd B (sRain f n p) (up1 A) x T) S := by
  delta P_X4_rainLine P_X4_rainLine_0
  obtain ⟨o1, h⟩ := h
  refine ⟨o1, ?_⟩
  obtain ⟨a2, ea2, h⟩ := h
  refine ⟨a2, ea2, ?_⟩
  cases (ls_w hB ls).symm.trans ea2
  obtain ⟨o3, h⟩ := h
  refine ⟨o3, ?_⟩
  obtain ⟨a4, ea4, h⟩ := h
  refine ⟨a4, ea4, ?_⟩
  obtain ⟨a5, ea5, h⟩ := h
  refine ⟨a5, ea5, ?_⟩
  cases (ls_w hB ls).symm.trans ea5
  obtain ⟨o6, h⟩ := h
  refine ⟨o6, ?_⟩
  intro x7 ex7
  have h := h x7 ex7
  obtain ⟨o8, h⟩ := h
  refine ⟨o8, ?_⟩
  obtain ⟨o9, h⟩ := h
  refine ⟨o9, ?_⟩
  obtain ⟨a10, ea10, h⟩ := h
  refine ⟨a10, ea10, ?_⟩
  have K := sRain_eq f n p
  refine cm_X4_wordAndWhole (sp_X4_wordAndWhole h ls.1) h (fun x11 S12 hp h g13 b14 => ?_)
  have h := h g13 b14
  obtain ⟨-, F, hc, hv15⟩ := hp
  rcases cb_split hB ls F hc K (le_part ls) with ⟨rfl, lb⟩ | ⟨p16, rfl, hR, K, ls⟩
  · exact ⟨fun c => absurd rfl c, fun c => ⟨h.2 c, lb _⟩⟩
  refine ⟨fun c => ?_, fun c => absurd c (by decide)⟩
  have h := h.1 c
  replace hv15 := hv15 rfl
  intro x17 ex17
  have h := h x17 ex17
  obtain ⟨o18, h⟩ := h
  refine ⟨o18, ?_⟩
  have ob := bb_ob ls.2.2.2.1 o18
  intro T19 eT19
  have h := h T19 eT19
  replace ls := ls_Ik hB ls eT19 ob (by decide)
  refine cm_X4_wordAndWhole (sp_X4_wordAndWhole h ls.1) h (fun x20 S21 hp h g22 b23 => ?_)
  have h := h g22 b23
  obtain ⟨-, F, hc, hv24⟩ := hp
  rcases cb_split hB ls F hc K (le_part ls) with ⟨rfl, lb⟩ | ⟨p25, rfl, hR, K, ls⟩
  · exact ⟨fun c => absurd rfl c, fun c => ⟨h.2 c, lb _⟩⟩
  refine ⟨fun c => ?_, fun c => absurd c (by decide)⟩
  have h := h.1 c
  replace hv24 := hv24 rfl
  intro x26 ex26
  have h := h x26 ex26
  intro T27 eT27
  have h := h T27 eT27
  replace ls := ls_Ik hB ls eT27 ob (by decide)
  refine cm_X4_word (sp_X4_word h ls.1) h (fun x28 S29 hp h g30 b31 => ?_)
  have h := h g30 b31
  obtain ⟨-, F, hc⟩ := hp
  rcases cb_split hB ls F hc K (le_word ls) with ⟨rfl, lb⟩ | ⟨p33, rfl, hR, K, ls⟩
  · exact ⟨fun c => ⟨h.1 c, lb _⟩, fun c => absurd rfl c⟩
  refine ⟨fun c => absurd c (by decide), fun c => ?_⟩
  have h := h.2 c
  refine cm_X4_side (sp_X4_side h ls.1) h (fun x34 S35 hp h g36 b37 => ?_)
  have h := h g36 b37
  obtain ⟨-, F, hc, hv38⟩ := hp
  rcases cb_split hB ls F hc K (le_side ls) with ⟨rfl, lb⟩ | ⟨p39, rfl, hR, K, ls⟩
  · exact ⟨fun c => absurd rfl c, fun c => ⟨h.2 c, lb _⟩⟩
  refine ⟨fun c => ?_, fun c => absurd c (by decide)⟩
  have h := h.1 c
  replace hv38 := hv38 rfl
  intro x40 ex40
  have h := h x40 ex40
  intro T41 eT41
  have h := h T41 eT41
  replace ls := ls_Ik hB ls eT41 ob (by decide)
  refine cm_X4_whole (sp_X4_whole h ls.1) h (fun x42 S43 hp h g44 b45 => ?_)
  have h := h g44 b45
  obtain ⟨-, F, hc, hv46⟩ := hp
  rcases cb_split hB ls F hc K (le_whole ls) with ⟨rfl, lb⟩ | ⟨p47, rfl, hR, K, ls⟩
  · exact ⟨fun c => absurd rfl c, fun c => ⟨h.2 c, lb _⟩⟩
  refine ⟨fun c => ?_, fun c => absurd c (by decide)⟩
  have h := h.1 c
  replace hv46 := hv46 rfl
  intro x48 ex48
  have h := h x48 ex48
  intro T49 eT49
  have h := h T49 eT49
  replace ls := ls_Ik hB ls eT49 ob (by decide)
  replace K := K.trans (rb_id _)
  refine cm_X4_wordAndWhole (sp_X4_wordAndWhole h ls.1) h (fun x50 S51 hp h g52 b53 => ?_)
  have h := h g52 b53
  obtain ⟨-, F, hc, hv54⟩ := hp
  rcases cb_split hB ls F hc K (le_part ls) with ⟨rfl, lb⟩ | ⟨p55, rfl, hR, K, ls⟩
  · exact ⟨fun c => absurd rfl c, fun c => ⟨h.2 c, lb _⟩⟩
  refine ⟨fun c => ?_, fun c => absurd c (by decide)⟩
  have h := h.1 c
  replace hv54 := hv54 rfl
  intro x56 ex56
  have h := h x56 ex56
  intro T57 eT57
  have h := h T57 eT57
  replace ls := ls_Ik hB ls eT57 ob (by decide)
  obtain ⟨a58, ea58, h⟩ := h
  refine ⟨a58, ea58, ?_⟩
  cases (ls_w hB ls).symm.trans ea58
  obtain ⟨o59, h⟩ := h
  refine ⟨o59, ?_⟩
  intro x60 ex60
  have h := h x60 ex60
  intro x61 ex61
  have h := h x61 ex61
  intro T62 eT62
  have h := h T62 eT62
  exact ⟨h, lb_s K rfl (ls_C hB ls eT62 (cn_1 ls.2.2.1 eT62 (inc_ ex60 ls.2.2.1.2.1 ex61)) (ab_1 ls.2.2.2.2 hlt) ⟨rfl, rfl, rfl⟩)⟩
end Lines2
