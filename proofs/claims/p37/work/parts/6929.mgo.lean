/-! the model's goesOn -/
abbrev wM : List Nat := [8, 9, 10, 11, 12]
section MGo
variable {f : Nat → Int32} {n a p r q i : Nat} {Q : HS → Prop} {S S0 : HS}
def Inv89 (f : Nat → Int32) (n a p r q : Nat) (S0 : HS) (v0 : Nat) (v2 : Int32) (S : HS) : Prop := ∃ i : Nat, r = v0 ∧ v2 = nI i ∧ q + i ≤ 900 ∧ EM f n a r S ∧ Fr wM [15] r S0 S ∧ fI S r 8 = nI (q + i) ∧ fI S r 9 = 0 ∧ fI S r 10 = nI q ∧ fJ S r 15 = vL f 32 31 q (min i 8) ∧ fI S r 13 = 0 ∧ ∀ j, j < i → cls f n (q + j) = 1
theorem let_val {f : Nat → Int32} {n a m k : Nat} {S : HS} (E : EM f n a m S) (hk : k < n) (hc : cls f n k = 1) : (bM f n k - 97 + 1) = f k &&& 31 := by
  have e := bm_cls E k
  have hx := bm_x E hk
  have hb : 97 ≤ (bM f n k).toInt ∧ (bM f n k).toInt ≤ 122 := by
    by_cases hb : 97 ≤ (bM f n k).toInt ∧ (bM f n k).toInt ≤ 122
    · exact hb
    · rw [hc, if_neg hb] at e
      revert e
      repeat' split
      all_goals intro e
      all_goals omega
  refine Int32.toInt_inj.mp ?_
  rw [and31, Int32.toInt_add, Int32.toInt_sub]
  have e97 : (97 : Int32).toInt = 97 := by decide
  have e1 : (1 : Int32).toInt = 1 := by decide
  rw [e97, e1, Int.bmod_eq_of_le (n := (bM f n k).toInt - 97) (by omega) (by omega), Int.bmod_eq_of_le (by omega) (by omega)]
  omega
theorem dig_val {f : Nat → Int32} {n a m k : Nat} {S : HS} (E : EM f n a m S) (hk : k < n) (hc : cls f n k = 2) {v : Int32} {w : Int64} (h0 : 0 ≤ v.toInt) (h9 : v.toInt ≤ 99) (hv : v.toInt64 = w) : ((10 * v + bM f n k) - 48).toInt64 = w * 10 + (f k &&& 15).toInt64 ∧ ((10 * v + bM f n k) - 48).toInt = 10 * v.toInt + (f k &&& 15).toInt ∧ 0 ≤ (f k &&& 15).toInt ∧ (f k &&& 15).toInt ≤ 9 := by
  have e := bm_cls E k
  have hx := bm_x E hk
  have hb : 48 ≤ (bM f n k).toInt ∧ (bM f n k).toInt ≤ 57 := by
    by_cases hb : 48 ≤ (bM f n k).toInt ∧ (bM f n k).toInt ≤ 57
    · exact hb
    · rw [hc, if_neg hb] at e
      revert e
      repeat' split
      all_goals intro e
      all_goals omega
  have e10 : (10 : Int32).toInt = 10 := by decide
  have e48 : (48 : Int32).toInt = 48 := by decide
  have f10 : (10 : Int64).toInt = 10 := by decide
  have hd := and15 (f k)
  have hi : ((10 * v + bM f n k) - 48).toInt = 10 * v.toInt + (f k &&& 15).toInt := by
    rw [Int32.toInt_sub, Int32.toInt_add, Int32.toInt_mul, e10, e48, Int.bmod_eq_of_le (n := 10 * v.toInt) (by omega) (by omega), Int.bmod_eq_of_le (n := 10 * v.toInt + _) (by omega) (by omega), Int.bmod_eq_of_le (by omega) (by omega)]
    omega
  refine ⟨Int64.toInt_inj.mp ?_, hi, by omega, by omega⟩
  rw [Int32.toInt_toInt64, hi, ← hv, Int64.toInt_add, Int64.toInt_mul, Int32.toInt_toInt64, Int32.toInt_toInt64, f10, Int.bmod_eq_of_le (n := v.toInt * 10) (by omega) (by omega), Int.bmod_eq_of_le (by omega) (by omega)]
  omega
theorem bm_let {f : Nat → Int32} {n a m k : Nat} {S : HS} (E : EM f n a m S) : (97 ≤ (bM f n k).toInt ∧ (bM f n k).toInt ≤ 122) ↔ cls f n k = 1 := by
  rw [bm_cls E k]
  repeat' split
  all_goals omega
theorem bm_dig {f : Nat → Int32} {n a m k : Nat} {S : HS} (E : EM f n a m S) : (48 ≤ (bM f n k).toInt ∧ (bM f n k).toInt ≤ 57) ↔ cls f n k = 2 := by
  rw [bm_cls E k]
  repeat' split
  all_goals omega
theorem bm_at {f : Nat → Int32} {n a m k : Nat} {S : HS} (E : EM f n a m S) : ((bM f n k).toInt = 32 ↔ cls f n k = 5) ∧ ((bM f n k).toInt = 44 ↔ cls f n k = 4) ∧ ((bM f n k).toInt = 59 ↔ cls f n k = 3) ∧ ((bM f n k).toInt = -1 ↔ cls f n k = 0) := by
  rw [bm_cls E k]
  repeat' split
  all_goals omega
theorem eq_i {x : Int32} {k : Int32} (h : x = k) : x.toInt = k.toInt := by rw [h]
theorem ne_i {x : Int32} {k : Int32} (h : ¬ x = k) : x.toInt ≠ k.toInt := fun z => h (Int32.toInt_inj.mp z)
theorem cls_lt {f : Nat → Int32} {n k c : Nat} (h : cls f n k = c) (hc : c ≠ 0) : k < n := Nat.not_le.mp (fun z => hc (by rw [← h, cls_end z]))
set_option maxHeartbeats 1000000 in
theorem lp89 (hq : q = tSt f n p) (hcc : tC f n p = 1) {v0 : Nat} {v2 : Int32} (h : P_X11_goesOn_89 Q v0 v2 S) (hi : Inv89 f n a p r q S0 v0 v2 S) : P_X11_goesOn_89 (fun T => Q T ∧ (Fr wM [15] r S0 T ∧ MT f n p r T)) v0 v2 S := by
  refine h (fun v0 v2 S => Inv89 f n a p r q S0 v0 v2 S → P_X11_goesOn_89 (fun T => Q T ∧ (Fr wM [15] r S0 T ∧ MT f n p r T)) v0 v2 S) ?_ hi
  intro v0 v2 S h hi
  obtain ⟨i, rfl, hv2, hi9, E, F, h8, h9, h10, h15, h13, hs⟩ := hi
  have e8 : (8 : Int32).toInt = 8 := by decide
  have ei : v2.toInt = (i : Int) := by rw [hv2]; exact nI_i (by omega)
  refine fd_X11_goesOn_89 ?_
  delta B_X11_goesOn_89
  obtain ⟨o1, h⟩ := h
  refine ⟨o1, ?_⟩
  intro x2 ex2
  have h := h x2 ex2
  refine cm_X11_byteAt (sp_X11_byteAt h E (ex2.trans h8) (by omega)) h (fun x3 S4 hp h g5 => ?_)
  have h := h g5
  obtain ⟨-, hS, hx3⟩ := hp
  subst hS
  refine cm_X11_isLetter (sp_X11_isLetter h) h (fun x6 S7 hp h g8 b9 => ?_)
  have h := h g8 b9
  obtain ⟨-, hS, hx6⟩ := hp
  subst hS
  rw [hx3, bm_let E] at hx6
  refine ⟨?_, ?_⟩
  · intro c10
    have h := h.1 c10
    have hr := run_tok (Or.inl rfl) hq hcc.symm (by omega : i ≤ 1000) hs (an0 hx6 c10)
    refine ⟨?_, ?_⟩
    · intro c11
      have := lt_i c11
      exact ⟨h.1 c11, F, mt_bad (hr.2.2.1 (by show 8 < i; omega)) h9 (by rw [← hq]; exact h10) h13⟩
    · intro c12
      have := nlt_i c12
      have h := h.2 c12
      intro S13 eS13
      have h := h S13 eS13
      have hS : tS f n p = 1 := hr.2.2.2 (by show i ≤ 8; omega)
      refine ⟨h, fr_wI F eS13 (by decide), ?_⟩
      unfold MT
      rw [hS, wI_at eS13, wI_ne eS13 (by decide), wI_ne eS13 (by decide), wI_ne eS13 (by decide), wI_ne eS13 (by decide), wI_ne eS13 (by decide), wI_J eS13, hr.1, ← hq]
      exact ⟨rfl, h10, fun _ => by rw [hr.2.1]; exact h15, fun z => absurd z (by decide), fun z => absurd z (by decide), fun z => absurd z (by decide), fun _ => h8, h13⟩
  · intro c14
    have h := h.2 c14
    have hcl : cls f n (q + i) = 1 := an1 hx6 c14
    have hlt := cls_lt hcl (by decide)
    have hn9 := E.2.2.2.2.1
    have hs' : ∀ j, j < i + 1 → cls f n (q + j) = 1 := fun j hj => by
      by_cases hji : j = i
      · rw [hji]; exact hcl
      · exact hs j (by omega)
    have step : ∀ (T U : HS) (x y w : Int32), Fr wM [15] r S0 T → fI T r 8 = nI (q + i) → fI T r 9 = 0 → fI T r 10 = nI q → fJ T r 15 = vL f 32 31 q (min (i + 1) 8) → fI T r 13 = 0 → EM f n a r T → w = v2 + 1 → x = fI T r 8 → y = x + 1 → U = sI T r 8 y → Inv89 f n a p r q S0 r w U := by
      intro T U x y w F1 k8 k9 k10 k15 k13 E1 ew ex ey eU
      refine ⟨i + 1, rfl, by rw [ew, hv2]; exact nI_1 i, by omega, em_fr E1 (fr_wI (fr_rf [8] [] r T) eU (by decide)) (by decide), fr_wI F1 eU (by decide), ?_, by rw [wI_ne eU (by decide)]; exact k9, by rw [wI_ne eU (by decide)]; exact k10, by rw [wI_J eU]; exact k15, by rw [wI_ne eU (by decide)]; exact k13, hs'⟩
      rw [wI_at eU, ey, ex, k8]; exact nI_1 _
    refine ⟨?_, ?_⟩
    · intro c15
      have := le_i c15
      have h := h.1 c15
      delta P_X11_goesOn_136
      intro x16 ex16
      have h := h x16 ex16
      obtain ⟨o17, h⟩ := h
      refine ⟨o17, ?_⟩
      intro x18 ex18
      have h := h x18 ex18
      intro x19 ex19
      have h := h x19 ex19
      intro S20 eS20
      have h := h S20 eS20
      exact h (step _ _ _ _ _ F h8 h9 h10 (by rw [h15, Nat.min_eq_right (by omega), Nat.min_eq_right (by omega)]) h13 E ex16 ex18 ex19 eS20)
    · intro c21
      have := nle_i c21
      have h := h.2 c21
      intro x22 ex22
      have h := h x22 ex22
      intro x23 ex23
      have h := h x23 ex23
      refine cm_X11_byteAt (sp_X11_byteAt h E (ex23.trans h8) (by omega)) h (fun x24 S25 hp h g26 => ?_)
      have h := h g26
      obtain ⟨-, hS, hx24⟩ := hp
      subst hS
      intro x27 ex27
      have h := h x27 ex27
      intro S28 eS28
      have h := h S28 eS28
      delta P_X11_goesOn_136
      intro x29 ex29
      have h := h x29 ex29
      obtain ⟨o30, h⟩ := h
      refine ⟨o30, ?_⟩
      intro x31 ex31
      have h := h x31 ex31
      intro x32 ex32
      have h := h x32 ex32
      intro S33 eS33
      have h := h S33 eS33
      refine h (step _ _ _ _ _ (fr_wJ F eS28 (by decide)) (by rw [wJ_I eS28]; exact h8) (by rw [wJ_I eS28]; exact h9) (by rw [wJ_I eS28]; exact h10) ?_ (by rw [wJ_I eS28]; exact h13) (em_fr E (fr_wJ (fr_rf [] [15] r S) eS28 (by decide)) (by decide)) ex29 ex31 ex32 eS33)
      rw [wJ_at eS28, ex27, ex22, h15, hx24, let_val E hlt hcl, Nat.min_eq_left (by omega : i + 1 ≤ 8), Nat.min_eq_left (by omega : i ≤ 8), Int64.mul_comm]
      rfl
def Inv178 (f : Nat → Int32) (n a p r q : Nat) (S0 : HS) (v0 : Nat) (v2 : Int32) (S : HS) : Prop := ∃ i : Nat, r = v0 ∧ v2 = nI i ∧ q + i ≤ 900 ∧ EM f n a r S ∧ Fr wM [15] r S0 S ∧ fI S r 8 = nI (q + i) ∧ fI S r 9 = 0 ∧ fI S r 10 = nI q ∧ (fI S r 12).toInt64 = vL f 10 15 q (min i 3) ∧ fI S r 13 = 0 ∧ (∀ j, j < i → cls f n (q + j) = 2) ∧ 0 ≤ (fI S r 12).toInt ∧ (i = 0 → (fI S r 12).toInt = 0) ∧ (i ≤ 1 → (fI S r 12).toInt ≤ 9) ∧ (i ≤ 2 → (fI S r 12).toInt ≤ 99)
set_option maxHeartbeats 1000000 in
theorem lp178 (hq : q = tSt f n p) (hcc : tC f n p = 2) {v0 : Nat} {v2 : Int32} (h : P_X11_goesOn_178 Q v0 v2 S) (hi : Inv178 f n a p r q S0 v0 v2 S) : P_X11_goesOn_178 (fun T => Q T ∧ (Fr wM [15] r S0 T ∧ MT f n p r T)) v0 v2 S := by
  refine h (fun v0 v2 S => Inv178 f n a p r q S0 v0 v2 S → P_X11_goesOn_178 (fun T => Q T ∧ (Fr wM [15] r S0 T ∧ MT f n p r T)) v0 v2 S) ?_ hi
  intro v0 v2 S h hi
  obtain ⟨i, rfl, hv2, hi9, E, F, h8, h9, h10, h12, h13, hs, b0, b1, b2, b3⟩ := hi
  have e3 : (3 : Int32).toInt = 3 := by decide
  have ei : v2.toInt = (i : Int) := by rw [hv2]; exact nI_i (by omega)
  refine fd_X11_goesOn_178 ?_
  delta B_X11_goesOn_178
  obtain ⟨o1, h⟩ := h
  refine ⟨o1, ?_⟩
  intro x2 ex2
  have h := h x2 ex2
  refine cm_X11_byteAt (sp_X11_byteAt h E (ex2.trans h8) (by omega)) h (fun x3 S4 hp h g5 => ?_)
  have h := h g5
  obtain ⟨-, hS, hx3⟩ := hp
  subst hS
  refine cm_X11_isDigit (sp_X11_isDigit h) h (fun x6 S7 hp h g8 b9 => ?_)
  have h := h g8 b9
  obtain ⟨-, hS, hx6⟩ := hp
  subst hS
  rw [hx3, bm_dig E] at hx6
  refine ⟨?_, ?_⟩
  · intro c10
    have h := h.1 c10
    have hr := run_tok (Or.inr rfl) hq hcc.symm (by omega : i ≤ 1000) hs (an0 hx6 c10)
    refine ⟨?_, ?_⟩
    · intro c11
      have := lt_i c11
      exact ⟨h.1 c11, F, mt_bad (hr.2.2.1 (by show 3 < i; omega)) h9 (by rw [← hq]; exact h10) h13⟩
    · intro c12
      have := nlt_i c12
      have h := h.2 c12
      intro S13 eS13
      have h := h S13 eS13
      have hS : tS f n p = 2 := hr.2.2.2 (by show i ≤ 3; omega)
      refine ⟨h, fr_wI F eS13 (by decide), ?_⟩
      unfold MT
      rw [hS, wI_at eS13, wI_ne eS13 (by decide), wI_ne eS13 (by decide), wI_ne eS13 (by decide), wI_ne eS13 (by decide), wI_ne eS13 (by decide), wI_J eS13, hr.1, ← hq]
      exact ⟨rfl, h10, fun z => absurd z (by decide), fun _ => by rw [hr.2.1]; exact h12, fun z => absurd z (by decide), fun z => absurd z (by decide), fun _ => h8, h13⟩
  · intro c14
    have h := h.2 c14
    have hcl : cls f n (q + i) = 2 := an1 hx6 c14
    have hlt := cls_lt hcl (by decide)
    have hn9 := E.2.2.2.2.1
    have hs' : ∀ j, j < i + 1 → cls f n (q + j) = 2 := fun j hj => by
      by_cases hji : j = i
      · rw [hji]; exact hcl
      · exact hs j (by omega)
    have step : ∀ (T U : HS) (x y w : Int32), Fr wM [15] r S0 T → fI T r 8 = nI (q + i) → fI T r 9 = 0 → fI T r 10 = nI q → (fI T r 12).toInt64 = vL f 10 15 q (min (i + 1) 3) → fI T r 13 = 0 → EM f n a r T → 0 ≤ (fI T r 12).toInt → (i + 1 ≤ 1 → (fI T r 12).toInt ≤ 9) → (i + 1 ≤ 2 → (fI T r 12).toInt ≤ 99) → w = v2 + 1 → x = fI T r 8 → y = x + 1 → U = sI T r 8 y → Inv178 f n a p r q S0 r w U := by
      intro T U x y w F1 k8 k9 k10 k12 k13 E1 d0 d2 d3 ew ex ey eU
      have u12 := wI_ne (i := 12) eU (by decide)
      refine ⟨i + 1, rfl, by rw [ew, hv2]; exact nI_1 i, by omega, em_fr E1 (fr_wI (fr_rf [8] [] r T) eU (by decide)) (by decide), fr_wI F1 eU (by decide), ?_, by rw [wI_ne eU (by decide)]; exact k9, by rw [wI_ne eU (by decide)]; exact k10, by rw [u12]; exact k12, by rw [wI_ne eU (by decide)]; exact k13, hs', by rw [u12]; exact d0, fun z => absurd z (by omega), by rw [u12]; exact d2, by rw [u12]; exact d3⟩
      rw [wI_at eU, ey, ex, k8]; exact nI_1 _
    refine ⟨?_, ?_⟩
    · intro c15
      have := le_i c15
      have h := h.1 c15
      delta P_X11_goesOn_220
      intro x16 ex16
      have h := h x16 ex16
      obtain ⟨o17, h⟩ := h
      refine ⟨o17, ?_⟩
      intro x18 ex18
      have h := h x18 ex18
      intro x19 ex19
      have h := h x19 ex19
      intro S20 eS20
      have h := h S20 eS20
      exact h (step _ _ _ _ _ F h8 h9 h10 (by rw [h12, Nat.min_eq_right (by omega), Nat.min_eq_right (by omega)]) h13 E b0 (fun z => absurd z (by omega)) (fun z => absurd z (by omega)) ex16 ex18 ex19 eS20)
    · intro c21
      have := nle_i c21
      have h := h.2 c21
      intro x22 ex22
      have h := h x22 ex22
      intro x23 ex23
      have h := h x23 ex23
      refine cm_X11_byteAt (sp_X11_byteAt h E (ex23.trans h8) (by omega)) h (fun x24 S25 hp h g26 => ?_)
      have h := h g26
      obtain ⟨-, hS, hx24⟩ := hp
      subst hS
      intro x27 ex27
      have h := h x27 ex27
      intro S28 eS28
      have h := h S28 eS28
      delta P_X11_goesOn_220
      intro x29 ex29
      have h := h x29 ex29
      obtain ⟨o30, h⟩ := h
      refine ⟨o30, ?_⟩
      intro x31 ex31
      have h := h x31 ex31
      intro x32 ex32
      have h := h x32 ex32
      intro S33 eS33
      have h := h S33 eS33
      have hd := dig_val E hlt hcl b0 (b3 (by omega)) h12
      have u12 : fI S28 r 12 = (10 * fI S r 12 + bM f n (q + i)) - 48 := by rw [wI_at eS28, ex27, ex22, hx24]
      refine h (step _ _ _ _ _ (fr_wI F eS28 (by decide)) (by rw [wI_ne eS28 (by decide)]; exact h8) (by rw [wI_ne eS28 (by decide)]; exact h9) (by rw [wI_ne eS28 (by decide)]; exact h10) ?_ (by rw [wI_ne eS28 (by decide)]; exact h13) (em_fr E (fr_wI (fr_rf [12] [] r S) eS28 (by decide)) (by decide)) (by rw [u12, hd.2.1]; omega) (fun z => by rw [u12, hd.2.1, b1 (by omega)]; omega) (fun z => by rw [u12, hd.2.1]; have := b2 (by omega); omega) ex29 ex31 ex32 eS33)
      rw [u12, hd.1, Nat.min_eq_left (by omega : i + 1 ≤ 3), Nat.min_eq_left (by omega : i ≤ 3)]
      rfl
end MGo
