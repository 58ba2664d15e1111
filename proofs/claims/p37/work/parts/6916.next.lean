/-! the class's next token -/
/-- the reader r stands at the token that begins behind p -/
def TC0 (f : Nat → Int32) (n p r : Nat) (T : HS) : Prop := fI T r 6 = nI (tS f n p) ∧ fI T r 7 = nI (tSt f n p) ∧ fJ T r 8 = tV f n p ∧ fI T r 4 = nI (tEn f n p)
section Nexts
variable {f : Nat → Int32} {n a p r q c i : Nat} {Q : HS → Prop} {S S0 : HS}
theorem b240r (h : P_X4_next_240 Q r 1 S) {R : HS → Prop} (hR : R S) : P_X4_next_240 (fun T => Q T ∧ R T) r 1 S := by
  delta P_X4_next_240 at h ⊢
  refine ⟨fun c1 => ⟨h.1 c1, hR⟩, fun c2 => absurd c2 (by decide)⟩
theorem b217r {v2 : Int32} (h : P_X4_next_217 Q r 1 v2 S) (F : Fr [4, 6, 7] [8] r S0 S) (hc : c = 1 ∨ c = 2) (hv2 : v2 = nI (tLg c)) (hq : q = tSt f n p) (hcc : c = tC f n p) (hqi : q + i ≤ 2000) (hi : i ≤ 1000) (h4 : fI S r 4 = nI (q + i)) (h6 : fI S r 6 = nI c) (h7 : fI S r 7 = nI q) (h8 : fJ S r 8 = vL f (tBs c) (tMk c) q (min i (tLg c))) (hs : ∀ j, j < i → cls f n (q + j) = c) (he : cls f n (q + i) ≠ c) : P_X4_next_217 (fun T => Q T ∧ (Fr [4, 6, 7] [8] r S0 T ∧ TC0 f n p r T)) r 1 v2 S := by
  have hr := run_eq i 1000 q hi hs he
  have hE : tEn f n p = q + i := by
    unfold tEn
    rw [← hcc, if_pos hc, ← hq]; exact hr
  have hV : tV f n p = vL f (tBs c) (tMk c) q (min i (tLg c)) := by
    unfold tV
    rw [← hcc, if_pos hc, ← hq, hE, Nat.add_sub_cancel_left]
  have hlg : tLg c ≤ 8 := by unfold tLg; split <;> omega
  delta P_X4_next_217 at h ⊢
  refine ⟨fun c2 => absurd c2 (by decide), ?_⟩
  intro c12
  have h := h.2 c12
  obtain ⟨o13, h⟩ := h
  refine ⟨o13, ?_⟩
  intro x14 ex14
  have h := h x14 ex14
  intro x15 ex15
  have h := h x15 ex15
  have hd : (x14 - x15).toInt = (i : Int) := by
    rw [ex14, ex15, h4, h7, Int32.toInt_sub, nI_i (by omega), nI_i (by omega)]
    rw [Int.bmod_eq_of_le (by omega) (by omega)]
    omega
  have hl : v2.toInt = (tLg c : Int) := by rw [hv2]; exact nI_i (by omega)
  refine ⟨?_, ?_⟩
  · intro c16
    have := le_i c16
    have hS : tS f n p = c := by
      unfold tS
      rw [← hcc, hE, ← hq, Nat.add_sub_cancel_left, if_neg (by omega)]
    exact b240r (h.1 c16) ⟨F, by rw [hS]; exact h6, by rw [← hq]; exact h7, by rw [hV]; exact h8, by rw [hE]; exact h4⟩
  · intro c26
    have := nle_i c26
    have h := h.2 c26
    intro S27 eS27
    have h := h S27 eS27
    have hS : tS f n p = 6 := by
      unfold tS
      rw [← hcc, hE, ← hq, Nat.add_sub_cancel_left, if_pos ⟨hc, by omega⟩]
    exact b240r h ⟨fr_wI F eS27 (by decide), by rw [hS, wI_at eS27]; rfl, by rw [← hq, wI_ne eS27 (by decide)]; exact h7, by rw [hV, wI_J eS27]; exact h8, by rw [hE, wI_ne eS27 (by decide)]; exact h4⟩
def Inv118 (f : Nat → Int32) (n a p r q c : Nat) (S0 : HS) (v0 : Nat) (v1 v2 v3 v4 : Int32) (S : HS) : Prop := ∃ i : Nat, r = v0 ∧ v1 = 1 ∧ v2 = nI (tLg c) ∧ v3.toInt64 = tBs c ∧ v4 = nI i ∧ i ≤ 900 ∧ EC f n a r S ∧ Fr [4, 6, 7] [8] r S0 S ∧ fI S r 4 = nI (q + i) ∧ fI S r 6 = nI c ∧ fI S r 7 = nI q ∧ fJ S r 8 = vL f (tBs c) (tMk c) q (min i (tLg c)) ∧ ∀ j, j < i → cls f n (q + j) = c
set_option maxHeartbeats 1000000 in
theorem lp118 (hc : c = 1 ∨ c = 2) (hq : q = tSt f n p) (hcc : c = tC f n p) (hqq : q ≤ 1000) {v0 : Nat} {v1 v2 v3 v4 : Int32} (h : P_X4_next_118 Q v0 v1 v2 v3 v4 S) (hi : Inv118 f n a p r q c S0 v0 v1 v2 v3 v4 S) : P_X4_next_118 (fun T => Q T ∧ (Fr [4, 6, 7] [8] r S0 T ∧ TC0 f n p r T)) v0 v1 v2 v3 v4 S := by
  refine h (fun v0 v1 v2 v3 v4 S => Inv118 f n a p r q c S0 v0 v1 v2 v3 v4 S → P_X4_next_118 (fun T => Q T ∧ (Fr [4, 6, 7] [8] r S0 T ∧ TC0 f n p r T)) v0 v1 v2 v3 v4 S) ?_ hi
  intro v0 v1 v2 v3 v4 S h hi
  obtain ⟨i, rfl, rfl, hv2, hv3, hv4, hi9, E, F, h4, h6, h7, h8, hs⟩ := hi
  have hlg : tLg c ≤ 8 := by unfold tLg; split <;> omega
  have e9 : (900 : Int32).toInt = 900 := by decide
  have ei : v4.toInt = (i : Int) := by rw [hv4]; exact nI_i (by omega)
  have hne : c ≠ 0 := by omega
  refine fd_X4_next_118 ?_
  delta B_X4_next_118 at h ⊢
  refine ⟨fun c1 => absurd c1 (by decide), ?_⟩
  intro c37
  have h := h.2 c37
  refine ⟨?_, ?_⟩
  · intro c38
    have := le_i c38
    have h := h.1 c38
    refine b217r h F hc hv2 hq hcc (by omega) (by omega) h4 h6 h7 h8 hs ?_
    rw [cls_end (by have := E.2.2.2.2.1; omega)]
    exact fun z => hne z.symm
  · intro c74
    have := nle_i c74
    have h := h.2 c74
    obtain ⟨o75, h⟩ := h
    refine ⟨o75, ?_⟩
    intro x76 ex76
    have h := h x76 ex76
    refine cm_X4_sortAt (sp_X4_sortAt h E (ex76.trans h4) (by omega)) h (fun x77 S78 hp h g79 => ?_)
    have h := h g79
    obtain ⟨-, hS, hp⟩ := hp
    subst hS
    intro x80 ex80
    have h := h x80 ex80
    refine ⟨?_, ?_⟩
    · intro c81
      have h := h.1 c81
      refine b217r h F hc hv2 hq hcc (by omega) (by omega) h4 h6 h7 h8 hs ?_
      intro z
      refine c81 ?_
      rw [hp, ex80, h6, z]
    · intro c117
      have h := h.2 c117
      have hcl : cls f n (q + i) = c := by
        refine nI_inj (by have := cls_le f n (q + i); omega) (by omega) ?_
        rw [← hp, c117, ex80, h6]
      have hlt : q + i < n := by
        refine Nat.not_le.mp (fun z => ?_)
        rw [cls_end z] at hcl
        exact hne hcl.symm
      have hn9 := E.2.2.2.2.1
      have hs' : ∀ j, j < i + 1 → cls f n (q + j) = c := fun j hj => by
        by_cases hji : j = i
        · rw [hji]; exact hcl
        · exact hs j (by omega)
      have step : ∀ (T U : HS) (x y w : Int32), Fr [4, 6, 7] [8] r S0 T → fI T r 4 = nI (q + i) → fI T r 6 = nI c → fI T r 7 = nI q → fJ T r 8 = vL f (tBs c) (tMk c) q (min (i + 1) (tLg c)) → EC f n a r T → x = fI T r 4 → y = x + 1 → U = sI T r 4 y → w = v4 + 1 → Inv118 f n a p r q c S0 r 1 v2 v3 w U := by
        intro T U x y w F1 k4 k6 k7 k8 E1 ex ey eU ew
        refine ⟨i + 1, rfl, rfl, hv2, hv3, by rw [ew, hv4]; exact nI_1 i, by omega, ec_fr E1 (fr_wI (fr_rf [4] [] r T) eU (by decide)) (by decide), fr_wI F1 eU (by decide), ?_, by rw [wI_ne eU (by decide)]; exact k6, by rw [wI_ne eU (by decide)]; exact k7, by rw [wI_J eU]; exact k8, hs'⟩
        rw [wI_at eU, ey, ex, k4]; exact nI_1 _
      refine ⟨?_, ?_⟩
      · intro c118
        have c119 := le_i c118
        have h := h.1 c118
        have hl : v2.toInt = (tLg c : Int) := by rw [hv2]; exact nI_i (by omega)
        delta P_X4_next_201
        obtain ⟨o119, h⟩ := h
        refine ⟨o119, ?_⟩
        intro x120 ex120
        have h := h x120 ex120
        intro x121 ex121
        have h := h x121 ex121
        intro S122 eS122
        have h := h S122 eS122
        intro x123 ex123
        have h := h x123 ex123
        exact h (step _ _ _ _ _ F h4 h6 h7 (by rw [h8, Nat.min_eq_right (by omega), Nat.min_eq_right (by omega)]) E ex120 ex121 eS122 ex123)
      · intro c124
        have c125 := nle_i c124
        have h := h.2 c124
        have hl : v2.toInt = (tLg c : Int) := by rw [hv2]; exact nI_i (by omega)
        intro x125 ex125
        have h := h x125 ex125
        obtain ⟨a126, ea126, h⟩ := h
        refine ⟨a126, ea126, ?_⟩
        cases E.1.symm.trans ea126
        obtain ⟨o127, h⟩ := h
        refine ⟨o127, ?_⟩
        refine ⟨?_, ?_⟩
        · intro c128
          have c129 := le_i c128
          rw [ex125, h4, E.2.2.2.1, nI_i (by omega), nI_i (by omega)] at c129
          omega
        · intro c134
          have h := h.2 c134
          intro x135 ex135
          have h := h x135 ex135
          obtain ⟨a136, ea136, h⟩ := h
          refine ⟨a136, ea136, ?_⟩
          cases E.1.symm.trans ea136
          intro x137 ex137
          have h := h x137 ex137
          obtain ⟨o138, h⟩ := h
          refine ⟨o138, ?_⟩
          obtain ⟨o139, h⟩ := h
          refine ⟨o139, ?_⟩
          intro x140 ex140
          have h := h x140 ex140
          intro x141 ex141
          have h := h x141 ex141
          have hx : x140 = f (q + i) := by rw [ex140, ex137, h4, nI_cl (by omega)]; exact E.2.1 (q + i) hlt
          have hval : ∀ (m : Int32) (w : Int64), m = tMk c → w = (x135 * v3.toInt64) + ((x140 &&& m).toInt64) → w = vL f (tBs c) (tMk c) q (min (i + 1) (tLg c)) := by
            intro m w hm hw
            rw [Nat.min_eq_left (by omega : i + 1 ≤ tLg c)]
            rw [hw, hm, ex135, h8, hv3, hx, Nat.min_eq_left (by omega : i ≤ tLg c)]
            rfl
          have fin : ∀ (m : Int32) (w : Int64) (T U : HS) (x y z : Int32), m = tMk c → w = (x135 * v3.toInt64) + ((x140 &&& m).toInt64) → T = sJ S r 8 w → x = fI T r 4 → y = x + 1 → U = sI T r 4 y → z = v4 + 1 → Inv118 f n a p r q c S0 r 1 v2 v3 z U := by
            intro m w T U x y z hm hw eT ex ey eU ez
            have k8 : fJ T r 8 = vL f (tBs c) (tMk c) q (min (i + 1) (tLg c)) := by rw [wJ_at eT]; exact hval m w hm hw
            exact step T U x y z (fr_wJ F eT (by decide)) (by rw [wJ_I eT]; exact h4) (by rw [wJ_I eT]; exact h6) (by rw [wJ_I eT]; exact h7) k8 (ec_fr E (fr_wJ (fr_rf [] [8] r S) eT (by decide)) (by decide)) ex ey eU ez
          refine ⟨?_, ?_⟩
          · intro c142
            have h := h.1 c142
            have hm : (15 : Int32) = tMk c := by
              unfold tMk
              rw [if_neg (fun z => c142 (by rw [ex141, h6, z]; rfl))]
            delta P_X4_next_195
            obtain ⟨o143, h⟩ := h
            refine ⟨o143, ?_⟩
            intro x144 ex144
            have h := h x144 ex144
            intro S145 eS145
            have h := h S145 eS145
            delta P_X4_next_201
            obtain ⟨o146, h⟩ := h
            refine ⟨o146, ?_⟩
            intro x147 ex147
            have h := h x147 ex147
            intro x148 ex148
            have h := h x148 ex148
            intro S149 eS149
            have h := h S149 eS149
            intro x150 ex150
            have h := h x150 ex150
            exact h (fin _ _ _ _ _ _ _ hm ex144 eS145 ex147 ex148 eS149 ex150)
          · intro c151
            have h := h.2 c151
            have hm : (31 : Int32) = tMk c := by
              unfold tMk
              rw [if_pos (nI_inj (by omega) (by omega) (by rw [← h6, ← ex141, c151]; rfl))]
            delta P_X4_next_195
            obtain ⟨o152, h⟩ := h
            refine ⟨o152, ?_⟩
            intro x153 ex153
            have h := h x153 ex153
            intro S154 eS154
            have h := h S154 eS154
            delta P_X4_next_201
            obtain ⟨o155, h⟩ := h
            refine ⟨o155, ?_⟩
            intro x156 ex156
            have h := h x156 ex156
            intro x157 ex157
            have h := h x157 ex157
            intro S158 eS158
            have h := h S158 eS158
            intro x159 ex159
            have h := h x159 ex159
            exact h (fin _ _ _ _ _ _ _ hm ex153 eS154 ex156 ex157 eS158 ex159)
end Nexts
