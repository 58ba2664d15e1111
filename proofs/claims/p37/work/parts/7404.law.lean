def P_L_law_2303 (scL : Nat) (scx : Nat → Int32) (Q : Int32 → HS → Prop) (X23 : Nat → Nat → Nat → Int32 → Nat → Nat → HS → Prop) (v1 : Nat) (v2 : Nat) (v3 : Nat) (v4 : Int32) (kk : Nat) (nn : Nat) (S : HS) : Prop := ∀ x1 : Int32, x1 = v4 + (1 : Int32) → (vp_in x1 scL ∧ ∀ x3 : Int32, x3 = scx x1.toNatClampNeg → (ob S v1 9 ∧ (kk ≤ rm_L_law.cells ∧ nn ≤ rm_L_law.slots ∧ (P_X9_size v1 x3 (fun x6 S4 => Gr S S4 → (∀ x7 : Int32, x7 = v4 + (1 : Int32) → (vp_in x7 scL ∧ ∀ x9 : Int32, x9 = scx x7.toNatClampNeg → (ob S4 v2 11 ∧ (kk ≤ rm_L_law.cells ∧ nn ≤ rm_L_law.slots ∧ (P_X11_size v2 x9 (fun x12 S10 => Gr S4 S10 → (P_L_law_2341 scL scx Q X23 v1 v2 v3 v4 kk nn S10)) S4)))))) S))))
set_option maxRecDepth 20000 in
set_option maxHeartbeats 4000000 in
theorem T_L_law_2303 {X : CX} {Q : Int32 → HS → Prop} {scb scL : Nat} {scx : Nat → Int32} (C : Cx X cL_law RL 7 rm_L_law) (E : LE X scb scL scx Q) (ht : LD X) (hn : True) {X23 : Nat → Nat → Nat → Int32 → Nat → Nat → HS → Prop} (hX23 : ∀ (v1 : Nat) (v2 : Nat) (v3 : Nat) (v4 : Int32) (kk : Nat) (nn : Nat) (S : HS), X23 v1 v2 v3 v4 kk nn S → WS X 7 kk nn 23 [(0, .ref scb), (1, .ref v1), (2, .ref v2), (3, .ref v3), (4, .int v4)] [] S) {v1 : Nat} {v2 : Nat} {v3 : Nat} {v4 : Int32} {kk : Nat} {nn : Nat} {S : HS} (h : P_L_law_2303 scL scx Q X23 v1 v2 v3 v4 kk nn S) : WS X 7 kk nn 2303 [(0, .ref scb), (1, .ref v1), (2, .ref v2), (3, .ref v3), (4, .int v4)] [] S := by
  refine r_aload_n (pc := 2303) C dL_law_2303 1 rfl ?_
  refine r_aload_n (pc := 2304) C dL_law_2304 0 rfl ?_
  refine r_iload (pc := 2305) C dL_law_2305 4 rfl ?_
  refine r_iconst (pc := 2307) C (v := (1 : Int32)) dL_law_2307 (by decide) ?_
  refine r_iadd (pc := 2308) C dL_law_2308 ?_
  refine r_topi (fun x1 ex1 => ?_)
  have h := h x1 ex1
  obtain ⟨i2, h⟩ := h
  refine r_scLd (pc := 2309) C E i2 dL_law_2309 ?_
  refine r_topi (fun x3 ex3 => ?_)
  have h := h x3 ex3
  obtain ⟨o_v1, h⟩ := h
  obtain ⟨hk, hk2, h⟩ := h
  refine r_callVi0 (pc := 2310) C (rest := []) (a := v1) o_v1 [.int x3] yV_X9_size g_1076 (c_X9_size h) dL_law_2310 rfl rfl (Nat.le_of_ble_eq_true rfl) ⟨by decide, by decide⟩ ⟨hk, hk2⟩ ⟨rfl, rfl⟩ (fun x6 S4 h g5 => ?_)
  have h := h g5
  have o_v1 := gr_ob g5 o_v1
  refine r_pop (pc := 2313) C dL_law_2313 rfl ?_
  refine r_aload_n (pc := 2314) C dL_law_2314 2 rfl ?_
  refine r_aload_n (pc := 2315) C dL_law_2315 0 rfl ?_
  refine r_iload (pc := 2316) C dL_law_2316 4 rfl ?_
  refine r_iconst (pc := 2318) C (v := (1 : Int32)) dL_law_2318 (by decide) ?_
  refine r_iadd (pc := 2319) C dL_law_2319 ?_
  refine r_topi (fun x7 ex7 => ?_)
  have h := h x7 ex7
  obtain ⟨i8, h⟩ := h
  refine r_scLd (pc := 2320) C E i8 dL_law_2320 ?_
  refine r_topi (fun x9 ex9 => ?_)
  have h := h x9 ex9
  obtain ⟨o_v2, h⟩ := h
  obtain ⟨hk, hk2, h⟩ := h
  refine r_callVi0 (pc := 2321) C (rest := []) (a := v2) o_v2 [.int x9] yV_X11_size g_1848 (c_X11_size h) dL_law_2321 rfl rfl (Nat.le_of_ble_eq_true rfl) ⟨by decide, by decide⟩ ⟨hk, hk2⟩ ⟨rfl, rfl⟩ (fun x12 S10 h g11 => ?_)
  have h := h g11
  have o_v1 := gr_ob g11 o_v1
  have o_v2 := gr_ob g11 o_v2
  refine r_pop (pc := 2324) C dL_law_2324 rfl ?_
  refine r_goto (pc := 2325) C (tgt := 2341) dL_law_2325 (by decide) ?_
  exact r_sub [0, 1, 2, 3, 4] rfl (T_L_law_2341 C E ht hn hX23 h)
def P_L_law_2328 (scL : Nat) (scx : Nat → Int32) (Q : Int32 → HS → Prop) (X23 : Nat → Nat → Nat → Int32 → Nat → Nat → HS → Prop) (v1 : Nat) (v2 : Nat) (v3 : Nat) (v4 : Int32) (kk : Nat) (nn : Nat) (S : HS) : Prop := ob S v1 9 ∧ (kk ≤ rm_L_law.cells ∧ nn ≤ rm_L_law.slots ∧ (P_X9_trouble v1 (fun x3 S1 => Gr S S1 → (ob S1 v2 11 ∧ (kk ≤ rm_L_law.cells ∧ nn ≤ rm_L_law.slots ∧ (P_X11_trouble v2 (fun x6 S4 => Gr S1 S4 → (P_L_law_2341 scL scx Q X23 v1 v2 v3 v4 kk nn S4)) S1)))) S))
set_option maxRecDepth 20000 in
set_option maxHeartbeats 4000000 in
theorem T_L_law_2328 {X : CX} {Q : Int32 → HS → Prop} {scb scL : Nat} {scx : Nat → Int32} (C : Cx X cL_law RL 7 rm_L_law) (E : LE X scb scL scx Q) (ht : LD X) (hn : True) {X23 : Nat → Nat → Nat → Int32 → Nat → Nat → HS → Prop} (hX23 : ∀ (v1 : Nat) (v2 : Nat) (v3 : Nat) (v4 : Int32) (kk : Nat) (nn : Nat) (S : HS), X23 v1 v2 v3 v4 kk nn S → WS X 7 kk nn 23 [(0, .ref scb), (1, .ref v1), (2, .ref v2), (3, .ref v3), (4, .int v4)] [] S) {v1 : Nat} {v2 : Nat} {v3 : Nat} {v4 : Int32} {kk : Nat} {nn : Nat} {S : HS} (h : P_L_law_2328 scL scx Q X23 v1 v2 v3 v4 kk nn S) : WS X 7 kk nn 2328 [(0, .ref scb), (1, .ref v1), (2, .ref v2), (3, .ref v3), (4, .int v4)] [] S := by
  refine r_aload_n (pc := 2328) C dL_law_2328 1 rfl ?_
  obtain ⟨o_v1, h⟩ := h
  obtain ⟨hk, hk2, h⟩ := h
  refine r_callVi0 (pc := 2329) C (rest := []) (a := v1) o_v1 [] yV_X9_trouble g_1080 (c_X9_trouble h) dL_law_2329 rfl rfl (Nat.le_of_ble_eq_true rfl) ⟨by decide, by decide⟩ ⟨hk, hk2⟩ ⟨rfl, rfl⟩ (fun x3 S1 h g2 => ?_)
  have h := h g2
  have o_v1 := gr_ob g2 o_v1
  refine r_pop (pc := 2332) C dL_law_2332 rfl ?_
  refine r_aload_n (pc := 2333) C dL_law_2333 2 rfl ?_
  obtain ⟨o_v2, h⟩ := h
  obtain ⟨hk, hk2, h⟩ := h
  refine r_callVi0 (pc := 2334) C (rest := []) (a := v2) o_v2 [] yV_X11_trouble g_1852 (c_X11_trouble h) dL_law_2334 rfl rfl (Nat.le_of_ble_eq_true rfl) ⟨by decide, by decide⟩ ⟨hk, hk2⟩ ⟨rfl, rfl⟩ (fun x6 S4 h g5 => ?_)
  have h := h g5
  have o_v1 := gr_ob g5 o_v1
  have o_v2 := gr_ob g5 o_v2
  refine r_pop (pc := 2337) C dL_law_2337 rfl ?_
  refine r_goto (pc := 2338) C (tgt := 2341) dL_law_2338 (by decide) ?_
  exact r_sub [0, 1, 2, 3, 4] rfl (T_L_law_2341 C E ht hn hX23 h)
def B_L_law_23 (scL : Nat) (scx : Nat → Int32) (Q : Int32 → HS → Prop) (X23 : Nat → Nat → Nat → Int32 → Nat → Nat → HS → Prop) (v1 : Nat) (v2 : Nat) (v3 : Nat) (v4 : Int32) (kk : Nat) (nn : Nat) (S : HS) : Prop := ((((nI scL) - (8 : Int32)) < v4) → (kk ≤ rm_L_law.cells ∧ nn ≤ rm_L_law.slots ∧ (1 : Int32) = 1 ∧ Q (1 : Int32) S)) ∧ ((¬ ((nI scL) - (8 : Int32)) < v4) → (vp_in v4 scL ∧ ∀ x3 : Int32, x3 = scx v4.toNatClampNeg → (((x3 &&& (63 : Int32)).toInt < 0 ∨ 39 < (x3 &&& (63 : Int32)).toInt → (P_L_law_2341 scL scx Q X23 v1 v2 v3 v4 kk nn S)) ∧ ((x3 &&& (63 : Int32)).toInt = 0 → (P_L_law_216 scL scx Q X23 v1 v2 v3 v4 kk nn S)) ∧ ((x3 &&& (63 : Int32)).toInt = 1 → (P_L_law_289 scL scx Q X23 v1 v2 v3 v4 kk nn S)) ∧ ((x3 &&& (63 : Int32)).toInt = 2 → (P_L_law_314 scL scx Q X23 v1 v2 v3 v4 kk nn S)) ∧ ((x3 &&& (63 : Int32)).toInt = 3 → (P_L_law_327 scL scx Q X23 v1 v2 v3 v4 kk nn S)) ∧ ((x3 &&& (63 : Int32)).toInt = 4 → (P_L_law_340 scL scx Q X23 v1 v2 v3 v4 kk nn S)) ∧ ((x3 &&& (63 : Int32)).toInt = 5 → (P_L_law_457 scL scx Q X23 v1 v2 v3 v4 kk nn S)) ∧ ((x3 &&& (63 : Int32)).toInt = 6 → (P_L_law_560 scL scx Q X23 v1 v2 v3 v4 kk nn S)) ∧ ((x3 &&& (63 : Int32)).toInt = 7 → (P_L_law_663 scL scx Q X23 v1 v2 v3 v4 kk nn S)) ∧ ((x3 &&& (63 : Int32)).toInt = 8 → (P_L_law_712 scL scx Q X23 v1 v2 v3 v4 kk nn S)) ∧ ((x3 &&& (63 : Int32)).toInt = 9 → (P_L_law_761 scL scx Q X23 v1 v2 v3 v4 kk nn S)) ∧ ((x3 &&& (63 : Int32)).toInt = 10 → (P_L_law_834 scL scx Q X23 v1 v2 v3 v4 kk nn S)) ∧ ((x3 &&& (63 : Int32)).toInt = 11 → (P_L_law_895 scL scx Q X23 v1 v2 v3 v4 kk nn S)) ∧ ((x3 &&& (63 : Int32)).toInt = 12 → (P_L_law_984 scL scx Q X23 v1 v2 v3 v4 kk nn S)) ∧ ((x3 &&& (63 : Int32)).toInt = 13 → (P_L_law_1045 scL scx Q X23 v1 v2 v3 v4 kk nn S)) ∧ ((x3 &&& (63 : Int32)).toInt = 14 → (P_L_law_1106 scL scx Q X23 v1 v2 v3 v4 kk nn S)) ∧ ((x3 &&& (63 : Int32)).toInt = 15 → (P_L_law_1183 scL scx Q X23 v1 v2 v3 v4 kk nn S)) ∧ ((x3 &&& (63 : Int32)).toInt = 16 → (P_L_law_1232 scL scx Q X23 v1 v2 v3 v4 kk nn S)) ∧ ((x3 &&& (63 : Int32)).toInt = 17 → (P_L_law_1349 scL scx Q X23 v1 v2 v3 v4 kk nn S)) ∧ ((x3 &&& (63 : Int32)).toInt = 18 → (P_L_law_1436 scL scx Q X23 v1 v2 v3 v4 kk nn S)) ∧ ((x3 &&& (63 : Int32)).toInt = 19 → (P_L_law_1539 scL scx Q X23 v1 v2 v3 v4 kk nn S)) ∧ ((x3 &&& (63 : Int32)).toInt = 20 → (P_L_law_1612 scL scx Q X23 v1 v2 v3 v4 kk nn S)) ∧ ((x3 &&& (63 : Int32)).toInt = 21 → (P_L_law_1685 scL scx Q X23 v1 v2 v3 v4 kk nn S)) ∧ ((x3 &&& (63 : Int32)).toInt = 22 → (P_L_law_1772 scL scx Q X23 v1 v2 v3 v4 kk nn S)) ∧ ((x3 &&& (63 : Int32)).toInt = 23 → (P_L_law_1833 scL scx Q X23 v1 v2 v3 v4 kk nn S)) ∧ ((x3 &&& (63 : Int32)).toInt = 24 → (P_L_law_1858 scL scx Q X23 v1 v2 v3 v4 kk nn S)) ∧ ((x3 &&& (63 : Int32)).toInt = 25 → (P_L_law_1895 scL scx Q X23 v1 v2 v3 v4 kk nn S)) ∧ ((x3 &&& (63 : Int32)).toInt = 26 → (P_L_law_1908 scL scx Q X23 v1 v2 v3 v4 kk nn S)) ∧ ((x3 &&& (63 : Int32)).toInt = 27 → (P_L_law_1969 scL scx Q X23 v1 v2 v3 v4 kk nn S)) ∧ ((x3 &&& (63 : Int32)).toInt = 28 → (P_L_law_2018 scL scx Q X23 v1 v2 v3 v4 kk nn S)) ∧ ((x3 &&& (63 : Int32)).toInt = 29 → (P_L_law_2043 scL scx Q X23 v1 v2 v3 v4 kk nn S)) ∧ ((x3 &&& (63 : Int32)).toInt = 30 → (P_L_law_2096 scL scx Q X23 v1 v2 v3 v4 kk nn S)) ∧ ((x3 &&& (63 : Int32)).toInt = 31 → (P_L_law_2137 scL scx Q X23 v1 v2 v3 v4 kk nn S)) ∧ ((x3 &&& (63 : Int32)).toInt = 32 → (P_L_law_2150 scL scx Q X23 v1 v2 v3 v4 kk nn S)) ∧ ((x3 &&& (63 : Int32)).toInt = 33 → (P_L_law_2163 scL scx Q X23 v1 v2 v3 v4 kk nn S)) ∧ ((x3 &&& (63 : Int32)).toInt = 34 → (P_L_law_2176 scL scx Q X23 v1 v2 v3 v4 kk nn S)) ∧ ((x3 &&& (63 : Int32)).toInt = 35 → (P_L_law_2201 scL scx Q X23 v1 v2 v3 v4 kk nn S)) ∧ ((x3 &&& (63 : Int32)).toInt = 36 → (P_L_law_2238 scL scx Q X23 v1 v2 v3 v4 kk nn S)) ∧ ((x3 &&& (63 : Int32)).toInt = 37 → (P_L_law_2275 scL scx Q X23 v1 v2 v3 v4 kk nn S)) ∧ ((x3 &&& (63 : Int32)).toInt = 38 → (P_L_law_2303 scL scx Q X23 v1 v2 v3 v4 kk nn S)) ∧ ((x3 &&& (63 : Int32)).toInt = 39 → (P_L_law_2328 scL scx Q X23 v1 v2 v3 v4 kk nn S)))))
def P_L_law_23 (scL : Nat) (scx : Nat → Int32) (Q : Int32 → HS → Prop) (v1 : Nat) (v2 : Nat) (v3 : Nat) (v4 : Int32) (kk : Nat) (nn : Nat) (S : HS) : Prop := ∀ X23 : Nat → Nat → Nat → Int32 → Nat → Nat → HS → Prop, (∀ (v1 : Nat) (v2 : Nat) (v3 : Nat) (v4 : Int32) (kk : Nat) (nn : Nat) (S : HS), B_L_law_23 scL scx Q X23 v1 v2 v3 v4 kk nn S → X23 v1 v2 v3 v4 kk nn S) → X23 v1 v2 v3 v4 kk nn S
set_option maxRecDepth 20000 in
set_option maxHeartbeats 4000000 in
theorem TB_L_law_23 {X : CX} {Q : Int32 → HS → Prop} {scb scL : Nat} {scx : Nat → Int32} (C : Cx X cL_law RL 7 rm_L_law) (E : LE X scb scL scx Q) (ht : LD X) (hn : True) {X23 : Nat → Nat → Nat → Int32 → Nat → Nat → HS → Prop} (hX23 : ∀ (v1 : Nat) (v2 : Nat) (v3 : Nat) (v4 : Int32) (kk : Nat) (nn : Nat) (S : HS), X23 v1 v2 v3 v4 kk nn S → WS X 7 kk nn 23 [(0, .ref scb), (1, .ref v1), (2, .ref v2), (3, .ref v3), (4, .int v4)] [] S) {v1 : Nat} {v2 : Nat} {v3 : Nat} {v4 : Int32} {kk : Nat} {nn : Nat} {S : HS} (h : B_L_law_23 scL scx Q X23 v1 v2 v3 v4 kk nn S) : WS X 7 kk nn 23 [(0, .ref scb), (1, .ref v1), (2, .ref v2), (3, .ref v3), (4, .int v4)] [] S := by
  refine r_iload (pc := 23) C dL_law_23 4 rfl ?_
  refine r_aload_n (pc := 25) C dL_law_25 0 rfl ?_
  refine r_scLen (pc := 26) C E dL_law_26 ?_
  refine r_bipush (pc := 27) C (v := (8 : Int32)) dL_law_27 (by decide) ?_
  refine r_isub (pc := 29) C dL_law_29 ?_
  refine r_icmp_gt (pc := 30) C (tgt := 2347) dL_law_30 (by decide) (fun c1 => ?_) (fun c1 => ?_)
  · have h := h.1 c1
    refine r_iconst (pc := 2347) C (v := (1 : Int32)) dL_law_2347 (by decide) ?_
    obtain ⟨hk, hk2, he, h⟩ := h
    exact r_lawret (pc := 2348) C E dL_law_2348 hk hk2 he
  · have h := h.2 c1
    refine r_aload_n (pc := 33) C dL_law_33 0 rfl ?_
    refine r_iload (pc := 34) C dL_law_34 4 rfl ?_
    obtain ⟨i2, h⟩ := h
    refine r_scLd (pc := 36) C E i2 dL_law_36 ?_
    refine r_topi (fun x3 ex3 => ?_)
    have h := h x3 ex3
    refine r_bipush (pc := 37) C (v := (63 : Int32)) dL_law_37 (by decide) ?_
    refine r_iand (pc := 39) C dL_law_39 ?_
    refine r_table (pc := 40) C (tgt := 2341) dL_law_40 (by decide) (fun c4 => ?_) (fun j hj hx => ?_)
    · have h := h.1 c4
      exact r_sub [0, 1, 2, 3, 4] rfl (T_L_law_2341 C E ht hn hX23 h)
    · match j, hj, hx with
      | 0, _, hx =>
        refine ⟨176, 216, rfl, by decide, ?_⟩
        have h := h.2.1 (by simpa using hx)
        exact r_sub [0, 1, 2, 3, 4] rfl (T_L_law_216 C E ht hn hX23 h)
      | 1, _, hx =>
        refine ⟨249, 289, rfl, by decide, ?_⟩
        have h := h.2.2.1 (by simpa using hx)
        exact r_sub [0, 1, 2, 3, 4] rfl (T_L_law_289 C E ht hn hX23 h)
      | 2, _, hx =>
        refine ⟨274, 314, rfl, by decide, ?_⟩
        have h := h.2.2.2.1 (by simpa using hx)
        exact r_sub [0, 1, 2, 3, 4] rfl (T_L_law_314 C E ht hn hX23 h)
      | 3, _, hx =>
        refine ⟨287, 327, rfl, by decide, ?_⟩
        have h := h.2.2.2.2.1 (by simpa using hx)
        exact r_sub [0, 1, 2, 3, 4] rfl (T_L_law_327 C E ht hn hX23 h)
      | 4, _, hx =>
        refine ⟨300, 340, rfl, by decide, ?_⟩
        have h := h.2.2.2.2.2.1 (by simpa using hx)
        exact r_sub [0, 1, 2, 3, 4] rfl (T_L_law_340 C E ht hn hX23 h)
      | 5, _, hx =>
        refine ⟨417, 457, rfl, by decide, ?_⟩
        have h := h.2.2.2.2.2.2.1 (by simpa using hx)
        exact r_sub [0, 1, 2, 3, 4] rfl (T_L_law_457 C E ht hn hX23 h)
      | 6, _, hx =>
        refine ⟨520, 560, rfl, by decide, ?_⟩
        have h := h.2.2.2.2.2.2.2.1 (by simpa using hx)
        exact r_sub [0, 1, 2, 3, 4] rfl (T_L_law_560 C E ht hn hX23 h)
      | 7, _, hx =>
        refine ⟨623, 663, rfl, by decide, ?_⟩
        have h := h.2.2.2.2.2.2.2.2.1 (by simpa using hx)
        exact r_sub [0, 1, 2, 3, 4] rfl (T_L_law_663 C E ht hn hX23 h)
      | 8, _, hx =>
        refine ⟨672, 712, rfl, by decide, ?_⟩
        have h := h.2.2.2.2.2.2.2.2.2.1 (by simpa using hx)
        exact r_sub [0, 1, 2, 3, 4] rfl (T_L_law_712 C E ht hn hX23 h)
      | 9, _, hx =>
        refine ⟨721, 761, rfl, by decide, ?_⟩
        have h := h.2.2.2.2.2.2.2.2.2.2.1 (by simpa using hx)
        exact r_sub [0, 1, 2, 3, 4] rfl (T_L_law_761 C E ht hn hX23 h)
      | 10, _, hx =>
        refine ⟨794, 834, rfl, by decide, ?_⟩
        have h := h.2.2.2.2.2.2.2.2.2.2.2.1 (by simpa using hx)
        exact r_sub [0, 1, 2, 3, 4] rfl (T_L_law_834 C E ht hn hX23 h)
      | 11, _, hx =>
        refine ⟨855, 895, rfl, by decide, ?_⟩
        have h := h.2.2.2.2.2.2.2.2.2.2.2.2.1 (by simpa using hx)
        exact r_sub [0, 1, 2, 3, 4] rfl (T_L_law_895 C E ht hn hX23 h)
      | 12, _, hx =>
        refine ⟨944, 984, rfl, by decide, ?_⟩
        have h := h.2.2.2.2.2.2.2.2.2.2.2.2.2.1 (by simpa using hx)
        exact r_sub [0, 1, 2, 3, 4] rfl (T_L_law_984 C E ht hn hX23 h)
      | 13, _, hx =>
        refine ⟨1005, 1045, rfl, by decide, ?_⟩
        have h := h.2.2.2.2.2.2.2.2.2.2.2.2.2.2.1 (by simpa using hx)
        exact r_sub [0, 1, 2, 3, 4] rfl (T_L_law_1045 C E ht hn hX23 h)
      | 14, _, hx =>
        refine ⟨1066, 1106, rfl, by decide, ?_⟩
        have h := h.2.2.2.2.2.2.2.2.2.2.2.2.2.2.2.1 (by simpa using hx)
        exact r_sub [0, 1, 2, 3, 4] rfl (T_L_law_1106 C E ht hn hX23 h)
      | 15, _, hx =>
        refine ⟨1143, 1183, rfl, by decide, ?_⟩
        have h := h.2.2.2.2.2.2.2.2.2.2.2.2.2.2.2.2.1 (by simpa using hx)
        exact r_sub [0, 1, 2, 3, 4] rfl (T_L_law_1183 C E ht hn hX23 h)
      | 16, _, hx =>
        refine ⟨1192, 1232, rfl, by decide, ?_⟩
        have h := h.2.2.2.2.2.2.2.2.2.2.2.2.2.2.2.2.2.1 (by simpa using hx)
        exact r_sub [0, 1, 2, 3, 4] rfl (T_L_law_1232 C E ht hn hX23 h)
      | 17, _, hx =>
        refine ⟨1309, 1349, rfl, by decide, ?_⟩
        have h := h.2.2.2.2.2.2.2.2.2.2.2.2.2.2.2.2.2.2.1 (by simpa using hx)
        exact r_sub [0, 1, 2, 3, 4] rfl (T_L_law_1349 C E ht hn hX23 h)
      | 18, _, hx =>
        refine ⟨1396, 1436, rfl, by decide, ?_⟩
        have h := h.2.2.2.2.2.2.2.2.2.2.2.2.2.2.2.2.2.2.2.1 (by simpa using hx)
        exact r_sub [0, 1, 2, 3, 4] rfl (T_L_law_1436 C E ht hn hX23 h)
      | 19, _, hx =>
        refine ⟨1499, 1539, rfl, by decide, ?_⟩
        have h := h.2.2.2.2.2.2.2.2.2.2.2.2.2.2.2.2.2.2.2.2.1 (by simpa using hx)
        exact r_sub [0, 1, 2, 3, 4] rfl (T_L_law_1539 C E ht hn hX23 h)
      | 20, _, hx =>
        refine ⟨1572, 1612, rfl, by decide, ?_⟩
        have h := h.2.2.2.2.2.2.2.2.2.2.2.2.2.2.2.2.2.2.2.2.2.1 (by simpa using hx)
        exact r_sub [0, 1, 2, 3, 4] rfl (T_L_law_1612 C E ht hn hX23 h)
      | 21, _, hx =>
        refine ⟨1645, 1685, rfl, by decide, ?_⟩
        have h := h.2.2.2.2.2.2.2.2.2.2.2.2.2.2.2.2.2.2.2.2.2.2.1 (by simpa using hx)
        exact r_sub [0, 1, 2, 3, 4] rfl (T_L_law_1685 C E ht hn hX23 h)
      | 22, _, hx =>
        refine ⟨1732, 1772, rfl, by decide, ?_⟩
        have h := h.2.2.2.2.2.2.2.2.2.2.2.2.2.2.2.2.2.2.2.2.2.2.2.1 (by simpa using hx)
        exact r_sub [0, 1, 2, 3, 4] rfl (T_L_law_1772 C E ht hn hX23 h)
      | 23, _, hx =>
        refine ⟨1793, 1833, rfl, by decide, ?_⟩
        have h := h.2.2.2.2.2.2.2.2.2.2.2.2.2.2.2.2.2.2.2.2.2.2.2.2.1 (by simpa using hx)
        exact r_sub [0, 1, 2, 3, 4] rfl (T_L_law_1833 C E ht hn hX23 h)
      | 24, _, hx =>
        refine ⟨1818, 1858, rfl, by decide, ?_⟩
        have h := h.2.2.2.2.2.2.2.2.2.2.2.2.2.2.2.2.2.2.2.2.2.2.2.2.2.1 (by simpa using hx)
        exact r_sub [0, 1, 2, 3, 4] rfl (T_L_law_1858 C E ht hn hX23 h)
      | 25, _, hx =>
        refine ⟨1855, 1895, rfl, by decide, ?_⟩
        have h := h.2.2.2.2.2.2.2.2.2.2.2.2.2.2.2.2.2.2.2.2.2.2.2.2.2.2.1 (by simpa using hx)
        exact r_sub [0, 1, 2, 3, 4] rfl (T_L_law_1895 C E ht hn hX23 h)
      | 26, _, hx =>
        refine ⟨1868, 1908, rfl, by decide, ?_⟩
        have h := h.2.2.2.2.2.2.2.2.2.2.2.2.2.2.2.2.2.2.2.2.2.2.2.2.2.2.2.1 (by simpa using hx)
        exact r_sub [0, 1, 2, 3, 4] rfl (T_L_law_1908 C E ht hn hX23 h)
      | 27, _, hx =>
        refine ⟨1929, 1969, rfl, by decide, ?_⟩
        have h := h.2.2.2.2.2.2.2.2.2.2.2.2.2.2.2.2.2.2.2.2.2.2.2.2.2.2.2.2.1 (by simpa using hx)
        exact r_sub [0, 1, 2, 3, 4] rfl (T_L_law_1969 C E ht hn hX23 h)
      | 28, _, hx =>
        refine ⟨1978, 2018, rfl, by decide, ?_⟩
        have h := h.2.2.2.2.2.2.2.2.2.2.2.2.2.2.2.2.2.2.2.2.2.2.2.2.2.2.2.2.2.1 (by simpa using hx)
        exact r_sub [0, 1, 2, 3, 4] rfl (T_L_law_2018 C E ht hn hX23 h)
      | 29, _, hx =>
        refine ⟨2003, 2043, rfl, by decide, ?_⟩
        have h := h.2.2.2.2.2.2.2.2.2.2.2.2.2.2.2.2.2.2.2.2.2.2.2.2.2.2.2.2.2.2.1 (by simpa using hx)
        exact r_sub [0, 1, 2, 3, 4] rfl (T_L_law_2043 C E ht hn hX23 h)
      | 30, _, hx =>
        refine ⟨2056, 2096, rfl, by decide, ?_⟩
        have h := h.2.2.2.2.2.2.2.2.2.2.2.2.2.2.2.2.2.2.2.2.2.2.2.2.2.2.2.2.2.2.2.1 (by simpa using hx)
        exact r_sub [0, 1, 2, 3, 4] rfl (T_L_law_2096 C E ht hn hX23 h)
      | 31, _, hx =>
        refine ⟨2097, 2137, rfl, by decide, ?_⟩
        have h := h.2.2.2.2.2.2.2.2.2.2.2.2.2.2.2.2.2.2.2.2.2.2.2.2.2.2.2.2.2.2.2.2.1 (by simpa using hx)
        exact r_sub [0, 1, 2, 3, 4] rfl (T_L_law_2137 C E ht hn hX23 h)
      | 32, _, hx =>
        refine ⟨2110, 2150, rfl, by decide, ?_⟩
        have h := h.2.2.2.2.2.2.2.2.2.2.2.2.2.2.2.2.2.2.2.2.2.2.2.2.2.2.2.2.2.2.2.2.2.1 (by simpa using hx)
        exact r_sub [0, 1, 2, 3, 4] rfl (T_L_law_2150 C E ht hn hX23 h)
      | 33, _, hx =>
        refine ⟨2123, 2163, rfl, by decide, ?_⟩
        have h := h.2.2.2.2.2.2.2.2.2.2.2.2.2.2.2.2.2.2.2.2.2.2.2.2.2.2.2.2.2.2.2.2.2.2.1 (by simpa using hx)
        exact r_sub [0, 1, 2, 3, 4] rfl (T_L_law_2163 C E ht hn hX23 h)
      | 34, _, hx =>
        refine ⟨2136, 2176, rfl, by decide, ?_⟩
        have h := h.2.2.2.2.2.2.2.2.2.2.2.2.2.2.2.2.2.2.2.2.2.2.2.2.2.2.2.2.2.2.2.2.2.2.2.1 (by simpa using hx)
        exact r_sub [0, 1, 2, 3, 4] rfl (T_L_law_2176 C E ht hn hX23 h)
      | 35, _, hx =>
        refine ⟨2161, 2201, rfl, by decide, ?_⟩
        have h := h.2.2.2.2.2.2.2.2.2.2.2.2.2.2.2.2.2.2.2.2.2.2.2.2.2.2.2.2.2.2.2.2.2.2.2.2.1 (by simpa using hx)
        exact r_sub [0, 1, 2, 3, 4] rfl (T_L_law_2201 C E ht hn hX23 h)
      | 36, _, hx =>
        refine ⟨2198, 2238, rfl, by decide, ?_⟩
        have h := h.2.2.2.2.2.2.2.2.2.2.2.2.2.2.2.2.2.2.2.2.2.2.2.2.2.2.2.2.2.2.2.2.2.2.2.2.2.1 (by simpa using hx)
        exact r_sub [0, 1, 2, 3, 4] rfl (T_L_law_2238 C E ht hn hX23 h)
      | 37, _, hx =>
        refine ⟨2235, 2275, rfl, by decide, ?_⟩
        have h := h.2.2.2.2.2.2.2.2.2.2.2.2.2.2.2.2.2.2.2.2.2.2.2.2.2.2.2.2.2.2.2.2.2.2.2.2.2.2.1 (by simpa using hx)
        exact r_sub [0, 1, 2, 3, 4] rfl (T_L_law_2275 C E ht hn hX23 h)
      | 38, _, hx =>
        refine ⟨2263, 2303, rfl, by decide, ?_⟩
        have h := h.2.2.2.2.2.2.2.2.2.2.2.2.2.2.2.2.2.2.2.2.2.2.2.2.2.2.2.2.2.2.2.2.2.2.2.2.2.2.2.1 (by simpa using hx)
        exact r_sub [0, 1, 2, 3, 4] rfl (T_L_law_2303 C E ht hn hX23 h)
      | 39, _, hx =>
        refine ⟨2288, 2328, rfl, by decide, ?_⟩
        have h := h.2.2.2.2.2.2.2.2.2.2.2.2.2.2.2.2.2.2.2.2.2.2.2.2.2.2.2.2.2.2.2.2.2.2.2.2.2.2.2.2 (by simpa using hx)
        exact r_sub [0, 1, 2, 3, 4] rfl (T_L_law_2328 C E ht hn hX23 h)
      | j + 40, hj, _ => exact absurd hj (by omega)
theorem T_L_law_23 {X : CX} {Q : Int32 → HS → Prop} {scb scL : Nat} {scx : Nat → Int32} (C : Cx X cL_law RL 7 rm_L_law) (E : LE X scb scL scx Q) (ht : LD X) (hn : True) {v1 : Nat} {v2 : Nat} {v3 : Nat} {v4 : Int32} {kk : Nat} {nn : Nat} {S : HS} (h : P_L_law_23 scL scx Q v1 v2 v3 v4 kk nn S) : WS X 7 kk nn 23 [(0, .ref scb), (1, .ref v1), (2, .ref v2), (3, .ref v3), (4, .int v4)] [] S :=
  h (fun v1 v2 v3 v4 kk nn S => WS X 7 kk nn 23 [(0, .ref scb), (1, .ref v1), (2, .ref v2), (3, .ref v3), (4, .int v4)] [] S) (fun v1 v2 v3 v4 kk nn S hh => TB_L_law_23 C E ht hn (fun v1 v2 v3 v4 kk nn S z => z) hh)
def P_L_law_0 (scL : Nat) (scx : Nat → Int32) (Q : Int32 → HS → Prop) (kk : Nat) (nn : Nat) (S : HS) : Prop := kk + 1 ≤ rm_L_law.cells ∧ nn + 10 ≤ rm_L_law.slots ∧ ∀ a1 : Nat, a1 ∉ hL S → ∀ S2 : HS, S2 = nW S a1 9 0 → (kk + 1 + 118 ≤ rm_L_law.cells ∧ nn + 10 + 1517 ≤ rm_L_law.slots ∧ (P_X9_init a1 (fun S3 => Gr S2 S3 → (kk + 1 + 118 + 1 ≤ rm_L_law.cells ∧ nn + 10 + 1517 + 26 ≤ rm_L_law.slots ∧ ∀ a6 : Nat, a6 ∉ hL S3 → ∀ S7 : HS, S7 = nW S3 a6 11 0 → (kk + 1 + 118 + 1 + 7 ≤ rm_L_law.cells ∧ nn + 10 + 1517 + 26 + 10664 ≤ rm_L_law.slots ∧ (P_X11_init a6 (fun S8 => Gr S7 S8 → (kk + 1 + 118 + 1 + 7 + 1 ≤ rm_L_law.cells ∧ nn + 10 + 1517 + 26 + 10664 + 1 ≤ rm_L_law.slots ∧ ∀ a11 : Nat, a11 ∉ hL S8 → ∀ S12 : HS, S12 = nW S8 a11 14 1 → (P_L_law_23 scL scx Q a1 a6 a11 (0 : Int32) (kk + 1 + 118 + 1 + 7 + 1) (nn + 10 + 1517 + 26 + 10664 + 1) S12))) S7)))) S2))
set_option maxRecDepth 20000 in
set_option maxHeartbeats 4000000 in
theorem T_L_law_0 {X : CX} {Q : Int32 → HS → Prop} {scb scL : Nat} {scx : Nat → Int32} (C : Cx X cL_law RL 7 rm_L_law) (E : LE X scb scL scx Q) (ht : LD X) (hn : True) {kk : Nat} {nn : Nat} {S : HS} (h : P_L_law_0 scL scx Q kk nn S) : WS X 7 kk nn 0 [(0, .ref scb)] [] S := by
  obtain ⟨hk, hk2, h⟩ := h
  refine r_new (pc := 0) C nc_L_8 dL_law_0 hk hk2 (fun a1 q17 => ?_)
  refine r_heap (fun S2 eS2 => ?_)
  have h := h a1 q17 S2 eS2
  have g18 := gr_of_new eS2 q17
  have o_a1 := ob_of_new eS2
  refine r_dup (pc := 3) C dL_law_3 rfl ?_
  obtain ⟨hk, hk2, h⟩ := h
  refine r_callIv (pc := 4) C (rest := [.ref a1]) (a := a1) [] yI_X9_init g_24 (c_X9_init h) dL_law_4 rfl rfl (Nat.le_of_ble_eq_true rfl) ⟨by decide, by decide⟩ ⟨hk, hk2⟩ (fun S3 h g4 => ?_)
  have h := h g4
  have o_a1 := gr_ob g4 o_a1
  refine r_astore_n (pc := 7) C dL_law_7 rfl (by decide) (lv' := [(1, .ref a1), (0, .ref scb)]) rfl ?_
  obtain ⟨hk, hk2, h⟩ := h
  refine r_new (pc := 8) C nc_L_16 dL_law_8 hk hk2 (fun a6 q15 => ?_)
  refine r_heap (fun S7 eS7 => ?_)
  have h := h a6 q15 S7 eS7
  have g16 := gr_of_new eS7 q15
  have o_a6 := ob_of_new eS7
  have o_a1 := gr_ob g16 o_a1
  refine r_dup (pc := 11) C dL_law_11 rfl ?_
  obtain ⟨hk, hk2, h⟩ := h
  refine r_callIv (pc := 12) C (rest := [.ref a6]) (a := a6) [] yI_X11_init g_1159 (c_X11_init h) dL_law_12 rfl rfl (Nat.le_of_ble_eq_true rfl) ⟨by decide, by decide⟩ ⟨hk, hk2⟩ (fun S8 h g9 => ?_)
  have h := h g9
  have o_a1 := gr_ob g9 o_a1
  have o_a6 := gr_ob g9 o_a6
  refine r_astore_n (pc := 15) C dL_law_15 rfl (by decide) (lv' := [(2, .ref a6), (1, .ref a1), (0, .ref scb)]) rfl ?_
  refine r_iconst (pc := 16) C (v := (1 : Int32)) dL_law_16 (by decide) ?_
  obtain ⟨hk, hk2, h⟩ := h
  refine r_newa14 (pc := 17) C (N := 1) g_266 dL_law_17 (by decide) (by decide) (by decide) hk hk2 (fun a11 q13 => ?_)
  refine r_heap (fun S12 eS12 => ?_)
  have h := h a11 q13 S12 eS12
  have g14 := gr_of_new eS12 q13
  have o_a11 := ob_of_new eS12
  have o_a1 := gr_ob g14 o_a1
  have o_a6 := gr_ob g14 o_a6
  refine r_astore_n (pc := 19) C dL_law_19 rfl (by decide) (lv' := [(3, .ref a11), (2, .ref a6), (1, .ref a1), (0, .ref scb)]) rfl ?_
  refine r_iconst (pc := 20) C (v := (0 : Int32)) dL_law_20 (by decide) ?_
  refine r_istore (pc := 21) C dL_law_21 (by decide) (lv' := [(4, .int (0 : Int32)), (3, .ref a11), (2, .ref a6), (1, .ref a1), (0, .ref scb)]) rfl ?_
  exact r_sub [4, 3, 2, 1, 0] rfl (T_L_law_23 C E ht hn h)
